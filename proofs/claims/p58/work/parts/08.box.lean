def f_X0_isFull (S : wPS) (o1 : Nat) : Int32 := if (S.I o1 2) < (16 : Int32) then (0 : Int32) else (1 : Int32)
theorem f_X0_isFull_b (S : wPS) (o1 : Nat) : narrow .boolean (.int (f_X0_isFull S o1)) = .int (f_X0_isFull S o1) := by
  unfold f_X0_isFull; (repeat' split) <;> rfl
theorem hi_X0_isFull_X0 : ∀ w ∈ u_ws RX0 TX0 7, w ∈ wsX0_isFull := by decide +kernel
theorem hd_X0_isFull : yX0_isFull.cls = RX0 ∧ yX0_isFull.cls ≠ "java/lang/invoke/MethodHandle" ∧ yX0_isFull.cls ≠ "java/lang/invoke/VarHandle" ∧ (parseMethodDescriptor yX0_isFull.desc).map (fun d => d.parameters.length) = some 0 := by decide +kernel
set_option maxHeartbeats 4000000 in
set_option maxRecDepth 100000 in
theorem c_X0_isFull (l : Launch) {D : va_G} {cy : Nat → ClassId} {X : va_W} (S : wPS) (sz : Nat) (o1 : Nat) (h_o1 : isA S o1 0)  : Met l yX0_isFull wsX0_isFull ({ frames := 0, cells := 0, slots := 0, locals := 0 }) (va_Pc [.ref o1] (fun U => U.heap.size = sz ∧ WD D cy X (fun _ => True) S U ∧ NW U)) (va_Qi (fun r (_ : Unit) => r = f_X0_isFull S o1) (fun _ t => WD D cy X (va_A (X ++ PL cy S) sz) S t) (va_A (X ++ PL cy S) sz)) 0 0 (va_A (X ++ PL cy S) sz) := by
  refine Met.ofW (cc := cX0_isFull) (maxL := 1) (ret := (some .boolean)) (by decide) rfl ?_
  intro p e s m args below meth c s₁ B hml hv
  obtain ⟨rfl, hsz, ⟨hP, hK, hD0⟩, hN⟩ := hv
  have hx := B.exec
  have hb := B.bytes
  have hr := B.returns
  have hts := atoms_spec (ws := wsX0_isFull) B.pre
  have hown : s.vm.findClass RX0 = some m.cls := findClass_of_methodNamed (x := yX0_isFull) B.named
  have hlocks := B.notSynchronized
  subst hsz
  have hD := hD0.self (sz := s.heap.size)
  generalize hAe : va_A (X ++ PL cy S) s.heap.size = A at hD ⊢
  have hA : ∀ q : Nat, s.heap.size ≤ q → A q := fun q h => by rw [← hAe]; exact Or.inr h
  have hS : va_S A s.heap s.heap [] := va_S.rf
  have hl := lv_entry ([.ref o1]) (n := 1) (Nat.le_of_ble_eq_true rfl)
  rw [lg_entry_eq]
  generalize (lg_sl ([.ref o1]) ++ List.replicate (1 - (lg_sl ([.ref o1])).length) Slot.unset).toArray = ls at hl ⊢
  have hl : lv_has ls 1 [(0, .ref o1)] := hl
  refine lv_aload_n hx hb dX0_isFull_0 rfl (lv_at hl 0 rfl) ?_
  obtain ⟨k1, gk1, hk1⟩ := wGt (cy := cy) X S h_o1.1 h_o1.2.1
  refine va_get (D := D) (ci := 4) (v := .int (S.I o1 2)) (C := RX0) (T := TX0) (N := 7) hx hb hts hi_X0_isFull_X0 hown hK hP k1 hk1 rfl 2 (by decide) (hts (.fieldLink RX0 18 "Hobhouse$Box" "count" "I") (by decide +kernel)) (fun _ h9 => h9) rfl dX0_isFull_1 ?_
  refine lv_bipush (v := 16) hx hb dX0_isFull_4 (by decide +kernel) ?_
  refine lv_icmp_lt (tgt := 13) hx hb dX0_isFull_6 (by decide) (fun c2 => ?_) (fun c2 => ?_)
  · have c2i : (S.I o1 2).toInt < 16 := lt_v rfl rfl c2
    refine lv_iconst (v := 0) hx hb dX0_isFull_13 (by decide) ?_
    refine W.widen (k := 0) (n := 0) (Nat.le_of_ble_eq_true rfl) (Nat.le_of_ble_eq_true rfl) ?_
    exact W.zret (v := (0 : Int32)) hx hb hr (by rfl) (fun t ht hW9 => ⟨⟨(0 : Int32), (), rfl, (by show (0 : Int32) = f_X0_isFull S o1; unfold f_X0_isFull; rw [if_pos c2]), wd_end hP hK hD ht hW9.alike⟩, hS.F ht⟩) hS.2.2 dX0_isFull_14 hlocks
  · have c2i : 16 ≤ (S.I o1 2).toInt := nlt_v rfl rfl c2
    refine lv_iconst (v := 1) hx hb dX0_isFull_9 (by decide) ?_
    refine lv_goto (tgt := 14) hx hb dX0_isFull_10 (by decide) ?_
    refine W.widen (k := 0) (n := 0) (Nat.le_of_ble_eq_true rfl) (Nat.le_of_ble_eq_true rfl) ?_
    exact W.zret (v := (1 : Int32)) hx hb hr (by rfl) (fun t ht hW9 => ⟨⟨(1 : Int32), (), rfl, (by show (1 : Int32) = f_X0_isFull S o1; unfold f_X0_isFull; rw [if_neg c2]), wd_end hP hK hD ht hW9.alike⟩, hS.F ht⟩) hS.2.2 dX0_isFull_14 hlocks
def f_X0_hasFour (S : wPS) (o1 : Nat) : Int32 := if (S.I o1 2) < (4 : Int32) then (0 : Int32) else (1 : Int32)
theorem f_X0_hasFour_b (S : wPS) (o1 : Nat) : narrow .boolean (.int (f_X0_hasFour S o1)) = .int (f_X0_hasFour S o1) := by
  unfold f_X0_hasFour; (repeat' split) <;> rfl
theorem hi_X0_hasFour_X0 : ∀ w ∈ u_ws RX0 TX0 7, w ∈ wsX0_hasFour := by decide +kernel
theorem hd_X0_hasFour : yX0_hasFour.cls = RX0 ∧ yX0_hasFour.cls ≠ "java/lang/invoke/MethodHandle" ∧ yX0_hasFour.cls ≠ "java/lang/invoke/VarHandle" ∧ (parseMethodDescriptor yX0_hasFour.desc).map (fun d => d.parameters.length) = some 0 := by decide +kernel
set_option maxHeartbeats 4000000 in
set_option maxRecDepth 100000 in
theorem c_X0_hasFour (l : Launch) {D : va_G} {cy : Nat → ClassId} {X : va_W} (S : wPS) (sz : Nat) (o1 : Nat) (h_o1 : isA S o1 0)  : Met l yX0_hasFour wsX0_hasFour ({ frames := 0, cells := 0, slots := 0, locals := 0 }) (va_Pc [.ref o1] (fun U => U.heap.size = sz ∧ WD D cy X (fun _ => True) S U ∧ NW U)) (va_Qi (fun r (_ : Unit) => r = f_X0_hasFour S o1) (fun _ t => WD D cy X (va_A (X ++ PL cy S) sz) S t) (va_A (X ++ PL cy S) sz)) 0 0 (va_A (X ++ PL cy S) sz) := by
  refine Met.ofW (cc := cX0_hasFour) (maxL := 1) (ret := (some .boolean)) (by decide) rfl ?_
  intro p e s m args below meth c s₁ B hml hv
  obtain ⟨rfl, hsz, ⟨hP, hK, hD0⟩, hN⟩ := hv
  have hx := B.exec
  have hb := B.bytes
  have hr := B.returns
  have hts := atoms_spec (ws := wsX0_hasFour) B.pre
  have hown : s.vm.findClass RX0 = some m.cls := findClass_of_methodNamed (x := yX0_hasFour) B.named
  have hlocks := B.notSynchronized
  subst hsz
  have hD := hD0.self (sz := s.heap.size)
  generalize hAe : va_A (X ++ PL cy S) s.heap.size = A at hD ⊢
  have hA : ∀ q : Nat, s.heap.size ≤ q → A q := fun q h => by rw [← hAe]; exact Or.inr h
  have hS : va_S A s.heap s.heap [] := va_S.rf
  have hl := lv_entry ([.ref o1]) (n := 1) (Nat.le_of_ble_eq_true rfl)
  rw [lg_entry_eq]
  generalize (lg_sl ([.ref o1]) ++ List.replicate (1 - (lg_sl ([.ref o1])).length) Slot.unset).toArray = ls at hl ⊢
  have hl : lv_has ls 1 [(0, .ref o1)] := hl
  refine lv_aload_n hx hb dX0_hasFour_0 rfl (lv_at hl 0 rfl) ?_
  obtain ⟨k1, gk1, hk1⟩ := wGt (cy := cy) X S h_o1.1 h_o1.2.1
  refine va_get (D := D) (ci := 4) (v := .int (S.I o1 2)) (C := RX0) (T := TX0) (N := 7) hx hb hts hi_X0_hasFour_X0 hown hK hP k1 hk1 rfl 2 (by decide) (hts (.fieldLink RX0 18 "Hobhouse$Box" "count" "I") (by decide +kernel)) (fun _ h9 => h9) rfl dX0_hasFour_1 ?_
  refine lv_iconst (v := 4) hx hb dX0_hasFour_4 (by decide) ?_
  refine lv_icmp_lt (tgt := 12) hx hb dX0_hasFour_5 (by decide) (fun c2 => ?_) (fun c2 => ?_)
  · have c2i : (S.I o1 2).toInt < 4 := lt_v rfl rfl c2
    refine lv_iconst (v := 0) hx hb dX0_hasFour_12 (by decide) ?_
    refine W.widen (k := 0) (n := 0) (Nat.le_of_ble_eq_true rfl) (Nat.le_of_ble_eq_true rfl) ?_
    exact W.zret (v := (0 : Int32)) hx hb hr (by rfl) (fun t ht hW9 => ⟨⟨(0 : Int32), (), rfl, (by show (0 : Int32) = f_X0_hasFour S o1; unfold f_X0_hasFour; rw [if_pos c2]), wd_end hP hK hD ht hW9.alike⟩, hS.F ht⟩) hS.2.2 dX0_hasFour_13 hlocks
  · have c2i : 4 ≤ (S.I o1 2).toInt := nlt_v rfl rfl c2
    refine lv_iconst (v := 1) hx hb dX0_hasFour_8 (by decide) ?_
    refine lv_goto (tgt := 13) hx hb dX0_hasFour_9 (by decide) ?_
    refine W.widen (k := 0) (n := 0) (Nat.le_of_ble_eq_true rfl) (Nat.le_of_ble_eq_true rfl) ?_
    exact W.zret (v := (1 : Int32)) hx hb hr (by rfl) (fun t ht hW9 => ⟨⟨(1 : Int32), (), rfl, (by show (1 : Int32) = f_X0_hasFour S o1; unfold f_X0_hasFour; rw [if_neg c2]), wd_end hP hK hD ht hW9.alike⟩, hS.F ht⟩) hS.2.2 dX0_hasFour_13 hlocks
def f_X0_isMet (S : wPS) (o1 : Nat) (x1 : Int32) : Int32 := if (0 : Int32) < (lg_cmp ((1000000 : Int64) * (S.J o1 5)) ((x1.toInt64 * (S.J o1 3)) * (S.J o1 6))) then (0 : Int32) else (1 : Int32)
theorem f_X0_isMet_b (S : wPS) (o1 : Nat) (x1 : Int32) : narrow .boolean (.int (f_X0_isMet S o1 x1)) = .int (f_X0_isMet S o1 x1) := by
  unfold f_X0_isMet; (repeat' split) <;> rfl
theorem hi_X0_isMet_X0 : ∀ w ∈ u_ws RX0 TX0 7, w ∈ wsX0_isMet := by decide +kernel
theorem hd_X0_isMet : yX0_isMet.cls = RX0 ∧ yX0_isMet.cls ≠ "java/lang/invoke/MethodHandle" ∧ yX0_isMet.cls ≠ "java/lang/invoke/VarHandle" ∧ (parseMethodDescriptor yX0_isMet.desc).map (fun d => d.parameters.length) = some 1 := by decide +kernel
set_option maxHeartbeats 4000000 in
set_option maxRecDepth 100000 in
theorem c_X0_isMet (l : Launch) {D : va_G} {cy : Nat → ClassId} {X : va_W} (S : wPS) (sz : Nat) (o1 : Nat) (h_o1 : isA S o1 0) (x1 : Int32)  : Met l yX0_isMet wsX0_isMet ({ frames := 0, cells := 0, slots := 0, locals := 0 }) (va_Pc [.ref o1, .int x1] (fun U => U.heap.size = sz ∧ WD D cy X (fun _ => True) S U ∧ NW U)) (va_Qi (fun r (_ : Unit) => r = f_X0_isMet S o1 x1) (fun _ t => WD D cy X (va_A (X ++ PL cy S) sz) S t) (va_A (X ++ PL cy S) sz)) 0 0 (va_A (X ++ PL cy S) sz) := by
  refine Met.ofW (cc := cX0_isMet) (maxL := 2) (ret := (some .boolean)) (by decide) rfl ?_
  intro p e s m args below meth c s₁ B hml hv
  obtain ⟨rfl, hsz, ⟨hP, hK, hD0⟩, hN⟩ := hv
  have hx := B.exec
  have hb := B.bytes
  have hr := B.returns
  have hts := atoms_spec (ws := wsX0_isMet) B.pre
  have hown : s.vm.findClass RX0 = some m.cls := findClass_of_methodNamed (x := yX0_isMet) B.named
  have hlocks := B.notSynchronized
  subst hsz
  have hD := hD0.self (sz := s.heap.size)
  generalize hAe : va_A (X ++ PL cy S) s.heap.size = A at hD ⊢
  have hA : ∀ q : Nat, s.heap.size ≤ q → A q := fun q h => by rw [← hAe]; exact Or.inr h
  have hS : va_S A s.heap s.heap [] := va_S.rf
  have hl := lv_entry ([.ref o1, .int x1]) (n := 2) (Nat.le_of_ble_eq_true rfl)
  rw [lg_entry_eq]
  generalize (lg_sl ([.ref o1, .int x1]) ++ List.replicate (2 - (lg_sl ([.ref o1, .int x1])).length) Slot.unset).toArray = ls at hl ⊢
  have hl : lv_has ls 2 [(0, .ref o1), (1, .int x1)] := hl
  refine lv_ldc2 (own := RX0) (v := 1000000) hx hb hown (hts (.constantLong RX0 51 (1000000)) (by decide +kernel)) dX0_isMet_0 ?_
  refine lv_aload_n hx hb dX0_isMet_3 rfl (lv_at hl 0 rfl) ?_
  obtain ⟨k1, gk1, hk1⟩ := wGt (cy := cy) X S h_o1.1 h_o1.2.1
  refine va_get (D := D) (ci := 4) (v := .long (S.J o1 5)) (C := RX0) (T := TX0) (N := 7) hx hb hts hi_X0_isMet_X0 hown hK hP k1 hk1 rfl 5 (by decide) (hts (.fieldLink RX0 31 "Hobhouse$Box" "leastError" "J") (by decide +kernel)) (fun _ h9 => h9) rfl dX0_isMet_4 ?_
  refine lv_lmul hx hb dX0_isMet_7 ?_
  refine lv_iload_n hx hb dX0_isMet_8 rfl (lv_at hl 1 rfl) ?_
  refine lv_i2l hx hb dX0_isMet_9 rfl ?_
  refine lv_aload_n hx hb dX0_isMet_10 rfl (lv_at hl 0 rfl) ?_
  obtain ⟨k2, gk2, hk2⟩ := wGt (cy := cy) X S h_o1.1 h_o1.2.1
  refine va_get (D := D) (ci := 4) (v := .long (S.J o1 3)) (C := RX0) (T := TX0) (N := 7) hx hb hts hi_X0_isMet_X0 hown hK hP k2 hk2 rfl 3 (by decide) (hts (.fieldLink RX0 22 "Hobhouse$Box" "ratioUp" "J") (by decide +kernel)) (fun _ h9 => h9) rfl dX0_isMet_11 ?_
  refine lv_lmul hx hb dX0_isMet_14 ?_
  refine lv_aload_n hx hb dX0_isMet_15 rfl (lv_at hl 0 rfl) ?_
  obtain ⟨k3, gk3, hk3⟩ := wGt (cy := cy) X S h_o1.1 h_o1.2.1
  refine va_get (D := D) (ci := 4) (v := .long (S.J o1 6)) (C := RX0) (T := TX0) (N := 7) hx hb hts hi_X0_isMet_X0 hown hK hP k3 hk3 rfl 6 (by decide) (hts (.fieldLink RX0 34 "Hobhouse$Box" "leastBase" "J") (by decide +kernel)) (fun _ h9 => h9) rfl dX0_isMet_16 ?_
  refine lv_lmul hx hb dX0_isMet_19 ?_
  refine W.lcmp hx hb dX0_isMet_20 ?_
  refine lv_if_gt (tgt := 28) hx hb dX0_isMet_21 (by decide) (fun c4 => ?_) (fun c4 => ?_)
  · refine lv_iconst (v := 0) hx hb dX0_isMet_28 (by decide) ?_
    refine W.widen (k := 0) (n := 0) (Nat.le_of_ble_eq_true rfl) (Nat.le_of_ble_eq_true rfl) ?_
    exact W.zret (v := (0 : Int32)) hx hb hr (by rfl) (fun t ht hW9 => ⟨⟨(0 : Int32), (), rfl, (by show (0 : Int32) = f_X0_isMet S o1 x1; unfold f_X0_isMet; rw [if_pos c4]), wd_end hP hK hD ht hW9.alike⟩, hS.F ht⟩) hS.2.2 dX0_isMet_29 hlocks
  · refine lv_iconst (v := 1) hx hb dX0_isMet_24 (by decide) ?_
    refine lv_goto (tgt := 29) hx hb dX0_isMet_25 (by decide) ?_
    refine W.widen (k := 0) (n := 0) (Nat.le_of_ble_eq_true rfl) (Nat.le_of_ble_eq_true rfl) ?_
    exact W.zret (v := (1 : Int32)) hx hb hr (by rfl) (fun t ht hW9 => ⟨⟨(1 : Int32), (), rfl, (by show (1 : Int32) = f_X0_isMet S o1 x1; unfold f_X0_isMet; rw [if_neg c4]), wd_end hP hK hD ht hW9.alike⟩, hS.F ht⟩) hS.2.2 dX0_isMet_29 hlocks
def f_X0_bestWheel (S : wPS) (o1 : Nat) (x1 : Int32) : Int32 := if x1 < (0 : Int32) then (0 : Int32) else if (4 : Int32) ≤ x1 then (0 : Int32) else S.i (S.f o1 1) x1.toNatClampNeg
theorem hi_X0_bestWheel_X0 : ∀ w ∈ u_ws RX0 TX0 7, w ∈ wsX0_bestWheel := by decide +kernel
theorem hd_X0_bestWheel : yX0_bestWheel.cls = RX0 ∧ yX0_bestWheel.cls ≠ "java/lang/invoke/MethodHandle" ∧ yX0_bestWheel.cls ≠ "java/lang/invoke/VarHandle" ∧ (parseMethodDescriptor yX0_bestWheel.desc).map (fun d => d.parameters.length) = some 1 := by decide +kernel
set_option maxHeartbeats 4000000 in
set_option maxRecDepth 100000 in
theorem c_X0_bestWheel (l : Launch) {D : va_G} {cy : Nat → ClassId} {X : va_W} (S : wPS) (sz : Nat) (o1 : Nat) (h_o1 : isA S o1 0) (x1 : Int32) (hW : wtB S [])  : Met l yX0_bestWheel wsX0_bestWheel ({ frames := 0, cells := 0, slots := 0, locals := 0 }) (va_Pc [.ref o1, .int x1] (fun U => U.heap.size = sz ∧ WD D cy X (fun _ => True) S U ∧ NW U)) (va_Qi (fun r (_ : Unit) => r = f_X0_bestWheel S o1 x1) (fun _ t => WD D cy X (va_A (X ++ PL cy S) sz) S t) (va_A (X ++ PL cy S) sz)) 0 0 (va_A (X ++ PL cy S) sz) := by
  refine Met.ofW (cc := cX0_bestWheel) (maxL := 2) (ret := (some .int)) (by decide) rfl ?_
  intro p e s m args below meth c s₁ B hml hv
  obtain ⟨rfl, hsz, ⟨hP, hK, hD0⟩, hN⟩ := hv
  have hx := B.exec
  have hb := B.bytes
  have hr := B.returns
  have hts := atoms_spec (ws := wsX0_bestWheel) B.pre
  have hown : s.vm.findClass RX0 = some m.cls := findClass_of_methodNamed (x := yX0_bestWheel) B.named
  have hlocks := B.notSynchronized
  subst hsz
  have hD := hD0.self (sz := s.heap.size)
  generalize hAe : va_A (X ++ PL cy S) s.heap.size = A at hD ⊢
  have hA : ∀ q : Nat, s.heap.size ≤ q → A q := fun q h => by rw [← hAe]; exact Or.inr h
  have hS : va_S A s.heap s.heap [] := va_S.rf
  have hl := lv_entry ([.ref o1, .int x1]) (n := 2) (Nat.le_of_ble_eq_true rfl)
  rw [lg_entry_eq]
  generalize (lg_sl ([.ref o1, .int x1]) ++ List.replicate (2 - (lg_sl ([.ref o1, .int x1])).length) Slot.unset).toArray = ls at hl ⊢
  have hl : lv_has ls 2 [(0, .ref o1), (1, .int x1)] := hl
  refine lv_iload_n hx hb dX0_bestWheel_0 rfl (lv_at hl 1 rfl) ?_
  refine lv_if_lt (tgt := 22) hx hb dX0_bestWheel_1 (by decide) (fun c1 => ?_) (fun c1 => ?_)
  · have c1i : x1.toInt < 0 := lt_v rfl rfl c1
    refine lv_iconst (v := 0) hx hb dX0_bestWheel_22 (by decide) ?_
    refine W.widen (k := 0) (n := 0) (Nat.le_of_ble_eq_true rfl) (Nat.le_of_ble_eq_true rfl) ?_
    exact W.iret (v := (0 : Int32)) hx hb hr (fun t ht hW9 => ⟨⟨(0 : Int32), (), rfl, (by show (0 : Int32) = f_X0_bestWheel S o1 x1; unfold f_X0_bestWheel; rw [if_pos c1]), wd_end hP hK hD ht hW9.alike⟩, hS.F ht⟩) hS.2.2 dX0_bestWheel_23 hlocks
  · have c1i : 0 ≤ x1.toInt := nlt_v rfl rfl c1
    refine lv_iload_n hx hb dX0_bestWheel_4 rfl (lv_at hl 1 rfl) ?_
    refine lv_aload_n hx hb dX0_bestWheel_5 rfl (lv_at hl 0 rfl) ?_
    have F2 := ((hW.at h_o1 List.not_mem_nil).to_0 h_o1.2.1).F1
    obtain ⟨k3, gk3, hk3⟩ := wGt (cy := cy) X S h_o1.1 h_o1.2.1
    simp only [kE, F2.1] at hk3
    refine va_get (D := D) (ci := 4) (v := .ref (S.f o1 1)) (C := RX0) (T := TX0) (N := 7) hx hb hts hi_X0_bestWheel_X0 hown hK hP k3 hk3 rfl 1 (by decide) (hts (.fieldLink RX0 15 "Hobhouse$Box" "best" "[I") (by decide +kernel)) (fun _ h9 => h9) rfl dX0_bestWheel_6 ?_
    obtain ⟨k4, gk4, hk4⟩ := wGt (cy := cy) X S F2.2.1.1 F2.2.1.2.1
    refine va_alen (D := D) (cl := vwCl) (tys := tyL cy) hx hb hK hP k4 2 hk4 rfl (v := (4 : Int32)) (by rw [F2.2.2]; rfl) dX0_bestWheel_9 ?_
    refine lv_icmp_ge (tgt := 22) hx hb dX0_bestWheel_10 (by decide) (fun c5 => ?_) (fun c5 => ?_)
    · have c5i : 4 ≤ x1.toInt := le_v rfl rfl c5
      refine lv_iconst (v := 0) hx hb dX0_bestWheel_22 (by decide) ?_
      refine W.widen (k := 0) (n := 0) (Nat.le_of_ble_eq_true rfl) (Nat.le_of_ble_eq_true rfl) ?_
      exact W.iret (v := (0 : Int32)) hx hb hr (fun t ht hW9 => ⟨⟨(0 : Int32), (), rfl, (by show (0 : Int32) = f_X0_bestWheel S o1 x1; unfold f_X0_bestWheel; rw [if_neg c1, if_pos c5]), wd_end hP hK hD ht hW9.alike⟩, hS.F ht⟩) hS.2.2 dX0_bestWheel_23 hlocks
    · have c5i : x1.toInt < 4 := nle_v rfl rfl c5
      refine lv_aload_n hx hb dX0_bestWheel_13 rfl (lv_at hl 0 rfl) ?_
      obtain ⟨k6, gk6, hk6⟩ := wGt (cy := cy) X S h_o1.1 h_o1.2.1
      simp only [kE, F2.1] at hk6
      refine va_get (D := D) (ci := 4) (v := .ref (S.f o1 1)) (C := RX0) (T := TX0) (N := 7) hx hb hts hi_X0_bestWheel_X0 hown hK hP k6 hk6 rfl 1 (by decide) (hts (.fieldLink RX0 15 "Hobhouse$Box" "best" "[I") (by decide +kernel)) (fun _ h9 => h9) rfl dX0_bestWheel_14 ?_
      refine lv_iload_n hx hb dX0_bestWheel_17 rfl (lv_at hl 1 rfl) ?_
      obtain ⟨k7, gk7, hk7⟩ := wGt (cy := cy) X S F2.2.1.1 F2.2.1.2.1
      refine va_iald hx hb hK hP k7 2 hk7 rfl (inb (m := 4) F2.2.2 (by omega) (by omega)) dX0_bestWheel_18 ?_
      refine lv_goto (tgt := 23) hx hb dX0_bestWheel_19 (by decide) ?_
      refine W.widen (k := 0) (n := 0) (Nat.le_of_ble_eq_true rfl) (Nat.le_of_ble_eq_true rfl) ?_
      exact W.iret (v := S.i (S.f o1 1) x1.toNatClampNeg) hx hb hr (fun t ht hW9 => ⟨⟨S.i (S.f o1 1) x1.toNatClampNeg, (), rfl, (by show (S.i (S.f o1 1) x1.toNatClampNeg) = f_X0_bestWheel S o1 x1; unfold f_X0_bestWheel; rw [if_neg c1, if_neg c5]), wd_end hP hK hD ht hW9.alike⟩, hS.F ht⟩) hS.2.2 dX0_bestWheel_23 hlocks
def f_X0_put_L14 (S : wPS) (o1 : Nat) (x1 : Int32) : Nat → wPS → Int32 → wPS × Int32
  | 0, S14_, w14_2 => (S14_, w14_2)
  | n + 1, S14_, w14_2 => if w14_2 ≤ (0 : Int32) then (S14_, w14_2) else if (S14_.i (S.f o1 0) (w14_2 - (1 : Int32)).toNatClampNeg) ≤ x1 then (S14_, w14_2) else l1 (S14_.si (S.f o1 0) (upd (S14_.i (S.f o1 0)) w14_2.toNatClampNeg (S14_.i (S.f o1 0) (w14_2 - (1 : Int32)).toNatClampNeg))) (fun S16 => l1 (w14_2 + (-1 : Int32)) (fun v20 => f_X0_put_L14 S o1 x1 n S16 v20))
theorem f_X0_put_L14_s (S : wPS) (o1 : Nat) (x1 : Int32) (n : Nat) (S14_ : wPS) (w14_2 : Int32) : f_X0_put_L14 S o1 x1 (n + 1) S14_ w14_2 = if w14_2 ≤ (0 : Int32) then (S14_, w14_2) else if (S14_.i (S.f o1 0) (w14_2 - (1 : Int32)).toNatClampNeg) ≤ x1 then (S14_, w14_2) else l1 (S14_.si (S.f o1 0) (upd (S14_.i (S.f o1 0)) w14_2.toNatClampNeg (S14_.i (S.f o1 0) (w14_2 - (1 : Int32)).toNatClampNeg))) (fun S16 => l1 (w14_2 + (-1 : Int32)) (fun v20 => f_X0_put_L14 S o1 x1 n S16 v20)) := rfl
def f_X0_put (S : wPS) (o1 : Nat) (x1 : Int32) : (Int32 × wPS) := if (16 : Int32) ≤ (S.I o1 2) then (S.I o1 2, S) else l2 (f_X0_put_L14 S o1 x1 17 S (S.I o1 2)) (fun S22 z23 => l1 (S22.si (S.f o1 0) (upd (S22.i (S.f o1 0)) z23.toNatClampNeg x1)) (fun S28 => l1 (S28.sI o1 2 ((S28.I o1 2) + (1 : Int32))) (fun S36 => (S36.I o1 2, S36))))
theorem hi_X0_put_X0 : ∀ w ∈ u_ws RX0 TX0 7, w ∈ wsX0_put := by decide +kernel
theorem hd_X0_put : yX0_put.cls = RX0 ∧ yX0_put.cls ≠ "java/lang/invoke/MethodHandle" ∧ yX0_put.cls ≠ "java/lang/invoke/VarHandle" ∧ (parseMethodDescriptor yX0_put.desc).map (fun d => d.parameters.length) = some 1 := by decide +kernel
set_option maxHeartbeats 4000000 in
set_option maxRecDepth 100000 in
theorem c_X0_put (l : Launch) {D : va_G} {cy : Nat → ClassId} {X : va_W} (S : wPS) (sz : Nat) (o1 : Nat) (h_o1 : isA S o1 0) (x1 : Int32) (hW : wtB S []) (hc : (S.I o1 2).toInt < 16) : Met l yX0_put wsX0_put ({ frames := 0, cells := 0, slots := 0, locals := 0 }) (va_Pc [.ref o1, .int x1] (fun U => U.heap.size = sz ∧ WD D cy X (fun _ => True) S U ∧ NW U)) (va_Qi (fun r (u : wPS) => (r, u) = f_X0_put S o1 x1 ∧ stp [(0, 2), (27, 100)] [] [] S u ∧ r.toInt = (S.I o1 2).toInt + 1 ∧ (u.I o1 2).toInt = (S.I o1 2).toInt + 1) (fun u t => WD D cy X (va_A (X ++ PL cy S) sz) u t) (va_A (X ++ PL cy S) sz)) 0 0 (va_A (X ++ PL cy S) sz) := by
  refine Met.ofW (cc := cX0_put) (maxL := 3) (ret := (some .int)) (by decide) rfl ?_
  intro p e s m args below meth c s₁ B hml hv
  obtain ⟨rfl, hsz, ⟨hP, hK, hD0⟩, hN⟩ := hv
  have hx := B.exec
  have hb := B.bytes
  have hr := B.returns
  have hts := atoms_spec (ws := wsX0_put) B.pre
  have hown : s.vm.findClass RX0 = some m.cls := findClass_of_methodNamed (x := yX0_put) B.named
  have hlocks := B.notSynchronized
  subst hsz
  have hD := hD0.self (sz := s.heap.size)
  generalize hAe : va_A (X ++ PL cy S) s.heap.size = A at hD ⊢
  have hA : ∀ q : Nat, s.heap.size ≤ q → A q := fun q h => by rw [← hAe]; exact Or.inr h
  have hS : va_S A s.heap s.heap [] := va_S.rf
  have hl := lv_entry ([.ref o1, .int x1]) (n := 3) (Nat.le_of_ble_eq_true rfl)
  rw [lg_entry_eq]
  generalize (lg_sl ([.ref o1, .int x1]) ++ List.replicate (3 - (lg_sl ([.ref o1, .int x1])).length) Slot.unset).toArray = ls at hl ⊢
  have hl : lv_has ls 3 [(0, .ref o1), (1, .int x1)] := hl
  have t0 : stp [(0, 2), (27, 100)] [] [] S S := stp.rf hW
  refine lv_aload_n hx hb dX0_put_0 rfl (lv_at hl 0 rfl) ?_
  obtain ⟨k1, gk1, hk1⟩ := wGt (cy := cy) X S h_o1.1 h_o1.2.1
  have i2 := ((hW.at h_o1 List.not_mem_nil).to_0 h_o1.2.1).R2
  refine va_get (D := D) (ci := 4) (v := .int (S.I o1 2)) (C := RX0) (T := TX0) (N := 7) hx hb hts hi_X0_put_X0 hown hK hP k1 hk1 rfl 2 (by decide) (hts (.fieldLink RX0 18 "Hobhouse$Box" "count" "I") (by decide +kernel)) (fun _ h9 => h9) rfl dX0_put_1 ?_
  refine lv_bipush (v := 16) hx hb dX0_put_4 (by decide +kernel) ?_
  refine lv_icmp_ge (tgt := 67) hx hb dX0_put_6 (by decide) (fun c3 => ?_) (fun c3 => ?_)
  · have c3i : 16 ≤ (S.I o1 2).toInt := le_v rfl rfl c3
    refine lv_aload_n hx hb dX0_put_67 rfl (lv_at hl 0 rfl) ?_
    obtain ⟨k4, gk4, hk4⟩ := wGt (cy := cy) X S h_o1.1 h_o1.2.1
    refine va_get (D := D) (ci := 4) (v := .int (S.I o1 2)) (C := RX0) (T := TX0) (N := 7) hx hb hts hi_X0_put_X0 hown hK hP k4 hk4 rfl 2 (by decide) (hts (.fieldLink RX0 18 "Hobhouse$Box" "count" "I") (by decide +kernel)) (fun _ h9 => h9) rfl dX0_put_68 ?_
    refine W.widen (k := 0) (n := 0) (Nat.le_of_ble_eq_true rfl) (Nat.le_of_ble_eq_true rfl) ?_
    exact W.iret (v := S.I o1 2) hx hb hr (fun t ht hW9 => ⟨⟨S.I o1 2, S, rfl, ⟨(by show (S.I o1 2, S) = f_X0_put S o1 x1; unfold f_X0_put; rw [if_pos c3]), t0, (by omega), (by omega)⟩, wd_end hP hK hD ht hW9.alike⟩, hS.F ht⟩) hS.2.2 dX0_put_71 hlocks
  · have c3i : (S.I o1 2).toInt < 16 := nle_v rfl rfl c3
    refine lv_aload_n hx hb dX0_put_9 rfl (lv_at hl 0 rfl) ?_
    obtain ⟨k5, gk5, hk5⟩ := wGt (cy := cy) X S h_o1.1 h_o1.2.1
    refine va_get (D := D) (ci := 4) (v := .int (S.I o1 2)) (C := RX0) (T := TX0) (N := 7) hx hb hts hi_X0_put_X0 hown hK hP k5 hk5 rfl 2 (by decide) (hts (.fieldLink RX0 18 "Hobhouse$Box" "count" "I") (by decide +kernel)) (fun _ h9 => h9) rfl dX0_put_10 ?_
    refine lv_istore_n (lv' := [(2, .int (S.I o1 2)), (0, .ref o1), (1, .int x1)]) hx hb dX0_put_13 rfl hl (by decide) rfl (fun ls hl => ?_)
    have loop14 : ∀ (n : Nat) (S14_ : wPS) (w14_2 : Int32) (H : Heap) (locs : List Loc) (ls : Array Slot), w14_2.toInt.toNat < n → 0 ≤ w14_2.toInt ∧ w14_2.toInt < 16 ∧ (S14_.I o1 2).toInt = (S.I o1 2).toInt → stp [(0, 2), (27, 100)] [] [] S S14_ → va_P D vwCl (X ++ PL cy S14_) H → va_D A (X ++ PL cy S14_) → va_S A s.heap H locs → lv_has ls 3 [(2, .int w14_2), (0, .ref o1), (1, .int x1)] → (∀ (S14_x : wPS) (w14_2x : Int32) (H : Heap) (locs : List Loc) (ls : Array Slot), 0 ≤ w14_2x.toInt ∧ w14_2x.toInt < 16 ∧ (S14_x.I o1 2).toInt = (S.I o1 2).toInt → stp [(0, 2), (27, 100)] [] [] S S14_x → va_P D vwCl (X ++ PL cy S14_x) H → va_D A (X ++ PL cy S14_x) → va_S A s.heap H locs → lv_has ls 3 [(2, .int w14_2x), (0, .ref o1), (1, .int x1)] → f_X0_put_L14 S o1 x1 n S14_ w14_2 = (S14_x, w14_2x) → W p l e (headSpec wsX0_put ({ frames := 0, cells := 0, slots := 0, locals := 0 } : Room)).room s m [.ref o1, .int x1].toArray below meth c H locs 0 0 (MQ below (va_Qi (fun r (u : wPS) => (r, u) = f_X0_put S o1 x1 ∧ stp [(0, 2), (27, 100)] [] [] S u ∧ r.toInt = (S.I o1 2).toInt + 1 ∧ (u.I o1 2).toInt = (S.I o1 2).toInt + 1) (fun u t => WD D cy X A u t) A) [.ref o1, .int x1].toArray s 0 0 A) (F0 m 50 ls [])) → W p l e (headSpec wsX0_put ({ frames := 0, cells := 0, slots := 0, locals := 0 } : Room)).room s m [.ref o1, .int x1].toArray below meth c H locs 0 0 (MQ below (va_Qi (fun r (u : wPS) => (r, u) = f_X0_put S o1 x1 ∧ stp [(0, 2), (27, 100)] [] [] S u ∧ r.toInt = (S.I o1 2).toInt + 1 ∧ (u.I o1 2).toInt = (S.I o1 2).toInt + 1) (fun u t => WD D cy X A u t) A) [.ref o1, .int x1].toArray s 0 0 A) (F0 m 14 ls []) := by
      intro n14
      induction n14 with
      | zero => intro S14_ w14_2 H locs ls hm; exact absurd hm (Nat.not_lt_zero _)
      | succ n14 ih14 =>
        intro S14_ w14_2 H locs ls hm14 hi14 hsh14 hP hD hS hl ko14
        refine lv_iload_n hx hb dX0_put_14 rfl (lv_at hl 0 rfl) ?_
        refine lv_if_le (tgt := 50) hx hb dX0_put_15 (by decide) (fun c6 => ?_) (fun c6 => ?_)
        · have c6i : w14_2.toInt ≤ 0 := le_v rfl rfl c6
          exact ko14 S14_ w14_2 _ _ _ (by omega) hsh14 hP hD hS (lv_sub hl [0, 1, 2] rfl) (by rw [f_X0_put_L14_s, if_pos c6])
        · have c6i : 0 < w14_2.toInt := nle_v rfl rfl c6
          refine lv_aload_n hx hb dX0_put_18 rfl (lv_at hl 1 rfl) ?_
          have F7 := ((hW.at h_o1 List.not_mem_nil).to_0 h_o1.2.1).F0
          obtain ⟨k8, gk8, hk8⟩ := wGt (cy := cy) X S14_ (hsh14.x.A h_o1).1 (hsh14.x.A h_o1).2.1
          simp only [kE, (hsh14.x.F h_o1 (by decide) F7.1)] at hk8
          refine va_get (D := D) (ci := 4) (v := .ref (S.f o1 0)) (C := RX0) (T := TX0) (N := 7) hx hb hts hi_X0_put_X0 hown hK hP k8 hk8 rfl 0 (by decide) (hts (.fieldLink RX0 9 "Hobhouse$Box" "wheels" "[I") (by decide +kernel)) (fun _ h9 => h9) rfl dX0_put_19 ?_
          refine lv_iload_n hx hb dX0_put_22 rfl (lv_at hl 0 rfl) ?_
          refine lv_iconst (v := 1) hx hb dX0_put_23 (by decide) ?_
          refine lv_isub hx hb dX0_put_24 ?_
          have l32_1 : (1 : Int32).toInt = 1 := rfl
          have i9 : (w14_2 - (1 : Int32)).toInt = w14_2.toInt - 1 := t_subr (n := 1) rfl (by omega)
          obtain ⟨k10, gk10, hk10⟩ := wGt (cy := cy) X S14_ (hsh14.x.A F7.2.1).1 (hsh14.x.A F7.2.1).2.1
          refine va_iald hx hb hK hP k10 2 hk10 rfl (inb (m := 16) ((hsh14.x.n F7.2.1).trans F7.2.2) (by omega) (by omega)) dX0_put_25 ?_
          refine lv_iload_n hx hb dX0_put_26 rfl (lv_at hl 2 rfl) ?_
          refine lv_icmp_le (tgt := 50) hx hb dX0_put_27 (by decide) (fun c11 => ?_) (fun c11 => ?_)
          · have c11i : (S14_.i (S.f o1 0) (w14_2 - (1 : Int32)).toNatClampNeg).toInt ≤ x1.toInt := le_v rfl rfl c11
            exact ko14 S14_ w14_2 _ _ _ (by omega) hsh14 hP hD hS (lv_sub hl [0, 1, 2] rfl) (by rw [f_X0_put_L14_s, if_neg c6, if_pos c11])
          · have c11i : x1.toInt < (S14_.i (S.f o1 0) (w14_2 - (1 : Int32)).toNatClampNeg).toInt := nle_v rfl rfl c11
            refine lv_aload_n hx hb dX0_put_30 rfl (lv_at hl 1 rfl) ?_
            obtain ⟨k12, gk12, hk12⟩ := wGt (cy := cy) X S14_ (hsh14.x.A h_o1).1 (hsh14.x.A h_o1).2.1
            simp only [kE, (hsh14.x.F h_o1 (by decide) F7.1)] at hk12
            refine va_get (D := D) (ci := 4) (v := .ref (S.f o1 0)) (C := RX0) (T := TX0) (N := 7) hx hb hts hi_X0_put_X0 hown hK hP k12 hk12 rfl 0 (by decide) (hts (.fieldLink RX0 9 "Hobhouse$Box" "wheels" "[I") (by decide +kernel)) (fun _ h9 => h9) rfl dX0_put_31 ?_
            refine lv_iload_n hx hb dX0_put_34 rfl (lv_at hl 0 rfl) ?_
            refine lv_aload_n hx hb dX0_put_35 rfl (lv_at hl 1 rfl) ?_
            obtain ⟨k13, gk13, hk13⟩ := wGt (cy := cy) X S14_ (hsh14.x.A h_o1).1 (hsh14.x.A h_o1).2.1
            simp only [kE, (hsh14.x.F h_o1 (by decide) F7.1)] at hk13
            refine va_get (D := D) (ci := 4) (v := .ref (S.f o1 0)) (C := RX0) (T := TX0) (N := 7) hx hb hts hi_X0_put_X0 hown hK hP k13 hk13 rfl 0 (by decide) (hts (.fieldLink RX0 9 "Hobhouse$Box" "wheels" "[I") (by decide +kernel)) (fun _ h9 => h9) rfl dX0_put_36 ?_
            refine lv_iload_n hx hb dX0_put_39 rfl (lv_at hl 0 rfl) ?_
            refine lv_iconst (v := 1) hx hb dX0_put_40 (by decide) ?_
            refine lv_isub hx hb dX0_put_41 ?_
            obtain ⟨k14, gk14, hk14⟩ := wGt (cy := cy) X S14_ (hsh14.x.A F7.2.1).1 (hsh14.x.A F7.2.1).2.1
            refine va_iald hx hb hK hP k14 2 hk14 rfl (inb (m := 16) ((hsh14.x.n F7.2.1).trans F7.2.2) (by omega) (by omega)) dX0_put_42 ?_
            obtain ⟨k15, gk15, hk15⟩ := wGt (cy := cy) X S14_ (hsh14.x.A F7.2.1).1 (hsh14.x.A F7.2.1).2.1
            refine va_iast hx hb hK hP hD hS k15 2 hk15 rfl (inb (m := 16) ((hsh14.x.n F7.2.1).trans F7.2.2) (by omega) (by omega)) dX0_put_43 (fun H locs hP2 hD2 hS => ?_)
            have e9 := wPui (cy := cy) (f := (upd (S14_.i (S.f o1 0)) w14_2.toNatClampNeg (S14_.i (S.f o1 0) (w14_2 - (1 : Int32)).toNatClampNeg))) hD (hsh14.x.A F7.2.1).1 (hsh14.x.A F7.2.1).2.1 gk15 rfl
            obtain ⟨S16, hS16⟩ : ∃ z, S14_.si (S.f o1 0) (upd (S14_.i (S.f o1 0)) w14_2.toNatClampNeg (S14_.i (S.f o1 0) (w14_2 - (1 : Int32)).toNatClampNeg)) = z := ⟨_, rfl⟩
            have hP : va_P D vwCl (X ++ PL cy S16) H := by rw [← hS16, ← e9]; exact hP2
            have hD : va_D A (X ++ PL cy S16) := by rw [← hS16, ← e9]; exact hD2
            have xe17 : ext S14_ S16 := by rw [← hS16]; exact ext.si _ _ _
            have t18 : stp [(0, 2), (27, 100)] [] [] S S16 := by rw [← hS16]; exact hsh14.i (upd (S14_.i (S.f o1 0)) w14_2.toNatClampNeg (S14_.i (S.f o1 0) (w14_2 - (1 : Int32)).toNatClampNeg)) (hsh14.x.A F7.2.1) (by decide)
            have k19 : (S16.I o1 2).toInt = (S14_.I o1 2).toInt := by rw [← hS16]; rfl
            obtain ⟨v20, hv20⟩ : ∃ z : Int32, w14_2 + (-1 : Int32) = z := ⟨_, rfl⟩
            have iv20 : v20.toInt = w14_2.toInt - 1 := by rw [← hv20]; exact t_addr (n := -1) rfl (by omega)
            refine lv_iinc (v := v20) (lv' := [(2, .int v20), (0, .ref o1), (1, .int x1)]) hx hb dX0_put_44 hl (k := 0) rfl (by rw [← hv20]; rfl) (by decide) rfl (fun ls hl => ?_)
            refine lv_goto (tgt := 14) hx hb dX0_put_47 (by decide) ?_
            exact ih14 S16 v20 _ _ _ (Nat.lt_of_lt_of_le (by omega) (Nat.le_of_lt_succ hm14)) (by omega) t18 hP hD hS (lv_sub hl [0, 1, 2] rfl) (fun S14_y w14_2y H9 locs9 ls9 i9 sh9 P9 D9 S9 l9 hfe => ko14 S14_y w14_2y H9 locs9 ls9 i9 sh9 P9 D9 S9 l9 (Eq.trans (by rw [f_X0_put_L14_s, if_neg c6, if_neg c11, l1_eq hS16, l1_eq hv20]) hfe))
    refine loop14 17 S (S.I o1 2) _ _ _ (by omega) (by omega) (stp.rf hW) hP hD hS (lv_sub hl [0, 1, 2] rfl) (fun S22 z23 H locs ls hi14 hsh14 hP hD hS hl c21 => ?_)
    have t24 : stp [(0, 2), (27, 100)] [] [] S S22 := t0.tr hsh14 (fun _ q => q) (fun _ q => Or.inl q)
    have et24 := hsh14.x
    refine lv_aload_n hx hb dX0_put_50 rfl (lv_at hl 1 rfl) ?_
    have F25 := ((hW.at h_o1 List.not_mem_nil).to_0 h_o1.2.1).F0
    obtain ⟨k26, gk26, hk26⟩ := wGt (cy := cy) X S22 (et24.A h_o1).1 (et24.A h_o1).2.1
    simp only [kE, (et24.F h_o1 (by decide) F25.1)] at hk26
    refine va_get (D := D) (ci := 4) (v := .ref (S.f o1 0)) (C := RX0) (T := TX0) (N := 7) hx hb hts hi_X0_put_X0 hown hK hP k26 hk26 rfl 0 (by decide) (hts (.fieldLink RX0 9 "Hobhouse$Box" "wheels" "[I") (by decide +kernel)) (fun _ h9 => h9) rfl dX0_put_51 ?_
    refine lv_iload_n hx hb dX0_put_54 rfl (lv_at hl 0 rfl) ?_
    refine lv_iload_n hx hb dX0_put_55 rfl (lv_at hl 2 rfl) ?_
    obtain ⟨k27, gk27, hk27⟩ := wGt (cy := cy) X S22 (et24.A F25.2.1).1 (et24.A F25.2.1).2.1
    refine va_iast hx hb hK hP hD hS k27 2 hk27 rfl (inb (m := 16) ((et24.n F25.2.1).trans F25.2.2) (by omega) (by omega)) dX0_put_56 (fun H locs hP2 hD2 hS => ?_)
    have e9 := wPui (cy := cy) (f := (upd (S22.i (S.f o1 0)) z23.toNatClampNeg x1)) hD (et24.A F25.2.1).1 (et24.A F25.2.1).2.1 gk27 rfl
    obtain ⟨S28, hS28⟩ : ∃ z, S22.si (S.f o1 0) (upd (S22.i (S.f o1 0)) z23.toNatClampNeg x1) = z := ⟨_, rfl⟩
    have hP : va_P D vwCl (X ++ PL cy S28) H := by rw [← hS28, ← e9]; exact hP2
    have hD : va_D A (X ++ PL cy S28) := by rw [← hS28, ← e9]; exact hD2
    have xe29 : ext S22 S28 := by rw [← hS28]; exact ext.si _ _ _
    have t30 : stp [(0, 2), (27, 100)] [] [] S S28 := by rw [← hS28]; exact t24.i (upd (S22.i (S.f o1 0)) z23.toNatClampNeg x1) (et24.A F25.2.1) (by decide)
    have k31 : (S28.I o1 2).toInt = (S22.I o1 2).toInt := by rw [← hS28]; rfl
    refine lv_aload_n hx hb dX0_put_57 rfl (lv_at hl 1 rfl) ?_
    refine lv_dup hx hb dX0_put_58 rfl ?_
    obtain ⟨k32, gk32, hk32⟩ := wGt (cy := cy) X S28 (xe29.A (et24.A h_o1)).1 (xe29.A (et24.A h_o1)).2.1
    have i33 := ((t30.w.at (xe29.A (et24.A h_o1)) List.not_mem_nil).to_0 (xe29.A (et24.A h_o1)).2.1).R2
    refine va_get (D := D) (ci := 4) (v := .int (S28.I o1 2)) (C := RX0) (T := TX0) (N := 7) hx hb hts hi_X0_put_X0 hown hK hP k32 hk32 rfl 2 (by decide) (hts (.fieldLink RX0 18 "Hobhouse$Box" "count" "I") (by decide +kernel)) (fun _ h9 => h9) rfl dX0_put_59 ?_
    refine lv_iconst (v := 1) hx hb dX0_put_62 (by decide) ?_
    refine lv_iadd hx hb dX0_put_63 ?_
    have l32_1 : (1 : Int32).toInt = 1 := rfl
    have i34 : ((S28.I o1 2) + (1 : Int32)).toInt = (S28.I o1 2).toInt + 1 := t_addr (n := 1) rfl (by omega)
    obtain ⟨k35, gk35, hk35⟩ := wGt (cy := cy) X S28 (xe29.A (et24.A h_o1)).1 (xe29.A (et24.A h_o1)).2.1
    refine va_put (D := D) (ci := 4) (v := .int ((S28.I o1 2) + (1 : Int32))) (ty := .int) (C := RX0) (T := TX0) (N := 7) hx hb hts hi_X0_put_X0 tyX0 tyX0_ok nmX0 hown hK hP hD hS k35 hk35 rfl 2 (by decide) (hts (.fieldLink RX0 18 "Hobhouse$Box" "count" "I") (by decide +kernel)) (fun _ h9 => h9) rfl (by decide +kernel) (rfl) (rfl) (Nat.le_of_ble_eq_true rfl) dX0_put_64 (fun H locs hP2 hD2 hS => ?_)
    have e9 := wPuI (cy := cy) (j := 2) (v := ((S28.I o1 2) + (1 : Int32))) hD (xe29.A (et24.A h_o1)).1 (xe29.A (et24.A h_o1)).2.1 gk35 rfl
    obtain ⟨S36, hS36⟩ : ∃ z, S28.sI o1 2 ((S28.I o1 2) + (1 : Int32)) = z := ⟨_, rfl⟩
    have hP : va_P D vwCl (X ++ PL cy S36) H := by rw [← hS36, ← e9]; exact hP2
    have hD : va_D A (X ++ PL cy S36) := by rw [← hS36, ← e9]; exact hD2
    have xe37 : ext S28 S36 := by rw [← hS36]; exact ext.sI _ _ _ _
    have t38 : stp [(0, 2), (27, 100)] [] [] S S36 := by rw [← hS36]; exact t30.I 2 ((S28.I o1 2) + (1 : Int32)) (xe29.A (et24.A h_o1)) (by decide) (⟨by omega, by omega⟩) (Or.inl (by decide))
    have k39 : (S36.I o1 2).toInt = ((S28.I o1 2) + (1 : Int32)).toInt := by rw [← hS36, sI_eq]
    refine lv_aload_n hx hb dX0_put_67 rfl (lv_at hl 1 rfl) ?_
    obtain ⟨k40, gk40, hk40⟩ := wGt (cy := cy) X S36 (xe37.A (xe29.A (et24.A h_o1))).1 (xe37.A (xe29.A (et24.A h_o1))).2.1
    have i41 := ((t38.w.at (xe37.A (xe29.A (et24.A h_o1))) List.not_mem_nil).to_0 (xe37.A (xe29.A (et24.A h_o1))).2.1).R2
    refine va_get (D := D) (ci := 4) (v := .int (S36.I o1 2)) (C := RX0) (T := TX0) (N := 7) hx hb hts hi_X0_put_X0 hown hK hP k40 hk40 rfl 2 (by decide) (hts (.fieldLink RX0 18 "Hobhouse$Box" "count" "I") (by decide +kernel)) (fun _ h9 => h9) rfl dX0_put_68 ?_
    refine W.widen (k := 0) (n := 0) (Nat.le_of_ble_eq_true rfl) (Nat.le_of_ble_eq_true rfl) ?_
    exact W.iret (v := S36.I o1 2) hx hb hr (fun t ht hW9 => ⟨⟨S36.I o1 2, S36, rfl, ⟨(by show (S36.I o1 2, S36) = f_X0_put S o1 x1; unfold f_X0_put; rw [if_neg c3, l2_eq c21, l1_eq hS28, l1_eq hS36]), t38, (by omega), (by omega)⟩, wd_end hP hK hD ht hW9.alike⟩, hS.F ht⟩) hS.2.2 dX0_put_71 hlocks
theorem hi_X0_compare_X0 : ∀ w ∈ u_ws RX0 TX0 7, w ∈ wsX0_compare := by decide +kernel
theorem hd_X0_compare : yX0_compare.cls = RX0 ∧ yX0_compare.cls ≠ "java/lang/invoke/MethodHandle" ∧ yX0_compare.cls ≠ "java/lang/invoke/VarHandle" ∧ (parseMethodDescriptor yX0_compare.desc).map (fun d => d.parameters.length) = some 4 := by decide +kernel
set_option maxHeartbeats 4000000 in
set_option maxRecDepth 100000 in
theorem c_X0_compare (l : Launch) {D : va_G} {cy : Nat → ClassId} {X : va_W} (S : wPS) (sz : Nat) (o1 : Nat) (h_o1 : isA S o1 0) (x1 : Int32) (x2 : Int32) (x3 : Int32) (x4 : Int32) (hW : wtB S [])  : Met l yX0_compare wsX0_compare ({ frames := 1, cells := 0, slots := 0, locals := 13 }) (va_Pc [.ref o1, .int x1, .int x2, .int x3, .int x4] (fun U => U.heap.size = sz ∧ WD D cy X (fun _ => True) S U ∧ NW U)) (va_Qv (fun (u : wPS) => stp [(0, 5), (0, 6), (17, 100)] [] [] S u) (fun u t => WD D cy X (va_A (X ++ PL cy S) sz) u t) (va_A (X ++ PL cy S) sz)) 0 0 (va_A (X ++ PL cy S) sz) := by
  refine Met.ofW (cc := cX0_compare) (maxL := 9) (ret := none) (by decide) rfl ?_
  intro p e s m args below meth c s₁ B hml hv
  obtain ⟨rfl, hsz, ⟨hP, hK, hD0⟩, hN⟩ := hv
  have hx := B.exec
  have hb := B.bytes
  have hr := B.returns
  have hts := atoms_spec (ws := wsX0_compare) B.pre
  have hown : s.vm.findClass RX0 = some m.cls := findClass_of_methodNamed (x := yX0_compare) B.named
  have hlocks := B.notSynchronized
  subst hsz
  have hD := hD0.self (sz := s.heap.size)
  generalize hAe : va_A (X ++ PL cy S) s.heap.size = A at hD ⊢
  have hA : ∀ q : Nat, s.heap.size ≤ q → A q := fun q h => by rw [← hAe]; exact Or.inr h
  have hS : va_S A s.heap s.heap [] := va_S.rf
  have hl := lv_entry ([.ref o1, .int x1, .int x2, .int x3, .int x4]) (n := 9) (Nat.le_of_ble_eq_true rfl)
  rw [lg_entry_eq]
  generalize (lg_sl ([.ref o1, .int x1, .int x2, .int x3, .int x4]) ++ List.replicate (9 - (lg_sl ([.ref o1, .int x1, .int x2, .int x3, .int x4])).length) Slot.unset).toArray = ls at hl ⊢
  have hl : lv_has ls 9 [(0, .ref o1), (1, .int x1), (2, .int x2), (3, .int x3), (4, .int x4)] := hl
  have t0 : stp [(0, 5), (0, 6), (17, 100)] [] [] S S := stp.rf hW
  refine lv_iload_n hx hb dX0_compare_0 rfl (lv_at hl 2 rfl) ?_
  refine lv_i2l hx hb dX0_compare_1 rfl ?_
  refine lv_iload hx hb dX0_compare_2 (lv_at hl 4 rfl) ?_
  refine lv_i2l hx hb dX0_compare_4 rfl ?_
  refine lv_lmul hx hb dX0_compare_5 ?_
  refine lv_lstore (lv' := [(5, .long (x2.toInt64 * x4.toInt64)), (0, .ref o1), (1, .int x1), (2, .int x2), (3, .int x3), (4, .int x4)]) hx hb dX0_compare_6 hl (by decide) rfl (fun ls hl => ?_)
  refine lv_iload_n hx hb dX0_compare_8 rfl (lv_at hl 2 rfl) ?_
  refine lv_i2l hx hb dX0_compare_9 rfl ?_
  refine lv_iload_n hx hb dX0_compare_10 rfl (lv_at hl 4 rfl) ?_
  refine lv_i2l hx hb dX0_compare_11 rfl ?_
  refine lv_lmul hx hb dX0_compare_12 ?_
  refine lv_aload_n hx hb dX0_compare_13 rfl (lv_at hl 1 rfl) ?_
  obtain ⟨k1, gk1, hk1⟩ := wGt (cy := cy) X S h_o1.1 h_o1.2.1
  refine va_get (D := D) (ci := 4) (v := .long (S.J o1 4)) (C := RX0) (T := TX0) (N := 7) hx hb hts hi_X0_compare_X0 hown hK hP k1 hk1 rfl 4 (by decide) (hts (.fieldLink RX0 26 "Hobhouse$Box" "ratioDown" "J") (by decide +kernel)) (fun _ h9 => h9) rfl dX0_compare_14 ?_
  refine lv_lmul hx hb dX0_compare_17 ?_
  refine lv_lload hx hb dX0_compare_18 (lv_at hl 0 rfl) ?_
  refine lv_aload_n hx hb dX0_compare_20 rfl (lv_at hl 1 rfl) ?_
  obtain ⟨k2, gk2, hk2⟩ := wGt (cy := cy) X S h_o1.1 h_o1.2.1
  refine va_get (D := D) (ci := 4) (v := .long (S.J o1 3)) (C := RX0) (T := TX0) (N := 7) hx hb hts hi_X0_compare_X0 hown hK hP k2 hk2 rfl 3 (by decide) (hts (.fieldLink RX0 22 "Hobhouse$Box" "ratioUp" "J") (by decide +kernel)) (fun _ h9 => h9) rfl dX0_compare_21 ?_
  refine lv_lmul hx hb dX0_compare_24 ?_
  refine lv_lsub hx hb dX0_compare_25 ?_
  refine va_mabs_long hx hb (hml.trans hl.1.symm) hown (hts (.methodLink RX0 45 Lib.MathLoose.abs_long.x) (by decide +kernel)) (hts (.static Lib.MathLoose.abs_long.x) (by decide +kernel)) (hts (.initialized "java/lang/Math") (by decide +kernel)) (hts (.code Lib.MathLoose.abs_long.x Lib.MathLoose.abs_long.code 2 (some .long)) (by decide +kernel)) (Nat.le_of_ble_eq_true rfl) (Nat.le_of_ble_eq_true rfl) (Nat.zero_le _) (Nat.zero_le _) dX0_compare_26 ?_
  refine lv_lstore (lv' := [(7, .long (if 0 < (((x1.toInt64 * x3.toInt64) * (S.J o1 4)) - ((x2.toInt64 * x4.toInt64) * (S.J o1 3))) then (((x1.toInt64 * x3.toInt64) * (S.J o1 4)) - ((x2.toInt64 * x4.toInt64) * (S.J o1 3))) else -(((x1.toInt64 * x3.toInt64) * (S.J o1 4)) - ((x2.toInt64 * x4.toInt64) * (S.J o1 3))))), (5, .long (x2.toInt64 * x4.toInt64)), (0, .ref o1), (1, .int x1), (2, .int x2), (3, .int x3), (4, .int x4)]) hx hb dX0_compare_29 hl (by decide) rfl (fun ls hl => ?_)
  refine lv_aload_n hx hb dX0_compare_31 rfl (lv_at hl 2 rfl) ?_
  obtain ⟨k3, gk3, hk3⟩ := wGt (cy := cy) X S h_o1.1 h_o1.2.1
  refine va_get (D := D) (ci := 4) (v := .long (S.J o1 6)) (C := RX0) (T := TX0) (N := 7) hx hb hts hi_X0_compare_X0 hown hK hP k3 hk3 rfl 6 (by decide) (hts (.fieldLink RX0 34 "Hobhouse$Box" "leastBase" "J") (by decide +kernel)) (fun _ h9 => h9) rfl dX0_compare_32 ?_
  refine lv_lconst (v := 0) hx hb dX0_compare_35 (by decide) ?_
  refine W.lcmp hx hb dX0_compare_36 ?_
  refine lv_if_eq (tgt := 58) hx hb dX0_compare_37 (by decide) (fun c4 => ?_) (fun c4 => ?_)
  · refine lv_aload_n hx hb dX0_compare_58 rfl (lv_at hl 2 rfl) ?_
    refine lv_lload hx hb dX0_compare_59 (lv_at hl 0 rfl) ?_
    obtain ⟨k5, gk5, hk5⟩ := wGt (cy := cy) X S h_o1.1 h_o1.2.1
    refine va_put (D := D) (ci := 4) (v := .long (if 0 < (((x1.toInt64 * x3.toInt64) * (S.J o1 4)) - ((x2.toInt64 * x4.toInt64) * (S.J o1 3))) then (((x1.toInt64 * x3.toInt64) * (S.J o1 4)) - ((x2.toInt64 * x4.toInt64) * (S.J o1 3))) else -(((x1.toInt64 * x3.toInt64) * (S.J o1 4)) - ((x2.toInt64 * x4.toInt64) * (S.J o1 3))))) (ty := .long) (C := RX0) (T := TX0) (N := 7) hx hb hts hi_X0_compare_X0 tyX0 tyX0_ok nmX0 hown hK hP hD hS k5 hk5 rfl 5 (by decide) (hts (.fieldLink RX0 31 "Hobhouse$Box" "leastError" "J") (by decide +kernel)) (fun _ h9 => h9) rfl (by decide +kernel) (rfl) (rfl) (Nat.le_of_ble_eq_true rfl) dX0_compare_61 (fun H locs hP2 hD2 hS => ?_)
    have e9 := wPuJ (cy := cy) (j := 5) (v := (if 0 < (((x1.toInt64 * x3.toInt64) * (S.J o1 4)) - ((x2.toInt64 * x4.toInt64) * (S.J o1 3))) then (((x1.toInt64 * x3.toInt64) * (S.J o1 4)) - ((x2.toInt64 * x4.toInt64) * (S.J o1 3))) else -(((x1.toInt64 * x3.toInt64) * (S.J o1 4)) - ((x2.toInt64 * x4.toInt64) * (S.J o1 3))))) hD h_o1.1 h_o1.2.1 gk5 rfl
    obtain ⟨S6, hS6⟩ : ∃ z, S.sJ o1 5 (if 0 < (((x1.toInt64 * x3.toInt64) * (S.J o1 4)) - ((x2.toInt64 * x4.toInt64) * (S.J o1 3))) then (((x1.toInt64 * x3.toInt64) * (S.J o1 4)) - ((x2.toInt64 * x4.toInt64) * (S.J o1 3))) else -(((x1.toInt64 * x3.toInt64) * (S.J o1 4)) - ((x2.toInt64 * x4.toInt64) * (S.J o1 3)))) = z := ⟨_, rfl⟩
    have hP : va_P D vwCl (X ++ PL cy S6) H := by rw [← hS6, ← e9]; exact hP2
    have hD : va_D A (X ++ PL cy S6) := by rw [← hS6, ← e9]; exact hD2
    have xe7 : ext S S6 := by rw [← hS6]; exact ext.sJ _ _ _ _
    have t8 : stp [(0, 5), (0, 6), (17, 100)] [] [] S S6 := by rw [← hS6]; exact t0.J 5 (if 0 < (((x1.toInt64 * x3.toInt64) * (S.J o1 4)) - ((x2.toInt64 * x4.toInt64) * (S.J o1 3))) then (((x1.toInt64 * x3.toInt64) * (S.J o1 4)) - ((x2.toInt64 * x4.toInt64) * (S.J o1 3))) else -(((x1.toInt64 * x3.toInt64) * (S.J o1 4)) - ((x2.toInt64 * x4.toInt64) * (S.J o1 3)))) h_o1 (by decide)
    refine lv_aload_n hx hb dX0_compare_64 rfl (lv_at hl 2 rfl) ?_
    refine lv_lload hx hb dX0_compare_65 (lv_at hl 1 rfl) ?_
    obtain ⟨k9, gk9, hk9⟩ := wGt (cy := cy) X S6 (xe7.A h_o1).1 (xe7.A h_o1).2.1
    refine va_put (D := D) (ci := 4) (v := .long (x2.toInt64 * x4.toInt64)) (ty := .long) (C := RX0) (T := TX0) (N := 7) hx hb hts hi_X0_compare_X0 tyX0 tyX0_ok nmX0 hown hK hP hD hS k9 hk9 rfl 6 (by decide) (hts (.fieldLink RX0 34 "Hobhouse$Box" "leastBase" "J") (by decide +kernel)) (fun _ h9 => h9) rfl (by decide +kernel) (rfl) (rfl) (Nat.le_of_ble_eq_true rfl) dX0_compare_67 (fun H locs hP2 hD2 hS => ?_)
    have e9 := wPuJ (cy := cy) (j := 6) (v := (x2.toInt64 * x4.toInt64)) hD (xe7.A h_o1).1 (xe7.A h_o1).2.1 gk9 rfl
    obtain ⟨S10, hS10⟩ : ∃ z, S6.sJ o1 6 (x2.toInt64 * x4.toInt64) = z := ⟨_, rfl⟩
    have hP : va_P D vwCl (X ++ PL cy S10) H := by rw [← hS10, ← e9]; exact hP2
    have hD : va_D A (X ++ PL cy S10) := by rw [← hS10, ← e9]; exact hD2
    have xe11 : ext S6 S10 := by rw [← hS10]; exact ext.sJ _ _ _ _
    have t12 : stp [(0, 5), (0, 6), (17, 100)] [] [] S S10 := by rw [← hS10]; exact t8.J 6 (x2.toInt64 * x4.toInt64) (xe7.A h_o1) (by decide)
    refine lv_aload_n hx hb dX0_compare_70 rfl (lv_at hl 2 rfl) ?_
    have F13 := ((hW.at h_o1 List.not_mem_nil).to_0 h_o1.2.1).F1
    obtain ⟨k14, gk14, hk14⟩ := wGt (cy := cy) X S10 (xe11.A (xe7.A h_o1)).1 (xe11.A (xe7.A h_o1)).2.1
    simp only [kE, ((xe7.tr xe11).F h_o1 (by decide) F13.1)] at hk14
    refine va_get (D := D) (ci := 4) (v := .ref (S.f o1 1)) (C := RX0) (T := TX0) (N := 7) hx hb hts hi_X0_compare_X0 hown hK hP k14 hk14 rfl 1 (by decide) (hts (.fieldLink RX0 15 "Hobhouse$Box" "best" "[I") (by decide +kernel)) (fun _ h9 => h9) rfl dX0_compare_71 ?_
    refine lv_iconst (v := 0) hx hb dX0_compare_74 (by decide) ?_
    refine lv_iload_n hx hb dX0_compare_75 rfl (lv_at hl 3 rfl) ?_
    obtain ⟨k15, gk15, hk15⟩ := wGt (cy := cy) X S10 ((xe7.tr xe11).A F13.2.1).1 ((xe7.tr xe11).A F13.2.1).2.1
    refine va_iast hx hb hK hP hD hS k15 2 hk15 rfl (inb (((xe7.tr xe11).n F13.2.1).trans F13.2.2) (by decide) (by decide)) dX0_compare_76 (fun H locs hP2 hD2 hS => ?_)
    have e9 := wPui (cy := cy) (f := (upd (S10.i (S.f o1 1)) (0 : Int32).toNatClampNeg x1)) hD ((xe7.tr xe11).A F13.2.1).1 ((xe7.tr xe11).A F13.2.1).2.1 gk15 rfl
    obtain ⟨S16, hS16⟩ : ∃ z, S10.si (S.f o1 1) (upd (S10.i (S.f o1 1)) (0 : Int32).toNatClampNeg x1) = z := ⟨_, rfl⟩
    have hP : va_P D vwCl (X ++ PL cy S16) H := by rw [← hS16, ← e9]; exact hP2
    have hD : va_D A (X ++ PL cy S16) := by rw [← hS16, ← e9]; exact hD2
    have xe17 : ext S10 S16 := by rw [← hS16]; exact ext.si _ _ _
    have t18 : stp [(0, 5), (0, 6), (17, 100)] [] [] S S16 := by rw [← hS16]; exact t12.i (upd (S10.i (S.f o1 1)) (0 : Int32).toNatClampNeg x1) ((xe7.tr xe11).A F13.2.1) (by decide)
    refine lv_aload_n hx hb dX0_compare_77 rfl (lv_at hl 2 rfl) ?_
    obtain ⟨k19, gk19, hk19⟩ := wGt (cy := cy) X S16 (xe17.A (xe11.A (xe7.A h_o1))).1 (xe17.A (xe11.A (xe7.A h_o1))).2.1
    simp only [kE, ((xe7.tr (xe11.tr xe17)).F h_o1 (by decide) F13.1)] at hk19
    refine va_get (D := D) (ci := 4) (v := .ref (S.f o1 1)) (C := RX0) (T := TX0) (N := 7) hx hb hts hi_X0_compare_X0 hown hK hP k19 hk19 rfl 1 (by decide) (hts (.fieldLink RX0 15 "Hobhouse$Box" "best" "[I") (by decide +kernel)) (fun _ h9 => h9) rfl dX0_compare_78 ?_
    refine lv_iconst (v := 1) hx hb dX0_compare_81 (by decide) ?_
    refine lv_iload_n hx hb dX0_compare_82 rfl (lv_at hl 4 rfl) ?_
    obtain ⟨k20, gk20, hk20⟩ := wGt (cy := cy) X S16 (xe17.A ((xe7.tr xe11).A F13.2.1)).1 (xe17.A ((xe7.tr xe11).A F13.2.1)).2.1
    refine va_iast hx hb hK hP hD hS k20 2 hk20 rfl (inb (((xe7.tr (xe11.tr xe17)).n F13.2.1).trans F13.2.2) (by decide) (by decide)) dX0_compare_83 (fun H locs hP2 hD2 hS => ?_)
    have e9 := wPui (cy := cy) (f := (upd (S16.i (S.f o1 1)) (1 : Int32).toNatClampNeg x2)) hD (xe17.A ((xe7.tr xe11).A F13.2.1)).1 (xe17.A ((xe7.tr xe11).A F13.2.1)).2.1 gk20 rfl
    obtain ⟨S21, hS21⟩ : ∃ z, S16.si (S.f o1 1) (upd (S16.i (S.f o1 1)) (1 : Int32).toNatClampNeg x2) = z := ⟨_, rfl⟩
    have hP : va_P D vwCl (X ++ PL cy S21) H := by rw [← hS21, ← e9]; exact hP2
    have hD : va_D A (X ++ PL cy S21) := by rw [← hS21, ← e9]; exact hD2
    have xe22 : ext S16 S21 := by rw [← hS21]; exact ext.si _ _ _
    have t23 : stp [(0, 5), (0, 6), (17, 100)] [] [] S S21 := by rw [← hS21]; exact t18.i (upd (S16.i (S.f o1 1)) (1 : Int32).toNatClampNeg x2) (xe17.A ((xe7.tr xe11).A F13.2.1)) (by decide)
    refine lv_aload_n hx hb dX0_compare_84 rfl (lv_at hl 2 rfl) ?_
    obtain ⟨k24, gk24, hk24⟩ := wGt (cy := cy) X S21 (xe22.A (xe17.A (xe11.A (xe7.A h_o1)))).1 (xe22.A (xe17.A (xe11.A (xe7.A h_o1)))).2.1
    simp only [kE, ((xe7.tr (xe11.tr (xe17.tr xe22))).F h_o1 (by decide) F13.1)] at hk24
    refine va_get (D := D) (ci := 4) (v := .ref (S.f o1 1)) (C := RX0) (T := TX0) (N := 7) hx hb hts hi_X0_compare_X0 hown hK hP k24 hk24 rfl 1 (by decide) (hts (.fieldLink RX0 15 "Hobhouse$Box" "best" "[I") (by decide +kernel)) (fun _ h9 => h9) rfl dX0_compare_85 ?_
    refine lv_iconst (v := 2) hx hb dX0_compare_88 (by decide) ?_
    refine lv_iload_n hx hb dX0_compare_89 rfl (lv_at hl 5 rfl) ?_
    obtain ⟨k25, gk25, hk25⟩ := wGt (cy := cy) X S21 (xe22.A (xe17.A ((xe7.tr xe11).A F13.2.1))).1 (xe22.A (xe17.A ((xe7.tr xe11).A F13.2.1))).2.1
    refine va_iast hx hb hK hP hD hS k25 2 hk25 rfl (inb (((xe7.tr (xe11.tr (xe17.tr xe22))).n F13.2.1).trans F13.2.2) (by decide) (by decide)) dX0_compare_90 (fun H locs hP2 hD2 hS => ?_)
    have e9 := wPui (cy := cy) (f := (upd (S21.i (S.f o1 1)) (2 : Int32).toNatClampNeg x3)) hD (xe22.A (xe17.A ((xe7.tr xe11).A F13.2.1))).1 (xe22.A (xe17.A ((xe7.tr xe11).A F13.2.1))).2.1 gk25 rfl
    obtain ⟨S26, hS26⟩ : ∃ z, S21.si (S.f o1 1) (upd (S21.i (S.f o1 1)) (2 : Int32).toNatClampNeg x3) = z := ⟨_, rfl⟩
    have hP : va_P D vwCl (X ++ PL cy S26) H := by rw [← hS26, ← e9]; exact hP2
    have hD : va_D A (X ++ PL cy S26) := by rw [← hS26, ← e9]; exact hD2
    have xe27 : ext S21 S26 := by rw [← hS26]; exact ext.si _ _ _
    have t28 : stp [(0, 5), (0, 6), (17, 100)] [] [] S S26 := by rw [← hS26]; exact t23.i (upd (S21.i (S.f o1 1)) (2 : Int32).toNatClampNeg x3) (xe22.A (xe17.A ((xe7.tr xe11).A F13.2.1))) (by decide)
    refine lv_aload_n hx hb dX0_compare_91 rfl (lv_at hl 2 rfl) ?_
    obtain ⟨k29, gk29, hk29⟩ := wGt (cy := cy) X S26 (xe27.A (xe22.A (xe17.A (xe11.A (xe7.A h_o1))))).1 (xe27.A (xe22.A (xe17.A (xe11.A (xe7.A h_o1))))).2.1
    simp only [kE, ((xe7.tr (xe11.tr (xe17.tr (xe22.tr xe27)))).F h_o1 (by decide) F13.1)] at hk29
    refine va_get (D := D) (ci := 4) (v := .ref (S.f o1 1)) (C := RX0) (T := TX0) (N := 7) hx hb hts hi_X0_compare_X0 hown hK hP k29 hk29 rfl 1 (by decide) (hts (.fieldLink RX0 15 "Hobhouse$Box" "best" "[I") (by decide +kernel)) (fun _ h9 => h9) rfl dX0_compare_92 ?_
    refine lv_iconst (v := 3) hx hb dX0_compare_95 (by decide) ?_
    refine lv_iload hx hb dX0_compare_96 (lv_at hl 6 rfl) ?_
    obtain ⟨k30, gk30, hk30⟩ := wGt (cy := cy) X S26 (xe27.A (xe22.A (xe17.A ((xe7.tr xe11).A F13.2.1)))).1 (xe27.A (xe22.A (xe17.A ((xe7.tr xe11).A F13.2.1)))).2.1
    refine va_iast hx hb hK hP hD hS k30 2 hk30 rfl (inb (((xe7.tr (xe11.tr (xe17.tr (xe22.tr xe27)))).n F13.2.1).trans F13.2.2) (by decide) (by decide)) dX0_compare_98 (fun H locs hP2 hD2 hS => ?_)
    have e9 := wPui (cy := cy) (f := (upd (S26.i (S.f o1 1)) (3 : Int32).toNatClampNeg x4)) hD (xe27.A (xe22.A (xe17.A ((xe7.tr xe11).A F13.2.1)))).1 (xe27.A (xe22.A (xe17.A ((xe7.tr xe11).A F13.2.1)))).2.1 gk30 rfl
    obtain ⟨S31, hS31⟩ : ∃ z, S26.si (S.f o1 1) (upd (S26.i (S.f o1 1)) (3 : Int32).toNatClampNeg x4) = z := ⟨_, rfl⟩
    have hP : va_P D vwCl (X ++ PL cy S31) H := by rw [← hS31, ← e9]; exact hP2
    have hD : va_D A (X ++ PL cy S31) := by rw [← hS31, ← e9]; exact hD2
    have xe32 : ext S26 S31 := by rw [← hS31]; exact ext.si _ _ _
    have t33 : stp [(0, 5), (0, 6), (17, 100)] [] [] S S31 := by rw [← hS31]; exact t28.i (upd (S26.i (S.f o1 1)) (3 : Int32).toNatClampNeg x4) (xe27.A (xe22.A (xe17.A ((xe7.tr xe11).A F13.2.1)))) (by decide)
    refine W.widen (k := 0) (n := 0) (Nat.le_of_ble_eq_true rfl) (Nat.le_of_ble_eq_true rfl) ?_
    exact W.vret hx hb hr (fun t ht hW9 => ⟨⟨S31, rfl, t33, wd_end hP hK hD ht hW9.alike⟩, hS.F ht⟩) hS.2.2 dX0_compare_99 hlocks
  · refine lv_lload hx hb dX0_compare_40 (lv_at hl 0 rfl) ?_
    refine lv_aload_n hx hb dX0_compare_42 rfl (lv_at hl 2 rfl) ?_
    obtain ⟨k34, gk34, hk34⟩ := wGt (cy := cy) X S h_o1.1 h_o1.2.1
    refine va_get (D := D) (ci := 4) (v := .long (S.J o1 6)) (C := RX0) (T := TX0) (N := 7) hx hb hts hi_X0_compare_X0 hown hK hP k34 hk34 rfl 6 (by decide) (hts (.fieldLink RX0 34 "Hobhouse$Box" "leastBase" "J") (by decide +kernel)) (fun _ h9 => h9) rfl dX0_compare_43 ?_
    refine lv_lmul hx hb dX0_compare_46 ?_
    refine lv_aload_n hx hb dX0_compare_47 rfl (lv_at hl 2 rfl) ?_
    obtain ⟨k35, gk35, hk35⟩ := wGt (cy := cy) X S h_o1.1 h_o1.2.1
    refine va_get (D := D) (ci := 4) (v := .long (S.J o1 5)) (C := RX0) (T := TX0) (N := 7) hx hb hts hi_X0_compare_X0 hown hK hP k35 hk35 rfl 5 (by decide) (hts (.fieldLink RX0 31 "Hobhouse$Box" "leastError" "J") (by decide +kernel)) (fun _ h9 => h9) rfl dX0_compare_48 ?_
    refine lv_lload hx hb dX0_compare_51 (lv_at hl 1 rfl) ?_
    refine lv_lmul hx hb dX0_compare_53 ?_
    refine W.lcmp hx hb dX0_compare_54 ?_
    refine lv_if_ge (tgt := 99) hx hb dX0_compare_55 (by decide) (fun c36 => ?_) (fun c36 => ?_)
    · refine W.widen (k := 0) (n := 0) (Nat.le_of_ble_eq_true rfl) (Nat.le_of_ble_eq_true rfl) ?_
      exact W.vret hx hb hr (fun t ht hW9 => ⟨⟨S, rfl, t0, wd_end hP hK hD ht hW9.alike⟩, hS.F ht⟩) hS.2.2 dX0_compare_99 hlocks
    · refine lv_aload_n hx hb dX0_compare_58 rfl (lv_at hl 2 rfl) ?_
      refine lv_lload hx hb dX0_compare_59 (lv_at hl 0 rfl) ?_
      obtain ⟨k37, gk37, hk37⟩ := wGt (cy := cy) X S h_o1.1 h_o1.2.1
      refine va_put (D := D) (ci := 4) (v := .long (if 0 < (((x1.toInt64 * x3.toInt64) * (S.J o1 4)) - ((x2.toInt64 * x4.toInt64) * (S.J o1 3))) then (((x1.toInt64 * x3.toInt64) * (S.J o1 4)) - ((x2.toInt64 * x4.toInt64) * (S.J o1 3))) else -(((x1.toInt64 * x3.toInt64) * (S.J o1 4)) - ((x2.toInt64 * x4.toInt64) * (S.J o1 3))))) (ty := .long) (C := RX0) (T := TX0) (N := 7) hx hb hts hi_X0_compare_X0 tyX0 tyX0_ok nmX0 hown hK hP hD hS k37 hk37 rfl 5 (by decide) (hts (.fieldLink RX0 31 "Hobhouse$Box" "leastError" "J") (by decide +kernel)) (fun _ h9 => h9) rfl (by decide +kernel) (rfl) (rfl) (Nat.le_of_ble_eq_true rfl) dX0_compare_61 (fun H locs hP2 hD2 hS => ?_)
      have e9 := wPuJ (cy := cy) (j := 5) (v := (if 0 < (((x1.toInt64 * x3.toInt64) * (S.J o1 4)) - ((x2.toInt64 * x4.toInt64) * (S.J o1 3))) then (((x1.toInt64 * x3.toInt64) * (S.J o1 4)) - ((x2.toInt64 * x4.toInt64) * (S.J o1 3))) else -(((x1.toInt64 * x3.toInt64) * (S.J o1 4)) - ((x2.toInt64 * x4.toInt64) * (S.J o1 3))))) hD h_o1.1 h_o1.2.1 gk37 rfl
      obtain ⟨S38, hS38⟩ : ∃ z, S.sJ o1 5 (if 0 < (((x1.toInt64 * x3.toInt64) * (S.J o1 4)) - ((x2.toInt64 * x4.toInt64) * (S.J o1 3))) then (((x1.toInt64 * x3.toInt64) * (S.J o1 4)) - ((x2.toInt64 * x4.toInt64) * (S.J o1 3))) else -(((x1.toInt64 * x3.toInt64) * (S.J o1 4)) - ((x2.toInt64 * x4.toInt64) * (S.J o1 3)))) = z := ⟨_, rfl⟩
      have hP : va_P D vwCl (X ++ PL cy S38) H := by rw [← hS38, ← e9]; exact hP2
      have hD : va_D A (X ++ PL cy S38) := by rw [← hS38, ← e9]; exact hD2
      have xe39 : ext S S38 := by rw [← hS38]; exact ext.sJ _ _ _ _
      have t40 : stp [(0, 5), (0, 6), (17, 100)] [] [] S S38 := by rw [← hS38]; exact t0.J 5 (if 0 < (((x1.toInt64 * x3.toInt64) * (S.J o1 4)) - ((x2.toInt64 * x4.toInt64) * (S.J o1 3))) then (((x1.toInt64 * x3.toInt64) * (S.J o1 4)) - ((x2.toInt64 * x4.toInt64) * (S.J o1 3))) else -(((x1.toInt64 * x3.toInt64) * (S.J o1 4)) - ((x2.toInt64 * x4.toInt64) * (S.J o1 3)))) h_o1 (by decide)
      refine lv_aload_n hx hb dX0_compare_64 rfl (lv_at hl 2 rfl) ?_
      refine lv_lload hx hb dX0_compare_65 (lv_at hl 1 rfl) ?_
      obtain ⟨k41, gk41, hk41⟩ := wGt (cy := cy) X S38 (xe39.A h_o1).1 (xe39.A h_o1).2.1
      refine va_put (D := D) (ci := 4) (v := .long (x2.toInt64 * x4.toInt64)) (ty := .long) (C := RX0) (T := TX0) (N := 7) hx hb hts hi_X0_compare_X0 tyX0 tyX0_ok nmX0 hown hK hP hD hS k41 hk41 rfl 6 (by decide) (hts (.fieldLink RX0 34 "Hobhouse$Box" "leastBase" "J") (by decide +kernel)) (fun _ h9 => h9) rfl (by decide +kernel) (rfl) (rfl) (Nat.le_of_ble_eq_true rfl) dX0_compare_67 (fun H locs hP2 hD2 hS => ?_)
      have e9 := wPuJ (cy := cy) (j := 6) (v := (x2.toInt64 * x4.toInt64)) hD (xe39.A h_o1).1 (xe39.A h_o1).2.1 gk41 rfl
      obtain ⟨S42, hS42⟩ : ∃ z, S38.sJ o1 6 (x2.toInt64 * x4.toInt64) = z := ⟨_, rfl⟩
      have hP : va_P D vwCl (X ++ PL cy S42) H := by rw [← hS42, ← e9]; exact hP2
      have hD : va_D A (X ++ PL cy S42) := by rw [← hS42, ← e9]; exact hD2
      have xe43 : ext S38 S42 := by rw [← hS42]; exact ext.sJ _ _ _ _
      have t44 : stp [(0, 5), (0, 6), (17, 100)] [] [] S S42 := by rw [← hS42]; exact t40.J 6 (x2.toInt64 * x4.toInt64) (xe39.A h_o1) (by decide)
      refine lv_aload_n hx hb dX0_compare_70 rfl (lv_at hl 2 rfl) ?_
      have F45 := ((hW.at h_o1 List.not_mem_nil).to_0 h_o1.2.1).F1
      obtain ⟨k46, gk46, hk46⟩ := wGt (cy := cy) X S42 (xe43.A (xe39.A h_o1)).1 (xe43.A (xe39.A h_o1)).2.1
      simp only [kE, ((xe39.tr xe43).F h_o1 (by decide) F45.1)] at hk46
      refine va_get (D := D) (ci := 4) (v := .ref (S.f o1 1)) (C := RX0) (T := TX0) (N := 7) hx hb hts hi_X0_compare_X0 hown hK hP k46 hk46 rfl 1 (by decide) (hts (.fieldLink RX0 15 "Hobhouse$Box" "best" "[I") (by decide +kernel)) (fun _ h9 => h9) rfl dX0_compare_71 ?_
      refine lv_iconst (v := 0) hx hb dX0_compare_74 (by decide) ?_
      refine lv_iload_n hx hb dX0_compare_75 rfl (lv_at hl 3 rfl) ?_
      obtain ⟨k47, gk47, hk47⟩ := wGt (cy := cy) X S42 ((xe39.tr xe43).A F45.2.1).1 ((xe39.tr xe43).A F45.2.1).2.1
      refine va_iast hx hb hK hP hD hS k47 2 hk47 rfl (inb (((xe39.tr xe43).n F45.2.1).trans F45.2.2) (by decide) (by decide)) dX0_compare_76 (fun H locs hP2 hD2 hS => ?_)
      have e9 := wPui (cy := cy) (f := (upd (S42.i (S.f o1 1)) (0 : Int32).toNatClampNeg x1)) hD ((xe39.tr xe43).A F45.2.1).1 ((xe39.tr xe43).A F45.2.1).2.1 gk47 rfl
      obtain ⟨S48, hS48⟩ : ∃ z, S42.si (S.f o1 1) (upd (S42.i (S.f o1 1)) (0 : Int32).toNatClampNeg x1) = z := ⟨_, rfl⟩
      have hP : va_P D vwCl (X ++ PL cy S48) H := by rw [← hS48, ← e9]; exact hP2
      have hD : va_D A (X ++ PL cy S48) := by rw [← hS48, ← e9]; exact hD2
      have xe49 : ext S42 S48 := by rw [← hS48]; exact ext.si _ _ _
      have t50 : stp [(0, 5), (0, 6), (17, 100)] [] [] S S48 := by rw [← hS48]; exact t44.i (upd (S42.i (S.f o1 1)) (0 : Int32).toNatClampNeg x1) ((xe39.tr xe43).A F45.2.1) (by decide)
      refine lv_aload_n hx hb dX0_compare_77 rfl (lv_at hl 2 rfl) ?_
      obtain ⟨k51, gk51, hk51⟩ := wGt (cy := cy) X S48 (xe49.A (xe43.A (xe39.A h_o1))).1 (xe49.A (xe43.A (xe39.A h_o1))).2.1
      simp only [kE, ((xe39.tr (xe43.tr xe49)).F h_o1 (by decide) F45.1)] at hk51
      refine va_get (D := D) (ci := 4) (v := .ref (S.f o1 1)) (C := RX0) (T := TX0) (N := 7) hx hb hts hi_X0_compare_X0 hown hK hP k51 hk51 rfl 1 (by decide) (hts (.fieldLink RX0 15 "Hobhouse$Box" "best" "[I") (by decide +kernel)) (fun _ h9 => h9) rfl dX0_compare_78 ?_
      refine lv_iconst (v := 1) hx hb dX0_compare_81 (by decide) ?_
      refine lv_iload_n hx hb dX0_compare_82 rfl (lv_at hl 4 rfl) ?_
      obtain ⟨k52, gk52, hk52⟩ := wGt (cy := cy) X S48 (xe49.A ((xe39.tr xe43).A F45.2.1)).1 (xe49.A ((xe39.tr xe43).A F45.2.1)).2.1
      refine va_iast hx hb hK hP hD hS k52 2 hk52 rfl (inb (((xe39.tr (xe43.tr xe49)).n F45.2.1).trans F45.2.2) (by decide) (by decide)) dX0_compare_83 (fun H locs hP2 hD2 hS => ?_)
      have e9 := wPui (cy := cy) (f := (upd (S48.i (S.f o1 1)) (1 : Int32).toNatClampNeg x2)) hD (xe49.A ((xe39.tr xe43).A F45.2.1)).1 (xe49.A ((xe39.tr xe43).A F45.2.1)).2.1 gk52 rfl
      obtain ⟨S53, hS53⟩ : ∃ z, S48.si (S.f o1 1) (upd (S48.i (S.f o1 1)) (1 : Int32).toNatClampNeg x2) = z := ⟨_, rfl⟩
      have hP : va_P D vwCl (X ++ PL cy S53) H := by rw [← hS53, ← e9]; exact hP2
      have hD : va_D A (X ++ PL cy S53) := by rw [← hS53, ← e9]; exact hD2
      have xe54 : ext S48 S53 := by rw [← hS53]; exact ext.si _ _ _
      have t55 : stp [(0, 5), (0, 6), (17, 100)] [] [] S S53 := by rw [← hS53]; exact t50.i (upd (S48.i (S.f o1 1)) (1 : Int32).toNatClampNeg x2) (xe49.A ((xe39.tr xe43).A F45.2.1)) (by decide)
      refine lv_aload_n hx hb dX0_compare_84 rfl (lv_at hl 2 rfl) ?_
      obtain ⟨k56, gk56, hk56⟩ := wGt (cy := cy) X S53 (xe54.A (xe49.A (xe43.A (xe39.A h_o1)))).1 (xe54.A (xe49.A (xe43.A (xe39.A h_o1)))).2.1
      simp only [kE, ((xe39.tr (xe43.tr (xe49.tr xe54))).F h_o1 (by decide) F45.1)] at hk56
      refine va_get (D := D) (ci := 4) (v := .ref (S.f o1 1)) (C := RX0) (T := TX0) (N := 7) hx hb hts hi_X0_compare_X0 hown hK hP k56 hk56 rfl 1 (by decide) (hts (.fieldLink RX0 15 "Hobhouse$Box" "best" "[I") (by decide +kernel)) (fun _ h9 => h9) rfl dX0_compare_85 ?_
      refine lv_iconst (v := 2) hx hb dX0_compare_88 (by decide) ?_
      refine lv_iload_n hx hb dX0_compare_89 rfl (lv_at hl 5 rfl) ?_
      obtain ⟨k57, gk57, hk57⟩ := wGt (cy := cy) X S53 (xe54.A (xe49.A ((xe39.tr xe43).A F45.2.1))).1 (xe54.A (xe49.A ((xe39.tr xe43).A F45.2.1))).2.1
      refine va_iast hx hb hK hP hD hS k57 2 hk57 rfl (inb (((xe39.tr (xe43.tr (xe49.tr xe54))).n F45.2.1).trans F45.2.2) (by decide) (by decide)) dX0_compare_90 (fun H locs hP2 hD2 hS => ?_)
      have e9 := wPui (cy := cy) (f := (upd (S53.i (S.f o1 1)) (2 : Int32).toNatClampNeg x3)) hD (xe54.A (xe49.A ((xe39.tr xe43).A F45.2.1))).1 (xe54.A (xe49.A ((xe39.tr xe43).A F45.2.1))).2.1 gk57 rfl
      obtain ⟨S58, hS58⟩ : ∃ z, S53.si (S.f o1 1) (upd (S53.i (S.f o1 1)) (2 : Int32).toNatClampNeg x3) = z := ⟨_, rfl⟩
      have hP : va_P D vwCl (X ++ PL cy S58) H := by rw [← hS58, ← e9]; exact hP2
      have hD : va_D A (X ++ PL cy S58) := by rw [← hS58, ← e9]; exact hD2
      have xe59 : ext S53 S58 := by rw [← hS58]; exact ext.si _ _ _
      have t60 : stp [(0, 5), (0, 6), (17, 100)] [] [] S S58 := by rw [← hS58]; exact t55.i (upd (S53.i (S.f o1 1)) (2 : Int32).toNatClampNeg x3) (xe54.A (xe49.A ((xe39.tr xe43).A F45.2.1))) (by decide)
      refine lv_aload_n hx hb dX0_compare_91 rfl (lv_at hl 2 rfl) ?_
      obtain ⟨k61, gk61, hk61⟩ := wGt (cy := cy) X S58 (xe59.A (xe54.A (xe49.A (xe43.A (xe39.A h_o1))))).1 (xe59.A (xe54.A (xe49.A (xe43.A (xe39.A h_o1))))).2.1
      simp only [kE, ((xe39.tr (xe43.tr (xe49.tr (xe54.tr xe59)))).F h_o1 (by decide) F45.1)] at hk61
      refine va_get (D := D) (ci := 4) (v := .ref (S.f o1 1)) (C := RX0) (T := TX0) (N := 7) hx hb hts hi_X0_compare_X0 hown hK hP k61 hk61 rfl 1 (by decide) (hts (.fieldLink RX0 15 "Hobhouse$Box" "best" "[I") (by decide +kernel)) (fun _ h9 => h9) rfl dX0_compare_92 ?_
      refine lv_iconst (v := 3) hx hb dX0_compare_95 (by decide) ?_
      refine lv_iload hx hb dX0_compare_96 (lv_at hl 6 rfl) ?_
      obtain ⟨k62, gk62, hk62⟩ := wGt (cy := cy) X S58 (xe59.A (xe54.A (xe49.A ((xe39.tr xe43).A F45.2.1)))).1 (xe59.A (xe54.A (xe49.A ((xe39.tr xe43).A F45.2.1)))).2.1
      refine va_iast hx hb hK hP hD hS k62 2 hk62 rfl (inb (((xe39.tr (xe43.tr (xe49.tr (xe54.tr xe59)))).n F45.2.1).trans F45.2.2) (by decide) (by decide)) dX0_compare_98 (fun H locs hP2 hD2 hS => ?_)
      have e9 := wPui (cy := cy) (f := (upd (S58.i (S.f o1 1)) (3 : Int32).toNatClampNeg x4)) hD (xe59.A (xe54.A (xe49.A ((xe39.tr xe43).A F45.2.1)))).1 (xe59.A (xe54.A (xe49.A ((xe39.tr xe43).A F45.2.1)))).2.1 gk62 rfl
      obtain ⟨S63, hS63⟩ : ∃ z, S58.si (S.f o1 1) (upd (S58.i (S.f o1 1)) (3 : Int32).toNatClampNeg x4) = z := ⟨_, rfl⟩
      have hP : va_P D vwCl (X ++ PL cy S63) H := by rw [← hS63, ← e9]; exact hP2
      have hD : va_D A (X ++ PL cy S63) := by rw [← hS63, ← e9]; exact hD2
      have xe64 : ext S58 S63 := by rw [← hS63]; exact ext.si _ _ _
      have t65 : stp [(0, 5), (0, 6), (17, 100)] [] [] S S63 := by rw [← hS63]; exact t60.i (upd (S58.i (S.f o1 1)) (3 : Int32).toNatClampNeg x4) (xe59.A (xe54.A (xe49.A ((xe39.tr xe43).A F45.2.1)))) (by decide)
      refine W.widen (k := 0) (n := 0) (Nat.le_of_ble_eq_true rfl) (Nat.le_of_ble_eq_true rfl) ?_
      exact W.vret hx hb hr (fun t ht hW9 => ⟨⟨S63, rfl, t65, wd_end hP hK hD ht hW9.alike⟩, hS.F ht⟩) hS.2.2 dX0_compare_99 hlocks
theorem hi_X0_searchWith_X0 : ∀ w ∈ u_ws RX0 TX0 7, w ∈ wsX0_searchWith := by decide +kernel
theorem hd_X0_searchWith : yX0_searchWith.cls = RX0 ∧ yX0_searchWith.cls ≠ "java/lang/invoke/MethodHandle" ∧ yX0_searchWith.cls ≠ "java/lang/invoke/VarHandle" ∧ (parseMethodDescriptor yX0_searchWith.desc).map (fun d => d.parameters.length) = some 2 := by decide +kernel
set_option maxHeartbeats 4000000 in
set_option maxRecDepth 100000 in
theorem c_X0_searchWith (l : Launch) {D : va_G} {cy : Nat → ClassId} {X : va_W} (S : wPS) (sz : Nat) (o1 : Nat) (h_o1 : isA S o1 0) (x1 : Int32) (x2 : Int32) (hW : wtB S []) (ha : 0 ≤ x1.toInt ∧ x1.toInt < (S.I o1 2).toInt) (hb2 : 0 ≤ x2.toInt ∧ x2.toInt < (S.I o1 2).toInt) (hc : (S.I o1 2).toInt ≤ 16) : Met l yX0_searchWith wsX0_searchWith ({ frames := 2, cells := 0, slots := 0, locals := 41 }) (va_Pc [.ref o1, .int x1, .int x2] (fun U => U.heap.size = sz ∧ WD D cy X (fun _ => True) S U ∧ NW U)) (va_Qv (fun (u : wPS) => stp [(0, 5), (0, 6), (17, 100)] [] [] S u) (fun u t => WD D cy X (va_A (X ++ PL cy S) sz) u t) (va_A (X ++ PL cy S) sz)) 0 0 (va_A (X ++ PL cy S) sz) := by
  refine Met.ofW (cc := cX0_searchWith) (maxL := 5) (ret := none) (by decide) rfl ?_
  intro p e s m args below meth c s₁ B hml hv
  obtain ⟨rfl, hsz, ⟨hP, hK, hD0⟩, hN⟩ := hv
  have hx := B.exec
  have hb := B.bytes
  have hr := B.returns
  have hts := atoms_spec (ws := wsX0_searchWith) B.pre
  have hown : s.vm.findClass RX0 = some m.cls := findClass_of_methodNamed (x := yX0_searchWith) B.named
  have hlocks := B.notSynchronized
  subst hsz
  have hD := hD0.self (sz := s.heap.size)
  generalize hAe : va_A (X ++ PL cy S) s.heap.size = A at hD ⊢
  have hA : ∀ q : Nat, s.heap.size ≤ q → A q := fun q h => by rw [← hAe]; exact Or.inr h
  have hS : va_S A s.heap s.heap [] := va_S.rf
  have hl := lv_entry ([.ref o1, .int x1, .int x2]) (n := 5) (Nat.le_of_ble_eq_true rfl)
  rw [lg_entry_eq]
  generalize (lg_sl ([.ref o1, .int x1, .int x2]) ++ List.replicate (5 - (lg_sl ([.ref o1, .int x1, .int x2])).length) Slot.unset).toArray = ls at hl ⊢
  have hl : lv_has ls 5 [(0, .ref o1), (1, .int x1), (2, .int x2)] := hl
  have t0 : stp [(0, 5), (0, 6), (17, 100)] [] [] S S := stp.rf hW
  refine lv_iload_n hx hb dX0_searchWith_0 rfl (lv_at hl 1 rfl) ?_
  refine lv_iconst (v := 1) hx hb dX0_searchWith_1 (by decide) ?_
  refine lv_iadd hx hb dX0_searchWith_2 ?_
  refine lv_istore_n (lv' := [(3, .int (x1 + (1 : Int32))), (0, .ref o1), (1, .int x1), (2, .int x2)]) hx hb dX0_searchWith_3 rfl hl (by decide) rfl (fun ls hl => ?_)
  have l32_1 : (1 : Int32).toInt = 1 := rfl
  have i1 : (x1 + (1 : Int32)).toInt = x1.toInt + 1 := t_addr (n := 1) rfl (by omega)
  have loop4 : ∀ (n : Nat) (S4_ : wPS) (w4_3 : Int32) (H : Heap) (locs : List Loc) (ls : Array Slot), (20 - w4_3.toInt).toNat < n → 0 ≤ w4_3.toInt ∧ w4_3.toInt ≤ 16 ∧ (S4_.I o1 2).toInt = (S.I o1 2).toInt → stp [(0, 5), (0, 6), (17, 100)] [] [] S S4_ → va_P D vwCl (X ++ PL cy S4_) H → va_D A (X ++ PL cy S4_) → va_S A s.heap H locs → lv_has ls 5 [(3, .int w4_3), (0, .ref o1), (1, .int x1), (2, .int x2)] → (∀ (S4_x : wPS) (w4_3x : Int32) (H : Heap) (locs : List Loc) (ls : Array Slot), 0 ≤ w4_3x.toInt ∧ w4_3x.toInt ≤ 16 ∧ (S4_x.I o1 2).toInt = (S.I o1 2).toInt → stp [(0, 5), (0, 6), (17, 100)] [] [] S S4_x → va_P D vwCl (X ++ PL cy S4_x) H → va_D A (X ++ PL cy S4_x) → va_S A s.heap H locs → lv_has ls 5 [(3, .int w4_3x), (0, .ref o1), (1, .int x1), (2, .int x2)] → W p l e (headSpec wsX0_searchWith ({ frames := 2, cells := 0, slots := 0, locals := 41 } : Room)).room s m [.ref o1, .int x1, .int x2].toArray below meth c H locs 0 0 (MQ below (va_Qv (fun (u : wPS) => stp [(0, 5), (0, 6), (17, 100)] [] [] S u) (fun u t => WD D cy X A u t) A) [.ref o1, .int x1, .int x2].toArray s 0 0 A) (F0 m 84 ls [])) → W p l e (headSpec wsX0_searchWith ({ frames := 2, cells := 0, slots := 0, locals := 41 } : Room)).room s m [.ref o1, .int x1, .int x2].toArray below meth c H locs 0 0 (MQ below (va_Qv (fun (u : wPS) => stp [(0, 5), (0, 6), (17, 100)] [] [] S u) (fun u t => WD D cy X A u t) A) [.ref o1, .int x1, .int x2].toArray s 0 0 A) (F0 m 4 ls []) := by
    intro n4
    induction n4 with
    | zero => intro S4_ w4_3 H locs ls hm; exact absurd hm (Nat.not_lt_zero _)
    | succ n4 ih4 =>
      intro S4_ w4_3 H locs ls hm4 hi4 hsh4 hP hD hS hl ko4
      refine lv_iload_n hx hb dX0_searchWith_4 rfl (lv_at hl 0 rfl) ?_
      refine lv_aload_n hx hb dX0_searchWith_5 rfl (lv_at hl 1 rfl) ?_
      obtain ⟨k2, gk2, hk2⟩ := wGt (cy := cy) X S4_ (hsh4.x.A h_o1).1 (hsh4.x.A h_o1).2.1
      have i3 := ((hsh4.w.at (hsh4.x.A h_o1) List.not_mem_nil).to_0 (hsh4.x.A h_o1).2.1).R2
      refine va_get (D := D) (ci := 4) (v := .int (S4_.I o1 2)) (C := RX0) (T := TX0) (N := 7) hx hb hts hi_X0_searchWith_X0 hown hK hP k2 hk2 rfl 2 (by decide) (hts (.fieldLink RX0 18 "Hobhouse$Box" "count" "I") (by decide +kernel)) (fun _ h9 => h9) rfl dX0_searchWith_6 ?_
      refine lv_icmp_ge (tgt := 84) hx hb dX0_searchWith_9 (by decide) (fun c4 => ?_) (fun c4 => ?_)
      · have c4i : (S4_.I o1 2).toInt ≤ w4_3.toInt := le_v rfl rfl c4
        exact ko4 S4_ w4_3 _ _ _ (by omega) hsh4 hP hD hS (lv_sub hl [0, 1, 2, 3] rfl)
      · have c4i : w4_3.toInt < (S4_.I o1 2).toInt := nle_v rfl rfl c4
        refine lv_iload_n hx hb dX0_searchWith_12 rfl (lv_at hl 3 rfl) ?_
        refine lv_iconst (v := 1) hx hb dX0_searchWith_13 (by decide) ?_
        refine lv_iadd hx hb dX0_searchWith_14 ?_
        refine lv_istore (lv' := [(4, .int (x2 + (1 : Int32))), (3, .int w4_3), (0, .ref o1), (1, .int x1), (2, .int x2)]) hx hb dX0_searchWith_15 hl (by decide) rfl (fun ls hl => ?_)
        have i5 : (x2 + (1 : Int32)).toInt = x2.toInt + 1 := t_addr (n := 1) rfl (by omega)
        have loop17 : ∀ (n : Nat) (S17_ : wPS) (w17_4 : Int32) (H : Heap) (locs : List Loc) (ls : Array Slot), (20 - w17_4.toInt).toNat < n → 0 ≤ w17_4.toInt ∧ w17_4.toInt ≤ 16 ∧ (S17_.I o1 2).toInt = (S.I o1 2).toInt → stp [(0, 5), (0, 6), (17, 100)] [] [] S4_ S17_ → va_P D vwCl (X ++ PL cy S17_) H → va_D A (X ++ PL cy S17_) → va_S A s.heap H locs → lv_has ls 5 [(4, .int w17_4), (3, .int w4_3), (0, .ref o1), (1, .int x1), (2, .int x2)] → (∀ (S17_x : wPS) (w17_4x : Int32) (H : Heap) (locs : List Loc) (ls : Array Slot), 0 ≤ w17_4x.toInt ∧ w17_4x.toInt ≤ 16 ∧ (S17_x.I o1 2).toInt = (S.I o1 2).toInt → stp [(0, 5), (0, 6), (17, 100)] [] [] S4_ S17_x → va_P D vwCl (X ++ PL cy S17_x) H → va_D A (X ++ PL cy S17_x) → va_S A s.heap H locs → lv_has ls 5 [(4, .int w17_4x), (3, .int w4_3), (0, .ref o1), (1, .int x1), (2, .int x2)] → W p l e (headSpec wsX0_searchWith ({ frames := 2, cells := 0, slots := 0, locals := 41 } : Room)).room s m [.ref o1, .int x1, .int x2].toArray below meth c H locs 0 0 (MQ below (va_Qv (fun (u : wPS) => stp [(0, 5), (0, 6), (17, 100)] [] [] S u) (fun u t => WD D cy X A u t) A) [.ref o1, .int x1, .int x2].toArray s 0 0 A) (F0 m 78 ls [])) → W p l e (headSpec wsX0_searchWith ({ frames := 2, cells := 0, slots := 0, locals := 41 } : Room)).room s m [.ref o1, .int x1, .int x2].toArray below meth c H locs 0 0 (MQ below (va_Qv (fun (u : wPS) => stp [(0, 5), (0, 6), (17, 100)] [] [] S u) (fun u t => WD D cy X A u t) A) [.ref o1, .int x1, .int x2].toArray s 0 0 A) (F0 m 17 ls []) := by
          intro n17
          induction n17 with
          | zero => intro S17_ w17_4 H locs ls hm; exact absurd hm (Nat.not_lt_zero _)
          | succ n17 ih17 =>
            intro S17_ w17_4 H locs ls hm17 hi17 hsh17 hP hD hS hl ko17
            refine lv_iload hx hb dX0_searchWith_17 (lv_at hl 0 rfl) ?_
            refine lv_aload_n hx hb dX0_searchWith_19 rfl (lv_at hl 2 rfl) ?_
            obtain ⟨k6, gk6, hk6⟩ := wGt (cy := cy) X S17_ (hsh17.x.A (hsh4.x.A h_o1)).1 (hsh17.x.A (hsh4.x.A h_o1)).2.1
            have i7 := ((hsh17.w.at (hsh17.x.A (hsh4.x.A h_o1)) List.not_mem_nil).to_0 (hsh17.x.A (hsh4.x.A h_o1)).2.1).R2
            refine va_get (D := D) (ci := 4) (v := .int (S17_.I o1 2)) (C := RX0) (T := TX0) (N := 7) hx hb hts hi_X0_searchWith_X0 hown hK hP k6 hk6 rfl 2 (by decide) (hts (.fieldLink RX0 18 "Hobhouse$Box" "count" "I") (by decide +kernel)) (fun _ h9 => h9) rfl dX0_searchWith_20 ?_
            refine lv_icmp_ge (tgt := 78) hx hb dX0_searchWith_23 (by decide) (fun c8 => ?_) (fun c8 => ?_)
            · have c8i : (S17_.I o1 2).toInt ≤ w17_4.toInt := le_v rfl rfl c8
              exact ko17 S17_ w17_4 _ _ _ (by omega) hsh17 hP hD hS (lv_sub hl [0, 1, 2, 3, 4] rfl)
            · have c8i : w17_4.toInt < (S17_.I o1 2).toInt := nle_v rfl rfl c8
              refine lv_iload_n hx hb dX0_searchWith_26 rfl (lv_at hl 1 rfl) ?_
              refine lv_iload_n hx hb dX0_searchWith_27 rfl (lv_at hl 4 rfl) ?_
              refine lv_icmp_eq (tgt := 72) hx hb dX0_searchWith_28 (by decide) (fun c9 => ?_) (fun c9 => ?_)
              · have c9i : w4_3.toInt = x2.toInt := eq_v rfl rfl c9
                refine lv_iinc (v := w17_4 + (1 : Int32)) (lv' := [(4, .int (w17_4 + (1 : Int32))), (3, .int w4_3), (0, .ref o1), (1, .int x1), (2, .int x2)]) hx hb dX0_searchWith_72 hl (k := 0) rfl (by rfl) (by decide) rfl (fun ls hl => ?_)
                refine lv_goto (tgt := 17) hx hb dX0_searchWith_75 (by decide) ?_
                have i10 : (w17_4 + (1 : Int32)).toInt = w17_4.toInt + 1 := t_addr (n := 1) rfl (by omega)
                exact ih17 S17_ (w17_4 + (1 : Int32)) _ _ _ (Nat.lt_of_lt_of_le (by omega) (Nat.le_of_lt_succ hm17)) (by omega) hsh17 hP hD hS (lv_sub hl [0, 1, 2, 3, 4] rfl) ko17
              · have c9i : ¬ w4_3.toInt = x2.toInt := neq_v rfl rfl c9
                refine lv_iload_n hx hb dX0_searchWith_31 rfl (lv_at hl 1 rfl) ?_
                refine lv_iload hx hb dX0_searchWith_32 (lv_at hl 0 rfl) ?_
                refine lv_icmp_eq (tgt := 72) hx hb dX0_searchWith_34 (by decide) (fun c11 => ?_) (fun c11 => ?_)
                · have c11i : w4_3.toInt = w17_4.toInt := eq_v rfl rfl c11
                  refine lv_iinc (v := w17_4 + (1 : Int32)) (lv' := [(4, .int (w17_4 + (1 : Int32))), (3, .int w4_3), (0, .ref o1), (1, .int x1), (2, .int x2)]) hx hb dX0_searchWith_72 hl (k := 0) rfl (by rfl) (by decide) rfl (fun ls hl => ?_)
                  refine lv_goto (tgt := 17) hx hb dX0_searchWith_75 (by decide) ?_
                  have i12 : (w17_4 + (1 : Int32)).toInt = w17_4.toInt + 1 := t_addr (n := 1) rfl (by omega)
                  exact ih17 S17_ (w17_4 + (1 : Int32)) _ _ _ (Nat.lt_of_lt_of_le (by omega) (Nat.le_of_lt_succ hm17)) (by omega) hsh17 hP hD hS (lv_sub hl [0, 1, 2, 3, 4] rfl) ko17
                · have c11i : ¬ w4_3.toInt = w17_4.toInt := neq_v rfl rfl c11
                  refine lv_iload hx hb dX0_searchWith_37 (lv_at hl 0 rfl) ?_
                  refine lv_iload_n hx hb dX0_searchWith_39 rfl (lv_at hl 3 rfl) ?_
                  refine lv_icmp_eq (tgt := 72) hx hb dX0_searchWith_40 (by decide) (fun c13 => ?_) (fun c13 => ?_)
                  · have c13i : w17_4.toInt = x1.toInt := eq_v rfl rfl c13
                    refine lv_iinc (v := w17_4 + (1 : Int32)) (lv' := [(4, .int (w17_4 + (1 : Int32))), (3, .int w4_3), (0, .ref o1), (1, .int x1), (2, .int x2)]) hx hb dX0_searchWith_72 hl (k := 0) rfl (by rfl) (by decide) rfl (fun ls hl => ?_)
                    refine lv_goto (tgt := 17) hx hb dX0_searchWith_75 (by decide) ?_
                    have i14 : (w17_4 + (1 : Int32)).toInt = w17_4.toInt + 1 := t_addr (n := 1) rfl (by omega)
                    exact ih17 S17_ (w17_4 + (1 : Int32)) _ _ _ (Nat.lt_of_lt_of_le (by omega) (Nat.le_of_lt_succ hm17)) (by omega) hsh17 hP hD hS (lv_sub hl [0, 1, 2, 3, 4] rfl) ko17
                  · have c13i : ¬ w17_4.toInt = x1.toInt := neq_v rfl rfl c13
                    refine lv_aload_n hx hb dX0_searchWith_43 rfl (lv_at hl 2 rfl) ?_
                    refine lv_aload_n hx hb dX0_searchWith_44 rfl (lv_at hl 2 rfl) ?_
                    have F15 := ((hW.at h_o1 List.not_mem_nil).to_0 h_o1.2.1).F0
                    obtain ⟨k16, gk16, hk16⟩ := wGt (cy := cy) X S17_ (hsh17.x.A (hsh4.x.A h_o1)).1 (hsh17.x.A (hsh4.x.A h_o1)).2.1
                    simp only [kE, ((hsh4.x.tr hsh17.x).F h_o1 (by decide) F15.1)] at hk16
                    refine va_get (D := D) (ci := 4) (v := .ref (S.f o1 0)) (C := RX0) (T := TX0) (N := 7) hx hb hts hi_X0_searchWith_X0 hown hK hP k16 hk16 rfl 0 (by decide) (hts (.fieldLink RX0 9 "Hobhouse$Box" "wheels" "[I") (by decide +kernel)) (fun _ h9 => h9) rfl dX0_searchWith_45 ?_
                    refine lv_iload_n hx hb dX0_searchWith_48 rfl (lv_at hl 3 rfl) ?_
                    obtain ⟨k17, gk17, hk17⟩ := wGt (cy := cy) X S17_ ((hsh4.x.tr hsh17.x).A F15.2.1).1 ((hsh4.x.tr hsh17.x).A F15.2.1).2.1
                    refine va_iald hx hb hK hP k17 2 hk17 rfl (inb (m := 16) (((hsh4.x.tr hsh17.x).n F15.2.1).trans F15.2.2) (by omega) (by omega)) dX0_searchWith_49 ?_
                    refine lv_aload_n hx hb dX0_searchWith_50 rfl (lv_at hl 2 rfl) ?_
                    obtain ⟨k18, gk18, hk18⟩ := wGt (cy := cy) X S17_ (hsh17.x.A (hsh4.x.A h_o1)).1 (hsh17.x.A (hsh4.x.A h_o1)).2.1
                    simp only [kE, ((hsh4.x.tr hsh17.x).F h_o1 (by decide) F15.1)] at hk18
                    refine va_get (D := D) (ci := 4) (v := .ref (S.f o1 0)) (C := RX0) (T := TX0) (N := 7) hx hb hts hi_X0_searchWith_X0 hown hK hP k18 hk18 rfl 0 (by decide) (hts (.fieldLink RX0 9 "Hobhouse$Box" "wheels" "[I") (by decide +kernel)) (fun _ h9 => h9) rfl dX0_searchWith_51 ?_
                    refine lv_iload_n hx hb dX0_searchWith_54 rfl (lv_at hl 4 rfl) ?_
                    obtain ⟨k19, gk19, hk19⟩ := wGt (cy := cy) X S17_ ((hsh4.x.tr hsh17.x).A F15.2.1).1 ((hsh4.x.tr hsh17.x).A F15.2.1).2.1
                    refine va_iald hx hb hK hP k19 2 hk19 rfl (inb (m := 16) (((hsh4.x.tr hsh17.x).n F15.2.1).trans F15.2.2) (by omega) (by omega)) dX0_searchWith_55 ?_
                    refine lv_aload_n hx hb dX0_searchWith_56 rfl (lv_at hl 2 rfl) ?_
                    obtain ⟨k20, gk20, hk20⟩ := wGt (cy := cy) X S17_ (hsh17.x.A (hsh4.x.A h_o1)).1 (hsh17.x.A (hsh4.x.A h_o1)).2.1
                    simp only [kE, ((hsh4.x.tr hsh17.x).F h_o1 (by decide) F15.1)] at hk20
                    refine va_get (D := D) (ci := 4) (v := .ref (S.f o1 0)) (C := RX0) (T := TX0) (N := 7) hx hb hts hi_X0_searchWith_X0 hown hK hP k20 hk20 rfl 0 (by decide) (hts (.fieldLink RX0 9 "Hobhouse$Box" "wheels" "[I") (by decide +kernel)) (fun _ h9 => h9) rfl dX0_searchWith_57 ?_
                    refine lv_iload_n hx hb dX0_searchWith_60 rfl (lv_at hl 1 rfl) ?_
                    obtain ⟨k21, gk21, hk21⟩ := wGt (cy := cy) X S17_ ((hsh4.x.tr hsh17.x).A F15.2.1).1 ((hsh4.x.tr hsh17.x).A F15.2.1).2.1
                    refine va_iald hx hb hK hP k21 2 hk21 rfl (inb (m := 16) (((hsh4.x.tr hsh17.x).n F15.2.1).trans F15.2.2) (by omega) (by omega)) dX0_searchWith_61 ?_
                    refine lv_aload_n hx hb dX0_searchWith_62 rfl (lv_at hl 2 rfl) ?_
                    obtain ⟨k22, gk22, hk22⟩ := wGt (cy := cy) X S17_ (hsh17.x.A (hsh4.x.A h_o1)).1 (hsh17.x.A (hsh4.x.A h_o1)).2.1
                    simp only [kE, ((hsh4.x.tr hsh17.x).F h_o1 (by decide) F15.1)] at hk22
                    refine va_get (D := D) (ci := 4) (v := .ref (S.f o1 0)) (C := RX0) (T := TX0) (N := 7) hx hb hts hi_X0_searchWith_X0 hown hK hP k22 hk22 rfl 0 (by decide) (hts (.fieldLink RX0 9 "Hobhouse$Box" "wheels" "[I") (by decide +kernel)) (fun _ h9 => h9) rfl dX0_searchWith_63 ?_
                    refine lv_iload hx hb dX0_searchWith_66 (lv_at hl 0 rfl) ?_
                    obtain ⟨k23, gk23, hk23⟩ := wGt (cy := cy) X S17_ ((hsh4.x.tr hsh17.x).A F15.2.1).1 ((hsh4.x.tr hsh17.x).A F15.2.1).2.1
                    refine va_iald hx hb hK hP k23 2 hk23 rfl (inb (m := 16) (((hsh4.x.tr hsh17.x).n F15.2.1).trans F15.2.2) (by omega) (by omega)) dX0_searchWith_68 ?_
                    have hFc := free_all hD hS hA
                    obtain ⟨k24, gk24, hk24⟩ := wGt (cy := cy) X S17_ (hsh17.x.A (hsh4.x.A h_o1)).1 (hsh17.x.A (hsh4.x.A h_o1)).2.1
                    refine va_callv (va_runV (As := [.int (S17_.i (S.f o1 0) x1.toNatClampNeg), .int (S17_.i (S.f o1 0) x2.toNatClampNeg), .int (S17_.i (S.f o1 0) w4_3.toNatClampNeg), .int (S17_.i (S.f o1 0) w17_4.toNatClampNeg)]) (rest := []) ⟨hx, hb, hml, hown, hts⟩ (c_X0_compare l (cy := cy) (X := X) (D := D) S17_ _ o1 (hsh17.x.A (hsh4.x.A h_o1)) (S17_.i (S.f o1 0) x1.toNatClampNeg) (S17_.i (S.f o1 0) x2.toNatClampNeg) (S17_.i (S.f o1 0) w4_3.toNatClampNeg) (S17_.i (S.f o1 0) w17_4.toNatClampNeg) (hsh17.w)) (cwV 4 hts gX0_searchWith_X0_compare rfl rfl rfl hd_X0_compare ⟨Nat.le_of_ble_eq_true rfl, Nat.le_of_ble_eq_true rfl⟩) (pV (va_recv hK hP (q := (RX0, TX0, 7)) (ci := 4) (q0 := k24) rfl hk24) hP hK hD hN) rfl rfl hl.1 rfl (lv_room (Nat.le_of_ble_eq_true rfl)) dX0_searchWith_69 ⟨(Nat.zero_le _), (Nat.zero_le _)⟩) hS (fun q _ h => hFc q h) hFc (fun u t H1 locs ht hvm hw hB hz1 hk1 hS => ?_)
                    have w26 := hw
                    obtain ⟨hP, hD⟩ := wd_post hFc ht hB
                    generalize H1 = H at hP hS ⊢
                    obtain ⟨S27, rfl⟩ : ∃ z, z = u := ⟨_, rfl⟩
                    have t28 : stp [(0, 5), (0, 6), (17, 100)] [] [] S4_ S27 := hsh17.tr w26 (by decide) (fun _ q => absurd q List.not_mem_nil)
                    have xe29 : ext S17_ S27 := w26.x
                    have k30 : (S27.I o1 2).toInt = (S17_.I o1 2).toInt := by rw [(w26.fR o1 ((hsh4.x.tr hsh17.x).A h_o1).1 List.not_mem_nil).1 2 (by rw [((hsh4.x.tr hsh17.x).A h_o1).2.1]; decide) |>.1]
                    refine lv_iinc (v := w17_4 + (1 : Int32)) (lv' := [(4, .int (w17_4 + (1 : Int32))), (3, .int w4_3), (0, .ref o1), (1, .int x1), (2, .int x2)]) hx hb dX0_searchWith_72 hl (k := 0) rfl (by rfl) (by decide) rfl (fun ls hl => ?_)
                    refine lv_goto (tgt := 17) hx hb dX0_searchWith_75 (by decide) ?_
                    have i31 : (w17_4 + (1 : Int32)).toInt = w17_4.toInt + 1 := t_addr (n := 1) rfl (by omega)
                    exact ih17 S27 (w17_4 + (1 : Int32)) _ _ _ (Nat.lt_of_lt_of_le (by omega) (Nat.le_of_lt_succ hm17)) (by omega) t28 hP hD hS (lv_sub hl [0, 1, 2, 3, 4] rfl) ko17
        refine loop17 21 S4_ (x2 + (1 : Int32)) _ _ _ (by omega) (by omega) (stp.rf hsh4.w) hP hD hS (lv_sub hl [0, 1, 2, 3, 4] rfl) (fun S33 z34 H locs ls hi17 hsh17 hP hD hS hl => ?_)
        have t35 : stp [(0, 5), (0, 6), (17, 100)] [] [] S S33 := hsh4.tr hsh17 (fun _ q => q) (fun _ q => Or.inl q)
        have et35 := hsh17.x
        refine lv_iinc (v := w4_3 + (1 : Int32)) (lv' := [(3, .int (w4_3 + (1 : Int32))), (4, .int z34), (0, .ref o1), (1, .int x1), (2, .int x2)]) hx hb dX0_searchWith_78 hl (k := 1) rfl (by rfl) (by decide) rfl (fun ls hl => ?_)
        refine lv_goto (tgt := 4) hx hb dX0_searchWith_81 (by decide) ?_
        have i36 : (w4_3 + (1 : Int32)).toInt = w4_3.toInt + 1 := t_addr (n := 1) rfl (by omega)
        exact ih4 S33 (w4_3 + (1 : Int32)) _ _ _ (Nat.lt_of_lt_of_le (by omega) (Nat.le_of_lt_succ hm4)) (by omega) t35 hP hD hS (lv_sub hl [0, 2, 3, 4] rfl) ko4
  refine loop4 21 S (x1 + (1 : Int32)) _ _ _ (by omega) (by omega) (stp.rf hW) hP hD hS (lv_sub hl [0, 1, 2, 3] rfl) (fun S38 z39 H locs ls hi4 hsh4 hP hD hS hl => ?_)
  have t40 : stp [(0, 5), (0, 6), (17, 100)] [] [] S S38 := t0.tr hsh4 (fun _ q => q) (fun _ q => Or.inl q)
  have et40 := hsh4.x
  refine W.widen (k := 0) (n := 0) (Nat.le_of_ble_eq_true rfl) (Nat.le_of_ble_eq_true rfl) ?_
  exact W.vret hx hb hr (fun t ht hW9 => ⟨⟨S38, rfl, t40, wd_end hP hK hD ht hW9.alike⟩, hS.F ht⟩) hS.2.2 dX0_searchWith_84 hlocks
theorem hi_X0_search_X0 : ∀ w ∈ u_ws RX0 TX0 7, w ∈ wsX0_search := by decide +kernel
theorem hd_X0_search : yX0_search.cls = RX0 ∧ yX0_search.cls ≠ "java/lang/invoke/MethodHandle" ∧ yX0_search.cls ≠ "java/lang/invoke/VarHandle" ∧ (parseMethodDescriptor yX0_search.desc).map (fun d => d.parameters.length) = some 2 := by decide +kernel
set_option maxHeartbeats 4000000 in
set_option maxRecDepth 100000 in
theorem c_X0_search (l : Launch) {D : va_G} {cy : Nat → ClassId} {X : va_W} (S : wPS) (sz : Nat) (o1 : Nat) (h_o1 : isA S o1 0) (x1 : Int64) (x2 : Int64) (hW : wtB S [])  : Met l yX0_search wsX0_search ({ frames := 3, cells := 0, slots := 0, locals := 65 }) (va_Pc [.ref o1, .long x1, .long x2] (fun U => U.heap.size = sz ∧ WD D cy X (fun _ => True) S U ∧ NW U)) (va_Qv (fun (u : wPS) => stp [(0, 3), (0, 4), (0, 5), (0, 6), (17, 100)] [] [] S u) (fun u t => WD D cy X (va_A (X ++ PL cy S) sz) u t) (va_A (X ++ PL cy S) sz)) 0 0 (va_A (X ++ PL cy S) sz) := by
  refine Met.ofW (cc := cX0_search) (maxL := 7) (ret := none) (by decide) rfl ?_
  intro p e s m args below meth c s₁ B hml hv
  obtain ⟨rfl, hsz, ⟨hP, hK, hD0⟩, hN⟩ := hv
  have hx := B.exec
  have hb := B.bytes
  have hr := B.returns
  have hts := atoms_spec (ws := wsX0_search) B.pre
  have hown : s.vm.findClass RX0 = some m.cls := findClass_of_methodNamed (x := yX0_search) B.named
  have hlocks := B.notSynchronized
  subst hsz
  have hD := hD0.self (sz := s.heap.size)
  generalize hAe : va_A (X ++ PL cy S) s.heap.size = A at hD ⊢
  have hA : ∀ q : Nat, s.heap.size ≤ q → A q := fun q h => by rw [← hAe]; exact Or.inr h
  have hS : va_S A s.heap s.heap [] := va_S.rf
  have hl := lv_entry ([.ref o1, .long x1, .long x2]) (n := 7) (Nat.le_of_ble_eq_true rfl)
  rw [lg_entry_eq]
  generalize (lg_sl ([.ref o1, .long x1, .long x2]) ++ List.replicate (7 - (lg_sl ([.ref o1, .long x1, .long x2])).length) Slot.unset).toArray = ls at hl ⊢
  have hl : lv_has ls 7 [(0, .ref o1), (1, .long x1), (3, .long x2)] := hl
  have t0 : stp [(0, 3), (0, 4), (0, 5), (0, 6), (17, 100)] [] [] S S := stp.rf hW
  refine lv_aload_n hx hb dX0_search_0 rfl (lv_at hl 0 rfl) ?_
  refine lv_lload_n hx hb dX0_search_1 rfl (lv_at hl 1 rfl) ?_
  obtain ⟨k1, gk1, hk1⟩ := wGt (cy := cy) X S h_o1.1 h_o1.2.1
  refine va_put (D := D) (ci := 4) (v := .long x1) (ty := .long) (C := RX0) (T := TX0) (N := 7) hx hb hts hi_X0_search_X0 tyX0 tyX0_ok nmX0 hown hK hP hD hS k1 hk1 rfl 3 (by decide) (hts (.fieldLink RX0 22 "Hobhouse$Box" "ratioUp" "J") (by decide +kernel)) (fun _ h9 => h9) rfl (by decide +kernel) (rfl) (rfl) (Nat.le_of_ble_eq_true rfl) dX0_search_2 (fun H locs hP2 hD2 hS => ?_)
  have e9 := wPuJ (cy := cy) (j := 3) (v := x1) hD h_o1.1 h_o1.2.1 gk1 rfl
  obtain ⟨S2, hS2⟩ : ∃ z, S.sJ o1 3 x1 = z := ⟨_, rfl⟩
  have hP : va_P D vwCl (X ++ PL cy S2) H := by rw [← hS2, ← e9]; exact hP2
  have hD : va_D A (X ++ PL cy S2) := by rw [← hS2, ← e9]; exact hD2
  have xe3 : ext S S2 := by rw [← hS2]; exact ext.sJ _ _ _ _
  have t4 : stp [(0, 3), (0, 4), (0, 5), (0, 6), (17, 100)] [] [] S S2 := by rw [← hS2]; exact t0.J 3 x1 h_o1 (by decide)
  have k5 : (S2.I o1 2).toInt = (S.I o1 2).toInt := by rw [← hS2]; rfl
  refine lv_aload_n hx hb dX0_search_5 rfl (lv_at hl 0 rfl) ?_
  refine lv_lload_n hx hb dX0_search_6 rfl (lv_at hl 2 rfl) ?_
  obtain ⟨k6, gk6, hk6⟩ := wGt (cy := cy) X S2 (xe3.A h_o1).1 (xe3.A h_o1).2.1
  refine va_put (D := D) (ci := 4) (v := .long x2) (ty := .long) (C := RX0) (T := TX0) (N := 7) hx hb hts hi_X0_search_X0 tyX0 tyX0_ok nmX0 hown hK hP hD hS k6 hk6 rfl 4 (by decide) (hts (.fieldLink RX0 26 "Hobhouse$Box" "ratioDown" "J") (by decide +kernel)) (fun _ h9 => h9) rfl (by decide +kernel) (rfl) (rfl) (Nat.le_of_ble_eq_true rfl) dX0_search_7 (fun H locs hP2 hD2 hS => ?_)
  have e9 := wPuJ (cy := cy) (j := 4) (v := x2) hD (xe3.A h_o1).1 (xe3.A h_o1).2.1 gk6 rfl
  obtain ⟨S7, hS7⟩ : ∃ z, S2.sJ o1 4 x2 = z := ⟨_, rfl⟩
  have hP : va_P D vwCl (X ++ PL cy S7) H := by rw [← hS7, ← e9]; exact hP2
  have hD : va_D A (X ++ PL cy S7) := by rw [← hS7, ← e9]; exact hD2
  have xe8 : ext S2 S7 := by rw [← hS7]; exact ext.sJ _ _ _ _
  have t9 : stp [(0, 3), (0, 4), (0, 5), (0, 6), (17, 100)] [] [] S S7 := by rw [← hS7]; exact t4.J 4 x2 (xe3.A h_o1) (by decide)
  have k10 : (S7.I o1 2).toInt = (S2.I o1 2).toInt := by rw [← hS7]; rfl
  refine lv_aload_n hx hb dX0_search_10 rfl (lv_at hl 0 rfl) ?_
  refine lv_ldc2 (own := RX0) (v := 9223372036854775807) hx hb hown (hts (.constantLong RX0 29 (9223372036854775807)) (by decide +kernel)) dX0_search_11 ?_
  obtain ⟨k11, gk11, hk11⟩ := wGt (cy := cy) X S7 (xe8.A (xe3.A h_o1)).1 (xe8.A (xe3.A h_o1)).2.1
  refine va_put (D := D) (ci := 4) (v := .long (9223372036854775807 : Int64)) (ty := .long) (C := RX0) (T := TX0) (N := 7) hx hb hts hi_X0_search_X0 tyX0 tyX0_ok nmX0 hown hK hP hD hS k11 hk11 rfl 5 (by decide) (hts (.fieldLink RX0 31 "Hobhouse$Box" "leastError" "J") (by decide +kernel)) (fun _ h9 => h9) rfl (by decide +kernel) (rfl) (rfl) (Nat.le_of_ble_eq_true rfl) dX0_search_14 (fun H locs hP2 hD2 hS => ?_)
  have e9 := wPuJ (cy := cy) (j := 5) (v := (9223372036854775807 : Int64)) hD (xe8.A (xe3.A h_o1)).1 (xe8.A (xe3.A h_o1)).2.1 gk11 rfl
  obtain ⟨S12, hS12⟩ : ∃ z, S7.sJ o1 5 (9223372036854775807 : Int64) = z := ⟨_, rfl⟩
  have hP : va_P D vwCl (X ++ PL cy S12) H := by rw [← hS12, ← e9]; exact hP2
  have hD : va_D A (X ++ PL cy S12) := by rw [← hS12, ← e9]; exact hD2
  have xe13 : ext S7 S12 := by rw [← hS12]; exact ext.sJ _ _ _ _
  have t14 : stp [(0, 3), (0, 4), (0, 5), (0, 6), (17, 100)] [] [] S S12 := by rw [← hS12]; exact t9.J 5 (9223372036854775807 : Int64) (xe8.A (xe3.A h_o1)) (by decide)
  have k15 : (S12.I o1 2).toInt = (S7.I o1 2).toInt := by rw [← hS12]; rfl
  refine lv_aload_n hx hb dX0_search_17 rfl (lv_at hl 0 rfl) ?_
  refine lv_lconst (v := 0) hx hb dX0_search_18 (by decide) ?_
  obtain ⟨k16, gk16, hk16⟩ := wGt (cy := cy) X S12 (xe13.A (xe8.A (xe3.A h_o1))).1 (xe13.A (xe8.A (xe3.A h_o1))).2.1
  refine va_put (D := D) (ci := 4) (v := .long (0 : Int64)) (ty := .long) (C := RX0) (T := TX0) (N := 7) hx hb hts hi_X0_search_X0 tyX0 tyX0_ok nmX0 hown hK hP hD hS k16 hk16 rfl 6 (by decide) (hts (.fieldLink RX0 34 "Hobhouse$Box" "leastBase" "J") (by decide +kernel)) (fun _ h9 => h9) rfl (by decide +kernel) (rfl) (rfl) (Nat.le_of_ble_eq_true rfl) dX0_search_19 (fun H locs hP2 hD2 hS => ?_)
  have e9 := wPuJ (cy := cy) (j := 6) (v := (0 : Int64)) hD (xe13.A (xe8.A (xe3.A h_o1))).1 (xe13.A (xe8.A (xe3.A h_o1))).2.1 gk16 rfl
  obtain ⟨S17, hS17⟩ : ∃ z, S12.sJ o1 6 (0 : Int64) = z := ⟨_, rfl⟩
  have hP : va_P D vwCl (X ++ PL cy S17) H := by rw [← hS17, ← e9]; exact hP2
  have hD : va_D A (X ++ PL cy S17) := by rw [← hS17, ← e9]; exact hD2
  have xe18 : ext S12 S17 := by rw [← hS17]; exact ext.sJ _ _ _ _
  have t19 : stp [(0, 3), (0, 4), (0, 5), (0, 6), (17, 100)] [] [] S S17 := by rw [← hS17]; exact t14.J 6 (0 : Int64) (xe13.A (xe8.A (xe3.A h_o1))) (by decide)
  have k20 : (S17.I o1 2).toInt = (S12.I o1 2).toInt := by rw [← hS17]; rfl
  refine lv_iconst (v := 0) hx hb dX0_search_22 (by decide) ?_
  refine lv_istore (lv' := [(5, .int (0 : Int32)), (0, .ref o1), (1, .long x1), (3, .long x2)]) hx hb dX0_search_23 hl (by decide) rfl (fun ls hl => ?_)
  have l32_0 : (0 : Int32).toInt = 0 := rfl
  have loop25 : ∀ (n : Nat) (S25_ : wPS) (w25_5 : Int32) (H : Heap) (locs : List Loc) (ls : Array Slot), (20 - w25_5.toInt).toNat < n → 0 ≤ w25_5.toInt ∧ w25_5.toInt ≤ 16 ∧ (S25_.I o1 2).toInt = (S.I o1 2).toInt → stp [(0, 3), (0, 4), (0, 5), (0, 6), (17, 100)] [] [] S17 S25_ → va_P D vwCl (X ++ PL cy S25_) H → va_D A (X ++ PL cy S25_) → va_S A s.heap H locs → lv_has ls 7 [(5, .int w25_5), (0, .ref o1), (1, .long x1), (3, .long x2)] → (∀ (S25_x : wPS) (w25_5x : Int32) (H : Heap) (locs : List Loc) (ls : Array Slot), 0 ≤ w25_5x.toInt ∧ w25_5x.toInt ≤ 16 ∧ (S25_x.I o1 2).toInt = (S.I o1 2).toInt → stp [(0, 3), (0, 4), (0, 5), (0, 6), (17, 100)] [] [] S17 S25_x → va_P D vwCl (X ++ PL cy S25_x) H → va_D A (X ++ PL cy S25_x) → va_S A s.heap H locs → lv_has ls 7 [(5, .int w25_5x), (0, .ref o1), (1, .long x1), (3, .long x2)] → W p l e (headSpec wsX0_search ({ frames := 3, cells := 0, slots := 0, locals := 65 } : Room)).room s m [.ref o1, .long x1, .long x2].toArray below meth c H locs 0 0 (MQ below (va_Qv (fun (u : wPS) => stp [(0, 3), (0, 4), (0, 5), (0, 6), (17, 100)] [] [] S u) (fun u t => WD D cy X A u t) A) [.ref o1, .long x1, .long x2].toArray s 0 0 A) (F0 m 73 ls [])) → W p l e (headSpec wsX0_search ({ frames := 3, cells := 0, slots := 0, locals := 65 } : Room)).room s m [.ref o1, .long x1, .long x2].toArray below meth c H locs 0 0 (MQ below (va_Qv (fun (u : wPS) => stp [(0, 3), (0, 4), (0, 5), (0, 6), (17, 100)] [] [] S u) (fun u t => WD D cy X A u t) A) [.ref o1, .long x1, .long x2].toArray s 0 0 A) (F0 m 25 ls []) := by
    intro n25
    induction n25 with
    | zero => intro S25_ w25_5 H locs ls hm; exact absurd hm (Nat.not_lt_zero _)
    | succ n25 ih25 =>
      intro S25_ w25_5 H locs ls hm25 hi25 hsh25 hP hD hS hl ko25
      refine lv_iload hx hb dX0_search_25 (lv_at hl 0 rfl) ?_
      refine lv_aload_n hx hb dX0_search_27 rfl (lv_at hl 1 rfl) ?_
      obtain ⟨k21, gk21, hk21⟩ := wGt (cy := cy) X S25_ ((xe18.tr hsh25.x).A (xe13.A (xe8.A (xe3.A h_o1)))).1 ((xe18.tr hsh25.x).A (xe13.A (xe8.A (xe3.A h_o1)))).2.1
      have i22 := ((hsh25.w.at ((xe18.tr hsh25.x).A (xe13.A (xe8.A (xe3.A h_o1)))) List.not_mem_nil).to_0 ((xe18.tr hsh25.x).A (xe13.A (xe8.A (xe3.A h_o1)))).2.1).R2
      refine va_get (D := D) (ci := 4) (v := .int (S25_.I o1 2)) (C := RX0) (T := TX0) (N := 7) hx hb hts hi_X0_search_X0 hown hK hP k21 hk21 rfl 2 (by decide) (hts (.fieldLink RX0 18 "Hobhouse$Box" "count" "I") (by decide +kernel)) (fun _ h9 => h9) rfl dX0_search_28 ?_
      refine lv_icmp_ge (tgt := 73) hx hb dX0_search_31 (by decide) (fun c23 => ?_) (fun c23 => ?_)
      · have c23i : (S25_.I o1 2).toInt ≤ w25_5.toInt := le_v rfl rfl c23
        exact ko25 S25_ w25_5 _ _ _ (by omega) hsh25 hP hD hS (lv_sub hl [0, 1, 2, 3] rfl)
      · have c23i : w25_5.toInt < (S25_.I o1 2).toInt := nle_v rfl rfl c23
        refine lv_iconst (v := 0) hx hb dX0_search_34 (by decide) ?_
        refine lv_istore (lv' := [(6, .int (0 : Int32)), (5, .int w25_5), (0, .ref o1), (1, .long x1), (3, .long x2)]) hx hb dX0_search_35 hl (by decide) rfl (fun ls hl => ?_)
        have loop37 : ∀ (n : Nat) (S37_ : wPS) (w37_6 : Int32) (H : Heap) (locs : List Loc) (ls : Array Slot), (20 - w37_6.toInt).toNat < n → 0 ≤ w37_6.toInt ∧ w37_6.toInt ≤ 16 ∧ (S37_.I o1 2).toInt = (S.I o1 2).toInt → stp [(0, 3), (0, 4), (0, 5), (0, 6), (17, 100)] [] [] S25_ S37_ → va_P D vwCl (X ++ PL cy S37_) H → va_D A (X ++ PL cy S37_) → va_S A s.heap H locs → lv_has ls 7 [(6, .int w37_6), (5, .int w25_5), (0, .ref o1), (1, .long x1), (3, .long x2)] → (∀ (S37_x : wPS) (w37_6x : Int32) (H : Heap) (locs : List Loc) (ls : Array Slot), 0 ≤ w37_6x.toInt ∧ w37_6x.toInt ≤ 16 ∧ (S37_x.I o1 2).toInt = (S.I o1 2).toInt → stp [(0, 3), (0, 4), (0, 5), (0, 6), (17, 100)] [] [] S25_ S37_x → va_P D vwCl (X ++ PL cy S37_x) H → va_D A (X ++ PL cy S37_x) → va_S A s.heap H locs → lv_has ls 7 [(6, .int w37_6x), (5, .int w25_5), (0, .ref o1), (1, .long x1), (3, .long x2)] → W p l e (headSpec wsX0_search ({ frames := 3, cells := 0, slots := 0, locals := 65 } : Room)).room s m [.ref o1, .long x1, .long x2].toArray below meth c H locs 0 0 (MQ below (va_Qv (fun (u : wPS) => stp [(0, 3), (0, 4), (0, 5), (0, 6), (17, 100)] [] [] S u) (fun u t => WD D cy X A u t) A) [.ref o1, .long x1, .long x2].toArray s 0 0 A) (F0 m 67 ls [])) → W p l e (headSpec wsX0_search ({ frames := 3, cells := 0, slots := 0, locals := 65 } : Room)).room s m [.ref o1, .long x1, .long x2].toArray below meth c H locs 0 0 (MQ below (va_Qv (fun (u : wPS) => stp [(0, 3), (0, 4), (0, 5), (0, 6), (17, 100)] [] [] S u) (fun u t => WD D cy X A u t) A) [.ref o1, .long x1, .long x2].toArray s 0 0 A) (F0 m 37 ls []) := by
          intro n37
          induction n37 with
          | zero => intro S37_ w37_6 H locs ls hm; exact absurd hm (Nat.not_lt_zero _)
          | succ n37 ih37 =>
            intro S37_ w37_6 H locs ls hm37 hi37 hsh37 hP hD hS hl ko37
            refine lv_iload hx hb dX0_search_37 (lv_at hl 0 rfl) ?_
            refine lv_aload_n hx hb dX0_search_39 rfl (lv_at hl 2 rfl) ?_
            have o25 : isA S37_ o1 0 := (hsh37.x.A ((xe18.tr hsh25.x).A (xe13.A (xe8.A (xe3.A h_o1)))))
            obtain ⟨k24, gk24, hk24⟩ := wGt (cy := cy) X S37_ o25.1 o25.2.1
            have i26 := ((hsh37.w.at o25 List.not_mem_nil).to_0 o25.2.1).R2
            refine va_get (D := D) (ci := 4) (v := .int (S37_.I o1 2)) (C := RX0) (T := TX0) (N := 7) hx hb hts hi_X0_search_X0 hown hK hP k24 hk24 rfl 2 (by decide) (hts (.fieldLink RX0 18 "Hobhouse$Box" "count" "I") (by decide +kernel)) (fun _ h9 => h9) rfl dX0_search_40 ?_
            refine lv_icmp_ge (tgt := 67) hx hb dX0_search_43 (by decide) (fun c27 => ?_) (fun c27 => ?_)
            · have c27i : (S37_.I o1 2).toInt ≤ w37_6.toInt := le_v rfl rfl c27
              exact ko37 S37_ w37_6 _ _ _ (by omega) hsh37 hP hD hS (lv_sub hl [0, 1, 2, 3, 4] rfl)
            · have c27i : w37_6.toInt < (S37_.I o1 2).toInt := nle_v rfl rfl c27
              refine lv_iload hx hb dX0_search_46 (lv_at hl 1 rfl) ?_
              refine lv_iload hx hb dX0_search_48 (lv_at hl 0 rfl) ?_
              refine lv_icmp_eq (tgt := 61) hx hb dX0_search_50 (by decide) (fun c28 => ?_) (fun c28 => ?_)
              · have c28i : w25_5.toInt = w37_6.toInt := eq_v rfl rfl c28
                refine lv_iinc (v := w37_6 + (1 : Int32)) (lv' := [(6, .int (w37_6 + (1 : Int32))), (5, .int w25_5), (0, .ref o1), (1, .long x1), (3, .long x2)]) hx hb dX0_search_61 hl (k := 0) rfl (by rfl) (by decide) rfl (fun ls hl => ?_)
                refine lv_goto (tgt := 37) hx hb dX0_search_64 (by decide) ?_
                have l32_1 : (1 : Int32).toInt = 1 := rfl
                have i29 : (w37_6 + (1 : Int32)).toInt = w37_6.toInt + 1 := t_addr (n := 1) rfl (by omega)
                exact ih37 S37_ (w37_6 + (1 : Int32)) _ _ _ (Nat.lt_of_lt_of_le (by omega) (Nat.le_of_lt_succ hm37)) (by omega) hsh37 hP hD hS (lv_sub hl [0, 1, 2, 3, 4] rfl) ko37
              · have c28i : ¬ w25_5.toInt = w37_6.toInt := neq_v rfl rfl c28
                refine lv_aload_n hx hb dX0_search_53 rfl (lv_at hl 2 rfl) ?_
                refine lv_iload hx hb dX0_search_54 (lv_at hl 1 rfl) ?_
                refine lv_iload hx hb dX0_search_56 (lv_at hl 0 rfl) ?_
                have hFc := free_all hD hS hA
                obtain ⟨k30, gk30, hk30⟩ := wGt (cy := cy) X S37_ o25.1 o25.2.1
                refine va_callv (va_runV (As := [.int w25_5, .int w37_6]) (rest := []) ⟨hx, hb, hml, hown, hts⟩ (c_X0_searchWith l (cy := cy) (X := X) (D := D) S37_ _ o1 o25 w25_5 w37_6 (hsh37.w) (by omega) (by omega) (by omega)) (cwV 2 hts gX0_search_X0_searchWith rfl rfl rfl hd_X0_searchWith ⟨Nat.le_of_ble_eq_true rfl, Nat.le_of_ble_eq_true rfl⟩) (pV (va_recv hK hP (q := (RX0, TX0, 7)) (ci := 4) (q0 := k30) rfl hk30) hP hK hD hN) rfl rfl hl.1 rfl (lv_room (Nat.le_of_ble_eq_true rfl)) dX0_search_58 ⟨(Nat.zero_le _), (Nat.zero_le _)⟩) hS (fun q _ h => hFc q h) hFc (fun u t H1 locs ht hvm hw hB hz1 hk1 hS => ?_)
                have w32 := hw
                obtain ⟨hP, hD⟩ := wd_post hFc ht hB
                generalize H1 = H at hP hS ⊢
                obtain ⟨S33, rfl⟩ : ∃ z, z = u := ⟨_, rfl⟩
                have t34 : stp [(0, 3), (0, 4), (0, 5), (0, 6), (17, 100)] [] [] S25_ S33 := hsh37.tr w32 (by decide) (fun _ q => absurd q List.not_mem_nil)
                have xe35 : ext S37_ S33 := w32.x
                have k36 : (S33.I o1 2).toInt = (S37_.I o1 2).toInt := by rw [(w32.fR o1 ((xe3.tr (xe8.tr (xe13.tr (xe18.tr (hsh25.x.tr hsh37.x))))).A h_o1).1 List.not_mem_nil).1 2 (by rw [((xe3.tr (xe8.tr (xe13.tr (xe18.tr (hsh25.x.tr hsh37.x))))).A h_o1).2.1]; decide) |>.1]
                refine lv_iinc (v := w37_6 + (1 : Int32)) (lv' := [(6, .int (w37_6 + (1 : Int32))), (5, .int w25_5), (0, .ref o1), (1, .long x1), (3, .long x2)]) hx hb dX0_search_61 hl (k := 0) rfl (by rfl) (by decide) rfl (fun ls hl => ?_)
                refine lv_goto (tgt := 37) hx hb dX0_search_64 (by decide) ?_
                have l32_1 : (1 : Int32).toInt = 1 := rfl
                have i37 : (w37_6 + (1 : Int32)).toInt = w37_6.toInt + 1 := t_addr (n := 1) rfl (by omega)
                exact ih37 S33 (w37_6 + (1 : Int32)) _ _ _ (Nat.lt_of_lt_of_le (by omega) (Nat.le_of_lt_succ hm37)) (by omega) t34 hP hD hS (lv_sub hl [0, 1, 2, 3, 4] rfl) ko37
        refine loop37 21 S25_ (0 : Int32) _ _ _ (by omega) (by omega) (stp.rf hsh25.w) hP hD hS (lv_sub hl [0, 1, 2, 3, 4] rfl) (fun S39 z40 H locs ls hi37 hsh37 hP hD hS hl => ?_)
        have t41 : stp [(0, 3), (0, 4), (0, 5), (0, 6), (17, 100)] [] [] S17 S39 := hsh25.tr hsh37 (fun _ q => q) (fun _ q => Or.inl q)
        have et41 := hsh37.x
        refine lv_iinc (v := w25_5 + (1 : Int32)) (lv' := [(5, .int (w25_5 + (1 : Int32))), (6, .int z40), (0, .ref o1), (1, .long x1), (3, .long x2)]) hx hb dX0_search_67 hl (k := 1) rfl (by rfl) (by decide) rfl (fun ls hl => ?_)
        refine lv_goto (tgt := 25) hx hb dX0_search_70 (by decide) ?_
        have l32_1 : (1 : Int32).toInt = 1 := rfl
        have i42 : (w25_5 + (1 : Int32)).toInt = w25_5.toInt + 1 := t_addr (n := 1) rfl (by omega)
        exact ih25 S39 (w25_5 + (1 : Int32)) _ _ _ (Nat.lt_of_lt_of_le (by omega) (Nat.le_of_lt_succ hm25)) (by omega) t41 hP hD hS (lv_sub hl [0, 2, 3, 4] rfl) ko25
  refine loop25 21 S17 (0 : Int32) _ _ _ (by omega) (by omega) (stp.rf t19.w) hP hD hS (lv_sub hl [0, 1, 2, 3] rfl) (fun S44 z45 H locs ls hi25 hsh25 hP hD hS hl => ?_)
  have t46 : stp [(0, 3), (0, 4), (0, 5), (0, 6), (17, 100)] [] [] S S44 := t19.tr hsh25 (fun _ q => q) (fun _ q => Or.inl q)
  have et46 := hsh25.x
  refine W.widen (k := 0) (n := 0) (Nat.le_of_ble_eq_true rfl) (Nat.le_of_ble_eq_true rfl) ?_
  exact W.vret hx hb hr (fun t ht hW9 => ⟨⟨S44, rfl, t46, wd_end hP hK hD ht hW9.alike⟩, hS.F ht⟩) hS.2.2 dX0_search_73 hlocks
