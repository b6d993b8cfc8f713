def f_X7_endFrom (S : wPS) (o1 : Nat) (x1 : Int32) : Int32 := (if x1 < (S.I o1 3) then (S.I o1 3) else x1) + (S.I o1 1)
set_option maxHeartbeats 4000000 in
set_option maxRecDepth 100000 in
theorem c_X7_endFrom (l : Launch) {D : va_G} {cy : Nat → ClassId} {X : va_W} (S : wPS) (sz : Nat) (o1 : Nat) (h_o1 : ok7 S o1) (x1 : Int32)  : Met l yX7_endFrom wsX7_endFrom ({ frames := 1, cells := 0, slots := 0, locals := 13 }) (va_Pc [.ref o1, .int x1] (fun U => U.heap.size = sz ∧ WD D cy X (fun _ => True) S U ∧ NW U)) (va_Qi (fun r (_ : Unit) => r = f_X7_endFrom S o1 x1) (fun _ t => WD D cy X (va_A (X ++ PL cy S) sz) S t) (va_A (X ++ PL cy S) sz)) 0 0 (va_A (X ++ PL cy S) sz) := by
  refine Met.ofW (cc := cX7_endFrom) (maxL := 2) (ret := (some .int)) (by decide) rfl ?_
  intro p e s m args below meth c s₁ B hml hv
  obtain ⟨rfl, hsz, ⟨hP, hK, hD0⟩, hN⟩ := hv
  have hx := B.exec
  have hb := B.bytes
  have hr := B.returns
  have hts := atoms_spec (ws := wsX7_endFrom) B.pre
  have hown : s.vm.findClass RX7 = some m.cls := findClass_of_methodNamed B.named
  have hlocks := B.notSynchronized
  subst hsz
  have hD := hD0.self (sz := s.heap.size)
  generalize hAe : va_A (X ++ PL cy S) s.heap.size = A at hD ⊢
  have hA : ∀ q : Nat, s.heap.size ≤ q → A q := fun q h => by rw [← hAe]; exact Or.inr h
  have hS : va_S A s.heap s.heap [] := va_S.rf
  have hl := lv_entry ([.ref o1, .int x1]) (n := 2) (Nat.le_of_ble_eq_true rfl)
  rw [lg_entry_eq]
  generalize (lg_sl ([.ref o1, .int x1]) ++ List.replicate (2 - (lg_sl ([.ref o1, .int x1])).length) Slot.unset).toArray = ls at hl ⊢
  have hl : lv_has ls 2 [(0, .ref o1), (1, .int x1)] := hl
  refine lv_iload_n hx hb dX7_endFrom_0 rfl (lv_at hl 1 rfl) ?_
  refine lv_aload_n hx hb dX7_endFrom_1 rfl (lv_at hl 0 rfl) ?_
  obtain ⟨k1, gk1, hk1⟩ := wGt (cy := cy) X S h_o1.1.1 h_o1.1.2.1
  refine va_get (D := D) (ci := 11) (v := .int (S.I o1 3)) (C := RX7) (T := TX7) (N := 4) hx hb hts (by decide +kernel) hown hK hP k1 hk1 rfl 3 (by decide) (hts (.fieldLink RX7 17 "Hobhouse$Station" "freeFrom" "I") (by decide +kernel)) (fun _ h9 => h9) rfl dX7_endFrom_2 ?_
  refine va_mmax hx hb (hml.trans hl.1.symm) hown (hts (.methodLink RX7 20 Lib.Math.max.name) (by decide +kernel)) (hts (.static Lib.Math.max.name) (by decide +kernel)) (hts (.initialized "java/lang/Math") (by decide +kernel)) (hts (.code Lib.Math.max.name Lib.Math.max.code 2 (some .int)) (by decide +kernel)) (Nat.le_of_ble_eq_true rfl) (Nat.le_of_ble_eq_true rfl) (Nat.zero_le _) (Nat.zero_le _) dX7_endFrom_5 ?_
  refine lv_aload_n hx hb dX7_endFrom_8 rfl (lv_at hl 0 rfl) ?_
  obtain ⟨k2, gk2, hk2⟩ := wGt (cy := cy) X S h_o1.1.1 h_o1.1.2.1
  refine va_get (D := D) (ci := 11) (v := .int (S.I o1 1)) (C := RX7) (T := TX7) (N := 4) hx hb hts (by decide +kernel) hown hK hP k2 hk2 rfl 1 (by decide) (hts (.fieldLink RX7 13 "Hobhouse$Station" "time" "I") (by decide +kernel)) (fun _ h9 => h9) rfl dX7_endFrom_9 ?_
  refine lv_iadd hx hb dX7_endFrom_12 ?_
  exact W.iret (v := (if x1 < (S.I o1 3) then (S.I o1 3) else x1) + (S.I o1 1)) hx hb hr (fun t ht hW => ⟨⟨(if x1 < (S.I o1 3) then (S.I o1 3) else x1) + (S.I o1 1), (), rfl, (by show ((if x1 < (S.I o1 3) then (S.I o1 3) else x1) + (S.I o1 1)) = f_X7_endFrom S o1 x1; unfold f_X7_endFrom; rfl), wd_end hP hK hD ht hW.alike⟩, hS.F ht⟩) hS.2.2 dX7_endFrom_13 hlocks
def f_X5_isFound (S : wPS) (o1 : Nat) : Int32 := if (2147483647 : Int32) ≤ (S.I o1 5) then (0 : Int32) else (1 : Int32)
theorem f_X5_isFound_b (S : wPS) (o1 : Nat) : narrow .boolean (.int (f_X5_isFound S o1)) = .int (f_X5_isFound S o1) := by
  unfold f_X5_isFound; (repeat' split) <;> rfl
set_option maxHeartbeats 4000000 in
set_option maxRecDepth 100000 in
theorem c_X5_isFound (l : Launch) {D : va_G} {cy : Nat → ClassId} {X : va_W} (S : wPS) (sz : Nat) (o1 : Nat) (h_o1 : ok5 S o1)  : Met l yX5_isFound wsX5_isFound ({ frames := 0, cells := 0, slots := 0, locals := 0 }) (va_Pc [.ref o1] (fun U => U.heap.size = sz ∧ WD D cy X (fun _ => True) S U ∧ NW U)) (va_Qi (fun r (_ : Unit) => r = f_X5_isFound S o1) (fun _ t => WD D cy X (va_A (X ++ PL cy S) sz) S t) (va_A (X ++ PL cy S) sz)) 0 0 (va_A (X ++ PL cy S) sz) := by
  refine Met.ofW (cc := cX5_isFound) (maxL := 1) (ret := (some .boolean)) (by decide) rfl ?_
  intro p e s m args below meth c s₁ B hml hv
  obtain ⟨rfl, hsz, ⟨hP, hK, hD0⟩, hN⟩ := hv
  have hx := B.exec
  have hb := B.bytes
  have hr := B.returns
  have hts := atoms_spec (ws := wsX5_isFound) B.pre
  have hown : s.vm.findClass RX5 = some m.cls := findClass_of_methodNamed B.named
  have hlocks := B.notSynchronized
  subst hsz
  have hD := hD0.self (sz := s.heap.size)
  generalize hAe : va_A (X ++ PL cy S) s.heap.size = A at hD ⊢
  have hA : ∀ q : Nat, s.heap.size ≤ q → A q := fun q h => by rw [← hAe]; exact Or.inr h
  have hS : va_S A s.heap s.heap [] := va_S.rf
  have hl := lv_entry ([.ref o1]) (n := 1) (Nat.le_of_ble_eq_true rfl)
  rw [lg_entry_eq]
  generalize (lg_sl ([.ref o1]) ++ List.replicate (1 - (lg_sl ([.ref o1])).length) Slot.unset).toArray = ls at hl ⊢
  have hl : lv_has ls 1 [(0, .ref o1)] := hl
  refine lv_aload_n hx hb dX5_isFound_0 rfl (lv_at hl 0 rfl) ?_
  obtain ⟨k1, gk1, hk1⟩ := wGt (cy := cy) X S h_o1.1.1 h_o1.1.2.1
  refine va_get (D := D) (ci := 9) (v := .int (S.I o1 5)) (C := RX5) (T := TX5) (N := 6) hx hb hts (by decide +kernel) hown hK hP k1 hk1 rfl 5 (by decide) (hts (.fieldLink RX5 10 "Hobhouse$OldGear" "leastTip" "I") (by decide +kernel)) (fun _ h9 => h9) rfl dX5_isFound_1 ?_
  refine lv_ldc (own := RX5) (v := 2147483647) hx hb hown (hts (.constant RX5 9 (2147483647)) (by decide +kernel)) dX5_isFound_4 ?_
  refine lv_icmp_ge (tgt := 13) hx hb dX5_isFound_6 (by decide) (fun c2 => ?_) (fun c2 => ?_)
  · refine lv_iconst (v := 0) hx hb dX5_isFound_13 (by decide) ?_
    exact W.zret (v := (0 : Int32)) hx hb hr (by rfl) (fun t ht hW => ⟨⟨(0 : Int32), (), rfl, (by show (0 : Int32) = f_X5_isFound S o1; unfold f_X5_isFound; rw [if_pos c2]), wd_end hP hK hD ht hW.alike⟩, hS.F ht⟩) hS.2.2 dX5_isFound_14 hlocks
  · refine lv_iconst (v := 1) hx hb dX5_isFound_9 (by decide) ?_
    refine lv_goto (tgt := 14) hx hb dX5_isFound_10 (by decide) ?_
    exact W.zret (v := (1 : Int32)) hx hb hr (by rfl) (fun t ht hW => ⟨⟨(1 : Int32), (), rfl, (by show (1 : Int32) = f_X5_isFound S o1; unfold f_X5_isFound; rw [if_neg c2]), wd_end hP hK hD ht hW.alike⟩, hS.F ht⟩) hS.2.2 dX5_isFound_14 hlocks
def f_X3_wayIn (S : wPS) (o1 : Nat) : Int64 := f_X9_root ((((9 : Int64) * ((S.I o1 0).toInt64)) / (4 : Int64)) * (((S.I o1 3).toInt64) - (((9 : Int64) * ((S.I o1 0).toInt64)) / (4 : Int64))))
set_option maxHeartbeats 4000000 in
set_option maxRecDepth 100000 in
theorem c_X3_wayIn (l : Launch) {D : va_G} {cy : Nat → ClassId} {X : va_W} (S : wPS) (sz : Nat) (o1 : Nat) (h_o1 : ok3 S o1)  : Met l yX3_wayIn wsX3_wayIn ({ frames := 1, cells := 0, slots := 0, locals := 26 }) (va_Pc [.ref o1] (fun U => U.heap.size = sz ∧ WD D cy X (fun _ => True) S U ∧ NW U)) (va_Ql (fun r (_ : Unit) => r = f_X3_wayIn S o1) (fun _ t => WD D cy X (va_A (X ++ PL cy S) sz) S t) (va_A (X ++ PL cy S) sz)) 0 0 (va_A (X ++ PL cy S) sz) := by
  refine Met.ofW (cc := cX3_wayIn) (maxL := 3) (ret := (some .long)) (by decide) rfl ?_
  intro p e s m args below meth c s₁ B hml hv
  obtain ⟨rfl, hsz, ⟨hP, hK, hD0⟩, hN⟩ := hv
  have hx := B.exec
  have hb := B.bytes
  have hr := B.returns
  have hts := atoms_spec (ws := wsX3_wayIn) B.pre
  have hown : s.vm.findClass RX3 = some m.cls := findClass_of_methodNamed B.named
  have hlocks := B.notSynchronized
  subst hsz
  have hD := hD0.self (sz := s.heap.size)
  generalize hAe : va_A (X ++ PL cy S) s.heap.size = A at hD ⊢
  have hA : ∀ q : Nat, s.heap.size ≤ q → A q := fun q h => by rw [← hAe]; exact Or.inr h
  have hS : va_S A s.heap s.heap [] := va_S.rf
  have hl := lv_entry ([.ref o1]) (n := 3) (Nat.le_of_ble_eq_true rfl)
  rw [lg_entry_eq]
  generalize (lg_sl ([.ref o1]) ++ List.replicate (3 - (lg_sl ([.ref o1])).length) Slot.unset).toArray = ls at hl ⊢
  have hl : lv_has ls 3 [(0, .ref o1)] := hl
  refine lv_ldc2 (own := RX3) (v := 9) hx hb hown (hts (.constantLong RX3 25 (9)) (by decide +kernel)) dX3_wayIn_0 ?_
  refine lv_aload_n hx hb dX3_wayIn_3 rfl (lv_at hl 0 rfl) ?_
  obtain ⟨k1, gk1, hk1⟩ := wGt (cy := cy) X S h_o1.1.1 h_o1.1.2.1
  refine va_get (D := D) (ci := 7) (v := .int (S.I o1 0)) (C := RX3) (T := TX3) (N := 6) hx hb hts (by decide +kernel) hown hK hP k1 hk1 rfl 0 (by decide) (hts (.fieldLink RX3 9 "Hobhouse$Hob" "module" "I") (by decide +kernel)) (fun _ h9 => h9) rfl dX3_wayIn_4 ?_
  refine lv_i2l hx hb dX3_wayIn_7 rfl ?_
  refine lv_lmul hx hb dX3_wayIn_8 ?_
  refine lv_ldc2 (own := RX3) (v := 4) hx hb hown (hts (.constantLong RX3 27 (4)) (by decide +kernel)) dX3_wayIn_9 ?_
  refine lv_ldiv hx hb dX3_wayIn_12 (by decide) ?_
  refine lv_lstore_n (lv' := [(1, .long (((9 : Int64) * ((S.I o1 0).toInt64)) / (4 : Int64))), (0, .ref o1)]) hx hb dX3_wayIn_13 rfl hl (by decide) rfl (fun ls hl => ?_)
  refine lv_lload_n hx hb dX3_wayIn_14 rfl (lv_at hl 0 rfl) ?_
  refine lv_aload_n hx hb dX3_wayIn_15 rfl (lv_at hl 1 rfl) ?_
  obtain ⟨k2, gk2, hk2⟩ := wGt (cy := cy) X S h_o1.1.1 h_o1.1.2.1
  refine va_get (D := D) (ci := 7) (v := .int (S.I o1 3)) (C := RX3) (T := TX3) (N := 6) hx hb hts (by decide +kernel) hown hK hP k2 hk2 rfl 3 (by decide) (hts (.fieldLink RX3 18 "Hobhouse$Hob" "diameter" "I") (by decide +kernel)) (fun _ h9 => h9) rfl dX3_wayIn_16 ?_
  refine lv_i2l hx hb dX3_wayIn_19 rfl ?_
  refine lv_lload_n hx hb dX3_wayIn_20 rfl (lv_at hl 0 rfl) ?_
  refine lv_lsub hx hb dX3_wayIn_21 ?_
  refine lv_lmul hx hb dX3_wayIn_22 ?_
  have hFc := free_all hD hS hA
  refine va_calll (va_runSN (As := [.long ((((9 : Int64) * ((S.I o1 0).toInt64)) / (4 : Int64)) * (((S.I o1 3).toInt64) - (((9 : Int64) * ((S.I o1 0).toInt64)) / (4 : Int64))))]) (rest := []) ⟨hx, hb, hml, hown, hts⟩ (c_X9_root l (cy := cy) (X := X) (D := D) S _ ((((9 : Int64) * ((S.I o1 0).toInt64)) / (4 : Int64)) * (((S.I o1 3).toInt64) - (((9 : Int64) * ((S.I o1 0).toInt64)) / (4 : Int64))))) ⟨va_cnB 1 hts gX3_wayIn_X9_root_n29 rfl rfl rfl (hN (.methodLinkNest RX3 29 yX9_root RX9) (by decide +kernel)) (hts (.initialized RX9) (by decide +kernel)) (by decide +kernel) ⟨Nat.le_of_ble_eq_true rfl, Nat.le_of_ble_eq_true rfl⟩, hts (.static yX9_root) (by decide +kernel), trivial⟩ ⟨fun a U g mk q => ⟨q.1, q.2.1, q.2.2.1.calling, NW.same (u := U) (U := U.calling g mk a) rfl q.2.2.2⟩, fun U hU hW => ⟨rfl, by rw [hU], wd_pre hP hK hD hU hW, hN.warm hW⟩⟩ rfl rfl hl.1 rfl (lv_room (Nat.le_of_ble_eq_true rfl)) dX3_wayIn_23 ⟨(Nat.zero_le _), (Nat.zero_le _)⟩) hS (fun q _ h => hFc q h) hFc (fun r3 u t H1 locs ht hvm hw hB hz1 hk1 hS => ?_)
  obtain ⟨hP, hD⟩ := wd_post hFc ht hB
  generalize H1 = H at hP hS ⊢
  obtain rfl : r3 = f_X9_root ((((9 : Int64) * ((S.I o1 0).toInt64)) / (4 : Int64)) * (((S.I o1 3).toInt64) - (((9 : Int64) * ((S.I o1 0).toInt64)) / (4 : Int64)))) := hw
  exact W.lret (v := f_X9_root ((((9 : Int64) * ((S.I o1 0).toInt64)) / (4 : Int64)) * (((S.I o1 3).toInt64) - (((9 : Int64) * ((S.I o1 0).toInt64)) / (4 : Int64))))) hx hb hr (fun t ht hW => ⟨⟨f_X9_root ((((9 : Int64) * ((S.I o1 0).toInt64)) / (4 : Int64)) * (((S.I o1 3).toInt64) - (((9 : Int64) * ((S.I o1 0).toInt64)) / (4 : Int64)))), (), rfl, (by show (f_X9_root ((((9 : Int64) * ((S.I o1 0).toInt64)) / (4 : Int64)) * (((S.I o1 3).toInt64) - (((9 : Int64) * ((S.I o1 0).toInt64)) / (4 : Int64))))) = f_X3_wayIn S o1; unfold f_X3_wayIn; rfl), wd_end hP hK hD ht hW.alike⟩, hS.F ht⟩) hS.2.2 dX3_wayIn_26 hlocks
def f_X3_isBlunt (S : wPS) (o1 : Nat) : Int32 := if (nI (S.n (S.f o1 2))) ≤ (S.I o1 5) then (1 : Int32) else if (S.i (S.f o1 2) (S.I o1 5).toNatClampNeg) < (200 : Int32) then (0 : Int32) else (1 : Int32)
theorem f_X3_isBlunt_b (S : wPS) (o1 : Nat) : narrow .boolean (.int (f_X3_isBlunt S o1)) = .int (f_X3_isBlunt S o1) := by
  unfold f_X3_isBlunt; (repeat' split) <;> rfl
set_option maxHeartbeats 4000000 in
set_option maxRecDepth 100000 in
theorem c_X3_isBlunt (l : Launch) {D : va_G} {cy : Nat → ClassId} {X : va_W} (S : wPS) (sz : Nat) (o1 : Nat) (h_o1 : ok3 S o1) (hz : ¬ S.I o1 5 < 0) (hln : S.n (S.f o1 2) ≤ 1000000) : Met l yX3_isBlunt wsX3_isBlunt ({ frames := 0, cells := 0, slots := 0, locals := 0 }) (va_Pc [.ref o1] (fun U => U.heap.size = sz ∧ WD D cy X (fun _ => True) S U ∧ NW U)) (va_Qi (fun r (_ : Unit) => r = f_X3_isBlunt S o1) (fun _ t => WD D cy X (va_A (X ++ PL cy S) sz) S t) (va_A (X ++ PL cy S) sz)) 0 0 (va_A (X ++ PL cy S) sz) := by
  refine Met.ofW (cc := cX3_isBlunt) (maxL := 1) (ret := (some .boolean)) (by decide) rfl ?_
  intro p e s m args below meth c s₁ B hml hv
  obtain ⟨rfl, hsz, ⟨hP, hK, hD0⟩, hN⟩ := hv
  have hx := B.exec
  have hb := B.bytes
  have hr := B.returns
  have hts := atoms_spec (ws := wsX3_isBlunt) B.pre
  have hown : s.vm.findClass RX3 = some m.cls := findClass_of_methodNamed B.named
  have hlocks := B.notSynchronized
  subst hsz
  have hD := hD0.self (sz := s.heap.size)
  generalize hAe : va_A (X ++ PL cy S) s.heap.size = A at hD ⊢
  have hA : ∀ q : Nat, s.heap.size ≤ q → A q := fun q h => by rw [← hAe]; exact Or.inr h
  have hS : va_S A s.heap s.heap [] := va_S.rf
  have hl := lv_entry ([.ref o1]) (n := 1) (Nat.le_of_ble_eq_true rfl)
  rw [lg_entry_eq]
  generalize (lg_sl ([.ref o1]) ++ List.replicate (1 - (lg_sl ([.ref o1])).length) Slot.unset).toArray = ls at hl ⊢
  have hl : lv_has ls 1 [(0, .ref o1)] := hl
  refine lv_aload_n hx hb dX3_isBlunt_0 rfl (lv_at hl 0 rfl) ?_
  obtain ⟨k1, gk1, hk1⟩ := wGt (cy := cy) X S h_o1.1.1 h_o1.1.2.1
  refine va_get (D := D) (ci := 7) (v := .int (S.I o1 5)) (C := RX3) (T := TX3) (N := 6) hx hb hts (by decide +kernel) hown hK hP k1 hk1 rfl 5 (by decide) (hts (.fieldLink RX3 49 "Hobhouse$Hob" "next" "I") (by decide +kernel)) (fun _ h9 => h9) rfl dX3_isBlunt_1 ?_
  refine lv_aload_n hx hb dX3_isBlunt_4 rfl (lv_at hl 0 rfl) ?_
  obtain ⟨k2, gk2, hk2⟩ := wGt (cy := cy) X S h_o1.1.1 h_o1.1.2.1
  simp only [kE, h_o1.2.1.1] at hk2
  refine va_get (D := D) (ci := 7) (v := .ref (S.f o1 2)) (C := RX3) (T := TX3) (N := 6) hx hb hts (by decide +kernel) hown hK hP k2 hk2 rfl 2 (by decide) (hts (.fieldLink RX3 21 "Hobhouse$Hob" "worn" "[I") (by decide +kernel)) (fun _ h9 => h9) rfl dX3_isBlunt_5 ?_
  obtain ⟨k3, gk3, hk3⟩ := wGt (cy := cy) X S h_o1.2.1.2.1 h_o1.2.1.2.2.1
  refine va_alen (D := D) (cl := vwCl) (tys := tyL cy) hx hb hK hP k3 2 hk3 rfl (v := nI (S.n (S.f o1 2))) rfl dX3_isBlunt_8 ?_
  refine lv_icmp_ge (tgt := 27) hx hb dX3_isBlunt_9 (by decide) (fun c4 => ?_) (fun c4 => ?_)
  · refine lv_iconst (v := 1) hx hb dX3_isBlunt_27 (by decide) ?_
    refine lv_goto (tgt := 32) hx hb dX3_isBlunt_28 (by decide) ?_
    exact W.zret (v := (1 : Int32)) hx hb hr (by rfl) (fun t ht hW => ⟨⟨(1 : Int32), (), rfl, (by show (1 : Int32) = f_X3_isBlunt S o1; unfold f_X3_isBlunt; rw [if_pos c4]), wd_end hP hK hD ht hW.alike⟩, hS.F ht⟩) hS.2.2 dX3_isBlunt_32 hlocks
  · refine lv_aload_n hx hb dX3_isBlunt_12 rfl (lv_at hl 0 rfl) ?_
    obtain ⟨k5, gk5, hk5⟩ := wGt (cy := cy) X S h_o1.1.1 h_o1.1.2.1
    simp only [kE, h_o1.2.1.1] at hk5
    refine va_get (D := D) (ci := 7) (v := .ref (S.f o1 2)) (C := RX3) (T := TX3) (N := 6) hx hb hts (by decide +kernel) hown hK hP k5 hk5 rfl 2 (by decide) (hts (.fieldLink RX3 21 "Hobhouse$Hob" "worn" "[I") (by decide +kernel)) (fun _ h9 => h9) rfl dX3_isBlunt_13 ?_
    refine lv_aload_n hx hb dX3_isBlunt_16 rfl (lv_at hl 0 rfl) ?_
    obtain ⟨k6, gk6, hk6⟩ := wGt (cy := cy) X S h_o1.1.1 h_o1.1.2.1
    refine va_get (D := D) (ci := 7) (v := .int (S.I o1 5)) (C := RX3) (T := TX3) (N := 6) hx hb hts (by decide +kernel) hown hK hP k6 hk6 rfl 5 (by decide) (hts (.fieldLink RX3 49 "Hobhouse$Hob" "next" "I") (by decide +kernel)) (fun _ h9 => h9) rfl dX3_isBlunt_17 ?_
    obtain ⟨k7, gk7, hk7⟩ := wGt (cy := cy) X S h_o1.2.1.2.1 h_o1.2.1.2.2.1
    refine va_iald hx hb hK hP k7 2 hk7 rfl (in_len (by assumption) (le_of_nlt hz) (by omega)) dX3_isBlunt_20 ?_
    refine lv_sipush (v := 200) hx hb dX3_isBlunt_21 (by decide +kernel) ?_
    refine lv_icmp_lt (tgt := 31) hx hb dX3_isBlunt_24 (by decide) (fun c8 => ?_) (fun c8 => ?_)
    · refine lv_iconst (v := 0) hx hb dX3_isBlunt_31 (by decide) ?_
      exact W.zret (v := (0 : Int32)) hx hb hr (by rfl) (fun t ht hW => ⟨⟨(0 : Int32), (), rfl, (by show (0 : Int32) = f_X3_isBlunt S o1; unfold f_X3_isBlunt; rw [if_neg c4, if_pos c8]), wd_end hP hK hD ht hW.alike⟩, hS.F ht⟩) hS.2.2 dX3_isBlunt_32 hlocks
    · refine lv_iconst (v := 1) hx hb dX3_isBlunt_27 (by decide) ?_
      refine lv_goto (tgt := 32) hx hb dX3_isBlunt_28 (by decide) ?_
      exact W.zret (v := (1 : Int32)) hx hb hr (by rfl) (fun t ht hW => ⟨⟨(1 : Int32), (), rfl, (by show (1 : Int32) = f_X3_isBlunt S o1; unfold f_X3_isBlunt; rw [if_neg c4, if_neg c8]), wd_end hP hK hD ht hW.alike⟩, hS.F ht⟩) hS.2.2 dX3_isBlunt_32 hlocks
def f_X3_fits (S : wPS) (o1 : Nat) (o2 : Nat) : Int32 := if (S.I o2 2) = (S.I o1 0) then if (S.I o2 1) < (S.I o1 1) then (0 : Int32) else if (S.I o1 1) = (1 : Int32) then if (S.I o2 8) = (-1 : Int32) then (1 : Int32) else if (0 : Int32) < (lg_cmp (f_X3_wayIn S o1) ((S.I o2 8).toInt64)) then (0 : Int32) else (1 : Int32) else if (S.I o2 3) < (0 : Int32) then (0 : Int32) else if (S.I o2 8) = (-1 : Int32) then (1 : Int32) else if (0 : Int32) < (lg_cmp (f_X3_wayIn S o1) ((S.I o2 8).toInt64)) then (0 : Int32) else (1 : Int32) else (0 : Int32)
theorem f_X3_fits_b (S : wPS) (o1 : Nat) (o2 : Nat) : narrow .boolean (.int (f_X3_fits S o1 o2)) = .int (f_X3_fits S o1 o2) := by
  unfold f_X3_fits; (repeat' split) <;> rfl
set_option maxHeartbeats 4000000 in
set_option maxRecDepth 100000 in
theorem c_X3_fits (l : Launch) {D : va_G} {cy : Nat → ClassId} {X : va_W} (S : wPS) (sz : Nat) (o1 : Nat) (h_o1 : ok3 S o1) (o2 : Nat) (h_o2 : ok2 S o2)  : Met l yX3_fits wsX3_fits ({ frames := 2, cells := 0, slots := 0, locals := 48 }) (va_Pc [.ref o1, .ref o2] (fun U => U.heap.size = sz ∧ WD D cy X (fun _ => True) S U ∧ NW U)) (va_Qi (fun r (_ : Unit) => r = f_X3_fits S o1 o2) (fun _ t => WD D cy X (va_A (X ++ PL cy S) sz) S t) (va_A (X ++ PL cy S) sz)) 0 0 (va_A (X ++ PL cy S) sz) := by
  refine Met.ofW (cc := cX3_fits) (maxL := 2) (ret := (some .boolean)) (by decide) rfl ?_
  intro p e s m args below meth c s₁ B hml hv
  obtain ⟨rfl, hsz, ⟨hP, hK, hD0⟩, hN⟩ := hv
  have hx := B.exec
  have hb := B.bytes
  have hr := B.returns
  have hts := atoms_spec (ws := wsX3_fits) B.pre
  have hown : s.vm.findClass RX3 = some m.cls := findClass_of_methodNamed B.named
  have hlocks := B.notSynchronized
  subst hsz
  have hD := hD0.self (sz := s.heap.size)
  generalize hAe : va_A (X ++ PL cy S) s.heap.size = A at hD ⊢
  have hA : ∀ q : Nat, s.heap.size ≤ q → A q := fun q h => by rw [← hAe]; exact Or.inr h
  have hS : va_S A s.heap s.heap [] := va_S.rf
  have hl := lv_entry ([.ref o1, .ref o2]) (n := 2) (Nat.le_of_ble_eq_true rfl)
  rw [lg_entry_eq]
  generalize (lg_sl ([.ref o1, .ref o2]) ++ List.replicate (2 - (lg_sl ([.ref o1, .ref o2])).length) Slot.unset).toArray = ls at hl ⊢
  have hl : lv_has ls 2 [(0, .ref o1), (1, .ref o2)] := hl
  refine lv_aload_n hx hb dX3_fits_0 rfl (lv_at hl 1 rfl) ?_
  obtain ⟨k1, gk1, hk1⟩ := wGt (cy := cy) X S h_o2.1.1 h_o2.1.2.1
  refine va_get (D := D) (ci := 6) (v := .int (S.I o2 2)) (C := RX2) (T := TX2) (N := 20) hx hb hts (by decide +kernel) hown hK hP k1 hk1 rfl 2 (by decide) (hts (.fieldLink RX3 33 "Hobhouse$Gear" "module" "I") (by decide +kernel)) (fun _ h9 => h9) rfl dX3_fits_1 ?_
  refine lv_aload_n hx hb dX3_fits_4 rfl (lv_at hl 0 rfl) ?_
  obtain ⟨k2, gk2, hk2⟩ := wGt (cy := cy) X S h_o1.1.1 h_o1.1.2.1
  refine va_get (D := D) (ci := 7) (v := .int (S.I o1 0)) (C := RX3) (T := TX3) (N := 6) hx hb hts (by decide +kernel) hown hK hP k2 hk2 rfl 0 (by decide) (hts (.fieldLink RX3 9 "Hobhouse$Hob" "module" "I") (by decide +kernel)) (fun _ h9 => h9) rfl dX3_fits_5 ?_
  refine lv_icmp_ne (tgt := 62) hx hb dX3_fits_8 (by decide) (fun c3 => ?_) (fun c3 => ?_)
  · refine lv_iconst (v := 0) hx hb dX3_fits_62 (by decide) ?_
    exact W.zret (v := (0 : Int32)) hx hb hr (by rfl) (fun t ht hW => ⟨⟨(0 : Int32), (), rfl, (by show (0 : Int32) = f_X3_fits S o1 o2; unfold f_X3_fits; rw [if_neg c3]), wd_end hP hK hD ht hW.alike⟩, hS.F ht⟩) hS.2.2 dX3_fits_63 hlocks
  · refine lv_aload_n hx hb dX3_fits_11 rfl (lv_at hl 1 rfl) ?_
    obtain ⟨k4, gk4, hk4⟩ := wGt (cy := cy) X S h_o2.1.1 h_o2.1.2.1
    refine va_get (D := D) (ci := 6) (v := .int (S.I o2 1)) (C := RX2) (T := TX2) (N := 20) hx hb hts (by decide +kernel) hown hK hP k4 hk4 rfl 1 (by decide) (hts (.fieldLink RX3 36 "Hobhouse$Gear" "teeth" "I") (by decide +kernel)) (fun _ h9 => h9) rfl dX3_fits_12 ?_
    refine lv_aload_n hx hb dX3_fits_15 rfl (lv_at hl 0 rfl) ?_
    obtain ⟨k5, gk5, hk5⟩ := wGt (cy := cy) X S h_o1.1.1 h_o1.1.2.1
    refine va_get (D := D) (ci := 7) (v := .int (S.I o1 1)) (C := RX3) (T := TX3) (N := 6) hx hb hts (by decide +kernel) hown hK hP k5 hk5 rfl 1 (by decide) (hts (.fieldLink RX3 15 "Hobhouse$Hob" "starts" "I") (by decide +kernel)) (fun _ h9 => h9) rfl dX3_fits_16 ?_
    refine lv_icmp_lt (tgt := 62) hx hb dX3_fits_19 (by decide) (fun c6 => ?_) (fun c6 => ?_)
    · refine lv_iconst (v := 0) hx hb dX3_fits_62 (by decide) ?_
      exact W.zret (v := (0 : Int32)) hx hb hr (by rfl) (fun t ht hW => ⟨⟨(0 : Int32), (), rfl, (by show (0 : Int32) = f_X3_fits S o1 o2; unfold f_X3_fits; rw [if_pos c3, if_pos c6]), wd_end hP hK hD ht hW.alike⟩, hS.F ht⟩) hS.2.2 dX3_fits_63 hlocks
    · refine lv_aload_n hx hb dX3_fits_22 rfl (lv_at hl 0 rfl) ?_
      obtain ⟨k7, gk7, hk7⟩ := wGt (cy := cy) X S h_o1.1.1 h_o1.1.2.1
      refine va_get (D := D) (ci := 7) (v := .int (S.I o1 1)) (C := RX3) (T := TX3) (N := 6) hx hb hts (by decide +kernel) hown hK hP k7 hk7 rfl 1 (by decide) (hts (.fieldLink RX3 15 "Hobhouse$Hob" "starts" "I") (by decide +kernel)) (fun _ h9 => h9) rfl dX3_fits_23 ?_
      refine lv_iconst (v := 1) hx hb dX3_fits_26 (by decide) ?_
      refine lv_icmp_eq (tgt := 37) hx hb dX3_fits_27 (by decide) (fun c8 => ?_) (fun c8 => ?_)
      · refine lv_aload_n hx hb dX3_fits_37 rfl (lv_at hl 1 rfl) ?_
        obtain ⟨k9, gk9, hk9⟩ := wGt (cy := cy) X S h_o2.1.1 h_o2.1.2.1
        refine va_get (D := D) (ci := 6) (v := .int (S.I o2 8)) (C := RX2) (T := TX2) (N := 20) hx hb hts (by decide +kernel) hown hK hP k9 hk9 rfl 8 (by decide) (hts (.fieldLink RX3 42 "Hobhouse$Gear" "room" "I") (by decide +kernel)) (fun _ h9 => h9) rfl dX3_fits_38 ?_
        refine lv_iconst (v := -1) hx hb dX3_fits_41 (by decide) ?_
        refine lv_icmp_eq (tgt := 58) hx hb dX3_fits_42 (by decide) (fun c10 => ?_) (fun c10 => ?_)
        · refine lv_iconst (v := 1) hx hb dX3_fits_58 (by decide) ?_
          refine lv_goto (tgt := 63) hx hb dX3_fits_59 (by decide) ?_
          exact W.zret (v := (1 : Int32)) hx hb hr (by rfl) (fun t ht hW => ⟨⟨(1 : Int32), (), rfl, (by show (1 : Int32) = f_X3_fits S o1 o2; unfold f_X3_fits; rw [if_pos c3, if_neg c6, if_pos c8, if_pos c10]), wd_end hP hK hD ht hW.alike⟩, hS.F ht⟩) hS.2.2 dX3_fits_63 hlocks
        · refine lv_aload_n hx hb dX3_fits_45 rfl (lv_at hl 0 rfl) ?_
          have hFc := free_all hD hS hA
          obtain ⟨k11, gk11, hk11⟩ := wGt (cy := cy) X S h_o1.1.1 h_o1.1.2.1
          refine va_calll (va_runV (As := []) (rest := []) ⟨hx, hb, hml, hown, hts⟩ (c_X3_wayIn l (cy := cy) (X := X) (D := D) S _ o1 h_o1) (cwV 0 hts gX3_fits_X3_wayIn rfl rfl rfl (by decide +kernel) ⟨Nat.le_of_ble_eq_true rfl, Nat.le_of_ble_eq_true rfl⟩) ⟨fun a U g mk q => ⟨q.1, q.2.1, q.2.2.1.calling, NW.same (u := U) (U := U.calling g mk a) rfl q.2.2.2⟩, va_recv hK hP (ci := 7) (q0 := k11) rfl hk11, fun U hU hW => ⟨rfl, by rw [hU], wd_pre hP hK hD hU hW, hN.warm hW⟩⟩ rfl rfl hl.1 rfl (lv_room (Nat.le_of_ble_eq_true rfl)) dX3_fits_46 ⟨(Nat.zero_le _), (Nat.zero_le _)⟩) hS (fun q _ h => hFc q h) hFc (fun r12 u t H1 locs ht hvm hw hB hz1 hk1 hS => ?_)
          obtain ⟨hP, hD⟩ := wd_post hFc ht hB
          generalize H1 = H at hP hS ⊢
          obtain rfl : r12 = f_X3_wayIn S o1 := hw
          refine lv_aload_n hx hb dX3_fits_49 rfl (lv_at hl 1 rfl) ?_
          obtain ⟨k13, gk13, hk13⟩ := wGt (cy := cy) X S h_o2.1.1 h_o2.1.2.1
          refine va_get (D := D) (ci := 6) (v := .int (S.I o2 8)) (C := RX2) (T := TX2) (N := 20) hx hb hts (by decide +kernel) hown hK hP k13 hk13 rfl 8 (by decide) (hts (.fieldLink RX3 42 "Hobhouse$Gear" "room" "I") (by decide +kernel)) (fun _ h9 => h9) rfl dX3_fits_50 ?_
          refine lv_i2l hx hb dX3_fits_53 rfl ?_
          refine W.lcmp hx hb dX3_fits_54 ?_
          refine lv_if_gt (tgt := 62) hx hb dX3_fits_55 (by decide) (fun c14 => ?_) (fun c14 => ?_)
          · refine lv_iconst (v := 0) hx hb dX3_fits_62 (by decide) ?_
            exact W.zret (v := (0 : Int32)) hx hb hr (by rfl) (fun t ht hW => ⟨⟨(0 : Int32), (), rfl, (by show (0 : Int32) = f_X3_fits S o1 o2; unfold f_X3_fits; rw [if_pos c3, if_neg c6, if_pos c8, if_neg c10, if_pos c14]), wd_end hP hK hD ht hW.alike⟩, hS.F ht⟩) hS.2.2 dX3_fits_63 hlocks
          · refine lv_iconst (v := 1) hx hb dX3_fits_58 (by decide) ?_
            refine lv_goto (tgt := 63) hx hb dX3_fits_59 (by decide) ?_
            exact W.zret (v := (1 : Int32)) hx hb hr (by rfl) (fun t ht hW => ⟨⟨(1 : Int32), (), rfl, (by show (1 : Int32) = f_X3_fits S o1 o2; unfold f_X3_fits; rw [if_pos c3, if_neg c6, if_pos c8, if_neg c10, if_neg c14]), wd_end hP hK hD ht hW.alike⟩, hS.F ht⟩) hS.2.2 dX3_fits_63 hlocks
      · refine lv_aload_n hx hb dX3_fits_30 rfl (lv_at hl 1 rfl) ?_
        obtain ⟨k15, gk15, hk15⟩ := wGt (cy := cy) X S h_o2.1.1 h_o2.1.2.1
        refine va_get (D := D) (ci := 6) (v := .int (S.I o2 3)) (C := RX2) (T := TX2) (N := 20) hx hb hts (by decide +kernel) hown hK hP k15 hk15 rfl 3 (by decide) (hts (.fieldLink RX3 39 "Hobhouse$Gear" "helix" "I") (by decide +kernel)) (fun _ h9 => h9) rfl dX3_fits_31 ?_
        refine lv_if_lt (tgt := 62) hx hb dX3_fits_34 (by decide) (fun c16 => ?_) (fun c16 => ?_)
        · refine lv_iconst (v := 0) hx hb dX3_fits_62 (by decide) ?_
          exact W.zret (v := (0 : Int32)) hx hb hr (by rfl) (fun t ht hW => ⟨⟨(0 : Int32), (), rfl, (by show (0 : Int32) = f_X3_fits S o1 o2; unfold f_X3_fits; rw [if_pos c3, if_neg c6, if_neg c8, if_pos c16]), wd_end hP hK hD ht hW.alike⟩, hS.F ht⟩) hS.2.2 dX3_fits_63 hlocks
        · refine lv_aload_n hx hb dX3_fits_37 rfl (lv_at hl 1 rfl) ?_
          obtain ⟨k17, gk17, hk17⟩ := wGt (cy := cy) X S h_o2.1.1 h_o2.1.2.1
          refine va_get (D := D) (ci := 6) (v := .int (S.I o2 8)) (C := RX2) (T := TX2) (N := 20) hx hb hts (by decide +kernel) hown hK hP k17 hk17 rfl 8 (by decide) (hts (.fieldLink RX3 42 "Hobhouse$Gear" "room" "I") (by decide +kernel)) (fun _ h9 => h9) rfl dX3_fits_38 ?_
          refine lv_iconst (v := -1) hx hb dX3_fits_41 (by decide) ?_
          refine lv_icmp_eq (tgt := 58) hx hb dX3_fits_42 (by decide) (fun c18 => ?_) (fun c18 => ?_)
          · refine lv_iconst (v := 1) hx hb dX3_fits_58 (by decide) ?_
            refine lv_goto (tgt := 63) hx hb dX3_fits_59 (by decide) ?_
            exact W.zret (v := (1 : Int32)) hx hb hr (by rfl) (fun t ht hW => ⟨⟨(1 : Int32), (), rfl, (by show (1 : Int32) = f_X3_fits S o1 o2; unfold f_X3_fits; rw [if_pos c3, if_neg c6, if_neg c8, if_neg c16, if_pos c18]), wd_end hP hK hD ht hW.alike⟩, hS.F ht⟩) hS.2.2 dX3_fits_63 hlocks
          · refine lv_aload_n hx hb dX3_fits_45 rfl (lv_at hl 0 rfl) ?_
            have hFc := free_all hD hS hA
            obtain ⟨k19, gk19, hk19⟩ := wGt (cy := cy) X S h_o1.1.1 h_o1.1.2.1
            refine va_calll (va_runV (As := []) (rest := []) ⟨hx, hb, hml, hown, hts⟩ (c_X3_wayIn l (cy := cy) (X := X) (D := D) S _ o1 h_o1) (cwV 0 hts gX3_fits_X3_wayIn rfl rfl rfl (by decide +kernel) ⟨Nat.le_of_ble_eq_true rfl, Nat.le_of_ble_eq_true rfl⟩) ⟨fun a U g mk q => ⟨q.1, q.2.1, q.2.2.1.calling, NW.same (u := U) (U := U.calling g mk a) rfl q.2.2.2⟩, va_recv hK hP (ci := 7) (q0 := k19) rfl hk19, fun U hU hW => ⟨rfl, by rw [hU], wd_pre hP hK hD hU hW, hN.warm hW⟩⟩ rfl rfl hl.1 rfl (lv_room (Nat.le_of_ble_eq_true rfl)) dX3_fits_46 ⟨(Nat.zero_le _), (Nat.zero_le _)⟩) hS (fun q _ h => hFc q h) hFc (fun r20 u t H1 locs ht hvm hw hB hz1 hk1 hS => ?_)
            obtain ⟨hP, hD⟩ := wd_post hFc ht hB
            generalize H1 = H at hP hS ⊢
            obtain rfl : r20 = f_X3_wayIn S o1 := hw
            refine lv_aload_n hx hb dX3_fits_49 rfl (lv_at hl 1 rfl) ?_
            obtain ⟨k21, gk21, hk21⟩ := wGt (cy := cy) X S h_o2.1.1 h_o2.1.2.1
            refine va_get (D := D) (ci := 6) (v := .int (S.I o2 8)) (C := RX2) (T := TX2) (N := 20) hx hb hts (by decide +kernel) hown hK hP k21 hk21 rfl 8 (by decide) (hts (.fieldLink RX3 42 "Hobhouse$Gear" "room" "I") (by decide +kernel)) (fun _ h9 => h9) rfl dX3_fits_50 ?_
            refine lv_i2l hx hb dX3_fits_53 rfl ?_
            refine W.lcmp hx hb dX3_fits_54 ?_
            refine lv_if_gt (tgt := 62) hx hb dX3_fits_55 (by decide) (fun c22 => ?_) (fun c22 => ?_)
            · refine lv_iconst (v := 0) hx hb dX3_fits_62 (by decide) ?_
              exact W.zret (v := (0 : Int32)) hx hb hr (by rfl) (fun t ht hW => ⟨⟨(0 : Int32), (), rfl, (by show (0 : Int32) = f_X3_fits S o1 o2; unfold f_X3_fits; rw [if_pos c3, if_neg c6, if_neg c8, if_neg c16, if_neg c18, if_pos c22]), wd_end hP hK hD ht hW.alike⟩, hS.F ht⟩) hS.2.2 dX3_fits_63 hlocks
            · refine lv_iconst (v := 1) hx hb dX3_fits_58 (by decide) ?_
              refine lv_goto (tgt := 63) hx hb dX3_fits_59 (by decide) ?_
              exact W.zret (v := (1 : Int32)) hx hb hr (by rfl) (fun t ht hW => ⟨⟨(1 : Int32), (), rfl, (by show (1 : Int32) = f_X3_fits S o1 o2; unfold f_X3_fits; rw [if_pos c3, if_neg c6, if_neg c8, if_neg c16, if_neg c18, if_neg c22]), wd_end hP hK hD ht hW.alike⟩, hS.F ht⟩) hS.2.2 dX3_fits_63 hlocks
def f_X2_bearsTorque (S : wPS) (o1 : Nat) (x1 : Int32) : Int32 := if (S.I o1 15) = (0 : Int32) then if (0 : Int32) < (lg_cmp (((((((2000000 : Int64) * x1.toInt64) / ((f_X2_pitchDiameter S o1).toInt64)) * (((S.I o1 1) + (20 : Int32)).toInt64)) / ((S.I o1 1).toInt64)) * (1000000 : Int64)) / (((S.I o1 4).toInt64) * ((S.I o1 2).toInt64))) (200 : Int64)) then (0 : Int32) else if (0 : Int32) < (lg_cmp (f_X9_root (((((((2000000 : Int64) * x1.toInt64) / ((f_X2_pitchDiameter S o1).toInt64)) * (1000000 : Int64)) / ((f_X2_pitchDiameter S o1).toInt64)) * (100000 : Int64)) / ((S.I o1 4).toInt64))) (600 : Int64)) then (0 : Int32) else (1 : Int32) else if ((S.I o1 2) / (6 : Int32)) ≤ (S.I o1 15) then if (0 : Int32) < (lg_cmp (((((((2000000 : Int64) * x1.toInt64) / ((f_X2_pitchDiameter S o1).toInt64)) * (((S.I o1 1) + (20 : Int32)).toInt64)) / ((S.I o1 1).toInt64)) * (1000000 : Int64)) / (((S.I o1 4).toInt64) * ((S.I o1 2).toInt64))) (400 : Int64)) then (0 : Int32) else if (0 : Int32) < (lg_cmp (f_X9_root (((((((2000000 : Int64) * x1.toInt64) / ((f_X2_pitchDiameter S o1).toInt64)) * (1000000 : Int64)) / ((f_X2_pitchDiameter S o1).toInt64)) * (100000 : Int64)) / ((S.I o1 4).toInt64))) (1400 : Int64)) then (0 : Int32) else (1 : Int32) else if (0 : Int32) < (lg_cmp (((((((2000000 : Int64) * x1.toInt64) / ((f_X2_pitchDiameter S o1).toInt64)) * (((S.I o1 1) + (20 : Int32)).toInt64)) / ((S.I o1 1).toInt64)) * (1000000 : Int64)) / (((S.I o1 4).toInt64) * ((S.I o1 2).toInt64))) (300 : Int64)) then (0 : Int32) else if (0 : Int32) < (lg_cmp (f_X9_root (((((((2000000 : Int64) * x1.toInt64) / ((f_X2_pitchDiameter S o1).toInt64)) * (1000000 : Int64)) / ((f_X2_pitchDiameter S o1).toInt64)) * (100000 : Int64)) / ((S.I o1 4).toInt64))) (1000 : Int64)) then (0 : Int32) else (1 : Int32)
theorem f_X2_bearsTorque_b (S : wPS) (o1 : Nat) (x1 : Int32) : narrow .boolean (.int (f_X2_bearsTorque S o1 x1)) = .int (f_X2_bearsTorque S o1 x1) := by
  unfold f_X2_bearsTorque; (repeat' split) <;> rfl
set_option maxHeartbeats 4000000 in
set_option maxRecDepth 100000 in
theorem c_X2_bearsTorque (l : Launch) {D : va_G} {cy : Nat → ClassId} {X : va_W} (S : wPS) (sz : Nat) (o1 : Nat) (h_o1 : ok2 S o1) (x1 : Int32) (b1 : ¬ (f_X2_pitchDiameter S o1).toInt64 = 0) (b2 : ¬ (S.I o1 1).toInt64 = 0) (b3 : ¬ (S.I o1 4).toInt64 * (S.I o1 2).toInt64 = 0) (b4 : ¬ (S.I o1 4).toInt64 = 0) : Met l yX2_bearsTorque wsX2_bearsTorque ({ frames := 1, cells := 0, slots := 0, locals := 26 }) (va_Pc [.ref o1, .int x1] (fun U => U.heap.size = sz ∧ WD D cy X (fun _ => True) S U ∧ NW U)) (va_Qi (fun r (_ : Unit) => r = f_X2_bearsTorque S o1 x1) (fun _ t => WD D cy X (va_A (X ++ PL cy S) sz) S t) (va_A (X ++ PL cy S) sz)) 0 0 (va_A (X ++ PL cy S) sz) := by
  refine Met.ofW (cc := cX2_bearsTorque) (maxL := 10) (ret := (some .boolean)) (by decide) rfl ?_
  intro p e s m args below meth c s₁ B hml hv
  obtain ⟨rfl, hsz, ⟨hP, hK, hD0⟩, hN⟩ := hv
  have hx := B.exec
  have hb := B.bytes
  have hr := B.returns
  have hts := atoms_spec (ws := wsX2_bearsTorque) B.pre
  have hown : s.vm.findClass RX2 = some m.cls := findClass_of_methodNamed B.named
  have hlocks := B.notSynchronized
  subst hsz
  have hD := hD0.self (sz := s.heap.size)
  generalize hAe : va_A (X ++ PL cy S) s.heap.size = A at hD ⊢
  have hA : ∀ q : Nat, s.heap.size ≤ q → A q := fun q h => by rw [← hAe]; exact Or.inr h
  have hS : va_S A s.heap s.heap [] := va_S.rf
  have hl := lv_entry ([.ref o1, .int x1]) (n := 10) (Nat.le_of_ble_eq_true rfl)
  rw [lg_entry_eq]
  generalize (lg_sl ([.ref o1, .int x1]) ++ List.replicate (10 - (lg_sl ([.ref o1, .int x1])).length) Slot.unset).toArray = ls at hl ⊢
  have hl : lv_has ls 10 [(0, .ref o1), (1, .int x1)] := hl
  refine lv_aload_n hx hb dX2_bearsTorque_0 rfl (lv_at hl 0 rfl) ?_
  have hFc := free_all hD hS hA
  obtain ⟨k1, gk1, hk1⟩ := wGt (cy := cy) X S h_o1.1.1 h_o1.1.2.1
  refine va_calli (va_runV (As := []) (rest := []) ⟨hx, hb, hml, hown, hts⟩ (c_X2_pitchDiameter l (cy := cy) (X := X) (D := D) S _ o1 h_o1) (cwV 0 hts gX2_bearsTorque_X2_pitchDiameter rfl rfl rfl (by decide +kernel) ⟨Nat.le_of_ble_eq_true rfl, Nat.le_of_ble_eq_true rfl⟩) ⟨fun a U g mk q => ⟨q.1, q.2.1, q.2.2.1.calling, NW.same (u := U) (U := U.calling g mk a) rfl q.2.2.2⟩, va_recv hK hP (ci := 6) (q0 := k1) rfl hk1, fun U hU hW => ⟨rfl, by rw [hU], wd_pre hP hK hD hU hW, hN.warm hW⟩⟩ rfl rfl hl.1 rfl (lv_room (Nat.le_of_ble_eq_true rfl)) dX2_bearsTorque_1 ⟨(Nat.zero_le _), (Nat.zero_le _)⟩) hS (fun q _ h => hFc q h) hFc (fun r2 u t H1 locs ht hvm hw hB hz1 hk1 hS => ?_)
  obtain ⟨hP, hD⟩ := wd_post hFc ht hB
  generalize H1 = H at hP hS ⊢
  obtain rfl : r2 = f_X2_pitchDiameter S o1 := hw
  refine lv_i2l hx hb dX2_bearsTorque_4 rfl ?_
  refine lv_lstore_n (lv' := [(2, .long ((f_X2_pitchDiameter S o1).toInt64)), (0, .ref o1), (1, .int x1)]) hx hb dX2_bearsTorque_5 rfl hl (by decide) rfl (fun ls hl => ?_)
  refine lv_ldc2 (own := RX2) (v := 2000000) hx hb hown (hts (.constantLong RX2 145 (2000000)) (by decide +kernel)) dX2_bearsTorque_6 ?_
  refine lv_iload_n hx hb dX2_bearsTorque_9 rfl (lv_at hl 2 rfl) ?_
  refine lv_i2l hx hb dX2_bearsTorque_10 rfl ?_
  refine lv_lmul hx hb dX2_bearsTorque_11 ?_
  refine lv_lload_n hx hb dX2_bearsTorque_12 rfl (lv_at hl 0 rfl) ?_
  refine lv_ldiv hx hb dX2_bearsTorque_13 (b1) ?_
  refine lv_lstore (lv' := [(4, .long (((2000000 : Int64) * x1.toInt64) / ((f_X2_pitchDiameter S o1).toInt64))), (2, .long ((f_X2_pitchDiameter S o1).toInt64)), (0, .ref o1), (1, .int x1)]) hx hb dX2_bearsTorque_14 hl (by decide) rfl (fun ls hl => ?_)
  refine lv_lload hx hb dX2_bearsTorque_16 (lv_at hl 0 rfl) ?_
  refine lv_aload_n hx hb dX2_bearsTorque_18 rfl (lv_at hl 2 rfl) ?_
  obtain ⟨k3, gk3, hk3⟩ := wGt (cy := cy) X S h_o1.1.1 h_o1.1.2.1
  refine va_get (D := D) (ci := 6) (v := .int (S.I o1 1)) (C := RX2) (T := TX2) (N := 20) hx hb hts (by decide +kernel) hown hK hP k3 hk3 rfl 1 (by decide) (hts (.fieldLink RX2 15 "Hobhouse$Gear" "teeth" "I") (by decide +kernel)) (fun _ h9 => h9) rfl dX2_bearsTorque_19 ?_
  refine lv_bipush (v := 20) hx hb dX2_bearsTorque_22 (by decide +kernel) ?_
  refine lv_iadd hx hb dX2_bearsTorque_24 ?_
  refine lv_i2l hx hb dX2_bearsTorque_25 rfl ?_
  refine lv_lmul hx hb dX2_bearsTorque_26 ?_
  refine lv_aload_n hx hb dX2_bearsTorque_27 rfl (lv_at hl 2 rfl) ?_
  obtain ⟨k4, gk4, hk4⟩ := wGt (cy := cy) X S h_o1.1.1 h_o1.1.2.1
  refine va_get (D := D) (ci := 6) (v := .int (S.I o1 1)) (C := RX2) (T := TX2) (N := 20) hx hb hts (by decide +kernel) hown hK hP k4 hk4 rfl 1 (by decide) (hts (.fieldLink RX2 15 "Hobhouse$Gear" "teeth" "I") (by decide +kernel)) (fun _ h9 => h9) rfl dX2_bearsTorque_28 ?_
  refine lv_i2l hx hb dX2_bearsTorque_31 rfl ?_
  refine lv_ldiv hx hb dX2_bearsTorque_32 (b2) ?_
  refine lv_ldc2 (own := RX2) (v := 1000000) hx hb hown (hts (.constantLong RX2 86 (1000000)) (by decide +kernel)) dX2_bearsTorque_33 ?_
  refine lv_lmul hx hb dX2_bearsTorque_36 ?_
  refine lv_aload_n hx hb dX2_bearsTorque_37 rfl (lv_at hl 2 rfl) ?_
  obtain ⟨k5, gk5, hk5⟩ := wGt (cy := cy) X S h_o1.1.1 h_o1.1.2.1
  refine va_get (D := D) (ci := 6) (v := .int (S.I o1 4)) (C := RX2) (T := TX2) (N := 20) hx hb hts (by decide +kernel) hown hK hP k5 hk5 rfl 4 (by decide) (hts (.fieldLink RX2 24 "Hobhouse$Gear" "width" "I") (by decide +kernel)) (fun _ h9 => h9) rfl dX2_bearsTorque_38 ?_
  refine lv_i2l hx hb dX2_bearsTorque_41 rfl ?_
  refine lv_aload_n hx hb dX2_bearsTorque_42 rfl (lv_at hl 2 rfl) ?_
  obtain ⟨k6, gk6, hk6⟩ := wGt (cy := cy) X S h_o1.1.1 h_o1.1.2.1
  refine va_get (D := D) (ci := 6) (v := .int (S.I o1 2)) (C := RX2) (T := TX2) (N := 20) hx hb hts (by decide +kernel) hown hK hP k6 hk6 rfl 2 (by decide) (hts (.fieldLink RX2 18 "Hobhouse$Gear" "module" "I") (by decide +kernel)) (fun _ h9 => h9) rfl dX2_bearsTorque_43 ?_
  refine lv_i2l hx hb dX2_bearsTorque_46 rfl ?_
  refine lv_lmul hx hb dX2_bearsTorque_47 ?_
  refine lv_ldiv hx hb dX2_bearsTorque_48 (by assumption) ?_
  refine lv_lstore (lv' := [(6, .long (((((((2000000 : Int64) * x1.toInt64) / ((f_X2_pitchDiameter S o1).toInt64)) * (((S.I o1 1) + (20 : Int32)).toInt64)) / ((S.I o1 1).toInt64)) * (1000000 : Int64)) / (((S.I o1 4).toInt64) * ((S.I o1 2).toInt64)))), (4, .long (((2000000 : Int64) * x1.toInt64) / ((f_X2_pitchDiameter S o1).toInt64))), (2, .long ((f_X2_pitchDiameter S o1).toInt64)), (0, .ref o1), (1, .int x1)]) hx hb dX2_bearsTorque_49 hl (by decide) rfl (fun ls hl => ?_)
  refine lv_lload hx hb dX2_bearsTorque_51 (lv_at hl 1 rfl) ?_
  refine lv_ldc2 (own := RX2) (v := 1000000) hx hb hown (hts (.constantLong RX2 86 (1000000)) (by decide +kernel)) dX2_bearsTorque_53 ?_
  refine lv_lmul hx hb dX2_bearsTorque_56 ?_
  refine lv_lload_n hx hb dX2_bearsTorque_57 rfl (lv_at hl 2 rfl) ?_
  refine lv_ldiv hx hb dX2_bearsTorque_58 (b1) ?_
  refine lv_ldc2 (own := RX2) (v := 100000) hx hb hown (hts (.constantLong RX2 147 (100000)) (by decide +kernel)) dX2_bearsTorque_59 ?_
  refine lv_lmul hx hb dX2_bearsTorque_62 ?_
  refine lv_aload_n hx hb dX2_bearsTorque_63 rfl (lv_at hl 3 rfl) ?_
  obtain ⟨k7, gk7, hk7⟩ := wGt (cy := cy) X S h_o1.1.1 h_o1.1.2.1
  refine va_get (D := D) (ci := 6) (v := .int (S.I o1 4)) (C := RX2) (T := TX2) (N := 20) hx hb hts (by decide +kernel) hown hK hP k7 hk7 rfl 4 (by decide) (hts (.fieldLink RX2 24 "Hobhouse$Gear" "width" "I") (by decide +kernel)) (fun _ h9 => h9) rfl dX2_bearsTorque_64 ?_
  refine lv_i2l hx hb dX2_bearsTorque_67 rfl ?_
  refine lv_ldiv hx hb dX2_bearsTorque_68 (b4) ?_
  have hFc := free_all hD hS hA
  refine va_calll (va_runSN (As := [.long (((((((2000000 : Int64) * x1.toInt64) / ((f_X2_pitchDiameter S o1).toInt64)) * (1000000 : Int64)) / ((f_X2_pitchDiameter S o1).toInt64)) * (100000 : Int64)) / ((S.I o1 4).toInt64))]) (rest := []) ⟨hx, hb, hml, hown, hts⟩ (c_X9_root l (cy := cy) (X := X) (D := D) S _ (((((((2000000 : Int64) * x1.toInt64) / ((f_X2_pitchDiameter S o1).toInt64)) * (1000000 : Int64)) / ((f_X2_pitchDiameter S o1).toInt64)) * (100000 : Int64)) / ((S.I o1 4).toInt64))) ⟨va_cnB 1 hts gX2_bearsTorque_X9_root_n72 rfl rfl rfl (hN (.methodLinkNest RX2 72 yX9_root RX9) (by decide +kernel)) (hts (.initialized RX9) (by decide +kernel)) (by decide +kernel) ⟨Nat.le_of_ble_eq_true rfl, Nat.le_of_ble_eq_true rfl⟩, hts (.static yX9_root) (by decide +kernel), trivial⟩ ⟨fun a U g mk q => ⟨q.1, q.2.1, q.2.2.1.calling, NW.same (u := U) (U := U.calling g mk a) rfl q.2.2.2⟩, fun U hU hW => ⟨rfl, by rw [hU], wd_pre hP hK hD hU hW, hN.warm hW⟩⟩ rfl rfl hl.1 rfl (lv_room (Nat.le_of_ble_eq_true rfl)) dX2_bearsTorque_69 ⟨(Nat.zero_le _), (Nat.zero_le _)⟩) hS (fun q _ h => hFc q h) hFc (fun r8 u t H1 locs ht hvm hw hB hz1 hk1 hS => ?_)
  obtain ⟨hP, hD⟩ := wd_post hFc ht hB
  generalize H1 = H at hP hS ⊢
  obtain rfl : r8 = f_X9_root (((((((2000000 : Int64) * x1.toInt64) / ((f_X2_pitchDiameter S o1).toInt64)) * (1000000 : Int64)) / ((f_X2_pitchDiameter S o1).toInt64)) * (100000 : Int64)) / ((S.I o1 4).toInt64)) := hw
  refine lv_lstore (lv' := [(8, .long (f_X9_root (((((((2000000 : Int64) * x1.toInt64) / ((f_X2_pitchDiameter S o1).toInt64)) * (1000000 : Int64)) / ((f_X2_pitchDiameter S o1).toInt64)) * (100000 : Int64)) / ((S.I o1 4).toInt64)))), (6, .long (((((((2000000 : Int64) * x1.toInt64) / ((f_X2_pitchDiameter S o1).toInt64)) * (((S.I o1 1) + (20 : Int32)).toInt64)) / ((S.I o1 1).toInt64)) * (1000000 : Int64)) / (((S.I o1 4).toInt64) * ((S.I o1 2).toInt64)))), (4, .long (((2000000 : Int64) * x1.toInt64) / ((f_X2_pitchDiameter S o1).toInt64))), (2, .long ((f_X2_pitchDiameter S o1).toInt64)), (0, .ref o1), (1, .int x1)]) hx hb dX2_bearsTorque_72 hl (by decide) rfl (fun ls hl => ?_)
  refine lv_aload_n hx hb dX2_bearsTorque_74 rfl (lv_at hl 4 rfl) ?_
  obtain ⟨k9, gk9, hk9⟩ := wGt (cy := cy) X S h_o1.1.1 h_o1.1.2.1
  refine va_get (D := D) (ci := 6) (v := .int (S.I o1 15)) (C := RX2) (T := TX2) (N := 20) hx hb hts (by decide +kernel) hown hK hP k9 hk9 rfl 15 (by decide) (hts (.fieldLink RX2 116 "Hobhouse$Gear" "caseDepth" "I") (by decide +kernel)) (fun _ h9 => h9) rfl dX2_bearsTorque_75 ?_
  refine lv_if_ne (tgt := 105) hx hb dX2_bearsTorque_78 (by decide) (fun c10 => ?_) (fun c10 => ?_)
  · refine lv_aload_n hx hb dX2_bearsTorque_105 rfl (lv_at hl 4 rfl) ?_
    obtain ⟨k11, gk11, hk11⟩ := wGt (cy := cy) X S h_o1.1.1 h_o1.1.2.1
    refine va_get (D := D) (ci := 6) (v := .int (S.I o1 15)) (C := RX2) (T := TX2) (N := 20) hx hb hts (by decide +kernel) hown hK hP k11 hk11 rfl 15 (by decide) (hts (.fieldLink RX2 116 "Hobhouse$Gear" "caseDepth" "I") (by decide +kernel)) (fun _ h9 => h9) rfl dX2_bearsTorque_106 ?_
    refine lv_aload_n hx hb dX2_bearsTorque_109 rfl (lv_at hl 4 rfl) ?_
    obtain ⟨k12, gk12, hk12⟩ := wGt (cy := cy) X S h_o1.1.1 h_o1.1.2.1
    refine va_get (D := D) (ci := 6) (v := .int (S.I o1 2)) (C := RX2) (T := TX2) (N := 20) hx hb hts (by decide +kernel) hown hK hP k12 hk12 rfl 2 (by decide) (hts (.fieldLink RX2 18 "Hobhouse$Gear" "module" "I") (by decide +kernel)) (fun _ h9 => h9) rfl dX2_bearsTorque_110 ?_
    refine lv_bipush (v := 6) hx hb dX2_bearsTorque_113 (by decide +kernel) ?_
    refine lv_idiv hx hb dX2_bearsTorque_115 (by decide) ?_
    refine lv_icmp_ge (tgt := 143) hx hb dX2_bearsTorque_116 (by decide) (fun c13 => ?_) (fun c13 => ?_)
    · refine lv_lload hx hb dX2_bearsTorque_143 (lv_at hl 1 rfl) ?_
      refine lv_ldc2 (own := RX2) (v := 400) hx hb hown (hts (.constantLong RX2 157 (400)) (by decide +kernel)) dX2_bearsTorque_145 ?_
      refine W.lcmp hx hb dX2_bearsTorque_148 ?_
      refine lv_if_gt (tgt := 165) hx hb dX2_bearsTorque_149 (by decide) (fun c14 => ?_) (fun c14 => ?_)
      · refine lv_iconst (v := 0) hx hb dX2_bearsTorque_165 (by decide) ?_
        exact W.zret (v := (0 : Int32)) hx hb hr (by rfl) (fun t ht hW => ⟨⟨(0 : Int32), (), rfl, (by show (0 : Int32) = f_X2_bearsTorque S o1 x1; unfold f_X2_bearsTorque; rw [if_neg c10, if_pos c13, if_pos c14]), wd_end hP hK hD ht hW.alike⟩, hS.F ht⟩) hS.2.2 dX2_bearsTorque_166 hlocks
      · refine lv_lload hx hb dX2_bearsTorque_152 (lv_at hl 0 rfl) ?_
        refine lv_ldc2 (own := RX2) (v := 1400) hx hb hown (hts (.constantLong RX2 159 (1400)) (by decide +kernel)) dX2_bearsTorque_154 ?_
        refine W.lcmp hx hb dX2_bearsTorque_157 ?_
        refine lv_if_gt (tgt := 165) hx hb dX2_bearsTorque_158 (by decide) (fun c15 => ?_) (fun c15 => ?_)
        · refine lv_iconst (v := 0) hx hb dX2_bearsTorque_165 (by decide) ?_
          exact W.zret (v := (0 : Int32)) hx hb hr (by rfl) (fun t ht hW => ⟨⟨(0 : Int32), (), rfl, (by show (0 : Int32) = f_X2_bearsTorque S o1 x1; unfold f_X2_bearsTorque; rw [if_neg c10, if_pos c13, if_neg c14, if_pos c15]), wd_end hP hK hD ht hW.alike⟩, hS.F ht⟩) hS.2.2 dX2_bearsTorque_166 hlocks
        · refine lv_iconst (v := 1) hx hb dX2_bearsTorque_161 (by decide) ?_
          refine lv_goto (tgt := 166) hx hb dX2_bearsTorque_162 (by decide) ?_
          exact W.zret (v := (1 : Int32)) hx hb hr (by rfl) (fun t ht hW => ⟨⟨(1 : Int32), (), rfl, (by show (1 : Int32) = f_X2_bearsTorque S o1 x1; unfold f_X2_bearsTorque; rw [if_neg c10, if_pos c13, if_neg c14, if_neg c15]), wd_end hP hK hD ht hW.alike⟩, hS.F ht⟩) hS.2.2 dX2_bearsTorque_166 hlocks
    · refine lv_lload hx hb dX2_bearsTorque_119 (lv_at hl 1 rfl) ?_
      refine lv_ldc2 (own := RX2) (v := 300) hx hb hown (hts (.constantLong RX2 153 (300)) (by decide +kernel)) dX2_bearsTorque_121 ?_
      refine W.lcmp hx hb dX2_bearsTorque_124 ?_
      refine lv_if_gt (tgt := 141) hx hb dX2_bearsTorque_125 (by decide) (fun c16 => ?_) (fun c16 => ?_)
      · refine lv_iconst (v := 0) hx hb dX2_bearsTorque_141 (by decide) ?_
        exact W.zret (v := (0 : Int32)) hx hb hr (by rfl) (fun t ht hW => ⟨⟨(0 : Int32), (), rfl, (by show (0 : Int32) = f_X2_bearsTorque S o1 x1; unfold f_X2_bearsTorque; rw [if_neg c10, if_neg c13, if_pos c16]), wd_end hP hK hD ht hW.alike⟩, hS.F ht⟩) hS.2.2 dX2_bearsTorque_142 hlocks
      · refine lv_lload hx hb dX2_bearsTorque_128 (lv_at hl 0 rfl) ?_
        refine lv_ldc2 (own := RX2) (v := 1000) hx hb hown (hts (.constantLong RX2 155 (1000)) (by decide +kernel)) dX2_bearsTorque_130 ?_
        refine W.lcmp hx hb dX2_bearsTorque_133 ?_
        refine lv_if_gt (tgt := 141) hx hb dX2_bearsTorque_134 (by decide) (fun c17 => ?_) (fun c17 => ?_)
        · refine lv_iconst (v := 0) hx hb dX2_bearsTorque_141 (by decide) ?_
          exact W.zret (v := (0 : Int32)) hx hb hr (by rfl) (fun t ht hW => ⟨⟨(0 : Int32), (), rfl, (by show (0 : Int32) = f_X2_bearsTorque S o1 x1; unfold f_X2_bearsTorque; rw [if_neg c10, if_neg c13, if_neg c16, if_pos c17]), wd_end hP hK hD ht hW.alike⟩, hS.F ht⟩) hS.2.2 dX2_bearsTorque_142 hlocks
        · refine lv_iconst (v := 1) hx hb dX2_bearsTorque_137 (by decide) ?_
          refine lv_goto (tgt := 142) hx hb dX2_bearsTorque_138 (by decide) ?_
          exact W.zret (v := (1 : Int32)) hx hb hr (by rfl) (fun t ht hW => ⟨⟨(1 : Int32), (), rfl, (by show (1 : Int32) = f_X2_bearsTorque S o1 x1; unfold f_X2_bearsTorque; rw [if_neg c10, if_neg c13, if_neg c16, if_neg c17]), wd_end hP hK hD ht hW.alike⟩, hS.F ht⟩) hS.2.2 dX2_bearsTorque_142 hlocks
  · refine lv_lload hx hb dX2_bearsTorque_81 (lv_at hl 1 rfl) ?_
    refine lv_ldc2 (own := RX2) (v := 200) hx hb hown (hts (.constantLong RX2 149 (200)) (by decide +kernel)) dX2_bearsTorque_83 ?_
    refine W.lcmp hx hb dX2_bearsTorque_86 ?_
    refine lv_if_gt (tgt := 103) hx hb dX2_bearsTorque_87 (by decide) (fun c18 => ?_) (fun c18 => ?_)
    · refine lv_iconst (v := 0) hx hb dX2_bearsTorque_103 (by decide) ?_
      exact W.zret (v := (0 : Int32)) hx hb hr (by rfl) (fun t ht hW => ⟨⟨(0 : Int32), (), rfl, (by show (0 : Int32) = f_X2_bearsTorque S o1 x1; unfold f_X2_bearsTorque; rw [if_pos c10, if_pos c18]), wd_end hP hK hD ht hW.alike⟩, hS.F ht⟩) hS.2.2 dX2_bearsTorque_104 hlocks
    · refine lv_lload hx hb dX2_bearsTorque_90 (lv_at hl 0 rfl) ?_
      refine lv_ldc2 (own := RX2) (v := 600) hx hb hown (hts (.constantLong RX2 151 (600)) (by decide +kernel)) dX2_bearsTorque_92 ?_
      refine W.lcmp hx hb dX2_bearsTorque_95 ?_
      refine lv_if_gt (tgt := 103) hx hb dX2_bearsTorque_96 (by decide) (fun c19 => ?_) (fun c19 => ?_)
      · refine lv_iconst (v := 0) hx hb dX2_bearsTorque_103 (by decide) ?_
        exact W.zret (v := (0 : Int32)) hx hb hr (by rfl) (fun t ht hW => ⟨⟨(0 : Int32), (), rfl, (by show (0 : Int32) = f_X2_bearsTorque S o1 x1; unfold f_X2_bearsTorque; rw [if_pos c10, if_neg c18, if_pos c19]), wd_end hP hK hD ht hW.alike⟩, hS.F ht⟩) hS.2.2 dX2_bearsTorque_104 hlocks
      · refine lv_iconst (v := 1) hx hb dX2_bearsTorque_99 (by decide) ?_
        refine lv_goto (tgt := 104) hx hb dX2_bearsTorque_100 (by decide) ?_
        exact W.zret (v := (1 : Int32)) hx hb hr (by rfl) (fun t ht hW => ⟨⟨(1 : Int32), (), rfl, (by show (1 : Int32) = f_X2_bearsTorque S o1 x1; unfold f_X2_bearsTorque; rw [if_pos c10, if_neg c18, if_neg c19]), wd_end hP hK hD ht hW.alike⟩, hS.F ht⟩) hS.2.2 dX2_bearsTorque_104 hlocks
def f_X2_borneTorque_L7 (S : wPS) (o1 : Nat) : Nat → Int32 → Int32 → Int32 → Int32 × Int32 × Int32
  | 0, w7_1, w7_2, w7_3 => (w7_1, w7_2, w7_3)
  | n + 1, w7_1, w7_2, w7_3 => if (32 : Int32) ≤ w7_3 then (w7_1, w7_2, w7_3) else if w7_2 ≤ w7_1 then (w7_1, w7_2, w7_3) else if (f_X2_bearsTorque S o1 (((w7_1 + w7_2) + (1 : Int32)) / (2 : Int32))) = (0 : Int32) then f_X2_borneTorque_L7 S o1 n w7_1 ((((w7_1 + w7_2) + (1 : Int32)) / (2 : Int32)) - (1 : Int32)) (w7_3 + (1 : Int32)) else f_X2_borneTorque_L7 S o1 n (((w7_1 + w7_2) + (1 : Int32)) / (2 : Int32)) w7_2 (w7_3 + (1 : Int32))
theorem f_X2_borneTorque_L7_s (S : wPS) (o1 : Nat) (n : Nat) (w7_1 : Int32) (w7_2 : Int32) (w7_3 : Int32) : f_X2_borneTorque_L7 S o1 (n + 1) w7_1 w7_2 w7_3 = if (32 : Int32) ≤ w7_3 then (w7_1, w7_2, w7_3) else if w7_2 ≤ w7_1 then (w7_1, w7_2, w7_3) else if (f_X2_bearsTorque S o1 (((w7_1 + w7_2) + (1 : Int32)) / (2 : Int32))) = (0 : Int32) then f_X2_borneTorque_L7 S o1 n w7_1 ((((w7_1 + w7_2) + (1 : Int32)) / (2 : Int32)) - (1 : Int32)) (w7_3 + (1 : Int32)) else f_X2_borneTorque_L7 S o1 n (((w7_1 + w7_2) + (1 : Int32)) / (2 : Int32)) w7_2 (w7_3 + (1 : Int32)) := rfl
def f_X2_borneTorque (S : wPS) (o1 : Nat) : Int32 := l3 (f_X2_borneTorque_L7 S o1 64 (0 : Int32) (100000 : Int32) (0 : Int32)) (fun z7 z8 z9 => z7)
set_option maxHeartbeats 4000000 in
set_option maxRecDepth 100000 in
theorem c_X2_borneTorque (l : Launch) {D : va_G} {cy : Nat → ClassId} {X : va_W} (S : wPS) (sz : Nat) (o1 : Nat) (h_o1 : ok2 S o1) (b1 : ¬ (f_X2_pitchDiameter S o1).toInt64 = 0) (b2 : ¬ (S.I o1 1).toInt64 = 0) (b3 : ¬ (S.I o1 4).toInt64 * (S.I o1 2).toInt64 = 0) (b4 : ¬ (S.I o1 4).toInt64 = 0) : Met l yX2_borneTorque wsX2_borneTorque ({ frames := 2, cells := 0, slots := 0, locals := 55 }) (va_Pc [.ref o1] (fun U => U.heap.size = sz ∧ WD D cy X (fun _ => True) S U ∧ NW U)) (va_Qi (fun r (_ : Unit) => r = f_X2_borneTorque S o1) (fun _ t => WD D cy X (va_A (X ++ PL cy S) sz) S t) (va_A (X ++ PL cy S) sz)) 0 0 (va_A (X ++ PL cy S) sz) := by
  refine Met.ofW (cc := cX2_borneTorque) (maxL := 5) (ret := (some .int)) (by decide) rfl ?_
  intro p e s m args below meth c s₁ B hml hv
  obtain ⟨rfl, hsz, ⟨hP, hK, hD0⟩, hN⟩ := hv
  have hx := B.exec
  have hb := B.bytes
  have hr := B.returns
  have hts := atoms_spec (ws := wsX2_borneTorque) B.pre
  have hown : s.vm.findClass RX2 = some m.cls := findClass_of_methodNamed B.named
  have hlocks := B.notSynchronized
  subst hsz
  have hD := hD0.self (sz := s.heap.size)
  generalize hAe : va_A (X ++ PL cy S) s.heap.size = A at hD ⊢
  have hA : ∀ q : Nat, s.heap.size ≤ q → A q := fun q h => by rw [← hAe]; exact Or.inr h
  have hS : va_S A s.heap s.heap [] := va_S.rf
  have hl := lv_entry ([.ref o1]) (n := 5) (Nat.le_of_ble_eq_true rfl)
  rw [lg_entry_eq]
  generalize (lg_sl ([.ref o1]) ++ List.replicate (5 - (lg_sl ([.ref o1])).length) Slot.unset).toArray = ls at hl ⊢
  have hl : lv_has ls 5 [(0, .ref o1)] := hl
  refine lv_iconst (v := 0) hx hb dX2_borneTorque_0 (by decide) ?_
  refine lv_istore_n (lv' := [(1, .int (0 : Int32)), (0, .ref o1)]) hx hb dX2_borneTorque_1 rfl hl (by decide) rfl (fun ls hl => ?_)
  refine lv_ldc (own := RX2) (v := 100000) hx hb hown (hts (.constant RX2 140 (100000)) (by decide +kernel)) dX2_borneTorque_2 ?_
  refine lv_istore_n (lv' := [(2, .int (100000 : Int32)), (1, .int (0 : Int32)), (0, .ref o1)]) hx hb dX2_borneTorque_4 rfl hl (by decide) rfl (fun ls hl => ?_)
  refine lv_iconst (v := 0) hx hb dX2_borneTorque_5 (by decide) ?_
  refine lv_istore_n (lv' := [(3, .int (0 : Int32)), (2, .int (100000 : Int32)), (1, .int (0 : Int32)), (0, .ref o1)]) hx hb dX2_borneTorque_6 rfl hl (by decide) rfl (fun ls hl => ?_)
  have loop7 : ∀ (n : Nat) (w7_1 : Int32) (w7_2 : Int32) (w7_3 : Int32) (H : Heap) (locs : List Loc) (ls : Array Slot), (32 - w7_3.toInt).toNat < n → True → va_P D vwCl (X ++ PL cy S) H → va_S A s.heap H locs → lv_has ls 5 [(3, .int w7_3), (2, .int w7_2), (1, .int w7_1), (0, .ref o1)] → (∀ (w7_1x : Int32) (w7_2x : Int32) (w7_3x : Int32) (H : Heap) (locs : List Loc) (ls : Array Slot), True → va_P D vwCl (X ++ PL cy S) H → va_S A s.heap H locs → lv_has ls 5 [(3, .int w7_3x), (2, .int w7_2x), (1, .int w7_1x), (0, .ref o1)] → f_X2_borneTorque_L7 S o1 n w7_1 w7_2 w7_3 = (w7_1x, w7_2x, w7_3x) → W p l e (headSpec wsX2_borneTorque ({ frames := 2, cells := 0, slots := 0, locals := 55 } : Room)).room s m [.ref o1].toArray below meth c H locs 0 0 (MQ below (va_Qi (fun r (_ : Unit) => r = f_X2_borneTorque S o1) (fun _ t => WD D cy X A S t) A) [.ref o1].toArray s 0 0 A) (F0 m 53 ls [])) → W p l e (headSpec wsX2_borneTorque ({ frames := 2, cells := 0, slots := 0, locals := 55 } : Room)).room s m [.ref o1].toArray below meth c H locs 0 0 (MQ below (va_Qi (fun r (_ : Unit) => r = f_X2_borneTorque S o1) (fun _ t => WD D cy X A S t) A) [.ref o1].toArray s 0 0 A) (F0 m 7 ls []) := by
    intro n
    induction n with
    | zero => intro w7_1 w7_2 w7_3 H locs ls hm; exact absurd hm (Nat.not_lt_zero _)
    | succ n ih7 =>
      intro w7_1 w7_2 w7_3 H locs ls hm hi hP hS hl ko
      refine lv_iload_n hx hb dX2_borneTorque_7 rfl (lv_at hl 0 rfl) ?_
      refine lv_bipush (v := 32) hx hb dX2_borneTorque_8 (by decide +kernel) ?_
      refine lv_icmp_ge (tgt := 53) hx hb dX2_borneTorque_10 (by decide) (fun c1 => ?_) (fun c1 => ?_)
      · exact ko w7_1 w7_2 w7_3 _ _ _ (hi) hP hS (lv_sub hl [0, 1, 2, 3] rfl) (by rw [f_X2_borneTorque_L7_s, if_pos c1])
      · refine lv_iload_n hx hb dX2_borneTorque_13 rfl (lv_at hl 2 rfl) ?_
        refine lv_iload_n hx hb dX2_borneTorque_14 rfl (lv_at hl 1 rfl) ?_
        refine lv_icmp_ge (tgt := 53) hx hb dX2_borneTorque_15 (by decide) (fun c2 => ?_) (fun c2 => ?_)
        · exact ko w7_1 w7_2 w7_3 _ _ _ (hi) hP hS (lv_sub hl [0, 1, 2, 3] rfl) (by rw [f_X2_borneTorque_L7_s, if_neg c1, if_pos c2])
        · refine lv_iload_n hx hb dX2_borneTorque_18 rfl (lv_at hl 2 rfl) ?_
          refine lv_iload_n hx hb dX2_borneTorque_19 rfl (lv_at hl 1 rfl) ?_
          refine lv_iadd hx hb dX2_borneTorque_20 ?_
          refine lv_iconst (v := 1) hx hb dX2_borneTorque_21 (by decide) ?_
          refine lv_iadd hx hb dX2_borneTorque_22 ?_
          refine lv_iconst (v := 2) hx hb dX2_borneTorque_23 (by decide) ?_
          refine lv_idiv hx hb dX2_borneTorque_24 (by decide) ?_
          refine lv_istore (lv' := [(4, .int (((w7_1 + w7_2) + (1 : Int32)) / (2 : Int32))), (3, .int w7_3), (2, .int w7_2), (1, .int w7_1), (0, .ref o1)]) hx hb dX2_borneTorque_25 hl (by decide) rfl (fun ls hl => ?_)
          refine lv_aload_n hx hb dX2_borneTorque_27 rfl (lv_at hl 4 rfl) ?_
          refine lv_iload hx hb dX2_borneTorque_28 (lv_at hl 0 rfl) ?_
          have hFc := free_all hD hS hA
          obtain ⟨k3, gk3, hk3⟩ := wGt (cy := cy) X S h_o1.1.1 h_o1.1.2.1
          refine va_calli (va_runV (As := [.int (((w7_1 + w7_2) + (1 : Int32)) / (2 : Int32))]) (rest := []) ⟨hx, hb, hml, hown, hts⟩ (c_X2_bearsTorque l (cy := cy) (X := X) (D := D) S _ o1 h_o1 (((w7_1 + w7_2) + (1 : Int32)) / (2 : Int32)) (by first | assumption | decide | exact pos_of (by assumption)) (by first | assumption | decide | exact pos_of (by assumption)) (by first | assumption | decide | exact pos_of (by assumption)) (by first | assumption | decide | exact pos_of (by assumption))) (cwV 1 hts gX2_borneTorque_X2_bearsTorque rfl rfl rfl (by decide +kernel) ⟨Nat.le_of_ble_eq_true rfl, Nat.le_of_ble_eq_true rfl⟩) ⟨fun a U g mk q => ⟨q.1, q.2.1, q.2.2.1.calling, NW.same (u := U) (U := U.calling g mk a) rfl q.2.2.2⟩, va_recv hK hP (ci := 6) (q0 := k3) rfl hk3, fun U hU hW => ⟨rfl, by rw [hU], wd_pre hP hK hD hU hW, hN.warm hW⟩⟩ rfl rfl hl.1 rfl (lv_room (Nat.le_of_ble_eq_true rfl)) dX2_borneTorque_30 ⟨(Nat.zero_le _), (Nat.zero_le _)⟩) hS (fun q _ h => hFc q h) hFc (fun r4 u t H1 locs ht hvm hw hB hz1 hk1 hS => ?_)
          obtain ⟨hP, hD⟩ := wd_post hFc ht hB
          generalize H1 = H at hP hS ⊢
          obtain rfl : r4 = f_X2_bearsTorque S o1 (((w7_1 + w7_2) + (1 : Int32)) / (2 : Int32)) := hw
          refine lv_if_eq (tgt := 42) hx hb dX2_borneTorque_33 (by decide) (fun c5 => ?_) (fun c5 => ?_)
          · refine lv_iload hx hb dX2_borneTorque_42 (lv_at hl 0 rfl) ?_
            refine lv_iconst (v := 1) hx hb dX2_borneTorque_44 (by decide) ?_
            refine lv_isub hx hb dX2_borneTorque_45 ?_
            refine lv_istore_n (lv' := [(2, .int ((((w7_1 + w7_2) + (1 : Int32)) / (2 : Int32)) - (1 : Int32))), (4, .int (((w7_1 + w7_2) + (1 : Int32)) / (2 : Int32))), (3, .int w7_3), (1, .int w7_1), (0, .ref o1)]) hx hb dX2_borneTorque_46 rfl hl (by decide) rfl (fun ls hl => ?_)
            refine lv_iinc (v := w7_3 + (1 : Int32)) (lv' := [(3, .int (w7_3 + (1 : Int32))), (2, .int ((((w7_1 + w7_2) + (1 : Int32)) / (2 : Int32)) - (1 : Int32))), (4, .int (((w7_1 + w7_2) + (1 : Int32)) / (2 : Int32))), (1, .int w7_1), (0, .ref o1)]) hx hb dX2_borneTorque_47 hl (k := 2) rfl (by rfl) (by decide) rfl (fun ls hl => ?_)
            refine lv_goto (tgt := 7) hx hb dX2_borneTorque_50 (by decide) ?_
            exact ih7 w7_1 ((((w7_1 + w7_2) + (1 : Int32)) / (2 : Int32)) - (1 : Int32)) (w7_3 + (1 : Int32)) _ _ _ (Nat.lt_of_lt_of_le (up_lt (y := 32) (by assumption)) (Nat.le_of_lt_succ hm)) (trivial) hP hS (lv_sub hl [0, 1, 3, 4] rfl) (fun w7_1y w7_2y w7_3y H9 locs9 ls9 i9 P9 S9 l9 hfe => ko w7_1y w7_2y w7_3y H9 locs9 ls9 i9 P9 S9 l9 (Eq.trans (by rw [f_X2_borneTorque_L7_s, if_neg c1, if_neg c2, if_pos c5]) hfe))
          · refine lv_iload hx hb dX2_borneTorque_36 (lv_at hl 0 rfl) ?_
            refine lv_istore_n (lv' := [(1, .int (((w7_1 + w7_2) + (1 : Int32)) / (2 : Int32))), (4, .int (((w7_1 + w7_2) + (1 : Int32)) / (2 : Int32))), (3, .int w7_3), (2, .int w7_2), (0, .ref o1)]) hx hb dX2_borneTorque_38 rfl hl (by decide) rfl (fun ls hl => ?_)
            refine lv_goto (tgt := 47) hx hb dX2_borneTorque_39 (by decide) ?_
            refine lv_iinc (v := w7_3 + (1 : Int32)) (lv' := [(3, .int (w7_3 + (1 : Int32))), (1, .int (((w7_1 + w7_2) + (1 : Int32)) / (2 : Int32))), (4, .int (((w7_1 + w7_2) + (1 : Int32)) / (2 : Int32))), (2, .int w7_2), (0, .ref o1)]) hx hb dX2_borneTorque_47 hl (k := 2) rfl (by rfl) (by decide) rfl (fun ls hl => ?_)
            refine lv_goto (tgt := 7) hx hb dX2_borneTorque_50 (by decide) ?_
            exact ih7 (((w7_1 + w7_2) + (1 : Int32)) / (2 : Int32)) w7_2 (w7_3 + (1 : Int32)) _ _ _ (Nat.lt_of_lt_of_le (up_lt (y := 32) (by assumption)) (Nat.le_of_lt_succ hm)) (trivial) hP hS (lv_sub hl [0, 3, 1, 4] rfl) (fun w7_1y w7_2y w7_3y H9 locs9 ls9 i9 P9 S9 l9 hfe => ko w7_1y w7_2y w7_3y H9 locs9 ls9 i9 P9 S9 l9 (Eq.trans (by rw [f_X2_borneTorque_L7_s, if_neg c1, if_neg c2, if_neg c5]) hfe))
  refine loop7 64 (0 : Int32) (100000 : Int32) (0 : Int32) _ _ _ (by decide) (trivial) hP hS (lv_sub hl [0, 1, 2, 3] rfl) (fun z7 z8 z9 H locs ls hi7 hP hS hl c6 => ?_)
  refine lv_iload_n hx hb dX2_borneTorque_53 rfl (lv_at hl 2 rfl) ?_
  exact W.iret (v := z7) hx hb hr (fun t ht hW => ⟨⟨z7, (), rfl, (by show z7 = f_X2_borneTorque S o1; unfold f_X2_borneTorque; rw [l3_eq c6]), wd_end hP hK hD ht hW.alike⟩, hS.F ht⟩) hS.2.2 dX2_borneTorque_54 hlocks
def f_X2_lifeUnder_L24 (S : wPS) (o1 : Nat) (x1 : Int64) : Nat → Int64 → Int32 → Int64 × Int32
  | 0, w24_5, w24_7 => (w24_5, w24_7)
  | n + 1, w24_5, w24_7 => if (6 : Int32) ≤ w24_7 then (w24_5, w24_7) else f_X2_lifeUnder_L24 S o1 x1 n ((w24_5 * ((f_X2_borneTorque S o1).toInt64)) / x1) (w24_7 + (1 : Int32))
theorem f_X2_lifeUnder_L24_s (S : wPS) (o1 : Nat) (x1 : Int64) (n : Nat) (w24_5 : Int64) (w24_7 : Int32) : f_X2_lifeUnder_L24 S o1 x1 (n + 1) w24_5 w24_7 = if (6 : Int32) ≤ w24_7 then (w24_5, w24_7) else f_X2_lifeUnder_L24 S o1 x1 n ((w24_5 * ((f_X2_borneTorque S o1).toInt64)) / x1) (w24_7 + (1 : Int32)) := rfl
def f_X2_lifeUnder (S : wPS) (o1 : Nat) (x1 : Int64) : Int64 := if (0 : Int32) < (lg_cmp x1 ((f_X2_borneTorque S o1).toInt64)) then l2 (f_X2_lifeUnder_L24 S o1 x1 7 (1000000 : Int64) (0 : Int32)) (fun z6 z7 => z6) else (-1 : Int64)
set_option maxHeartbeats 4000000 in
set_option maxRecDepth 100000 in
theorem c_X2_lifeUnder (l : Launch) {D : va_G} {cy : Nat → ClassId} {X : va_W} (S : wPS) (sz : Nat) (o1 : Nat) (h_o1 : ok2 S o1) (x1 : Int64) (b1 : ¬ (f_X2_pitchDiameter S o1).toInt64 = 0) (b2 : ¬ (S.I o1 1).toInt64 = 0) (b3 : ¬ (S.I o1 4).toInt64 * (S.I o1 2).toInt64 = 0) (b4 : ¬ (S.I o1 4).toInt64 = 0) (b5 : 0 < lg_cmp x1 ((f_X2_borneTorque S o1).toInt64) → ¬ x1 = 0) : Met l yX2_lifeUnder wsX2_lifeUnder ({ frames := 3, cells := 0, slots := 0, locals := 79 }) (va_Pc [.ref o1, .long x1] (fun U => U.heap.size = sz ∧ WD D cy X (fun _ => True) S U ∧ NW U)) (va_Ql (fun r (_ : Unit) => r = f_X2_lifeUnder S o1 x1) (fun _ t => WD D cy X (va_A (X ++ PL cy S) sz) S t) (va_A (X ++ PL cy S) sz)) 0 0 (va_A (X ++ PL cy S) sz) := by
  refine Met.ofW (cc := cX2_lifeUnder) (maxL := 8) (ret := (some .long)) (by decide) rfl ?_
  intro p e s m args below meth c s₁ B hml hv
  obtain ⟨rfl, hsz, ⟨hP, hK, hD0⟩, hN⟩ := hv
  have hx := B.exec
  have hb := B.bytes
  have hr := B.returns
  have hts := atoms_spec (ws := wsX2_lifeUnder) B.pre
  have hown : s.vm.findClass RX2 = some m.cls := findClass_of_methodNamed B.named
  have hlocks := B.notSynchronized
  subst hsz
  have hD := hD0.self (sz := s.heap.size)
  generalize hAe : va_A (X ++ PL cy S) s.heap.size = A at hD ⊢
  have hA : ∀ q : Nat, s.heap.size ≤ q → A q := fun q h => by rw [← hAe]; exact Or.inr h
  have hS : va_S A s.heap s.heap [] := va_S.rf
  have hl := lv_entry ([.ref o1, .long x1]) (n := 8) (Nat.le_of_ble_eq_true rfl)
  rw [lg_entry_eq]
  generalize (lg_sl ([.ref o1, .long x1]) ++ List.replicate (8 - (lg_sl ([.ref o1, .long x1])).length) Slot.unset).toArray = ls at hl ⊢
  have hl : lv_has ls 8 [(0, .ref o1), (1, .long x1)] := hl
  refine lv_aload_n hx hb dX2_lifeUnder_0 rfl (lv_at hl 0 rfl) ?_
  have hFc := free_all hD hS hA
  obtain ⟨k1, gk1, hk1⟩ := wGt (cy := cy) X S h_o1.1.1 h_o1.1.2.1
  refine va_calli (va_runV (As := []) (rest := []) ⟨hx, hb, hml, hown, hts⟩ (c_X2_borneTorque l (cy := cy) (X := X) (D := D) S _ o1 h_o1 (by first | assumption | decide | exact pos_of (by assumption)) (by first | assumption | decide | exact pos_of (by assumption)) (by first | assumption | decide | exact pos_of (by assumption)) (by first | assumption | decide | exact pos_of (by assumption))) (cwV 0 hts gX2_lifeUnder_X2_borneTorque rfl rfl rfl (by decide +kernel) ⟨Nat.le_of_ble_eq_true rfl, Nat.le_of_ble_eq_true rfl⟩) ⟨fun a U g mk q => ⟨q.1, q.2.1, q.2.2.1.calling, NW.same (u := U) (U := U.calling g mk a) rfl q.2.2.2⟩, va_recv hK hP (ci := 6) (q0 := k1) rfl hk1, fun U hU hW => ⟨rfl, by rw [hU], wd_pre hP hK hD hU hW, hN.warm hW⟩⟩ rfl rfl hl.1 rfl (lv_room (Nat.le_of_ble_eq_true rfl)) dX2_lifeUnder_1 ⟨(Nat.zero_le _), (Nat.zero_le _)⟩) hS (fun q _ h => hFc q h) hFc (fun r2 u t H1 locs ht hvm hw hB hz1 hk1 hS => ?_)
  obtain ⟨hP, hD⟩ := wd_post hFc ht hB
  generalize H1 = H at hP hS ⊢
  obtain rfl : r2 = f_X2_borneTorque S o1 := hw
  refine lv_i2l hx hb dX2_lifeUnder_4 rfl ?_
  refine lv_lstore_n (lv' := [(3, .long ((f_X2_borneTorque S o1).toInt64)), (0, .ref o1), (1, .long x1)]) hx hb dX2_lifeUnder_5 rfl hl (by decide) rfl (fun ls hl => ?_)
  refine lv_lload_n hx hb dX2_lifeUnder_6 rfl (lv_at hl 2 rfl) ?_
  refine lv_lload_n hx hb dX2_lifeUnder_7 rfl (lv_at hl 0 rfl) ?_
  refine W.lcmp hx hb dX2_lifeUnder_8 ?_
  refine lv_if_gt (tgt := 16) hx hb dX2_lifeUnder_9 (by decide) (fun c3 => ?_) (fun c3 => ?_)
  · refine lv_ldc2 (own := RX2) (v := 1000000) hx hb hown (hts (.constantLong RX2 86 (1000000)) (by decide +kernel)) dX2_lifeUnder_16 ?_
    refine lv_lstore (lv' := [(5, .long (1000000 : Int64)), (3, .long ((f_X2_borneTorque S o1).toInt64)), (0, .ref o1), (1, .long x1)]) hx hb dX2_lifeUnder_19 hl (by decide) rfl (fun ls hl => ?_)
    refine lv_iconst (v := 0) hx hb dX2_lifeUnder_21 (by decide) ?_
    refine lv_istore (lv' := [(7, .int (0 : Int32)), (5, .long (1000000 : Int64)), (3, .long ((f_X2_borneTorque S o1).toInt64)), (0, .ref o1), (1, .long x1)]) hx hb dX2_lifeUnder_22 hl (by decide) rfl (fun ls hl => ?_)
    have loop24 : ∀ (n : Nat) (w24_5 : Int64) (w24_7 : Int32) (H : Heap) (locs : List Loc) (ls : Array Slot), (6 - w24_7.toInt).toNat < n → True → va_P D vwCl (X ++ PL cy S) H → va_S A s.heap H locs → lv_has ls 8 [(7, .int w24_7), (5, .long w24_5), (3, .long ((f_X2_borneTorque S o1).toInt64)), (0, .ref o1), (1, .long x1)] → (∀ (w24_5x : Int64) (w24_7x : Int32) (H : Heap) (locs : List Loc) (ls : Array Slot), True → va_P D vwCl (X ++ PL cy S) H → va_S A s.heap H locs → lv_has ls 8 [(7, .int w24_7x), (5, .long w24_5x), (3, .long ((f_X2_borneTorque S o1).toInt64)), (0, .ref o1), (1, .long x1)] → f_X2_lifeUnder_L24 S o1 x1 n w24_5 w24_7 = (w24_5x, w24_7x) → W p l e (headSpec wsX2_lifeUnder ({ frames := 3, cells := 0, slots := 0, locals := 79 } : Room)).room s m [.ref o1, .long x1].toArray below meth c H locs 0 0 (MQ below (va_Ql (fun r (_ : Unit) => r = f_X2_lifeUnder S o1 x1) (fun _ t => WD D cy X A S t) A) [.ref o1, .long x1].toArray s 0 0 A) (F0 m 45 ls [])) → W p l e (headSpec wsX2_lifeUnder ({ frames := 3, cells := 0, slots := 0, locals := 79 } : Room)).room s m [.ref o1, .long x1].toArray below meth c H locs 0 0 (MQ below (va_Ql (fun r (_ : Unit) => r = f_X2_lifeUnder S o1 x1) (fun _ t => WD D cy X A S t) A) [.ref o1, .long x1].toArray s 0 0 A) (F0 m 24 ls []) := by
      intro n
      induction n with
      | zero => intro w24_5 w24_7 H locs ls hm; exact absurd hm (Nat.not_lt_zero _)
      | succ n ih24 =>
        intro w24_5 w24_7 H locs ls hm hi hP hS hl ko
        refine lv_iload hx hb dX2_lifeUnder_24 (lv_at hl 0 rfl) ?_
        refine lv_bipush (v := 6) hx hb dX2_lifeUnder_26 (by decide +kernel) ?_
        refine lv_icmp_ge (tgt := 45) hx hb dX2_lifeUnder_28 (by decide) (fun c4 => ?_) (fun c4 => ?_)
        · exact ko w24_5 w24_7 _ _ _ (hi) hP hS (lv_sub hl [0, 1, 2, 3, 4] rfl) (by rw [f_X2_lifeUnder_L24_s, if_pos c4])
        · refine lv_lload hx hb dX2_lifeUnder_31 (lv_at hl 1 rfl) ?_
          refine lv_lload_n hx hb dX2_lifeUnder_33 rfl (lv_at hl 2 rfl) ?_
          refine lv_lmul hx hb dX2_lifeUnder_34 ?_
          refine lv_lload_n hx hb dX2_lifeUnder_35 rfl (lv_at hl 4 rfl) ?_
          refine lv_ldiv hx hb dX2_lifeUnder_36 (b5 (by assumption)) ?_
          refine lv_lstore (lv' := [(5, .long ((w24_5 * ((f_X2_borneTorque S o1).toInt64)) / x1)), (7, .int w24_7), (3, .long ((f_X2_borneTorque S o1).toInt64)), (0, .ref o1), (1, .long x1)]) hx hb dX2_lifeUnder_37 hl (by decide) rfl (fun ls hl => ?_)
          refine lv_iinc (v := w24_7 + (1 : Int32)) (lv' := [(7, .int (w24_7 + (1 : Int32))), (5, .long ((w24_5 * ((f_X2_borneTorque S o1).toInt64)) / x1)), (3, .long ((f_X2_borneTorque S o1).toInt64)), (0, .ref o1), (1, .long x1)]) hx hb dX2_lifeUnder_39 hl (k := 1) rfl (by rfl) (by decide) rfl (fun ls hl => ?_)
          refine lv_goto (tgt := 24) hx hb dX2_lifeUnder_42 (by decide) ?_
          exact ih24 ((w24_5 * ((f_X2_borneTorque S o1).toInt64)) / x1) (w24_7 + (1 : Int32)) _ _ _ (Nat.lt_of_lt_of_le (up_lt (y := 6) (by assumption)) (Nat.le_of_lt_succ hm)) (trivial) hP hS (lv_sub hl [0, 1, 2, 3, 4] rfl) (fun w24_5y w24_7y H9 locs9 ls9 i9 P9 S9 l9 hfe => ko w24_5y w24_7y H9 locs9 ls9 i9 P9 S9 l9 (Eq.trans (by rw [f_X2_lifeUnder_L24_s, if_neg c4]) hfe))
    refine loop24 7 (1000000 : Int64) (0 : Int32) _ _ _ (by decide) (trivial) hP hS (lv_sub hl [0, 1, 2, 3, 4] rfl) (fun z6 z7 H locs ls hi24 hP hS hl c5 => ?_)
    refine lv_lload hx hb dX2_lifeUnder_45 (lv_at hl 1 rfl) ?_
    exact W.lret (v := z6) hx hb hr (fun t ht hW => ⟨⟨z6, (), rfl, (by show z6 = f_X2_lifeUnder S o1 x1; unfold f_X2_lifeUnder; rw [if_pos c3, l2_eq c5]), wd_end hP hK hD ht hW.alike⟩, hS.F ht⟩) hS.2.2 dX2_lifeUnder_47 hlocks
  · refine lv_ldc2 (own := RX2) (v := -1) hx hb hown (hts (.constantLong RX2 164 (-1)) (by decide +kernel)) dX2_lifeUnder_12 ?_
    exact W.lret (v := (-1 : Int64)) hx hb hr (fun t ht hW => ⟨⟨(-1 : Int64), (), rfl, (by show (-1 : Int64) = f_X2_lifeUnder S o1 x1; unfold f_X2_lifeUnder; rw [if_neg c3]), wd_end hP hK hD ht hW.alike⟩, hS.F ht⟩) hS.2.2 dX2_lifeUnder_15 hlocks
def f_X2_heat (S : wPS) (o1 : Nat) (x1 : Int32) (x2 : Int32) : Int32 × wPS := if x2 = (0 : Int32) then if ((S.sI o1 13 (1 : Int32)).I o1 12) < ((((((f_X2_pitchDiameter S o1).toInt64) * (3 : Int64)) / (10000 : Int64)).toInt32) + ((((((f_X2_pitchDiameter S o1).toInt64) * ((f_X2_pitchDiameter S o1).toInt64)) / ((S.I o1 4).toInt64)) / (2000 : Int64)).toInt32)) then ((((((f_X2_pitchDiameter S o1).toInt64) * (3 : Int64)) / (10000 : Int64)).toInt32) + ((((((f_X2_pitchDiameter S o1).toInt64) * ((f_X2_pitchDiameter S o1).toInt64)) / ((S.I o1 4).toInt64)) / (2000 : Int64)).toInt32), ((S.sI o1 13 (1 : Int32)).sI o1 14 (0 : Int32)).sI o1 15 ((f_X9_root (x1.toInt64 * (250000 : Int64))).toInt32)) else ((((((f_X2_pitchDiameter S o1).toInt64) * (3 : Int64)) / (10000 : Int64)).toInt32) + ((((((f_X2_pitchDiameter S o1).toInt64) * ((f_X2_pitchDiameter S o1).toInt64)) / ((S.I o1 4).toInt64)) / (2000 : Int64)).toInt32), ((S.sI o1 13 (1 : Int32)).sI o1 14 (1 : Int32)).sI o1 15 ((f_X9_root (x1.toInt64 * (250000 : Int64))).toInt32)) else if ((S.sI o1 13 (1 : Int32)).I o1 12) < ((((((f_X2_pitchDiameter S o1).toInt64) * (3 : Int64)) / (10000 : Int64)).toInt32) + (((((((f_X2_pitchDiameter S o1).toInt64) * ((f_X2_pitchDiameter S o1).toInt64)) / ((S.I o1 4).toInt64)) / (2000 : Int64)).toInt32) / (2 : Int32))) then ((((((f_X2_pitchDiameter S o1).toInt64) * (3 : Int64)) / (10000 : Int64)).toInt32) + (((((((f_X2_pitchDiameter S o1).toInt64) * ((f_X2_pitchDiameter S o1).toInt64)) / ((S.I o1 4).toInt64)) / (2000 : Int64)).toInt32) / (2 : Int32)), ((S.sI o1 13 (1 : Int32)).sI o1 14 (0 : Int32)).sI o1 15 ((f_X9_root (x1.toInt64 * (250000 : Int64))).toInt32)) else ((((((f_X2_pitchDiameter S o1).toInt64) * (3 : Int64)) / (10000 : Int64)).toInt32) + (((((((f_X2_pitchDiameter S o1).toInt64) * ((f_X2_pitchDiameter S o1).toInt64)) / ((S.I o1 4).toInt64)) / (2000 : Int64)).toInt32) / (2 : Int32)), ((S.sI o1 13 (1 : Int32)).sI o1 14 (1 : Int32)).sI o1 15 ((f_X9_root (x1.toInt64 * (250000 : Int64))).toInt32))
set_option maxHeartbeats 4000000 in
set_option maxRecDepth 100000 in
theorem c_X2_heat (l : Launch) {D : va_G} {cy : Nat → ClassId} {X : va_W} (S : wPS) (sz : Nat) (o1 : Nat) (h_o1 : ok2 S o1) (x1 : Int32) (x2 : Int32) (b4 : ¬ (S.I o1 4).toInt64 = 0) : Met l yX2_heat wsX2_heat ({ frames := 1, cells := 0, slots := 0, locals := 26 }) (va_Pc [.ref o1, .int x1, .int x2] (fun U => U.heap.size = sz ∧ WD D cy X (fun _ => True) S U ∧ NW U)) (va_Qi (fun r (u : wPS) => (r, u) = f_X2_heat S o1 x1 x2 ∧ sh S u) (fun u t => WD D cy X (va_A (X ++ PL cy S) sz) u t) (va_A (X ++ PL cy S) sz)) 0 0 (va_A (X ++ PL cy S) sz) := by
  refine Met.ofW (cc := cX2_heat) (maxL := 8) (ret := (some .int)) (by decide) rfl ?_
  intro p e s m args below meth c s₁ B hml hv
  obtain ⟨rfl, hsz, ⟨hP, hK, hD0⟩, hN⟩ := hv
  have hx := B.exec
  have hb := B.bytes
  have hr := B.returns
  have hts := atoms_spec (ws := wsX2_heat) B.pre
  have hown : s.vm.findClass RX2 = some m.cls := findClass_of_methodNamed B.named
  have hlocks := B.notSynchronized
  subst hsz
  have hD := hD0.self (sz := s.heap.size)
  generalize hAe : va_A (X ++ PL cy S) s.heap.size = A at hD ⊢
  have hA : ∀ q : Nat, s.heap.size ≤ q → A q := fun q h => by rw [← hAe]; exact Or.inr h
  have hS : va_S A s.heap s.heap [] := va_S.rf
  have hl := lv_entry ([.ref o1, .int x1, .int x2]) (n := 8) (Nat.le_of_ble_eq_true rfl)
  rw [lg_entry_eq]
  generalize (lg_sl ([.ref o1, .int x1, .int x2]) ++ List.replicate (8 - (lg_sl ([.ref o1, .int x1, .int x2])).length) Slot.unset).toArray = ls at hl ⊢
  have hl : lv_has ls 8 [(0, .ref o1), (1, .int x1), (2, .int x2)] := hl
  refine lv_aload_n hx hb dX2_heat_0 rfl (lv_at hl 0 rfl) ?_
  have hFc := free_all hD hS hA
  obtain ⟨k1, gk1, hk1⟩ := wGt (cy := cy) X S h_o1.1.1 h_o1.1.2.1
  refine va_calli (va_runV (As := []) (rest := []) ⟨hx, hb, hml, hown, hts⟩ (c_X2_pitchDiameter l (cy := cy) (X := X) (D := D) S _ o1 h_o1) (cwV 0 hts gX2_heat_X2_pitchDiameter rfl rfl rfl (by decide +kernel) ⟨Nat.le_of_ble_eq_true rfl, Nat.le_of_ble_eq_true rfl⟩) ⟨fun a U g mk q => ⟨q.1, q.2.1, q.2.2.1.calling, NW.same (u := U) (U := U.calling g mk a) rfl q.2.2.2⟩, va_recv hK hP (ci := 6) (q0 := k1) rfl hk1, fun U hU hW => ⟨rfl, by rw [hU], wd_pre hP hK hD hU hW, hN.warm hW⟩⟩ rfl rfl hl.1 rfl (lv_room (Nat.le_of_ble_eq_true rfl)) dX2_heat_1 ⟨(Nat.zero_le _), (Nat.zero_le _)⟩) hS (fun q _ h => hFc q h) hFc (fun r2 u t H1 locs ht hvm hw hB hz1 hk1 hS => ?_)
  obtain ⟨hP, hD⟩ := wd_post hFc ht hB
  generalize H1 = H at hP hS ⊢
  obtain rfl : r2 = f_X2_pitchDiameter S o1 := hw
  refine lv_i2l hx hb dX2_heat_4 rfl ?_
  refine lv_lstore_n (lv' := [(3, .long ((f_X2_pitchDiameter S o1).toInt64)), (0, .ref o1), (1, .int x1), (2, .int x2)]) hx hb dX2_heat_5 rfl hl (by decide) rfl (fun ls hl => ?_)
  refine lv_lload_n hx hb dX2_heat_6 rfl (lv_at hl 0 rfl) ?_
  refine lv_ldc2 (own := RX2) (v := 3) hx hb hown (hts (.constantLong RX2 99 (3)) (by decide +kernel)) dX2_heat_7 ?_
  refine lv_lmul hx hb dX2_heat_10 ?_
  refine lv_ldc2 (own := RX2) (v := 10000) hx hb hown (hts (.constantLong RX2 101 (10000)) (by decide +kernel)) dX2_heat_11 ?_
  refine lv_ldiv hx hb dX2_heat_14 (by decide) ?_
  refine lv_l2i hx hb dX2_heat_15 rfl ?_
  refine lv_istore (lv' := [(5, .int (((((f_X2_pitchDiameter S o1).toInt64) * (3 : Int64)) / (10000 : Int64)).toInt32)), (3, .long ((f_X2_pitchDiameter S o1).toInt64)), (0, .ref o1), (1, .int x1), (2, .int x2)]) hx hb dX2_heat_16 hl (by decide) rfl (fun ls hl => ?_)
  refine lv_lload_n hx hb dX2_heat_18 rfl (lv_at hl 1 rfl) ?_
  refine lv_lload_n hx hb dX2_heat_19 rfl (lv_at hl 1 rfl) ?_
  refine lv_lmul hx hb dX2_heat_20 ?_
  refine lv_aload_n hx hb dX2_heat_21 rfl (lv_at hl 2 rfl) ?_
  obtain ⟨k3, gk3, hk3⟩ := wGt (cy := cy) X S h_o1.1.1 h_o1.1.2.1
  refine va_get (D := D) (ci := 6) (v := .int (S.I o1 4)) (C := RX2) (T := TX2) (N := 20) hx hb hts (by decide +kernel) hown hK hP k3 hk3 rfl 4 (by decide) (hts (.fieldLink RX2 24 "Hobhouse$Gear" "width" "I") (by decide +kernel)) (fun _ h9 => h9) rfl dX2_heat_22 ?_
  refine lv_i2l hx hb dX2_heat_25 rfl ?_
  refine lv_ldiv hx hb dX2_heat_26 (b4) ?_
  refine lv_ldc2 (own := RX2) (v := 2000) hx hb hown (hts (.constantLong RX2 103 (2000)) (by decide +kernel)) dX2_heat_27 ?_
  refine lv_ldiv hx hb dX2_heat_30 (by decide) ?_
  refine lv_l2i hx hb dX2_heat_31 rfl ?_
  refine lv_istore (lv' := [(6, .int ((((((f_X2_pitchDiameter S o1).toInt64) * ((f_X2_pitchDiameter S o1).toInt64)) / ((S.I o1 4).toInt64)) / (2000 : Int64)).toInt32)), (5, .int (((((f_X2_pitchDiameter S o1).toInt64) * (3 : Int64)) / (10000 : Int64)).toInt32)), (3, .long ((f_X2_pitchDiameter S o1).toInt64)), (0, .ref o1), (1, .int x1), (2, .int x2)]) hx hb dX2_heat_32 hl (by decide) rfl (fun ls hl => ?_)
  refine lv_iload hx hb dX2_heat_34 (lv_at hl 1 rfl) ?_
  refine lv_iload_n hx hb dX2_heat_36 rfl (lv_at hl 5 rfl) ?_
  refine lv_if_eq (tgt := 47) hx hb dX2_heat_37 (by decide) (fun c4 => ?_) (fun c4 => ?_)
  · refine lv_iload hx hb dX2_heat_47 (lv_at hl 0 rfl) ?_
    refine lv_iadd hx hb dX2_heat_49 ?_
    refine lv_istore (lv' := [(7, .int ((((((f_X2_pitchDiameter S o1).toInt64) * (3 : Int64)) / (10000 : Int64)).toInt32) + ((((((f_X2_pitchDiameter S o1).toInt64) * ((f_X2_pitchDiameter S o1).toInt64)) / ((S.I o1 4).toInt64)) / (2000 : Int64)).toInt32))), (6, .int ((((((f_X2_pitchDiameter S o1).toInt64) * ((f_X2_pitchDiameter S o1).toInt64)) / ((S.I o1 4).toInt64)) / (2000 : Int64)).toInt32)), (5, .int (((((f_X2_pitchDiameter S o1).toInt64) * (3 : Int64)) / (10000 : Int64)).toInt32)), (3, .long ((f_X2_pitchDiameter S o1).toInt64)), (0, .ref o1), (1, .int x1), (2, .int x2)]) hx hb dX2_heat_50 hl (by decide) rfl (fun ls hl => ?_)
    refine lv_aload_n hx hb dX2_heat_52 rfl (lv_at hl 4 rfl) ?_
    refine lv_iconst (v := 1) hx hb dX2_heat_53 (by decide) ?_
    obtain ⟨k5, gk5, hk5⟩ := wGt (cy := cy) X S h_o1.1.1 h_o1.1.2.1
    refine va_put (D := D) (ci := 6) (v := .int (1 : Int32)) (ty := .boolean) (C := RX2) (T := TX2) (N := 20) hx hb hts (by decide +kernel) tyX2 tyX2_ok nmX2 hown hK hP hD hS k5 hk5 rfl 13 (by decide) (hts (.fieldLink RX2 105 "Hobhouse$Gear" "isHardened" "Z") (by decide +kernel)) (fun _ h9 => h9) rfl (by decide +kernel) (by rfl) (by rfl) (Nat.le_of_ble_eq_true rfl) dX2_heat_54 (fun H locs hP2 hD2 hS => ?_)
    have e9 := wPuI (cy := cy) (j := 13) (v := (1 : Int32)) hD h_o1.1.1 h_o1.1.2.1 gk5 rfl
    have hP : va_P D vwCl (X ++ PL cy (S.sI o1 13 (1 : Int32))) H := by rw [← e9]; exact hP2
    have hD : va_D A (X ++ PL cy (S.sI o1 13 (1 : Int32))) := by rw [← e9]; exact hD2
    refine lv_aload_n hx hb dX2_heat_57 rfl (lv_at hl 4 rfl) ?_
    refine lv_aload_n hx hb dX2_heat_58 rfl (lv_at hl 4 rfl) ?_
    obtain ⟨k6, gk6, hk6⟩ := wGt (cy := cy) X (S.sI o1 13 (1 : Int32)) (((sh.rf S).I o1 13 (1 : Int32)).L h_o1.1.1) (((sh.rf S).I o1 13 (1 : Int32)).K h_o1.1.2.1)
    refine va_get (D := D) (ci := 6) (v := .int ((S.sI o1 13 (1 : Int32)).I o1 12)) (C := RX2) (T := TX2) (N := 20) hx hb hts (by decide +kernel) hown hK hP k6 hk6 rfl 12 (by decide) (hts (.fieldLink RX2 108 "Hobhouse$Gear" "stock" "I") (by decide +kernel)) (fun _ h9 => h9) rfl dX2_heat_59 ?_
    refine lv_iload hx hb dX2_heat_62 (lv_at hl 0 rfl) ?_
    refine lv_icmp_lt (tgt := 71) hx hb dX2_heat_64 (by decide) (fun c7 => ?_) (fun c7 => ?_)
    · refine lv_iconst (v := 0) hx hb dX2_heat_71 (by decide) ?_
      obtain ⟨k8, gk8, hk8⟩ := wGt (cy := cy) X (S.sI o1 13 (1 : Int32)) (((sh.rf S).I o1 13 (1 : Int32)).L h_o1.1.1) (((sh.rf S).I o1 13 (1 : Int32)).K h_o1.1.2.1)
      refine va_put (D := D) (ci := 6) (v := .int (0 : Int32)) (ty := .boolean) (C := RX2) (T := TX2) (N := 20) hx hb hts (by decide +kernel) tyX2 tyX2_ok nmX2 hown hK hP hD hS k8 hk8 rfl 14 (by decide) (hts (.fieldLink RX2 111 "Hobhouse$Gear" "hadStockEnough" "Z") (by decide +kernel)) (fun _ h9 => h9) rfl (by decide +kernel) (by rfl) (by rfl) (Nat.le_of_ble_eq_true rfl) dX2_heat_72 (fun H locs hP2 hD2 hS => ?_)
      have e9 := wPuI (cy := cy) (j := 14) (v := (0 : Int32)) hD (((sh.rf S).I o1 13 (1 : Int32)).L h_o1.1.1) (((sh.rf S).I o1 13 (1 : Int32)).K h_o1.1.2.1) gk8 rfl
      have hP : va_P D vwCl (X ++ PL cy ((S.sI o1 13 (1 : Int32)).sI o1 14 (0 : Int32))) H := by rw [← e9]; exact hP2
      have hD : va_D A (X ++ PL cy ((S.sI o1 13 (1 : Int32)).sI o1 14 (0 : Int32))) := by rw [← e9]; exact hD2
      refine lv_aload_n hx hb dX2_heat_75 rfl (lv_at hl 4 rfl) ?_
      refine lv_iload_n hx hb dX2_heat_76 rfl (lv_at hl 5 rfl) ?_
      refine lv_i2l hx hb dX2_heat_77 rfl ?_
      refine lv_ldc2 (own := RX2) (v := 250000) hx hb hown (hts (.constantLong RX2 114 (250000)) (by decide +kernel)) dX2_heat_78 ?_
      refine lv_lmul hx hb dX2_heat_81 ?_
      have hFc := free_all hD hS hA
      refine va_calll (va_runSN (As := [.long (x1.toInt64 * (250000 : Int64))]) (rest := [.ref o1]) ⟨hx, hb, hml, hown, hts⟩ (c_X9_root l (cy := cy) (X := X) (D := D) ((S.sI o1 13 (1 : Int32)).sI o1 14 (0 : Int32)) _ (x1.toInt64 * (250000 : Int64))) ⟨va_cnB 1 hts gX2_heat_X9_root_n72 rfl rfl rfl (hN (.methodLinkNest RX2 72 yX9_root RX9) (by decide +kernel)) (hts (.initialized RX9) (by decide +kernel)) (by decide +kernel) ⟨Nat.le_of_ble_eq_true rfl, Nat.le_of_ble_eq_true rfl⟩, hts (.static yX9_root) (by decide +kernel), trivial⟩ ⟨fun a U g mk q => ⟨q.1, q.2.1, q.2.2.1.calling, NW.same (u := U) (U := U.calling g mk a) rfl q.2.2.2⟩, fun U hU hW => ⟨rfl, by rw [hU], wd_pre hP hK hD hU hW, hN.warm hW⟩⟩ rfl rfl hl.1 rfl (lv_room (Nat.le_of_ble_eq_true rfl)) dX2_heat_82 ⟨(Nat.zero_le _), (Nat.zero_le _)⟩) hS (fun q _ h => hFc q h) hFc (fun r9 u t H1 locs ht hvm hw hB hz1 hk1 hS => ?_)
      obtain ⟨hP, hD⟩ := wd_post hFc ht hB
      generalize H1 = H at hP hS ⊢
      obtain rfl : r9 = f_X9_root (x1.toInt64 * (250000 : Int64)) := hw
      refine lv_l2i hx hb dX2_heat_85 rfl ?_
      obtain ⟨k10, gk10, hk10⟩ := wGt (cy := cy) X ((S.sI o1 13 (1 : Int32)).sI o1 14 (0 : Int32)) ((((sh.rf S).I o1 13 (1 : Int32)).I o1 14 (0 : Int32)).L h_o1.1.1) ((((sh.rf S).I o1 13 (1 : Int32)).I o1 14 (0 : Int32)).K h_o1.1.2.1)
      refine va_put (D := D) (ci := 6) (v := .int ((f_X9_root (x1.toInt64 * (250000 : Int64))).toInt32)) (ty := .int) (C := RX2) (T := TX2) (N := 20) hx hb hts (by decide +kernel) tyX2 tyX2_ok nmX2 hown hK hP hD hS k10 hk10 rfl 15 (by decide) (hts (.fieldLink RX2 116 "Hobhouse$Gear" "caseDepth" "I") (by decide +kernel)) (fun _ h9 => h9) rfl (by decide +kernel) (rfl) (rfl) (Nat.le_of_ble_eq_true rfl) dX2_heat_86 (fun H locs hP2 hD2 hS => ?_)
      have e9 := wPuI (cy := cy) (j := 15) (v := (f_X9_root (x1.toInt64 * (250000 : Int64))).toInt32) hD ((((sh.rf S).I o1 13 (1 : Int32)).I o1 14 (0 : Int32)).L h_o1.1.1) ((((sh.rf S).I o1 13 (1 : Int32)).I o1 14 (0 : Int32)).K h_o1.1.2.1) gk10 rfl
      have hP : va_P D vwCl (X ++ PL cy (((S.sI o1 13 (1 : Int32)).sI o1 14 (0 : Int32)).sI o1 15 ((f_X9_root (x1.toInt64 * (250000 : Int64))).toInt32))) H := by rw [← e9]; exact hP2
      have hD : va_D A (X ++ PL cy (((S.sI o1 13 (1 : Int32)).sI o1 14 (0 : Int32)).sI o1 15 ((f_X9_root (x1.toInt64 * (250000 : Int64))).toInt32))) := by rw [← e9]; exact hD2
      refine lv_iload hx hb dX2_heat_89 (lv_at hl 0 rfl) ?_
      exact W.iret (v := (((((f_X2_pitchDiameter S o1).toInt64) * (3 : Int64)) / (10000 : Int64)).toInt32) + ((((((f_X2_pitchDiameter S o1).toInt64) * ((f_X2_pitchDiameter S o1).toInt64)) / ((S.I o1 4).toInt64)) / (2000 : Int64)).toInt32)) hx hb hr (fun t ht hW => ⟨⟨(((((f_X2_pitchDiameter S o1).toInt64) * (3 : Int64)) / (10000 : Int64)).toInt32) + ((((((f_X2_pitchDiameter S o1).toInt64) * ((f_X2_pitchDiameter S o1).toInt64)) / ((S.I o1 4).toInt64)) / (2000 : Int64)).toInt32), ((S.sI o1 13 (1 : Int32)).sI o1 14 (0 : Int32)).sI o1 15 ((f_X9_root (x1.toInt64 * (250000 : Int64))).toInt32), rfl, (⟨(by show ((((((f_X2_pitchDiameter S o1).toInt64) * (3 : Int64)) / (10000 : Int64)).toInt32) + ((((((f_X2_pitchDiameter S o1).toInt64) * ((f_X2_pitchDiameter S o1).toInt64)) / ((S.I o1 4).toInt64)) / (2000 : Int64)).toInt32), ((S.sI o1 13 (1 : Int32)).sI o1 14 (0 : Int32)).sI o1 15 ((f_X9_root (x1.toInt64 * (250000 : Int64))).toInt32)) = f_X2_heat S o1 x1 x2; unfold f_X2_heat; rw [if_pos c4, if_pos c7]), ((((sh.rf S).I o1 13 (1 : Int32)).I o1 14 (0 : Int32)).I o1 15 ((f_X9_root (x1.toInt64 * (250000 : Int64))).toInt32))⟩), wd_end hP hK hD ht hW.alike⟩, hS.F ht⟩) hS.2.2 dX2_heat_91 hlocks
    · refine lv_iconst (v := 1) hx hb dX2_heat_67 (by decide) ?_
      refine lv_goto (tgt := 72) hx hb dX2_heat_68 (by decide) ?_
      obtain ⟨k11, gk11, hk11⟩ := wGt (cy := cy) X (S.sI o1 13 (1 : Int32)) (((sh.rf S).I o1 13 (1 : Int32)).L h_o1.1.1) (((sh.rf S).I o1 13 (1 : Int32)).K h_o1.1.2.1)
      refine va_put (D := D) (ci := 6) (v := .int (1 : Int32)) (ty := .boolean) (C := RX2) (T := TX2) (N := 20) hx hb hts (by decide +kernel) tyX2 tyX2_ok nmX2 hown hK hP hD hS k11 hk11 rfl 14 (by decide) (hts (.fieldLink RX2 111 "Hobhouse$Gear" "hadStockEnough" "Z") (by decide +kernel)) (fun _ h9 => h9) rfl (by decide +kernel) (by rfl) (by rfl) (Nat.le_of_ble_eq_true rfl) dX2_heat_72 (fun H locs hP2 hD2 hS => ?_)
      have e9 := wPuI (cy := cy) (j := 14) (v := (1 : Int32)) hD (((sh.rf S).I o1 13 (1 : Int32)).L h_o1.1.1) (((sh.rf S).I o1 13 (1 : Int32)).K h_o1.1.2.1) gk11 rfl
      have hP : va_P D vwCl (X ++ PL cy ((S.sI o1 13 (1 : Int32)).sI o1 14 (1 : Int32))) H := by rw [← e9]; exact hP2
      have hD : va_D A (X ++ PL cy ((S.sI o1 13 (1 : Int32)).sI o1 14 (1 : Int32))) := by rw [← e9]; exact hD2
      refine lv_aload_n hx hb dX2_heat_75 rfl (lv_at hl 4 rfl) ?_
      refine lv_iload_n hx hb dX2_heat_76 rfl (lv_at hl 5 rfl) ?_
      refine lv_i2l hx hb dX2_heat_77 rfl ?_
      refine lv_ldc2 (own := RX2) (v := 250000) hx hb hown (hts (.constantLong RX2 114 (250000)) (by decide +kernel)) dX2_heat_78 ?_
      refine lv_lmul hx hb dX2_heat_81 ?_
      have hFc := free_all hD hS hA
      refine va_calll (va_runSN (As := [.long (x1.toInt64 * (250000 : Int64))]) (rest := [.ref o1]) ⟨hx, hb, hml, hown, hts⟩ (c_X9_root l (cy := cy) (X := X) (D := D) ((S.sI o1 13 (1 : Int32)).sI o1 14 (1 : Int32)) _ (x1.toInt64 * (250000 : Int64))) ⟨va_cnB 1 hts gX2_heat_X9_root_n72 rfl rfl rfl (hN (.methodLinkNest RX2 72 yX9_root RX9) (by decide +kernel)) (hts (.initialized RX9) (by decide +kernel)) (by decide +kernel) ⟨Nat.le_of_ble_eq_true rfl, Nat.le_of_ble_eq_true rfl⟩, hts (.static yX9_root) (by decide +kernel), trivial⟩ ⟨fun a U g mk q => ⟨q.1, q.2.1, q.2.2.1.calling, NW.same (u := U) (U := U.calling g mk a) rfl q.2.2.2⟩, fun U hU hW => ⟨rfl, by rw [hU], wd_pre hP hK hD hU hW, hN.warm hW⟩⟩ rfl rfl hl.1 rfl (lv_room (Nat.le_of_ble_eq_true rfl)) dX2_heat_82 ⟨(Nat.zero_le _), (Nat.zero_le _)⟩) hS (fun q _ h => hFc q h) hFc (fun r12 u t H1 locs ht hvm hw hB hz1 hk1 hS => ?_)
      obtain ⟨hP, hD⟩ := wd_post hFc ht hB
      generalize H1 = H at hP hS ⊢
      obtain rfl : r12 = f_X9_root (x1.toInt64 * (250000 : Int64)) := hw
      refine lv_l2i hx hb dX2_heat_85 rfl ?_
      obtain ⟨k13, gk13, hk13⟩ := wGt (cy := cy) X ((S.sI o1 13 (1 : Int32)).sI o1 14 (1 : Int32)) ((((sh.rf S).I o1 13 (1 : Int32)).I o1 14 (1 : Int32)).L h_o1.1.1) ((((sh.rf S).I o1 13 (1 : Int32)).I o1 14 (1 : Int32)).K h_o1.1.2.1)
      refine va_put (D := D) (ci := 6) (v := .int ((f_X9_root (x1.toInt64 * (250000 : Int64))).toInt32)) (ty := .int) (C := RX2) (T := TX2) (N := 20) hx hb hts (by decide +kernel) tyX2 tyX2_ok nmX2 hown hK hP hD hS k13 hk13 rfl 15 (by decide) (hts (.fieldLink RX2 116 "Hobhouse$Gear" "caseDepth" "I") (by decide +kernel)) (fun _ h9 => h9) rfl (by decide +kernel) (rfl) (rfl) (Nat.le_of_ble_eq_true rfl) dX2_heat_86 (fun H locs hP2 hD2 hS => ?_)
      have e9 := wPuI (cy := cy) (j := 15) (v := (f_X9_root (x1.toInt64 * (250000 : Int64))).toInt32) hD ((((sh.rf S).I o1 13 (1 : Int32)).I o1 14 (1 : Int32)).L h_o1.1.1) ((((sh.rf S).I o1 13 (1 : Int32)).I o1 14 (1 : Int32)).K h_o1.1.2.1) gk13 rfl
      have hP : va_P D vwCl (X ++ PL cy (((S.sI o1 13 (1 : Int32)).sI o1 14 (1 : Int32)).sI o1 15 ((f_X9_root (x1.toInt64 * (250000 : Int64))).toInt32))) H := by rw [← e9]; exact hP2
      have hD : va_D A (X ++ PL cy (((S.sI o1 13 (1 : Int32)).sI o1 14 (1 : Int32)).sI o1 15 ((f_X9_root (x1.toInt64 * (250000 : Int64))).toInt32))) := by rw [← e9]; exact hD2
      refine lv_iload hx hb dX2_heat_89 (lv_at hl 0 rfl) ?_
      exact W.iret (v := (((((f_X2_pitchDiameter S o1).toInt64) * (3 : Int64)) / (10000 : Int64)).toInt32) + ((((((f_X2_pitchDiameter S o1).toInt64) * ((f_X2_pitchDiameter S o1).toInt64)) / ((S.I o1 4).toInt64)) / (2000 : Int64)).toInt32)) hx hb hr (fun t ht hW => ⟨⟨(((((f_X2_pitchDiameter S o1).toInt64) * (3 : Int64)) / (10000 : Int64)).toInt32) + ((((((f_X2_pitchDiameter S o1).toInt64) * ((f_X2_pitchDiameter S o1).toInt64)) / ((S.I o1 4).toInt64)) / (2000 : Int64)).toInt32), ((S.sI o1 13 (1 : Int32)).sI o1 14 (1 : Int32)).sI o1 15 ((f_X9_root (x1.toInt64 * (250000 : Int64))).toInt32), rfl, (⟨(by show ((((((f_X2_pitchDiameter S o1).toInt64) * (3 : Int64)) / (10000 : Int64)).toInt32) + ((((((f_X2_pitchDiameter S o1).toInt64) * ((f_X2_pitchDiameter S o1).toInt64)) / ((S.I o1 4).toInt64)) / (2000 : Int64)).toInt32), ((S.sI o1 13 (1 : Int32)).sI o1 14 (1 : Int32)).sI o1 15 ((f_X9_root (x1.toInt64 * (250000 : Int64))).toInt32)) = f_X2_heat S o1 x1 x2; unfold f_X2_heat; rw [if_pos c4, if_neg c7]), ((((sh.rf S).I o1 13 (1 : Int32)).I o1 14 (1 : Int32)).I o1 15 ((f_X9_root (x1.toInt64 * (250000 : Int64))).toInt32))⟩), wd_end hP hK hD ht hW.alike⟩, hS.F ht⟩) hS.2.2 dX2_heat_91 hlocks
  · refine lv_iload hx hb dX2_heat_40 (lv_at hl 0 rfl) ?_
    refine lv_iconst (v := 2) hx hb dX2_heat_42 (by decide) ?_
    refine lv_idiv hx hb dX2_heat_43 (by decide) ?_
    refine lv_goto (tgt := 49) hx hb dX2_heat_44 (by decide) ?_
    refine lv_iadd hx hb dX2_heat_49 ?_
    refine lv_istore (lv' := [(7, .int ((((((f_X2_pitchDiameter S o1).toInt64) * (3 : Int64)) / (10000 : Int64)).toInt32) + (((((((f_X2_pitchDiameter S o1).toInt64) * ((f_X2_pitchDiameter S o1).toInt64)) / ((S.I o1 4).toInt64)) / (2000 : Int64)).toInt32) / (2 : Int32)))), (6, .int ((((((f_X2_pitchDiameter S o1).toInt64) * ((f_X2_pitchDiameter S o1).toInt64)) / ((S.I o1 4).toInt64)) / (2000 : Int64)).toInt32)), (5, .int (((((f_X2_pitchDiameter S o1).toInt64) * (3 : Int64)) / (10000 : Int64)).toInt32)), (3, .long ((f_X2_pitchDiameter S o1).toInt64)), (0, .ref o1), (1, .int x1), (2, .int x2)]) hx hb dX2_heat_50 hl (by decide) rfl (fun ls hl => ?_)
    refine lv_aload_n hx hb dX2_heat_52 rfl (lv_at hl 4 rfl) ?_
    refine lv_iconst (v := 1) hx hb dX2_heat_53 (by decide) ?_
    obtain ⟨k14, gk14, hk14⟩ := wGt (cy := cy) X S h_o1.1.1 h_o1.1.2.1
    refine va_put (D := D) (ci := 6) (v := .int (1 : Int32)) (ty := .boolean) (C := RX2) (T := TX2) (N := 20) hx hb hts (by decide +kernel) tyX2 tyX2_ok nmX2 hown hK hP hD hS k14 hk14 rfl 13 (by decide) (hts (.fieldLink RX2 105 "Hobhouse$Gear" "isHardened" "Z") (by decide +kernel)) (fun _ h9 => h9) rfl (by decide +kernel) (by rfl) (by rfl) (Nat.le_of_ble_eq_true rfl) dX2_heat_54 (fun H locs hP2 hD2 hS => ?_)
    have e9 := wPuI (cy := cy) (j := 13) (v := (1 : Int32)) hD h_o1.1.1 h_o1.1.2.1 gk14 rfl
    have hP : va_P D vwCl (X ++ PL cy (S.sI o1 13 (1 : Int32))) H := by rw [← e9]; exact hP2
    have hD : va_D A (X ++ PL cy (S.sI o1 13 (1 : Int32))) := by rw [← e9]; exact hD2
    refine lv_aload_n hx hb dX2_heat_57 rfl (lv_at hl 4 rfl) ?_
    refine lv_aload_n hx hb dX2_heat_58 rfl (lv_at hl 4 rfl) ?_
    obtain ⟨k15, gk15, hk15⟩ := wGt (cy := cy) X (S.sI o1 13 (1 : Int32)) (((sh.rf S).I o1 13 (1 : Int32)).L h_o1.1.1) (((sh.rf S).I o1 13 (1 : Int32)).K h_o1.1.2.1)
    refine va_get (D := D) (ci := 6) (v := .int ((S.sI o1 13 (1 : Int32)).I o1 12)) (C := RX2) (T := TX2) (N := 20) hx hb hts (by decide +kernel) hown hK hP k15 hk15 rfl 12 (by decide) (hts (.fieldLink RX2 108 "Hobhouse$Gear" "stock" "I") (by decide +kernel)) (fun _ h9 => h9) rfl dX2_heat_59 ?_
    refine lv_iload hx hb dX2_heat_62 (lv_at hl 0 rfl) ?_
    refine lv_icmp_lt (tgt := 71) hx hb dX2_heat_64 (by decide) (fun c16 => ?_) (fun c16 => ?_)
    · refine lv_iconst (v := 0) hx hb dX2_heat_71 (by decide) ?_
      obtain ⟨k17, gk17, hk17⟩ := wGt (cy := cy) X (S.sI o1 13 (1 : Int32)) (((sh.rf S).I o1 13 (1 : Int32)).L h_o1.1.1) (((sh.rf S).I o1 13 (1 : Int32)).K h_o1.1.2.1)
      refine va_put (D := D) (ci := 6) (v := .int (0 : Int32)) (ty := .boolean) (C := RX2) (T := TX2) (N := 20) hx hb hts (by decide +kernel) tyX2 tyX2_ok nmX2 hown hK hP hD hS k17 hk17 rfl 14 (by decide) (hts (.fieldLink RX2 111 "Hobhouse$Gear" "hadStockEnough" "Z") (by decide +kernel)) (fun _ h9 => h9) rfl (by decide +kernel) (by rfl) (by rfl) (Nat.le_of_ble_eq_true rfl) dX2_heat_72 (fun H locs hP2 hD2 hS => ?_)
      have e9 := wPuI (cy := cy) (j := 14) (v := (0 : Int32)) hD (((sh.rf S).I o1 13 (1 : Int32)).L h_o1.1.1) (((sh.rf S).I o1 13 (1 : Int32)).K h_o1.1.2.1) gk17 rfl
      have hP : va_P D vwCl (X ++ PL cy ((S.sI o1 13 (1 : Int32)).sI o1 14 (0 : Int32))) H := by rw [← e9]; exact hP2
      have hD : va_D A (X ++ PL cy ((S.sI o1 13 (1 : Int32)).sI o1 14 (0 : Int32))) := by rw [← e9]; exact hD2
      refine lv_aload_n hx hb dX2_heat_75 rfl (lv_at hl 4 rfl) ?_
      refine lv_iload_n hx hb dX2_heat_76 rfl (lv_at hl 5 rfl) ?_
      refine lv_i2l hx hb dX2_heat_77 rfl ?_
      refine lv_ldc2 (own := RX2) (v := 250000) hx hb hown (hts (.constantLong RX2 114 (250000)) (by decide +kernel)) dX2_heat_78 ?_
      refine lv_lmul hx hb dX2_heat_81 ?_
      have hFc := free_all hD hS hA
      refine va_calll (va_runSN (As := [.long (x1.toInt64 * (250000 : Int64))]) (rest := [.ref o1]) ⟨hx, hb, hml, hown, hts⟩ (c_X9_root l (cy := cy) (X := X) (D := D) ((S.sI o1 13 (1 : Int32)).sI o1 14 (0 : Int32)) _ (x1.toInt64 * (250000 : Int64))) ⟨va_cnB 1 hts gX2_heat_X9_root_n72 rfl rfl rfl (hN (.methodLinkNest RX2 72 yX9_root RX9) (by decide +kernel)) (hts (.initialized RX9) (by decide +kernel)) (by decide +kernel) ⟨Nat.le_of_ble_eq_true rfl, Nat.le_of_ble_eq_true rfl⟩, hts (.static yX9_root) (by decide +kernel), trivial⟩ ⟨fun a U g mk q => ⟨q.1, q.2.1, q.2.2.1.calling, NW.same (u := U) (U := U.calling g mk a) rfl q.2.2.2⟩, fun U hU hW => ⟨rfl, by rw [hU], wd_pre hP hK hD hU hW, hN.warm hW⟩⟩ rfl rfl hl.1 rfl (lv_room (Nat.le_of_ble_eq_true rfl)) dX2_heat_82 ⟨(Nat.zero_le _), (Nat.zero_le _)⟩) hS (fun q _ h => hFc q h) hFc (fun r18 u t H1 locs ht hvm hw hB hz1 hk1 hS => ?_)
      obtain ⟨hP, hD⟩ := wd_post hFc ht hB
      generalize H1 = H at hP hS ⊢
      obtain rfl : r18 = f_X9_root (x1.toInt64 * (250000 : Int64)) := hw
      refine lv_l2i hx hb dX2_heat_85 rfl ?_
      obtain ⟨k19, gk19, hk19⟩ := wGt (cy := cy) X ((S.sI o1 13 (1 : Int32)).sI o1 14 (0 : Int32)) ((((sh.rf S).I o1 13 (1 : Int32)).I o1 14 (0 : Int32)).L h_o1.1.1) ((((sh.rf S).I o1 13 (1 : Int32)).I o1 14 (0 : Int32)).K h_o1.1.2.1)
      refine va_put (D := D) (ci := 6) (v := .int ((f_X9_root (x1.toInt64 * (250000 : Int64))).toInt32)) (ty := .int) (C := RX2) (T := TX2) (N := 20) hx hb hts (by decide +kernel) tyX2 tyX2_ok nmX2 hown hK hP hD hS k19 hk19 rfl 15 (by decide) (hts (.fieldLink RX2 116 "Hobhouse$Gear" "caseDepth" "I") (by decide +kernel)) (fun _ h9 => h9) rfl (by decide +kernel) (rfl) (rfl) (Nat.le_of_ble_eq_true rfl) dX2_heat_86 (fun H locs hP2 hD2 hS => ?_)
      have e9 := wPuI (cy := cy) (j := 15) (v := (f_X9_root (x1.toInt64 * (250000 : Int64))).toInt32) hD ((((sh.rf S).I o1 13 (1 : Int32)).I o1 14 (0 : Int32)).L h_o1.1.1) ((((sh.rf S).I o1 13 (1 : Int32)).I o1 14 (0 : Int32)).K h_o1.1.2.1) gk19 rfl
      have hP : va_P D vwCl (X ++ PL cy (((S.sI o1 13 (1 : Int32)).sI o1 14 (0 : Int32)).sI o1 15 ((f_X9_root (x1.toInt64 * (250000 : Int64))).toInt32))) H := by rw [← e9]; exact hP2
      have hD : va_D A (X ++ PL cy (((S.sI o1 13 (1 : Int32)).sI o1 14 (0 : Int32)).sI o1 15 ((f_X9_root (x1.toInt64 * (250000 : Int64))).toInt32))) := by rw [← e9]; exact hD2
      refine lv_iload hx hb dX2_heat_89 (lv_at hl 0 rfl) ?_
      exact W.iret (v := (((((f_X2_pitchDiameter S o1).toInt64) * (3 : Int64)) / (10000 : Int64)).toInt32) + (((((((f_X2_pitchDiameter S o1).toInt64) * ((f_X2_pitchDiameter S o1).toInt64)) / ((S.I o1 4).toInt64)) / (2000 : Int64)).toInt32) / (2 : Int32))) hx hb hr (fun t ht hW => ⟨⟨(((((f_X2_pitchDiameter S o1).toInt64) * (3 : Int64)) / (10000 : Int64)).toInt32) + (((((((f_X2_pitchDiameter S o1).toInt64) * ((f_X2_pitchDiameter S o1).toInt64)) / ((S.I o1 4).toInt64)) / (2000 : Int64)).toInt32) / (2 : Int32)), ((S.sI o1 13 (1 : Int32)).sI o1 14 (0 : Int32)).sI o1 15 ((f_X9_root (x1.toInt64 * (250000 : Int64))).toInt32), rfl, (⟨(by show ((((((f_X2_pitchDiameter S o1).toInt64) * (3 : Int64)) / (10000 : Int64)).toInt32) + (((((((f_X2_pitchDiameter S o1).toInt64) * ((f_X2_pitchDiameter S o1).toInt64)) / ((S.I o1 4).toInt64)) / (2000 : Int64)).toInt32) / (2 : Int32)), ((S.sI o1 13 (1 : Int32)).sI o1 14 (0 : Int32)).sI o1 15 ((f_X9_root (x1.toInt64 * (250000 : Int64))).toInt32)) = f_X2_heat S o1 x1 x2; unfold f_X2_heat; rw [if_neg c4, if_pos c16]), ((((sh.rf S).I o1 13 (1 : Int32)).I o1 14 (0 : Int32)).I o1 15 ((f_X9_root (x1.toInt64 * (250000 : Int64))).toInt32))⟩), wd_end hP hK hD ht hW.alike⟩, hS.F ht⟩) hS.2.2 dX2_heat_91 hlocks
    · refine lv_iconst (v := 1) hx hb dX2_heat_67 (by decide) ?_
      refine lv_goto (tgt := 72) hx hb dX2_heat_68 (by decide) ?_
      obtain ⟨k20, gk20, hk20⟩ := wGt (cy := cy) X (S.sI o1 13 (1 : Int32)) (((sh.rf S).I o1 13 (1 : Int32)).L h_o1.1.1) (((sh.rf S).I o1 13 (1 : Int32)).K h_o1.1.2.1)
      refine va_put (D := D) (ci := 6) (v := .int (1 : Int32)) (ty := .boolean) (C := RX2) (T := TX2) (N := 20) hx hb hts (by decide +kernel) tyX2 tyX2_ok nmX2 hown hK hP hD hS k20 hk20 rfl 14 (by decide) (hts (.fieldLink RX2 111 "Hobhouse$Gear" "hadStockEnough" "Z") (by decide +kernel)) (fun _ h9 => h9) rfl (by decide +kernel) (by rfl) (by rfl) (Nat.le_of_ble_eq_true rfl) dX2_heat_72 (fun H locs hP2 hD2 hS => ?_)
      have e9 := wPuI (cy := cy) (j := 14) (v := (1 : Int32)) hD (((sh.rf S).I o1 13 (1 : Int32)).L h_o1.1.1) (((sh.rf S).I o1 13 (1 : Int32)).K h_o1.1.2.1) gk20 rfl
      have hP : va_P D vwCl (X ++ PL cy ((S.sI o1 13 (1 : Int32)).sI o1 14 (1 : Int32))) H := by rw [← e9]; exact hP2
      have hD : va_D A (X ++ PL cy ((S.sI o1 13 (1 : Int32)).sI o1 14 (1 : Int32))) := by rw [← e9]; exact hD2
      refine lv_aload_n hx hb dX2_heat_75 rfl (lv_at hl 4 rfl) ?_
      refine lv_iload_n hx hb dX2_heat_76 rfl (lv_at hl 5 rfl) ?_
      refine lv_i2l hx hb dX2_heat_77 rfl ?_
      refine lv_ldc2 (own := RX2) (v := 250000) hx hb hown (hts (.constantLong RX2 114 (250000)) (by decide +kernel)) dX2_heat_78 ?_
      refine lv_lmul hx hb dX2_heat_81 ?_
      have hFc := free_all hD hS hA
      refine va_calll (va_runSN (As := [.long (x1.toInt64 * (250000 : Int64))]) (rest := [.ref o1]) ⟨hx, hb, hml, hown, hts⟩ (c_X9_root l (cy := cy) (X := X) (D := D) ((S.sI o1 13 (1 : Int32)).sI o1 14 (1 : Int32)) _ (x1.toInt64 * (250000 : Int64))) ⟨va_cnB 1 hts gX2_heat_X9_root_n72 rfl rfl rfl (hN (.methodLinkNest RX2 72 yX9_root RX9) (by decide +kernel)) (hts (.initialized RX9) (by decide +kernel)) (by decide +kernel) ⟨Nat.le_of_ble_eq_true rfl, Nat.le_of_ble_eq_true rfl⟩, hts (.static yX9_root) (by decide +kernel), trivial⟩ ⟨fun a U g mk q => ⟨q.1, q.2.1, q.2.2.1.calling, NW.same (u := U) (U := U.calling g mk a) rfl q.2.2.2⟩, fun U hU hW => ⟨rfl, by rw [hU], wd_pre hP hK hD hU hW, hN.warm hW⟩⟩ rfl rfl hl.1 rfl (lv_room (Nat.le_of_ble_eq_true rfl)) dX2_heat_82 ⟨(Nat.zero_le _), (Nat.zero_le _)⟩) hS (fun q _ h => hFc q h) hFc (fun r21 u t H1 locs ht hvm hw hB hz1 hk1 hS => ?_)
      obtain ⟨hP, hD⟩ := wd_post hFc ht hB
      generalize H1 = H at hP hS ⊢
      obtain rfl : r21 = f_X9_root (x1.toInt64 * (250000 : Int64)) := hw
      refine lv_l2i hx hb dX2_heat_85 rfl ?_
      obtain ⟨k22, gk22, hk22⟩ := wGt (cy := cy) X ((S.sI o1 13 (1 : Int32)).sI o1 14 (1 : Int32)) ((((sh.rf S).I o1 13 (1 : Int32)).I o1 14 (1 : Int32)).L h_o1.1.1) ((((sh.rf S).I o1 13 (1 : Int32)).I o1 14 (1 : Int32)).K h_o1.1.2.1)
      refine va_put (D := D) (ci := 6) (v := .int ((f_X9_root (x1.toInt64 * (250000 : Int64))).toInt32)) (ty := .int) (C := RX2) (T := TX2) (N := 20) hx hb hts (by decide +kernel) tyX2 tyX2_ok nmX2 hown hK hP hD hS k22 hk22 rfl 15 (by decide) (hts (.fieldLink RX2 116 "Hobhouse$Gear" "caseDepth" "I") (by decide +kernel)) (fun _ h9 => h9) rfl (by decide +kernel) (rfl) (rfl) (Nat.le_of_ble_eq_true rfl) dX2_heat_86 (fun H locs hP2 hD2 hS => ?_)
      have e9 := wPuI (cy := cy) (j := 15) (v := (f_X9_root (x1.toInt64 * (250000 : Int64))).toInt32) hD ((((sh.rf S).I o1 13 (1 : Int32)).I o1 14 (1 : Int32)).L h_o1.1.1) ((((sh.rf S).I o1 13 (1 : Int32)).I o1 14 (1 : Int32)).K h_o1.1.2.1) gk22 rfl
      have hP : va_P D vwCl (X ++ PL cy (((S.sI o1 13 (1 : Int32)).sI o1 14 (1 : Int32)).sI o1 15 ((f_X9_root (x1.toInt64 * (250000 : Int64))).toInt32))) H := by rw [← e9]; exact hP2
      have hD : va_D A (X ++ PL cy (((S.sI o1 13 (1 : Int32)).sI o1 14 (1 : Int32)).sI o1 15 ((f_X9_root (x1.toInt64 * (250000 : Int64))).toInt32))) := by rw [← e9]; exact hD2
      refine lv_iload hx hb dX2_heat_89 (lv_at hl 0 rfl) ?_
      exact W.iret (v := (((((f_X2_pitchDiameter S o1).toInt64) * (3 : Int64)) / (10000 : Int64)).toInt32) + (((((((f_X2_pitchDiameter S o1).toInt64) * ((f_X2_pitchDiameter S o1).toInt64)) / ((S.I o1 4).toInt64)) / (2000 : Int64)).toInt32) / (2 : Int32))) hx hb hr (fun t ht hW => ⟨⟨(((((f_X2_pitchDiameter S o1).toInt64) * (3 : Int64)) / (10000 : Int64)).toInt32) + (((((((f_X2_pitchDiameter S o1).toInt64) * ((f_X2_pitchDiameter S o1).toInt64)) / ((S.I o1 4).toInt64)) / (2000 : Int64)).toInt32) / (2 : Int32)), ((S.sI o1 13 (1 : Int32)).sI o1 14 (1 : Int32)).sI o1 15 ((f_X9_root (x1.toInt64 * (250000 : Int64))).toInt32), rfl, (⟨(by show ((((((f_X2_pitchDiameter S o1).toInt64) * (3 : Int64)) / (10000 : Int64)).toInt32) + (((((((f_X2_pitchDiameter S o1).toInt64) * ((f_X2_pitchDiameter S o1).toInt64)) / ((S.I o1 4).toInt64)) / (2000 : Int64)).toInt32) / (2 : Int32)), ((S.sI o1 13 (1 : Int32)).sI o1 14 (1 : Int32)).sI o1 15 ((f_X9_root (x1.toInt64 * (250000 : Int64))).toInt32)) = f_X2_heat S o1 x1 x2; unfold f_X2_heat; rw [if_neg c4, if_neg c16]), ((((sh.rf S).I o1 13 (1 : Int32)).I o1 14 (1 : Int32)).I o1 15 ((f_X9_root (x1.toInt64 * (250000 : Int64))).toInt32))⟩), wd_end hP hK hD ht hW.alike⟩, hS.F ht⟩) hS.2.2 dX2_heat_91 hlocks
def f_X2_takeOff (S : wPS) (o1 : Nat) (x1 : Int32) (x2 : Int32) : wPS := if (((S.sI o1 12 ((S.I o1 12) - x1)).sI o1 15 (if (0 : Int32) < (((S.sI o1 12 ((S.I o1 12) - x1)).I o1 15) - x1) then (((S.sI o1 12 ((S.I o1 12) - x1)).I o1 15) - x1) else (0 : Int32))).I o1 12) = (0 : Int32) then if (30 : Int32) < x1 then (((S.sI o1 12 ((S.I o1 12) - x1)).sI o1 15 (if (0 : Int32) < (((S.sI o1 12 ((S.I o1 12) - x1)).I o1 15) - x1) then (((S.sI o1 12 ((S.I o1 12) - x1)).I o1 15) - x1) else (0 : Int32))).sI o1 16 (1 : Int32)).sI o1 17 (1 : Int32) else if x1 ≤ (20 : Int32) then (((S.sI o1 12 ((S.I o1 12) - x1)).sI o1 15 (if (0 : Int32) < (((S.sI o1 12 ((S.I o1 12) - x1)).I o1 15) - x1) then (((S.sI o1 12 ((S.I o1 12) - x1)).I o1 15) - x1) else (0 : Int32))).sI o1 16 (1 : Int32)).sI o1 17 (0 : Int32) else if x2 ≤ (100 : Int32) then (((S.sI o1 12 ((S.I o1 12) - x1)).sI o1 15 (if (0 : Int32) < (((S.sI o1 12 ((S.I o1 12) - x1)).I o1 15) - x1) then (((S.sI o1 12 ((S.I o1 12) - x1)).I o1 15) - x1) else (0 : Int32))).sI o1 16 (1 : Int32)).sI o1 17 (0 : Int32) else (((S.sI o1 12 ((S.I o1 12) - x1)).sI o1 15 (if (0 : Int32) < (((S.sI o1 12 ((S.I o1 12) - x1)).I o1 15) - x1) then (((S.sI o1 12 ((S.I o1 12) - x1)).I o1 15) - x1) else (0 : Int32))).sI o1 16 (1 : Int32)).sI o1 17 (1 : Int32) else if (30 : Int32) < x1 then (((S.sI o1 12 ((S.I o1 12) - x1)).sI o1 15 (if (0 : Int32) < (((S.sI o1 12 ((S.I o1 12) - x1)).I o1 15) - x1) then (((S.sI o1 12 ((S.I o1 12) - x1)).I o1 15) - x1) else (0 : Int32))).sI o1 16 (0 : Int32)).sI o1 17 (1 : Int32) else if x1 ≤ (20 : Int32) then (((S.sI o1 12 ((S.I o1 12) - x1)).sI o1 15 (if (0 : Int32) < (((S.sI o1 12 ((S.I o1 12) - x1)).I o1 15) - x1) then (((S.sI o1 12 ((S.I o1 12) - x1)).I o1 15) - x1) else (0 : Int32))).sI o1 16 (0 : Int32)).sI o1 17 (0 : Int32) else if x2 ≤ (100 : Int32) then (((S.sI o1 12 ((S.I o1 12) - x1)).sI o1 15 (if (0 : Int32) < (((S.sI o1 12 ((S.I o1 12) - x1)).I o1 15) - x1) then (((S.sI o1 12 ((S.I o1 12) - x1)).I o1 15) - x1) else (0 : Int32))).sI o1 16 (0 : Int32)).sI o1 17 (0 : Int32) else (((S.sI o1 12 ((S.I o1 12) - x1)).sI o1 15 (if (0 : Int32) < (((S.sI o1 12 ((S.I o1 12) - x1)).I o1 15) - x1) then (((S.sI o1 12 ((S.I o1 12) - x1)).I o1 15) - x1) else (0 : Int32))).sI o1 16 (0 : Int32)).sI o1 17 (1 : Int32)
set_option maxHeartbeats 4000000 in
set_option maxRecDepth 100000 in
theorem c_X2_takeOff (l : Launch) {D : va_G} {cy : Nat → ClassId} {X : va_W} (S : wPS) (sz : Nat) (o1 : Nat) (h_o1 : ok2 S o1) (x1 : Int32) (x2 : Int32)  : Met l yX2_takeOff wsX2_takeOff ({ frames := 1, cells := 0, slots := 0, locals := 14 }) (va_Pc [.ref o1, .int x1, .int x2] (fun U => U.heap.size = sz ∧ WD D cy X (fun _ => True) S U ∧ NW U)) (va_Qv (fun (u : wPS) => u = f_X2_takeOff S o1 x1 x2 ∧ sh S u) (fun u t => WD D cy X (va_A (X ++ PL cy S) sz) u t) (va_A (X ++ PL cy S) sz)) 0 0 (va_A (X ++ PL cy S) sz) := by
  refine Met.ofW (cc := cX2_takeOff) (maxL := 3) (ret := none) (by decide) rfl ?_
  intro p e s m args below meth c s₁ B hml hv
  obtain ⟨rfl, hsz, ⟨hP, hK, hD0⟩, hN⟩ := hv
  have hx := B.exec
  have hb := B.bytes
  have hr := B.returns
  have hts := atoms_spec (ws := wsX2_takeOff) B.pre
  have hown : s.vm.findClass RX2 = some m.cls := findClass_of_methodNamed B.named
  have hlocks := B.notSynchronized
  subst hsz
  have hD := hD0.self (sz := s.heap.size)
  generalize hAe : va_A (X ++ PL cy S) s.heap.size = A at hD ⊢
  have hA : ∀ q : Nat, s.heap.size ≤ q → A q := fun q h => by rw [← hAe]; exact Or.inr h
  have hS : va_S A s.heap s.heap [] := va_S.rf
  have hl := lv_entry ([.ref o1, .int x1, .int x2]) (n := 3) (Nat.le_of_ble_eq_true rfl)
  rw [lg_entry_eq]
  generalize (lg_sl ([.ref o1, .int x1, .int x2]) ++ List.replicate (3 - (lg_sl ([.ref o1, .int x1, .int x2])).length) Slot.unset).toArray = ls at hl ⊢
  have hl : lv_has ls 3 [(0, .ref o1), (1, .int x1), (2, .int x2)] := hl
  refine lv_aload_n hx hb dX2_takeOff_0 rfl (lv_at hl 0 rfl) ?_
  refine lv_dup hx hb dX2_takeOff_1 rfl ?_
  obtain ⟨k1, gk1, hk1⟩ := wGt (cy := cy) X S h_o1.1.1 h_o1.1.2.1
  refine va_get (D := D) (ci := 6) (v := .int (S.I o1 12)) (C := RX2) (T := TX2) (N := 20) hx hb hts (by decide +kernel) hown hK hP k1 hk1 rfl 12 (by decide) (hts (.fieldLink RX2 108 "Hobhouse$Gear" "stock" "I") (by decide +kernel)) (fun _ h9 => h9) rfl dX2_takeOff_2 ?_
  refine lv_iload_n hx hb dX2_takeOff_5 rfl (lv_at hl 1 rfl) ?_
  refine lv_isub hx hb dX2_takeOff_6 ?_
  obtain ⟨k2, gk2, hk2⟩ := wGt (cy := cy) X S h_o1.1.1 h_o1.1.2.1
  refine va_put (D := D) (ci := 6) (v := .int ((S.I o1 12) - x1)) (ty := .int) (C := RX2) (T := TX2) (N := 20) hx hb hts (by decide +kernel) tyX2 tyX2_ok nmX2 hown hK hP hD hS k2 hk2 rfl 12 (by decide) (hts (.fieldLink RX2 108 "Hobhouse$Gear" "stock" "I") (by decide +kernel)) (fun _ h9 => h9) rfl (by decide +kernel) (rfl) (rfl) (Nat.le_of_ble_eq_true rfl) dX2_takeOff_7 (fun H locs hP2 hD2 hS => ?_)
  have e9 := wPuI (cy := cy) (j := 12) (v := (S.I o1 12) - x1) hD h_o1.1.1 h_o1.1.2.1 gk2 rfl
  have hP : va_P D vwCl (X ++ PL cy (S.sI o1 12 ((S.I o1 12) - x1))) H := by rw [← e9]; exact hP2
  have hD : va_D A (X ++ PL cy (S.sI o1 12 ((S.I o1 12) - x1))) := by rw [← e9]; exact hD2
  refine lv_aload_n hx hb dX2_takeOff_10 rfl (lv_at hl 0 rfl) ?_
  refine lv_iconst (v := 0) hx hb dX2_takeOff_11 (by decide) ?_
  refine lv_aload_n hx hb dX2_takeOff_12 rfl (lv_at hl 0 rfl) ?_
  obtain ⟨k3, gk3, hk3⟩ := wGt (cy := cy) X (S.sI o1 12 ((S.I o1 12) - x1)) (((sh.rf S).I o1 12 ((S.I o1 12) - x1)).L h_o1.1.1) (((sh.rf S).I o1 12 ((S.I o1 12) - x1)).K h_o1.1.2.1)
  refine va_get (D := D) (ci := 6) (v := .int ((S.sI o1 12 ((S.I o1 12) - x1)).I o1 15)) (C := RX2) (T := TX2) (N := 20) hx hb hts (by decide +kernel) hown hK hP k3 hk3 rfl 15 (by decide) (hts (.fieldLink RX2 116 "Hobhouse$Gear" "caseDepth" "I") (by decide +kernel)) (fun _ h9 => h9) rfl dX2_takeOff_13 ?_
  refine lv_iload_n hx hb dX2_takeOff_16 rfl (lv_at hl 1 rfl) ?_
  refine lv_isub hx hb dX2_takeOff_17 ?_
  refine va_mmax hx hb (hml.trans hl.1.symm) hown (hts (.methodLink RX2 119 Lib.Math.max.name) (by decide +kernel)) (hts (.static Lib.Math.max.name) (by decide +kernel)) (hts (.initialized "java/lang/Math") (by decide +kernel)) (hts (.code Lib.Math.max.name Lib.Math.max.code 2 (some .int)) (by decide +kernel)) (Nat.le_of_ble_eq_true rfl) (Nat.le_of_ble_eq_true rfl) (Nat.zero_le _) (Nat.zero_le _) dX2_takeOff_18 ?_
  obtain ⟨k4, gk4, hk4⟩ := wGt (cy := cy) X (S.sI o1 12 ((S.I o1 12) - x1)) (((sh.rf S).I o1 12 ((S.I o1 12) - x1)).L h_o1.1.1) (((sh.rf S).I o1 12 ((S.I o1 12) - x1)).K h_o1.1.2.1)
  refine va_put (D := D) (ci := 6) (v := .int (if (0 : Int32) < (((S.sI o1 12 ((S.I o1 12) - x1)).I o1 15) - x1) then (((S.sI o1 12 ((S.I o1 12) - x1)).I o1 15) - x1) else (0 : Int32))) (ty := .int) (C := RX2) (T := TX2) (N := 20) hx hb hts (by decide +kernel) tyX2 tyX2_ok nmX2 hown hK hP hD hS k4 hk4 rfl 15 (by decide) (hts (.fieldLink RX2 116 "Hobhouse$Gear" "caseDepth" "I") (by decide +kernel)) (fun _ h9 => h9) rfl (by decide +kernel) (rfl) (rfl) (Nat.le_of_ble_eq_true rfl) dX2_takeOff_21 (fun H locs hP2 hD2 hS => ?_)
  have e9 := wPuI (cy := cy) (j := 15) (v := (if (0 : Int32) < (((S.sI o1 12 ((S.I o1 12) - x1)).I o1 15) - x1) then (((S.sI o1 12 ((S.I o1 12) - x1)).I o1 15) - x1) else (0 : Int32))) hD (((sh.rf S).I o1 12 ((S.I o1 12) - x1)).L h_o1.1.1) (((sh.rf S).I o1 12 ((S.I o1 12) - x1)).K h_o1.1.2.1) gk4 rfl
  have hP : va_P D vwCl (X ++ PL cy ((S.sI o1 12 ((S.I o1 12) - x1)).sI o1 15 (if (0 : Int32) < (((S.sI o1 12 ((S.I o1 12) - x1)).I o1 15) - x1) then (((S.sI o1 12 ((S.I o1 12) - x1)).I o1 15) - x1) else (0 : Int32)))) H := by rw [← e9]; exact hP2
  have hD : va_D A (X ++ PL cy ((S.sI o1 12 ((S.I o1 12) - x1)).sI o1 15 (if (0 : Int32) < (((S.sI o1 12 ((S.I o1 12) - x1)).I o1 15) - x1) then (((S.sI o1 12 ((S.I o1 12) - x1)).I o1 15) - x1) else (0 : Int32)))) := by rw [← e9]; exact hD2
  refine lv_aload_n hx hb dX2_takeOff_24 rfl (lv_at hl 0 rfl) ?_
  refine lv_aload_n hx hb dX2_takeOff_25 rfl (lv_at hl 0 rfl) ?_
  obtain ⟨k5, gk5, hk5⟩ := wGt (cy := cy) X ((S.sI o1 12 ((S.I o1 12) - x1)).sI o1 15 (if (0 : Int32) < (((S.sI o1 12 ((S.I o1 12) - x1)).I o1 15) - x1) then (((S.sI o1 12 ((S.I o1 12) - x1)).I o1 15) - x1) else (0 : Int32))) ((((sh.rf S).I o1 12 ((S.I o1 12) - x1)).I o1 15 (if (0 : Int32) < (((S.sI o1 12 ((S.I o1 12) - x1)).I o1 15) - x1) then (((S.sI o1 12 ((S.I o1 12) - x1)).I o1 15) - x1) else (0 : Int32))).L h_o1.1.1) ((((sh.rf S).I o1 12 ((S.I o1 12) - x1)).I o1 15 (if (0 : Int32) < (((S.sI o1 12 ((S.I o1 12) - x1)).I o1 15) - x1) then (((S.sI o1 12 ((S.I o1 12) - x1)).I o1 15) - x1) else (0 : Int32))).K h_o1.1.2.1)
  refine va_get (D := D) (ci := 6) (v := .int (((S.sI o1 12 ((S.I o1 12) - x1)).sI o1 15 (if (0 : Int32) < (((S.sI o1 12 ((S.I o1 12) - x1)).I o1 15) - x1) then (((S.sI o1 12 ((S.I o1 12) - x1)).I o1 15) - x1) else (0 : Int32))).I o1 12)) (C := RX2) (T := TX2) (N := 20) hx hb hts (by decide +kernel) hown hK hP k5 hk5 rfl 12 (by decide) (hts (.fieldLink RX2 108 "Hobhouse$Gear" "stock" "I") (by decide +kernel)) (fun _ h9 => h9) rfl dX2_takeOff_26 ?_
  refine lv_if_ne (tgt := 36) hx hb dX2_takeOff_29 (by decide) (fun c6 => ?_) (fun c6 => ?_)
  · refine lv_iconst (v := 0) hx hb dX2_takeOff_36 (by decide) ?_
    obtain ⟨k7, gk7, hk7⟩ := wGt (cy := cy) X ((S.sI o1 12 ((S.I o1 12) - x1)).sI o1 15 (if (0 : Int32) < (((S.sI o1 12 ((S.I o1 12) - x1)).I o1 15) - x1) then (((S.sI o1 12 ((S.I o1 12) - x1)).I o1 15) - x1) else (0 : Int32))) ((((sh.rf S).I o1 12 ((S.I o1 12) - x1)).I o1 15 (if (0 : Int32) < (((S.sI o1 12 ((S.I o1 12) - x1)).I o1 15) - x1) then (((S.sI o1 12 ((S.I o1 12) - x1)).I o1 15) - x1) else (0 : Int32))).L h_o1.1.1) ((((sh.rf S).I o1 12 ((S.I o1 12) - x1)).I o1 15 (if (0 : Int32) < (((S.sI o1 12 ((S.I o1 12) - x1)).I o1 15) - x1) then (((S.sI o1 12 ((S.I o1 12) - x1)).I o1 15) - x1) else (0 : Int32))).K h_o1.1.2.1)
    refine va_put (D := D) (ci := 6) (v := .int (0 : Int32)) (ty := .boolean) (C := RX2) (T := TX2) (N := 20) hx hb hts (by decide +kernel) tyX2 tyX2_ok nmX2 hown hK hP hD hS k7 hk7 rfl 16 (by decide) (hts (.fieldLink RX2 125 "Hobhouse$Gear" "isGround" "Z") (by decide +kernel)) (fun _ h9 => h9) rfl (by decide +kernel) (by rfl) (by rfl) (Nat.le_of_ble_eq_true rfl) dX2_takeOff_37 (fun H locs hP2 hD2 hS => ?_)
    have e9 := wPuI (cy := cy) (j := 16) (v := (0 : Int32)) hD ((((sh.rf S).I o1 12 ((S.I o1 12) - x1)).I o1 15 (if (0 : Int32) < (((S.sI o1 12 ((S.I o1 12) - x1)).I o1 15) - x1) then (((S.sI o1 12 ((S.I o1 12) - x1)).I o1 15) - x1) else (0 : Int32))).L h_o1.1.1) ((((sh.rf S).I o1 12 ((S.I o1 12) - x1)).I o1 15 (if (0 : Int32) < (((S.sI o1 12 ((S.I o1 12) - x1)).I o1 15) - x1) then (((S.sI o1 12 ((S.I o1 12) - x1)).I o1 15) - x1) else (0 : Int32))).K h_o1.1.2.1) gk7 rfl
    have hP : va_P D vwCl (X ++ PL cy (((S.sI o1 12 ((S.I o1 12) - x1)).sI o1 15 (if (0 : Int32) < (((S.sI o1 12 ((S.I o1 12) - x1)).I o1 15) - x1) then (((S.sI o1 12 ((S.I o1 12) - x1)).I o1 15) - x1) else (0 : Int32))).sI o1 16 (0 : Int32))) H := by rw [← e9]; exact hP2
    have hD : va_D A (X ++ PL cy (((S.sI o1 12 ((S.I o1 12) - x1)).sI o1 15 (if (0 : Int32) < (((S.sI o1 12 ((S.I o1 12) - x1)).I o1 15) - x1) then (((S.sI o1 12 ((S.I o1 12) - x1)).I o1 15) - x1) else (0 : Int32))).sI o1 16 (0 : Int32))) := by rw [← e9]; exact hD2
    refine lv_aload_n hx hb dX2_takeOff_40 rfl (lv_at hl 0 rfl) ?_
    refine lv_iload_n hx hb dX2_takeOff_41 rfl (lv_at hl 1 rfl) ?_
    refine lv_bipush (v := 30) hx hb dX2_takeOff_42 (by decide +kernel) ?_
    refine lv_icmp_gt (tgt := 59) hx hb dX2_takeOff_44 (by decide) (fun c8 => ?_) (fun c8 => ?_)
    · refine lv_iconst (v := 1) hx hb dX2_takeOff_59 (by decide) ?_
      refine lv_goto (tgt := 64) hx hb dX2_takeOff_60 (by decide) ?_
      obtain ⟨k9, gk9, hk9⟩ := wGt (cy := cy) X (((S.sI o1 12 ((S.I o1 12) - x1)).sI o1 15 (if (0 : Int32) < (((S.sI o1 12 ((S.I o1 12) - x1)).I o1 15) - x1) then (((S.sI o1 12 ((S.I o1 12) - x1)).I o1 15) - x1) else (0 : Int32))).sI o1 16 (0 : Int32)) (((((sh.rf S).I o1 12 ((S.I o1 12) - x1)).I o1 15 (if (0 : Int32) < (((S.sI o1 12 ((S.I o1 12) - x1)).I o1 15) - x1) then (((S.sI o1 12 ((S.I o1 12) - x1)).I o1 15) - x1) else (0 : Int32))).I o1 16 (0 : Int32)).L h_o1.1.1) (((((sh.rf S).I o1 12 ((S.I o1 12) - x1)).I o1 15 (if (0 : Int32) < (((S.sI o1 12 ((S.I o1 12) - x1)).I o1 15) - x1) then (((S.sI o1 12 ((S.I o1 12) - x1)).I o1 15) - x1) else (0 : Int32))).I o1 16 (0 : Int32)).K h_o1.1.2.1)
      refine va_put (D := D) (ci := 6) (v := .int (1 : Int32)) (ty := .boolean) (C := RX2) (T := TX2) (N := 20) hx hb hts (by decide +kernel) tyX2 tyX2_ok nmX2 hown hK hP hD hS k9 hk9 rfl 17 (by decide) (hts (.fieldLink RX2 92 "Hobhouse$Gear" "isScrap" "Z") (by decide +kernel)) (fun _ h9 => h9) rfl (by decide +kernel) (by rfl) (by rfl) (Nat.le_of_ble_eq_true rfl) dX2_takeOff_64 (fun H locs hP2 hD2 hS => ?_)
      have e9 := wPuI (cy := cy) (j := 17) (v := (1 : Int32)) hD (((((sh.rf S).I o1 12 ((S.I o1 12) - x1)).I o1 15 (if (0 : Int32) < (((S.sI o1 12 ((S.I o1 12) - x1)).I o1 15) - x1) then (((S.sI o1 12 ((S.I o1 12) - x1)).I o1 15) - x1) else (0 : Int32))).I o1 16 (0 : Int32)).L h_o1.1.1) (((((sh.rf S).I o1 12 ((S.I o1 12) - x1)).I o1 15 (if (0 : Int32) < (((S.sI o1 12 ((S.I o1 12) - x1)).I o1 15) - x1) then (((S.sI o1 12 ((S.I o1 12) - x1)).I o1 15) - x1) else (0 : Int32))).I o1 16 (0 : Int32)).K h_o1.1.2.1) gk9 rfl
      have hP : va_P D vwCl (X ++ PL cy ((((S.sI o1 12 ((S.I o1 12) - x1)).sI o1 15 (if (0 : Int32) < (((S.sI o1 12 ((S.I o1 12) - x1)).I o1 15) - x1) then (((S.sI o1 12 ((S.I o1 12) - x1)).I o1 15) - x1) else (0 : Int32))).sI o1 16 (0 : Int32)).sI o1 17 (1 : Int32))) H := by rw [← e9]; exact hP2
      have hD : va_D A (X ++ PL cy ((((S.sI o1 12 ((S.I o1 12) - x1)).sI o1 15 (if (0 : Int32) < (((S.sI o1 12 ((S.I o1 12) - x1)).I o1 15) - x1) then (((S.sI o1 12 ((S.I o1 12) - x1)).I o1 15) - x1) else (0 : Int32))).sI o1 16 (0 : Int32)).sI o1 17 (1 : Int32))) := by rw [← e9]; exact hD2
      exact W.vret hx hb hr (fun t ht hW => ⟨⟨(((S.sI o1 12 ((S.I o1 12) - x1)).sI o1 15 (if (0 : Int32) < (((S.sI o1 12 ((S.I o1 12) - x1)).I o1 15) - x1) then (((S.sI o1 12 ((S.I o1 12) - x1)).I o1 15) - x1) else (0 : Int32))).sI o1 16 (0 : Int32)).sI o1 17 (1 : Int32), rfl, (⟨(by show ((((S.sI o1 12 ((S.I o1 12) - x1)).sI o1 15 (if (0 : Int32) < (((S.sI o1 12 ((S.I o1 12) - x1)).I o1 15) - x1) then (((S.sI o1 12 ((S.I o1 12) - x1)).I o1 15) - x1) else (0 : Int32))).sI o1 16 (0 : Int32)).sI o1 17 (1 : Int32)) = f_X2_takeOff S o1 x1 x2; unfold f_X2_takeOff; rw [if_neg c6, if_pos c8]), (((((sh.rf S).I o1 12 ((S.I o1 12) - x1)).I o1 15 (if (0 : Int32) < (((S.sI o1 12 ((S.I o1 12) - x1)).I o1 15) - x1) then (((S.sI o1 12 ((S.I o1 12) - x1)).I o1 15) - x1) else (0 : Int32))).I o1 16 (0 : Int32)).I o1 17 (1 : Int32))⟩), wd_end hP hK hD ht hW.alike⟩, hS.F ht⟩) hS.2.2 dX2_takeOff_67 hlocks
    · refine lv_iload_n hx hb dX2_takeOff_47 rfl (lv_at hl 1 rfl) ?_
      refine lv_bipush (v := 20) hx hb dX2_takeOff_48 (by decide +kernel) ?_
      refine lv_icmp_le (tgt := 63) hx hb dX2_takeOff_50 (by decide) (fun c10 => ?_) (fun c10 => ?_)
      · refine lv_iconst (v := 0) hx hb dX2_takeOff_63 (by decide) ?_
        obtain ⟨k11, gk11, hk11⟩ := wGt (cy := cy) X (((S.sI o1 12 ((S.I o1 12) - x1)).sI o1 15 (if (0 : Int32) < (((S.sI o1 12 ((S.I o1 12) - x1)).I o1 15) - x1) then (((S.sI o1 12 ((S.I o1 12) - x1)).I o1 15) - x1) else (0 : Int32))).sI o1 16 (0 : Int32)) (((((sh.rf S).I o1 12 ((S.I o1 12) - x1)).I o1 15 (if (0 : Int32) < (((S.sI o1 12 ((S.I o1 12) - x1)).I o1 15) - x1) then (((S.sI o1 12 ((S.I o1 12) - x1)).I o1 15) - x1) else (0 : Int32))).I o1 16 (0 : Int32)).L h_o1.1.1) (((((sh.rf S).I o1 12 ((S.I o1 12) - x1)).I o1 15 (if (0 : Int32) < (((S.sI o1 12 ((S.I o1 12) - x1)).I o1 15) - x1) then (((S.sI o1 12 ((S.I o1 12) - x1)).I o1 15) - x1) else (0 : Int32))).I o1 16 (0 : Int32)).K h_o1.1.2.1)
        refine va_put (D := D) (ci := 6) (v := .int (0 : Int32)) (ty := .boolean) (C := RX2) (T := TX2) (N := 20) hx hb hts (by decide +kernel) tyX2 tyX2_ok nmX2 hown hK hP hD hS k11 hk11 rfl 17 (by decide) (hts (.fieldLink RX2 92 "Hobhouse$Gear" "isScrap" "Z") (by decide +kernel)) (fun _ h9 => h9) rfl (by decide +kernel) (by rfl) (by rfl) (Nat.le_of_ble_eq_true rfl) dX2_takeOff_64 (fun H locs hP2 hD2 hS => ?_)
        have e9 := wPuI (cy := cy) (j := 17) (v := (0 : Int32)) hD (((((sh.rf S).I o1 12 ((S.I o1 12) - x1)).I o1 15 (if (0 : Int32) < (((S.sI o1 12 ((S.I o1 12) - x1)).I o1 15) - x1) then (((S.sI o1 12 ((S.I o1 12) - x1)).I o1 15) - x1) else (0 : Int32))).I o1 16 (0 : Int32)).L h_o1.1.1) (((((sh.rf S).I o1 12 ((S.I o1 12) - x1)).I o1 15 (if (0 : Int32) < (((S.sI o1 12 ((S.I o1 12) - x1)).I o1 15) - x1) then (((S.sI o1 12 ((S.I o1 12) - x1)).I o1 15) - x1) else (0 : Int32))).I o1 16 (0 : Int32)).K h_o1.1.2.1) gk11 rfl
        have hP : va_P D vwCl (X ++ PL cy ((((S.sI o1 12 ((S.I o1 12) - x1)).sI o1 15 (if (0 : Int32) < (((S.sI o1 12 ((S.I o1 12) - x1)).I o1 15) - x1) then (((S.sI o1 12 ((S.I o1 12) - x1)).I o1 15) - x1) else (0 : Int32))).sI o1 16 (0 : Int32)).sI o1 17 (0 : Int32))) H := by rw [← e9]; exact hP2
        have hD : va_D A (X ++ PL cy ((((S.sI o1 12 ((S.I o1 12) - x1)).sI o1 15 (if (0 : Int32) < (((S.sI o1 12 ((S.I o1 12) - x1)).I o1 15) - x1) then (((S.sI o1 12 ((S.I o1 12) - x1)).I o1 15) - x1) else (0 : Int32))).sI o1 16 (0 : Int32)).sI o1 17 (0 : Int32))) := by rw [← e9]; exact hD2
        exact W.vret hx hb hr (fun t ht hW => ⟨⟨(((S.sI o1 12 ((S.I o1 12) - x1)).sI o1 15 (if (0 : Int32) < (((S.sI o1 12 ((S.I o1 12) - x1)).I o1 15) - x1) then (((S.sI o1 12 ((S.I o1 12) - x1)).I o1 15) - x1) else (0 : Int32))).sI o1 16 (0 : Int32)).sI o1 17 (0 : Int32), rfl, (⟨(by show ((((S.sI o1 12 ((S.I o1 12) - x1)).sI o1 15 (if (0 : Int32) < (((S.sI o1 12 ((S.I o1 12) - x1)).I o1 15) - x1) then (((S.sI o1 12 ((S.I o1 12) - x1)).I o1 15) - x1) else (0 : Int32))).sI o1 16 (0 : Int32)).sI o1 17 (0 : Int32)) = f_X2_takeOff S o1 x1 x2; unfold f_X2_takeOff; rw [if_neg c6, if_neg c8, if_pos c10]), (((((sh.rf S).I o1 12 ((S.I o1 12) - x1)).I o1 15 (if (0 : Int32) < (((S.sI o1 12 ((S.I o1 12) - x1)).I o1 15) - x1) then (((S.sI o1 12 ((S.I o1 12) - x1)).I o1 15) - x1) else (0 : Int32))).I o1 16 (0 : Int32)).I o1 17 (0 : Int32))⟩), wd_end hP hK hD ht hW.alike⟩, hS.F ht⟩) hS.2.2 dX2_takeOff_67 hlocks
      · refine lv_iload_n hx hb dX2_takeOff_53 rfl (lv_at hl 2 rfl) ?_
        refine lv_bipush (v := 100) hx hb dX2_takeOff_54 (by decide +kernel) ?_
        refine lv_icmp_le (tgt := 63) hx hb dX2_takeOff_56 (by decide) (fun c12 => ?_) (fun c12 => ?_)
        · refine lv_iconst (v := 0) hx hb dX2_takeOff_63 (by decide) ?_
          obtain ⟨k13, gk13, hk13⟩ := wGt (cy := cy) X (((S.sI o1 12 ((S.I o1 12) - x1)).sI o1 15 (if (0 : Int32) < (((S.sI o1 12 ((S.I o1 12) - x1)).I o1 15) - x1) then (((S.sI o1 12 ((S.I o1 12) - x1)).I o1 15) - x1) else (0 : Int32))).sI o1 16 (0 : Int32)) (((((sh.rf S).I o1 12 ((S.I o1 12) - x1)).I o1 15 (if (0 : Int32) < (((S.sI o1 12 ((S.I o1 12) - x1)).I o1 15) - x1) then (((S.sI o1 12 ((S.I o1 12) - x1)).I o1 15) - x1) else (0 : Int32))).I o1 16 (0 : Int32)).L h_o1.1.1) (((((sh.rf S).I o1 12 ((S.I o1 12) - x1)).I o1 15 (if (0 : Int32) < (((S.sI o1 12 ((S.I o1 12) - x1)).I o1 15) - x1) then (((S.sI o1 12 ((S.I o1 12) - x1)).I o1 15) - x1) else (0 : Int32))).I o1 16 (0 : Int32)).K h_o1.1.2.1)
          refine va_put (D := D) (ci := 6) (v := .int (0 : Int32)) (ty := .boolean) (C := RX2) (T := TX2) (N := 20) hx hb hts (by decide +kernel) tyX2 tyX2_ok nmX2 hown hK hP hD hS k13 hk13 rfl 17 (by decide) (hts (.fieldLink RX2 92 "Hobhouse$Gear" "isScrap" "Z") (by decide +kernel)) (fun _ h9 => h9) rfl (by decide +kernel) (by rfl) (by rfl) (Nat.le_of_ble_eq_true rfl) dX2_takeOff_64 (fun H locs hP2 hD2 hS => ?_)
          have e9 := wPuI (cy := cy) (j := 17) (v := (0 : Int32)) hD (((((sh.rf S).I o1 12 ((S.I o1 12) - x1)).I o1 15 (if (0 : Int32) < (((S.sI o1 12 ((S.I o1 12) - x1)).I o1 15) - x1) then (((S.sI o1 12 ((S.I o1 12) - x1)).I o1 15) - x1) else (0 : Int32))).I o1 16 (0 : Int32)).L h_o1.1.1) (((((sh.rf S).I o1 12 ((S.I o1 12) - x1)).I o1 15 (if (0 : Int32) < (((S.sI o1 12 ((S.I o1 12) - x1)).I o1 15) - x1) then (((S.sI o1 12 ((S.I o1 12) - x1)).I o1 15) - x1) else (0 : Int32))).I o1 16 (0 : Int32)).K h_o1.1.2.1) gk13 rfl
          have hP : va_P D vwCl (X ++ PL cy ((((S.sI o1 12 ((S.I o1 12) - x1)).sI o1 15 (if (0 : Int32) < (((S.sI o1 12 ((S.I o1 12) - x1)).I o1 15) - x1) then (((S.sI o1 12 ((S.I o1 12) - x1)).I o1 15) - x1) else (0 : Int32))).sI o1 16 (0 : Int32)).sI o1 17 (0 : Int32))) H := by rw [← e9]; exact hP2
          have hD : va_D A (X ++ PL cy ((((S.sI o1 12 ((S.I o1 12) - x1)).sI o1 15 (if (0 : Int32) < (((S.sI o1 12 ((S.I o1 12) - x1)).I o1 15) - x1) then (((S.sI o1 12 ((S.I o1 12) - x1)).I o1 15) - x1) else (0 : Int32))).sI o1 16 (0 : Int32)).sI o1 17 (0 : Int32))) := by rw [← e9]; exact hD2
          exact W.vret hx hb hr (fun t ht hW => ⟨⟨(((S.sI o1 12 ((S.I o1 12) - x1)).sI o1 15 (if (0 : Int32) < (((S.sI o1 12 ((S.I o1 12) - x1)).I o1 15) - x1) then (((S.sI o1 12 ((S.I o1 12) - x1)).I o1 15) - x1) else (0 : Int32))).sI o1 16 (0 : Int32)).sI o1 17 (0 : Int32), rfl, (⟨(by show ((((S.sI o1 12 ((S.I o1 12) - x1)).sI o1 15 (if (0 : Int32) < (((S.sI o1 12 ((S.I o1 12) - x1)).I o1 15) - x1) then (((S.sI o1 12 ((S.I o1 12) - x1)).I o1 15) - x1) else (0 : Int32))).sI o1 16 (0 : Int32)).sI o1 17 (0 : Int32)) = f_X2_takeOff S o1 x1 x2; unfold f_X2_takeOff; rw [if_neg c6, if_neg c8, if_neg c10, if_pos c12]), (((((sh.rf S).I o1 12 ((S.I o1 12) - x1)).I o1 15 (if (0 : Int32) < (((S.sI o1 12 ((S.I o1 12) - x1)).I o1 15) - x1) then (((S.sI o1 12 ((S.I o1 12) - x1)).I o1 15) - x1) else (0 : Int32))).I o1 16 (0 : Int32)).I o1 17 (0 : Int32))⟩), wd_end hP hK hD ht hW.alike⟩, hS.F ht⟩) hS.2.2 dX2_takeOff_67 hlocks
        · refine lv_iconst (v := 1) hx hb dX2_takeOff_59 (by decide) ?_
          refine lv_goto (tgt := 64) hx hb dX2_takeOff_60 (by decide) ?_
          obtain ⟨k14, gk14, hk14⟩ := wGt (cy := cy) X (((S.sI o1 12 ((S.I o1 12) - x1)).sI o1 15 (if (0 : Int32) < (((S.sI o1 12 ((S.I o1 12) - x1)).I o1 15) - x1) then (((S.sI o1 12 ((S.I o1 12) - x1)).I o1 15) - x1) else (0 : Int32))).sI o1 16 (0 : Int32)) (((((sh.rf S).I o1 12 ((S.I o1 12) - x1)).I o1 15 (if (0 : Int32) < (((S.sI o1 12 ((S.I o1 12) - x1)).I o1 15) - x1) then (((S.sI o1 12 ((S.I o1 12) - x1)).I o1 15) - x1) else (0 : Int32))).I o1 16 (0 : Int32)).L h_o1.1.1) (((((sh.rf S).I o1 12 ((S.I o1 12) - x1)).I o1 15 (if (0 : Int32) < (((S.sI o1 12 ((S.I o1 12) - x1)).I o1 15) - x1) then (((S.sI o1 12 ((S.I o1 12) - x1)).I o1 15) - x1) else (0 : Int32))).I o1 16 (0 : Int32)).K h_o1.1.2.1)
          refine va_put (D := D) (ci := 6) (v := .int (1 : Int32)) (ty := .boolean) (C := RX2) (T := TX2) (N := 20) hx hb hts (by decide +kernel) tyX2 tyX2_ok nmX2 hown hK hP hD hS k14 hk14 rfl 17 (by decide) (hts (.fieldLink RX2 92 "Hobhouse$Gear" "isScrap" "Z") (by decide +kernel)) (fun _ h9 => h9) rfl (by decide +kernel) (by rfl) (by rfl) (Nat.le_of_ble_eq_true rfl) dX2_takeOff_64 (fun H locs hP2 hD2 hS => ?_)
          have e9 := wPuI (cy := cy) (j := 17) (v := (1 : Int32)) hD (((((sh.rf S).I o1 12 ((S.I o1 12) - x1)).I o1 15 (if (0 : Int32) < (((S.sI o1 12 ((S.I o1 12) - x1)).I o1 15) - x1) then (((S.sI o1 12 ((S.I o1 12) - x1)).I o1 15) - x1) else (0 : Int32))).I o1 16 (0 : Int32)).L h_o1.1.1) (((((sh.rf S).I o1 12 ((S.I o1 12) - x1)).I o1 15 (if (0 : Int32) < (((S.sI o1 12 ((S.I o1 12) - x1)).I o1 15) - x1) then (((S.sI o1 12 ((S.I o1 12) - x1)).I o1 15) - x1) else (0 : Int32))).I o1 16 (0 : Int32)).K h_o1.1.2.1) gk14 rfl
          have hP : va_P D vwCl (X ++ PL cy ((((S.sI o1 12 ((S.I o1 12) - x1)).sI o1 15 (if (0 : Int32) < (((S.sI o1 12 ((S.I o1 12) - x1)).I o1 15) - x1) then (((S.sI o1 12 ((S.I o1 12) - x1)).I o1 15) - x1) else (0 : Int32))).sI o1 16 (0 : Int32)).sI o1 17 (1 : Int32))) H := by rw [← e9]; exact hP2
          have hD : va_D A (X ++ PL cy ((((S.sI o1 12 ((S.I o1 12) - x1)).sI o1 15 (if (0 : Int32) < (((S.sI o1 12 ((S.I o1 12) - x1)).I o1 15) - x1) then (((S.sI o1 12 ((S.I o1 12) - x1)).I o1 15) - x1) else (0 : Int32))).sI o1 16 (0 : Int32)).sI o1 17 (1 : Int32))) := by rw [← e9]; exact hD2
          exact W.vret hx hb hr (fun t ht hW => ⟨⟨(((S.sI o1 12 ((S.I o1 12) - x1)).sI o1 15 (if (0 : Int32) < (((S.sI o1 12 ((S.I o1 12) - x1)).I o1 15) - x1) then (((S.sI o1 12 ((S.I o1 12) - x1)).I o1 15) - x1) else (0 : Int32))).sI o1 16 (0 : Int32)).sI o1 17 (1 : Int32), rfl, (⟨(by show ((((S.sI o1 12 ((S.I o1 12) - x1)).sI o1 15 (if (0 : Int32) < (((S.sI o1 12 ((S.I o1 12) - x1)).I o1 15) - x1) then (((S.sI o1 12 ((S.I o1 12) - x1)).I o1 15) - x1) else (0 : Int32))).sI o1 16 (0 : Int32)).sI o1 17 (1 : Int32)) = f_X2_takeOff S o1 x1 x2; unfold f_X2_takeOff; rw [if_neg c6, if_neg c8, if_neg c10, if_neg c12]), (((((sh.rf S).I o1 12 ((S.I o1 12) - x1)).I o1 15 (if (0 : Int32) < (((S.sI o1 12 ((S.I o1 12) - x1)).I o1 15) - x1) then (((S.sI o1 12 ((S.I o1 12) - x1)).I o1 15) - x1) else (0 : Int32))).I o1 16 (0 : Int32)).I o1 17 (1 : Int32))⟩), wd_end hP hK hD ht hW.alike⟩, hS.F ht⟩) hS.2.2 dX2_takeOff_67 hlocks
  · refine lv_iconst (v := 1) hx hb dX2_takeOff_32 (by decide) ?_
    refine lv_goto (tgt := 37) hx hb dX2_takeOff_33 (by decide) ?_
    obtain ⟨k15, gk15, hk15⟩ := wGt (cy := cy) X ((S.sI o1 12 ((S.I o1 12) - x1)).sI o1 15 (if (0 : Int32) < (((S.sI o1 12 ((S.I o1 12) - x1)).I o1 15) - x1) then (((S.sI o1 12 ((S.I o1 12) - x1)).I o1 15) - x1) else (0 : Int32))) ((((sh.rf S).I o1 12 ((S.I o1 12) - x1)).I o1 15 (if (0 : Int32) < (((S.sI o1 12 ((S.I o1 12) - x1)).I o1 15) - x1) then (((S.sI o1 12 ((S.I o1 12) - x1)).I o1 15) - x1) else (0 : Int32))).L h_o1.1.1) ((((sh.rf S).I o1 12 ((S.I o1 12) - x1)).I o1 15 (if (0 : Int32) < (((S.sI o1 12 ((S.I o1 12) - x1)).I o1 15) - x1) then (((S.sI o1 12 ((S.I o1 12) - x1)).I o1 15) - x1) else (0 : Int32))).K h_o1.1.2.1)
    refine va_put (D := D) (ci := 6) (v := .int (1 : Int32)) (ty := .boolean) (C := RX2) (T := TX2) (N := 20) hx hb hts (by decide +kernel) tyX2 tyX2_ok nmX2 hown hK hP hD hS k15 hk15 rfl 16 (by decide) (hts (.fieldLink RX2 125 "Hobhouse$Gear" "isGround" "Z") (by decide +kernel)) (fun _ h9 => h9) rfl (by decide +kernel) (by rfl) (by rfl) (Nat.le_of_ble_eq_true rfl) dX2_takeOff_37 (fun H locs hP2 hD2 hS => ?_)
    have e9 := wPuI (cy := cy) (j := 16) (v := (1 : Int32)) hD ((((sh.rf S).I o1 12 ((S.I o1 12) - x1)).I o1 15 (if (0 : Int32) < (((S.sI o1 12 ((S.I o1 12) - x1)).I o1 15) - x1) then (((S.sI o1 12 ((S.I o1 12) - x1)).I o1 15) - x1) else (0 : Int32))).L h_o1.1.1) ((((sh.rf S).I o1 12 ((S.I o1 12) - x1)).I o1 15 (if (0 : Int32) < (((S.sI o1 12 ((S.I o1 12) - x1)).I o1 15) - x1) then (((S.sI o1 12 ((S.I o1 12) - x1)).I o1 15) - x1) else (0 : Int32))).K h_o1.1.2.1) gk15 rfl
    have hP : va_P D vwCl (X ++ PL cy (((S.sI o1 12 ((S.I o1 12) - x1)).sI o1 15 (if (0 : Int32) < (((S.sI o1 12 ((S.I o1 12) - x1)).I o1 15) - x1) then (((S.sI o1 12 ((S.I o1 12) - x1)).I o1 15) - x1) else (0 : Int32))).sI o1 16 (1 : Int32))) H := by rw [← e9]; exact hP2
    have hD : va_D A (X ++ PL cy (((S.sI o1 12 ((S.I o1 12) - x1)).sI o1 15 (if (0 : Int32) < (((S.sI o1 12 ((S.I o1 12) - x1)).I o1 15) - x1) then (((S.sI o1 12 ((S.I o1 12) - x1)).I o1 15) - x1) else (0 : Int32))).sI o1 16 (1 : Int32))) := by rw [← e9]; exact hD2
    refine lv_aload_n hx hb dX2_takeOff_40 rfl (lv_at hl 0 rfl) ?_
    refine lv_iload_n hx hb dX2_takeOff_41 rfl (lv_at hl 1 rfl) ?_
    refine lv_bipush (v := 30) hx hb dX2_takeOff_42 (by decide +kernel) ?_
    refine lv_icmp_gt (tgt := 59) hx hb dX2_takeOff_44 (by decide) (fun c16 => ?_) (fun c16 => ?_)
    · refine lv_iconst (v := 1) hx hb dX2_takeOff_59 (by decide) ?_
      refine lv_goto (tgt := 64) hx hb dX2_takeOff_60 (by decide) ?_
      obtain ⟨k17, gk17, hk17⟩ := wGt (cy := cy) X (((S.sI o1 12 ((S.I o1 12) - x1)).sI o1 15 (if (0 : Int32) < (((S.sI o1 12 ((S.I o1 12) - x1)).I o1 15) - x1) then (((S.sI o1 12 ((S.I o1 12) - x1)).I o1 15) - x1) else (0 : Int32))).sI o1 16 (1 : Int32)) (((((sh.rf S).I o1 12 ((S.I o1 12) - x1)).I o1 15 (if (0 : Int32) < (((S.sI o1 12 ((S.I o1 12) - x1)).I o1 15) - x1) then (((S.sI o1 12 ((S.I o1 12) - x1)).I o1 15) - x1) else (0 : Int32))).I o1 16 (1 : Int32)).L h_o1.1.1) (((((sh.rf S).I o1 12 ((S.I o1 12) - x1)).I o1 15 (if (0 : Int32) < (((S.sI o1 12 ((S.I o1 12) - x1)).I o1 15) - x1) then (((S.sI o1 12 ((S.I o1 12) - x1)).I o1 15) - x1) else (0 : Int32))).I o1 16 (1 : Int32)).K h_o1.1.2.1)
      refine va_put (D := D) (ci := 6) (v := .int (1 : Int32)) (ty := .boolean) (C := RX2) (T := TX2) (N := 20) hx hb hts (by decide +kernel) tyX2 tyX2_ok nmX2 hown hK hP hD hS k17 hk17 rfl 17 (by decide) (hts (.fieldLink RX2 92 "Hobhouse$Gear" "isScrap" "Z") (by decide +kernel)) (fun _ h9 => h9) rfl (by decide +kernel) (by rfl) (by rfl) (Nat.le_of_ble_eq_true rfl) dX2_takeOff_64 (fun H locs hP2 hD2 hS => ?_)
      have e9 := wPuI (cy := cy) (j := 17) (v := (1 : Int32)) hD (((((sh.rf S).I o1 12 ((S.I o1 12) - x1)).I o1 15 (if (0 : Int32) < (((S.sI o1 12 ((S.I o1 12) - x1)).I o1 15) - x1) then (((S.sI o1 12 ((S.I o1 12) - x1)).I o1 15) - x1) else (0 : Int32))).I o1 16 (1 : Int32)).L h_o1.1.1) (((((sh.rf S).I o1 12 ((S.I o1 12) - x1)).I o1 15 (if (0 : Int32) < (((S.sI o1 12 ((S.I o1 12) - x1)).I o1 15) - x1) then (((S.sI o1 12 ((S.I o1 12) - x1)).I o1 15) - x1) else (0 : Int32))).I o1 16 (1 : Int32)).K h_o1.1.2.1) gk17 rfl
      have hP : va_P D vwCl (X ++ PL cy ((((S.sI o1 12 ((S.I o1 12) - x1)).sI o1 15 (if (0 : Int32) < (((S.sI o1 12 ((S.I o1 12) - x1)).I o1 15) - x1) then (((S.sI o1 12 ((S.I o1 12) - x1)).I o1 15) - x1) else (0 : Int32))).sI o1 16 (1 : Int32)).sI o1 17 (1 : Int32))) H := by rw [← e9]; exact hP2
      have hD : va_D A (X ++ PL cy ((((S.sI o1 12 ((S.I o1 12) - x1)).sI o1 15 (if (0 : Int32) < (((S.sI o1 12 ((S.I o1 12) - x1)).I o1 15) - x1) then (((S.sI o1 12 ((S.I o1 12) - x1)).I o1 15) - x1) else (0 : Int32))).sI o1 16 (1 : Int32)).sI o1 17 (1 : Int32))) := by rw [← e9]; exact hD2
      exact W.vret hx hb hr (fun t ht hW => ⟨⟨(((S.sI o1 12 ((S.I o1 12) - x1)).sI o1 15 (if (0 : Int32) < (((S.sI o1 12 ((S.I o1 12) - x1)).I o1 15) - x1) then (((S.sI o1 12 ((S.I o1 12) - x1)).I o1 15) - x1) else (0 : Int32))).sI o1 16 (1 : Int32)).sI o1 17 (1 : Int32), rfl, (⟨(by show ((((S.sI o1 12 ((S.I o1 12) - x1)).sI o1 15 (if (0 : Int32) < (((S.sI o1 12 ((S.I o1 12) - x1)).I o1 15) - x1) then (((S.sI o1 12 ((S.I o1 12) - x1)).I o1 15) - x1) else (0 : Int32))).sI o1 16 (1 : Int32)).sI o1 17 (1 : Int32)) = f_X2_takeOff S o1 x1 x2; unfold f_X2_takeOff; rw [if_pos c6, if_pos c16]), (((((sh.rf S).I o1 12 ((S.I o1 12) - x1)).I o1 15 (if (0 : Int32) < (((S.sI o1 12 ((S.I o1 12) - x1)).I o1 15) - x1) then (((S.sI o1 12 ((S.I o1 12) - x1)).I o1 15) - x1) else (0 : Int32))).I o1 16 (1 : Int32)).I o1 17 (1 : Int32))⟩), wd_end hP hK hD ht hW.alike⟩, hS.F ht⟩) hS.2.2 dX2_takeOff_67 hlocks
    · refine lv_iload_n hx hb dX2_takeOff_47 rfl (lv_at hl 1 rfl) ?_
      refine lv_bipush (v := 20) hx hb dX2_takeOff_48 (by decide +kernel) ?_
      refine lv_icmp_le (tgt := 63) hx hb dX2_takeOff_50 (by decide) (fun c18 => ?_) (fun c18 => ?_)
      · refine lv_iconst (v := 0) hx hb dX2_takeOff_63 (by decide) ?_
        obtain ⟨k19, gk19, hk19⟩ := wGt (cy := cy) X (((S.sI o1 12 ((S.I o1 12) - x1)).sI o1 15 (if (0 : Int32) < (((S.sI o1 12 ((S.I o1 12) - x1)).I o1 15) - x1) then (((S.sI o1 12 ((S.I o1 12) - x1)).I o1 15) - x1) else (0 : Int32))).sI o1 16 (1 : Int32)) (((((sh.rf S).I o1 12 ((S.I o1 12) - x1)).I o1 15 (if (0 : Int32) < (((S.sI o1 12 ((S.I o1 12) - x1)).I o1 15) - x1) then (((S.sI o1 12 ((S.I o1 12) - x1)).I o1 15) - x1) else (0 : Int32))).I o1 16 (1 : Int32)).L h_o1.1.1) (((((sh.rf S).I o1 12 ((S.I o1 12) - x1)).I o1 15 (if (0 : Int32) < (((S.sI o1 12 ((S.I o1 12) - x1)).I o1 15) - x1) then (((S.sI o1 12 ((S.I o1 12) - x1)).I o1 15) - x1) else (0 : Int32))).I o1 16 (1 : Int32)).K h_o1.1.2.1)
        refine va_put (D := D) (ci := 6) (v := .int (0 : Int32)) (ty := .boolean) (C := RX2) (T := TX2) (N := 20) hx hb hts (by decide +kernel) tyX2 tyX2_ok nmX2 hown hK hP hD hS k19 hk19 rfl 17 (by decide) (hts (.fieldLink RX2 92 "Hobhouse$Gear" "isScrap" "Z") (by decide +kernel)) (fun _ h9 => h9) rfl (by decide +kernel) (by rfl) (by rfl) (Nat.le_of_ble_eq_true rfl) dX2_takeOff_64 (fun H locs hP2 hD2 hS => ?_)
        have e9 := wPuI (cy := cy) (j := 17) (v := (0 : Int32)) hD (((((sh.rf S).I o1 12 ((S.I o1 12) - x1)).I o1 15 (if (0 : Int32) < (((S.sI o1 12 ((S.I o1 12) - x1)).I o1 15) - x1) then (((S.sI o1 12 ((S.I o1 12) - x1)).I o1 15) - x1) else (0 : Int32))).I o1 16 (1 : Int32)).L h_o1.1.1) (((((sh.rf S).I o1 12 ((S.I o1 12) - x1)).I o1 15 (if (0 : Int32) < (((S.sI o1 12 ((S.I o1 12) - x1)).I o1 15) - x1) then (((S.sI o1 12 ((S.I o1 12) - x1)).I o1 15) - x1) else (0 : Int32))).I o1 16 (1 : Int32)).K h_o1.1.2.1) gk19 rfl
        have hP : va_P D vwCl (X ++ PL cy ((((S.sI o1 12 ((S.I o1 12) - x1)).sI o1 15 (if (0 : Int32) < (((S.sI o1 12 ((S.I o1 12) - x1)).I o1 15) - x1) then (((S.sI o1 12 ((S.I o1 12) - x1)).I o1 15) - x1) else (0 : Int32))).sI o1 16 (1 : Int32)).sI o1 17 (0 : Int32))) H := by rw [← e9]; exact hP2
        have hD : va_D A (X ++ PL cy ((((S.sI o1 12 ((S.I o1 12) - x1)).sI o1 15 (if (0 : Int32) < (((S.sI o1 12 ((S.I o1 12) - x1)).I o1 15) - x1) then (((S.sI o1 12 ((S.I o1 12) - x1)).I o1 15) - x1) else (0 : Int32))).sI o1 16 (1 : Int32)).sI o1 17 (0 : Int32))) := by rw [← e9]; exact hD2
        exact W.vret hx hb hr (fun t ht hW => ⟨⟨(((S.sI o1 12 ((S.I o1 12) - x1)).sI o1 15 (if (0 : Int32) < (((S.sI o1 12 ((S.I o1 12) - x1)).I o1 15) - x1) then (((S.sI o1 12 ((S.I o1 12) - x1)).I o1 15) - x1) else (0 : Int32))).sI o1 16 (1 : Int32)).sI o1 17 (0 : Int32), rfl, (⟨(by show ((((S.sI o1 12 ((S.I o1 12) - x1)).sI o1 15 (if (0 : Int32) < (((S.sI o1 12 ((S.I o1 12) - x1)).I o1 15) - x1) then (((S.sI o1 12 ((S.I o1 12) - x1)).I o1 15) - x1) else (0 : Int32))).sI o1 16 (1 : Int32)).sI o1 17 (0 : Int32)) = f_X2_takeOff S o1 x1 x2; unfold f_X2_takeOff; rw [if_pos c6, if_neg c16, if_pos c18]), (((((sh.rf S).I o1 12 ((S.I o1 12) - x1)).I o1 15 (if (0 : Int32) < (((S.sI o1 12 ((S.I o1 12) - x1)).I o1 15) - x1) then (((S.sI o1 12 ((S.I o1 12) - x1)).I o1 15) - x1) else (0 : Int32))).I o1 16 (1 : Int32)).I o1 17 (0 : Int32))⟩), wd_end hP hK hD ht hW.alike⟩, hS.F ht⟩) hS.2.2 dX2_takeOff_67 hlocks
      · refine lv_iload_n hx hb dX2_takeOff_53 rfl (lv_at hl 2 rfl) ?_
        refine lv_bipush (v := 100) hx hb dX2_takeOff_54 (by decide +kernel) ?_
        refine lv_icmp_le (tgt := 63) hx hb dX2_takeOff_56 (by decide) (fun c20 => ?_) (fun c20 => ?_)
        · refine lv_iconst (v := 0) hx hb dX2_takeOff_63 (by decide) ?_
          obtain ⟨k21, gk21, hk21⟩ := wGt (cy := cy) X (((S.sI o1 12 ((S.I o1 12) - x1)).sI o1 15 (if (0 : Int32) < (((S.sI o1 12 ((S.I o1 12) - x1)).I o1 15) - x1) then (((S.sI o1 12 ((S.I o1 12) - x1)).I o1 15) - x1) else (0 : Int32))).sI o1 16 (1 : Int32)) (((((sh.rf S).I o1 12 ((S.I o1 12) - x1)).I o1 15 (if (0 : Int32) < (((S.sI o1 12 ((S.I o1 12) - x1)).I o1 15) - x1) then (((S.sI o1 12 ((S.I o1 12) - x1)).I o1 15) - x1) else (0 : Int32))).I o1 16 (1 : Int32)).L h_o1.1.1) (((((sh.rf S).I o1 12 ((S.I o1 12) - x1)).I o1 15 (if (0 : Int32) < (((S.sI o1 12 ((S.I o1 12) - x1)).I o1 15) - x1) then (((S.sI o1 12 ((S.I o1 12) - x1)).I o1 15) - x1) else (0 : Int32))).I o1 16 (1 : Int32)).K h_o1.1.2.1)
          refine va_put (D := D) (ci := 6) (v := .int (0 : Int32)) (ty := .boolean) (C := RX2) (T := TX2) (N := 20) hx hb hts (by decide +kernel) tyX2 tyX2_ok nmX2 hown hK hP hD hS k21 hk21 rfl 17 (by decide) (hts (.fieldLink RX2 92 "Hobhouse$Gear" "isScrap" "Z") (by decide +kernel)) (fun _ h9 => h9) rfl (by decide +kernel) (by rfl) (by rfl) (Nat.le_of_ble_eq_true rfl) dX2_takeOff_64 (fun H locs hP2 hD2 hS => ?_)
          have e9 := wPuI (cy := cy) (j := 17) (v := (0 : Int32)) hD (((((sh.rf S).I o1 12 ((S.I o1 12) - x1)).I o1 15 (if (0 : Int32) < (((S.sI o1 12 ((S.I o1 12) - x1)).I o1 15) - x1) then (((S.sI o1 12 ((S.I o1 12) - x1)).I o1 15) - x1) else (0 : Int32))).I o1 16 (1 : Int32)).L h_o1.1.1) (((((sh.rf S).I o1 12 ((S.I o1 12) - x1)).I o1 15 (if (0 : Int32) < (((S.sI o1 12 ((S.I o1 12) - x1)).I o1 15) - x1) then (((S.sI o1 12 ((S.I o1 12) - x1)).I o1 15) - x1) else (0 : Int32))).I o1 16 (1 : Int32)).K h_o1.1.2.1) gk21 rfl
          have hP : va_P D vwCl (X ++ PL cy ((((S.sI o1 12 ((S.I o1 12) - x1)).sI o1 15 (if (0 : Int32) < (((S.sI o1 12 ((S.I o1 12) - x1)).I o1 15) - x1) then (((S.sI o1 12 ((S.I o1 12) - x1)).I o1 15) - x1) else (0 : Int32))).sI o1 16 (1 : Int32)).sI o1 17 (0 : Int32))) H := by rw [← e9]; exact hP2
          have hD : va_D A (X ++ PL cy ((((S.sI o1 12 ((S.I o1 12) - x1)).sI o1 15 (if (0 : Int32) < (((S.sI o1 12 ((S.I o1 12) - x1)).I o1 15) - x1) then (((S.sI o1 12 ((S.I o1 12) - x1)).I o1 15) - x1) else (0 : Int32))).sI o1 16 (1 : Int32)).sI o1 17 (0 : Int32))) := by rw [← e9]; exact hD2
          exact W.vret hx hb hr (fun t ht hW => ⟨⟨(((S.sI o1 12 ((S.I o1 12) - x1)).sI o1 15 (if (0 : Int32) < (((S.sI o1 12 ((S.I o1 12) - x1)).I o1 15) - x1) then (((S.sI o1 12 ((S.I o1 12) - x1)).I o1 15) - x1) else (0 : Int32))).sI o1 16 (1 : Int32)).sI o1 17 (0 : Int32), rfl, (⟨(by show ((((S.sI o1 12 ((S.I o1 12) - x1)).sI o1 15 (if (0 : Int32) < (((S.sI o1 12 ((S.I o1 12) - x1)).I o1 15) - x1) then (((S.sI o1 12 ((S.I o1 12) - x1)).I o1 15) - x1) else (0 : Int32))).sI o1 16 (1 : Int32)).sI o1 17 (0 : Int32)) = f_X2_takeOff S o1 x1 x2; unfold f_X2_takeOff; rw [if_pos c6, if_neg c16, if_neg c18, if_pos c20]), (((((sh.rf S).I o1 12 ((S.I o1 12) - x1)).I o1 15 (if (0 : Int32) < (((S.sI o1 12 ((S.I o1 12) - x1)).I o1 15) - x1) then (((S.sI o1 12 ((S.I o1 12) - x1)).I o1 15) - x1) else (0 : Int32))).I o1 16 (1 : Int32)).I o1 17 (0 : Int32))⟩), wd_end hP hK hD ht hW.alike⟩, hS.F ht⟩) hS.2.2 dX2_takeOff_67 hlocks
        · refine lv_iconst (v := 1) hx hb dX2_takeOff_59 (by decide) ?_
          refine lv_goto (tgt := 64) hx hb dX2_takeOff_60 (by decide) ?_
          obtain ⟨k22, gk22, hk22⟩ := wGt (cy := cy) X (((S.sI o1 12 ((S.I o1 12) - x1)).sI o1 15 (if (0 : Int32) < (((S.sI o1 12 ((S.I o1 12) - x1)).I o1 15) - x1) then (((S.sI o1 12 ((S.I o1 12) - x1)).I o1 15) - x1) else (0 : Int32))).sI o1 16 (1 : Int32)) (((((sh.rf S).I o1 12 ((S.I o1 12) - x1)).I o1 15 (if (0 : Int32) < (((S.sI o1 12 ((S.I o1 12) - x1)).I o1 15) - x1) then (((S.sI o1 12 ((S.I o1 12) - x1)).I o1 15) - x1) else (0 : Int32))).I o1 16 (1 : Int32)).L h_o1.1.1) (((((sh.rf S).I o1 12 ((S.I o1 12) - x1)).I o1 15 (if (0 : Int32) < (((S.sI o1 12 ((S.I o1 12) - x1)).I o1 15) - x1) then (((S.sI o1 12 ((S.I o1 12) - x1)).I o1 15) - x1) else (0 : Int32))).I o1 16 (1 : Int32)).K h_o1.1.2.1)
          refine va_put (D := D) (ci := 6) (v := .int (1 : Int32)) (ty := .boolean) (C := RX2) (T := TX2) (N := 20) hx hb hts (by decide +kernel) tyX2 tyX2_ok nmX2 hown hK hP hD hS k22 hk22 rfl 17 (by decide) (hts (.fieldLink RX2 92 "Hobhouse$Gear" "isScrap" "Z") (by decide +kernel)) (fun _ h9 => h9) rfl (by decide +kernel) (by rfl) (by rfl) (Nat.le_of_ble_eq_true rfl) dX2_takeOff_64 (fun H locs hP2 hD2 hS => ?_)
          have e9 := wPuI (cy := cy) (j := 17) (v := (1 : Int32)) hD (((((sh.rf S).I o1 12 ((S.I o1 12) - x1)).I o1 15 (if (0 : Int32) < (((S.sI o1 12 ((S.I o1 12) - x1)).I o1 15) - x1) then (((S.sI o1 12 ((S.I o1 12) - x1)).I o1 15) - x1) else (0 : Int32))).I o1 16 (1 : Int32)).L h_o1.1.1) (((((sh.rf S).I o1 12 ((S.I o1 12) - x1)).I o1 15 (if (0 : Int32) < (((S.sI o1 12 ((S.I o1 12) - x1)).I o1 15) - x1) then (((S.sI o1 12 ((S.I o1 12) - x1)).I o1 15) - x1) else (0 : Int32))).I o1 16 (1 : Int32)).K h_o1.1.2.1) gk22 rfl
          have hP : va_P D vwCl (X ++ PL cy ((((S.sI o1 12 ((S.I o1 12) - x1)).sI o1 15 (if (0 : Int32) < (((S.sI o1 12 ((S.I o1 12) - x1)).I o1 15) - x1) then (((S.sI o1 12 ((S.I o1 12) - x1)).I o1 15) - x1) else (0 : Int32))).sI o1 16 (1 : Int32)).sI o1 17 (1 : Int32))) H := by rw [← e9]; exact hP2
          have hD : va_D A (X ++ PL cy ((((S.sI o1 12 ((S.I o1 12) - x1)).sI o1 15 (if (0 : Int32) < (((S.sI o1 12 ((S.I o1 12) - x1)).I o1 15) - x1) then (((S.sI o1 12 ((S.I o1 12) - x1)).I o1 15) - x1) else (0 : Int32))).sI o1 16 (1 : Int32)).sI o1 17 (1 : Int32))) := by rw [← e9]; exact hD2
          exact W.vret hx hb hr (fun t ht hW => ⟨⟨(((S.sI o1 12 ((S.I o1 12) - x1)).sI o1 15 (if (0 : Int32) < (((S.sI o1 12 ((S.I o1 12) - x1)).I o1 15) - x1) then (((S.sI o1 12 ((S.I o1 12) - x1)).I o1 15) - x1) else (0 : Int32))).sI o1 16 (1 : Int32)).sI o1 17 (1 : Int32), rfl, (⟨(by show ((((S.sI o1 12 ((S.I o1 12) - x1)).sI o1 15 (if (0 : Int32) < (((S.sI o1 12 ((S.I o1 12) - x1)).I o1 15) - x1) then (((S.sI o1 12 ((S.I o1 12) - x1)).I o1 15) - x1) else (0 : Int32))).sI o1 16 (1 : Int32)).sI o1 17 (1 : Int32)) = f_X2_takeOff S o1 x1 x2; unfold f_X2_takeOff; rw [if_pos c6, if_neg c16, if_neg c18, if_neg c20]), (((((sh.rf S).I o1 12 ((S.I o1 12) - x1)).I o1 15 (if (0 : Int32) < (((S.sI o1 12 ((S.I o1 12) - x1)).I o1 15) - x1) then (((S.sI o1 12 ((S.I o1 12) - x1)).I o1 15) - x1) else (0 : Int32))).I o1 16 (1 : Int32)).I o1 17 (1 : Int32))⟩), wd_end hP hK hD ht hW.alike⟩, hS.F ht⟩) hS.2.2 dX2_takeOff_67 hlocks
