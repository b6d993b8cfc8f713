def f_X9_overlapOf (S : wPS) (o1 : Nat) (o2 : Nat) : Int64 := ((((if (S.I o2 4) < (S.I o1 4) then (S.I o2 4) else (S.I o1 4)).toInt64) * ((if 0 ≤ (S.I o1 3) then (S.I o1 3) else 0 - (S.I o1 3)).toInt64)) * (113 : Int64)) / ((355 : Int64) * ((S.I o1 2).toInt64))
set_option maxHeartbeats 4000000 in
set_option maxRecDepth 100000 in
theorem c_X9_overlapOf (l : Launch) {D : va_G} {cy : Nat → ClassId} {X : va_W} (S : wPS) (sz : Nat) (o1 : Nat) (h_o1 : ok2 S o1) (o2 : Nat) (h_o2 : ok2 S o2) (hm : ¬ (355 : Int64) * ((S.I o1 2).toInt64) = 0) : Met l yX9_overlapOf wsX9_overlapOf ({ frames := 1, cells := 0, slots := 0, locals := 15 }) (va_Pc [.ref o1, .ref o2] (fun U => U.heap.size = sz ∧ WD D cy X (fun _ => True) S U ∧ NW U)) (va_Ql (fun r (_ : Unit) => r = f_X9_overlapOf S o1 o2) (fun _ t => WD D cy X (va_A (X ++ PL cy S) sz) S t) (va_A (X ++ PL cy S) sz)) 0 0 (va_A (X ++ PL cy S) sz) := by
  refine Met.ofW (cc := cX9_overlapOf) (maxL := 4) (ret := (some .long)) (by decide) rfl ?_
  intro p e s m args below meth c s₁ B hml hv
  obtain ⟨rfl, hsz, ⟨hP, hK, hD0⟩, hN⟩ := hv
  have hx := B.exec
  have hb := B.bytes
  have hr := B.returns
  have hts := atoms_spec (ws := wsX9_overlapOf) B.pre
  have hown : s.vm.findClass RX9 = some m.cls := findClass_of_methodNamed B.named
  have hlocks := B.notSynchronized
  subst hsz
  have hD := hD0.self (sz := s.heap.size)
  generalize hAe : va_A (X ++ PL cy S) s.heap.size = A at hD ⊢
  have hA : ∀ q : Nat, s.heap.size ≤ q → A q := fun q h => by rw [← hAe]; exact Or.inr h
  have hS : va_S A s.heap s.heap [] := va_S.rf
  have hl := lv_entry ([.ref o1, .ref o2]) (n := 4) (Nat.le_of_ble_eq_true rfl)
  rw [lg_entry_eq]
  generalize (lg_sl ([.ref o1, .ref o2]) ++ List.replicate (4 - (lg_sl ([.ref o1, .ref o2])).length) Slot.unset).toArray = ls at hl ⊢
  have hl : lv_has ls 4 [(0, .ref o1), (1, .ref o2)] := hl
  refine lv_aload_n hx hb dX9_overlapOf_0 rfl (lv_at hl 0 rfl) ?_
  obtain ⟨k1, gk1, hk1⟩ := wGt (cy := cy) X S h_o1.1.1 h_o1.1.2.1
  refine va_get (D := D) (ci := 6) (v := .int (S.I o1 4)) (C := RX2) (T := TX2) (N := 20) hx hb hts (by decide +kernel) hown hK hP k1 hk1 rfl 4 (by decide) (hts (.fieldLink RX9 160 "Hobhouse$Gear" "width" "I") (by decide +kernel)) (fun _ h9 => h9) rfl dX9_overlapOf_1 ?_
  refine lv_aload_n hx hb dX9_overlapOf_4 rfl (lv_at hl 1 rfl) ?_
  obtain ⟨k2, gk2, hk2⟩ := wGt (cy := cy) X S h_o2.1.1 h_o2.1.2.1
  refine va_get (D := D) (ci := 6) (v := .int (S.I o2 4)) (C := RX2) (T := TX2) (N := 20) hx hb hts (by decide +kernel) hown hK hP k2 hk2 rfl 4 (by decide) (hts (.fieldLink RX9 160 "Hobhouse$Gear" "width" "I") (by decide +kernel)) (fun _ h9 => h9) rfl dX9_overlapOf_5 ?_
  refine va_mmin hx hb (hml.trans hl.1.symm) hown (hts (.methodLink RX9 181 Lib.Math.min.name) (by decide +kernel)) (hts (.static Lib.Math.min.name) (by decide +kernel)) (hts (.initialized "java/lang/Math") (by decide +kernel)) (hts (.code Lib.Math.min.name Lib.Math.min.code 2 (some .int)) (by decide +kernel)) (Nat.le_of_ble_eq_true rfl) (Nat.le_of_ble_eq_true rfl) (Nat.zero_le _) (Nat.zero_le _) dX9_overlapOf_8 ?_
  refine lv_i2l hx hb dX9_overlapOf_11 rfl ?_
  refine lv_lstore_n (lv' := [(2, .long ((if (S.I o2 4) < (S.I o1 4) then (S.I o2 4) else (S.I o1 4)).toInt64)), (0, .ref o1), (1, .ref o2)]) hx hb dX9_overlapOf_12 rfl hl (by decide) rfl (fun ls hl => ?_)
  refine lv_lload_n hx hb dX9_overlapOf_13 rfl (lv_at hl 0 rfl) ?_
  refine lv_aload_n hx hb dX9_overlapOf_14 rfl (lv_at hl 1 rfl) ?_
  obtain ⟨k3, gk3, hk3⟩ := wGt (cy := cy) X S h_o1.1.1 h_o1.1.2.1
  refine va_get (D := D) (ci := 6) (v := .int (S.I o1 3)) (C := RX2) (T := TX2) (N := 20) hx hb hts (by decide +kernel) hown hK hP k3 hk3 rfl 3 (by decide) (hts (.fieldLink RX9 185 "Hobhouse$Gear" "helix" "I") (by decide +kernel)) (fun _ h9 => h9) rfl dX9_overlapOf_15 ?_
  refine va_mabs hx hb (hml.trans hl.1.symm) hown (hts (.methodLink RX9 188 Lib.Math.abs.name) (by decide +kernel)) (hts (.static Lib.Math.abs.name) (by decide +kernel)) (hts (.initialized "java/lang/Math") (by decide +kernel)) (hts (.code Lib.Math.abs.name Lib.Math.abs.code 1 (some .int)) (by decide +kernel)) (Nat.le_of_ble_eq_true rfl) (Nat.le_of_ble_eq_true rfl) (Nat.zero_le _) (Nat.zero_le _) dX9_overlapOf_18 ?_
  refine lv_i2l hx hb dX9_overlapOf_21 rfl ?_
  refine lv_lmul hx hb dX9_overlapOf_22 ?_
  refine lv_ldc2 (own := RX9) (v := 113) hx hb hown (hts (.constantLong RX9 177 (113)) (by decide +kernel)) dX9_overlapOf_23 ?_
  refine lv_lmul hx hb dX9_overlapOf_26 ?_
  refine lv_ldc2 (own := RX9) (v := 355) hx hb hown (hts (.constantLong RX9 190 (355)) (by decide +kernel)) dX9_overlapOf_27 ?_
  refine lv_aload_n hx hb dX9_overlapOf_30 rfl (lv_at hl 1 rfl) ?_
  obtain ⟨k4, gk4, hk4⟩ := wGt (cy := cy) X S h_o1.1.1 h_o1.1.2.1
  refine va_get (D := D) (ci := 6) (v := .int (S.I o1 2)) (C := RX2) (T := TX2) (N := 20) hx hb hts (by decide +kernel) hown hK hP k4 hk4 rfl 2 (by decide) (hts (.fieldLink RX9 165 "Hobhouse$Gear" "module" "I") (by decide +kernel)) (fun _ h9 => h9) rfl dX9_overlapOf_31 ?_
  refine lv_i2l hx hb dX9_overlapOf_34 rfl ?_
  refine lv_lmul hx hb dX9_overlapOf_35 ?_
  refine lv_ldiv hx hb dX9_overlapOf_36 (hm) ?_
  exact W.lret (v := ((((if (S.I o2 4) < (S.I o1 4) then (S.I o2 4) else (S.I o1 4)).toInt64) * ((if 0 ≤ (S.I o1 3) then (S.I o1 3) else 0 - (S.I o1 3)).toInt64)) * (113 : Int64)) / ((355 : Int64) * ((S.I o1 2).toInt64))) hx hb hr (fun t ht hW => ⟨⟨((((if (S.I o2 4) < (S.I o1 4) then (S.I o2 4) else (S.I o1 4)).toInt64) * ((if 0 ≤ (S.I o1 3) then (S.I o1 3) else 0 - (S.I o1 3)).toInt64)) * (113 : Int64)) / ((355 : Int64) * ((S.I o1 2).toInt64)), (), rfl, (by show (((((if (S.I o2 4) < (S.I o1 4) then (S.I o2 4) else (S.I o1 4)).toInt64) * ((if 0 ≤ (S.I o1 3) then (S.I o1 3) else 0 - (S.I o1 3)).toInt64)) * (113 : Int64)) / ((355 : Int64) * ((S.I o1 2).toInt64))) = f_X9_overlapOf S o1 o2; unfold f_X9_overlapOf; rfl), wd_end hP hK hD ht hW.alike⟩, hS.F ht⟩) hS.2.2 dX9_overlapOf_37 hlocks
