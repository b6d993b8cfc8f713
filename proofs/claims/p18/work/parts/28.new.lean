set_option maxHeartbeats 4000000 in
set_option maxRecDepth 100000 in
theorem c_X10_init (l : Launch) {D : va_G} {cy : Nat → ClassId} {X : va_W} (S : wPS) (sz : Nat) (o1 : Nat) (h_o1 : isA S o1 10) (x1 : Int32) (x2 : Int32) (x3 : Int32) (x4 : Int32) (x5 : Int32) (R : List Nat) (hW : wtB S (o1 :: R)) (hF0 : ∀ j, S.F o1 j = none) (hI0 : ∀ j, S.I o1 j = 0) (hr : (6 ≤ x2.toInt ∧ x2.toInt ≤ 200) ∧ (500 ≤ x3.toInt ∧ x3.toInt ≤ 10000) ∧ (-500 ≤ x4.toInt ∧ x4.toInt ≤ 500) ∧ 1000 ≤ x5.toInt ∧ x5.toInt ≤ 99999) : Met l yX10_init wsX10_init ({ frames := 1, cells := 2, slots := 208, locals := 12 }) (va_Pc [.ref o1, .int x1, .int x2, .int x3, .int x4, .int x5] (fun U => U.heap.size = sz ∧ WD D cy X (fun _ => True) S U ∧ NW U)) (va_Qv (fun (u : wPS) => stp ([] : List (Nat × Nat)) [o1] R S u ∧ isA u o1 10 ∧ u.I o1 0 = x1 ∧ u.I o1 1 = x2 ∧ u.I o1 2 = x3 ∧ u.I o1 3 = x4 ∧ u.I o1 4 = x5 ∧ u.I o1 7 = (0 : Int32) ∧ u.I o1 8 = (-1 : Int32) ∧ u.I o1 9 = (0 : Int32) ∧ u.I o1 10 = (0 : Int32) ∧ u.I o1 11 = (0 : Int32) ∧ u.I o1 12 = (0 : Int32) ∧ u.I o1 13 = (0 : Int32) ∧ u.I o1 14 = (0 : Int32) ∧ u.I o1 15 = (0 : Int32) ∧ u.I o1 16 = (-1 : Int32) ∧ u.I o1 17 = (0 : Int32) ∧ u.I o1 18 = (0 : Int32) ∧ u.I o1 19 = (0 : Int32) ∧ u.I o1 20 = (0 : Int32) ∧ u.I o1 21 = (0 : Int32)) (fun u t => WD D cy X (va_A (X ++ PL cy S) sz) u t) (va_A (X ++ PL cy S) sz)) 2 208 (va_A (X ++ PL cy S) sz) := by
  refine Met.ofW (cc := cX10_init) (maxL := 6) (ret := none) (by decide) rfl ?_
  intro p e s m args below meth c s₁ B hml hv
  obtain ⟨rfl, hsz, ⟨hP, hK, hD0⟩, hN⟩ := hv
  have hx := B.exec
  have hb := B.bytes
  have hr := B.returns
  have hts := atoms_spec (ws := wsX10_init) B.pre
  have hown : s.vm.findClass RX10 = some m.cls := findClass_of_methodNamed B.named
  have hlocks := B.notSynchronized
  have hin : meth.name = "<init>" := (name_of_methodNamed B.named B.method).1
  subst hsz
  have hD := hD0.self (sz := s.heap.size)
  generalize hAe : va_A (X ++ PL cy S) s.heap.size = A at hD ⊢
  have hA : ∀ q : Nat, s.heap.size ≤ q → A q := fun q h => by rw [← hAe]; exact Or.inr h
  have hS : va_S A s.heap s.heap [] := va_S.rf
  have hl := lv_entry ([.ref o1, .int x1, .int x2, .int x3, .int x4, .int x5]) (n := 6) (Nat.le_of_ble_eq_true rfl)
  rw [lg_entry_eq]
  generalize (lg_sl ([.ref o1, .int x1, .int x2, .int x3, .int x4, .int x5]) ++ List.replicate (6 - (lg_sl ([.ref o1, .int x1, .int x2, .int x3, .int x4, .int x5])).length) Slot.unset).toArray = ls at hl ⊢
  have hl : lv_has ls 6 [(0, .ref o1), (1, .int x1), (2, .int x2), (3, .int x3), (4, .int x4), (5, .int x5)] := hl
  have t0 : stp ([] : List (Nat × Nat)) [o1] (o1 :: R) S S := stp.rf hW
  refine lv_aload_n hx hb dX10_init_0 rfl (lv_at hl 0 rfl) ?_
  refine W.objInit hx hb hown (hts (.methodLink RX10 3 objectInit) (by decide +kernel)) (hts (.instanceMethod objectInit) (by decide +kernel)) (hts (.code objectInit ⟨#[0xb1]⟩ 1 none) (by decide +kernel)) rfl (by rw [hml]; exact hl.1) rfl dX10_init_1 (Nat.le_of_ble_eq_true rfl) (Nat.le_of_ble_eq_true rfl) ?_
  refine W.eq (g2 := F0 m 4 ls []) rfl ?_
  refine lv_aload_n hx hb dX10_init_4 rfl (lv_at hl 0 rfl) ?_
  refine lv_sipush (v := 200) hx hb dX10_init_5 (by decide +kernel) ?_
  refine va_newa (atype := .int) hx hb (hts (.arrayClass .int) (by decide +kernel)) (ty := .int) rfl hK hP hD hS hA (N' := 200) (a0 := (200, .inl (fun _ => 0))) (fun _ => rfl) (by decide) (by decide) (by decide) (Nat.le_of_ble_eq_true rfl) (Nat.le_of_ble_eq_true rfl) dX10_init_8 (fun qa1 cqa1 H hK2 hP2 hD2 hS => ?_)
  obtain rfl : cqa1 = cy 2 := cls_int hK hK2
  have hqa1 : qa1 ∉ S.L := nw_q hD2
  have e9 := wNw (cy := cy) (X := X) (S := S) (a := qa1) (k := 17) (z := 200) (f := fun _ => 0) (g := fun _ => none) hqa1 rfl
  obtain ⟨S2, hS2⟩ : ∃ z, S.nw qa1 17 200 (fun _ => 0) (fun _ => none) = z := ⟨_, rfl⟩
  have hP : va_P D vwCl (X ++ PL cy S2) H := by rw [← hS2, ← e9]; exact hP2
  have hD : va_D A (X ++ PL cy S2) := by rw [← hS2, ← e9]; exact hD2
  have xe3 : ext S S2 := by rw [← hS2]; exact ext.nw hqa1
  have t4 : stp ([] : List (Nat × Nat)) [o1] (o1 :: R) S S2 := by rw [← hS2]; exact t0.nwA hqa1 (by decide)
  refine W.widen (k := 1) (n := 200) (Nat.le_of_ble_eq_true rfl) (Nat.le_of_ble_eq_true rfl) ?_
  have aqa1 : isA S2 qa1 17 := by rw [← hS2]; exact nw_A (by decide)
  have nqa1 : S2.n qa1 = 200 := by rw [← hS2]; exact nw_n
  obtain ⟨k5, gk5, hk5⟩ := wGt (cy := cy) X S2 (xe3.A h_o1).1 (xe3.A h_o1).2.1
  refine va_putF (D := D) (ci := 14) (v := .ref qa1) (ty := (tyX10 5)) (C := RX10) (T := TX10) (N := 23) hx hb hts (by decide +kernel) tyX10 tyX10_ok nmX10 hown hK hP hD hS k5 hk5 rfl 5 (by decide) (hts (.fieldLink RX10 9 "HobhouseModel$Gear" "errors" "[I") (by decide +kernel)) (fun _ h9 => h9) rfl hin rfl (by decide +kernel) (rfl) (rfl) (Nat.le_of_ble_eq_true rfl) dX10_init_10 (fun H locs hP2 hD2 hS => ?_)
  have e9 := wPuF (cy := cy) (j := 5) (v := (some qa1)) hD (xe3.A h_o1).1 (xe3.A h_o1).2.1 gk5 rfl
  obtain ⟨S6, hS6⟩ : ∃ z, S2.sF o1 5 (some qa1) = z := ⟨_, rfl⟩
  have hP : va_P D vwCl (X ++ PL cy S6) H := by rw [← hS6, ← e9]; exact hP2
  have hD : va_D A (X ++ PL cy S6) := by rw [← hS6, ← e9]; exact hD2
  have xe7 : ext S2 S6 := by rw [← hS6]; exact ext.sF (by rw [← hS2, nw_Fo hqa1 h_o1.1]; exact hF0 5)
  have t8 : stp ([] : List (Nat × Nat)) [o1] (o1 :: R) S S6 := by rw [← hS6]; exact t4.F 5 qa1 List.mem_cons_self (Or.inl List.mem_cons_self) (by rw [← hS2, nw_Fo hqa1 h_o1.1]; exact hF0 5)
  have F9 : S6.F o1 5 = some qa1 := by rw [← hS6]; exact sF_eq
  refine lv_aload_n hx hb dX10_init_13 rfl (lv_at hl 0 rfl) ?_
  refine lv_bipush (v := 8) hx hb dX10_init_14 (by decide +kernel) ?_
  refine va_newa (atype := .char) hx hb (hts (.arrayClass .char) (by decide +kernel)) (ty := .char) rfl hK hP hD hS hA (N' := 8) (a0 := (8, .inl (fun _ => 0))) (fun _ => rfl) (by decide) (by decide) (by decide) (Nat.le_of_ble_eq_true rfl) (Nat.le_of_ble_eq_true rfl) dX10_init_16 (fun qa10 cqa10 H hK2 hP2 hD2 hS => ?_)
  obtain rfl : cqa10 = cy 1 := cls_char hK hK2
  have hqa10 : qa10 ∉ S6.L := nw_q hD2
  have e9 := wNw (cy := cy) (X := X) (S := S6) (a := qa10) (k := 16) (z := 8) (f := fun _ => 0) (g := fun _ => none) hqa10 rfl
  obtain ⟨S11, hS11⟩ : ∃ z, S6.nw qa10 16 8 (fun _ => 0) (fun _ => none) = z := ⟨_, rfl⟩
  have hP : va_P D vwCl (X ++ PL cy S11) H := by rw [← hS11, ← e9]; exact hP2
  have hD : va_D A (X ++ PL cy S11) := by rw [← hS11, ← e9]; exact hD2
  have xe12 : ext S6 S11 := by rw [← hS11]; exact ext.nw hqa10
  have t13 : stp ([] : List (Nat × Nat)) [o1] (o1 :: R) S S11 := by rw [← hS11]; exact t8.nwA hqa10 (by decide)
  refine W.widen (k := 2) (n := 208) (Nat.le_of_ble_eq_true rfl) (Nat.le_of_ble_eq_true rfl) ?_
  have aqa10 : isA S11 qa10 16 := by rw [← hS11]; exact nw_A (by decide)
  have nqa10 : S11.n qa10 = 8 := by rw [← hS11]; exact nw_n
  obtain ⟨k14, gk14, hk14⟩ := wGt (cy := cy) X S11 ((xe7.tr xe12).A (xe3.A h_o1)).1 ((xe7.tr xe12).A (xe3.A h_o1)).2.1
  refine va_putF (D := D) (ci := 14) (v := .ref qa10) (ty := (tyX10 6)) (C := RX10) (T := TX10) (N := 23) hx hb hts (by decide +kernel) tyX10 tyX10_ok nmX10 hown hK hP hD hS k14 hk14 rfl 6 (by decide) (hts (.fieldLink RX10 15 "HobhouseModel$Gear" "route" "[C") (by decide +kernel)) (fun _ h9 => h9) rfl hin rfl (by decide +kernel) (rfl) (rfl) (Nat.le_of_ble_eq_true rfl) dX10_init_18 (fun H locs hP2 hD2 hS => ?_)
  have e9 := wPuF (cy := cy) (j := 6) (v := (some qa10)) hD ((xe7.tr xe12).A (xe3.A h_o1)).1 ((xe7.tr xe12).A (xe3.A h_o1)).2.1 gk14 rfl
  obtain ⟨S15, hS15⟩ : ∃ z, S11.sF o1 6 (some qa10) = z := ⟨_, rfl⟩
  have hP : va_P D vwCl (X ++ PL cy S15) H := by rw [← hS15, ← e9]; exact hP2
  have hD : va_D A (X ++ PL cy S15) := by rw [← hS15, ← e9]; exact hD2
  have xe16 : ext S11 S15 := by rw [← hS15]; exact ext.sF (by rw [← hS11, nw_Fo hqa10 ((xe3.tr xe7).A h_o1).1]; rw [← hS6, sF_ne (fun q9 => absurd q9.2 (by decide))]; rw [← hS2, nw_Fo hqa1 h_o1.1]; exact hF0 6)
  have t17 : stp ([] : List (Nat × Nat)) [o1] (o1 :: R) S S15 := by rw [← hS15]; exact t13.F 6 qa10 List.mem_cons_self (Or.inl List.mem_cons_self) (by rw [← hS11, nw_Fo hqa10 ((xe3.tr xe7).A h_o1).1]; rw [← hS6, sF_ne (fun q9 => absurd q9.2 (by decide))]; rw [← hS2, nw_Fo hqa1 h_o1.1]; exact hF0 6)
  have F18 : S15.F o1 6 = some qa10 := by rw [← hS15]; exact sF_eq
  refine lv_aload_n hx hb dX10_init_21 rfl (lv_at hl 0 rfl) ?_
  refine lv_iconst (v := -1) hx hb dX10_init_22 (by decide) ?_
  obtain ⟨k19, gk19, hk19⟩ := wGt (cy := cy) X S15 (xe16.A ((xe7.tr xe12).A (xe3.A h_o1))).1 (xe16.A ((xe7.tr xe12).A (xe3.A h_o1))).2.1
  refine va_put (D := D) (ci := 14) (v := .int (-1 : Int32)) (ty := .int) (C := RX10) (T := TX10) (N := 23) hx hb hts (by decide +kernel) tyX10 tyX10_ok nmX10 hown hK hP hD hS k19 hk19 rfl 8 (by decide) (hts (.fieldLink RX10 19 "HobhouseModel$Gear" "room" "I") (by decide +kernel)) (fun _ h9 => h9) rfl (by decide +kernel) (rfl) (rfl) (Nat.le_of_ble_eq_true rfl) dX10_init_23 (fun H locs hP2 hD2 hS => ?_)
  have e9 := wPuI (cy := cy) (j := 8) (v := (-1 : Int32)) hD (xe16.A ((xe7.tr xe12).A (xe3.A h_o1))).1 (xe16.A ((xe7.tr xe12).A (xe3.A h_o1))).2.1 gk19 rfl
  obtain ⟨S20, hS20⟩ : ∃ z, S15.sI o1 8 (-1 : Int32) = z := ⟨_, rfl⟩
  have hP : va_P D vwCl (X ++ PL cy S20) H := by rw [← hS20, ← e9]; exact hP2
  have hD : va_D A (X ++ PL cy S20) := by rw [← hS20, ← e9]; exact hD2
  have xe21 : ext S15 S20 := by rw [← hS20]; exact ext.sI _ _ _ _
  have t22 : stp ([] : List (Nat × Nat)) [o1] (o1 :: R) S S20 := by rw [← hS20]; exact t17.Ir 8 (-1 : Int32) List.mem_cons_self (Or.inl List.mem_cons_self)
  refine lv_aload_n hx hb dX10_init_26 rfl (lv_at hl 0 rfl) ?_
  refine lv_iconst (v := -1) hx hb dX10_init_27 (by decide) ?_
  obtain ⟨k23, gk23, hk23⟩ := wGt (cy := cy) X S20 (xe21.A (xe16.A ((xe7.tr xe12).A (xe3.A h_o1)))).1 (xe21.A (xe16.A ((xe7.tr xe12).A (xe3.A h_o1)))).2.1
  refine va_put (D := D) (ci := 14) (v := .int (-1 : Int32)) (ty := .int) (C := RX10) (T := TX10) (N := 23) hx hb hts (by decide +kernel) tyX10 tyX10_ok nmX10 hown hK hP hD hS k23 hk23 rfl 16 (by decide) (hts (.fieldLink RX10 23 "HobhouseModel$Gear" "mate" "I") (by decide +kernel)) (fun _ h9 => h9) rfl (by decide +kernel) (rfl) (rfl) (Nat.le_of_ble_eq_true rfl) dX10_init_28 (fun H locs hP2 hD2 hS => ?_)
  have e9 := wPuI (cy := cy) (j := 16) (v := (-1 : Int32)) hD (xe21.A (xe16.A ((xe7.tr xe12).A (xe3.A h_o1)))).1 (xe21.A (xe16.A ((xe7.tr xe12).A (xe3.A h_o1)))).2.1 gk23 rfl
  obtain ⟨S24, hS24⟩ : ∃ z, S20.sI o1 16 (-1 : Int32) = z := ⟨_, rfl⟩
  have hP : va_P D vwCl (X ++ PL cy S24) H := by rw [← hS24, ← e9]; exact hP2
  have hD : va_D A (X ++ PL cy S24) := by rw [← hS24, ← e9]; exact hD2
  have xe25 : ext S20 S24 := by rw [← hS24]; exact ext.sI _ _ _ _
  have t26 : stp ([] : List (Nat × Nat)) [o1] (o1 :: R) S S24 := by rw [← hS24]; exact t22.Ir 16 (-1 : Int32) List.mem_cons_self (Or.inl List.mem_cons_self)
  refine lv_aload_n hx hb dX10_init_31 rfl (lv_at hl 0 rfl) ?_
  refine lv_iload_n hx hb dX10_init_32 rfl (lv_at hl 1 rfl) ?_
  obtain ⟨k27, gk27, hk27⟩ := wGt (cy := cy) X S24 (xe25.A (xe21.A (xe16.A ((xe7.tr xe12).A (xe3.A h_o1))))).1 (xe25.A (xe21.A (xe16.A ((xe7.tr xe12).A (xe3.A h_o1))))).2.1
  refine va_putF (D := D) (ci := 14) (v := .int x1) (ty := .int) (C := RX10) (T := TX10) (N := 23) hx hb hts (by decide +kernel) tyX10 tyX10_ok nmX10 hown hK hP hD hS k27 hk27 rfl 0 (by decide) (hts (.fieldLink RX10 26 "HobhouseModel$Gear" "number" "I") (by decide +kernel)) (fun _ h9 => h9) rfl hin rfl (by decide +kernel) (rfl) (rfl) (Nat.le_of_ble_eq_true rfl) dX10_init_33 (fun H locs hP2 hD2 hS => ?_)
  have e9 := wPuI (cy := cy) (j := 0) (v := x1) hD (xe25.A (xe21.A (xe16.A ((xe7.tr xe12).A (xe3.A h_o1))))).1 (xe25.A (xe21.A (xe16.A ((xe7.tr xe12).A (xe3.A h_o1))))).2.1 gk27 rfl
  obtain ⟨S28, hS28⟩ : ∃ z, S24.sI o1 0 x1 = z := ⟨_, rfl⟩
  have hP : va_P D vwCl (X ++ PL cy S28) H := by rw [← hS28, ← e9]; exact hP2
  have hD : va_D A (X ++ PL cy S28) := by rw [← hS28, ← e9]; exact hD2
  have xe29 : ext S24 S28 := by rw [← hS28]; exact ext.sI _ _ _ _
  have t30 : stp ([] : List (Nat × Nat)) [o1] (o1 :: R) S S28 := by rw [← hS28]; exact t26.Ir 0 x1 List.mem_cons_self (Or.inl List.mem_cons_self)
  refine lv_aload_n hx hb dX10_init_36 rfl (lv_at hl 0 rfl) ?_
  refine lv_iload_n hx hb dX10_init_37 rfl (lv_at hl 2 rfl) ?_
  have o32 : isA S28 o1 10 := (xe29.A (xe25.A (xe21.A (xe16.A ((xe7.tr xe12).A (xe3.A h_o1))))))
  obtain ⟨k31, gk31, hk31⟩ := wGt (cy := cy) X S28 o32.1 o32.2.1
  refine va_putF (D := D) (ci := 14) (v := .int x2) (ty := .int) (C := RX10) (T := TX10) (N := 23) hx hb hts (by decide +kernel) tyX10 tyX10_ok nmX10 hown hK hP hD hS k31 hk31 rfl 1 (by decide) (hts (.fieldLink RX10 29 "HobhouseModel$Gear" "teeth" "I") (by decide +kernel)) (fun _ h9 => h9) rfl hin rfl (by decide +kernel) (rfl) (rfl) (Nat.le_of_ble_eq_true rfl) dX10_init_38 (fun H locs hP2 hD2 hS => ?_)
  have e9 := wPuI (cy := cy) (j := 1) (v := x2) hD o32.1 o32.2.1 gk31 rfl
  obtain ⟨S33, hS33⟩ : ∃ z, S28.sI o1 1 x2 = z := ⟨_, rfl⟩
  have hP : va_P D vwCl (X ++ PL cy S33) H := by rw [← hS33, ← e9]; exact hP2
  have hD : va_D A (X ++ PL cy S33) := by rw [← hS33, ← e9]; exact hD2
  have xe34 : ext S28 S33 := by rw [← hS33]; exact ext.sI _ _ _ _
  have t35 : stp ([] : List (Nat × Nat)) [o1] (o1 :: R) S S33 := by rw [← hS33]; exact t30.Ir 1 x2 List.mem_cons_self (Or.inl List.mem_cons_self)
  refine lv_aload_n hx hb dX10_init_41 rfl (lv_at hl 0 rfl) ?_
  refine lv_iload_n hx hb dX10_init_42 rfl (lv_at hl 3 rfl) ?_
  obtain ⟨k36, gk36, hk36⟩ := wGt (cy := cy) X S33 (xe34.A o32).1 (xe34.A o32).2.1
  refine va_putF (D := D) (ci := 14) (v := .int x3) (ty := .int) (C := RX10) (T := TX10) (N := 23) hx hb hts (by decide +kernel) tyX10 tyX10_ok nmX10 hown hK hP hD hS k36 hk36 rfl 2 (by decide) (hts (.fieldLink RX10 32 "HobhouseModel$Gear" "module" "I") (by decide +kernel)) (fun _ h9 => h9) rfl hin rfl (by decide +kernel) (rfl) (rfl) (Nat.le_of_ble_eq_true rfl) dX10_init_43 (fun H locs hP2 hD2 hS => ?_)
  have e9 := wPuI (cy := cy) (j := 2) (v := x3) hD (xe34.A o32).1 (xe34.A o32).2.1 gk36 rfl
  obtain ⟨S37, hS37⟩ : ∃ z, S33.sI o1 2 x3 = z := ⟨_, rfl⟩
  have hP : va_P D vwCl (X ++ PL cy S37) H := by rw [← hS37, ← e9]; exact hP2
  have hD : va_D A (X ++ PL cy S37) := by rw [← hS37, ← e9]; exact hD2
  have xe38 : ext S33 S37 := by rw [← hS37]; exact ext.sI _ _ _ _
  have t39 : stp ([] : List (Nat × Nat)) [o1] (o1 :: R) S S37 := by rw [← hS37]; exact t35.Ir 2 x3 List.mem_cons_self (Or.inl List.mem_cons_self)
  refine lv_aload_n hx hb dX10_init_46 rfl (lv_at hl 0 rfl) ?_
  refine lv_iload hx hb dX10_init_47 (lv_at hl 4 rfl) ?_
  obtain ⟨k40, gk40, hk40⟩ := wGt (cy := cy) X S37 (xe38.A (xe34.A o32)).1 (xe38.A (xe34.A o32)).2.1
  refine va_putF (D := D) (ci := 14) (v := .int x4) (ty := .int) (C := RX10) (T := TX10) (N := 23) hx hb hts (by decide +kernel) tyX10 tyX10_ok nmX10 hown hK hP hD hS k40 hk40 rfl 3 (by decide) (hts (.fieldLink RX10 35 "HobhouseModel$Gear" "helix" "I") (by decide +kernel)) (fun _ h9 => h9) rfl hin rfl (by decide +kernel) (rfl) (rfl) (Nat.le_of_ble_eq_true rfl) dX10_init_49 (fun H locs hP2 hD2 hS => ?_)
  have e9 := wPuI (cy := cy) (j := 3) (v := x4) hD (xe38.A (xe34.A o32)).1 (xe38.A (xe34.A o32)).2.1 gk40 rfl
  obtain ⟨S41, hS41⟩ : ∃ z, S37.sI o1 3 x4 = z := ⟨_, rfl⟩
  have hP : va_P D vwCl (X ++ PL cy S41) H := by rw [← hS41, ← e9]; exact hP2
  have hD : va_D A (X ++ PL cy S41) := by rw [← hS41, ← e9]; exact hD2
  have xe42 : ext S37 S41 := by rw [← hS41]; exact ext.sI _ _ _ _
  have t43 : stp ([] : List (Nat × Nat)) [o1] (o1 :: R) S S41 := by rw [← hS41]; exact t39.Ir 3 x4 List.mem_cons_self (Or.inl List.mem_cons_self)
  refine lv_aload_n hx hb dX10_init_52 rfl (lv_at hl 0 rfl) ?_
  refine lv_iload hx hb dX10_init_53 (lv_at hl 5 rfl) ?_
  obtain ⟨k44, gk44, hk44⟩ := wGt (cy := cy) X S41 (xe42.A (xe38.A (xe34.A o32))).1 (xe42.A (xe38.A (xe34.A o32))).2.1
  refine va_putF (D := D) (ci := 14) (v := .int x5) (ty := .int) (C := RX10) (T := TX10) (N := 23) hx hb hts (by decide +kernel) tyX10 tyX10_ok nmX10 hown hK hP hD hS k44 hk44 rfl 4 (by decide) (hts (.fieldLink RX10 38 "HobhouseModel$Gear" "width" "I") (by decide +kernel)) (fun _ h9 => h9) rfl hin rfl (by decide +kernel) (rfl) (rfl) (Nat.le_of_ble_eq_true rfl) dX10_init_55 (fun H locs hP2 hD2 hS => ?_)
  have e9 := wPuI (cy := cy) (j := 4) (v := x5) hD (xe42.A (xe38.A (xe34.A o32))).1 (xe42.A (xe38.A (xe34.A o32))).2.1 gk44 rfl
  obtain ⟨S45, hS45⟩ : ∃ z, S41.sI o1 4 x5 = z := ⟨_, rfl⟩
  have hP : va_P D vwCl (X ++ PL cy S45) H := by rw [← hS45, ← e9]; exact hP2
  have hD : va_D A (X ++ PL cy S45) := by rw [← hS45, ← e9]; exact hD2
  have xe46 : ext S41 S45 := by rw [← hS45]; exact ext.sI _ _ _ _
  have t47 : stp ([] : List (Nat × Nat)) [o1] (o1 :: R) S S45 := by rw [← hS45]; exact t43.Ir 4 x5 List.mem_cons_self (Or.inl List.mem_cons_self)
  have oo : isA S45 o1 10 := (xe46.A (xe42.A (xe38.A (xe34.A o32))))
  have I0 : S45.I o1 0 = x1 := (by rw [← hS45, sI_I (by rintro ⟨e1, e2⟩; exact absurd e2 (by decide))]; rw [← hS41, sI_I (by rintro ⟨e1, e2⟩; exact absurd e2 (by decide))]; rw [← hS37, sI_I (by rintro ⟨e1, e2⟩; exact absurd e2 (by decide))]; rw [← hS33, sI_I (by rintro ⟨e1, e2⟩; exact absurd e2 (by decide))]; rw [← hS28, sI_eq])
  have I1 : S45.I o1 1 = x2 := (by rw [← hS45, sI_I (by rintro ⟨e1, e2⟩; exact absurd e2 (by decide))]; rw [← hS41, sI_I (by rintro ⟨e1, e2⟩; exact absurd e2 (by decide))]; rw [← hS37, sI_I (by rintro ⟨e1, e2⟩; exact absurd e2 (by decide))]; rw [← hS33, sI_eq])
  have I2 : S45.I o1 2 = x3 := (by rw [← hS45, sI_I (by rintro ⟨e1, e2⟩; exact absurd e2 (by decide))]; rw [← hS41, sI_I (by rintro ⟨e1, e2⟩; exact absurd e2 (by decide))]; rw [← hS37, sI_eq])
  have I3 : S45.I o1 3 = x4 := (by rw [← hS45, sI_I (by rintro ⟨e1, e2⟩; exact absurd e2 (by decide))]; rw [← hS41, sI_eq])
  have I4 : S45.I o1 4 = x5 := (by rw [← hS45, sI_eq])
  have I7 : S45.I o1 7 = (0 : Int32) := (by rw [← hS45, sI_I (by rintro ⟨e1, e2⟩; exact absurd e2 (by decide))]; rw [← hS41, sI_I (by rintro ⟨e1, e2⟩; exact absurd e2 (by decide))]; rw [← hS37, sI_I (by rintro ⟨e1, e2⟩; exact absurd e2 (by decide))]; rw [← hS33, sI_I (by rintro ⟨e1, e2⟩; exact absurd e2 (by decide))]; rw [← hS28, sI_I (by rintro ⟨e1, e2⟩; exact absurd e2 (by decide))]; rw [← hS24, sI_I (by rintro ⟨e1, e2⟩; exact absurd e2 (by decide))]; rw [← hS20, sI_I (by rintro ⟨e1, e2⟩; exact absurd e2 (by decide))]; rw [← hS15]; show S11.I o1 7 = _; rw [← hS11, nw_Io hqa10 ((xe3.tr xe7).A h_o1).1]; rw [← hS6]; show S2.I o1 7 = _; rw [← hS2, nw_Io hqa1 h_o1.1]; exact hI0 7)
  have I8 : S45.I o1 8 = (-1 : Int32) := (by rw [← hS45, sI_I (by rintro ⟨e1, e2⟩; exact absurd e2 (by decide))]; rw [← hS41, sI_I (by rintro ⟨e1, e2⟩; exact absurd e2 (by decide))]; rw [← hS37, sI_I (by rintro ⟨e1, e2⟩; exact absurd e2 (by decide))]; rw [← hS33, sI_I (by rintro ⟨e1, e2⟩; exact absurd e2 (by decide))]; rw [← hS28, sI_I (by rintro ⟨e1, e2⟩; exact absurd e2 (by decide))]; rw [← hS24, sI_I (by rintro ⟨e1, e2⟩; exact absurd e2 (by decide))]; rw [← hS20, sI_eq])
  have I9 : S45.I o1 9 = (0 : Int32) := (by rw [← hS45, sI_I (by rintro ⟨e1, e2⟩; exact absurd e2 (by decide))]; rw [← hS41, sI_I (by rintro ⟨e1, e2⟩; exact absurd e2 (by decide))]; rw [← hS37, sI_I (by rintro ⟨e1, e2⟩; exact absurd e2 (by decide))]; rw [← hS33, sI_I (by rintro ⟨e1, e2⟩; exact absurd e2 (by decide))]; rw [← hS28, sI_I (by rintro ⟨e1, e2⟩; exact absurd e2 (by decide))]; rw [← hS24, sI_I (by rintro ⟨e1, e2⟩; exact absurd e2 (by decide))]; rw [← hS20, sI_I (by rintro ⟨e1, e2⟩; exact absurd e2 (by decide))]; rw [← hS15]; show S11.I o1 9 = _; rw [← hS11, nw_Io hqa10 ((xe3.tr xe7).A h_o1).1]; rw [← hS6]; show S2.I o1 9 = _; rw [← hS2, nw_Io hqa1 h_o1.1]; exact hI0 9)
  have I10 : S45.I o1 10 = (0 : Int32) := (by rw [← hS45, sI_I (by rintro ⟨e1, e2⟩; exact absurd e2 (by decide))]; rw [← hS41, sI_I (by rintro ⟨e1, e2⟩; exact absurd e2 (by decide))]; rw [← hS37, sI_I (by rintro ⟨e1, e2⟩; exact absurd e2 (by decide))]; rw [← hS33, sI_I (by rintro ⟨e1, e2⟩; exact absurd e2 (by decide))]; rw [← hS28, sI_I (by rintro ⟨e1, e2⟩; exact absurd e2 (by decide))]; rw [← hS24, sI_I (by rintro ⟨e1, e2⟩; exact absurd e2 (by decide))]; rw [← hS20, sI_I (by rintro ⟨e1, e2⟩; exact absurd e2 (by decide))]; rw [← hS15]; show S11.I o1 10 = _; rw [← hS11, nw_Io hqa10 ((xe3.tr xe7).A h_o1).1]; rw [← hS6]; show S2.I o1 10 = _; rw [← hS2, nw_Io hqa1 h_o1.1]; exact hI0 10)
  have I11 : S45.I o1 11 = (0 : Int32) := (by rw [← hS45, sI_I (by rintro ⟨e1, e2⟩; exact absurd e2 (by decide))]; rw [← hS41, sI_I (by rintro ⟨e1, e2⟩; exact absurd e2 (by decide))]; rw [← hS37, sI_I (by rintro ⟨e1, e2⟩; exact absurd e2 (by decide))]; rw [← hS33, sI_I (by rintro ⟨e1, e2⟩; exact absurd e2 (by decide))]; rw [← hS28, sI_I (by rintro ⟨e1, e2⟩; exact absurd e2 (by decide))]; rw [← hS24, sI_I (by rintro ⟨e1, e2⟩; exact absurd e2 (by decide))]; rw [← hS20, sI_I (by rintro ⟨e1, e2⟩; exact absurd e2 (by decide))]; rw [← hS15]; show S11.I o1 11 = _; rw [← hS11, nw_Io hqa10 ((xe3.tr xe7).A h_o1).1]; rw [← hS6]; show S2.I o1 11 = _; rw [← hS2, nw_Io hqa1 h_o1.1]; exact hI0 11)
  have I12 : S45.I o1 12 = (0 : Int32) := (by rw [← hS45, sI_I (by rintro ⟨e1, e2⟩; exact absurd e2 (by decide))]; rw [← hS41, sI_I (by rintro ⟨e1, e2⟩; exact absurd e2 (by decide))]; rw [← hS37, sI_I (by rintro ⟨e1, e2⟩; exact absurd e2 (by decide))]; rw [← hS33, sI_I (by rintro ⟨e1, e2⟩; exact absurd e2 (by decide))]; rw [← hS28, sI_I (by rintro ⟨e1, e2⟩; exact absurd e2 (by decide))]; rw [← hS24, sI_I (by rintro ⟨e1, e2⟩; exact absurd e2 (by decide))]; rw [← hS20, sI_I (by rintro ⟨e1, e2⟩; exact absurd e2 (by decide))]; rw [← hS15]; show S11.I o1 12 = _; rw [← hS11, nw_Io hqa10 ((xe3.tr xe7).A h_o1).1]; rw [← hS6]; show S2.I o1 12 = _; rw [← hS2, nw_Io hqa1 h_o1.1]; exact hI0 12)
  have I13 : S45.I o1 13 = (0 : Int32) := (by rw [← hS45, sI_I (by rintro ⟨e1, e2⟩; exact absurd e2 (by decide))]; rw [← hS41, sI_I (by rintro ⟨e1, e2⟩; exact absurd e2 (by decide))]; rw [← hS37, sI_I (by rintro ⟨e1, e2⟩; exact absurd e2 (by decide))]; rw [← hS33, sI_I (by rintro ⟨e1, e2⟩; exact absurd e2 (by decide))]; rw [← hS28, sI_I (by rintro ⟨e1, e2⟩; exact absurd e2 (by decide))]; rw [← hS24, sI_I (by rintro ⟨e1, e2⟩; exact absurd e2 (by decide))]; rw [← hS20, sI_I (by rintro ⟨e1, e2⟩; exact absurd e2 (by decide))]; rw [← hS15]; show S11.I o1 13 = _; rw [← hS11, nw_Io hqa10 ((xe3.tr xe7).A h_o1).1]; rw [← hS6]; show S2.I o1 13 = _; rw [← hS2, nw_Io hqa1 h_o1.1]; exact hI0 13)
  have I14 : S45.I o1 14 = (0 : Int32) := (by rw [← hS45, sI_I (by rintro ⟨e1, e2⟩; exact absurd e2 (by decide))]; rw [← hS41, sI_I (by rintro ⟨e1, e2⟩; exact absurd e2 (by decide))]; rw [← hS37, sI_I (by rintro ⟨e1, e2⟩; exact absurd e2 (by decide))]; rw [← hS33, sI_I (by rintro ⟨e1, e2⟩; exact absurd e2 (by decide))]; rw [← hS28, sI_I (by rintro ⟨e1, e2⟩; exact absurd e2 (by decide))]; rw [← hS24, sI_I (by rintro ⟨e1, e2⟩; exact absurd e2 (by decide))]; rw [← hS20, sI_I (by rintro ⟨e1, e2⟩; exact absurd e2 (by decide))]; rw [← hS15]; show S11.I o1 14 = _; rw [← hS11, nw_Io hqa10 ((xe3.tr xe7).A h_o1).1]; rw [← hS6]; show S2.I o1 14 = _; rw [← hS2, nw_Io hqa1 h_o1.1]; exact hI0 14)
  have I15 : S45.I o1 15 = (0 : Int32) := (by rw [← hS45, sI_I (by rintro ⟨e1, e2⟩; exact absurd e2 (by decide))]; rw [← hS41, sI_I (by rintro ⟨e1, e2⟩; exact absurd e2 (by decide))]; rw [← hS37, sI_I (by rintro ⟨e1, e2⟩; exact absurd e2 (by decide))]; rw [← hS33, sI_I (by rintro ⟨e1, e2⟩; exact absurd e2 (by decide))]; rw [← hS28, sI_I (by rintro ⟨e1, e2⟩; exact absurd e2 (by decide))]; rw [← hS24, sI_I (by rintro ⟨e1, e2⟩; exact absurd e2 (by decide))]; rw [← hS20, sI_I (by rintro ⟨e1, e2⟩; exact absurd e2 (by decide))]; rw [← hS15]; show S11.I o1 15 = _; rw [← hS11, nw_Io hqa10 ((xe3.tr xe7).A h_o1).1]; rw [← hS6]; show S2.I o1 15 = _; rw [← hS2, nw_Io hqa1 h_o1.1]; exact hI0 15)
  have I16 : S45.I o1 16 = (-1 : Int32) := (by rw [← hS45, sI_I (by rintro ⟨e1, e2⟩; exact absurd e2 (by decide))]; rw [← hS41, sI_I (by rintro ⟨e1, e2⟩; exact absurd e2 (by decide))]; rw [← hS37, sI_I (by rintro ⟨e1, e2⟩; exact absurd e2 (by decide))]; rw [← hS33, sI_I (by rintro ⟨e1, e2⟩; exact absurd e2 (by decide))]; rw [← hS28, sI_I (by rintro ⟨e1, e2⟩; exact absurd e2 (by decide))]; rw [← hS24, sI_eq])
  have I17 : S45.I o1 17 = (0 : Int32) := (by rw [← hS45, sI_I (by rintro ⟨e1, e2⟩; exact absurd e2 (by decide))]; rw [← hS41, sI_I (by rintro ⟨e1, e2⟩; exact absurd e2 (by decide))]; rw [← hS37, sI_I (by rintro ⟨e1, e2⟩; exact absurd e2 (by decide))]; rw [← hS33, sI_I (by rintro ⟨e1, e2⟩; exact absurd e2 (by decide))]; rw [← hS28, sI_I (by rintro ⟨e1, e2⟩; exact absurd e2 (by decide))]; rw [← hS24, sI_I (by rintro ⟨e1, e2⟩; exact absurd e2 (by decide))]; rw [← hS20, sI_I (by rintro ⟨e1, e2⟩; exact absurd e2 (by decide))]; rw [← hS15]; show S11.I o1 17 = _; rw [← hS11, nw_Io hqa10 ((xe3.tr xe7).A h_o1).1]; rw [← hS6]; show S2.I o1 17 = _; rw [← hS2, nw_Io hqa1 h_o1.1]; exact hI0 17)
  have I18 : S45.I o1 18 = (0 : Int32) := (by rw [← hS45, sI_I (by rintro ⟨e1, e2⟩; exact absurd e2 (by decide))]; rw [← hS41, sI_I (by rintro ⟨e1, e2⟩; exact absurd e2 (by decide))]; rw [← hS37, sI_I (by rintro ⟨e1, e2⟩; exact absurd e2 (by decide))]; rw [← hS33, sI_I (by rintro ⟨e1, e2⟩; exact absurd e2 (by decide))]; rw [← hS28, sI_I (by rintro ⟨e1, e2⟩; exact absurd e2 (by decide))]; rw [← hS24, sI_I (by rintro ⟨e1, e2⟩; exact absurd e2 (by decide))]; rw [← hS20, sI_I (by rintro ⟨e1, e2⟩; exact absurd e2 (by decide))]; rw [← hS15]; show S11.I o1 18 = _; rw [← hS11, nw_Io hqa10 ((xe3.tr xe7).A h_o1).1]; rw [← hS6]; show S2.I o1 18 = _; rw [← hS2, nw_Io hqa1 h_o1.1]; exact hI0 18)
  have I19 : S45.I o1 19 = (0 : Int32) := (by rw [← hS45, sI_I (by rintro ⟨e1, e2⟩; exact absurd e2 (by decide))]; rw [← hS41, sI_I (by rintro ⟨e1, e2⟩; exact absurd e2 (by decide))]; rw [← hS37, sI_I (by rintro ⟨e1, e2⟩; exact absurd e2 (by decide))]; rw [← hS33, sI_I (by rintro ⟨e1, e2⟩; exact absurd e2 (by decide))]; rw [← hS28, sI_I (by rintro ⟨e1, e2⟩; exact absurd e2 (by decide))]; rw [← hS24, sI_I (by rintro ⟨e1, e2⟩; exact absurd e2 (by decide))]; rw [← hS20, sI_I (by rintro ⟨e1, e2⟩; exact absurd e2 (by decide))]; rw [← hS15]; show S11.I o1 19 = _; rw [← hS11, nw_Io hqa10 ((xe3.tr xe7).A h_o1).1]; rw [← hS6]; show S2.I o1 19 = _; rw [← hS2, nw_Io hqa1 h_o1.1]; exact hI0 19)
  have I20 : S45.I o1 20 = (0 : Int32) := (by rw [← hS45, sI_I (by rintro ⟨e1, e2⟩; exact absurd e2 (by decide))]; rw [← hS41, sI_I (by rintro ⟨e1, e2⟩; exact absurd e2 (by decide))]; rw [← hS37, sI_I (by rintro ⟨e1, e2⟩; exact absurd e2 (by decide))]; rw [← hS33, sI_I (by rintro ⟨e1, e2⟩; exact absurd e2 (by decide))]; rw [← hS28, sI_I (by rintro ⟨e1, e2⟩; exact absurd e2 (by decide))]; rw [← hS24, sI_I (by rintro ⟨e1, e2⟩; exact absurd e2 (by decide))]; rw [← hS20, sI_I (by rintro ⟨e1, e2⟩; exact absurd e2 (by decide))]; rw [← hS15]; show S11.I o1 20 = _; rw [← hS11, nw_Io hqa10 ((xe3.tr xe7).A h_o1).1]; rw [← hS6]; show S2.I o1 20 = _; rw [← hS2, nw_Io hqa1 h_o1.1]; exact hI0 20)
  have I21 : S45.I o1 21 = (0 : Int32) := (by rw [← hS45, sI_I (by rintro ⟨e1, e2⟩; exact absurd e2 (by decide))]; rw [← hS41, sI_I (by rintro ⟨e1, e2⟩; exact absurd e2 (by decide))]; rw [← hS37, sI_I (by rintro ⟨e1, e2⟩; exact absurd e2 (by decide))]; rw [← hS33, sI_I (by rintro ⟨e1, e2⟩; exact absurd e2 (by decide))]; rw [← hS28, sI_I (by rintro ⟨e1, e2⟩; exact absurd e2 (by decide))]; rw [← hS24, sI_I (by rintro ⟨e1, e2⟩; exact absurd e2 (by decide))]; rw [← hS20, sI_I (by rintro ⟨e1, e2⟩; exact absurd e2 (by decide))]; rw [← hS15]; show S11.I o1 21 = _; rw [← hS11, nw_Io hqa10 ((xe3.tr xe7).A h_o1).1]; rw [← hS6]; show S2.I o1 21 = _; rw [← hS2, nw_Io hqa1 h_o1.1]; exact hI0 21)
  have tt : stp ([] : List (Nat × Nat)) [o1] R S S45 := t47.un (okAt.of_10 oo.2.1 ⟨(by rw [f_of ((xe12.tr (xe16.tr (xe21.tr (xe25.tr (xe29.tr (xe34.tr (xe38.tr (xe42.tr xe46)))))))).F ((xe3.tr xe7).A h_o1) (by decide) F9)]; exact ⟨((xe12.tr (xe16.tr (xe21.tr (xe25.tr (xe29.tr (xe34.tr (xe38.tr (xe42.tr xe46)))))))).F ((xe3.tr xe7).A h_o1) (by decide) F9), ((xe7.tr (xe12.tr (xe16.tr (xe21.tr (xe25.tr (xe29.tr (xe34.tr (xe38.tr (xe42.tr xe46))))))))).A aqa1), (((xe7.tr (xe12.tr (xe16.tr (xe21.tr (xe25.tr (xe29.tr (xe34.tr (xe38.tr (xe42.tr xe46))))))))).n aqa1).trans nqa1)⟩), (by rw [f_of ((xe21.tr (xe25.tr (xe29.tr (xe34.tr (xe38.tr (xe42.tr xe46)))))).F ((xe3.tr (xe7.tr (xe12.tr xe16))).A h_o1) (by decide) F18)]; exact ⟨((xe21.tr (xe25.tr (xe29.tr (xe34.tr (xe38.tr (xe42.tr xe46)))))).F ((xe3.tr (xe7.tr (xe12.tr xe16))).A h_o1) (by decide) F18), ((xe16.tr (xe21.tr (xe25.tr (xe29.tr (xe34.tr (xe38.tr (xe42.tr xe46))))))).A aqa10), (((xe16.tr (xe21.tr (xe25.tr (xe29.tr (xe34.tr (xe38.tr (xe42.tr xe46))))))).n aqa10).trans nqa10)⟩), (by rw [I1]; exact ⟨by omega, by omega⟩), (by rw [I2]; exact ⟨by omega, by omega⟩), (by rw [I3]; exact ⟨by omega, by omega⟩), (by rw [I4]; exact ⟨by omega, by omega⟩), (by rw [I17]; exact ⟨by decide, by decide⟩), (by rw [I18]; exact ⟨by decide, by decide⟩), (by rw [I19]; exact ⟨by decide, by decide⟩), (by rw [I20]; exact ⟨by decide, by decide⟩), (by rw [I21]; exact ⟨by decide, by decide⟩)⟩)
  refine W.widen (k := 2) (n := 208) (Nat.le_of_ble_eq_true rfl) (Nat.le_of_ble_eq_true rfl) ?_
  exact W.vret hx hb hr (fun t ht hW9 => ⟨⟨S45, rfl, ⟨tt, oo, I0, I1, I2, I3, I4, I7, I8, I9, I10, I11, I12, I13, I14, I15, I16, I17, I18, I19, I20, I21⟩, wd_end hP hK hD ht hW9.alike⟩, hS.F ht⟩) hS.2.2 dX10_init_58 hlocks
set_option maxHeartbeats 4000000 in
set_option maxRecDepth 100000 in
theorem c_X11_init (l : Launch) {D : va_G} {cy : Nat → ClassId} {X : va_W} (S : wPS) (sz : Nat) (o1 : Nat) (h_o1 : isA S o1 11) (x1 : Int32) (x2 : Int32) (x3 : Int32) (x4 : Int32) (R : List Nat) (hW : wtB S (o1 :: R)) (hF0 : ∀ j, S.F o1 j = none) (hI0 : ∀ j, S.I o1 j = 0) (hr : (1 ≤ x2.toInt ∧ x2.toInt ≤ 4) ∧ 1 ≤ x4.toInt ∧ x4.toInt ≤ 20) : Met l yX11_init wsX11_init ({ frames := 1, cells := 1, slots := 20, locals := 12 }) (va_Pc [.ref o1, .int x1, .int x2, .int x3, .int x4] (fun U => U.heap.size = sz ∧ WD D cy X (fun _ => True) S U ∧ NW U)) (va_Qv (fun (u : wPS) => stp ([] : List (Nat × Nat)) [o1] R S u ∧ isA u o1 11 ∧ u.I o1 0 = x1 ∧ u.I o1 1 = x2 ∧ u.I o1 3 = x4 ∧ u.I o1 4 = x3 ∧ u.I o1 5 = (0 : Int32) ∧ u.I o1 6 = (0 : Int32)) (fun u t => WD D cy X (va_A (X ++ PL cy S) sz) u t) (va_A (X ++ PL cy S) sz)) 1 20 (va_A (X ++ PL cy S) sz) := by
  refine Met.ofW (cc := cX11_init) (maxL := 5) (ret := none) (by decide) rfl ?_
  intro p e s m args below meth c s₁ B hml hv
  obtain ⟨rfl, hsz, ⟨hP, hK, hD0⟩, hN⟩ := hv
  have hx := B.exec
  have hb := B.bytes
  have hr := B.returns
  have hts := atoms_spec (ws := wsX11_init) B.pre
  have hown : s.vm.findClass RX11 = some m.cls := findClass_of_methodNamed B.named
  have hlocks := B.notSynchronized
  have hin : meth.name = "<init>" := (name_of_methodNamed B.named B.method).1
  subst hsz
  have hD := hD0.self (sz := s.heap.size)
  generalize hAe : va_A (X ++ PL cy S) s.heap.size = A at hD ⊢
  have hA : ∀ q : Nat, s.heap.size ≤ q → A q := fun q h => by rw [← hAe]; exact Or.inr h
  have hS : va_S A s.heap s.heap [] := va_S.rf
  have hl := lv_entry ([.ref o1, .int x1, .int x2, .int x3, .int x4]) (n := 5) (Nat.le_of_ble_eq_true rfl)
  rw [lg_entry_eq]
  generalize (lg_sl ([.ref o1, .int x1, .int x2, .int x3, .int x4]) ++ List.replicate (5 - (lg_sl ([.ref o1, .int x1, .int x2, .int x3, .int x4])).length) Slot.unset).toArray = ls at hl ⊢
  have hl : lv_has ls 5 [(0, .ref o1), (1, .int x1), (2, .int x2), (3, .int x3), (4, .int x4)] := hl
  have t0 : stp ([] : List (Nat × Nat)) [o1] (o1 :: R) S S := stp.rf hW
  refine lv_aload_n hx hb dX11_init_0 rfl (lv_at hl 0 rfl) ?_
  refine W.objInit hx hb hown (hts (.methodLink RX11 3 objectInit) (by decide +kernel)) (hts (.instanceMethod objectInit) (by decide +kernel)) (hts (.code objectInit ⟨#[0xb1]⟩ 1 none) (by decide +kernel)) rfl (by rw [hml]; exact hl.1) rfl dX11_init_1 (Nat.le_of_ble_eq_true rfl) (Nat.le_of_ble_eq_true rfl) ?_
  refine W.eq (g2 := F0 m 4 ls []) rfl ?_
  refine lv_aload_n hx hb dX11_init_4 rfl (lv_at hl 0 rfl) ?_
  refine lv_bipush (v := 20) hx hb dX11_init_5 (by decide +kernel) ?_
  refine va_newa (atype := .int) hx hb (hts (.arrayClass .int) (by decide +kernel)) (ty := .int) rfl hK hP hD hS hA (N' := 20) (a0 := (20, .inl (fun _ => 0))) (fun _ => rfl) (by decide) (by decide) (by decide) (Nat.le_of_ble_eq_true rfl) (Nat.le_of_ble_eq_true rfl) dX11_init_7 (fun qa1 cqa1 H hK2 hP2 hD2 hS => ?_)
  obtain rfl : cqa1 = cy 2 := cls_int hK hK2
  have hqa1 : qa1 ∉ S.L := nw_q hD2
  have e9 := wNw (cy := cy) (X := X) (S := S) (a := qa1) (k := 17) (z := 20) (f := fun _ => 0) (g := fun _ => none) hqa1 rfl
  obtain ⟨S2, hS2⟩ : ∃ z, S.nw qa1 17 20 (fun _ => 0) (fun _ => none) = z := ⟨_, rfl⟩
  have hP : va_P D vwCl (X ++ PL cy S2) H := by rw [← hS2, ← e9]; exact hP2
  have hD : va_D A (X ++ PL cy S2) := by rw [← hS2, ← e9]; exact hD2
  have xe3 : ext S S2 := by rw [← hS2]; exact ext.nw hqa1
  have t4 : stp ([] : List (Nat × Nat)) [o1] (o1 :: R) S S2 := by rw [← hS2]; exact t0.nwA hqa1 (by decide)
  refine W.widen (k := 1) (n := 20) (Nat.le_of_ble_eq_true rfl) (Nat.le_of_ble_eq_true rfl) ?_
  have aqa1 : isA S2 qa1 17 := by rw [← hS2]; exact nw_A (by decide)
  have nqa1 : S2.n qa1 = 20 := by rw [← hS2]; exact nw_n
  obtain ⟨k5, gk5, hk5⟩ := wGt (cy := cy) X S2 (xe3.A h_o1).1 (xe3.A h_o1).2.1
  refine va_putF (D := D) (ci := 15) (v := .ref qa1) (ty := (tyX11 2)) (C := RX11) (T := TX11) (N := 7) hx hb hts (by decide +kernel) tyX11 tyX11_ok nmX11 hown hK hP hD hS k5 hk5 rfl 2 (by decide) (hts (.fieldLink RX11 9 "HobhouseModel$Hob" "wear" "[I") (by decide +kernel)) (fun _ h9 => h9) rfl hin rfl (by decide +kernel) (rfl) (rfl) (Nat.le_of_ble_eq_true rfl) dX11_init_9 (fun H locs hP2 hD2 hS => ?_)
  have e9 := wPuF (cy := cy) (j := 2) (v := (some qa1)) hD (xe3.A h_o1).1 (xe3.A h_o1).2.1 gk5 rfl
  obtain ⟨S6, hS6⟩ : ∃ z, S2.sF o1 2 (some qa1) = z := ⟨_, rfl⟩
  have hP : va_P D vwCl (X ++ PL cy S6) H := by rw [← hS6, ← e9]; exact hP2
  have hD : va_D A (X ++ PL cy S6) := by rw [← hS6, ← e9]; exact hD2
  have xe7 : ext S2 S6 := by rw [← hS6]; exact ext.sF (by rw [← hS2, nw_Fo hqa1 h_o1.1]; exact hF0 2)
  have t8 : stp ([] : List (Nat × Nat)) [o1] (o1 :: R) S S6 := by rw [← hS6]; exact t4.F 2 qa1 List.mem_cons_self (Or.inl List.mem_cons_self) (by rw [← hS2, nw_Fo hqa1 h_o1.1]; exact hF0 2)
  have F9 : S6.F o1 2 = some qa1 := by rw [← hS6]; exact sF_eq
  refine lv_aload_n hx hb dX11_init_12 rfl (lv_at hl 0 rfl) ?_
  refine lv_iload_n hx hb dX11_init_13 rfl (lv_at hl 1 rfl) ?_
  obtain ⟨k10, gk10, hk10⟩ := wGt (cy := cy) X S6 (xe7.A (xe3.A h_o1)).1 (xe7.A (xe3.A h_o1)).2.1
  refine va_putF (D := D) (ci := 15) (v := .int x1) (ty := .int) (C := RX11) (T := TX11) (N := 7) hx hb hts (by decide +kernel) tyX11 tyX11_ok nmX11 hown hK hP hD hS k10 hk10 rfl 0 (by decide) (hts (.fieldLink RX11 15 "HobhouseModel$Hob" "module" "I") (by decide +kernel)) (fun _ h9 => h9) rfl hin rfl (by decide +kernel) (rfl) (rfl) (Nat.le_of_ble_eq_true rfl) dX11_init_14 (fun H locs hP2 hD2 hS => ?_)
  have e9 := wPuI (cy := cy) (j := 0) (v := x1) hD (xe7.A (xe3.A h_o1)).1 (xe7.A (xe3.A h_o1)).2.1 gk10 rfl
  obtain ⟨S11, hS11⟩ : ∃ z, S6.sI o1 0 x1 = z := ⟨_, rfl⟩
  have hP : va_P D vwCl (X ++ PL cy S11) H := by rw [← hS11, ← e9]; exact hP2
  have hD : va_D A (X ++ PL cy S11) := by rw [← hS11, ← e9]; exact hD2
  have xe12 : ext S6 S11 := by rw [← hS11]; exact ext.sI _ _ _ _
  have t13 : stp ([] : List (Nat × Nat)) [o1] (o1 :: R) S S11 := by rw [← hS11]; exact t8.Ir 0 x1 List.mem_cons_self (Or.inl List.mem_cons_self)
  refine lv_aload_n hx hb dX11_init_17 rfl (lv_at hl 0 rfl) ?_
  refine lv_iload_n hx hb dX11_init_18 rfl (lv_at hl 2 rfl) ?_
  obtain ⟨k14, gk14, hk14⟩ := wGt (cy := cy) X S11 (xe12.A (xe7.A (xe3.A h_o1))).1 (xe12.A (xe7.A (xe3.A h_o1))).2.1
  refine va_putF (D := D) (ci := 15) (v := .int x2) (ty := .int) (C := RX11) (T := TX11) (N := 7) hx hb hts (by decide +kernel) tyX11 tyX11_ok nmX11 hown hK hP hD hS k14 hk14 rfl 1 (by decide) (hts (.fieldLink RX11 19 "HobhouseModel$Hob" "starts" "I") (by decide +kernel)) (fun _ h9 => h9) rfl hin rfl (by decide +kernel) (rfl) (rfl) (Nat.le_of_ble_eq_true rfl) dX11_init_19 (fun H locs hP2 hD2 hS => ?_)
  have e9 := wPuI (cy := cy) (j := 1) (v := x2) hD (xe12.A (xe7.A (xe3.A h_o1))).1 (xe12.A (xe7.A (xe3.A h_o1))).2.1 gk14 rfl
  obtain ⟨S15, hS15⟩ : ∃ z, S11.sI o1 1 x2 = z := ⟨_, rfl⟩
  have hP : va_P D vwCl (X ++ PL cy S15) H := by rw [← hS15, ← e9]; exact hP2
  have hD : va_D A (X ++ PL cy S15) := by rw [← hS15, ← e9]; exact hD2
  have xe16 : ext S11 S15 := by rw [← hS15]; exact ext.sI _ _ _ _
  have t17 : stp ([] : List (Nat × Nat)) [o1] (o1 :: R) S S15 := by rw [← hS15]; exact t13.Ir 1 x2 List.mem_cons_self (Or.inl List.mem_cons_self)
  refine lv_aload_n hx hb dX11_init_22 rfl (lv_at hl 0 rfl) ?_
  refine lv_iload_n hx hb dX11_init_23 rfl (lv_at hl 3 rfl) ?_
  obtain ⟨k18, gk18, hk18⟩ := wGt (cy := cy) X S15 (xe16.A (xe12.A (xe7.A (xe3.A h_o1)))).1 (xe16.A (xe12.A (xe7.A (xe3.A h_o1)))).2.1
  refine va_put (D := D) (ci := 15) (v := .int x3) (ty := .int) (C := RX11) (T := TX11) (N := 7) hx hb hts (by decide +kernel) tyX11 tyX11_ok nmX11 hown hK hP hD hS k18 hk18 rfl 4 (by decide) (hts (.fieldLink RX11 22 "HobhouseModel$Hob" "diameter" "I") (by decide +kernel)) (fun _ h9 => h9) rfl (by decide +kernel) (rfl) (rfl) (Nat.le_of_ble_eq_true rfl) dX11_init_24 (fun H locs hP2 hD2 hS => ?_)
  have e9 := wPuI (cy := cy) (j := 4) (v := x3) hD (xe16.A (xe12.A (xe7.A (xe3.A h_o1)))).1 (xe16.A (xe12.A (xe7.A (xe3.A h_o1)))).2.1 gk18 rfl
  obtain ⟨S19, hS19⟩ : ∃ z, S15.sI o1 4 x3 = z := ⟨_, rfl⟩
  have hP : va_P D vwCl (X ++ PL cy S19) H := by rw [← hS19, ← e9]; exact hP2
  have hD : va_D A (X ++ PL cy S19) := by rw [← hS19, ← e9]; exact hD2
  have xe20 : ext S15 S19 := by rw [← hS19]; exact ext.sI _ _ _ _
  have t21 : stp ([] : List (Nat × Nat)) [o1] (o1 :: R) S S19 := by rw [← hS19]; exact t17.Ir 4 x3 List.mem_cons_self (Or.inl List.mem_cons_self)
  refine lv_aload_n hx hb dX11_init_27 rfl (lv_at hl 0 rfl) ?_
  refine lv_iload hx hb dX11_init_28 (lv_at hl 4 rfl) ?_
  obtain ⟨k22, gk22, hk22⟩ := wGt (cy := cy) X S19 (xe20.A (xe16.A (xe12.A (xe7.A (xe3.A h_o1))))).1 (xe20.A (xe16.A (xe12.A (xe7.A (xe3.A h_o1))))).2.1
  refine va_putF (D := D) (ci := 15) (v := .int x4) (ty := .int) (C := RX11) (T := TX11) (N := 7) hx hb hts (by decide +kernel) tyX11 tyX11_ok nmX11 hown hK hP hD hS k22 hk22 rfl 3 (by decide) (hts (.fieldLink RX11 25 "HobhouseModel$Hob" "places" "I") (by decide +kernel)) (fun _ h9 => h9) rfl hin rfl (by decide +kernel) (rfl) (rfl) (Nat.le_of_ble_eq_true rfl) dX11_init_30 (fun H locs hP2 hD2 hS => ?_)
  have e9 := wPuI (cy := cy) (j := 3) (v := x4) hD (xe20.A (xe16.A (xe12.A (xe7.A (xe3.A h_o1))))).1 (xe20.A (xe16.A (xe12.A (xe7.A (xe3.A h_o1))))).2.1 gk22 rfl
  obtain ⟨S23, hS23⟩ : ∃ z, S19.sI o1 3 x4 = z := ⟨_, rfl⟩
  have hP : va_P D vwCl (X ++ PL cy S23) H := by rw [← hS23, ← e9]; exact hP2
  have hD : va_D A (X ++ PL cy S23) := by rw [← hS23, ← e9]; exact hD2
  have xe24 : ext S19 S23 := by rw [← hS23]; exact ext.sI _ _ _ _
  have t25 : stp ([] : List (Nat × Nat)) [o1] (o1 :: R) S S23 := by rw [← hS23]; exact t21.Ir 3 x4 List.mem_cons_self (Or.inl List.mem_cons_self)
  have oo : isA S23 o1 11 := (xe24.A (xe20.A (xe16.A (xe12.A (xe7.A (xe3.A h_o1))))))
  have I0 : S23.I o1 0 = x1 := (by rw [← hS23, sI_I (by rintro ⟨e1, e2⟩; exact absurd e2 (by decide))]; rw [← hS19, sI_I (by rintro ⟨e1, e2⟩; exact absurd e2 (by decide))]; rw [← hS15, sI_I (by rintro ⟨e1, e2⟩; exact absurd e2 (by decide))]; rw [← hS11, sI_eq])
  have I1 : S23.I o1 1 = x2 := (by rw [← hS23, sI_I (by rintro ⟨e1, e2⟩; exact absurd e2 (by decide))]; rw [← hS19, sI_I (by rintro ⟨e1, e2⟩; exact absurd e2 (by decide))]; rw [← hS15, sI_eq])
  have I3 : S23.I o1 3 = x4 := (by rw [← hS23, sI_eq])
  have I4 : S23.I o1 4 = x3 := (by rw [← hS23, sI_I (by rintro ⟨e1, e2⟩; exact absurd e2 (by decide))]; rw [← hS19, sI_eq])
  have I5 : S23.I o1 5 = (0 : Int32) := (by rw [← hS23, sI_I (by rintro ⟨e1, e2⟩; exact absurd e2 (by decide))]; rw [← hS19, sI_I (by rintro ⟨e1, e2⟩; exact absurd e2 (by decide))]; rw [← hS15, sI_I (by rintro ⟨e1, e2⟩; exact absurd e2 (by decide))]; rw [← hS11, sI_I (by rintro ⟨e1, e2⟩; exact absurd e2 (by decide))]; rw [← hS6]; show S2.I o1 5 = _; rw [← hS2, nw_Io hqa1 h_o1.1]; exact hI0 5)
  have I6 : S23.I o1 6 = (0 : Int32) := (by rw [← hS23, sI_I (by rintro ⟨e1, e2⟩; exact absurd e2 (by decide))]; rw [← hS19, sI_I (by rintro ⟨e1, e2⟩; exact absurd e2 (by decide))]; rw [← hS15, sI_I (by rintro ⟨e1, e2⟩; exact absurd e2 (by decide))]; rw [← hS11, sI_I (by rintro ⟨e1, e2⟩; exact absurd e2 (by decide))]; rw [← hS6]; show S2.I o1 6 = _; rw [← hS2, nw_Io hqa1 h_o1.1]; exact hI0 6)
  have tt : stp ([] : List (Nat × Nat)) [o1] R S S23 := t25.un (okAt.of_11 oo.2.1 ⟨(by rw [f_of ((xe12.tr (xe16.tr (xe20.tr xe24))).F ((xe3.tr xe7).A h_o1) (by decide) F9)]; exact ⟨((xe12.tr (xe16.tr (xe20.tr xe24))).F ((xe3.tr xe7).A h_o1) (by decide) F9), ((xe7.tr (xe12.tr (xe16.tr (xe20.tr xe24)))).A aqa1), (((xe7.tr (xe12.tr (xe16.tr (xe20.tr xe24)))).n aqa1).trans nqa1)⟩), (by rw [I1]; exact ⟨by omega, by omega⟩), (by rw [I3]; exact ⟨by omega, by omega⟩), (by rw [I5]; exact ⟨by decide, by decide⟩)⟩)
  refine W.widen (k := 1) (n := 20) (Nat.le_of_ble_eq_true rfl) (Nat.le_of_ble_eq_true rfl) ?_
  exact W.vret hx hb hr (fun t ht hW9 => ⟨⟨S23, rfl, ⟨tt, oo, I0, I1, I3, I4, I5, I6⟩, wd_end hP hK hD ht hW9.alike⟩, hS.F ht⟩) hS.2.2 dX11_init_33 hlocks
set_option maxHeartbeats 4000000 in
set_option maxRecDepth 100000 in
theorem c_X12_init (l : Launch) {e0 mi : Nat} {D : va_G} {cy : Nat → ClassId} {X : va_W} (S : wPS) (sz : Nat) (o1 : Nat) (h_o1 : isA S o1 12) (R : List Nat) (hW : wtB S (o1 :: R)) (hF0 : ∀ j, S.F o1 j = none) (hI0 : ∀ j, S.I o1 j = 0)  : Met l yX12_init wsX12_init ({ frames := 4, cells := 20, slots := 905, locals := 72 }) (va_Pc [.ref o1] (fun U => U.heap.size = sz ∧ WD D cy X (fun _ => True) S U ∧ NW U ∧ OU e0 mi (va_A (X ++ PL cy S) sz) U U.heap)) (va_Qv (fun (u : wPS) => stp ([] : List (Nat × Nat)) [o1] R S u ∧ isA u o1 12 ∧ u.I o1 15 = (0 : Int32) ∧ u.I o1 16 = (0 : Int32) ∧ u.I o1 17 = (24 : Int32) ∧ u.I o1 18 = (60 : Int32) ∧ u.I o1 19 = (0 : Int32) ∧ u.I o1 20 = (0 : Int32) ∧ u.I o1 21 = (0 : Int32) ∧ u.I o1 22 = (0 : Int32) ∧ u.I o1 23 = (0 : Int32) ∧ u.I o1 24 = (0 : Int32) ∧ u.I o1 25 = (0 : Int32) ∧ u.I o1 26 = (0 : Int32) ∧ u.F o1 77 = some e0 ∧ (∀ i : Nat, u.i (u.f o1 9) i = 0) ∧ (∀ i : Nat, u.i (u.f o1 10) i = 0) ∧ (∀ i : Nat, u.i (u.f o1 11) i = 0) ∧ (∀ i : Nat, u.i (u.f o1 12) i = 0) ∧ (∀ i : Nat, u.i (u.f o1 13) i = 0) ∧ (∀ i : Nat, u.i (u.f o1 14) i = 0)) (fun u t => WD D cy X (va_A (X ++ PL cy S) sz) u t) (va_A (X ++ PL cy S) sz)) 20 905 (va_A (X ++ PL cy S) sz) := by
  refine Met.ofW (cc := cX12_init) (maxL := 1) (ret := none) (by decide) rfl ?_
  intro p e s m args below meth c s₁ B hml hv
  obtain ⟨rfl, hsz, ⟨hP, hK, hD0⟩, hN, hOU⟩ := hv
  have hx := B.exec
  have hb := B.bytes
  have hr := B.returns
  have hts := atoms_spec (ws := wsX12_init) B.pre
  have hown : s.vm.findClass RX12 = some m.cls := findClass_of_methodNamed B.named
  have hlocks := B.notSynchronized
  have hin : meth.name = "<init>" := (name_of_methodNamed B.named B.method).1
  subst hsz
  have hD := hD0.self (sz := s.heap.size)
  generalize hAe : va_A (X ++ PL cy S) s.heap.size = A at hD hOU ⊢
  have hA : ∀ q : Nat, s.heap.size ≤ q → A q := fun q h => by rw [← hAe]; exact Or.inr h
  have hS : va_S A s.heap s.heap [] := va_S.rf
  have hl := lv_entry ([.ref o1]) (n := 1) (Nat.le_of_ble_eq_true rfl)
  rw [lg_entry_eq]
  generalize (lg_sl ([.ref o1]) ++ List.replicate (1 - (lg_sl ([.ref o1])).length) Slot.unset).toArray = ls at hl ⊢
  have hl : lv_has ls 1 [(0, .ref o1)] := hl
  obtain ⟨⟨ga, gZ, gX, gl, gA⟩, ⟨sa9, sZ, sX, sl9, sA⟩, cZ, eZ, eX, el, eA, hMi, hDc, ⟨pf, pZ⟩⟩ := id hOU
  have t0 : stp ([] : List (Nat × Nat)) [o1] (o1 :: R) S S := stp.rf hW
  refine lv_aload_n hx hb dX12_init_0 rfl (lv_at hl 0 rfl) ?_
  refine W.objInit hx hb hown (hts (.methodLink RX12 15 objectInit) (by decide +kernel)) (hts (.instanceMethod objectInit) (by decide +kernel)) (hts (.code objectInit ⟨#[0xb1]⟩ 1 none) (by decide +kernel)) rfl (by rw [hml]; exact hl.1) rfl dX12_init_1 (Nat.le_of_ble_eq_true rfl) (Nat.le_of_ble_eq_true rfl) ?_
  refine W.eq (g2 := F0 m 4 ls []) rfl ?_
  have e9 := gh_PL (cy := cy) (X := X) (j := 77) (v := some e0) h_o1.2.1 (by decide)
  have hP2 := hP
  have hD2 := hD
  rw [e9] at hP2 hD2
  replace e9 := Eq.refl (X ++ PL cy (S.sF o1 77 (some e0)))
  have N0 : ∀ j9, j9 ∉ ([] : List Nat) → S.F o1 j9 = none := fun j9 _ => hF0 j9
  have Z0 : ∀ j9, j9 ∉ ([] : List Nat) → S.I o1 j9 = 0 := fun j9 _ => hI0 j9
  obtain ⟨S1, hS1⟩ : ∃ z, S.sF o1 77 (some e0) = z := ⟨_, rfl⟩
  replace hP : va_P D vwCl (X ++ PL cy S1) s.heap := by rw [← hS1, ← e9]; exact hP2
  replace hD : va_D A (X ++ PL cy S1) := by rw [← hS1, ← e9]; exact hD2
  clear hP2 hD2 e9
  have xe2 : ext S S1 := by rw [← hS1]; exact ext.sF (N0 77 (by decide))
  have t3 : stp ([] : List (Nat × Nat)) [o1] (o1 :: R) S S1 := by rw [← hS1]; exact t0.F 77 e0 List.mem_cons_self (Or.inl List.mem_cons_self) (N0 77 (by decide))
  have F4 : S1.F o1 77 = some e0 := by rw [← hS1]; exact sF_eq
  refine lv_aload_n hx hb dX12_init_4 rfl (lv_at hl 0 rfl) ?_
  refine va_new (ci := 3) (fs := [.int 0, .null, .int 0]) (C := RJx4a65c) (T := TJx4a65c) (N := 3) hx hb hts (by decide +kernel) tyJx4a65c tyJx4a65c_ok hown (hts (.classLink RX12 21 RJx4a65c) (by decide +kernel)) (hts (.instantiable RJx4a65c 3) (by decide +kernel)) (hts (.initialized RJx4a65c) (by decide +kernel)) hK hP hD hS hA rfl (fun j hj => by rcases (show j = 0 ∨ j = 1 ∨ j = 2 by omega) with rfl | rfl | rfl <;> rfl) (Nat.le_of_ble_eq_true rfl) (Nat.le_of_ble_eq_true rfl) dX12_init_5 (fun qa5 H hP2 hD2 hS => ?_)
  have hqa5 : qa5 ∉ S1.L := nw_q hD2
  have e9 := wNw (cy := cy) (X := X) (S := S1) (a := qa5) (k := 14) (z := 10) (f := fun _ => 0) (g := fun _ => none) hqa5 rfl
  obtain ⟨S6, hS6⟩ : ∃ z, S1.nw qa5 14 10 (fun _ => 0) (fun _ => none) = z := ⟨_, rfl⟩
  replace hP : va_P D vwCl (X ++ PL cy S6) H := by rw [← hS6, ← e9]; exact hP2
  replace hD : va_D A (X ++ PL cy S6) := by rw [← hS6, ← e9]; exact hD2
  clear hP2 hD2 e9
  have xe7 : ext S1 S6 := by rw [← hS6]; exact ext.nw hqa5
  have t8 : stp ([] : List (Nat × Nat)) [o1] (qa5 :: (o1 :: R)) S S6 := by rw [← hS6]; exact t3.nw hqa5 (Or.inl (by decide))
  refine W.widen (k := 1) (n := 3) (Nat.le_of_ble_eq_true rfl) (Nat.le_of_ble_eq_true rfl) ?_
  have aqa5 : isA S6 qa5 14 := by rw [← hS6]; exact nw_A (by decide)
  have fqa5 : ∀ j, S6.F qa5 j = none := by rw [← hS6]; exact nw_F
  have iqa5 : ∀ j, S6.I qa5 j = 0 := by rw [← hS6]; exact nw_I
  have bqa5 : qa5 ∉ S.L := fun e => hqa5 (xe2 _ e).1
  have nqa5 : S6.n qa5 = 10 := by rw [← hS6]; exact nw_n
  refine lv_dup hx hb dX12_init_8 rfl ?_
  have hFc := free_all hD hS hA
  refine va_callv (va_runI (As := []) (rest := [.ref qa5, .ref o1]) ⟨hx, hb, hml, hown, hts⟩ (c_Jx4a65c_init_da8c8 l (e0 := e0) (mi := mi) (cy := cy) (X := X) (D := D) S6 _ qa5 aqa5 (o1 :: R) (t8.w) fqa5 iqa5) (cwI 0 hts gX12_init_Jx4a65c_init_da8c8 rfl rfl rfl (hts (.initialized RJx4a65c) (by decide +kernel)) (hts (.methodLink RX12 23 yJx4a65c_init_da8c8) (by decide +kernel)) (hts (.instanceMethod yJx4a65c_init_da8c8) (by decide +kernel)) rfl (by decide +kernel) ⟨Nat.le_of_ble_eq_true rfl, Nat.le_of_ble_eq_true rfl⟩) ⟨fun a U g mk q => ⟨q.1, q.2.1, q.2.2.1.calling, NW.same (u := U) (U := U.calling g mk a) rfl q.2.2.2.1, q.2.2.2.2.calling⟩, fun U hU hW => ⟨rfl, by rw [hU], wd_pre hP hK hD hU hW, hN.warm hW, ou_pre hOU hS hFc hU hW⟩⟩ rfl rfl hl.1 rfl (lv_room (Nat.le_of_ble_eq_true rfl)) dX12_init_9 ⟨Nat.le_of_ble_eq_true rfl, Nat.le_of_ble_eq_true rfl⟩) hS (fun q _ h => hFc q h) hFc (fun u t H1 locs ht hvm hw hB hz1 hk1 hS => ?_)
  obtain ⟨w10, y11, y12, y13, y14⟩ := hw
  obtain ⟨hP, hD⟩ := wd_post hFc ht hB
  generalize H1 = H at hP hS ⊢
  obtain ⟨S15, rfl⟩ : ∃ z, z = u := ⟨_, rfl⟩
  have t16 : stp ([] : List (Nat × Nat)) [o1] (o1 :: R) S S15 := t8.tr w10 (by decide) (fun z q => by rw [List.mem_singleton.mp q]; exact (Or.inr bqa5))
  have xe17 : ext S6 S15 := w10.x
  have xm18 : ext S S6 := xe2.tr xe7
  have xm19 : ext S S15 := xm18.tr xe17
  have am20 : isA S15 o1 12 := xm19.A h_o1
  obtain ⟨k21, gk21, hk21⟩ := wGt (cy := cy) X S15 am20.1 am20.2.1
  refine va_putF (D := D) (ci := 16) (v := .ref qa5) (ty := (tyX12 0)) (C := RX12) (T := TX12) (N := 34) hx hb hts (by decide +kernel) tyX12 tyX12_ok nmX12 hown hK hP hD hS k21 hk21 rfl 0 (by decide) (hts (.fieldLink RX12 24 "HobhouseModel" "gears" "Ljava/util/ArrayList;") (by decide +kernel)) (fun _ h9 => h9) rfl hin rfl (by decide +kernel) (rfl) (rfl) (Nat.le_of_ble_eq_true rfl) dX12_init_12 (fun H locs hP2 hD2 hS => ?_)
  have e9 := wPuF (cy := cy) (j := 0) (v := (some qa5)) hD am20.1 am20.2.1 gk21 rfl
  have N22 : ∀ j9, j9 ∉ (77 :: [] : List Nat) → S1.F o1 j9 = none := by rw [← hS1]; exact fun j9 h9 => (sF_ne (fun q9 => h9 (by rw [q9.2]; exact List.mem_cons_self))).trans (N0 j9 (fun q9 => h9 (List.mem_cons_of_mem _ q9)))
  have Z23 : ∀ j9, j9 ∉ ([] : List Nat) → S1.I o1 j9 = 0 := by rw [← hS1]; exact Z0
  have am26 : isA S1 o1 12 := xe2.A h_o1
  have N24 : ∀ j9, j9 ∉ (77 :: [] : List Nat) → S6.F o1 j9 = none := by rw [← hS6]; exact fun j9 h9 => (nw_Fo hqa5 am26.1).trans (N22 j9 h9)
  have Z25 : ∀ j9, j9 ∉ ([] : List Nat) → S6.I o1 j9 = 0 := by rw [← hS6]; exact fun j9 h9 => (nw_Io hqa5 am26.1).trans (Z23 j9 h9)
  have am29 : isA S6 o1 12 := xm18.A h_o1
  have N27 : ∀ j9, j9 ∉ (77 :: [] : List Nat) → S15.F o1 j9 = none := fun j9 h9 => by rw [(w10.fR o1 am29.1 (by rw [List.mem_singleton]; exact fun e => hqa5 (e ▸ am26.1))).2.2.2.resolve_left (by rw [am29.2.1]; decide)]; exact N24 j9 h9
  have Z28 : ∀ j9, j9 ∉ ([] : List Nat) → S15.I o1 j9 = 0 := fun j9 h9 => by rw [((w10.fR o1 am29.1 (by rw [List.mem_singleton]; exact fun e => hqa5 (e ▸ am26.1))).1 j9 (by rw [am29.2.1]; intro q9; simp at q9)).1]; exact Z25 j9 h9
  obtain ⟨S30, hS30⟩ : ∃ z, S15.sF o1 0 (some qa5) = z := ⟨_, rfl⟩
  replace hP : va_P D vwCl (X ++ PL cy S30) H := by rw [← hS30, ← e9]; exact hP2
  replace hD : va_D A (X ++ PL cy S30) := by rw [← hS30, ← e9]; exact hD2
  clear hP2 hD2 e9
  have xe31 : ext S15 S30 := by rw [← hS30]; exact ext.sF (N27 0 (by decide))
  have t32 : stp ([] : List (Nat × Nat)) [o1] (o1 :: R) S S30 := by rw [← hS30]; exact t16.F 0 qa5 List.mem_cons_self (Or.inl List.mem_cons_self) (N27 0 (by decide))
  have F33 : S30.F o1 0 = some qa5 := by rw [← hS30]; exact sF_eq
  refine lv_aload_n hx hb dX12_init_15 rfl (lv_at hl 0 rfl) ?_
  refine va_new (ci := 3) (fs := [.int 0, .null, .int 0]) (C := RJx4a65c) (T := TJx4a65c) (N := 3) hx hb hts (by decide +kernel) tyJx4a65c tyJx4a65c_ok hown (hts (.classLink RX12 21 RJx4a65c) (by decide +kernel)) (hts (.instantiable RJx4a65c 3) (by decide +kernel)) (hts (.initialized RJx4a65c) (by decide +kernel)) hK hP hD hS hA rfl (fun j hj => by rcases (show j = 0 ∨ j = 1 ∨ j = 2 by omega) with rfl | rfl | rfl <;> rfl) (Nat.le_of_ble_eq_true rfl) (Nat.le_of_ble_eq_true rfl) dX12_init_16 (fun qa34 H hP2 hD2 hS => ?_)
  have hqa34 : qa34 ∉ S30.L := nw_q hD2
  have e9 := wNw (cy := cy) (X := X) (S := S30) (a := qa34) (k := 14) (z := 11) (f := fun _ => 0) (g := fun _ => none) hqa34 rfl
  obtain ⟨S35, hS35⟩ : ∃ z, S30.nw qa34 14 11 (fun _ => 0) (fun _ => none) = z := ⟨_, rfl⟩
  replace hP : va_P D vwCl (X ++ PL cy S35) H := by rw [← hS35, ← e9]; exact hP2
  replace hD : va_D A (X ++ PL cy S35) := by rw [← hS35, ← e9]; exact hD2
  clear hP2 hD2 e9
  have xe36 : ext S30 S35 := by rw [← hS35]; exact ext.nw hqa34
  have t37 : stp ([] : List (Nat × Nat)) [o1] (qa34 :: (o1 :: R)) S S35 := by rw [← hS35]; exact t32.nw hqa34 (Or.inl (by decide))
  refine W.widen (k := 2) (n := 6) (Nat.le_of_ble_eq_true rfl) (Nat.le_of_ble_eq_true rfl) ?_
  have aqa34 : isA S35 qa34 14 := by rw [← hS35]; exact nw_A (by decide)
  have fqa34 : ∀ j, S35.F qa34 j = none := by rw [← hS35]; exact nw_F
  have iqa34 : ∀ j, S35.I qa34 j = 0 := by rw [← hS35]; exact nw_I
  have xm38 : ext S S30 := xm19.tr xe31
  have bqa34 : qa34 ∉ S.L := fun e => hqa34 (xm38 _ e).1
  have nqa34 : S35.n qa34 = 11 := by rw [← hS35]; exact nw_n
  refine lv_dup hx hb dX12_init_19 rfl ?_
  have hFc := free_all hD hS hA
  refine va_callv (va_runI (As := []) (rest := [.ref qa34, .ref o1]) ⟨hx, hb, hml, hown, hts⟩ (c_Jx4a65c_init_da8c8 l (e0 := e0) (mi := mi) (cy := cy) (X := X) (D := D) S35 _ qa34 aqa34 (o1 :: R) (t37.w) fqa34 iqa34) (cwI 0 hts gX12_init_Jx4a65c_init_da8c8 rfl rfl rfl (hts (.initialized RJx4a65c) (by decide +kernel)) (hts (.methodLink RX12 23 yJx4a65c_init_da8c8) (by decide +kernel)) (hts (.instanceMethod yJx4a65c_init_da8c8) (by decide +kernel)) rfl (by decide +kernel) ⟨Nat.le_of_ble_eq_true rfl, Nat.le_of_ble_eq_true rfl⟩) ⟨fun a U g mk q => ⟨q.1, q.2.1, q.2.2.1.calling, NW.same (u := U) (U := U.calling g mk a) rfl q.2.2.2.1, q.2.2.2.2.calling⟩, fun U hU hW => ⟨rfl, by rw [hU], wd_pre hP hK hD hU hW, hN.warm hW, ou_pre hOU hS hFc hU hW⟩⟩ rfl rfl hl.1 rfl (lv_room (Nat.le_of_ble_eq_true rfl)) dX12_init_20 ⟨Nat.le_of_ble_eq_true rfl, Nat.le_of_ble_eq_true rfl⟩) hS (fun q _ h => hFc q h) hFc (fun u t H1 locs ht hvm hw hB hz1 hk1 hS => ?_)
  obtain ⟨w40, y41, y42, y43, y44⟩ := hw
  obtain ⟨hP, hD⟩ := wd_post hFc ht hB
  generalize H1 = H at hP hS ⊢
  obtain ⟨S45, rfl⟩ : ∃ z, z = u := ⟨_, rfl⟩
  have t46 : stp ([] : List (Nat × Nat)) [o1] (o1 :: R) S S45 := t37.tr w40 (by decide) (fun z q => by rw [List.mem_singleton.mp q]; exact (Or.inr bqa34))
  have xe47 : ext S35 S45 := w40.x
  have xm48 : ext S S35 := xm38.tr xe36
  have xm49 : ext S S45 := xm48.tr xe47
  have am50 : isA S45 o1 12 := xm49.A h_o1
  obtain ⟨k51, gk51, hk51⟩ := wGt (cy := cy) X S45 am50.1 am50.2.1
  refine va_putF (D := D) (ci := 16) (v := .ref qa34) (ty := (tyX12 1)) (C := RX12) (T := TX12) (N := 34) hx hb hts (by decide +kernel) tyX12 tyX12_ok nmX12 hown hK hP hD hS k51 hk51 rfl 1 (by decide) (hts (.fieldLink RX12 28 "HobhouseModel" "hobs" "Ljava/util/ArrayList;") (by decide +kernel)) (fun _ h9 => h9) rfl hin rfl (by decide +kernel) (rfl) (rfl) (Nat.le_of_ble_eq_true rfl) dX12_init_23 (fun H locs hP2 hD2 hS => ?_)
  have e9 := wPuF (cy := cy) (j := 1) (v := (some qa34)) hD am50.1 am50.2.1 gk51 rfl
  have N52 : ∀ j9, j9 ∉ (0 :: 77 :: [] : List Nat) → S30.F o1 j9 = none := by rw [← hS30]; exact fun j9 h9 => (sF_ne (fun q9 => h9 (by rw [q9.2]; exact List.mem_cons_self))).trans (N27 j9 (fun q9 => h9 (List.mem_cons_of_mem _ q9)))
  have Z53 : ∀ j9, j9 ∉ ([] : List Nat) → S30.I o1 j9 = 0 := by rw [← hS30]; exact Z28
  have am56 : isA S30 o1 12 := xm38.A h_o1
  have N54 : ∀ j9, j9 ∉ (0 :: 77 :: [] : List Nat) → S35.F o1 j9 = none := by rw [← hS35]; exact fun j9 h9 => (nw_Fo hqa34 am56.1).trans (N52 j9 h9)
  have Z55 : ∀ j9, j9 ∉ ([] : List Nat) → S35.I o1 j9 = 0 := by rw [← hS35]; exact fun j9 h9 => (nw_Io hqa34 am56.1).trans (Z53 j9 h9)
  have am59 : isA S35 o1 12 := xm48.A h_o1
  have N57 : ∀ j9, j9 ∉ (0 :: 77 :: [] : List Nat) → S45.F o1 j9 = none := fun j9 h9 => by rw [(w40.fR o1 am59.1 (by rw [List.mem_singleton]; exact fun e => hqa34 (e ▸ am56.1))).2.2.2.resolve_left (by rw [am59.2.1]; decide)]; exact N54 j9 h9
  have Z58 : ∀ j9, j9 ∉ ([] : List Nat) → S45.I o1 j9 = 0 := fun j9 h9 => by rw [((w40.fR o1 am59.1 (by rw [List.mem_singleton]; exact fun e => hqa34 (e ▸ am56.1))).1 j9 (by rw [am59.2.1]; intro q9; simp at q9)).1]; exact Z55 j9 h9
  obtain ⟨S60, hS60⟩ : ∃ z, S45.sF o1 1 (some qa34) = z := ⟨_, rfl⟩
  replace hP : va_P D vwCl (X ++ PL cy S60) H := by rw [← hS60, ← e9]; exact hP2
  replace hD : va_D A (X ++ PL cy S60) := by rw [← hS60, ← e9]; exact hD2
  clear hP2 hD2 e9
  have xe61 : ext S45 S60 := by rw [← hS60]; exact ext.sF (N57 1 (by decide))
  have t62 : stp ([] : List (Nat × Nat)) [o1] (o1 :: R) S S60 := by rw [← hS60]; exact t46.F 1 qa34 List.mem_cons_self (Or.inl List.mem_cons_self) (N57 1 (by decide))
  have F63 : S60.F o1 1 = some qa34 := by rw [← hS60]; exact sF_eq
  refine lv_aload_n hx hb dX12_init_26 rfl (lv_at hl 0 rfl) ?_
  refine lv_bipush (v := 16) hx hb dX12_init_27 (by decide +kernel) ?_
  refine va_newa (atype := .int) hx hb (hts (.arrayClass .int) (by decide +kernel)) (ty := .int) rfl hK hP hD hS hA (N' := 16) (a0 := (16, .inl (fun _ => 0))) (fun _ => rfl) (by decide) (by decide) (by decide) (Nat.le_of_ble_eq_true rfl) (Nat.le_of_ble_eq_true rfl) dX12_init_29 (fun qa64 cqa64 H hK2 hP2 hD2 hS => ?_)
  obtain rfl : cqa64 = cy 2 := cls_int hK hK2
  have hqa64 : qa64 ∉ S60.L := nw_q hD2
  have e9 := wNw (cy := cy) (X := X) (S := S60) (a := qa64) (k := 17) (z := 16) (f := fun _ => 0) (g := fun _ => none) hqa64 rfl
  obtain ⟨S65, hS65⟩ : ∃ z, S60.nw qa64 17 16 (fun _ => 0) (fun _ => none) = z := ⟨_, rfl⟩
  replace hP : va_P D vwCl (X ++ PL cy S65) H := by rw [← hS65, ← e9]; exact hP2
  replace hD : va_D A (X ++ PL cy S65) := by rw [← hS65, ← e9]; exact hD2
  clear hP2 hD2 e9
  have xe66 : ext S60 S65 := by rw [← hS65]; exact ext.nw hqa64
  have t67 : stp ([] : List (Nat × Nat)) [o1] (o1 :: R) S S65 := by rw [← hS65]; exact t62.nwA hqa64 (by decide)
  refine W.widen (k := 3) (n := 22) (Nat.le_of_ble_eq_true rfl) (Nat.le_of_ble_eq_true rfl) ?_
  have aqa64 : isA S65 qa64 17 := by rw [← hS65]; exact nw_A (by decide)
  have nqa64 : S65.n qa64 = 16 := by rw [← hS65]; exact nw_n
  have xm68 : ext S S60 := xm49.tr xe61
  have xm69 : ext S S65 := xm68.tr xe66
  have am70 : isA S65 o1 12 := xm69.A h_o1
  obtain ⟨k71, gk71, hk71⟩ := wGt (cy := cy) X S65 am70.1 am70.2.1
  refine va_putF (D := D) (ci := 16) (v := .ref qa64) (ty := (tyX12 2)) (C := RX12) (T := TX12) (N := 34) hx hb hts (by decide +kernel) tyX12 tyX12_ok nmX12 hown hK hP hD hS k71 hk71 rfl 2 (by decide) (hts (.fieldLink RX12 31 "HobhouseModel" "wheels" "[I") (by decide +kernel)) (fun _ h9 => h9) rfl hin rfl (by decide +kernel) (rfl) (rfl) (Nat.le_of_ble_eq_true rfl) dX12_init_31 (fun H locs hP2 hD2 hS => ?_)
  have e9 := wPuF (cy := cy) (j := 2) (v := (some qa64)) hD am70.1 am70.2.1 gk71 rfl
  have N72 : ∀ j9, j9 ∉ (1 :: 0 :: 77 :: [] : List Nat) → S60.F o1 j9 = none := by rw [← hS60]; exact fun j9 h9 => (sF_ne (fun q9 => h9 (by rw [q9.2]; exact List.mem_cons_self))).trans (N57 j9 (fun q9 => h9 (List.mem_cons_of_mem _ q9)))
  have Z73 : ∀ j9, j9 ∉ ([] : List Nat) → S60.I o1 j9 = 0 := by rw [← hS60]; exact Z58
  have am76 : isA S60 o1 12 := xm68.A h_o1
  have N74 : ∀ j9, j9 ∉ (1 :: 0 :: 77 :: [] : List Nat) → S65.F o1 j9 = none := by rw [← hS65]; exact fun j9 h9 => (nw_Fo hqa64 am76.1).trans (N72 j9 h9)
  have Z75 : ∀ j9, j9 ∉ ([] : List Nat) → S65.I o1 j9 = 0 := by rw [← hS65]; exact fun j9 h9 => (nw_Io hqa64 am76.1).trans (Z73 j9 h9)
  obtain ⟨S77, hS77⟩ : ∃ z, S65.sF o1 2 (some qa64) = z := ⟨_, rfl⟩
  replace hP : va_P D vwCl (X ++ PL cy S77) H := by rw [← hS77, ← e9]; exact hP2
  replace hD : va_D A (X ++ PL cy S77) := by rw [← hS77, ← e9]; exact hD2
  clear hP2 hD2 e9
  have xe78 : ext S65 S77 := by rw [← hS77]; exact ext.sF (N74 2 (by decide))
  have t79 : stp ([] : List (Nat × Nat)) [o1] (o1 :: R) S S77 := by rw [← hS77]; exact t67.F 2 qa64 List.mem_cons_self (Or.inl List.mem_cons_self) (N74 2 (by decide))
  have F80 : S77.F o1 2 = some qa64 := by rw [← hS77]; exact sF_eq
  refine lv_aload_n hx hb dX12_init_34 rfl (lv_at hl 0 rfl) ?_
  refine lv_iconst (v := 4) hx hb dX12_init_35 (by decide) ?_
  refine va_newa (atype := .int) hx hb (hts (.arrayClass .int) (by decide +kernel)) (ty := .int) rfl hK hP hD hS hA (N' := 4) (a0 := (4, .inl (fun _ => 0))) (fun _ => rfl) (by decide) (by decide) (by decide) (Nat.le_of_ble_eq_true rfl) (Nat.le_of_ble_eq_true rfl) dX12_init_36 (fun qa81 cqa81 H hK2 hP2 hD2 hS => ?_)
  obtain rfl : cqa81 = cy 2 := cls_int hK hK2
  have hqa81 : qa81 ∉ S77.L := nw_q hD2
  have e9 := wNw (cy := cy) (X := X) (S := S77) (a := qa81) (k := 17) (z := 4) (f := fun _ => 0) (g := fun _ => none) hqa81 rfl
  obtain ⟨S82, hS82⟩ : ∃ z, S77.nw qa81 17 4 (fun _ => 0) (fun _ => none) = z := ⟨_, rfl⟩
  replace hP : va_P D vwCl (X ++ PL cy S82) H := by rw [← hS82, ← e9]; exact hP2
  replace hD : va_D A (X ++ PL cy S82) := by rw [← hS82, ← e9]; exact hD2
  clear hP2 hD2 e9
  have xe83 : ext S77 S82 := by rw [← hS82]; exact ext.nw hqa81
  have t84 : stp ([] : List (Nat × Nat)) [o1] (o1 :: R) S S82 := by rw [← hS82]; exact t79.nwA hqa81 (by decide)
  refine W.widen (k := 4) (n := 26) (Nat.le_of_ble_eq_true rfl) (Nat.le_of_ble_eq_true rfl) ?_
  have aqa81 : isA S82 qa81 17 := by rw [← hS82]; exact nw_A (by decide)
  have nqa81 : S82.n qa81 = 4 := by rw [← hS82]; exact nw_n
  have xm85 : ext S S77 := xm69.tr xe78
  have xm86 : ext S S82 := xm85.tr xe83
  have am87 : isA S82 o1 12 := xm86.A h_o1
  obtain ⟨k88, gk88, hk88⟩ := wGt (cy := cy) X S82 am87.1 am87.2.1
  refine va_putF (D := D) (ci := 16) (v := .ref qa81) (ty := (tyX12 3)) (C := RX12) (T := TX12) (N := 34) hx hb hts (by decide +kernel) tyX12 tyX12_ok nmX12 hown hK hP hD hS k88 hk88 rfl 3 (by decide) (hts (.fieldLink RX12 35 "HobhouseModel" "four" "[I") (by decide +kernel)) (fun _ h9 => h9) rfl hin rfl (by decide +kernel) (rfl) (rfl) (Nat.le_of_ble_eq_true rfl) dX12_init_38 (fun H locs hP2 hD2 hS => ?_)
  have e9 := wPuF (cy := cy) (j := 3) (v := (some qa81)) hD am87.1 am87.2.1 gk88 rfl
  have N89 : ∀ j9, j9 ∉ (2 :: 1 :: 0 :: 77 :: [] : List Nat) → S77.F o1 j9 = none := by rw [← hS77]; exact fun j9 h9 => (sF_ne (fun q9 => h9 (by rw [q9.2]; exact List.mem_cons_self))).trans (N74 j9 (fun q9 => h9 (List.mem_cons_of_mem _ q9)))
  have Z90 : ∀ j9, j9 ∉ ([] : List Nat) → S77.I o1 j9 = 0 := by rw [← hS77]; exact Z75
  have am93 : isA S77 o1 12 := xm85.A h_o1
  have N91 : ∀ j9, j9 ∉ (2 :: 1 :: 0 :: 77 :: [] : List Nat) → S82.F o1 j9 = none := by rw [← hS82]; exact fun j9 h9 => (nw_Fo hqa81 am93.1).trans (N89 j9 h9)
  have Z92 : ∀ j9, j9 ∉ ([] : List Nat) → S82.I o1 j9 = 0 := by rw [← hS82]; exact fun j9 h9 => (nw_Io hqa81 am93.1).trans (Z90 j9 h9)
  obtain ⟨S94, hS94⟩ : ∃ z, S82.sF o1 3 (some qa81) = z := ⟨_, rfl⟩
  replace hP : va_P D vwCl (X ++ PL cy S94) H := by rw [← hS94, ← e9]; exact hP2
  replace hD : va_D A (X ++ PL cy S94) := by rw [← hS94, ← e9]; exact hD2
  clear hP2 hD2 e9
  have xe95 : ext S82 S94 := by rw [← hS94]; exact ext.sF (N91 3 (by decide))
  have t96 : stp ([] : List (Nat × Nat)) [o1] (o1 :: R) S S94 := by rw [← hS94]; exact t84.F 3 qa81 List.mem_cons_self (Or.inl List.mem_cons_self) (N91 3 (by decide))
  have F97 : S94.F o1 3 = some qa81 := by rw [← hS94]; exact sF_eq
  refine lv_aload_n hx hb dX12_init_41 rfl (lv_at hl 0 rfl) ?_
  refine lv_iconst (v := 4) hx hb dX12_init_42 (by decide) ?_
  refine va_newa (atype := .int) hx hb (hts (.arrayClass .int) (by decide +kernel)) (ty := .int) rfl hK hP hD hS hA (N' := 4) (a0 := (4, .inl (fun _ => 0))) (fun _ => rfl) (by decide) (by decide) (by decide) (Nat.le_of_ble_eq_true rfl) (Nat.le_of_ble_eq_true rfl) dX12_init_43 (fun qa98 cqa98 H hK2 hP2 hD2 hS => ?_)
  obtain rfl : cqa98 = cy 2 := cls_int hK hK2
  have hqa98 : qa98 ∉ S94.L := nw_q hD2
  have e9 := wNw (cy := cy) (X := X) (S := S94) (a := qa98) (k := 17) (z := 4) (f := fun _ => 0) (g := fun _ => none) hqa98 rfl
  obtain ⟨S99, hS99⟩ : ∃ z, S94.nw qa98 17 4 (fun _ => 0) (fun _ => none) = z := ⟨_, rfl⟩
  replace hP : va_P D vwCl (X ++ PL cy S99) H := by rw [← hS99, ← e9]; exact hP2
  replace hD : va_D A (X ++ PL cy S99) := by rw [← hS99, ← e9]; exact hD2
  clear hP2 hD2 e9
  have xe100 : ext S94 S99 := by rw [← hS99]; exact ext.nw hqa98
  have t101 : stp ([] : List (Nat × Nat)) [o1] (o1 :: R) S S99 := by rw [← hS99]; exact t96.nwA hqa98 (by decide)
  refine W.widen (k := 5) (n := 30) (Nat.le_of_ble_eq_true rfl) (Nat.le_of_ble_eq_true rfl) ?_
  have aqa98 : isA S99 qa98 17 := by rw [← hS99]; exact nw_A (by decide)
  have nqa98 : S99.n qa98 = 4 := by rw [← hS99]; exact nw_n
  have xm102 : ext S S94 := xm86.tr xe95
  have xm103 : ext S S99 := xm102.tr xe100
  have am104 : isA S99 o1 12 := xm103.A h_o1
  obtain ⟨k105, gk105, hk105⟩ := wGt (cy := cy) X S99 am104.1 am104.2.1
  refine va_putF (D := D) (ci := 16) (v := .ref qa98) (ty := (tyX12 4)) (C := RX12) (T := TX12) (N := 34) hx hb hts (by decide +kernel) tyX12 tyX12_ok nmX12 hown hK hP hD hS k105 hk105 rfl 4 (by decide) (hts (.fieldLink RX12 38 "HobhouseModel" "trial" "[I") (by decide +kernel)) (fun _ h9 => h9) rfl hin rfl (by decide +kernel) (rfl) (rfl) (Nat.le_of_ble_eq_true rfl) dX12_init_45 (fun H locs hP2 hD2 hS => ?_)
  have e9 := wPuF (cy := cy) (j := 4) (v := (some qa98)) hD am104.1 am104.2.1 gk105 rfl
  have N106 : ∀ j9, j9 ∉ (3 :: 2 :: 1 :: 0 :: 77 :: [] : List Nat) → S94.F o1 j9 = none := by rw [← hS94]; exact fun j9 h9 => (sF_ne (fun q9 => h9 (by rw [q9.2]; exact List.mem_cons_self))).trans (N91 j9 (fun q9 => h9 (List.mem_cons_of_mem _ q9)))
  have Z107 : ∀ j9, j9 ∉ ([] : List Nat) → S94.I o1 j9 = 0 := by rw [← hS94]; exact Z92
  have am110 : isA S94 o1 12 := xm102.A h_o1
  have N108 : ∀ j9, j9 ∉ (3 :: 2 :: 1 :: 0 :: 77 :: [] : List Nat) → S99.F o1 j9 = none := by rw [← hS99]; exact fun j9 h9 => (nw_Fo hqa98 am110.1).trans (N106 j9 h9)
  have Z109 : ∀ j9, j9 ∉ ([] : List Nat) → S99.I o1 j9 = 0 := by rw [← hS99]; exact fun j9 h9 => (nw_Io hqa98 am110.1).trans (Z107 j9 h9)
  obtain ⟨S111, hS111⟩ : ∃ z, S99.sF o1 4 (some qa98) = z := ⟨_, rfl⟩
  replace hP : va_P D vwCl (X ++ PL cy S111) H := by rw [← hS111, ← e9]; exact hP2
  replace hD : va_D A (X ++ PL cy S111) := by rw [← hS111, ← e9]; exact hD2
  clear hP2 hD2 e9
  have xe112 : ext S99 S111 := by rw [← hS111]; exact ext.sF (N108 4 (by decide))
  have t113 : stp ([] : List (Nat × Nat)) [o1] (o1 :: R) S S111 := by rw [← hS111]; exact t101.F 4 qa98 List.mem_cons_self (Or.inl List.mem_cons_self) (N108 4 (by decide))
  have F114 : S111.F o1 4 = some qa98 := by rw [← hS111]; exact sF_eq
  refine lv_aload_n hx hb dX12_init_48 rfl (lv_at hl 0 rfl) ?_
  refine lv_bipush (v := 6) hx hb dX12_init_49 (by decide +kernel) ?_
  refine va_newa (atype := .char) hx hb (hts (.arrayClass .char) (by decide +kernel)) (ty := .char) rfl hK hP hD hS hA (N' := 6) (a0 := (6, .inl (fun _ => 0))) (fun _ => rfl) (by decide) (by decide) (by decide) (Nat.le_of_ble_eq_true rfl) (Nat.le_of_ble_eq_true rfl) dX12_init_51 (fun qa115 cqa115 H hK2 hP2 hD2 hS => ?_)
  obtain rfl : cqa115 = cy 1 := cls_char hK hK2
  have hqa115 : qa115 ∉ S111.L := nw_q hD2
  have e9 := wNw (cy := cy) (X := X) (S := S111) (a := qa115) (k := 16) (z := 6) (f := fun _ => 0) (g := fun _ => none) hqa115 rfl
  obtain ⟨S116, hS116⟩ : ∃ z, S111.nw qa115 16 6 (fun _ => 0) (fun _ => none) = z := ⟨_, rfl⟩
  replace hP : va_P D vwCl (X ++ PL cy S116) H := by rw [← hS116, ← e9]; exact hP2
  replace hD : va_D A (X ++ PL cy S116) := by rw [← hS116, ← e9]; exact hD2
  clear hP2 hD2 e9
  have xe117 : ext S111 S116 := by rw [← hS116]; exact ext.nw hqa115
  have t118 : stp ([] : List (Nat × Nat)) [o1] (o1 :: R) S S116 := by rw [← hS116]; exact t113.nwA hqa115 (by decide)
  refine W.widen (k := 6) (n := 36) (Nat.le_of_ble_eq_true rfl) (Nat.le_of_ble_eq_true rfl) ?_
  have aqa115 : isA S116 qa115 16 := by rw [← hS116]; exact nw_A (by decide)
  have nqa115 : S116.n qa115 = 6 := by rw [← hS116]; exact nw_n
  have xm119 : ext S S111 := xm103.tr xe112
  have xm120 : ext S S116 := xm119.tr xe117
  have am121 : isA S116 o1 12 := xm120.A h_o1
  obtain ⟨k122, gk122, hk122⟩ := wGt (cy := cy) X S116 am121.1 am121.2.1
  refine va_putF (D := D) (ci := 16) (v := .ref qa115) (ty := (tyX12 5)) (C := RX12) (T := TX12) (N := 34) hx hb hts (by decide +kernel) tyX12 tyX12_ok nmX12 hown hK hP hD hS k122 hk122 rfl 5 (by decide) (hts (.fieldLink RX12 41 "HobhouseModel" "kinds" "[C") (by decide +kernel)) (fun _ h9 => h9) rfl hin rfl (by decide +kernel) (rfl) (rfl) (Nat.le_of_ble_eq_true rfl) dX12_init_53 (fun H locs hP2 hD2 hS => ?_)
  have e9 := wPuF (cy := cy) (j := 5) (v := (some qa115)) hD am121.1 am121.2.1 gk122 rfl
  have N123 : ∀ j9, j9 ∉ (4 :: 3 :: 2 :: 1 :: 0 :: 77 :: [] : List Nat) → S111.F o1 j9 = none := by rw [← hS111]; exact fun j9 h9 => (sF_ne (fun q9 => h9 (by rw [q9.2]; exact List.mem_cons_self))).trans (N108 j9 (fun q9 => h9 (List.mem_cons_of_mem _ q9)))
  have Z124 : ∀ j9, j9 ∉ ([] : List Nat) → S111.I o1 j9 = 0 := by rw [← hS111]; exact Z109
  have am127 : isA S111 o1 12 := xm119.A h_o1
  have N125 : ∀ j9, j9 ∉ (4 :: 3 :: 2 :: 1 :: 0 :: 77 :: [] : List Nat) → S116.F o1 j9 = none := by rw [← hS116]; exact fun j9 h9 => (nw_Fo hqa115 am127.1).trans (N123 j9 h9)
  have Z126 : ∀ j9, j9 ∉ ([] : List Nat) → S116.I o1 j9 = 0 := by rw [← hS116]; exact fun j9 h9 => (nw_Io hqa115 am127.1).trans (Z124 j9 h9)
  obtain ⟨S128, hS128⟩ : ∃ z, S116.sF o1 5 (some qa115) = z := ⟨_, rfl⟩
  replace hP : va_P D vwCl (X ++ PL cy S128) H := by rw [← hS128, ← e9]; exact hP2
  replace hD : va_D A (X ++ PL cy S128) := by rw [← hS128, ← e9]; exact hD2
  clear hP2 hD2 e9
  have xe129 : ext S116 S128 := by rw [← hS128]; exact ext.sF (N125 5 (by decide))
  have t130 : stp ([] : List (Nat × Nat)) [o1] (o1 :: R) S S128 := by rw [← hS128]; exact t118.F 5 qa115 List.mem_cons_self (Or.inl List.mem_cons_self) (N125 5 (by decide))
  have F131 : S128.F o1 5 = some qa115 := by rw [← hS128]; exact sF_eq
  refine lv_aload_n hx hb dX12_init_56 rfl (lv_at hl 0 rfl) ?_
  refine lv_bipush (v := 6) hx hb dX12_init_57 (by decide +kernel) ?_
  refine va_newa (atype := .int) hx hb (hts (.arrayClass .int) (by decide +kernel)) (ty := .int) rfl hK hP hD hS hA (N' := 6) (a0 := (6, .inl (fun _ => 0))) (fun _ => rfl) (by decide) (by decide) (by decide) (Nat.le_of_ble_eq_true rfl) (Nat.le_of_ble_eq_true rfl) dX12_init_59 (fun qa132 cqa132 H hK2 hP2 hD2 hS => ?_)
  obtain rfl : cqa132 = cy 2 := cls_int hK hK2
  have hqa132 : qa132 ∉ S128.L := nw_q hD2
  have e9 := wNw (cy := cy) (X := X) (S := S128) (a := qa132) (k := 17) (z := 6) (f := fun _ => 0) (g := fun _ => none) hqa132 rfl
  obtain ⟨S133, hS133⟩ : ∃ z, S128.nw qa132 17 6 (fun _ => 0) (fun _ => none) = z := ⟨_, rfl⟩
  replace hP : va_P D vwCl (X ++ PL cy S133) H := by rw [← hS133, ← e9]; exact hP2
  replace hD : va_D A (X ++ PL cy S133) := by rw [← hS133, ← e9]; exact hD2
  clear hP2 hD2 e9
  have xe134 : ext S128 S133 := by rw [← hS133]; exact ext.nw hqa132
  have t135 : stp ([] : List (Nat × Nat)) [o1] (o1 :: R) S S133 := by rw [← hS133]; exact t130.nwA hqa132 (by decide)
  refine W.widen (k := 7) (n := 42) (Nat.le_of_ble_eq_true rfl) (Nat.le_of_ble_eq_true rfl) ?_
  have aqa132 : isA S133 qa132 17 := by rw [← hS133]; exact nw_A (by decide)
  have nqa132 : S133.n qa132 = 6 := by rw [← hS133]; exact nw_n
  have xm136 : ext S S128 := xm120.tr xe129
  have xm137 : ext S S133 := xm136.tr xe134
  have am138 : isA S133 o1 12 := xm137.A h_o1
  obtain ⟨k139, gk139, hk139⟩ := wGt (cy := cy) X S133 am138.1 am138.2.1
  refine va_putF (D := D) (ci := 16) (v := .ref qa132) (ty := (tyX12 6)) (C := RX12) (T := TX12) (N := 34) hx hb hts (by decide +kernel) tyX12 tyX12_ok nmX12 hown hK hP hD hS k139 hk139 rfl 6 (by decide) (hts (.fieldLink RX12 45 "HobhouseModel" "times" "[I") (by decide +kernel)) (fun _ h9 => h9) rfl hin rfl (by decide +kernel) (rfl) (rfl) (Nat.le_of_ble_eq_true rfl) dX12_init_61 (fun H locs hP2 hD2 hS => ?_)
  have e9 := wPuF (cy := cy) (j := 6) (v := (some qa132)) hD am138.1 am138.2.1 gk139 rfl
  have N140 : ∀ j9, j9 ∉ (5 :: 4 :: 3 :: 2 :: 1 :: 0 :: 77 :: [] : List Nat) → S128.F o1 j9 = none := by rw [← hS128]; exact fun j9 h9 => (sF_ne (fun q9 => h9 (by rw [q9.2]; exact List.mem_cons_self))).trans (N125 j9 (fun q9 => h9 (List.mem_cons_of_mem _ q9)))
  have Z141 : ∀ j9, j9 ∉ ([] : List Nat) → S128.I o1 j9 = 0 := by rw [← hS128]; exact Z126
  have am144 : isA S128 o1 12 := xm136.A h_o1
  have N142 : ∀ j9, j9 ∉ (5 :: 4 :: 3 :: 2 :: 1 :: 0 :: 77 :: [] : List Nat) → S133.F o1 j9 = none := by rw [← hS133]; exact fun j9 h9 => (nw_Fo hqa132 am144.1).trans (N140 j9 h9)
  have Z143 : ∀ j9, j9 ∉ ([] : List Nat) → S133.I o1 j9 = 0 := by rw [← hS133]; exact fun j9 h9 => (nw_Io hqa132 am144.1).trans (Z141 j9 h9)
  obtain ⟨S145, hS145⟩ : ∃ z, S133.sF o1 6 (some qa132) = z := ⟨_, rfl⟩
  replace hP : va_P D vwCl (X ++ PL cy S145) H := by rw [← hS145, ← e9]; exact hP2
  replace hD : va_D A (X ++ PL cy S145) := by rw [← hS145, ← e9]; exact hD2
  clear hP2 hD2 e9
  have xe146 : ext S133 S145 := by rw [← hS145]; exact ext.sF (N142 6 (by decide))
  have t147 : stp ([] : List (Nat × Nat)) [o1] (o1 :: R) S S145 := by rw [← hS145]; exact t135.F 6 qa132 List.mem_cons_self (Or.inl List.mem_cons_self) (N142 6 (by decide))
  have F148 : S145.F o1 6 = some qa132 := by rw [← hS145]; exact sF_eq
  refine lv_aload_n hx hb dX12_init_64 rfl (lv_at hl 0 rfl) ?_
  refine lv_bipush (v := 6) hx hb dX12_init_65 (by decide +kernel) ?_
  refine va_newa (atype := .int) hx hb (hts (.arrayClass .int) (by decide +kernel)) (ty := .int) rfl hK hP hD hS hA (N' := 6) (a0 := (6, .inl (fun _ => 0))) (fun _ => rfl) (by decide) (by decide) (by decide) (Nat.le_of_ble_eq_true rfl) (Nat.le_of_ble_eq_true rfl) dX12_init_67 (fun qa149 cqa149 H hK2 hP2 hD2 hS => ?_)
  obtain rfl : cqa149 = cy 2 := cls_int hK hK2
  have hqa149 : qa149 ∉ S145.L := nw_q hD2
  have e9 := wNw (cy := cy) (X := X) (S := S145) (a := qa149) (k := 17) (z := 6) (f := fun _ => 0) (g := fun _ => none) hqa149 rfl
  obtain ⟨S150, hS150⟩ : ∃ z, S145.nw qa149 17 6 (fun _ => 0) (fun _ => none) = z := ⟨_, rfl⟩
  replace hP : va_P D vwCl (X ++ PL cy S150) H := by rw [← hS150, ← e9]; exact hP2
  replace hD : va_D A (X ++ PL cy S150) := by rw [← hS150, ← e9]; exact hD2
  clear hP2 hD2 e9
  have xe151 : ext S145 S150 := by rw [← hS150]; exact ext.nw hqa149
  have t152 : stp ([] : List (Nat × Nat)) [o1] (o1 :: R) S S150 := by rw [← hS150]; exact t147.nwA hqa149 (by decide)
  refine W.widen (k := 8) (n := 48) (Nat.le_of_ble_eq_true rfl) (Nat.le_of_ble_eq_true rfl) ?_
  have aqa149 : isA S150 qa149 17 := by rw [← hS150]; exact nw_A (by decide)
  have nqa149 : S150.n qa149 = 6 := by rw [← hS150]; exact nw_n
  have xm153 : ext S S145 := xm137.tr xe146
  have xm154 : ext S S150 := xm153.tr xe151
  have am155 : isA S150 o1 12 := xm154.A h_o1
  obtain ⟨k156, gk156, hk156⟩ := wGt (cy := cy) X S150 am155.1 am155.2.1
  refine va_putF (D := D) (ci := 16) (v := .ref qa149) (ty := (tyX12 7)) (C := RX12) (T := TX12) (N := 34) hx hb hts (by decide +kernel) tyX12 tyX12_ok nmX12 hown hK hP hD hS k156 hk156 rfl 7 (by decide) (hts (.fieldLink RX12 48 "HobhouseModel" "tools" "[I") (by decide +kernel)) (fun _ h9 => h9) rfl hin rfl (by decide +kernel) (rfl) (rfl) (Nat.le_of_ble_eq_true rfl) dX12_init_69 (fun H locs hP2 hD2 hS => ?_)
  have e9 := wPuF (cy := cy) (j := 7) (v := (some qa149)) hD am155.1 am155.2.1 gk156 rfl
  have N157 : ∀ j9, j9 ∉ (6 :: 5 :: 4 :: 3 :: 2 :: 1 :: 0 :: 77 :: [] : List Nat) → S145.F o1 j9 = none := by rw [← hS145]; exact fun j9 h9 => (sF_ne (fun q9 => h9 (by rw [q9.2]; exact List.mem_cons_self))).trans (N142 j9 (fun q9 => h9 (List.mem_cons_of_mem _ q9)))
  have Z158 : ∀ j9, j9 ∉ ([] : List Nat) → S145.I o1 j9 = 0 := by rw [← hS145]; exact Z143
  have am161 : isA S145 o1 12 := xm153.A h_o1
  have N159 : ∀ j9, j9 ∉ (6 :: 5 :: 4 :: 3 :: 2 :: 1 :: 0 :: 77 :: [] : List Nat) → S150.F o1 j9 = none := by rw [← hS150]; exact fun j9 h9 => (nw_Fo hqa149 am161.1).trans (N157 j9 h9)
  have Z160 : ∀ j9, j9 ∉ ([] : List Nat) → S150.I o1 j9 = 0 := by rw [← hS150]; exact fun j9 h9 => (nw_Io hqa149 am161.1).trans (Z158 j9 h9)
  obtain ⟨S162, hS162⟩ : ∃ z, S150.sF o1 7 (some qa149) = z := ⟨_, rfl⟩
  replace hP : va_P D vwCl (X ++ PL cy S162) H := by rw [← hS162, ← e9]; exact hP2
  replace hD : va_D A (X ++ PL cy S162) := by rw [← hS162, ← e9]; exact hD2
  clear hP2 hD2 e9
  have xe163 : ext S150 S162 := by rw [← hS162]; exact ext.sF (N159 7 (by decide))
  have t164 : stp ([] : List (Nat × Nat)) [o1] (o1 :: R) S S162 := by rw [← hS162]; exact t152.F 7 qa149 List.mem_cons_self (Or.inl List.mem_cons_self) (N159 7 (by decide))
  have F165 : S162.F o1 7 = some qa149 := by rw [← hS162]; exact sF_eq
  refine lv_aload_n hx hb dX12_init_72 rfl (lv_at hl 0 rfl) ?_
  refine lv_bipush (v := 6) hx hb dX12_init_73 (by decide +kernel) ?_
  refine va_newa (atype := .int) hx hb (hts (.arrayClass .int) (by decide +kernel)) (ty := .int) rfl hK hP hD hS hA (N' := 6) (a0 := (6, .inl (fun _ => 0))) (fun _ => rfl) (by decide) (by decide) (by decide) (Nat.le_of_ble_eq_true rfl) (Nat.le_of_ble_eq_true rfl) dX12_init_75 (fun qa166 cqa166 H hK2 hP2 hD2 hS => ?_)
  obtain rfl : cqa166 = cy 2 := cls_int hK hK2
  have hqa166 : qa166 ∉ S162.L := nw_q hD2
  have e9 := wNw (cy := cy) (X := X) (S := S162) (a := qa166) (k := 17) (z := 6) (f := fun _ => 0) (g := fun _ => none) hqa166 rfl
  obtain ⟨S167, hS167⟩ : ∃ z, S162.nw qa166 17 6 (fun _ => 0) (fun _ => none) = z := ⟨_, rfl⟩
  replace hP : va_P D vwCl (X ++ PL cy S167) H := by rw [← hS167, ← e9]; exact hP2
  replace hD : va_D A (X ++ PL cy S167) := by rw [← hS167, ← e9]; exact hD2
  clear hP2 hD2 e9
  have xe168 : ext S162 S167 := by rw [← hS167]; exact ext.nw hqa166
  have t169 : stp ([] : List (Nat × Nat)) [o1] (o1 :: R) S S167 := by rw [← hS167]; exact t164.nwA hqa166 (by decide)
  refine W.widen (k := 9) (n := 54) (Nat.le_of_ble_eq_true rfl) (Nat.le_of_ble_eq_true rfl) ?_
  have aqa166 : isA S167 qa166 17 := by rw [← hS167]; exact nw_A (by decide)
  have nqa166 : S167.n qa166 = 6 := by rw [← hS167]; exact nw_n
  have xm170 : ext S S162 := xm154.tr xe163
  have xm171 : ext S S167 := xm170.tr xe168
  have am172 : isA S167 o1 12 := xm171.A h_o1
  obtain ⟨k173, gk173, hk173⟩ := wGt (cy := cy) X S167 am172.1 am172.2.1
  refine va_putF (D := D) (ci := 16) (v := .ref qa166) (ty := (tyX12 8)) (C := RX12) (T := TX12) (N := 34) hx hb hts (by decide +kernel) tyX12 tyX12_ok nmX12 hown hK hP hD hS k173 hk173 rfl 8 (by decide) (hts (.fieldLink RX12 51 "HobhouseModel" "frees" "[I") (by decide +kernel)) (fun _ h9 => h9) rfl hin rfl (by decide +kernel) (rfl) (rfl) (Nat.le_of_ble_eq_true rfl) dX12_init_77 (fun H locs hP2 hD2 hS => ?_)
  have e9 := wPuF (cy := cy) (j := 8) (v := (some qa166)) hD am172.1 am172.2.1 gk173 rfl
  have N174 : ∀ j9, j9 ∉ (7 :: 6 :: 5 :: 4 :: 3 :: 2 :: 1 :: 0 :: 77 :: [] : List Nat) → S162.F o1 j9 = none := by rw [← hS162]; exact fun j9 h9 => (sF_ne (fun q9 => h9 (by rw [q9.2]; exact List.mem_cons_self))).trans (N159 j9 (fun q9 => h9 (List.mem_cons_of_mem _ q9)))
  have Z175 : ∀ j9, j9 ∉ ([] : List Nat) → S162.I o1 j9 = 0 := by rw [← hS162]; exact Z160
  have am178 : isA S162 o1 12 := xm170.A h_o1
  have N176 : ∀ j9, j9 ∉ (7 :: 6 :: 5 :: 4 :: 3 :: 2 :: 1 :: 0 :: 77 :: [] : List Nat) → S167.F o1 j9 = none := by rw [← hS167]; exact fun j9 h9 => (nw_Fo hqa166 am178.1).trans (N174 j9 h9)
  have Z177 : ∀ j9, j9 ∉ ([] : List Nat) → S167.I o1 j9 = 0 := by rw [← hS167]; exact fun j9 h9 => (nw_Io hqa166 am178.1).trans (Z175 j9 h9)
  obtain ⟨S179, hS179⟩ : ∃ z, S167.sF o1 8 (some qa166) = z := ⟨_, rfl⟩
  replace hP : va_P D vwCl (X ++ PL cy S179) H := by rw [← hS179, ← e9]; exact hP2
  replace hD : va_D A (X ++ PL cy S179) := by rw [← hS179, ← e9]; exact hD2
  clear hP2 hD2 e9
  have xe180 : ext S167 S179 := by rw [← hS179]; exact ext.sF (N176 8 (by decide))
  have t181 : stp ([] : List (Nat × Nat)) [o1] (o1 :: R) S S179 := by rw [← hS179]; exact t169.F 8 qa166 List.mem_cons_self (Or.inl List.mem_cons_self) (N176 8 (by decide))
  have F182 : S179.F o1 8 = some qa166 := by rw [← hS179]; exact sF_eq
  refine lv_aload_n hx hb dX12_init_80 rfl (lv_at hl 0 rfl) ?_
  refine lv_iconst (v := 4) hx hb dX12_init_81 (by decide) ?_
  refine va_newa (atype := .int) hx hb (hts (.arrayClass .int) (by decide +kernel)) (ty := .int) rfl hK hP hD hS hA (N' := 4) (a0 := (4, .inl (fun _ => 0))) (fun _ => rfl) (by decide) (by decide) (by decide) (Nat.le_of_ble_eq_true rfl) (Nat.le_of_ble_eq_true rfl) dX12_init_82 (fun qa183 cqa183 H hK2 hP2 hD2 hS => ?_)
  obtain rfl : cqa183 = cy 2 := cls_int hK hK2
  have hqa183 : qa183 ∉ S179.L := nw_q hD2
  have e9 := wNw (cy := cy) (X := X) (S := S179) (a := qa183) (k := 23) (z := 4) (f := fun _ => 0) (g := fun _ => none) hqa183 rfl
  obtain ⟨S184, hS184⟩ : ∃ z, S179.nw qa183 23 4 (fun _ => 0) (fun _ => none) = z := ⟨_, rfl⟩
  replace hP : va_P D vwCl (X ++ PL cy S184) H := by rw [← hS184, ← e9]; exact hP2
  replace hD : va_D A (X ++ PL cy S184) := by rw [← hS184, ← e9]; exact hD2
  clear hP2 hD2 e9
  have xe185 : ext S179 S184 := by rw [← hS184]; exact ext.nw hqa183
  have t186 : stp ([] : List (Nat × Nat)) [o1] (o1 :: R) S S184 := by rw [← hS184]; exact t181.nwA hqa183 (by decide)
  refine W.widen (k := 10) (n := 58) (Nat.le_of_ble_eq_true rfl) (Nat.le_of_ble_eq_true rfl) ?_
  have aqa183 : isA S184 qa183 23 := by rw [← hS184]; exact nw_A (by decide)
  have nqa183 : S184.n qa183 = 4 := by rw [← hS184]; exact nw_n
  have zqa183 : ∀ j9, S184.i qa183 j9 = 0 := by rw [← hS184]; exact fun j9 => congrFun (up_qq (f := S179.i)) j9
  have xm187 : ext S S179 := xm171.tr xe180
  have xm188 : ext S S184 := xm187.tr xe185
  have am189 : isA S184 o1 12 := xm188.A h_o1
  obtain ⟨k190, gk190, hk190⟩ := wGt (cy := cy) X S184 am189.1 am189.2.1
  refine va_putF (D := D) (ci := 16) (v := .ref qa183) (ty := (tyX12 9)) (C := RX12) (T := TX12) (N := 34) hx hb hts (by decide +kernel) tyX12 tyX12_ok nmX12 hown hK hP hD hS k190 hk190 rfl 9 (by decide) (hts (.fieldLink RX12 54 "HobhouseModel" "pairFirst" "[I") (by decide +kernel)) (fun _ h9 => h9) rfl hin rfl (by decide +kernel) (rfl) (rfl) (Nat.le_of_ble_eq_true rfl) dX12_init_84 (fun H locs hP2 hD2 hS => ?_)
  have e9 := wPuF (cy := cy) (j := 9) (v := (some qa183)) hD am189.1 am189.2.1 gk190 rfl
  have N191 : ∀ j9, j9 ∉ (8 :: 7 :: 6 :: 5 :: 4 :: 3 :: 2 :: 1 :: 0 :: 77 :: [] : List Nat) → S179.F o1 j9 = none := by rw [← hS179]; exact fun j9 h9 => (sF_ne (fun q9 => h9 (by rw [q9.2]; exact List.mem_cons_self))).trans (N176 j9 (fun q9 => h9 (List.mem_cons_of_mem _ q9)))
  have Z192 : ∀ j9, j9 ∉ ([] : List Nat) → S179.I o1 j9 = 0 := by rw [← hS179]; exact Z177
  have am195 : isA S179 o1 12 := xm187.A h_o1
  have N193 : ∀ j9, j9 ∉ (8 :: 7 :: 6 :: 5 :: 4 :: 3 :: 2 :: 1 :: 0 :: 77 :: [] : List Nat) → S184.F o1 j9 = none := by rw [← hS184]; exact fun j9 h9 => (nw_Fo hqa183 am195.1).trans (N191 j9 h9)
  have Z194 : ∀ j9, j9 ∉ ([] : List Nat) → S184.I o1 j9 = 0 := by rw [← hS184]; exact fun j9 h9 => (nw_Io hqa183 am195.1).trans (Z192 j9 h9)
  obtain ⟨S196, hS196⟩ : ∃ z, S184.sF o1 9 (some qa183) = z := ⟨_, rfl⟩
  replace hP : va_P D vwCl (X ++ PL cy S196) H := by rw [← hS196, ← e9]; exact hP2
  replace hD : va_D A (X ++ PL cy S196) := by rw [← hS196, ← e9]; exact hD2
  clear hP2 hD2 e9
  have xe197 : ext S184 S196 := by rw [← hS196]; exact ext.sF (N193 9 (by decide))
  have t198 : stp ([] : List (Nat × Nat)) [o1] (o1 :: R) S S196 := by rw [← hS196]; exact t186.F 9 qa183 List.mem_cons_self (Or.inl List.mem_cons_self) (N193 9 (by decide))
  have z199 : ∀ j9, S196.i qa183 j9 = 0 := by rw [← hS196]; exact zqa183
  have F200 : S196.F o1 9 = some qa183 := by rw [← hS196]; exact sF_eq
  refine lv_aload_n hx hb dX12_init_87 rfl (lv_at hl 0 rfl) ?_
  refine lv_iconst (v := 4) hx hb dX12_init_88 (by decide) ?_
  refine va_newa (atype := .int) hx hb (hts (.arrayClass .int) (by decide +kernel)) (ty := .int) rfl hK hP hD hS hA (N' := 4) (a0 := (4, .inl (fun _ => 0))) (fun _ => rfl) (by decide) (by decide) (by decide) (Nat.le_of_ble_eq_true rfl) (Nat.le_of_ble_eq_true rfl) dX12_init_89 (fun qa201 cqa201 H hK2 hP2 hD2 hS => ?_)
  obtain rfl : cqa201 = cy 2 := cls_int hK hK2
  have hqa201 : qa201 ∉ S196.L := nw_q hD2
  have e9 := wNw (cy := cy) (X := X) (S := S196) (a := qa201) (k := 23) (z := 4) (f := fun _ => 0) (g := fun _ => none) hqa201 rfl
  obtain ⟨S202, hS202⟩ : ∃ z, S196.nw qa201 23 4 (fun _ => 0) (fun _ => none) = z := ⟨_, rfl⟩
  replace hP : va_P D vwCl (X ++ PL cy S202) H := by rw [← hS202, ← e9]; exact hP2
  replace hD : va_D A (X ++ PL cy S202) := by rw [← hS202, ← e9]; exact hD2
  clear hP2 hD2 e9
  have xe203 : ext S196 S202 := by rw [← hS202]; exact ext.nw hqa201
  have t204 : stp ([] : List (Nat × Nat)) [o1] (o1 :: R) S S202 := by rw [← hS202]; exact t198.nwA hqa201 (by decide)
  have am206 : isA S196 qa183 23 := xe197.A aqa183
  have z205 : ∀ j9, S202.i qa183 j9 = 0 := by rw [← hS202]; exact fun j9 => (congrFun (up_nq (f := S196.i) (fun e9 : qa183 = qa201 => hqa201 (e9 ▸ am206.1))) j9).trans (z199 j9)
  refine W.widen (k := 11) (n := 62) (Nat.le_of_ble_eq_true rfl) (Nat.le_of_ble_eq_true rfl) ?_
  have aqa201 : isA S202 qa201 23 := by rw [← hS202]; exact nw_A (by decide)
  have nqa201 : S202.n qa201 = 4 := by rw [← hS202]; exact nw_n
  have zqa201 : ∀ j9, S202.i qa201 j9 = 0 := by rw [← hS202]; exact fun j9 => congrFun (up_qq (f := S196.i)) j9
  have xm207 : ext S S196 := xm188.tr xe197
  have xm208 : ext S S202 := xm207.tr xe203
  have am209 : isA S202 o1 12 := xm208.A h_o1
  obtain ⟨k210, gk210, hk210⟩ := wGt (cy := cy) X S202 am209.1 am209.2.1
  refine va_putF (D := D) (ci := 16) (v := .ref qa201) (ty := (tyX12 10)) (C := RX12) (T := TX12) (N := 34) hx hb hts (by decide +kernel) tyX12 tyX12_ok nmX12 hown hK hP hD hS k210 hk210 rfl 10 (by decide) (hts (.fieldLink RX12 57 "HobhouseModel" "pairSecond" "[I") (by decide +kernel)) (fun _ h9 => h9) rfl hin rfl (by decide +kernel) (rfl) (rfl) (Nat.le_of_ble_eq_true rfl) dX12_init_91 (fun H locs hP2 hD2 hS => ?_)
  have e9 := wPuF (cy := cy) (j := 10) (v := (some qa201)) hD am209.1 am209.2.1 gk210 rfl
  have N211 : ∀ j9, j9 ∉ (9 :: 8 :: 7 :: 6 :: 5 :: 4 :: 3 :: 2 :: 1 :: 0 :: 77 :: [] : List Nat) → S196.F o1 j9 = none := by rw [← hS196]; exact fun j9 h9 => (sF_ne (fun q9 => h9 (by rw [q9.2]; exact List.mem_cons_self))).trans (N193 j9 (fun q9 => h9 (List.mem_cons_of_mem _ q9)))
  have Z212 : ∀ j9, j9 ∉ ([] : List Nat) → S196.I o1 j9 = 0 := by rw [← hS196]; exact Z194
  have am215 : isA S196 o1 12 := xm207.A h_o1
  have N213 : ∀ j9, j9 ∉ (9 :: 8 :: 7 :: 6 :: 5 :: 4 :: 3 :: 2 :: 1 :: 0 :: 77 :: [] : List Nat) → S202.F o1 j9 = none := by rw [← hS202]; exact fun j9 h9 => (nw_Fo hqa201 am215.1).trans (N211 j9 h9)
  have Z214 : ∀ j9, j9 ∉ ([] : List Nat) → S202.I o1 j9 = 0 := by rw [← hS202]; exact fun j9 h9 => (nw_Io hqa201 am215.1).trans (Z212 j9 h9)
  obtain ⟨S216, hS216⟩ : ∃ z, S202.sF o1 10 (some qa201) = z := ⟨_, rfl⟩
  replace hP : va_P D vwCl (X ++ PL cy S216) H := by rw [← hS216, ← e9]; exact hP2
  replace hD : va_D A (X ++ PL cy S216) := by rw [← hS216, ← e9]; exact hD2
  clear hP2 hD2 e9
  have xe217 : ext S202 S216 := by rw [← hS216]; exact ext.sF (N213 10 (by decide))
  have t218 : stp ([] : List (Nat × Nat)) [o1] (o1 :: R) S S216 := by rw [← hS216]; exact t204.F 10 qa201 List.mem_cons_self (Or.inl List.mem_cons_self) (N213 10 (by decide))
  have z219 : ∀ j9, S216.i qa183 j9 = 0 := by rw [← hS216]; exact z205
  have z220 : ∀ j9, S216.i qa201 j9 = 0 := by rw [← hS216]; exact zqa201
  have F221 : S216.F o1 10 = some qa201 := by rw [← hS216]; exact sF_eq
  refine lv_aload_n hx hb dX12_init_94 rfl (lv_at hl 0 rfl) ?_
  refine lv_iconst (v := 4) hx hb dX12_init_95 (by decide) ?_
  refine va_newa (atype := .int) hx hb (hts (.arrayClass .int) (by decide +kernel)) (ty := .int) rfl hK hP hD hS hA (N' := 4) (a0 := (4, .inl (fun _ => 0))) (fun _ => rfl) (by decide) (by decide) (by decide) (Nat.le_of_ble_eq_true rfl) (Nat.le_of_ble_eq_true rfl) dX12_init_96 (fun qa222 cqa222 H hK2 hP2 hD2 hS => ?_)
  obtain rfl : cqa222 = cy 2 := cls_int hK hK2
  have hqa222 : qa222 ∉ S216.L := nw_q hD2
  have e9 := wNw (cy := cy) (X := X) (S := S216) (a := qa222) (k := 23) (z := 4) (f := fun _ => 0) (g := fun _ => none) hqa222 rfl
  obtain ⟨S223, hS223⟩ : ∃ z, S216.nw qa222 23 4 (fun _ => 0) (fun _ => none) = z := ⟨_, rfl⟩
  replace hP : va_P D vwCl (X ++ PL cy S223) H := by rw [← hS223, ← e9]; exact hP2
  replace hD : va_D A (X ++ PL cy S223) := by rw [← hS223, ← e9]; exact hD2
  clear hP2 hD2 e9
  have xe224 : ext S216 S223 := by rw [← hS223]; exact ext.nw hqa222
  have t225 : stp ([] : List (Nat × Nat)) [o1] (o1 :: R) S S223 := by rw [← hS223]; exact t218.nwA hqa222 (by decide)
  have xm227 : ext S184 S202 := xe197.tr xe203
  have xm228 : ext S184 S216 := xm227.tr xe217
  have am229 : isA S216 qa183 23 := xm228.A aqa183
  have z226 : ∀ j9, S223.i qa183 j9 = 0 := by rw [← hS223]; exact fun j9 => (congrFun (up_nq (f := S216.i) (fun e9 : qa183 = qa222 => hqa222 (e9 ▸ am229.1))) j9).trans (z219 j9)
  have am231 : isA S216 qa201 23 := xe217.A aqa201
  have z230 : ∀ j9, S223.i qa201 j9 = 0 := by rw [← hS223]; exact fun j9 => (congrFun (up_nq (f := S216.i) (fun e9 : qa201 = qa222 => hqa222 (e9 ▸ am231.1))) j9).trans (z220 j9)
  refine W.widen (k := 12) (n := 66) (Nat.le_of_ble_eq_true rfl) (Nat.le_of_ble_eq_true rfl) ?_
  have aqa222 : isA S223 qa222 23 := by rw [← hS223]; exact nw_A (by decide)
  have nqa222 : S223.n qa222 = 4 := by rw [← hS223]; exact nw_n
  have zqa222 : ∀ j9, S223.i qa222 j9 = 0 := by rw [← hS223]; exact fun j9 => congrFun (up_qq (f := S216.i)) j9
  have xm232 : ext S S216 := xm208.tr xe217
  have xm233 : ext S S223 := xm232.tr xe224
  have am234 : isA S223 o1 12 := xm233.A h_o1
  obtain ⟨k235, gk235, hk235⟩ := wGt (cy := cy) X S223 am234.1 am234.2.1
  refine va_putF (D := D) (ci := 16) (v := .ref qa222) (ty := (tyX12 11)) (C := RX12) (T := TX12) (N := 34) hx hb hts (by decide +kernel) tyX12 tyX12_ok nmX12 hown hK hP hD hS k235 hk235 rfl 11 (by decide) (hts (.fieldLink RX12 60 "HobhouseModel" "bestFirst" "[I") (by decide +kernel)) (fun _ h9 => h9) rfl hin rfl (by decide +kernel) (rfl) (rfl) (Nat.le_of_ble_eq_true rfl) dX12_init_98 (fun H locs hP2 hD2 hS => ?_)
  have e9 := wPuF (cy := cy) (j := 11) (v := (some qa222)) hD am234.1 am234.2.1 gk235 rfl
  have N236 : ∀ j9, j9 ∉ (10 :: 9 :: 8 :: 7 :: 6 :: 5 :: 4 :: 3 :: 2 :: 1 :: 0 :: 77 :: [] : List Nat) → S216.F o1 j9 = none := by rw [← hS216]; exact fun j9 h9 => (sF_ne (fun q9 => h9 (by rw [q9.2]; exact List.mem_cons_self))).trans (N213 j9 (fun q9 => h9 (List.mem_cons_of_mem _ q9)))
  have Z237 : ∀ j9, j9 ∉ ([] : List Nat) → S216.I o1 j9 = 0 := by rw [← hS216]; exact Z214
  have am240 : isA S216 o1 12 := xm232.A h_o1
  have N238 : ∀ j9, j9 ∉ (10 :: 9 :: 8 :: 7 :: 6 :: 5 :: 4 :: 3 :: 2 :: 1 :: 0 :: 77 :: [] : List Nat) → S223.F o1 j9 = none := by rw [← hS223]; exact fun j9 h9 => (nw_Fo hqa222 am240.1).trans (N236 j9 h9)
  have Z239 : ∀ j9, j9 ∉ ([] : List Nat) → S223.I o1 j9 = 0 := by rw [← hS223]; exact fun j9 h9 => (nw_Io hqa222 am240.1).trans (Z237 j9 h9)
  obtain ⟨S241, hS241⟩ : ∃ z, S223.sF o1 11 (some qa222) = z := ⟨_, rfl⟩
  replace hP : va_P D vwCl (X ++ PL cy S241) H := by rw [← hS241, ← e9]; exact hP2
  replace hD : va_D A (X ++ PL cy S241) := by rw [← hS241, ← e9]; exact hD2
  clear hP2 hD2 e9
  have xe242 : ext S223 S241 := by rw [← hS241]; exact ext.sF (N238 11 (by decide))
  have t243 : stp ([] : List (Nat × Nat)) [o1] (o1 :: R) S S241 := by rw [← hS241]; exact t225.F 11 qa222 List.mem_cons_self (Or.inl List.mem_cons_self) (N238 11 (by decide))
  have z244 : ∀ j9, S241.i qa183 j9 = 0 := by rw [← hS241]; exact z226
  have z245 : ∀ j9, S241.i qa201 j9 = 0 := by rw [← hS241]; exact z230
  have z246 : ∀ j9, S241.i qa222 j9 = 0 := by rw [← hS241]; exact zqa222
  have F247 : S241.F o1 11 = some qa222 := by rw [← hS241]; exact sF_eq
  refine lv_aload_n hx hb dX12_init_101 rfl (lv_at hl 0 rfl) ?_
  refine lv_iconst (v := 4) hx hb dX12_init_102 (by decide) ?_
  refine va_newa (atype := .int) hx hb (hts (.arrayClass .int) (by decide +kernel)) (ty := .int) rfl hK hP hD hS hA (N' := 4) (a0 := (4, .inl (fun _ => 0))) (fun _ => rfl) (by decide) (by decide) (by decide) (Nat.le_of_ble_eq_true rfl) (Nat.le_of_ble_eq_true rfl) dX12_init_103 (fun qa248 cqa248 H hK2 hP2 hD2 hS => ?_)
  obtain rfl : cqa248 = cy 2 := cls_int hK hK2
  have hqa248 : qa248 ∉ S241.L := nw_q hD2
  have e9 := wNw (cy := cy) (X := X) (S := S241) (a := qa248) (k := 23) (z := 4) (f := fun _ => 0) (g := fun _ => none) hqa248 rfl
  obtain ⟨S249, hS249⟩ : ∃ z, S241.nw qa248 23 4 (fun _ => 0) (fun _ => none) = z := ⟨_, rfl⟩
  replace hP : va_P D vwCl (X ++ PL cy S249) H := by rw [← hS249, ← e9]; exact hP2
  replace hD : va_D A (X ++ PL cy S249) := by rw [← hS249, ← e9]; exact hD2
  clear hP2 hD2 e9
  have xe250 : ext S241 S249 := by rw [← hS249]; exact ext.nw hqa248
  have t251 : stp ([] : List (Nat × Nat)) [o1] (o1 :: R) S S249 := by rw [← hS249]; exact t243.nwA hqa248 (by decide)
  have xm253 : ext S184 S223 := xm228.tr xe224
  have xm254 : ext S184 S241 := xm253.tr xe242
  have am255 : isA S241 qa183 23 := xm254.A aqa183
  have z252 : ∀ j9, S249.i qa183 j9 = 0 := by rw [← hS249]; exact fun j9 => (congrFun (up_nq (f := S241.i) (fun e9 : qa183 = qa248 => hqa248 (e9 ▸ am255.1))) j9).trans (z244 j9)
  have xm257 : ext S202 S223 := xe217.tr xe224
  have xm258 : ext S202 S241 := xm257.tr xe242
  have am259 : isA S241 qa201 23 := xm258.A aqa201
  have z256 : ∀ j9, S249.i qa201 j9 = 0 := by rw [← hS249]; exact fun j9 => (congrFun (up_nq (f := S241.i) (fun e9 : qa201 = qa248 => hqa248 (e9 ▸ am259.1))) j9).trans (z245 j9)
  have am261 : isA S241 qa222 23 := xe242.A aqa222
  have z260 : ∀ j9, S249.i qa222 j9 = 0 := by rw [← hS249]; exact fun j9 => (congrFun (up_nq (f := S241.i) (fun e9 : qa222 = qa248 => hqa248 (e9 ▸ am261.1))) j9).trans (z246 j9)
  refine W.widen (k := 13) (n := 70) (Nat.le_of_ble_eq_true rfl) (Nat.le_of_ble_eq_true rfl) ?_
  have aqa248 : isA S249 qa248 23 := by rw [← hS249]; exact nw_A (by decide)
  have nqa248 : S249.n qa248 = 4 := by rw [← hS249]; exact nw_n
  have zqa248 : ∀ j9, S249.i qa248 j9 = 0 := by rw [← hS249]; exact fun j9 => congrFun (up_qq (f := S241.i)) j9
  have xm262 : ext S S241 := xm233.tr xe242
  have xm263 : ext S S249 := xm262.tr xe250
  have am264 : isA S249 o1 12 := xm263.A h_o1
  obtain ⟨k265, gk265, hk265⟩ := wGt (cy := cy) X S249 am264.1 am264.2.1
  refine va_putF (D := D) (ci := 16) (v := .ref qa248) (ty := (tyX12 12)) (C := RX12) (T := TX12) (N := 34) hx hb hts (by decide +kernel) tyX12 tyX12_ok nmX12 hown hK hP hD hS k265 hk265 rfl 12 (by decide) (hts (.fieldLink RX12 63 "HobhouseModel" "bestSecond" "[I") (by decide +kernel)) (fun _ h9 => h9) rfl hin rfl (by decide +kernel) (rfl) (rfl) (Nat.le_of_ble_eq_true rfl) dX12_init_105 (fun H locs hP2 hD2 hS => ?_)
  have e9 := wPuF (cy := cy) (j := 12) (v := (some qa248)) hD am264.1 am264.2.1 gk265 rfl
  have N266 : ∀ j9, j9 ∉ (11 :: 10 :: 9 :: 8 :: 7 :: 6 :: 5 :: 4 :: 3 :: 2 :: 1 :: 0 :: 77 :: [] : List Nat) → S241.F o1 j9 = none := by rw [← hS241]; exact fun j9 h9 => (sF_ne (fun q9 => h9 (by rw [q9.2]; exact List.mem_cons_self))).trans (N238 j9 (fun q9 => h9 (List.mem_cons_of_mem _ q9)))
  have Z267 : ∀ j9, j9 ∉ ([] : List Nat) → S241.I o1 j9 = 0 := by rw [← hS241]; exact Z239
  have am270 : isA S241 o1 12 := xm262.A h_o1
  have N268 : ∀ j9, j9 ∉ (11 :: 10 :: 9 :: 8 :: 7 :: 6 :: 5 :: 4 :: 3 :: 2 :: 1 :: 0 :: 77 :: [] : List Nat) → S249.F o1 j9 = none := by rw [← hS249]; exact fun j9 h9 => (nw_Fo hqa248 am270.1).trans (N266 j9 h9)
  have Z269 : ∀ j9, j9 ∉ ([] : List Nat) → S249.I o1 j9 = 0 := by rw [← hS249]; exact fun j9 h9 => (nw_Io hqa248 am270.1).trans (Z267 j9 h9)
  obtain ⟨S271, hS271⟩ : ∃ z, S249.sF o1 12 (some qa248) = z := ⟨_, rfl⟩
  replace hP : va_P D vwCl (X ++ PL cy S271) H := by rw [← hS271, ← e9]; exact hP2
  replace hD : va_D A (X ++ PL cy S271) := by rw [← hS271, ← e9]; exact hD2
  clear hP2 hD2 e9
  have xe272 : ext S249 S271 := by rw [← hS271]; exact ext.sF (N268 12 (by decide))
  have t273 : stp ([] : List (Nat × Nat)) [o1] (o1 :: R) S S271 := by rw [← hS271]; exact t251.F 12 qa248 List.mem_cons_self (Or.inl List.mem_cons_self) (N268 12 (by decide))
  have z274 : ∀ j9, S271.i qa183 j9 = 0 := by rw [← hS271]; exact z252
  have z275 : ∀ j9, S271.i qa201 j9 = 0 := by rw [← hS271]; exact z256
  have z276 : ∀ j9, S271.i qa222 j9 = 0 := by rw [← hS271]; exact z260
  have z277 : ∀ j9, S271.i qa248 j9 = 0 := by rw [← hS271]; exact zqa248
  have F278 : S271.F o1 12 = some qa248 := by rw [← hS271]; exact sF_eq
  refine lv_aload_n hx hb dX12_init_108 rfl (lv_at hl 0 rfl) ?_
  refine lv_iconst (v := 5) hx hb dX12_init_109 (by decide) ?_
  refine va_newa (atype := .int) hx hb (hts (.arrayClass .int) (by decide +kernel)) (ty := .int) rfl hK hP hD hS hA (N' := 5) (a0 := (5, .inl (fun _ => 0))) (fun _ => rfl) (by decide) (by decide) (by decide) (Nat.le_of_ble_eq_true rfl) (Nat.le_of_ble_eq_true rfl) dX12_init_110 (fun qa279 cqa279 H hK2 hP2 hD2 hS => ?_)
  obtain rfl : cqa279 = cy 2 := cls_int hK hK2
  have hqa279 : qa279 ∉ S271.L := nw_q hD2
  have e9 := wNw (cy := cy) (X := X) (S := S271) (a := qa279) (k := 23) (z := 5) (f := fun _ => 0) (g := fun _ => none) hqa279 rfl
  obtain ⟨S280, hS280⟩ : ∃ z, S271.nw qa279 23 5 (fun _ => 0) (fun _ => none) = z := ⟨_, rfl⟩
  replace hP : va_P D vwCl (X ++ PL cy S280) H := by rw [← hS280, ← e9]; exact hP2
  replace hD : va_D A (X ++ PL cy S280) := by rw [← hS280, ← e9]; exact hD2
  clear hP2 hD2 e9
  have xe281 : ext S271 S280 := by rw [← hS280]; exact ext.nw hqa279
  have t282 : stp ([] : List (Nat × Nat)) [o1] (o1 :: R) S S280 := by rw [← hS280]; exact t273.nwA hqa279 (by decide)
  have xm284 : ext S184 S249 := xm254.tr xe250
  have xm285 : ext S184 S271 := xm284.tr xe272
  have am286 : isA S271 qa183 23 := xm285.A aqa183
  have z283 : ∀ j9, S280.i qa183 j9 = 0 := by rw [← hS280]; exact fun j9 => (congrFun (up_nq (f := S271.i) (fun e9 : qa183 = qa279 => hqa279 (e9 ▸ am286.1))) j9).trans (z274 j9)
  have xm288 : ext S202 S249 := xm258.tr xe250
  have xm289 : ext S202 S271 := xm288.tr xe272
  have am290 : isA S271 qa201 23 := xm289.A aqa201
  have z287 : ∀ j9, S280.i qa201 j9 = 0 := by rw [← hS280]; exact fun j9 => (congrFun (up_nq (f := S271.i) (fun e9 : qa201 = qa279 => hqa279 (e9 ▸ am290.1))) j9).trans (z275 j9)
  have xm292 : ext S223 S249 := xe242.tr xe250
  have xm293 : ext S223 S271 := xm292.tr xe272
  have am294 : isA S271 qa222 23 := xm293.A aqa222
  have z291 : ∀ j9, S280.i qa222 j9 = 0 := by rw [← hS280]; exact fun j9 => (congrFun (up_nq (f := S271.i) (fun e9 : qa222 = qa279 => hqa279 (e9 ▸ am294.1))) j9).trans (z276 j9)
  have am296 : isA S271 qa248 23 := xe272.A aqa248
  have z295 : ∀ j9, S280.i qa248 j9 = 0 := by rw [← hS280]; exact fun j9 => (congrFun (up_nq (f := S271.i) (fun e9 : qa248 = qa279 => hqa279 (e9 ▸ am296.1))) j9).trans (z277 j9)
  refine W.widen (k := 14) (n := 75) (Nat.le_of_ble_eq_true rfl) (Nat.le_of_ble_eq_true rfl) ?_
  have aqa279 : isA S280 qa279 23 := by rw [← hS280]; exact nw_A (by decide)
  have nqa279 : S280.n qa279 = 5 := by rw [← hS280]; exact nw_n
  have zqa279 : ∀ j9, S280.i qa279 j9 = 0 := by rw [← hS280]; exact fun j9 => congrFun (up_qq (f := S271.i)) j9
  have xm297 : ext S S271 := xm263.tr xe272
  have xm298 : ext S S280 := xm297.tr xe281
  have am299 : isA S280 o1 12 := xm298.A h_o1
  obtain ⟨k300, gk300, hk300⟩ := wGt (cy := cy) X S280 am299.1 am299.2.1
  refine va_putF (D := D) (ci := 16) (v := .ref qa279) (ty := (tyX12 13)) (C := RX12) (T := TX12) (N := 34) hx hb hts (by decide +kernel) tyX12 tyX12_ok nmX12 hown hK hP hD hS k300 hk300 rfl 13 (by decide) (hts (.fieldLink RX12 66 "HobhouseModel" "firsts" "[I") (by decide +kernel)) (fun _ h9 => h9) rfl hin rfl (by decide +kernel) (rfl) (rfl) (Nat.le_of_ble_eq_true rfl) dX12_init_112 (fun H locs hP2 hD2 hS => ?_)
  have e9 := wPuF (cy := cy) (j := 13) (v := (some qa279)) hD am299.1 am299.2.1 gk300 rfl
  have N301 : ∀ j9, j9 ∉ (12 :: 11 :: 10 :: 9 :: 8 :: 7 :: 6 :: 5 :: 4 :: 3 :: 2 :: 1 :: 0 :: 77 :: [] : List Nat) → S271.F o1 j9 = none := by rw [← hS271]; exact fun j9 h9 => (sF_ne (fun q9 => h9 (by rw [q9.2]; exact List.mem_cons_self))).trans (N268 j9 (fun q9 => h9 (List.mem_cons_of_mem _ q9)))
  have Z302 : ∀ j9, j9 ∉ ([] : List Nat) → S271.I o1 j9 = 0 := by rw [← hS271]; exact Z269
  have am305 : isA S271 o1 12 := xm297.A h_o1
  have N303 : ∀ j9, j9 ∉ (12 :: 11 :: 10 :: 9 :: 8 :: 7 :: 6 :: 5 :: 4 :: 3 :: 2 :: 1 :: 0 :: 77 :: [] : List Nat) → S280.F o1 j9 = none := by rw [← hS280]; exact fun j9 h9 => (nw_Fo hqa279 am305.1).trans (N301 j9 h9)
  have Z304 : ∀ j9, j9 ∉ ([] : List Nat) → S280.I o1 j9 = 0 := by rw [← hS280]; exact fun j9 h9 => (nw_Io hqa279 am305.1).trans (Z302 j9 h9)
  obtain ⟨S306, hS306⟩ : ∃ z, S280.sF o1 13 (some qa279) = z := ⟨_, rfl⟩
  replace hP : va_P D vwCl (X ++ PL cy S306) H := by rw [← hS306, ← e9]; exact hP2
  replace hD : va_D A (X ++ PL cy S306) := by rw [← hS306, ← e9]; exact hD2
  clear hP2 hD2 e9
  have xe307 : ext S280 S306 := by rw [← hS306]; exact ext.sF (N303 13 (by decide))
  have t308 : stp ([] : List (Nat × Nat)) [o1] (o1 :: R) S S306 := by rw [← hS306]; exact t282.F 13 qa279 List.mem_cons_self (Or.inl List.mem_cons_self) (N303 13 (by decide))
  have z309 : ∀ j9, S306.i qa183 j9 = 0 := by rw [← hS306]; exact z283
  have z310 : ∀ j9, S306.i qa201 j9 = 0 := by rw [← hS306]; exact z287
  have z311 : ∀ j9, S306.i qa222 j9 = 0 := by rw [← hS306]; exact z291
  have z312 : ∀ j9, S306.i qa248 j9 = 0 := by rw [← hS306]; exact z295
  have z313 : ∀ j9, S306.i qa279 j9 = 0 := by rw [← hS306]; exact zqa279
  have F314 : S306.F o1 13 = some qa279 := by rw [← hS306]; exact sF_eq
  refine lv_aload_n hx hb dX12_init_115 rfl (lv_at hl 0 rfl) ?_
  refine lv_iconst (v := 5) hx hb dX12_init_116 (by decide) ?_
  refine va_newa (atype := .int) hx hb (hts (.arrayClass .int) (by decide +kernel)) (ty := .int) rfl hK hP hD hS hA (N' := 5) (a0 := (5, .inl (fun _ => 0))) (fun _ => rfl) (by decide) (by decide) (by decide) (Nat.le_of_ble_eq_true rfl) (Nat.le_of_ble_eq_true rfl) dX12_init_117 (fun qa315 cqa315 H hK2 hP2 hD2 hS => ?_)
  obtain rfl : cqa315 = cy 2 := cls_int hK hK2
  have hqa315 : qa315 ∉ S306.L := nw_q hD2
  have e9 := wNw (cy := cy) (X := X) (S := S306) (a := qa315) (k := 23) (z := 5) (f := fun _ => 0) (g := fun _ => none) hqa315 rfl
  obtain ⟨S316, hS316⟩ : ∃ z, S306.nw qa315 23 5 (fun _ => 0) (fun _ => none) = z := ⟨_, rfl⟩
  replace hP : va_P D vwCl (X ++ PL cy S316) H := by rw [← hS316, ← e9]; exact hP2
  replace hD : va_D A (X ++ PL cy S316) := by rw [← hS316, ← e9]; exact hD2
  clear hP2 hD2 e9
  have xe317 : ext S306 S316 := by rw [← hS316]; exact ext.nw hqa315
  have t318 : stp ([] : List (Nat × Nat)) [o1] (o1 :: R) S S316 := by rw [← hS316]; exact t308.nwA hqa315 (by decide)
  have xm320 : ext S184 S280 := xm285.tr xe281
  have xm321 : ext S184 S306 := xm320.tr xe307
  have am322 : isA S306 qa183 23 := xm321.A aqa183
  have z319 : ∀ j9, S316.i qa183 j9 = 0 := by rw [← hS316]; exact fun j9 => (congrFun (up_nq (f := S306.i) (fun e9 : qa183 = qa315 => hqa315 (e9 ▸ am322.1))) j9).trans (z309 j9)
  have xm324 : ext S202 S280 := xm289.tr xe281
  have xm325 : ext S202 S306 := xm324.tr xe307
  have am326 : isA S306 qa201 23 := xm325.A aqa201
  have z323 : ∀ j9, S316.i qa201 j9 = 0 := by rw [← hS316]; exact fun j9 => (congrFun (up_nq (f := S306.i) (fun e9 : qa201 = qa315 => hqa315 (e9 ▸ am326.1))) j9).trans (z310 j9)
  have xm328 : ext S223 S280 := xm293.tr xe281
  have xm329 : ext S223 S306 := xm328.tr xe307
  have am330 : isA S306 qa222 23 := xm329.A aqa222
  have z327 : ∀ j9, S316.i qa222 j9 = 0 := by rw [← hS316]; exact fun j9 => (congrFun (up_nq (f := S306.i) (fun e9 : qa222 = qa315 => hqa315 (e9 ▸ am330.1))) j9).trans (z311 j9)
  have xm332 : ext S249 S280 := xe272.tr xe281
  have xm333 : ext S249 S306 := xm332.tr xe307
  have am334 : isA S306 qa248 23 := xm333.A aqa248
  have z331 : ∀ j9, S316.i qa248 j9 = 0 := by rw [← hS316]; exact fun j9 => (congrFun (up_nq (f := S306.i) (fun e9 : qa248 = qa315 => hqa315 (e9 ▸ am334.1))) j9).trans (z312 j9)
  have am336 : isA S306 qa279 23 := xe307.A aqa279
  have z335 : ∀ j9, S316.i qa279 j9 = 0 := by rw [← hS316]; exact fun j9 => (congrFun (up_nq (f := S306.i) (fun e9 : qa279 = qa315 => hqa315 (e9 ▸ am336.1))) j9).trans (z313 j9)
  refine W.widen (k := 15) (n := 80) (Nat.le_of_ble_eq_true rfl) (Nat.le_of_ble_eq_true rfl) ?_
  have aqa315 : isA S316 qa315 23 := by rw [← hS316]; exact nw_A (by decide)
  have nqa315 : S316.n qa315 = 5 := by rw [← hS316]; exact nw_n
  have zqa315 : ∀ j9, S316.i qa315 j9 = 0 := by rw [← hS316]; exact fun j9 => congrFun (up_qq (f := S306.i)) j9
  have xm337 : ext S S306 := xm298.tr xe307
  have xm338 : ext S S316 := xm337.tr xe317
  have am339 : isA S316 o1 12 := xm338.A h_o1
  obtain ⟨k340, gk340, hk340⟩ := wGt (cy := cy) X S316 am339.1 am339.2.1
  refine va_putF (D := D) (ci := 16) (v := .ref qa315) (ty := (tyX12 14)) (C := RX12) (T := TX12) (N := 34) hx hb hts (by decide +kernel) tyX12 tyX12_ok nmX12 hown hK hP hD hS k340 hk340 rfl 14 (by decide) (hts (.fieldLink RX12 69 "HobhouseModel" "seconds" "[I") (by decide +kernel)) (fun _ h9 => h9) rfl hin rfl (by decide +kernel) (rfl) (rfl) (Nat.le_of_ble_eq_true rfl) dX12_init_119 (fun H locs hP2 hD2 hS => ?_)
  have e9 := wPuF (cy := cy) (j := 14) (v := (some qa315)) hD am339.1 am339.2.1 gk340 rfl
  have N341 : ∀ j9, j9 ∉ (13 :: 12 :: 11 :: 10 :: 9 :: 8 :: 7 :: 6 :: 5 :: 4 :: 3 :: 2 :: 1 :: 0 :: 77 :: [] : List Nat) → S306.F o1 j9 = none := by rw [← hS306]; exact fun j9 h9 => (sF_ne (fun q9 => h9 (by rw [q9.2]; exact List.mem_cons_self))).trans (N303 j9 (fun q9 => h9 (List.mem_cons_of_mem _ q9)))
  have Z342 : ∀ j9, j9 ∉ ([] : List Nat) → S306.I o1 j9 = 0 := by rw [← hS306]; exact Z304
  have am345 : isA S306 o1 12 := xm337.A h_o1
  have N343 : ∀ j9, j9 ∉ (13 :: 12 :: 11 :: 10 :: 9 :: 8 :: 7 :: 6 :: 5 :: 4 :: 3 :: 2 :: 1 :: 0 :: 77 :: [] : List Nat) → S316.F o1 j9 = none := by rw [← hS316]; exact fun j9 h9 => (nw_Fo hqa315 am345.1).trans (N341 j9 h9)
  have Z344 : ∀ j9, j9 ∉ ([] : List Nat) → S316.I o1 j9 = 0 := by rw [← hS316]; exact fun j9 h9 => (nw_Io hqa315 am345.1).trans (Z342 j9 h9)
  obtain ⟨S346, hS346⟩ : ∃ z, S316.sF o1 14 (some qa315) = z := ⟨_, rfl⟩
  replace hP : va_P D vwCl (X ++ PL cy S346) H := by rw [← hS346, ← e9]; exact hP2
  replace hD : va_D A (X ++ PL cy S346) := by rw [← hS346, ← e9]; exact hD2
  clear hP2 hD2 e9
  have xe347 : ext S316 S346 := by rw [← hS346]; exact ext.sF (N343 14 (by decide))
  have t348 : stp ([] : List (Nat × Nat)) [o1] (o1 :: R) S S346 := by rw [← hS346]; exact t318.F 14 qa315 List.mem_cons_self (Or.inl List.mem_cons_self) (N343 14 (by decide))
  have z349 : ∀ j9, S346.i qa183 j9 = 0 := by rw [← hS346]; exact z319
  have z350 : ∀ j9, S346.i qa201 j9 = 0 := by rw [← hS346]; exact z323
  have z351 : ∀ j9, S346.i qa222 j9 = 0 := by rw [← hS346]; exact z327
  have z352 : ∀ j9, S346.i qa248 j9 = 0 := by rw [← hS346]; exact z331
  have z353 : ∀ j9, S346.i qa279 j9 = 0 := by rw [← hS346]; exact z335
  have z354 : ∀ j9, S346.i qa315 j9 = 0 := by rw [← hS346]; exact zqa315
  have F355 : S346.F o1 14 = some qa315 := by rw [← hS346]; exact sF_eq
  refine lv_aload_n hx hb dX12_init_122 rfl (lv_at hl 0 rfl) ?_
  refine lv_bipush (v := 24) hx hb dX12_init_123 (by decide +kernel) ?_
  have xm356 : ext S S346 := xm338.tr xe347
  have am357 : isA S346 o1 12 := xm356.A h_o1
  obtain ⟨k358, gk358, hk358⟩ := wGt (cy := cy) X S346 am357.1 am357.2.1
  refine va_put (D := D) (ci := 16) (v := .int (24 : Int32)) (ty := .int) (C := RX12) (T := TX12) (N := 34) hx hb hts (by decide +kernel) tyX12 tyX12_ok nmX12 hown hK hP hD hS k358 hk358 rfl 17 (by decide) (hts (.fieldLink RX12 72 "HobhouseModel" "constant" "I") (by decide +kernel)) (fun _ h9 => h9) rfl (by decide +kernel) (rfl) (rfl) (Nat.le_of_ble_eq_true rfl) dX12_init_125 (fun H locs hP2 hD2 hS => ?_)
  have e9 := wPuI (cy := cy) (j := 17) (v := (24 : Int32)) hD am357.1 am357.2.1 gk358 rfl
  obtain ⟨S359, hS359⟩ : ∃ z, S346.sI o1 17 (24 : Int32) = z := ⟨_, rfl⟩
  replace hP : va_P D vwCl (X ++ PL cy S359) H := by rw [← hS359, ← e9]; exact hP2
  replace hD : va_D A (X ++ PL cy S359) := by rw [← hS359, ← e9]; exact hD2
  clear hP2 hD2 e9
  have xe360 : ext S346 S359 := by rw [← hS359]; exact ext.sI _ _ _ _
  have t361 : stp ([] : List (Nat × Nat)) [o1] (o1 :: R) S S359 := by rw [← hS359]; exact t348.Ir 17 (24 : Int32) List.mem_cons_self (Or.inl List.mem_cons_self)
  have z362 : ∀ j9, S359.i qa183 j9 = 0 := by rw [← hS359]; exact z349
  have z363 : ∀ j9, S359.i qa201 j9 = 0 := by rw [← hS359]; exact z350
  have z364 : ∀ j9, S359.i qa222 j9 = 0 := by rw [← hS359]; exact z351
  have z365 : ∀ j9, S359.i qa248 j9 = 0 := by rw [← hS359]; exact z352
  have z366 : ∀ j9, S359.i qa279 j9 = 0 := by rw [← hS359]; exact z353
  have z367 : ∀ j9, S359.i qa315 j9 = 0 := by rw [← hS359]; exact z354
  refine lv_aload_n hx hb dX12_init_128 rfl (lv_at hl 0 rfl) ?_
  refine lv_bipush (v := 60) hx hb dX12_init_129 (by decide +kernel) ?_
  have xm368 : ext S S359 := xm356.tr xe360
  have am369 : isA S359 o1 12 := xm368.A h_o1
  obtain ⟨k370, gk370, hk370⟩ := wGt (cy := cy) X S359 am369.1 am369.2.1
  refine va_put (D := D) (ci := 16) (v := .int (60 : Int32)) (ty := .int) (C := RX12) (T := TX12) (N := 34) hx hb hts (by decide +kernel) tyX12 tyX12_ok nmX12 hown hK hP hD hS k370 hk370 rfl 18 (by decide) (hts (.fieldLink RX12 76 "HobhouseModel" "wheelTeeth" "I") (by decide +kernel)) (fun _ h9 => h9) rfl (by decide +kernel) (rfl) (rfl) (Nat.le_of_ble_eq_true rfl) dX12_init_131 (fun H locs hP2 hD2 hS => ?_)
  have e9 := wPuI (cy := cy) (j := 18) (v := (60 : Int32)) hD am369.1 am369.2.1 gk370 rfl
  obtain ⟨S371, hS371⟩ : ∃ z, S359.sI o1 18 (60 : Int32) = z := ⟨_, rfl⟩
  replace hP : va_P D vwCl (X ++ PL cy S371) H := by rw [← hS371, ← e9]; exact hP2
  replace hD : va_D A (X ++ PL cy S371) := by rw [← hS371, ← e9]; exact hD2
  clear hP2 hD2 e9
  have xe372 : ext S359 S371 := by rw [← hS371]; exact ext.sI _ _ _ _
  have t373 : stp ([] : List (Nat × Nat)) [o1] (o1 :: R) S S371 := by rw [← hS371]; exact t361.Ir 18 (60 : Int32) List.mem_cons_self (Or.inl List.mem_cons_self)
  have z374 : ∀ j9, S371.i qa183 j9 = 0 := by rw [← hS371]; exact z362
  have z375 : ∀ j9, S371.i qa201 j9 = 0 := by rw [← hS371]; exact z363
  have z376 : ∀ j9, S371.i qa222 j9 = 0 := by rw [← hS371]; exact z364
  have z377 : ∀ j9, S371.i qa248 j9 = 0 := by rw [← hS371]; exact z365
  have z378 : ∀ j9, S371.i qa279 j9 = 0 := by rw [← hS371]; exact z366
  have z379 : ∀ j9, S371.i qa315 j9 = 0 := by rw [← hS371]; exact z367
  refine lv_aload_n hx hb dX12_init_134 rfl (lv_at hl 0 rfl) ?_
  refine lv_sipush (v := 200) hx hb dX12_init_135 (by decide +kernel) ?_
  refine va_newa (atype := .int) hx hb (hts (.arrayClass .int) (by decide +kernel)) (ty := .int) rfl hK hP hD hS hA (N' := 200) (a0 := (200, .inl (fun _ => 0))) (fun _ => rfl) (by decide) (by decide) (by decide) (Nat.le_of_ble_eq_true rfl) (Nat.le_of_ble_eq_true rfl) dX12_init_138 (fun qa380 cqa380 H hK2 hP2 hD2 hS => ?_)
  obtain rfl : cqa380 = cy 2 := cls_int hK hK2
  have hqa380 : qa380 ∉ S371.L := nw_q hD2
  have e9 := wNw (cy := cy) (X := X) (S := S371) (a := qa380) (k := 17) (z := 200) (f := fun _ => 0) (g := fun _ => none) hqa380 rfl
  obtain ⟨S381, hS381⟩ : ∃ z, S371.nw qa380 17 200 (fun _ => 0) (fun _ => none) = z := ⟨_, rfl⟩
  replace hP : va_P D vwCl (X ++ PL cy S381) H := by rw [← hS381, ← e9]; exact hP2
  replace hD : va_D A (X ++ PL cy S381) := by rw [← hS381, ← e9]; exact hD2
  clear hP2 hD2 e9
  have xe382 : ext S371 S381 := by rw [← hS381]; exact ext.nw hqa380
  have t383 : stp ([] : List (Nat × Nat)) [o1] (o1 :: R) S S381 := by rw [← hS381]; exact t373.nwA hqa380 (by decide)
  have xm385 : ext S184 S316 := xm321.tr xe317
  have xm386 : ext S184 S346 := xm385.tr xe347
  have xm387 : ext S184 S359 := xm386.tr xe360
  have xm388 : ext S184 S371 := xm387.tr xe372
  have am389 : isA S371 qa183 23 := xm388.A aqa183
  have z384 : ∀ j9, S381.i qa183 j9 = 0 := by rw [← hS381]; exact fun j9 => (congrFun (up_nq (f := S371.i) (fun e9 : qa183 = qa380 => hqa380 (e9 ▸ am389.1))) j9).trans (z374 j9)
  have xm391 : ext S202 S316 := xm325.tr xe317
  have xm392 : ext S202 S346 := xm391.tr xe347
  have xm393 : ext S202 S359 := xm392.tr xe360
  have xm394 : ext S202 S371 := xm393.tr xe372
  have am395 : isA S371 qa201 23 := xm394.A aqa201
  have z390 : ∀ j9, S381.i qa201 j9 = 0 := by rw [← hS381]; exact fun j9 => (congrFun (up_nq (f := S371.i) (fun e9 : qa201 = qa380 => hqa380 (e9 ▸ am395.1))) j9).trans (z375 j9)
  have xm397 : ext S223 S316 := xm329.tr xe317
  have xm398 : ext S223 S346 := xm397.tr xe347
  have xm399 : ext S223 S359 := xm398.tr xe360
  have xm400 : ext S223 S371 := xm399.tr xe372
  have am401 : isA S371 qa222 23 := xm400.A aqa222
  have z396 : ∀ j9, S381.i qa222 j9 = 0 := by rw [← hS381]; exact fun j9 => (congrFun (up_nq (f := S371.i) (fun e9 : qa222 = qa380 => hqa380 (e9 ▸ am401.1))) j9).trans (z376 j9)
  have xm403 : ext S249 S316 := xm333.tr xe317
  have xm404 : ext S249 S346 := xm403.tr xe347
  have xm405 : ext S249 S359 := xm404.tr xe360
  have xm406 : ext S249 S371 := xm405.tr xe372
  have am407 : isA S371 qa248 23 := xm406.A aqa248
  have z402 : ∀ j9, S381.i qa248 j9 = 0 := by rw [← hS381]; exact fun j9 => (congrFun (up_nq (f := S371.i) (fun e9 : qa248 = qa380 => hqa380 (e9 ▸ am407.1))) j9).trans (z377 j9)
  have xm409 : ext S280 S316 := xe307.tr xe317
  have xm410 : ext S280 S346 := xm409.tr xe347
  have xm411 : ext S280 S359 := xm410.tr xe360
  have xm412 : ext S280 S371 := xm411.tr xe372
  have am413 : isA S371 qa279 23 := xm412.A aqa279
  have z408 : ∀ j9, S381.i qa279 j9 = 0 := by rw [← hS381]; exact fun j9 => (congrFun (up_nq (f := S371.i) (fun e9 : qa279 = qa380 => hqa380 (e9 ▸ am413.1))) j9).trans (z378 j9)
  have xm415 : ext S316 S359 := xe347.tr xe360
  have xm416 : ext S316 S371 := xm415.tr xe372
  have am417 : isA S371 qa315 23 := xm416.A aqa315
  have z414 : ∀ j9, S381.i qa315 j9 = 0 := by rw [← hS381]; exact fun j9 => (congrFun (up_nq (f := S371.i) (fun e9 : qa315 = qa380 => hqa380 (e9 ▸ am417.1))) j9).trans (z379 j9)
  refine W.widen (k := 16) (n := 280) (Nat.le_of_ble_eq_true rfl) (Nat.le_of_ble_eq_true rfl) ?_
  have aqa380 : isA S381 qa380 17 := by rw [← hS381]; exact nw_A (by decide)
  have nqa380 : S381.n qa380 = 200 := by rw [← hS381]; exact nw_n
  have xm418 : ext S S371 := xm368.tr xe372
  have xm419 : ext S S381 := xm418.tr xe382
  have am420 : isA S381 o1 12 := xm419.A h_o1
  obtain ⟨k421, gk421, hk421⟩ := wGt (cy := cy) X S381 am420.1 am420.2.1
  refine va_putF (D := D) (ci := 16) (v := .ref qa380) (ty := (tyX12 29)) (C := RX12) (T := TX12) (N := 34) hx hb hts (by decide +kernel) tyX12 tyX12_ok nmX12 hown hK hP hD hS k421 hk421 rfl 29 (by decide) (hts (.fieldLink RX12 79 "HobhouseModel" "highOne" "[I") (by decide +kernel)) (fun _ h9 => h9) rfl hin rfl (by decide +kernel) (rfl) (rfl) (Nat.le_of_ble_eq_true rfl) dX12_init_140 (fun H locs hP2 hD2 hS => ?_)
  have e9 := wPuF (cy := cy) (j := 29) (v := (some qa380)) hD am420.1 am420.2.1 gk421 rfl
  have N422 : ∀ j9, j9 ∉ (14 :: 13 :: 12 :: 11 :: 10 :: 9 :: 8 :: 7 :: 6 :: 5 :: 4 :: 3 :: 2 :: 1 :: 0 :: 77 :: [] : List Nat) → S346.F o1 j9 = none := by rw [← hS346]; exact fun j9 h9 => (sF_ne (fun q9 => h9 (by rw [q9.2]; exact List.mem_cons_self))).trans (N343 j9 (fun q9 => h9 (List.mem_cons_of_mem _ q9)))
  have Z423 : ∀ j9, j9 ∉ ([] : List Nat) → S346.I o1 j9 = 0 := by rw [← hS346]; exact Z344
  have N424 : ∀ j9, j9 ∉ (14 :: 13 :: 12 :: 11 :: 10 :: 9 :: 8 :: 7 :: 6 :: 5 :: 4 :: 3 :: 2 :: 1 :: 0 :: 77 :: [] : List Nat) → S359.F o1 j9 = none := by rw [← hS359]; exact N422
  have Z425 : ∀ j9, j9 ∉ (17 :: [] : List Nat) → S359.I o1 j9 = 0 := by rw [← hS359]; exact fun j9 h9 => (sI_I (fun q9 => h9 (by rw [q9.2]; exact List.mem_cons_self))).trans (Z423 j9 (fun q9 => h9 (List.mem_cons_of_mem _ q9)))
  have N426 : ∀ j9, j9 ∉ (14 :: 13 :: 12 :: 11 :: 10 :: 9 :: 8 :: 7 :: 6 :: 5 :: 4 :: 3 :: 2 :: 1 :: 0 :: 77 :: [] : List Nat) → S371.F o1 j9 = none := by rw [← hS371]; exact N424
  have Z427 : ∀ j9, j9 ∉ (18 :: 17 :: [] : List Nat) → S371.I o1 j9 = 0 := by rw [← hS371]; exact fun j9 h9 => (sI_I (fun q9 => h9 (by rw [q9.2]; exact List.mem_cons_self))).trans (Z425 j9 (fun q9 => h9 (List.mem_cons_of_mem _ q9)))
  have am430 : isA S371 o1 12 := xm418.A h_o1
  have N428 : ∀ j9, j9 ∉ (14 :: 13 :: 12 :: 11 :: 10 :: 9 :: 8 :: 7 :: 6 :: 5 :: 4 :: 3 :: 2 :: 1 :: 0 :: 77 :: [] : List Nat) → S381.F o1 j9 = none := by rw [← hS381]; exact fun j9 h9 => (nw_Fo hqa380 am430.1).trans (N426 j9 h9)
  have Z429 : ∀ j9, j9 ∉ (18 :: 17 :: [] : List Nat) → S381.I o1 j9 = 0 := by rw [← hS381]; exact fun j9 h9 => (nw_Io hqa380 am430.1).trans (Z427 j9 h9)
  obtain ⟨S431, hS431⟩ : ∃ z, S381.sF o1 29 (some qa380) = z := ⟨_, rfl⟩
  replace hP : va_P D vwCl (X ++ PL cy S431) H := by rw [← hS431, ← e9]; exact hP2
  replace hD : va_D A (X ++ PL cy S431) := by rw [← hS431, ← e9]; exact hD2
  clear hP2 hD2 e9
  have xe432 : ext S381 S431 := by rw [← hS431]; exact ext.sF (N428 29 (by decide))
  have t433 : stp ([] : List (Nat × Nat)) [o1] (o1 :: R) S S431 := by rw [← hS431]; exact t383.F 29 qa380 List.mem_cons_self (Or.inl List.mem_cons_self) (N428 29 (by decide))
  have z434 : ∀ j9, S431.i qa183 j9 = 0 := by rw [← hS431]; exact z384
  have z435 : ∀ j9, S431.i qa201 j9 = 0 := by rw [← hS431]; exact z390
  have z436 : ∀ j9, S431.i qa222 j9 = 0 := by rw [← hS431]; exact z396
  have z437 : ∀ j9, S431.i qa248 j9 = 0 := by rw [← hS431]; exact z402
  have z438 : ∀ j9, S431.i qa279 j9 = 0 := by rw [← hS431]; exact z408
  have z439 : ∀ j9, S431.i qa315 j9 = 0 := by rw [← hS431]; exact z414
  have F440 : S431.F o1 29 = some qa380 := by rw [← hS431]; exact sF_eq
  refine lv_aload_n hx hb dX12_init_143 rfl (lv_at hl 0 rfl) ?_
  refine lv_sipush (v := 200) hx hb dX12_init_144 (by decide +kernel) ?_
  refine va_newa (atype := .int) hx hb (hts (.arrayClass .int) (by decide +kernel)) (ty := .int) rfl hK hP hD hS hA (N' := 200) (a0 := (200, .inl (fun _ => 0))) (fun _ => rfl) (by decide) (by decide) (by decide) (Nat.le_of_ble_eq_true rfl) (Nat.le_of_ble_eq_true rfl) dX12_init_147 (fun qa441 cqa441 H hK2 hP2 hD2 hS => ?_)
  obtain rfl : cqa441 = cy 2 := cls_int hK hK2
  have hqa441 : qa441 ∉ S431.L := nw_q hD2
  have e9 := wNw (cy := cy) (X := X) (S := S431) (a := qa441) (k := 17) (z := 200) (f := fun _ => 0) (g := fun _ => none) hqa441 rfl
  obtain ⟨S442, hS442⟩ : ∃ z, S431.nw qa441 17 200 (fun _ => 0) (fun _ => none) = z := ⟨_, rfl⟩
  replace hP : va_P D vwCl (X ++ PL cy S442) H := by rw [← hS442, ← e9]; exact hP2
  replace hD : va_D A (X ++ PL cy S442) := by rw [← hS442, ← e9]; exact hD2
  clear hP2 hD2 e9
  have xe443 : ext S431 S442 := by rw [← hS442]; exact ext.nw hqa441
  have t444 : stp ([] : List (Nat × Nat)) [o1] (o1 :: R) S S442 := by rw [← hS442]; exact t433.nwA hqa441 (by decide)
  have xm446 : ext S184 S381 := xm388.tr xe382
  have xm447 : ext S184 S431 := xm446.tr xe432
  have am448 : isA S431 qa183 23 := xm447.A aqa183
  have z445 : ∀ j9, S442.i qa183 j9 = 0 := by rw [← hS442]; exact fun j9 => (congrFun (up_nq (f := S431.i) (fun e9 : qa183 = qa441 => hqa441 (e9 ▸ am448.1))) j9).trans (z434 j9)
  have xm450 : ext S202 S381 := xm394.tr xe382
  have xm451 : ext S202 S431 := xm450.tr xe432
  have am452 : isA S431 qa201 23 := xm451.A aqa201
  have z449 : ∀ j9, S442.i qa201 j9 = 0 := by rw [← hS442]; exact fun j9 => (congrFun (up_nq (f := S431.i) (fun e9 : qa201 = qa441 => hqa441 (e9 ▸ am452.1))) j9).trans (z435 j9)
  have xm454 : ext S223 S381 := xm400.tr xe382
  have xm455 : ext S223 S431 := xm454.tr xe432
  have am456 : isA S431 qa222 23 := xm455.A aqa222
  have z453 : ∀ j9, S442.i qa222 j9 = 0 := by rw [← hS442]; exact fun j9 => (congrFun (up_nq (f := S431.i) (fun e9 : qa222 = qa441 => hqa441 (e9 ▸ am456.1))) j9).trans (z436 j9)
  have xm458 : ext S249 S381 := xm406.tr xe382
  have xm459 : ext S249 S431 := xm458.tr xe432
  have am460 : isA S431 qa248 23 := xm459.A aqa248
  have z457 : ∀ j9, S442.i qa248 j9 = 0 := by rw [← hS442]; exact fun j9 => (congrFun (up_nq (f := S431.i) (fun e9 : qa248 = qa441 => hqa441 (e9 ▸ am460.1))) j9).trans (z437 j9)
  have xm462 : ext S280 S381 := xm412.tr xe382
  have xm463 : ext S280 S431 := xm462.tr xe432
  have am464 : isA S431 qa279 23 := xm463.A aqa279
  have z461 : ∀ j9, S442.i qa279 j9 = 0 := by rw [← hS442]; exact fun j9 => (congrFun (up_nq (f := S431.i) (fun e9 : qa279 = qa441 => hqa441 (e9 ▸ am464.1))) j9).trans (z438 j9)
  have xm466 : ext S316 S381 := xm416.tr xe382
  have xm467 : ext S316 S431 := xm466.tr xe432
  have am468 : isA S431 qa315 23 := xm467.A aqa315
  have z465 : ∀ j9, S442.i qa315 j9 = 0 := by rw [← hS442]; exact fun j9 => (congrFun (up_nq (f := S431.i) (fun e9 : qa315 = qa441 => hqa441 (e9 ▸ am468.1))) j9).trans (z439 j9)
  refine W.widen (k := 17) (n := 480) (Nat.le_of_ble_eq_true rfl) (Nat.le_of_ble_eq_true rfl) ?_
  have aqa441 : isA S442 qa441 17 := by rw [← hS442]; exact nw_A (by decide)
  have nqa441 : S442.n qa441 = 200 := by rw [← hS442]; exact nw_n
  have xm469 : ext S S431 := xm419.tr xe432
  have xm470 : ext S S442 := xm469.tr xe443
  have am471 : isA S442 o1 12 := xm470.A h_o1
  obtain ⟨k472, gk472, hk472⟩ := wGt (cy := cy) X S442 am471.1 am471.2.1
  refine va_putF (D := D) (ci := 16) (v := .ref qa441) (ty := (tyX12 30)) (C := RX12) (T := TX12) (N := 34) hx hb hts (by decide +kernel) tyX12 tyX12_ok nmX12 hown hK hP hD hS k472 hk472 rfl 30 (by decide) (hts (.fieldLink RX12 82 "HobhouseModel" "lowOne" "[I") (by decide +kernel)) (fun _ h9 => h9) rfl hin rfl (by decide +kernel) (rfl) (rfl) (Nat.le_of_ble_eq_true rfl) dX12_init_149 (fun H locs hP2 hD2 hS => ?_)
  have e9 := wPuF (cy := cy) (j := 30) (v := (some qa441)) hD am471.1 am471.2.1 gk472 rfl
  have N473 : ∀ j9, j9 ∉ (29 :: 14 :: 13 :: 12 :: 11 :: 10 :: 9 :: 8 :: 7 :: 6 :: 5 :: 4 :: 3 :: 2 :: 1 :: 0 :: 77 :: [] : List Nat) → S431.F o1 j9 = none := by rw [← hS431]; exact fun j9 h9 => (sF_ne (fun q9 => h9 (by rw [q9.2]; exact List.mem_cons_self))).trans (N428 j9 (fun q9 => h9 (List.mem_cons_of_mem _ q9)))
  have Z474 : ∀ j9, j9 ∉ (18 :: 17 :: [] : List Nat) → S431.I o1 j9 = 0 := by rw [← hS431]; exact Z429
  have am477 : isA S431 o1 12 := xm469.A h_o1
  have N475 : ∀ j9, j9 ∉ (29 :: 14 :: 13 :: 12 :: 11 :: 10 :: 9 :: 8 :: 7 :: 6 :: 5 :: 4 :: 3 :: 2 :: 1 :: 0 :: 77 :: [] : List Nat) → S442.F o1 j9 = none := by rw [← hS442]; exact fun j9 h9 => (nw_Fo hqa441 am477.1).trans (N473 j9 h9)
  have Z476 : ∀ j9, j9 ∉ (18 :: 17 :: [] : List Nat) → S442.I o1 j9 = 0 := by rw [← hS442]; exact fun j9 h9 => (nw_Io hqa441 am477.1).trans (Z474 j9 h9)
  obtain ⟨S478, hS478⟩ : ∃ z, S442.sF o1 30 (some qa441) = z := ⟨_, rfl⟩
  replace hP : va_P D vwCl (X ++ PL cy S478) H := by rw [← hS478, ← e9]; exact hP2
  replace hD : va_D A (X ++ PL cy S478) := by rw [← hS478, ← e9]; exact hD2
  clear hP2 hD2 e9
  have xe479 : ext S442 S478 := by rw [← hS478]; exact ext.sF (N475 30 (by decide))
  have t480 : stp ([] : List (Nat × Nat)) [o1] (o1 :: R) S S478 := by rw [← hS478]; exact t444.F 30 qa441 List.mem_cons_self (Or.inl List.mem_cons_self) (N475 30 (by decide))
  have z481 : ∀ j9, S478.i qa183 j9 = 0 := by rw [← hS478]; exact z445
  have z482 : ∀ j9, S478.i qa201 j9 = 0 := by rw [← hS478]; exact z449
  have z483 : ∀ j9, S478.i qa222 j9 = 0 := by rw [← hS478]; exact z453
  have z484 : ∀ j9, S478.i qa248 j9 = 0 := by rw [← hS478]; exact z457
  have z485 : ∀ j9, S478.i qa279 j9 = 0 := by rw [← hS478]; exact z461
  have z486 : ∀ j9, S478.i qa315 j9 = 0 := by rw [← hS478]; exact z465
  have F487 : S478.F o1 30 = some qa441 := by rw [← hS478]; exact sF_eq
  refine lv_aload_n hx hb dX12_init_152 rfl (lv_at hl 0 rfl) ?_
  refine lv_sipush (v := 200) hx hb dX12_init_153 (by decide +kernel) ?_
  refine va_newa (atype := .int) hx hb (hts (.arrayClass .int) (by decide +kernel)) (ty := .int) rfl hK hP hD hS hA (N' := 200) (a0 := (200, .inl (fun _ => 0))) (fun _ => rfl) (by decide) (by decide) (by decide) (Nat.le_of_ble_eq_true rfl) (Nat.le_of_ble_eq_true rfl) dX12_init_156 (fun qa488 cqa488 H hK2 hP2 hD2 hS => ?_)
  obtain rfl : cqa488 = cy 2 := cls_int hK hK2
  have hqa488 : qa488 ∉ S478.L := nw_q hD2
  have e9 := wNw (cy := cy) (X := X) (S := S478) (a := qa488) (k := 17) (z := 200) (f := fun _ => 0) (g := fun _ => none) hqa488 rfl
  obtain ⟨S489, hS489⟩ : ∃ z, S478.nw qa488 17 200 (fun _ => 0) (fun _ => none) = z := ⟨_, rfl⟩
  replace hP : va_P D vwCl (X ++ PL cy S489) H := by rw [← hS489, ← e9]; exact hP2
  replace hD : va_D A (X ++ PL cy S489) := by rw [← hS489, ← e9]; exact hD2
  clear hP2 hD2 e9
  have xe490 : ext S478 S489 := by rw [← hS489]; exact ext.nw hqa488
  have t491 : stp ([] : List (Nat × Nat)) [o1] (o1 :: R) S S489 := by rw [← hS489]; exact t480.nwA hqa488 (by decide)
  have xm493 : ext S184 S442 := xm447.tr xe443
  have xm494 : ext S184 S478 := xm493.tr xe479
  have am495 : isA S478 qa183 23 := xm494.A aqa183
  have z492 : ∀ j9, S489.i qa183 j9 = 0 := by rw [← hS489]; exact fun j9 => (congrFun (up_nq (f := S478.i) (fun e9 : qa183 = qa488 => hqa488 (e9 ▸ am495.1))) j9).trans (z481 j9)
  have xm497 : ext S202 S442 := xm451.tr xe443
  have xm498 : ext S202 S478 := xm497.tr xe479
  have am499 : isA S478 qa201 23 := xm498.A aqa201
  have z496 : ∀ j9, S489.i qa201 j9 = 0 := by rw [← hS489]; exact fun j9 => (congrFun (up_nq (f := S478.i) (fun e9 : qa201 = qa488 => hqa488 (e9 ▸ am499.1))) j9).trans (z482 j9)
  have xm501 : ext S223 S442 := xm455.tr xe443
  have xm502 : ext S223 S478 := xm501.tr xe479
  have am503 : isA S478 qa222 23 := xm502.A aqa222
  have z500 : ∀ j9, S489.i qa222 j9 = 0 := by rw [← hS489]; exact fun j9 => (congrFun (up_nq (f := S478.i) (fun e9 : qa222 = qa488 => hqa488 (e9 ▸ am503.1))) j9).trans (z483 j9)
  have xm505 : ext S249 S442 := xm459.tr xe443
  have xm506 : ext S249 S478 := xm505.tr xe479
  have am507 : isA S478 qa248 23 := xm506.A aqa248
  have z504 : ∀ j9, S489.i qa248 j9 = 0 := by rw [← hS489]; exact fun j9 => (congrFun (up_nq (f := S478.i) (fun e9 : qa248 = qa488 => hqa488 (e9 ▸ am507.1))) j9).trans (z484 j9)
  have xm509 : ext S280 S442 := xm463.tr xe443
  have xm510 : ext S280 S478 := xm509.tr xe479
  have am511 : isA S478 qa279 23 := xm510.A aqa279
  have z508 : ∀ j9, S489.i qa279 j9 = 0 := by rw [← hS489]; exact fun j9 => (congrFun (up_nq (f := S478.i) (fun e9 : qa279 = qa488 => hqa488 (e9 ▸ am511.1))) j9).trans (z485 j9)
  have xm513 : ext S316 S442 := xm467.tr xe443
  have xm514 : ext S316 S478 := xm513.tr xe479
  have am515 : isA S478 qa315 23 := xm514.A aqa315
  have z512 : ∀ j9, S489.i qa315 j9 = 0 := by rw [← hS489]; exact fun j9 => (congrFun (up_nq (f := S478.i) (fun e9 : qa315 = qa488 => hqa488 (e9 ▸ am515.1))) j9).trans (z486 j9)
  refine W.widen (k := 18) (n := 680) (Nat.le_of_ble_eq_true rfl) (Nat.le_of_ble_eq_true rfl) ?_
  have aqa488 : isA S489 qa488 17 := by rw [← hS489]; exact nw_A (by decide)
  have nqa488 : S489.n qa488 = 200 := by rw [← hS489]; exact nw_n
  have xm516 : ext S S478 := xm470.tr xe479
  have xm517 : ext S S489 := xm516.tr xe490
  have am518 : isA S489 o1 12 := xm517.A h_o1
  obtain ⟨k519, gk519, hk519⟩ := wGt (cy := cy) X S489 am518.1 am518.2.1
  refine va_putF (D := D) (ci := 16) (v := .ref qa488) (ty := (tyX12 31)) (C := RX12) (T := TX12) (N := 34) hx hb hts (by decide +kernel) tyX12 tyX12_ok nmX12 hown hK hP hD hS k519 hk519 rfl 31 (by decide) (hts (.fieldLink RX12 85 "HobhouseModel" "highOther" "[I") (by decide +kernel)) (fun _ h9 => h9) rfl hin rfl (by decide +kernel) (rfl) (rfl) (Nat.le_of_ble_eq_true rfl) dX12_init_158 (fun H locs hP2 hD2 hS => ?_)
  have e9 := wPuF (cy := cy) (j := 31) (v := (some qa488)) hD am518.1 am518.2.1 gk519 rfl
  have N520 : ∀ j9, j9 ∉ (30 :: 29 :: 14 :: 13 :: 12 :: 11 :: 10 :: 9 :: 8 :: 7 :: 6 :: 5 :: 4 :: 3 :: 2 :: 1 :: 0 :: 77 :: [] : List Nat) → S478.F o1 j9 = none := by rw [← hS478]; exact fun j9 h9 => (sF_ne (fun q9 => h9 (by rw [q9.2]; exact List.mem_cons_self))).trans (N475 j9 (fun q9 => h9 (List.mem_cons_of_mem _ q9)))
  have Z521 : ∀ j9, j9 ∉ (18 :: 17 :: [] : List Nat) → S478.I o1 j9 = 0 := by rw [← hS478]; exact Z476
  have am524 : isA S478 o1 12 := xm516.A h_o1
  have N522 : ∀ j9, j9 ∉ (30 :: 29 :: 14 :: 13 :: 12 :: 11 :: 10 :: 9 :: 8 :: 7 :: 6 :: 5 :: 4 :: 3 :: 2 :: 1 :: 0 :: 77 :: [] : List Nat) → S489.F o1 j9 = none := by rw [← hS489]; exact fun j9 h9 => (nw_Fo hqa488 am524.1).trans (N520 j9 h9)
  have Z523 : ∀ j9, j9 ∉ (18 :: 17 :: [] : List Nat) → S489.I o1 j9 = 0 := by rw [← hS489]; exact fun j9 h9 => (nw_Io hqa488 am524.1).trans (Z521 j9 h9)
  obtain ⟨S525, hS525⟩ : ∃ z, S489.sF o1 31 (some qa488) = z := ⟨_, rfl⟩
  replace hP : va_P D vwCl (X ++ PL cy S525) H := by rw [← hS525, ← e9]; exact hP2
  replace hD : va_D A (X ++ PL cy S525) := by rw [← hS525, ← e9]; exact hD2
  clear hP2 hD2 e9
  have xe526 : ext S489 S525 := by rw [← hS525]; exact ext.sF (N522 31 (by decide))
  have t527 : stp ([] : List (Nat × Nat)) [o1] (o1 :: R) S S525 := by rw [← hS525]; exact t491.F 31 qa488 List.mem_cons_self (Or.inl List.mem_cons_self) (N522 31 (by decide))
  have z528 : ∀ j9, S525.i qa183 j9 = 0 := by rw [← hS525]; exact z492
  have z529 : ∀ j9, S525.i qa201 j9 = 0 := by rw [← hS525]; exact z496
  have z530 : ∀ j9, S525.i qa222 j9 = 0 := by rw [← hS525]; exact z500
  have z531 : ∀ j9, S525.i qa248 j9 = 0 := by rw [← hS525]; exact z504
  have z532 : ∀ j9, S525.i qa279 j9 = 0 := by rw [← hS525]; exact z508
  have z533 : ∀ j9, S525.i qa315 j9 = 0 := by rw [← hS525]; exact z512
  have F534 : S525.F o1 31 = some qa488 := by rw [← hS525]; exact sF_eq
  refine lv_aload_n hx hb dX12_init_161 rfl (lv_at hl 0 rfl) ?_
  refine lv_sipush (v := 200) hx hb dX12_init_162 (by decide +kernel) ?_
  refine va_newa (atype := .int) hx hb (hts (.arrayClass .int) (by decide +kernel)) (ty := .int) rfl hK hP hD hS hA (N' := 200) (a0 := (200, .inl (fun _ => 0))) (fun _ => rfl) (by decide) (by decide) (by decide) (Nat.le_of_ble_eq_true rfl) (Nat.le_of_ble_eq_true rfl) dX12_init_165 (fun qa535 cqa535 H hK2 hP2 hD2 hS => ?_)
  obtain rfl : cqa535 = cy 2 := cls_int hK hK2
  have hqa535 : qa535 ∉ S525.L := nw_q hD2
  have e9 := wNw (cy := cy) (X := X) (S := S525) (a := qa535) (k := 17) (z := 200) (f := fun _ => 0) (g := fun _ => none) hqa535 rfl
  obtain ⟨S536, hS536⟩ : ∃ z, S525.nw qa535 17 200 (fun _ => 0) (fun _ => none) = z := ⟨_, rfl⟩
  replace hP : va_P D vwCl (X ++ PL cy S536) H := by rw [← hS536, ← e9]; exact hP2
  replace hD : va_D A (X ++ PL cy S536) := by rw [← hS536, ← e9]; exact hD2
  clear hP2 hD2 e9
  have xe537 : ext S525 S536 := by rw [← hS536]; exact ext.nw hqa535
  have t538 : stp ([] : List (Nat × Nat)) [o1] (o1 :: R) S S536 := by rw [← hS536]; exact t527.nwA hqa535 (by decide)
  have xm540 : ext S184 S489 := xm494.tr xe490
  have xm541 : ext S184 S525 := xm540.tr xe526
  have am542 : isA S525 qa183 23 := xm541.A aqa183
  have z539 : ∀ j9, S536.i qa183 j9 = 0 := by rw [← hS536]; exact fun j9 => (congrFun (up_nq (f := S525.i) (fun e9 : qa183 = qa535 => hqa535 (e9 ▸ am542.1))) j9).trans (z528 j9)
  have xm544 : ext S202 S489 := xm498.tr xe490
  have xm545 : ext S202 S525 := xm544.tr xe526
  have am546 : isA S525 qa201 23 := xm545.A aqa201
  have z543 : ∀ j9, S536.i qa201 j9 = 0 := by rw [← hS536]; exact fun j9 => (congrFun (up_nq (f := S525.i) (fun e9 : qa201 = qa535 => hqa535 (e9 ▸ am546.1))) j9).trans (z529 j9)
  have xm548 : ext S223 S489 := xm502.tr xe490
  have xm549 : ext S223 S525 := xm548.tr xe526
  have am550 : isA S525 qa222 23 := xm549.A aqa222
  have z547 : ∀ j9, S536.i qa222 j9 = 0 := by rw [← hS536]; exact fun j9 => (congrFun (up_nq (f := S525.i) (fun e9 : qa222 = qa535 => hqa535 (e9 ▸ am550.1))) j9).trans (z530 j9)
  have xm552 : ext S249 S489 := xm506.tr xe490
  have xm553 : ext S249 S525 := xm552.tr xe526
  have am554 : isA S525 qa248 23 := xm553.A aqa248
  have z551 : ∀ j9, S536.i qa248 j9 = 0 := by rw [← hS536]; exact fun j9 => (congrFun (up_nq (f := S525.i) (fun e9 : qa248 = qa535 => hqa535 (e9 ▸ am554.1))) j9).trans (z531 j9)
  have xm556 : ext S280 S489 := xm510.tr xe490
  have xm557 : ext S280 S525 := xm556.tr xe526
  have am558 : isA S525 qa279 23 := xm557.A aqa279
  have z555 : ∀ j9, S536.i qa279 j9 = 0 := by rw [← hS536]; exact fun j9 => (congrFun (up_nq (f := S525.i) (fun e9 : qa279 = qa535 => hqa535 (e9 ▸ am558.1))) j9).trans (z532 j9)
  have xm560 : ext S316 S489 := xm514.tr xe490
  have xm561 : ext S316 S525 := xm560.tr xe526
  have am562 : isA S525 qa315 23 := xm561.A aqa315
  have z559 : ∀ j9, S536.i qa315 j9 = 0 := by rw [← hS536]; exact fun j9 => (congrFun (up_nq (f := S525.i) (fun e9 : qa315 = qa535 => hqa535 (e9 ▸ am562.1))) j9).trans (z533 j9)
  refine W.widen (k := 19) (n := 880) (Nat.le_of_ble_eq_true rfl) (Nat.le_of_ble_eq_true rfl) ?_
  have aqa535 : isA S536 qa535 17 := by rw [← hS536]; exact nw_A (by decide)
  have nqa535 : S536.n qa535 = 200 := by rw [← hS536]; exact nw_n
  have xm563 : ext S S525 := xm517.tr xe526
  have xm564 : ext S S536 := xm563.tr xe537
  have am565 : isA S536 o1 12 := xm564.A h_o1
  obtain ⟨k566, gk566, hk566⟩ := wGt (cy := cy) X S536 am565.1 am565.2.1
  refine va_putF (D := D) (ci := 16) (v := .ref qa535) (ty := (tyX12 32)) (C := RX12) (T := TX12) (N := 34) hx hb hts (by decide +kernel) tyX12 tyX12_ok nmX12 hown hK hP hD hS k566 hk566 rfl 32 (by decide) (hts (.fieldLink RX12 88 "HobhouseModel" "lowOther" "[I") (by decide +kernel)) (fun _ h9 => h9) rfl hin rfl (by decide +kernel) (rfl) (rfl) (Nat.le_of_ble_eq_true rfl) dX12_init_167 (fun H locs hP2 hD2 hS => ?_)
  have e9 := wPuF (cy := cy) (j := 32) (v := (some qa535)) hD am565.1 am565.2.1 gk566 rfl
  have N567 : ∀ j9, j9 ∉ (31 :: 30 :: 29 :: 14 :: 13 :: 12 :: 11 :: 10 :: 9 :: 8 :: 7 :: 6 :: 5 :: 4 :: 3 :: 2 :: 1 :: 0 :: 77 :: [] : List Nat) → S525.F o1 j9 = none := by rw [← hS525]; exact fun j9 h9 => (sF_ne (fun q9 => h9 (by rw [q9.2]; exact List.mem_cons_self))).trans (N522 j9 (fun q9 => h9 (List.mem_cons_of_mem _ q9)))
  have Z568 : ∀ j9, j9 ∉ (18 :: 17 :: [] : List Nat) → S525.I o1 j9 = 0 := by rw [← hS525]; exact Z523
  have am571 : isA S525 o1 12 := xm563.A h_o1
  have N569 : ∀ j9, j9 ∉ (31 :: 30 :: 29 :: 14 :: 13 :: 12 :: 11 :: 10 :: 9 :: 8 :: 7 :: 6 :: 5 :: 4 :: 3 :: 2 :: 1 :: 0 :: 77 :: [] : List Nat) → S536.F o1 j9 = none := by rw [← hS536]; exact fun j9 h9 => (nw_Fo hqa535 am571.1).trans (N567 j9 h9)
  have Z570 : ∀ j9, j9 ∉ (18 :: 17 :: [] : List Nat) → S536.I o1 j9 = 0 := by rw [← hS536]; exact fun j9 h9 => (nw_Io hqa535 am571.1).trans (Z568 j9 h9)
  obtain ⟨S572, hS572⟩ : ∃ z, S536.sF o1 32 (some qa535) = z := ⟨_, rfl⟩
  replace hP : va_P D vwCl (X ++ PL cy S572) H := by rw [← hS572, ← e9]; exact hP2
  replace hD : va_D A (X ++ PL cy S572) := by rw [← hS572, ← e9]; exact hD2
  clear hP2 hD2 e9
  have xe573 : ext S536 S572 := by rw [← hS572]; exact ext.sF (N569 32 (by decide))
  have t574 : stp ([] : List (Nat × Nat)) [o1] (o1 :: R) S S572 := by rw [← hS572]; exact t538.F 32 qa535 List.mem_cons_self (Or.inl List.mem_cons_self) (N569 32 (by decide))
  have z575 : ∀ j9, S572.i qa183 j9 = 0 := by rw [← hS572]; exact z539
  have z576 : ∀ j9, S572.i qa201 j9 = 0 := by rw [← hS572]; exact z543
  have z577 : ∀ j9, S572.i qa222 j9 = 0 := by rw [← hS572]; exact z547
  have z578 : ∀ j9, S572.i qa248 j9 = 0 := by rw [← hS572]; exact z551
  have z579 : ∀ j9, S572.i qa279 j9 = 0 := by rw [← hS572]; exact z555
  have z580 : ∀ j9, S572.i qa315 j9 = 0 := by rw [← hS572]; exact z559
  have F581 : S572.F o1 32 = some qa535 := by rw [← hS572]; exact sF_eq
  refine lv_aload_n hx hb dX12_init_170 rfl (lv_at hl 0 rfl) ?_
  refine lv_bipush (v := 25) hx hb dX12_init_171 (by decide +kernel) ?_
  refine va_newa (atype := .int) hx hb (hts (.arrayClass .int) (by decide +kernel)) (ty := .int) rfl hK hP hD hS hA (N' := 25) (a0 := (25, .inl (fun _ => 0))) (fun _ => rfl) (by decide) (by decide) (by decide) (Nat.le_of_ble_eq_true rfl) (Nat.le_of_ble_eq_true rfl) dX12_init_173 (fun qa582 cqa582 H hK2 hP2 hD2 hS => ?_)
  obtain rfl : cqa582 = cy 2 := cls_int hK hK2
  have hqa582 : qa582 ∉ S572.L := nw_q hD2
  have e9 := wNw (cy := cy) (X := X) (S := S572) (a := qa582) (k := 17) (z := 25) (f := fun _ => 0) (g := fun _ => none) hqa582 rfl
  obtain ⟨S583, hS583⟩ : ∃ z, S572.nw qa582 17 25 (fun _ => 0) (fun _ => none) = z := ⟨_, rfl⟩
  replace hP : va_P D vwCl (X ++ PL cy S583) H := by rw [← hS583, ← e9]; exact hP2
  replace hD : va_D A (X ++ PL cy S583) := by rw [← hS583, ← e9]; exact hD2
  clear hP2 hD2 e9
  have xe584 : ext S572 S583 := by rw [← hS583]; exact ext.nw hqa582
  have t585 : stp ([] : List (Nat × Nat)) [o1] (o1 :: R) S S583 := by rw [← hS583]; exact t574.nwA hqa582 (by decide)
  have xm587 : ext S184 S536 := xm541.tr xe537
  have xm588 : ext S184 S572 := xm587.tr xe573
  have am589 : isA S572 qa183 23 := xm588.A aqa183
  have z586 : ∀ j9, S583.i qa183 j9 = 0 := by rw [← hS583]; exact fun j9 => (congrFun (up_nq (f := S572.i) (fun e9 : qa183 = qa582 => hqa582 (e9 ▸ am589.1))) j9).trans (z575 j9)
  have xm591 : ext S202 S536 := xm545.tr xe537
  have xm592 : ext S202 S572 := xm591.tr xe573
  have am593 : isA S572 qa201 23 := xm592.A aqa201
  have z590 : ∀ j9, S583.i qa201 j9 = 0 := by rw [← hS583]; exact fun j9 => (congrFun (up_nq (f := S572.i) (fun e9 : qa201 = qa582 => hqa582 (e9 ▸ am593.1))) j9).trans (z576 j9)
  have xm595 : ext S223 S536 := xm549.tr xe537
  have xm596 : ext S223 S572 := xm595.tr xe573
  have am597 : isA S572 qa222 23 := xm596.A aqa222
  have z594 : ∀ j9, S583.i qa222 j9 = 0 := by rw [← hS583]; exact fun j9 => (congrFun (up_nq (f := S572.i) (fun e9 : qa222 = qa582 => hqa582 (e9 ▸ am597.1))) j9).trans (z577 j9)
  have xm599 : ext S249 S536 := xm553.tr xe537
  have xm600 : ext S249 S572 := xm599.tr xe573
  have am601 : isA S572 qa248 23 := xm600.A aqa248
  have z598 : ∀ j9, S583.i qa248 j9 = 0 := by rw [← hS583]; exact fun j9 => (congrFun (up_nq (f := S572.i) (fun e9 : qa248 = qa582 => hqa582 (e9 ▸ am601.1))) j9).trans (z578 j9)
  have xm603 : ext S280 S536 := xm557.tr xe537
  have xm604 : ext S280 S572 := xm603.tr xe573
  have am605 : isA S572 qa279 23 := xm604.A aqa279
  have z602 : ∀ j9, S583.i qa279 j9 = 0 := by rw [← hS583]; exact fun j9 => (congrFun (up_nq (f := S572.i) (fun e9 : qa279 = qa582 => hqa582 (e9 ▸ am605.1))) j9).trans (z579 j9)
  have xm607 : ext S316 S536 := xm561.tr xe537
  have xm608 : ext S316 S572 := xm607.tr xe573
  have am609 : isA S572 qa315 23 := xm608.A aqa315
  have z606 : ∀ j9, S583.i qa315 j9 = 0 := by rw [← hS583]; exact fun j9 => (congrFun (up_nq (f := S572.i) (fun e9 : qa315 = qa582 => hqa582 (e9 ▸ am609.1))) j9).trans (z580 j9)
  refine W.widen (k := 20) (n := 905) (Nat.le_of_ble_eq_true rfl) (Nat.le_of_ble_eq_true rfl) ?_
  have aqa582 : isA S583 qa582 17 := by rw [← hS583]; exact nw_A (by decide)
  have nqa582 : S583.n qa582 = 25 := by rw [← hS583]; exact nw_n
  have xm610 : ext S S572 := xm564.tr xe573
  have xm611 : ext S S583 := xm610.tr xe584
  have am612 : isA S583 o1 12 := xm611.A h_o1
  obtain ⟨k613, gk613, hk613⟩ := wGt (cy := cy) X S583 am612.1 am612.2.1
  refine va_putF (D := D) (ci := 16) (v := .ref qa582) (ty := (tyX12 33)) (C := RX12) (T := TX12) (N := 34) hx hb hts (by decide +kernel) tyX12 tyX12_ok nmX12 hown hK hP hD hS k613 hk613 rfl 33 (by decide) (hts (.fieldLink RX12 91 "HobhouseModel" "peaks" "[I") (by decide +kernel)) (fun _ h9 => h9) rfl hin rfl (by decide +kernel) (rfl) (rfl) (Nat.le_of_ble_eq_true rfl) dX12_init_175 (fun H locs hP2 hD2 hS => ?_)
  have e9 := wPuF (cy := cy) (j := 33) (v := (some qa582)) hD am612.1 am612.2.1 gk613 rfl
  have N614 : ∀ j9, j9 ∉ (32 :: 31 :: 30 :: 29 :: 14 :: 13 :: 12 :: 11 :: 10 :: 9 :: 8 :: 7 :: 6 :: 5 :: 4 :: 3 :: 2 :: 1 :: 0 :: 77 :: [] : List Nat) → S572.F o1 j9 = none := by rw [← hS572]; exact fun j9 h9 => (sF_ne (fun q9 => h9 (by rw [q9.2]; exact List.mem_cons_self))).trans (N569 j9 (fun q9 => h9 (List.mem_cons_of_mem _ q9)))
  have Z615 : ∀ j9, j9 ∉ (18 :: 17 :: [] : List Nat) → S572.I o1 j9 = 0 := by rw [← hS572]; exact Z570
  have am618 : isA S572 o1 12 := xm610.A h_o1
  have N616 : ∀ j9, j9 ∉ (32 :: 31 :: 30 :: 29 :: 14 :: 13 :: 12 :: 11 :: 10 :: 9 :: 8 :: 7 :: 6 :: 5 :: 4 :: 3 :: 2 :: 1 :: 0 :: 77 :: [] : List Nat) → S583.F o1 j9 = none := by rw [← hS583]; exact fun j9 h9 => (nw_Fo hqa582 am618.1).trans (N614 j9 h9)
  have Z617 : ∀ j9, j9 ∉ (18 :: 17 :: [] : List Nat) → S583.I o1 j9 = 0 := by rw [← hS583]; exact fun j9 h9 => (nw_Io hqa582 am618.1).trans (Z615 j9 h9)
  obtain ⟨S619, hS619⟩ : ∃ z, S583.sF o1 33 (some qa582) = z := ⟨_, rfl⟩
  replace hP : va_P D vwCl (X ++ PL cy S619) H := by rw [← hS619, ← e9]; exact hP2
  replace hD : va_D A (X ++ PL cy S619) := by rw [← hS619, ← e9]; exact hD2
  clear hP2 hD2 e9
  have xe620 : ext S583 S619 := by rw [← hS619]; exact ext.sF (N616 33 (by decide))
  have t621 : stp ([] : List (Nat × Nat)) [o1] (o1 :: R) S S619 := by rw [← hS619]; exact t585.F 33 qa582 List.mem_cons_self (Or.inl List.mem_cons_self) (N616 33 (by decide))
  have z622 : ∀ j9, S619.i qa183 j9 = 0 := by rw [← hS619]; exact z586
  have z623 : ∀ j9, S619.i qa201 j9 = 0 := by rw [← hS619]; exact z590
  have z624 : ∀ j9, S619.i qa222 j9 = 0 := by rw [← hS619]; exact z594
  have z625 : ∀ j9, S619.i qa248 j9 = 0 := by rw [← hS619]; exact z598
  have z626 : ∀ j9, S619.i qa279 j9 = 0 := by rw [← hS619]; exact z602
  have z627 : ∀ j9, S619.i qa315 j9 = 0 := by rw [← hS619]; exact z606
  have F628 : S619.F o1 33 = some qa582 := by rw [← hS619]; exact sF_eq
  have xm629 : ext S S619 := xm611.tr xe620
  have am630 : isA S619 o1 12 := xm629.A h_o1
  have oo : isA S619 o1 12 := am630
  have N631 : ∀ j9, j9 ∉ (33 :: 32 :: 31 :: 30 :: 29 :: 14 :: 13 :: 12 :: 11 :: 10 :: 9 :: 8 :: 7 :: 6 :: 5 :: 4 :: 3 :: 2 :: 1 :: 0 :: 77 :: [] : List Nat) → S619.F o1 j9 = none := by rw [← hS619]; exact fun j9 h9 => (sF_ne (fun q9 => h9 (by rw [q9.2]; exact List.mem_cons_self))).trans (N616 j9 (fun q9 => h9 (List.mem_cons_of_mem _ q9)))
  have Z632 : ∀ j9, j9 ∉ (18 :: 17 :: [] : List Nat) → S619.I o1 j9 = 0 := by rw [← hS619]; exact Z617
  have I15 : S619.I o1 15 = (0 : Int32) := (Z632 15 (by decide))
  have I16 : S619.I o1 16 = (0 : Int32) := (Z632 16 (by decide))
  have I17 : S619.I o1 17 = (24 : Int32) := (by rw [← hS619]; show S583.I o1 17 = _; rw [← hS583, nw_Io hqa582 am618.1]; rw [← hS572]; show S536.I o1 17 = _; rw [← hS536, nw_Io hqa535 am571.1]; rw [← hS525]; show S489.I o1 17 = _; rw [← hS489, nw_Io hqa488 am524.1]; rw [← hS478]; show S442.I o1 17 = _; rw [← hS442, nw_Io hqa441 am477.1]; rw [← hS431]; show S381.I o1 17 = _; rw [← hS381, nw_Io hqa380 am430.1]; rw [← hS371, sI_I (by rintro ⟨e1, e2⟩; exact absurd e2 (by decide))]; rw [← hS359, sI_eq])
  have I18 : S619.I o1 18 = (60 : Int32) := (by rw [← hS619]; show S583.I o1 18 = _; rw [← hS583, nw_Io hqa582 am618.1]; rw [← hS572]; show S536.I o1 18 = _; rw [← hS536, nw_Io hqa535 am571.1]; rw [← hS525]; show S489.I o1 18 = _; rw [← hS489, nw_Io hqa488 am524.1]; rw [← hS478]; show S442.I o1 18 = _; rw [← hS442, nw_Io hqa441 am477.1]; rw [← hS431]; show S381.I o1 18 = _; rw [← hS381, nw_Io hqa380 am430.1]; rw [← hS371, sI_eq])
  have I19 : S619.I o1 19 = (0 : Int32) := (Z632 19 (by decide))
  have I20 : S619.I o1 20 = (0 : Int32) := (Z632 20 (by decide))
  have I21 : S619.I o1 21 = (0 : Int32) := (Z632 21 (by decide))
  have I22 : S619.I o1 22 = (0 : Int32) := (Z632 22 (by decide))
  have I23 : S619.I o1 23 = (0 : Int32) := (Z632 23 (by decide))
  have I24 : S619.I o1 24 = (0 : Int32) := (Z632 24 (by decide))
  have I25 : S619.I o1 25 = (0 : Int32) := (Z632 25 (by decide))
  have I26 : S619.I o1 26 = (0 : Int32) := (Z632 26 (by decide))
  have xm633 : ext S30 S45 := xe36.tr xe47
  have xm634 : ext S30 S60 := xm633.tr xe61
  have xm635 : ext S30 S65 := xm634.tr xe66
  have xm636 : ext S30 S77 := xm635.tr xe78
  have xm637 : ext S30 S82 := xm636.tr xe83
  have xm638 : ext S30 S94 := xm637.tr xe95
  have xm639 : ext S30 S99 := xm638.tr xe100
  have xm640 : ext S30 S111 := xm639.tr xe112
  have xm641 : ext S30 S116 := xm640.tr xe117
  have xm642 : ext S30 S128 := xm641.tr xe129
  have xm643 : ext S30 S133 := xm642.tr xe134
  have xm644 : ext S30 S145 := xm643.tr xe146
  have xm645 : ext S30 S150 := xm644.tr xe151
  have xm646 : ext S30 S162 := xm645.tr xe163
  have xm647 : ext S30 S167 := xm646.tr xe168
  have xm648 : ext S30 S179 := xm647.tr xe180
  have xm649 : ext S30 S184 := xm648.tr xe185
  have xm650 : ext S30 S196 := xm649.tr xe197
  have xm651 : ext S30 S202 := xm650.tr xe203
  have xm652 : ext S30 S216 := xm651.tr xe217
  have xm653 : ext S30 S223 := xm652.tr xe224
  have xm654 : ext S30 S241 := xm653.tr xe242
  have xm655 : ext S30 S249 := xm654.tr xe250
  have xm656 : ext S30 S271 := xm655.tr xe272
  have xm657 : ext S30 S280 := xm656.tr xe281
  have xm658 : ext S30 S306 := xm657.tr xe307
  have xm659 : ext S30 S316 := xm658.tr xe317
  have xm660 : ext S30 S346 := xm659.tr xe347
  have xm661 : ext S30 S359 := xm660.tr xe360
  have xm662 : ext S30 S371 := xm661.tr xe372
  have xm663 : ext S30 S381 := xm662.tr xe382
  have xm664 : ext S30 S431 := xm663.tr xe432
  have xm665 : ext S30 S442 := xm664.tr xe443
  have xm666 : ext S30 S478 := xm665.tr xe479
  have xm667 : ext S30 S489 := xm666.tr xe490
  have xm668 : ext S30 S525 := xm667.tr xe526
  have xm669 : ext S30 S536 := xm668.tr xe537
  have xm670 : ext S30 S572 := xm669.tr xe573
  have xm671 : ext S30 S583 := xm670.tr xe584
  have xm672 : ext S30 S619 := xm671.tr xe620
  have xm673 : ext S15 S35 := xe31.tr xe36
  have xm674 : ext S15 S45 := xm673.tr xe47
  have xm675 : ext S15 S60 := xm674.tr xe61
  have xm676 : ext S15 S65 := xm675.tr xe66
  have xm677 : ext S15 S77 := xm676.tr xe78
  have xm678 : ext S15 S82 := xm677.tr xe83
  have xm679 : ext S15 S94 := xm678.tr xe95
  have xm680 : ext S15 S99 := xm679.tr xe100
  have xm681 : ext S15 S111 := xm680.tr xe112
  have xm682 : ext S15 S116 := xm681.tr xe117
  have xm683 : ext S15 S128 := xm682.tr xe129
  have xm684 : ext S15 S133 := xm683.tr xe134
  have xm685 : ext S15 S145 := xm684.tr xe146
  have xm686 : ext S15 S150 := xm685.tr xe151
  have xm687 : ext S15 S162 := xm686.tr xe163
  have xm688 : ext S15 S167 := xm687.tr xe168
  have xm689 : ext S15 S179 := xm688.tr xe180
  have xm690 : ext S15 S184 := xm689.tr xe185
  have xm691 : ext S15 S196 := xm690.tr xe197
  have xm692 : ext S15 S202 := xm691.tr xe203
  have xm693 : ext S15 S216 := xm692.tr xe217
  have xm694 : ext S15 S223 := xm693.tr xe224
  have xm695 : ext S15 S241 := xm694.tr xe242
  have xm696 : ext S15 S249 := xm695.tr xe250
  have xm697 : ext S15 S271 := xm696.tr xe272
  have xm698 : ext S15 S280 := xm697.tr xe281
  have xm699 : ext S15 S306 := xm698.tr xe307
  have xm700 : ext S15 S316 := xm699.tr xe317
  have xm701 : ext S15 S346 := xm700.tr xe347
  have xm702 : ext S15 S359 := xm701.tr xe360
  have xm703 : ext S15 S371 := xm702.tr xe372
  have xm704 : ext S15 S381 := xm703.tr xe382
  have xm705 : ext S15 S431 := xm704.tr xe432
  have xm706 : ext S15 S442 := xm705.tr xe443
  have xm707 : ext S15 S478 := xm706.tr xe479
  have xm708 : ext S15 S489 := xm707.tr xe490
  have xm709 : ext S15 S525 := xm708.tr xe526
  have xm710 : ext S15 S536 := xm709.tr xe537
  have xm711 : ext S15 S572 := xm710.tr xe573
  have xm712 : ext S15 S583 := xm711.tr xe584
  have xm713 : ext S15 S619 := xm712.tr xe620
  have am714 : isA S619 qa5 14 := xm713.A (xe17.A aqa5)
  have xm715 : ext S6 S30 := xe17.tr xe31
  have xm716 : ext S6 S35 := xm715.tr xe36
  have xm717 : ext S6 S45 := xm716.tr xe47
  have xm718 : ext S6 S60 := xm717.tr xe61
  have xm719 : ext S6 S65 := xm718.tr xe66
  have xm720 : ext S6 S77 := xm719.tr xe78
  have xm721 : ext S6 S82 := xm720.tr xe83
  have xm722 : ext S6 S94 := xm721.tr xe95
  have xm723 : ext S6 S99 := xm722.tr xe100
  have xm724 : ext S6 S111 := xm723.tr xe112
  have xm725 : ext S6 S116 := xm724.tr xe117
  have xm726 : ext S6 S128 := xm725.tr xe129
  have xm727 : ext S6 S133 := xm726.tr xe134
  have xm728 : ext S6 S145 := xm727.tr xe146
  have xm729 : ext S6 S150 := xm728.tr xe151
  have xm730 : ext S6 S162 := xm729.tr xe163
  have xm731 : ext S6 S167 := xm730.tr xe168
  have xm732 : ext S6 S179 := xm731.tr xe180
  have xm733 : ext S6 S184 := xm732.tr xe185
  have xm734 : ext S6 S196 := xm733.tr xe197
  have xm735 : ext S6 S202 := xm734.tr xe203
  have xm736 : ext S6 S216 := xm735.tr xe217
  have xm737 : ext S6 S223 := xm736.tr xe224
  have xm738 : ext S6 S241 := xm737.tr xe242
  have xm739 : ext S6 S249 := xm738.tr xe250
  have xm740 : ext S6 S271 := xm739.tr xe272
  have xm741 : ext S6 S280 := xm740.tr xe281
  have xm742 : ext S6 S306 := xm741.tr xe307
  have xm743 : ext S6 S316 := xm742.tr xe317
  have xm744 : ext S6 S346 := xm743.tr xe347
  have xm745 : ext S6 S359 := xm744.tr xe360
  have xm746 : ext S6 S371 := xm745.tr xe372
  have xm747 : ext S6 S381 := xm746.tr xe382
  have xm748 : ext S6 S431 := xm747.tr xe432
  have xm749 : ext S6 S442 := xm748.tr xe443
  have xm750 : ext S6 S478 := xm749.tr xe479
  have xm751 : ext S6 S489 := xm750.tr xe490
  have xm752 : ext S6 S525 := xm751.tr xe526
  have xm753 : ext S6 S536 := xm752.tr xe537
  have xm754 : ext S6 S572 := xm753.tr xe573
  have xm755 : ext S6 S583 := xm754.tr xe584
  have xm756 : ext S6 S619 := xm755.tr xe620
  have xm757 : ext S60 S77 := xe66.tr xe78
  have xm758 : ext S60 S82 := xm757.tr xe83
  have xm759 : ext S60 S94 := xm758.tr xe95
  have xm760 : ext S60 S99 := xm759.tr xe100
  have xm761 : ext S60 S111 := xm760.tr xe112
  have xm762 : ext S60 S116 := xm761.tr xe117
  have xm763 : ext S60 S128 := xm762.tr xe129
  have xm764 : ext S60 S133 := xm763.tr xe134
  have xm765 : ext S60 S145 := xm764.tr xe146
  have xm766 : ext S60 S150 := xm765.tr xe151
  have xm767 : ext S60 S162 := xm766.tr xe163
  have xm768 : ext S60 S167 := xm767.tr xe168
  have xm769 : ext S60 S179 := xm768.tr xe180
  have xm770 : ext S60 S184 := xm769.tr xe185
  have xm771 : ext S60 S196 := xm770.tr xe197
  have xm772 : ext S60 S202 := xm771.tr xe203
  have xm773 : ext S60 S216 := xm772.tr xe217
  have xm774 : ext S60 S223 := xm773.tr xe224
  have xm775 : ext S60 S241 := xm774.tr xe242
  have xm776 : ext S60 S249 := xm775.tr xe250
  have xm777 : ext S60 S271 := xm776.tr xe272
  have xm778 : ext S60 S280 := xm777.tr xe281
  have xm779 : ext S60 S306 := xm778.tr xe307
  have xm780 : ext S60 S316 := xm779.tr xe317
  have xm781 : ext S60 S346 := xm780.tr xe347
  have xm782 : ext S60 S359 := xm781.tr xe360
  have xm783 : ext S60 S371 := xm782.tr xe372
  have xm784 : ext S60 S381 := xm783.tr xe382
  have xm785 : ext S60 S431 := xm784.tr xe432
  have xm786 : ext S60 S442 := xm785.tr xe443
  have xm787 : ext S60 S478 := xm786.tr xe479
  have xm788 : ext S60 S489 := xm787.tr xe490
  have xm789 : ext S60 S525 := xm788.tr xe526
  have xm790 : ext S60 S536 := xm789.tr xe537
  have xm791 : ext S60 S572 := xm790.tr xe573
  have xm792 : ext S60 S583 := xm791.tr xe584
  have xm793 : ext S60 S619 := xm792.tr xe620
  have xm794 : ext S45 S65 := xe61.tr xe66
  have xm795 : ext S45 S77 := xm794.tr xe78
  have xm796 : ext S45 S82 := xm795.tr xe83
  have xm797 : ext S45 S94 := xm796.tr xe95
  have xm798 : ext S45 S99 := xm797.tr xe100
  have xm799 : ext S45 S111 := xm798.tr xe112
  have xm800 : ext S45 S116 := xm799.tr xe117
  have xm801 : ext S45 S128 := xm800.tr xe129
  have xm802 : ext S45 S133 := xm801.tr xe134
  have xm803 : ext S45 S145 := xm802.tr xe146
  have xm804 : ext S45 S150 := xm803.tr xe151
  have xm805 : ext S45 S162 := xm804.tr xe163
  have xm806 : ext S45 S167 := xm805.tr xe168
  have xm807 : ext S45 S179 := xm806.tr xe180
  have xm808 : ext S45 S184 := xm807.tr xe185
  have xm809 : ext S45 S196 := xm808.tr xe197
  have xm810 : ext S45 S202 := xm809.tr xe203
  have xm811 : ext S45 S216 := xm810.tr xe217
  have xm812 : ext S45 S223 := xm811.tr xe224
  have xm813 : ext S45 S241 := xm812.tr xe242
  have xm814 : ext S45 S249 := xm813.tr xe250
  have xm815 : ext S45 S271 := xm814.tr xe272
  have xm816 : ext S45 S280 := xm815.tr xe281
  have xm817 : ext S45 S306 := xm816.tr xe307
  have xm818 : ext S45 S316 := xm817.tr xe317
  have xm819 : ext S45 S346 := xm818.tr xe347
  have xm820 : ext S45 S359 := xm819.tr xe360
  have xm821 : ext S45 S371 := xm820.tr xe372
  have xm822 : ext S45 S381 := xm821.tr xe382
  have xm823 : ext S45 S431 := xm822.tr xe432
  have xm824 : ext S45 S442 := xm823.tr xe443
  have xm825 : ext S45 S478 := xm824.tr xe479
  have xm826 : ext S45 S489 := xm825.tr xe490
  have xm827 : ext S45 S525 := xm826.tr xe526
  have xm828 : ext S45 S536 := xm827.tr xe537
  have xm829 : ext S45 S572 := xm828.tr xe573
  have xm830 : ext S45 S583 := xm829.tr xe584
  have xm831 : ext S45 S619 := xm830.tr xe620
  have am832 : isA S619 qa34 14 := xm831.A (xe47.A aqa34)
  have xm833 : ext S35 S60 := xe47.tr xe61
  have xm834 : ext S35 S65 := xm833.tr xe66
  have xm835 : ext S35 S77 := xm834.tr xe78
  have xm836 : ext S35 S82 := xm835.tr xe83
  have xm837 : ext S35 S94 := xm836.tr xe95
  have xm838 : ext S35 S99 := xm837.tr xe100
  have xm839 : ext S35 S111 := xm838.tr xe112
  have xm840 : ext S35 S116 := xm839.tr xe117
  have xm841 : ext S35 S128 := xm840.tr xe129
  have xm842 : ext S35 S133 := xm841.tr xe134
  have xm843 : ext S35 S145 := xm842.tr xe146
  have xm844 : ext S35 S150 := xm843.tr xe151
  have xm845 : ext S35 S162 := xm844.tr xe163
  have xm846 : ext S35 S167 := xm845.tr xe168
  have xm847 : ext S35 S179 := xm846.tr xe180
  have xm848 : ext S35 S184 := xm847.tr xe185
  have xm849 : ext S35 S196 := xm848.tr xe197
  have xm850 : ext S35 S202 := xm849.tr xe203
  have xm851 : ext S35 S216 := xm850.tr xe217
  have xm852 : ext S35 S223 := xm851.tr xe224
  have xm853 : ext S35 S241 := xm852.tr xe242
  have xm854 : ext S35 S249 := xm853.tr xe250
  have xm855 : ext S35 S271 := xm854.tr xe272
  have xm856 : ext S35 S280 := xm855.tr xe281
  have xm857 : ext S35 S306 := xm856.tr xe307
  have xm858 : ext S35 S316 := xm857.tr xe317
  have xm859 : ext S35 S346 := xm858.tr xe347
  have xm860 : ext S35 S359 := xm859.tr xe360
  have xm861 : ext S35 S371 := xm860.tr xe372
  have xm862 : ext S35 S381 := xm861.tr xe382
  have xm863 : ext S35 S431 := xm862.tr xe432
  have xm864 : ext S35 S442 := xm863.tr xe443
  have xm865 : ext S35 S478 := xm864.tr xe479
  have xm866 : ext S35 S489 := xm865.tr xe490
  have xm867 : ext S35 S525 := xm866.tr xe526
  have xm868 : ext S35 S536 := xm867.tr xe537
  have xm869 : ext S35 S572 := xm868.tr xe573
  have xm870 : ext S35 S583 := xm869.tr xe584
  have xm871 : ext S35 S619 := xm870.tr xe620
  have xm872 : ext S77 S94 := xe83.tr xe95
  have xm873 : ext S77 S99 := xm872.tr xe100
  have xm874 : ext S77 S111 := xm873.tr xe112
  have xm875 : ext S77 S116 := xm874.tr xe117
  have xm876 : ext S77 S128 := xm875.tr xe129
  have xm877 : ext S77 S133 := xm876.tr xe134
  have xm878 : ext S77 S145 := xm877.tr xe146
  have xm879 : ext S77 S150 := xm878.tr xe151
  have xm880 : ext S77 S162 := xm879.tr xe163
  have xm881 : ext S77 S167 := xm880.tr xe168
  have xm882 : ext S77 S179 := xm881.tr xe180
  have xm883 : ext S77 S184 := xm882.tr xe185
  have xm884 : ext S77 S196 := xm883.tr xe197
  have xm885 : ext S77 S202 := xm884.tr xe203
  have xm886 : ext S77 S216 := xm885.tr xe217
  have xm887 : ext S77 S223 := xm886.tr xe224
  have xm888 : ext S77 S241 := xm887.tr xe242
  have xm889 : ext S77 S249 := xm888.tr xe250
  have xm890 : ext S77 S271 := xm889.tr xe272
  have xm891 : ext S77 S280 := xm890.tr xe281
  have xm892 : ext S77 S306 := xm891.tr xe307
  have xm893 : ext S77 S316 := xm892.tr xe317
  have xm894 : ext S77 S346 := xm893.tr xe347
  have xm895 : ext S77 S359 := xm894.tr xe360
  have xm896 : ext S77 S371 := xm895.tr xe372
  have xm897 : ext S77 S381 := xm896.tr xe382
  have xm898 : ext S77 S431 := xm897.tr xe432
  have xm899 : ext S77 S442 := xm898.tr xe443
  have xm900 : ext S77 S478 := xm899.tr xe479
  have xm901 : ext S77 S489 := xm900.tr xe490
  have xm902 : ext S77 S525 := xm901.tr xe526
  have xm903 : ext S77 S536 := xm902.tr xe537
  have xm904 : ext S77 S572 := xm903.tr xe573
  have xm905 : ext S77 S583 := xm904.tr xe584
  have xm906 : ext S77 S619 := xm905.tr xe620
  have xm907 : ext S65 S82 := xe78.tr xe83
  have xm908 : ext S65 S94 := xm907.tr xe95
  have xm909 : ext S65 S99 := xm908.tr xe100
  have xm910 : ext S65 S111 := xm909.tr xe112
  have xm911 : ext S65 S116 := xm910.tr xe117
  have xm912 : ext S65 S128 := xm911.tr xe129
  have xm913 : ext S65 S133 := xm912.tr xe134
  have xm914 : ext S65 S145 := xm913.tr xe146
  have xm915 : ext S65 S150 := xm914.tr xe151
  have xm916 : ext S65 S162 := xm915.tr xe163
  have xm917 : ext S65 S167 := xm916.tr xe168
  have xm918 : ext S65 S179 := xm917.tr xe180
  have xm919 : ext S65 S184 := xm918.tr xe185
  have xm920 : ext S65 S196 := xm919.tr xe197
  have xm921 : ext S65 S202 := xm920.tr xe203
  have xm922 : ext S65 S216 := xm921.tr xe217
  have xm923 : ext S65 S223 := xm922.tr xe224
  have xm924 : ext S65 S241 := xm923.tr xe242
  have xm925 : ext S65 S249 := xm924.tr xe250
  have xm926 : ext S65 S271 := xm925.tr xe272
  have xm927 : ext S65 S280 := xm926.tr xe281
  have xm928 : ext S65 S306 := xm927.tr xe307
  have xm929 : ext S65 S316 := xm928.tr xe317
  have xm930 : ext S65 S346 := xm929.tr xe347
  have xm931 : ext S65 S359 := xm930.tr xe360
  have xm932 : ext S65 S371 := xm931.tr xe372
  have xm933 : ext S65 S381 := xm932.tr xe382
  have xm934 : ext S65 S431 := xm933.tr xe432
  have xm935 : ext S65 S442 := xm934.tr xe443
  have xm936 : ext S65 S478 := xm935.tr xe479
  have xm937 : ext S65 S489 := xm936.tr xe490
  have xm938 : ext S65 S525 := xm937.tr xe526
  have xm939 : ext S65 S536 := xm938.tr xe537
  have xm940 : ext S65 S572 := xm939.tr xe573
  have xm941 : ext S65 S583 := xm940.tr xe584
  have xm942 : ext S65 S619 := xm941.tr xe620
  have am943 : isA S619 qa64 17 := xm942.A aqa64
  have xm944 : ext S94 S111 := xe100.tr xe112
  have xm945 : ext S94 S116 := xm944.tr xe117
  have xm946 : ext S94 S128 := xm945.tr xe129
  have xm947 : ext S94 S133 := xm946.tr xe134
  have xm948 : ext S94 S145 := xm947.tr xe146
  have xm949 : ext S94 S150 := xm948.tr xe151
  have xm950 : ext S94 S162 := xm949.tr xe163
  have xm951 : ext S94 S167 := xm950.tr xe168
  have xm952 : ext S94 S179 := xm951.tr xe180
  have xm953 : ext S94 S184 := xm952.tr xe185
  have xm954 : ext S94 S196 := xm953.tr xe197
  have xm955 : ext S94 S202 := xm954.tr xe203
  have xm956 : ext S94 S216 := xm955.tr xe217
  have xm957 : ext S94 S223 := xm956.tr xe224
  have xm958 : ext S94 S241 := xm957.tr xe242
  have xm959 : ext S94 S249 := xm958.tr xe250
  have xm960 : ext S94 S271 := xm959.tr xe272
  have xm961 : ext S94 S280 := xm960.tr xe281
  have xm962 : ext S94 S306 := xm961.tr xe307
  have xm963 : ext S94 S316 := xm962.tr xe317
  have xm964 : ext S94 S346 := xm963.tr xe347
  have xm965 : ext S94 S359 := xm964.tr xe360
  have xm966 : ext S94 S371 := xm965.tr xe372
  have xm967 : ext S94 S381 := xm966.tr xe382
  have xm968 : ext S94 S431 := xm967.tr xe432
  have xm969 : ext S94 S442 := xm968.tr xe443
  have xm970 : ext S94 S478 := xm969.tr xe479
  have xm971 : ext S94 S489 := xm970.tr xe490
  have xm972 : ext S94 S525 := xm971.tr xe526
  have xm973 : ext S94 S536 := xm972.tr xe537
  have xm974 : ext S94 S572 := xm973.tr xe573
  have xm975 : ext S94 S583 := xm974.tr xe584
  have xm976 : ext S94 S619 := xm975.tr xe620
  have xm977 : ext S82 S99 := xe95.tr xe100
  have xm978 : ext S82 S111 := xm977.tr xe112
  have xm979 : ext S82 S116 := xm978.tr xe117
  have xm980 : ext S82 S128 := xm979.tr xe129
  have xm981 : ext S82 S133 := xm980.tr xe134
  have xm982 : ext S82 S145 := xm981.tr xe146
  have xm983 : ext S82 S150 := xm982.tr xe151
  have xm984 : ext S82 S162 := xm983.tr xe163
  have xm985 : ext S82 S167 := xm984.tr xe168
  have xm986 : ext S82 S179 := xm985.tr xe180
  have xm987 : ext S82 S184 := xm986.tr xe185
  have xm988 : ext S82 S196 := xm987.tr xe197
  have xm989 : ext S82 S202 := xm988.tr xe203
  have xm990 : ext S82 S216 := xm989.tr xe217
  have xm991 : ext S82 S223 := xm990.tr xe224
  have xm992 : ext S82 S241 := xm991.tr xe242
  have xm993 : ext S82 S249 := xm992.tr xe250
  have xm994 : ext S82 S271 := xm993.tr xe272
  have xm995 : ext S82 S280 := xm994.tr xe281
  have xm996 : ext S82 S306 := xm995.tr xe307
  have xm997 : ext S82 S316 := xm996.tr xe317
  have xm998 : ext S82 S346 := xm997.tr xe347
  have xm999 : ext S82 S359 := xm998.tr xe360
  have xm1000 : ext S82 S371 := xm999.tr xe372
  have xm1001 : ext S82 S381 := xm1000.tr xe382
  have xm1002 : ext S82 S431 := xm1001.tr xe432
  have xm1003 : ext S82 S442 := xm1002.tr xe443
  have xm1004 : ext S82 S478 := xm1003.tr xe479
  have xm1005 : ext S82 S489 := xm1004.tr xe490
  have xm1006 : ext S82 S525 := xm1005.tr xe526
  have xm1007 : ext S82 S536 := xm1006.tr xe537
  have xm1008 : ext S82 S572 := xm1007.tr xe573
  have xm1009 : ext S82 S583 := xm1008.tr xe584
  have xm1010 : ext S82 S619 := xm1009.tr xe620
  have am1011 : isA S619 qa81 17 := xm1010.A aqa81
  have xm1012 : ext S111 S128 := xe117.tr xe129
  have xm1013 : ext S111 S133 := xm1012.tr xe134
  have xm1014 : ext S111 S145 := xm1013.tr xe146
  have xm1015 : ext S111 S150 := xm1014.tr xe151
  have xm1016 : ext S111 S162 := xm1015.tr xe163
  have xm1017 : ext S111 S167 := xm1016.tr xe168
  have xm1018 : ext S111 S179 := xm1017.tr xe180
  have xm1019 : ext S111 S184 := xm1018.tr xe185
  have xm1020 : ext S111 S196 := xm1019.tr xe197
  have xm1021 : ext S111 S202 := xm1020.tr xe203
  have xm1022 : ext S111 S216 := xm1021.tr xe217
  have xm1023 : ext S111 S223 := xm1022.tr xe224
  have xm1024 : ext S111 S241 := xm1023.tr xe242
  have xm1025 : ext S111 S249 := xm1024.tr xe250
  have xm1026 : ext S111 S271 := xm1025.tr xe272
  have xm1027 : ext S111 S280 := xm1026.tr xe281
  have xm1028 : ext S111 S306 := xm1027.tr xe307
  have xm1029 : ext S111 S316 := xm1028.tr xe317
  have xm1030 : ext S111 S346 := xm1029.tr xe347
  have xm1031 : ext S111 S359 := xm1030.tr xe360
  have xm1032 : ext S111 S371 := xm1031.tr xe372
  have xm1033 : ext S111 S381 := xm1032.tr xe382
  have xm1034 : ext S111 S431 := xm1033.tr xe432
  have xm1035 : ext S111 S442 := xm1034.tr xe443
  have xm1036 : ext S111 S478 := xm1035.tr xe479
  have xm1037 : ext S111 S489 := xm1036.tr xe490
  have xm1038 : ext S111 S525 := xm1037.tr xe526
  have xm1039 : ext S111 S536 := xm1038.tr xe537
  have xm1040 : ext S111 S572 := xm1039.tr xe573
  have xm1041 : ext S111 S583 := xm1040.tr xe584
  have xm1042 : ext S111 S619 := xm1041.tr xe620
  have xm1043 : ext S99 S116 := xe112.tr xe117
  have xm1044 : ext S99 S128 := xm1043.tr xe129
  have xm1045 : ext S99 S133 := xm1044.tr xe134
  have xm1046 : ext S99 S145 := xm1045.tr xe146
  have xm1047 : ext S99 S150 := xm1046.tr xe151
  have xm1048 : ext S99 S162 := xm1047.tr xe163
  have xm1049 : ext S99 S167 := xm1048.tr xe168
  have xm1050 : ext S99 S179 := xm1049.tr xe180
  have xm1051 : ext S99 S184 := xm1050.tr xe185
  have xm1052 : ext S99 S196 := xm1051.tr xe197
  have xm1053 : ext S99 S202 := xm1052.tr xe203
  have xm1054 : ext S99 S216 := xm1053.tr xe217
  have xm1055 : ext S99 S223 := xm1054.tr xe224
  have xm1056 : ext S99 S241 := xm1055.tr xe242
  have xm1057 : ext S99 S249 := xm1056.tr xe250
  have xm1058 : ext S99 S271 := xm1057.tr xe272
  have xm1059 : ext S99 S280 := xm1058.tr xe281
  have xm1060 : ext S99 S306 := xm1059.tr xe307
  have xm1061 : ext S99 S316 := xm1060.tr xe317
  have xm1062 : ext S99 S346 := xm1061.tr xe347
  have xm1063 : ext S99 S359 := xm1062.tr xe360
  have xm1064 : ext S99 S371 := xm1063.tr xe372
  have xm1065 : ext S99 S381 := xm1064.tr xe382
  have xm1066 : ext S99 S431 := xm1065.tr xe432
  have xm1067 : ext S99 S442 := xm1066.tr xe443
  have xm1068 : ext S99 S478 := xm1067.tr xe479
  have xm1069 : ext S99 S489 := xm1068.tr xe490
  have xm1070 : ext S99 S525 := xm1069.tr xe526
  have xm1071 : ext S99 S536 := xm1070.tr xe537
  have xm1072 : ext S99 S572 := xm1071.tr xe573
  have xm1073 : ext S99 S583 := xm1072.tr xe584
  have xm1074 : ext S99 S619 := xm1073.tr xe620
  have am1075 : isA S619 qa98 17 := xm1074.A aqa98
  have xm1076 : ext S128 S145 := xe134.tr xe146
  have xm1077 : ext S128 S150 := xm1076.tr xe151
  have xm1078 : ext S128 S162 := xm1077.tr xe163
  have xm1079 : ext S128 S167 := xm1078.tr xe168
  have xm1080 : ext S128 S179 := xm1079.tr xe180
  have xm1081 : ext S128 S184 := xm1080.tr xe185
  have xm1082 : ext S128 S196 := xm1081.tr xe197
  have xm1083 : ext S128 S202 := xm1082.tr xe203
  have xm1084 : ext S128 S216 := xm1083.tr xe217
  have xm1085 : ext S128 S223 := xm1084.tr xe224
  have xm1086 : ext S128 S241 := xm1085.tr xe242
  have xm1087 : ext S128 S249 := xm1086.tr xe250
  have xm1088 : ext S128 S271 := xm1087.tr xe272
  have xm1089 : ext S128 S280 := xm1088.tr xe281
  have xm1090 : ext S128 S306 := xm1089.tr xe307
  have xm1091 : ext S128 S316 := xm1090.tr xe317
  have xm1092 : ext S128 S346 := xm1091.tr xe347
  have xm1093 : ext S128 S359 := xm1092.tr xe360
  have xm1094 : ext S128 S371 := xm1093.tr xe372
  have xm1095 : ext S128 S381 := xm1094.tr xe382
  have xm1096 : ext S128 S431 := xm1095.tr xe432
  have xm1097 : ext S128 S442 := xm1096.tr xe443
  have xm1098 : ext S128 S478 := xm1097.tr xe479
  have xm1099 : ext S128 S489 := xm1098.tr xe490
  have xm1100 : ext S128 S525 := xm1099.tr xe526
  have xm1101 : ext S128 S536 := xm1100.tr xe537
  have xm1102 : ext S128 S572 := xm1101.tr xe573
  have xm1103 : ext S128 S583 := xm1102.tr xe584
  have xm1104 : ext S128 S619 := xm1103.tr xe620
  have xm1105 : ext S116 S133 := xe129.tr xe134
  have xm1106 : ext S116 S145 := xm1105.tr xe146
  have xm1107 : ext S116 S150 := xm1106.tr xe151
  have xm1108 : ext S116 S162 := xm1107.tr xe163
  have xm1109 : ext S116 S167 := xm1108.tr xe168
  have xm1110 : ext S116 S179 := xm1109.tr xe180
  have xm1111 : ext S116 S184 := xm1110.tr xe185
  have xm1112 : ext S116 S196 := xm1111.tr xe197
  have xm1113 : ext S116 S202 := xm1112.tr xe203
  have xm1114 : ext S116 S216 := xm1113.tr xe217
  have xm1115 : ext S116 S223 := xm1114.tr xe224
  have xm1116 : ext S116 S241 := xm1115.tr xe242
  have xm1117 : ext S116 S249 := xm1116.tr xe250
  have xm1118 : ext S116 S271 := xm1117.tr xe272
  have xm1119 : ext S116 S280 := xm1118.tr xe281
  have xm1120 : ext S116 S306 := xm1119.tr xe307
  have xm1121 : ext S116 S316 := xm1120.tr xe317
  have xm1122 : ext S116 S346 := xm1121.tr xe347
  have xm1123 : ext S116 S359 := xm1122.tr xe360
  have xm1124 : ext S116 S371 := xm1123.tr xe372
  have xm1125 : ext S116 S381 := xm1124.tr xe382
  have xm1126 : ext S116 S431 := xm1125.tr xe432
  have xm1127 : ext S116 S442 := xm1126.tr xe443
  have xm1128 : ext S116 S478 := xm1127.tr xe479
  have xm1129 : ext S116 S489 := xm1128.tr xe490
  have xm1130 : ext S116 S525 := xm1129.tr xe526
  have xm1131 : ext S116 S536 := xm1130.tr xe537
  have xm1132 : ext S116 S572 := xm1131.tr xe573
  have xm1133 : ext S116 S583 := xm1132.tr xe584
  have xm1134 : ext S116 S619 := xm1133.tr xe620
  have am1135 : isA S619 qa115 16 := xm1134.A aqa115
  have xm1136 : ext S145 S162 := xe151.tr xe163
  have xm1137 : ext S145 S167 := xm1136.tr xe168
  have xm1138 : ext S145 S179 := xm1137.tr xe180
  have xm1139 : ext S145 S184 := xm1138.tr xe185
  have xm1140 : ext S145 S196 := xm1139.tr xe197
  have xm1141 : ext S145 S202 := xm1140.tr xe203
  have xm1142 : ext S145 S216 := xm1141.tr xe217
  have xm1143 : ext S145 S223 := xm1142.tr xe224
  have xm1144 : ext S145 S241 := xm1143.tr xe242
  have xm1145 : ext S145 S249 := xm1144.tr xe250
  have xm1146 : ext S145 S271 := xm1145.tr xe272
  have xm1147 : ext S145 S280 := xm1146.tr xe281
  have xm1148 : ext S145 S306 := xm1147.tr xe307
  have xm1149 : ext S145 S316 := xm1148.tr xe317
  have xm1150 : ext S145 S346 := xm1149.tr xe347
  have xm1151 : ext S145 S359 := xm1150.tr xe360
  have xm1152 : ext S145 S371 := xm1151.tr xe372
  have xm1153 : ext S145 S381 := xm1152.tr xe382
  have xm1154 : ext S145 S431 := xm1153.tr xe432
  have xm1155 : ext S145 S442 := xm1154.tr xe443
  have xm1156 : ext S145 S478 := xm1155.tr xe479
  have xm1157 : ext S145 S489 := xm1156.tr xe490
  have xm1158 : ext S145 S525 := xm1157.tr xe526
  have xm1159 : ext S145 S536 := xm1158.tr xe537
  have xm1160 : ext S145 S572 := xm1159.tr xe573
  have xm1161 : ext S145 S583 := xm1160.tr xe584
  have xm1162 : ext S145 S619 := xm1161.tr xe620
  have xm1163 : ext S133 S150 := xe146.tr xe151
  have xm1164 : ext S133 S162 := xm1163.tr xe163
  have xm1165 : ext S133 S167 := xm1164.tr xe168
  have xm1166 : ext S133 S179 := xm1165.tr xe180
  have xm1167 : ext S133 S184 := xm1166.tr xe185
  have xm1168 : ext S133 S196 := xm1167.tr xe197
  have xm1169 : ext S133 S202 := xm1168.tr xe203
  have xm1170 : ext S133 S216 := xm1169.tr xe217
  have xm1171 : ext S133 S223 := xm1170.tr xe224
  have xm1172 : ext S133 S241 := xm1171.tr xe242
  have xm1173 : ext S133 S249 := xm1172.tr xe250
  have xm1174 : ext S133 S271 := xm1173.tr xe272
  have xm1175 : ext S133 S280 := xm1174.tr xe281
  have xm1176 : ext S133 S306 := xm1175.tr xe307
  have xm1177 : ext S133 S316 := xm1176.tr xe317
  have xm1178 : ext S133 S346 := xm1177.tr xe347
  have xm1179 : ext S133 S359 := xm1178.tr xe360
  have xm1180 : ext S133 S371 := xm1179.tr xe372
  have xm1181 : ext S133 S381 := xm1180.tr xe382
  have xm1182 : ext S133 S431 := xm1181.tr xe432
  have xm1183 : ext S133 S442 := xm1182.tr xe443
  have xm1184 : ext S133 S478 := xm1183.tr xe479
  have xm1185 : ext S133 S489 := xm1184.tr xe490
  have xm1186 : ext S133 S525 := xm1185.tr xe526
  have xm1187 : ext S133 S536 := xm1186.tr xe537
  have xm1188 : ext S133 S572 := xm1187.tr xe573
  have xm1189 : ext S133 S583 := xm1188.tr xe584
  have xm1190 : ext S133 S619 := xm1189.tr xe620
  have am1191 : isA S619 qa132 17 := xm1190.A aqa132
  have xm1192 : ext S162 S179 := xe168.tr xe180
  have xm1193 : ext S162 S184 := xm1192.tr xe185
  have xm1194 : ext S162 S196 := xm1193.tr xe197
  have xm1195 : ext S162 S202 := xm1194.tr xe203
  have xm1196 : ext S162 S216 := xm1195.tr xe217
  have xm1197 : ext S162 S223 := xm1196.tr xe224
  have xm1198 : ext S162 S241 := xm1197.tr xe242
  have xm1199 : ext S162 S249 := xm1198.tr xe250
  have xm1200 : ext S162 S271 := xm1199.tr xe272
  have xm1201 : ext S162 S280 := xm1200.tr xe281
  have xm1202 : ext S162 S306 := xm1201.tr xe307
  have xm1203 : ext S162 S316 := xm1202.tr xe317
  have xm1204 : ext S162 S346 := xm1203.tr xe347
  have xm1205 : ext S162 S359 := xm1204.tr xe360
  have xm1206 : ext S162 S371 := xm1205.tr xe372
  have xm1207 : ext S162 S381 := xm1206.tr xe382
  have xm1208 : ext S162 S431 := xm1207.tr xe432
  have xm1209 : ext S162 S442 := xm1208.tr xe443
  have xm1210 : ext S162 S478 := xm1209.tr xe479
  have xm1211 : ext S162 S489 := xm1210.tr xe490
  have xm1212 : ext S162 S525 := xm1211.tr xe526
  have xm1213 : ext S162 S536 := xm1212.tr xe537
  have xm1214 : ext S162 S572 := xm1213.tr xe573
  have xm1215 : ext S162 S583 := xm1214.tr xe584
  have xm1216 : ext S162 S619 := xm1215.tr xe620
  have xm1217 : ext S150 S167 := xe163.tr xe168
  have xm1218 : ext S150 S179 := xm1217.tr xe180
  have xm1219 : ext S150 S184 := xm1218.tr xe185
  have xm1220 : ext S150 S196 := xm1219.tr xe197
  have xm1221 : ext S150 S202 := xm1220.tr xe203
  have xm1222 : ext S150 S216 := xm1221.tr xe217
  have xm1223 : ext S150 S223 := xm1222.tr xe224
  have xm1224 : ext S150 S241 := xm1223.tr xe242
  have xm1225 : ext S150 S249 := xm1224.tr xe250
  have xm1226 : ext S150 S271 := xm1225.tr xe272
  have xm1227 : ext S150 S280 := xm1226.tr xe281
  have xm1228 : ext S150 S306 := xm1227.tr xe307
  have xm1229 : ext S150 S316 := xm1228.tr xe317
  have xm1230 : ext S150 S346 := xm1229.tr xe347
  have xm1231 : ext S150 S359 := xm1230.tr xe360
  have xm1232 : ext S150 S371 := xm1231.tr xe372
  have xm1233 : ext S150 S381 := xm1232.tr xe382
  have xm1234 : ext S150 S431 := xm1233.tr xe432
  have xm1235 : ext S150 S442 := xm1234.tr xe443
  have xm1236 : ext S150 S478 := xm1235.tr xe479
  have xm1237 : ext S150 S489 := xm1236.tr xe490
  have xm1238 : ext S150 S525 := xm1237.tr xe526
  have xm1239 : ext S150 S536 := xm1238.tr xe537
  have xm1240 : ext S150 S572 := xm1239.tr xe573
  have xm1241 : ext S150 S583 := xm1240.tr xe584
  have xm1242 : ext S150 S619 := xm1241.tr xe620
  have am1243 : isA S619 qa149 17 := xm1242.A aqa149
  have xm1244 : ext S179 S196 := xe185.tr xe197
  have xm1245 : ext S179 S202 := xm1244.tr xe203
  have xm1246 : ext S179 S216 := xm1245.tr xe217
  have xm1247 : ext S179 S223 := xm1246.tr xe224
  have xm1248 : ext S179 S241 := xm1247.tr xe242
  have xm1249 : ext S179 S249 := xm1248.tr xe250
  have xm1250 : ext S179 S271 := xm1249.tr xe272
  have xm1251 : ext S179 S280 := xm1250.tr xe281
  have xm1252 : ext S179 S306 := xm1251.tr xe307
  have xm1253 : ext S179 S316 := xm1252.tr xe317
  have xm1254 : ext S179 S346 := xm1253.tr xe347
  have xm1255 : ext S179 S359 := xm1254.tr xe360
  have xm1256 : ext S179 S371 := xm1255.tr xe372
  have xm1257 : ext S179 S381 := xm1256.tr xe382
  have xm1258 : ext S179 S431 := xm1257.tr xe432
  have xm1259 : ext S179 S442 := xm1258.tr xe443
  have xm1260 : ext S179 S478 := xm1259.tr xe479
  have xm1261 : ext S179 S489 := xm1260.tr xe490
  have xm1262 : ext S179 S525 := xm1261.tr xe526
  have xm1263 : ext S179 S536 := xm1262.tr xe537
  have xm1264 : ext S179 S572 := xm1263.tr xe573
  have xm1265 : ext S179 S583 := xm1264.tr xe584
  have xm1266 : ext S179 S619 := xm1265.tr xe620
  have xm1267 : ext S167 S184 := xe180.tr xe185
  have xm1268 : ext S167 S196 := xm1267.tr xe197
  have xm1269 : ext S167 S202 := xm1268.tr xe203
  have xm1270 : ext S167 S216 := xm1269.tr xe217
  have xm1271 : ext S167 S223 := xm1270.tr xe224
  have xm1272 : ext S167 S241 := xm1271.tr xe242
  have xm1273 : ext S167 S249 := xm1272.tr xe250
  have xm1274 : ext S167 S271 := xm1273.tr xe272
  have xm1275 : ext S167 S280 := xm1274.tr xe281
  have xm1276 : ext S167 S306 := xm1275.tr xe307
  have xm1277 : ext S167 S316 := xm1276.tr xe317
  have xm1278 : ext S167 S346 := xm1277.tr xe347
  have xm1279 : ext S167 S359 := xm1278.tr xe360
  have xm1280 : ext S167 S371 := xm1279.tr xe372
  have xm1281 : ext S167 S381 := xm1280.tr xe382
  have xm1282 : ext S167 S431 := xm1281.tr xe432
  have xm1283 : ext S167 S442 := xm1282.tr xe443
  have xm1284 : ext S167 S478 := xm1283.tr xe479
  have xm1285 : ext S167 S489 := xm1284.tr xe490
  have xm1286 : ext S167 S525 := xm1285.tr xe526
  have xm1287 : ext S167 S536 := xm1286.tr xe537
  have xm1288 : ext S167 S572 := xm1287.tr xe573
  have xm1289 : ext S167 S583 := xm1288.tr xe584
  have xm1290 : ext S167 S619 := xm1289.tr xe620
  have am1291 : isA S619 qa166 17 := xm1290.A aqa166
  have xm1292 : ext S431 S478 := xe443.tr xe479
  have xm1293 : ext S431 S489 := xm1292.tr xe490
  have xm1294 : ext S431 S525 := xm1293.tr xe526
  have xm1295 : ext S431 S536 := xm1294.tr xe537
  have xm1296 : ext S431 S572 := xm1295.tr xe573
  have xm1297 : ext S431 S583 := xm1296.tr xe584
  have xm1298 : ext S431 S619 := xm1297.tr xe620
  have xm1299 : ext S381 S442 := xe432.tr xe443
  have xm1300 : ext S381 S478 := xm1299.tr xe479
  have xm1301 : ext S381 S489 := xm1300.tr xe490
  have xm1302 : ext S381 S525 := xm1301.tr xe526
  have xm1303 : ext S381 S536 := xm1302.tr xe537
  have xm1304 : ext S381 S572 := xm1303.tr xe573
  have xm1305 : ext S381 S583 := xm1304.tr xe584
  have xm1306 : ext S381 S619 := xm1305.tr xe620
  have am1307 : isA S619 qa380 17 := xm1306.A aqa380
  have xm1308 : ext S478 S525 := xe490.tr xe526
  have xm1309 : ext S478 S536 := xm1308.tr xe537
  have xm1310 : ext S478 S572 := xm1309.tr xe573
  have xm1311 : ext S478 S583 := xm1310.tr xe584
  have xm1312 : ext S478 S619 := xm1311.tr xe620
  have xm1313 : ext S442 S489 := xe479.tr xe490
  have xm1314 : ext S442 S525 := xm1313.tr xe526
  have xm1315 : ext S442 S536 := xm1314.tr xe537
  have xm1316 : ext S442 S572 := xm1315.tr xe573
  have xm1317 : ext S442 S583 := xm1316.tr xe584
  have xm1318 : ext S442 S619 := xm1317.tr xe620
  have am1319 : isA S619 qa441 17 := xm1318.A aqa441
  have xm1320 : ext S525 S572 := xe537.tr xe573
  have xm1321 : ext S525 S583 := xm1320.tr xe584
  have xm1322 : ext S525 S619 := xm1321.tr xe620
  have xm1323 : ext S489 S536 := xe526.tr xe537
  have xm1324 : ext S489 S572 := xm1323.tr xe573
  have xm1325 : ext S489 S583 := xm1324.tr xe584
  have xm1326 : ext S489 S619 := xm1325.tr xe620
  have am1327 : isA S619 qa488 17 := xm1326.A aqa488
  have xm1328 : ext S572 S619 := xe584.tr xe620
  have xm1329 : ext S536 S583 := xe573.tr xe584
  have xm1330 : ext S536 S619 := xm1329.tr xe620
  have am1331 : isA S619 qa535 17 := xm1330.A aqa535
  have am1332 : isA S619 qa582 17 := xe620.A aqa582
  have xm1333 : ext S196 S216 := xe203.tr xe217
  have xm1334 : ext S196 S223 := xm1333.tr xe224
  have xm1335 : ext S196 S241 := xm1334.tr xe242
  have xm1336 : ext S196 S249 := xm1335.tr xe250
  have xm1337 : ext S196 S271 := xm1336.tr xe272
  have xm1338 : ext S196 S280 := xm1337.tr xe281
  have xm1339 : ext S196 S306 := xm1338.tr xe307
  have xm1340 : ext S196 S316 := xm1339.tr xe317
  have xm1341 : ext S196 S346 := xm1340.tr xe347
  have xm1342 : ext S196 S359 := xm1341.tr xe360
  have xm1343 : ext S196 S371 := xm1342.tr xe372
  have xm1344 : ext S196 S381 := xm1343.tr xe382
  have xm1345 : ext S196 S431 := xm1344.tr xe432
  have xm1346 : ext S196 S442 := xm1345.tr xe443
  have xm1347 : ext S196 S478 := xm1346.tr xe479
  have xm1348 : ext S196 S489 := xm1347.tr xe490
  have xm1349 : ext S196 S525 := xm1348.tr xe526
  have xm1350 : ext S196 S536 := xm1349.tr xe537
  have xm1351 : ext S196 S572 := xm1350.tr xe573
  have xm1352 : ext S196 S583 := xm1351.tr xe584
  have xm1353 : ext S196 S619 := xm1352.tr xe620
  have xm1354 : ext S184 S583 := xm588.tr xe584
  have xm1355 : ext S184 S619 := xm1354.tr xe620
  have am1356 : isA S619 qa183 23 := xm1355.A aqa183
  have xm1357 : ext S216 S241 := xe224.tr xe242
  have xm1358 : ext S216 S249 := xm1357.tr xe250
  have xm1359 : ext S216 S271 := xm1358.tr xe272
  have xm1360 : ext S216 S280 := xm1359.tr xe281
  have xm1361 : ext S216 S306 := xm1360.tr xe307
  have xm1362 : ext S216 S316 := xm1361.tr xe317
  have xm1363 : ext S216 S346 := xm1362.tr xe347
  have xm1364 : ext S216 S359 := xm1363.tr xe360
  have xm1365 : ext S216 S371 := xm1364.tr xe372
  have xm1366 : ext S216 S381 := xm1365.tr xe382
  have xm1367 : ext S216 S431 := xm1366.tr xe432
  have xm1368 : ext S216 S442 := xm1367.tr xe443
  have xm1369 : ext S216 S478 := xm1368.tr xe479
  have xm1370 : ext S216 S489 := xm1369.tr xe490
  have xm1371 : ext S216 S525 := xm1370.tr xe526
  have xm1372 : ext S216 S536 := xm1371.tr xe537
  have xm1373 : ext S216 S572 := xm1372.tr xe573
  have xm1374 : ext S216 S583 := xm1373.tr xe584
  have xm1375 : ext S216 S619 := xm1374.tr xe620
  have xm1376 : ext S202 S583 := xm592.tr xe584
  have xm1377 : ext S202 S619 := xm1376.tr xe620
  have am1378 : isA S619 qa201 23 := xm1377.A aqa201
  have xm1379 : ext S241 S271 := xe250.tr xe272
  have xm1380 : ext S241 S280 := xm1379.tr xe281
  have xm1381 : ext S241 S306 := xm1380.tr xe307
  have xm1382 : ext S241 S316 := xm1381.tr xe317
  have xm1383 : ext S241 S346 := xm1382.tr xe347
  have xm1384 : ext S241 S359 := xm1383.tr xe360
  have xm1385 : ext S241 S371 := xm1384.tr xe372
  have xm1386 : ext S241 S381 := xm1385.tr xe382
  have xm1387 : ext S241 S431 := xm1386.tr xe432
  have xm1388 : ext S241 S442 := xm1387.tr xe443
  have xm1389 : ext S241 S478 := xm1388.tr xe479
  have xm1390 : ext S241 S489 := xm1389.tr xe490
  have xm1391 : ext S241 S525 := xm1390.tr xe526
  have xm1392 : ext S241 S536 := xm1391.tr xe537
  have xm1393 : ext S241 S572 := xm1392.tr xe573
  have xm1394 : ext S241 S583 := xm1393.tr xe584
  have xm1395 : ext S241 S619 := xm1394.tr xe620
  have xm1396 : ext S223 S583 := xm596.tr xe584
  have xm1397 : ext S223 S619 := xm1396.tr xe620
  have am1398 : isA S619 qa222 23 := xm1397.A aqa222
  have xm1399 : ext S271 S306 := xe281.tr xe307
  have xm1400 : ext S271 S316 := xm1399.tr xe317
  have xm1401 : ext S271 S346 := xm1400.tr xe347
  have xm1402 : ext S271 S359 := xm1401.tr xe360
  have xm1403 : ext S271 S371 := xm1402.tr xe372
  have xm1404 : ext S271 S381 := xm1403.tr xe382
  have xm1405 : ext S271 S431 := xm1404.tr xe432
  have xm1406 : ext S271 S442 := xm1405.tr xe443
  have xm1407 : ext S271 S478 := xm1406.tr xe479
  have xm1408 : ext S271 S489 := xm1407.tr xe490
  have xm1409 : ext S271 S525 := xm1408.tr xe526
  have xm1410 : ext S271 S536 := xm1409.tr xe537
  have xm1411 : ext S271 S572 := xm1410.tr xe573
  have xm1412 : ext S271 S583 := xm1411.tr xe584
  have xm1413 : ext S271 S619 := xm1412.tr xe620
  have xm1414 : ext S249 S583 := xm600.tr xe584
  have xm1415 : ext S249 S619 := xm1414.tr xe620
  have am1416 : isA S619 qa248 23 := xm1415.A aqa248
  have xm1417 : ext S306 S346 := xe317.tr xe347
  have xm1418 : ext S306 S359 := xm1417.tr xe360
  have xm1419 : ext S306 S371 := xm1418.tr xe372
  have xm1420 : ext S306 S381 := xm1419.tr xe382
  have xm1421 : ext S306 S431 := xm1420.tr xe432
  have xm1422 : ext S306 S442 := xm1421.tr xe443
  have xm1423 : ext S306 S478 := xm1422.tr xe479
  have xm1424 : ext S306 S489 := xm1423.tr xe490
  have xm1425 : ext S306 S525 := xm1424.tr xe526
  have xm1426 : ext S306 S536 := xm1425.tr xe537
  have xm1427 : ext S306 S572 := xm1426.tr xe573
  have xm1428 : ext S306 S583 := xm1427.tr xe584
  have xm1429 : ext S306 S619 := xm1428.tr xe620
  have xm1430 : ext S280 S583 := xm604.tr xe584
  have xm1431 : ext S280 S619 := xm1430.tr xe620
  have am1432 : isA S619 qa279 23 := xm1431.A aqa279
  have xm1433 : ext S346 S371 := xe360.tr xe372
  have xm1434 : ext S346 S381 := xm1433.tr xe382
  have xm1435 : ext S346 S431 := xm1434.tr xe432
  have xm1436 : ext S346 S442 := xm1435.tr xe443
  have xm1437 : ext S346 S478 := xm1436.tr xe479
  have xm1438 : ext S346 S489 := xm1437.tr xe490
  have xm1439 : ext S346 S525 := xm1438.tr xe526
  have xm1440 : ext S346 S536 := xm1439.tr xe537
  have xm1441 : ext S346 S572 := xm1440.tr xe573
  have xm1442 : ext S346 S583 := xm1441.tr xe584
  have xm1443 : ext S346 S619 := xm1442.tr xe620
  have xm1444 : ext S316 S583 := xm608.tr xe584
  have xm1445 : ext S316 S619 := xm1444.tr xe620
  have am1446 : isA S619 qa315 23 := xm1445.A aqa315
  have xm1447 : ext S1 S15 := xe7.tr xe17
  have xm1448 : ext S1 S30 := xm1447.tr xe31
  have xm1449 : ext S1 S35 := xm1448.tr xe36
  have xm1450 : ext S1 S45 := xm1449.tr xe47
  have xm1451 : ext S1 S60 := xm1450.tr xe61
  have xm1452 : ext S1 S65 := xm1451.tr xe66
  have xm1453 : ext S1 S77 := xm1452.tr xe78
  have xm1454 : ext S1 S82 := xm1453.tr xe83
  have xm1455 : ext S1 S94 := xm1454.tr xe95
  have xm1456 : ext S1 S99 := xm1455.tr xe100
  have xm1457 : ext S1 S111 := xm1456.tr xe112
  have xm1458 : ext S1 S116 := xm1457.tr xe117
  have xm1459 : ext S1 S128 := xm1458.tr xe129
  have xm1460 : ext S1 S133 := xm1459.tr xe134
  have xm1461 : ext S1 S145 := xm1460.tr xe146
  have xm1462 : ext S1 S150 := xm1461.tr xe151
  have xm1463 : ext S1 S162 := xm1462.tr xe163
  have xm1464 : ext S1 S167 := xm1463.tr xe168
  have xm1465 : ext S1 S179 := xm1464.tr xe180
  have xm1466 : ext S1 S184 := xm1465.tr xe185
  have xm1467 : ext S1 S196 := xm1466.tr xe197
  have xm1468 : ext S1 S202 := xm1467.tr xe203
  have xm1469 : ext S1 S216 := xm1468.tr xe217
  have xm1470 : ext S1 S223 := xm1469.tr xe224
  have xm1471 : ext S1 S241 := xm1470.tr xe242
  have xm1472 : ext S1 S249 := xm1471.tr xe250
  have xm1473 : ext S1 S271 := xm1472.tr xe272
  have xm1474 : ext S1 S280 := xm1473.tr xe281
  have xm1475 : ext S1 S306 := xm1474.tr xe307
  have xm1476 : ext S1 S316 := xm1475.tr xe317
  have xm1477 : ext S1 S346 := xm1476.tr xe347
  have xm1478 : ext S1 S359 := xm1477.tr xe360
  have xm1479 : ext S1 S371 := xm1478.tr xe372
  have xm1480 : ext S1 S381 := xm1479.tr xe382
  have xm1481 : ext S1 S431 := xm1480.tr xe432
  have xm1482 : ext S1 S442 := xm1481.tr xe443
  have xm1483 : ext S1 S478 := xm1482.tr xe479
  have xm1484 : ext S1 S489 := xm1483.tr xe490
  have xm1485 : ext S1 S525 := xm1484.tr xe526
  have xm1486 : ext S1 S536 := xm1485.tr xe537
  have xm1487 : ext S1 S572 := xm1486.tr xe573
  have xm1488 : ext S1 S583 := xm1487.tr xe584
  have xm1489 : ext S1 S619 := xm1488.tr xe620
  have tt : stp ([] : List (Nat × Nat)) [o1] R S S619 := t621.un (okAt.of_12 oo.2.1 ⟨(by rw [f_of (xm672.F (xm38.A h_o1) (by decide) F33)]; exact ⟨(xm672.F (xm38.A h_o1) (by decide) F33), am714, ((xm756.n aqa5).trans nqa5)⟩), (by rw [f_of (xm793.F (xm68.A h_o1) (by decide) F63)]; exact ⟨(xm793.F (xm68.A h_o1) (by decide) F63), am832, ((xm871.n aqa34).trans nqa34)⟩), (by rw [f_of (xm906.F (xm85.A h_o1) (by decide) F80)]; exact ⟨(xm906.F (xm85.A h_o1) (by decide) F80), am943, ((xm942.n aqa64).trans nqa64)⟩), (by rw [f_of (xm976.F (xm102.A h_o1) (by decide) F97)]; exact ⟨(xm976.F (xm102.A h_o1) (by decide) F97), am1011, ((xm1010.n aqa81).trans nqa81)⟩), (by rw [f_of (xm1042.F (xm119.A h_o1) (by decide) F114)]; exact ⟨(xm1042.F (xm119.A h_o1) (by decide) F114), am1075, ((xm1074.n aqa98).trans nqa98)⟩), (by rw [f_of (xm1104.F (xm136.A h_o1) (by decide) F131)]; exact ⟨(xm1104.F (xm136.A h_o1) (by decide) F131), am1135, ((xm1134.n aqa115).trans nqa115)⟩), (by rw [f_of (xm1162.F (xm153.A h_o1) (by decide) F148)]; exact ⟨(xm1162.F (xm153.A h_o1) (by decide) F148), am1191, ((xm1190.n aqa132).trans nqa132)⟩), (by rw [f_of (xm1216.F (xm170.A h_o1) (by decide) F165)]; exact ⟨(xm1216.F (xm170.A h_o1) (by decide) F165), am1243, ((xm1242.n aqa149).trans nqa149)⟩), (by rw [f_of (xm1266.F (xm187.A h_o1) (by decide) F182)]; exact ⟨(xm1266.F (xm187.A h_o1) (by decide) F182), am1291, ((xm1290.n aqa166).trans nqa166)⟩), (by rw [f_of (xm1298.F (xm469.A h_o1) (by decide) F440)]; exact ⟨(xm1298.F (xm469.A h_o1) (by decide) F440), am1307, ((xm1306.n aqa380).trans nqa380)⟩), (by rw [f_of (xm1312.F (xm516.A h_o1) (by decide) F487)]; exact ⟨(xm1312.F (xm516.A h_o1) (by decide) F487), am1319, ((xm1318.n aqa441).trans nqa441)⟩), (by rw [f_of (xm1322.F (xm563.A h_o1) (by decide) F534)]; exact ⟨(xm1322.F (xm563.A h_o1) (by decide) F534), am1327, ((xm1326.n aqa488).trans nqa488)⟩), (by rw [f_of (xm1328.F (xm610.A h_o1) (by decide) F581)]; exact ⟨(xm1328.F (xm610.A h_o1) (by decide) F581), am1331, ((xm1330.n aqa535).trans nqa535)⟩), (by rw [f_of F628]; exact ⟨F628, am1332, ((xe620.n aqa582).trans nqa582)⟩), (by rw [f_of (xm1353.F (xm207.A h_o1) (by decide) F200)]; exact ⟨(xm1353.F (xm207.A h_o1) (by decide) F200), am1356, ((xm1355.n aqa183).trans nqa183)⟩), (by rw [f_of (xm1375.F (xm232.A h_o1) (by decide) F221)]; exact ⟨(xm1375.F (xm232.A h_o1) (by decide) F221), am1378, ((xm1377.n aqa201).trans nqa201)⟩), (by rw [f_of (xm1395.F (xm262.A h_o1) (by decide) F247)]; exact ⟨(xm1395.F (xm262.A h_o1) (by decide) F247), am1398, ((xm1397.n aqa222).trans nqa222)⟩), (by rw [f_of (xm1413.F (xm297.A h_o1) (by decide) F278)]; exact ⟨(xm1413.F (xm297.A h_o1) (by decide) F278), am1416, ((xm1415.n aqa248).trans nqa248)⟩), (by rw [f_of (xm1429.F (xm337.A h_o1) (by decide) F314)]; exact ⟨(xm1429.F (xm337.A h_o1) (by decide) F314), am1432, ((xm1431.n aqa279).trans nqa279)⟩), (by rw [f_of (xm1443.F (xm356.A h_o1) (by decide) F355)]; exact ⟨(xm1443.F (xm356.A h_o1) (by decide) F355), am1446, ((xm1445.n aqa315).trans nqa315)⟩), (by rw [I16]; exact ⟨by decide, by decide⟩), (by rw [I18]; exact ⟨by decide, by decide⟩), (by rw [I19]; exact ⟨by decide, by decide⟩), (by rw [I20]; exact ⟨by decide, by decide⟩), (by rw [I21]; exact ⟨by decide, by decide⟩), (by rw [I24]; exact ⟨by decide, by decide⟩), (by rw [I25]; exact ⟨by decide, by decide⟩), (by rw [I26]; exact ⟨by decide, by decide⟩), (by rw [f_of (xm1489.F (xe2.A h_o1) (by decide) F4)]; exact (xm1489.F (xe2.A h_o1) (by decide) F4)), (by rw [f_of (xm672.F (xm38.A h_o1) (by decide) F33), f_of (xm1489.F (xe2.A h_o1) (by decide) F4)]; exact (xm713.F (xe17.A aqa5) (by decide) y14)), (by rw [f_of (xm793.F (xm68.A h_o1) (by decide) F63), f_of (xm1489.F (xe2.A h_o1) (by decide) F4)]; exact (xm831.F (xe47.A aqa34) (by decide) y44))⟩)
  refine W.widen (k := 20) (n := 905) (Nat.le_of_ble_eq_true rfl) (Nat.le_of_ble_eq_true rfl) ?_
  exact W.vret hx hb hr (fun t ht hW9 => ⟨⟨S619, rfl, ⟨tt, oo, I15, I16, I17, I18, I19, I20, I21, I22, I23, I24, I25, I26, ((xm1489.F (xe2.A h_o1) (by decide) F4)), (by rw [f_of ((xm1353.F (xm207.A h_o1) (by decide) F200))]; exact z622), (by rw [f_of ((xm1375.F (xm232.A h_o1) (by decide) F221))]; exact z623), (by rw [f_of ((xm1395.F (xm262.A h_o1) (by decide) F247))]; exact z624), (by rw [f_of ((xm1413.F (xm297.A h_o1) (by decide) F278))]; exact z625), (by rw [f_of ((xm1429.F (xm337.A h_o1) (by decide) F314))]; exact z626), (by rw [f_of ((xm1443.F (xm356.A h_o1) (by decide) F355))]; exact z627)⟩, wd_end hP hK hD ht hW9.alike⟩, hS.F ht⟩) hS.2.2 dX12_init_178 hlocks
set_option maxHeartbeats 4000000 in
set_option maxRecDepth 100000 in
theorem c_X12_gear (l : Launch) {e0 mi : Nat} {D : va_G} {cy : Nat → ClassId} {X : va_W} (S : wPS) (sz : Nat) (o1 : Nat) (h_o1 : isA S o1 12) (x1 : Int32) (x2 : Int32) (x3 : Int32) (x4 : Int32) (hW : wtB S []) (he : S.F o1 77 = some e0) : Met l yX12_gear wsX12_gear ({ frames := 7, cells := 4, slots := 271, locals := 171 }) (va_Pc [.ref o1, .int x1, .int x2, .int x3, .int x4] (fun U => U.heap.size = sz ∧ WD D cy X (fun _ => True) S U ∧ NW U ∧ OU e0 mi (va_A (X ++ PL cy S) sz) U U.heap)) (va_Qi (fun r (u : wPS) => stp [(12, 15), (14, 0), (14, 1), (14, 2), (22, 101), (110, 10), (114, 10), (122, 10)] [] [] S u ∧ GN S u o1) (fun u t => WD D cy X (va_A (X ++ PL cy S) sz) u t) (va_A (X ++ PL cy S) sz)) 4 271 (va_A (X ++ PL cy S) sz) := by
  refine Met.ofW (cc := cX12_gear) (maxL := 5) (ret := (some .int)) (by decide) rfl ?_
  intro p e s m args below meth c s₁ B hml hv
  obtain ⟨rfl, hsz, ⟨hP, hK, hD0⟩, hN, hOU⟩ := hv
  have hx := B.exec
  have hb := B.bytes
  have hr := B.returns
  have hts := atoms_spec (ws := wsX12_gear) B.pre
  have hown : s.vm.findClass RX12 = some m.cls := findClass_of_methodNamed B.named
  have hlocks := B.notSynchronized
  subst hsz
  have hD := hD0.self (sz := s.heap.size)
  generalize hAe : va_A (X ++ PL cy S) s.heap.size = A at hD hOU ⊢
  have hA : ∀ q : Nat, s.heap.size ≤ q → A q := fun q h => by rw [← hAe]; exact Or.inr h
  have hS : va_S A s.heap s.heap [] := va_S.rf
  have hl := lv_entry ([.ref o1, .int x1, .int x2, .int x3, .int x4]) (n := 5) (Nat.le_of_ble_eq_true rfl)
  rw [lg_entry_eq]
  generalize (lg_sl ([.ref o1, .int x1, .int x2, .int x3, .int x4]) ++ List.replicate (5 - (lg_sl ([.ref o1, .int x1, .int x2, .int x3, .int x4])).length) Slot.unset).toArray = ls at hl ⊢
  have hl : lv_has ls 5 [(0, .ref o1), (1, .int x1), (2, .int x2), (3, .int x3), (4, .int x4)] := hl
  obtain ⟨⟨ga, gZ, gX, gl, gA⟩, ⟨sa9, sZ, sX, sl9, sA⟩, cZ, eZ, eX, el, eA, hMi, hDc, ⟨pf, pZ⟩⟩ := id hOU
  have t0 : stp [(12, 15), (14, 0), (14, 1), (14, 2), (22, 101), (110, 10), (114, 10), (122, 10)] [] [] S S := stp.rf hW
  have F1 := ((hW.at h_o1 List.not_mem_nil).to_12 h_o1.2.1).F0
  refine lv_iload_n hx hb dX12_gear_0 rfl (lv_at hl 1 rfl) ?_
  refine lv_i2l hx hb dX12_gear_1 rfl ?_
  refine lv_ldc2 (own := RX12) (v := 6) hx hb hown (hts (.constantLong RX12 129 (6)) (by decide +kernel)) dX12_gear_2 ?_
  refine lv_ldc2 (own := RX12) (v := 200) hx hb hown (hts (.constantLong RX12 131 (200)) (by decide +kernel)) dX12_gear_5 ?_
  have hFc := free_all hD hS hA
  refine va_calli (va_runS (As := [.long x1.toInt64, .long (6 : Int64), .long (200 : Int64)]) (rest := []) ⟨hx, hb, hml, hown, hts⟩ (c_X12_in l (cy := cy) (X := X) (D := D) S _ x1.toInt64 (6 : Int64) (200 : Int64)) (cwS 3 hts gX12_gear_X12_in rfl rfl rfl (by decide +kernel) ⟨Nat.le_of_ble_eq_true rfl, Nat.le_of_ble_eq_true rfl⟩) ⟨fun a U g mk q => ⟨q.1, q.2.1, q.2.2.1.calling, NW.same (u := U) (U := U.calling g mk a) rfl q.2.2.2⟩, fun U hU hW => ⟨rfl, by rw [hU], wd_pre hP hK hD hU hW, hN.warm hW⟩⟩ rfl rfl hl.1 rfl (lv_room (Nat.le_of_ble_eq_true rfl)) dX12_gear_8 ⟨(Nat.zero_le _), (Nat.zero_le _)⟩) hS (fun q _ h => hFc q h) hFc (fun r2 u t H1 locs ht hvm hw hB hz1 hk1 hS => ?_)
  have c3 := hw
  obtain ⟨hP, hD⟩ := wd_post hFc ht hB
  generalize H1 = H at hP hS ⊢
  obtain rfl : r2 = f_X12_in x1.toInt64 (6 : Int64) (200 : Int64) := c3
  have i4 := i64_i x1
  have l64_6 : (6 : Int64).toInt = 6 := rfl
  have l64_200 : (200 : Int64).toInt = 200 := rfl
  have i5 := in_rng x1.toInt64 (6 : Int64) (200 : Int64)
  refine lv_if_eq (tgt := 57) hx hb dX12_gear_11 (by decide) (fun c6 => ?_) (fun c6 => ?_)
  · have c6i : (f_X12_in x1.toInt64 (6 : Int64) (200 : Int64)).toInt = 0 := eq_v rfl rfl c6
    refine lv_aload_n hx hb dX12_gear_57 rfl (lv_at hl 0 rfl) ?_
    refine lv_iconst (v := 1) hx hb dX12_gear_58 (by decide) ?_
    have l32_1 : (1 : Int32).toInt = 1 := rfl
    have hFc := free_all hD hS hA
    obtain ⟨k7, gk7, hk7⟩ := wGt (cy := cy) X S h_o1.1 h_o1.2.1
    refine va_calli (va_runV (As := [.int (1 : Int32)]) (rest := []) ⟨hx, hb, hml, hown, hts⟩ (c_X12_fails l (cy := cy) (X := X) (D := D) S _ o1 h_o1 (1 : Int32) (hW)) (cwV 1 hts gX12_gear_X12_fails rfl rfl rfl (by decide +kernel) ⟨Nat.le_of_ble_eq_true rfl, Nat.le_of_ble_eq_true rfl⟩) ⟨fun a U g mk q => ⟨q.1, q.2.1, q.2.2.1.calling, NW.same (u := U) (U := U.calling g mk a) rfl q.2.2.2⟩, va_recv hK hP (ci := 16) (q0 := k7) rfl hk7, fun U hU hW => ⟨rfl, by rw [hU], wd_pre hP hK hD hU hW, hN.warm hW⟩⟩ rfl rfl hl.1 rfl (lv_room (Nat.le_of_ble_eq_true rfl)) dX12_gear_59 ⟨(Nat.zero_le _), (Nat.zero_le _)⟩) hS (fun q _ h => hFc q h) hFc (fun r8 u t H1 locs ht hvm hw hB hz1 hk1 hS => ?_)
    obtain ⟨c9, w10⟩ := hw
    obtain ⟨hP, hD⟩ := wd_post hFc ht hB
    generalize H1 = H at hP hS ⊢
    obtain ⟨S11, rfl⟩ : ∃ z, z = u := ⟨_, rfl⟩
    have t12 : stp [(12, 15), (14, 0), (14, 1), (14, 2), (22, 101), (110, 10), (114, 10), (122, 10)] [] [] S S11 := t0.tr w10 (by decide) (fun _ q => absurd q List.not_mem_nil)
    have v13 : (GN S) S11 o1 := GN.keep w10 hW h_o1 (by decide) (by decide) GN.rf
    have xe14 : ext S S11 := w10.x
    have k15 : (S11.I (S.f o1 0) 2).toInt = (S.I (S.f o1 0) 2).toInt := by rw [(w10.fR (S.f o1 0) F1.2.1.1 List.not_mem_nil).1 2 (by rw [F1.2.1.2.1]; decide) |>.1]
    refine W.widen (k := 4) (n := 271) (Nat.le_of_ble_eq_true rfl) (Nat.le_of_ble_eq_true rfl) ?_
    exact W.iret (v := r8) hx hb hr (fun t ht hW9 => ⟨⟨r8, S11, rfl, ⟨t12, (v13)⟩, wd_end hP hK hD ht hW9.alike⟩, hS.F ht⟩) hS.2.2 dX12_gear_62 hlocks
  · have c6i : ¬ (f_X12_in x1.toInt64 (6 : Int64) (200 : Int64)).toInt = 0 := neq_v rfl rfl c6
    refine lv_iload_n hx hb dX12_gear_14 rfl (lv_at hl 2 rfl) ?_
    refine lv_i2l hx hb dX12_gear_15 rfl ?_
    refine lv_ldc2 (own := RX12) (v := 500) hx hb hown (hts (.constantLong RX12 133 (500)) (by decide +kernel)) dX12_gear_16 ?_
    refine lv_ldc2 (own := RX12) (v := 10000) hx hb hown (hts (.constantLong RX12 135 (10000)) (by decide +kernel)) dX12_gear_19 ?_
    have hFc := free_all hD hS hA
    refine va_calli (va_runS (As := [.long x2.toInt64, .long (500 : Int64), .long (10000 : Int64)]) (rest := []) ⟨hx, hb, hml, hown, hts⟩ (c_X12_in l (cy := cy) (X := X) (D := D) S _ x2.toInt64 (500 : Int64) (10000 : Int64)) (cwS 3 hts gX12_gear_X12_in rfl rfl rfl (by decide +kernel) ⟨Nat.le_of_ble_eq_true rfl, Nat.le_of_ble_eq_true rfl⟩) ⟨fun a U g mk q => ⟨q.1, q.2.1, q.2.2.1.calling, NW.same (u := U) (U := U.calling g mk a) rfl q.2.2.2⟩, fun U hU hW => ⟨rfl, by rw [hU], wd_pre hP hK hD hU hW, hN.warm hW⟩⟩ rfl rfl hl.1 rfl (lv_room (Nat.le_of_ble_eq_true rfl)) dX12_gear_22 ⟨(Nat.zero_le _), (Nat.zero_le _)⟩) hS (fun q _ h => hFc q h) hFc (fun r16 u t H1 locs ht hvm hw hB hz1 hk1 hS => ?_)
    have c17 := hw
    obtain ⟨hP, hD⟩ := wd_post hFc ht hB
    generalize H1 = H at hP hS ⊢
    obtain rfl : r16 = f_X12_in x2.toInt64 (500 : Int64) (10000 : Int64) := c17
    have i18 := i64_i x2
    have l64_500 : (500 : Int64).toInt = 500 := rfl
    have l64_10000 : (10000 : Int64).toInt = 10000 := rfl
    have i19 := in_rng x2.toInt64 (500 : Int64) (10000 : Int64)
    refine lv_if_eq (tgt := 57) hx hb dX12_gear_25 (by decide) (fun c20 => ?_) (fun c20 => ?_)
    · have c20i : (f_X12_in x2.toInt64 (500 : Int64) (10000 : Int64)).toInt = 0 := eq_v rfl rfl c20
      refine lv_aload_n hx hb dX12_gear_57 rfl (lv_at hl 0 rfl) ?_
      refine lv_iconst (v := 1) hx hb dX12_gear_58 (by decide) ?_
      have l32_1 : (1 : Int32).toInt = 1 := rfl
      have hFc := free_all hD hS hA
      obtain ⟨k21, gk21, hk21⟩ := wGt (cy := cy) X S h_o1.1 h_o1.2.1
      refine va_calli (va_runV (As := [.int (1 : Int32)]) (rest := []) ⟨hx, hb, hml, hown, hts⟩ (c_X12_fails l (cy := cy) (X := X) (D := D) S _ o1 h_o1 (1 : Int32) (hW)) (cwV 1 hts gX12_gear_X12_fails rfl rfl rfl (by decide +kernel) ⟨Nat.le_of_ble_eq_true rfl, Nat.le_of_ble_eq_true rfl⟩) ⟨fun a U g mk q => ⟨q.1, q.2.1, q.2.2.1.calling, NW.same (u := U) (U := U.calling g mk a) rfl q.2.2.2⟩, va_recv hK hP (ci := 16) (q0 := k21) rfl hk21, fun U hU hW => ⟨rfl, by rw [hU], wd_pre hP hK hD hU hW, hN.warm hW⟩⟩ rfl rfl hl.1 rfl (lv_room (Nat.le_of_ble_eq_true rfl)) dX12_gear_59 ⟨(Nat.zero_le _), (Nat.zero_le _)⟩) hS (fun q _ h => hFc q h) hFc (fun r22 u t H1 locs ht hvm hw hB hz1 hk1 hS => ?_)
      obtain ⟨c23, w24⟩ := hw
      obtain ⟨hP, hD⟩ := wd_post hFc ht hB
      generalize H1 = H at hP hS ⊢
      obtain ⟨S25, rfl⟩ : ∃ z, z = u := ⟨_, rfl⟩
      have t26 : stp [(12, 15), (14, 0), (14, 1), (14, 2), (22, 101), (110, 10), (114, 10), (122, 10)] [] [] S S25 := t0.tr w24 (by decide) (fun _ q => absurd q List.not_mem_nil)
      have v27 : (GN S) S25 o1 := GN.keep w24 hW h_o1 (by decide) (by decide) GN.rf
      have xe28 : ext S S25 := w24.x
      have k29 : (S25.I (S.f o1 0) 2).toInt = (S.I (S.f o1 0) 2).toInt := by rw [(w24.fR (S.f o1 0) F1.2.1.1 List.not_mem_nil).1 2 (by rw [F1.2.1.2.1]; decide) |>.1]
      refine W.widen (k := 4) (n := 271) (Nat.le_of_ble_eq_true rfl) (Nat.le_of_ble_eq_true rfl) ?_
      exact W.iret (v := r22) hx hb hr (fun t ht hW9 => ⟨⟨r22, S25, rfl, ⟨t26, (v27)⟩, wd_end hP hK hD ht hW9.alike⟩, hS.F ht⟩) hS.2.2 dX12_gear_62 hlocks
    · have c20i : ¬ (f_X12_in x2.toInt64 (500 : Int64) (10000 : Int64)).toInt = 0 := neq_v rfl rfl c20
      refine lv_iload_n hx hb dX12_gear_28 rfl (lv_at hl 3 rfl) ?_
      refine lv_i2l hx hb dX12_gear_29 rfl ?_
      refine lv_ldc2 (own := RX12) (v := -500) hx hb hown (hts (.constantLong RX12 137 (-500)) (by decide +kernel)) dX12_gear_30 ?_
      refine lv_ldc2 (own := RX12) (v := 500) hx hb hown (hts (.constantLong RX12 133 (500)) (by decide +kernel)) dX12_gear_33 ?_
      have hFc := free_all hD hS hA
      refine va_calli (va_runS (As := [.long x3.toInt64, .long (-500 : Int64), .long (500 : Int64)]) (rest := []) ⟨hx, hb, hml, hown, hts⟩ (c_X12_in l (cy := cy) (X := X) (D := D) S _ x3.toInt64 (-500 : Int64) (500 : Int64)) (cwS 3 hts gX12_gear_X12_in rfl rfl rfl (by decide +kernel) ⟨Nat.le_of_ble_eq_true rfl, Nat.le_of_ble_eq_true rfl⟩) ⟨fun a U g mk q => ⟨q.1, q.2.1, q.2.2.1.calling, NW.same (u := U) (U := U.calling g mk a) rfl q.2.2.2⟩, fun U hU hW => ⟨rfl, by rw [hU], wd_pre hP hK hD hU hW, hN.warm hW⟩⟩ rfl rfl hl.1 rfl (lv_room (Nat.le_of_ble_eq_true rfl)) dX12_gear_36 ⟨(Nat.zero_le _), (Nat.zero_le _)⟩) hS (fun q _ h => hFc q h) hFc (fun r30 u t H1 locs ht hvm hw hB hz1 hk1 hS => ?_)
      have c31 := hw
      obtain ⟨hP, hD⟩ := wd_post hFc ht hB
      generalize H1 = H at hP hS ⊢
      obtain rfl : r30 = f_X12_in x3.toInt64 (-500 : Int64) (500 : Int64) := c31
      have i32 := i64_i x3
      have i33 : (-500 : Int64).toInt = -500 := rfl
      have i34 := in_rng x3.toInt64 (-500 : Int64) (500 : Int64)
      refine lv_if_eq (tgt := 57) hx hb dX12_gear_39 (by decide) (fun c35 => ?_) (fun c35 => ?_)
      · have c35i : (f_X12_in x3.toInt64 (-500 : Int64) (500 : Int64)).toInt = 0 := eq_v rfl rfl c35
        refine lv_aload_n hx hb dX12_gear_57 rfl (lv_at hl 0 rfl) ?_
        refine lv_iconst (v := 1) hx hb dX12_gear_58 (by decide) ?_
        have l32_1 : (1 : Int32).toInt = 1 := rfl
        have hFc := free_all hD hS hA
        obtain ⟨k36, gk36, hk36⟩ := wGt (cy := cy) X S h_o1.1 h_o1.2.1
        refine va_calli (va_runV (As := [.int (1 : Int32)]) (rest := []) ⟨hx, hb, hml, hown, hts⟩ (c_X12_fails l (cy := cy) (X := X) (D := D) S _ o1 h_o1 (1 : Int32) (hW)) (cwV 1 hts gX12_gear_X12_fails rfl rfl rfl (by decide +kernel) ⟨Nat.le_of_ble_eq_true rfl, Nat.le_of_ble_eq_true rfl⟩) ⟨fun a U g mk q => ⟨q.1, q.2.1, q.2.2.1.calling, NW.same (u := U) (U := U.calling g mk a) rfl q.2.2.2⟩, va_recv hK hP (ci := 16) (q0 := k36) rfl hk36, fun U hU hW => ⟨rfl, by rw [hU], wd_pre hP hK hD hU hW, hN.warm hW⟩⟩ rfl rfl hl.1 rfl (lv_room (Nat.le_of_ble_eq_true rfl)) dX12_gear_59 ⟨(Nat.zero_le _), (Nat.zero_le _)⟩) hS (fun q _ h => hFc q h) hFc (fun r37 u t H1 locs ht hvm hw hB hz1 hk1 hS => ?_)
        obtain ⟨c38, w39⟩ := hw
        obtain ⟨hP, hD⟩ := wd_post hFc ht hB
        generalize H1 = H at hP hS ⊢
        obtain ⟨S40, rfl⟩ : ∃ z, z = u := ⟨_, rfl⟩
        have t41 : stp [(12, 15), (14, 0), (14, 1), (14, 2), (22, 101), (110, 10), (114, 10), (122, 10)] [] [] S S40 := t0.tr w39 (by decide) (fun _ q => absurd q List.not_mem_nil)
        have v42 : (GN S) S40 o1 := GN.keep w39 hW h_o1 (by decide) (by decide) GN.rf
        have xe43 : ext S S40 := w39.x
        have k44 : (S40.I (S.f o1 0) 2).toInt = (S.I (S.f o1 0) 2).toInt := by rw [(w39.fR (S.f o1 0) F1.2.1.1 List.not_mem_nil).1 2 (by rw [F1.2.1.2.1]; decide) |>.1]
        refine W.widen (k := 4) (n := 271) (Nat.le_of_ble_eq_true rfl) (Nat.le_of_ble_eq_true rfl) ?_
        exact W.iret (v := r37) hx hb hr (fun t ht hW9 => ⟨⟨r37, S40, rfl, ⟨t41, (v42)⟩, wd_end hP hK hD ht hW9.alike⟩, hS.F ht⟩) hS.2.2 dX12_gear_62 hlocks
      · have c35i : ¬ (f_X12_in x3.toInt64 (-500 : Int64) (500 : Int64)).toInt = 0 := neq_v rfl rfl c35
        refine lv_iload hx hb dX12_gear_42 (lv_at hl 4 rfl) ?_
        refine lv_i2l hx hb dX12_gear_44 rfl ?_
        refine lv_ldc2 (own := RX12) (v := 1000) hx hb hown (hts (.constantLong RX12 139 (1000)) (by decide +kernel)) dX12_gear_45 ?_
        refine lv_ldc2 (own := RX12) (v := 99999) hx hb hown (hts (.constantLong RX12 141 (99999)) (by decide +kernel)) dX12_gear_48 ?_
        have hFc := free_all hD hS hA
        refine va_calli (va_runS (As := [.long x4.toInt64, .long (1000 : Int64), .long (99999 : Int64)]) (rest := []) ⟨hx, hb, hml, hown, hts⟩ (c_X12_in l (cy := cy) (X := X) (D := D) S _ x4.toInt64 (1000 : Int64) (99999 : Int64)) (cwS 3 hts gX12_gear_X12_in rfl rfl rfl (by decide +kernel) ⟨Nat.le_of_ble_eq_true rfl, Nat.le_of_ble_eq_true rfl⟩) ⟨fun a U g mk q => ⟨q.1, q.2.1, q.2.2.1.calling, NW.same (u := U) (U := U.calling g mk a) rfl q.2.2.2⟩, fun U hU hW => ⟨rfl, by rw [hU], wd_pre hP hK hD hU hW, hN.warm hW⟩⟩ rfl rfl hl.1 rfl (lv_room (Nat.le_of_ble_eq_true rfl)) dX12_gear_51 ⟨(Nat.zero_le _), (Nat.zero_le _)⟩) hS (fun q _ h => hFc q h) hFc (fun r45 u t H1 locs ht hvm hw hB hz1 hk1 hS => ?_)
        have c46 := hw
        obtain ⟨hP, hD⟩ := wd_post hFc ht hB
        generalize H1 = H at hP hS ⊢
        obtain rfl : r45 = f_X12_in x4.toInt64 (1000 : Int64) (99999 : Int64) := c46
        have i47 := i64_i x4
        have l64_1000 : (1000 : Int64).toInt = 1000 := rfl
        have l64_99999 : (99999 : Int64).toInt = 99999 := rfl
        have i48 := in_rng x4.toInt64 (1000 : Int64) (99999 : Int64)
        refine lv_if_ne (tgt := 63) hx hb dX12_gear_54 (by decide) (fun c49 => ?_) (fun c49 => ?_)
        · have c49i : ¬ (f_X12_in x4.toInt64 (1000 : Int64) (99999 : Int64)).toInt = 0 := neq_v rfl rfl c49
          refine lv_aload_n hx hb dX12_gear_63 rfl (lv_at hl 0 rfl) ?_
          obtain ⟨k50, gk50, hk50⟩ := wGt (cy := cy) X S h_o1.1 h_o1.2.1
          simp only [kE, F1.1] at hk50
          refine va_get (D := D) (ci := 16) (v := .ref (S.f o1 0)) (C := RX12) (T := TX12) (N := 34) hx hb hts (by decide +kernel) hown hK hP k50 hk50 rfl 0 (by decide) (hts (.fieldLink RX12 24 "HobhouseModel" "gears" "Ljava/util/ArrayList;") (by decide +kernel)) (fun _ h9 => h9) rfl dX12_gear_64 ?_
          have hFc := free_all hD hS hA
          obtain ⟨k51, gk51, hk51⟩ := wGt (cy := cy) X S F1.2.1.1 F1.2.1.2.1
          refine va_calli (va_runV (As := []) (rest := []) ⟨hx, hb, hml, hown, hts⟩ (c_Jx4a65c_size_8abf5 l (cy := cy) (X := X) (D := D) S _ (S.f o1 0) F1.2.1) (cwV 0 hts gX12_gear_Jx4a65c_size_8abf5 rfl rfl rfl (by decide +kernel) ⟨Nat.le_of_ble_eq_true rfl, Nat.le_of_ble_eq_true rfl⟩) ⟨fun a U g mk q => ⟨q.1, q.2.1, q.2.2.1.calling, NW.same (u := U) (U := U.calling g mk a) rfl q.2.2.2⟩, va_recv hK hP (ci := 3) (q0 := k51) rfl hk51, fun U hU hW => ⟨rfl, by rw [hU], wd_pre hP hK hD hU hW, hN.warm hW⟩⟩ rfl rfl hl.1 rfl (lv_room (Nat.le_of_ble_eq_true rfl)) dX12_gear_67 ⟨(Nat.zero_le _), (Nat.zero_le _)⟩) hS (fun q _ h => hFc q h) hFc (fun r52 u t H1 locs ht hvm hw hB hz1 hk1 hS => ?_)
          have c53 := hw
          obtain ⟨hP, hD⟩ := wd_post hFc ht hB
          generalize H1 = H at hP hS ⊢
          obtain rfl : r52 = f_Jx4a65c_size_8abf5 S (S.f o1 0) := c53
          have i54 := al_sz ((hW.at F1.2.1 List.not_mem_nil).to_14 F1.2.1.2.1)
          have i55 : (f_Jx4a65c_size_8abf5 S (S.f o1 0)).toInt = (S.I (S.f o1 0) 2).toInt := rfl
          refine lv_bipush (v := 20) hx hb dX12_gear_70 (by decide +kernel) ?_
          refine lv_icmp_ne (tgt := 81) hx hb dX12_gear_72 (by decide) (fun c56 => ?_) (fun c56 => ?_)
          · have c56i : ¬ (f_Jx4a65c_size_8abf5 S (S.f o1 0)).toInt = 20 := neq_v rfl rfl c56
            refine lv_aload_n hx hb dX12_gear_81 rfl (lv_at hl 0 rfl) ?_
            obtain ⟨k57, gk57, hk57⟩ := wGt (cy := cy) X S h_o1.1 h_o1.2.1
            simp only [kE, F1.1] at hk57
            refine va_get (D := D) (ci := 16) (v := .ref (S.f o1 0)) (C := RX12) (T := TX12) (N := 34) hx hb hts (by decide +kernel) hown hK hP k57 hk57 rfl 0 (by decide) (hts (.fieldLink RX12 24 "HobhouseModel" "gears" "Ljava/util/ArrayList;") (by decide +kernel)) (fun _ h9 => h9) rfl dX12_gear_82 ?_
            refine va_new (ci := 14) (fs := [.int 0, .int 0, .int 0, .int 0, .int 0, .null, .null, .int 0, .int 0, .int 0, .int 0, .int 0, .int 0, .int 0, .int 0, .int 0, .int 0, .int 0, .int 0, .int 0, .int 0, .int 0, .long 0]) (C := RX10) (T := TX10) (N := 23) hx hb hts (by decide +kernel) tyX10 tyX10_ok hown (hts (.classLink RX12 109 RX10) (by decide +kernel)) (hts (.instantiable RX10 23) (by decide +kernel)) (hts (.initialized RX10) (by decide +kernel)) hK hP hD hS hA rfl (fun j hj => by rcases (show j = 0 ∨ j = 1 ∨ j = 2 ∨ j = 3 ∨ j = 4 ∨ j = 5 ∨ j = 6 ∨ j = 7 ∨ j = 8 ∨ j = 9 ∨ j = 10 ∨ j = 11 ∨ j = 12 ∨ j = 13 ∨ j = 14 ∨ j = 15 ∨ j = 16 ∨ j = 17 ∨ j = 18 ∨ j = 19 ∨ j = 20 ∨ j = 21 ∨ j = 22 by omega) with rfl | rfl | rfl | rfl | rfl | rfl | rfl | rfl | rfl | rfl | rfl | rfl | rfl | rfl | rfl | rfl | rfl | rfl | rfl | rfl | rfl | rfl | rfl <;> rfl) (Nat.le_of_ble_eq_true rfl) (Nat.le_of_ble_eq_true rfl) dX12_gear_85 (fun qa58 H hP2 hD2 hS => ?_)
            have hqa58 : qa58 ∉ S.L := nw_q hD2
            have e9 := wNw (cy := cy) (X := X) (S := S) (a := qa58) (k := 10) (z := 0) (f := fun _ => 0) (g := fun _ => none) hqa58 rfl
            obtain ⟨S59, hS59⟩ : ∃ z, S.nw qa58 10 0 (fun _ => 0) (fun _ => none) = z := ⟨_, rfl⟩
            have v60 : (GR S qa58) S59 o1 := by rw [← hS59]; exact GN.nw GN.rf hqa58
            have hP : va_P D vwCl (X ++ PL cy S59) H := by rw [← hS59, ← e9]; exact hP2
            have hD : va_D A (X ++ PL cy S59) := by rw [← hS59, ← e9]; exact hD2
            have xe61 : ext S S59 := by rw [← hS59]; exact ext.nw hqa58
            have t62 : stp [(12, 15), (14, 0), (14, 1), (14, 2), (22, 101), (110, 10), (114, 10), (122, 10)] [] (qa58 :: []) S S59 := by rw [← hS59]; exact t0.nw hqa58 (Or.inr (by decide))
            have k63 : (S59.I (S.f o1 0) 2).toInt = (S.I (S.f o1 0) 2).toInt := by rw [← hS59]; exact congrArg Int32.toInt (nw_Io hqa58 F1.2.1.1)
            refine W.widen (k := 1) (n := 23) (Nat.le_of_ble_eq_true rfl) (Nat.le_of_ble_eq_true rfl) ?_
            have aqa58 : isA S59 qa58 10 := by rw [← hS59]; exact nw_A (by decide)
            have fqa58 : ∀ j, S59.F qa58 j = none := by rw [← hS59]; exact nw_F
            have iqa58 : ∀ j, S59.I qa58 j = 0 := by rw [← hS59]; exact nw_I
            have bqa58 : qa58 ∉ S.L := fun e => hqa58 e
            refine lv_dup hx hb dX12_gear_88 rfl ?_
            refine lv_aload_n hx hb dX12_gear_89 rfl (lv_at hl 0 rfl) ?_
            obtain ⟨k64, gk64, hk64⟩ := wGt (cy := cy) X S59 (xe61.A h_o1).1 (xe61.A h_o1).2.1
            simp only [kE, (xe61.F h_o1 (by decide) F1.1)] at hk64
            refine va_get (D := D) (ci := 16) (v := .ref (S.f o1 0)) (C := RX12) (T := TX12) (N := 34) hx hb hts (by decide +kernel) hown hK hP k64 hk64 rfl 0 (by decide) (hts (.fieldLink RX12 24 "HobhouseModel" "gears" "Ljava/util/ArrayList;") (by decide +kernel)) (fun _ h9 => h9) rfl dX12_gear_90 ?_
            have hFc := free_all hD hS hA
            obtain ⟨k65, gk65, hk65⟩ := wGt (cy := cy) X S59 (xe61.A F1.2.1).1 (xe61.A F1.2.1).2.1
            refine va_calli (va_runV (As := []) (rest := [.ref qa58, .ref qa58, .ref (S.f o1 0)]) ⟨hx, hb, hml, hown, hts⟩ (c_Jx4a65c_size_8abf5 l (cy := cy) (X := X) (D := D) S59 _ (S.f o1 0) (xe61.A F1.2.1)) (cwV 0 hts gX12_gear_Jx4a65c_size_8abf5 rfl rfl rfl (by decide +kernel) ⟨Nat.le_of_ble_eq_true rfl, Nat.le_of_ble_eq_true rfl⟩) ⟨fun a U g mk q => ⟨q.1, q.2.1, q.2.2.1.calling, NW.same (u := U) (U := U.calling g mk a) rfl q.2.2.2⟩, va_recv hK hP (ci := 3) (q0 := k65) rfl hk65, fun U hU hW => ⟨rfl, by rw [hU], wd_pre hP hK hD hU hW, hN.warm hW⟩⟩ rfl rfl hl.1 rfl (lv_room (Nat.le_of_ble_eq_true rfl)) dX12_gear_93 ⟨Nat.le_of_ble_eq_true rfl, Nat.le_of_ble_eq_true rfl⟩) hS (fun q _ h => hFc q h) hFc (fun r66 u t H1 locs ht hvm hw hB hz1 hk1 hS => ?_)
            have c67 := hw
            obtain ⟨hP, hD⟩ := wd_post hFc ht hB
            generalize H1 = H at hP hS ⊢
            obtain rfl : r66 = f_Jx4a65c_size_8abf5 S59 (S.f o1 0) := c67
            refine lv_iload_n hx hb dX12_gear_96 rfl (lv_at hl 1 rfl) ?_
            refine lv_iload_n hx hb dX12_gear_97 rfl (lv_at hl 2 rfl) ?_
            refine lv_iload_n hx hb dX12_gear_98 rfl (lv_at hl 3 rfl) ?_
            refine lv_iload hx hb dX12_gear_99 (lv_at hl 4 rfl) ?_
            have hFc := free_all hD hS hA
            refine va_callv (va_runI (As := [.int (f_Jx4a65c_size_8abf5 S59 (S.f o1 0)), .int x1, .int x2, .int x3, .int x4]) (rest := [.ref qa58, .ref (S.f o1 0)]) ⟨hx, hb, hml, hown, hts⟩ (c_X10_init l (cy := cy) (X := X) (D := D) S59 _ qa58 aqa58 (f_Jx4a65c_size_8abf5 S59 (S.f o1 0)) x1 x2 x3 x4 [] (t62.w) fqa58 iqa58 (by omega)) (cwI 5 hts gX12_gear_X10_init rfl rfl rfl (hts (.initialized RX10) (by decide +kernel)) (hts (.methodLink RX12 146 yX10_init) (by decide +kernel)) (hts (.instanceMethod yX10_init) (by decide +kernel)) rfl (by decide +kernel) ⟨Nat.le_of_ble_eq_true rfl, Nat.le_of_ble_eq_true rfl⟩) ⟨fun a U g mk q => ⟨q.1, q.2.1, q.2.2.1.calling, NW.same (u := U) (U := U.calling g mk a) rfl q.2.2.2⟩, fun U hU hW => ⟨rfl, by rw [hU], wd_pre hP hK hD hU hW, hN.warm hW⟩⟩ rfl rfl hl.1 rfl (lv_room (Nat.le_of_ble_eq_true rfl)) dX12_gear_101 ⟨Nat.le_of_ble_eq_true rfl, Nat.le_of_ble_eq_true rfl⟩) hS (fun q _ h => hFc q h) hFc (fun u t H1 locs ht hvm hw hB hz1 hk1 hS => ?_)
            obtain ⟨w69, y70, y71, y72, y73, y74, y75, y76, y77, y78, y79, y80, y81, y82, y83, y84, y85, y86, y87, y88, y89, y90⟩ := hw
            obtain ⟨hP, hD⟩ := wd_post hFc ht hB
            generalize H1 = H at hP hS ⊢
            obtain ⟨S91, rfl⟩ : ∃ z, z = u := ⟨_, rfl⟩
            have t92 : stp [(12, 15), (14, 0), (14, 1), (14, 2), (22, 101), (110, 10), (114, 10), (122, 10)] [] [] S S91 := t62.tr w69 (by decide) (fun z q => by rw [List.mem_singleton.mp q]; exact (Or.inr bqa58))
            have v93 : GN S S91 o1 := GR.un w69 (fun _ h => List.mem_singleton.mp h) (by decide) (by decide) y85 v60
            have xe94 : ext S59 S91 := w69.x
            have k95 : (S91.I (S.f o1 0) 2).toInt = (S59.I (S.f o1 0) 2).toInt := by rw [(w69.fR (S.f o1 0) (xe61.A F1.2.1).1 (by rw [List.mem_singleton]; exact fun e => hqa58 (e ▸ F1.2.1.1))).1 2 (by rw [(xe61.A F1.2.1).2.1]; decide) |>.1]
            have hFc := free_all hD hS hA
            obtain ⟨k96, gk96, hk96⟩ := wGt (cy := cy) X S91 (xe94.A (xe61.A F1.2.1)).1 (xe94.A (xe61.A F1.2.1)).2.1
            refine va_calli (va_runV (As := [.ref qa58]) (rest := []) ⟨hx, hb, hml, hown, hts⟩ (c_Jx4a65c_add_9ea2d_g l (e0 := e0) (mi := mi) (cy := cy) (X := X) (D := D) S91 _ (S.f o1 0) (xe94.A (xe61.A F1.2.1)) qa58 (xe94.A aqa58) (t92.w) (by have h9 := ((t92.w.at (xe94.A (xe61.A h_o1)) List.not_mem_nil).to_12 (xe94.A (xe61.A h_o1)).2.1).X1; rw [f_of ((xe61.tr xe94).F h_o1 (by decide) F1.1), f_of (t92.x.F h_o1 (by decide) he)] at h9; exact h9) (by omega) (((xe61.tr xe94).n F1.2.1).trans F1.2.2)) (cwV 1 hts gX12_gear_Jx4a65c_add_9ea2d rfl rfl rfl (by decide +kernel) ⟨Nat.le_of_ble_eq_true rfl, Nat.le_of_ble_eq_true rfl⟩) ⟨fun a U g mk q => ⟨q.1, q.2.1, q.2.2.1.calling, NW.same (u := U) (U := U.calling g mk a) rfl q.2.2.2.1, q.2.2.2.2.calling⟩, va_recv hK hP (ci := 3) (q0 := k96) rfl hk96, fun U hU hW => ⟨rfl, by rw [hU], wd_pre hP hK hD hU hW, hN.warm hW, ou_pre hOU hS hFc hU hW⟩⟩ rfl rfl hl.1 rfl (lv_room (Nat.le_of_ble_eq_true rfl)) dX12_gear_104 ⟨Nat.le_of_ble_eq_true rfl, Nat.le_of_ble_eq_true rfl⟩) hS (fun q _ h => hFc q h) hFc (fun r97 u t H1 locs ht hvm hw hB hz1 hk1 hS => ?_)
            obtain ⟨w98, y99⟩ := hw
            obtain ⟨hP, hD⟩ := wd_post hFc ht hB
            generalize H1 = H at hP hS ⊢
            obtain ⟨S100, rfl⟩ : ∃ z, z = u := ⟨_, rfl⟩
            have t101 : stp [(12, 15), (14, 0), (14, 1), (14, 2), (22, 101), (110, 10), (114, 10), (122, 10)] [] [] S S100 := t92.tr w98 (by decide) (fun _ q => absurd q List.not_mem_nil)
            have v102 : (GN S) S100 o1 := GN.keep w98 t92.w (xe94.A (xe61.A h_o1)) (by decide) (by decide) v93
            have xe103 : ext S91 S100 := w98.x
            refine lv_pop hx hb dX12_gear_107 rfl ?_
            refine lv_aload_n hx hb dX12_gear_108 rfl (lv_at hl 0 rfl) ?_
            refine lv_aload_n hx hb dX12_gear_109 rfl (lv_at hl 0 rfl) ?_
            obtain ⟨k104, gk104, hk104⟩ := wGt (cy := cy) X S100 (xe103.A (xe94.A (xe61.A h_o1))).1 (xe103.A (xe94.A (xe61.A h_o1))).2.1
            simp only [kE, ((xe61.tr (xe94.tr xe103)).F h_o1 (by decide) F1.1)] at hk104
            refine va_get (D := D) (ci := 16) (v := .ref (S.f o1 0)) (C := RX12) (T := TX12) (N := 34) hx hb hts (by decide +kernel) hown hK hP k104 hk104 rfl 0 (by decide) (hts (.fieldLink RX12 24 "HobhouseModel" "gears" "Ljava/util/ArrayList;") (by decide +kernel)) (fun _ h9 => h9) rfl dX12_gear_110 ?_
            have hFc := free_all hD hS hA
            obtain ⟨k105, gk105, hk105⟩ := wGt (cy := cy) X S100 (xe103.A (xe94.A (xe61.A F1.2.1))).1 (xe103.A (xe94.A (xe61.A F1.2.1))).2.1
            refine va_calli (va_runV (As := []) (rest := [.ref o1]) ⟨hx, hb, hml, hown, hts⟩ (c_Jx4a65c_size_8abf5 l (cy := cy) (X := X) (D := D) S100 _ (S.f o1 0) (xe103.A (xe94.A (xe61.A F1.2.1)))) (cwV 0 hts gX12_gear_Jx4a65c_size_8abf5 rfl rfl rfl (by decide +kernel) ⟨Nat.le_of_ble_eq_true rfl, Nat.le_of_ble_eq_true rfl⟩) ⟨fun a U g mk q => ⟨q.1, q.2.1, q.2.2.1.calling, NW.same (u := U) (U := U.calling g mk a) rfl q.2.2.2⟩, va_recv hK hP (ci := 3) (q0 := k105) rfl hk105, fun U hU hW => ⟨rfl, by rw [hU], wd_pre hP hK hD hU hW, hN.warm hW⟩⟩ rfl rfl hl.1 rfl (lv_room (Nat.le_of_ble_eq_true rfl)) dX12_gear_113 ⟨Nat.le_of_ble_eq_true rfl, Nat.le_of_ble_eq_true rfl⟩) hS (fun q _ h => hFc q h) hFc (fun r106 u t H1 locs ht hvm hw hB hz1 hk1 hS => ?_)
            have c107 := hw
            obtain ⟨hP, hD⟩ := wd_post hFc ht hB
            generalize H1 = H at hP hS ⊢
            obtain rfl : r106 = f_Jx4a65c_size_8abf5 S100 (S.f o1 0) := c107
            have i108 := al_sz ((t101.w.at (xe103.A (xe94.A (xe61.A F1.2.1))) List.not_mem_nil).to_14 (xe103.A (xe94.A (xe61.A F1.2.1))).2.1)
            have i109 : (f_Jx4a65c_size_8abf5 S100 (S.f o1 0)).toInt = (S100.I (S.f o1 0) 2).toInt := rfl
            refine lv_iconst (v := 1) hx hb dX12_gear_116 (by decide) ?_
            refine lv_isub hx hb dX12_gear_117 ?_
            have l32_1 : (1 : Int32).toInt = 1 := rfl
            have hFc := free_all hD hS hA
            obtain ⟨k110, gk110, hk110⟩ := wGt (cy := cy) X S100 (xe103.A (xe94.A (xe61.A h_o1))).1 (xe103.A (xe94.A (xe61.A h_o1))).2.1
            refine va_calli (va_runV (As := [.int ((f_Jx4a65c_size_8abf5 S100 (S.f o1 0)) - (1 : Int32))]) (rest := []) ⟨hx, hb, hml, hown, hts⟩ (c_X12_answer l (cy := cy) (X := X) (D := D) S100 _ o1 (xe103.A (xe94.A (xe61.A h_o1))) ((f_Jx4a65c_size_8abf5 S100 (S.f o1 0)) - (1 : Int32)) (t101.w)) (cwV 1 hts gX12_gear_X12_answer rfl rfl rfl (by decide +kernel) ⟨Nat.le_of_ble_eq_true rfl, Nat.le_of_ble_eq_true rfl⟩) ⟨fun a U g mk q => ⟨q.1, q.2.1, q.2.2.1.calling, NW.same (u := U) (U := U.calling g mk a) rfl q.2.2.2⟩, va_recv hK hP (ci := 16) (q0 := k110) rfl hk110, fun U hU hW => ⟨rfl, by rw [hU], wd_pre hP hK hD hU hW, hN.warm hW⟩⟩ rfl rfl hl.1 rfl (lv_room (Nat.le_of_ble_eq_true rfl)) dX12_gear_118 ⟨Nat.le_of_ble_eq_true rfl, Nat.le_of_ble_eq_true rfl⟩) hS (fun q _ h => hFc q h) hFc (fun r111 u t H1 locs ht hvm hw hB hz1 hk1 hS => ?_)
            obtain ⟨c112, w113⟩ := hw
            obtain ⟨hP, hD⟩ := wd_post hFc ht hB
            generalize H1 = H at hP hS ⊢
            obtain ⟨S114, rfl⟩ : ∃ z, z = u := ⟨_, rfl⟩
            have t115 : stp [(12, 15), (14, 0), (14, 1), (14, 2), (22, 101), (110, 10), (114, 10), (122, 10)] [] [] S S114 := t101.tr w113 (by decide) (fun _ q => absurd q List.not_mem_nil)
            have v116 : (GN S) S114 o1 := GN.keep w113 t101.w (xe103.A (xe94.A (xe61.A h_o1))) (by decide) (by decide) v102
            have xe117 : ext S100 S114 := w113.x
            have k118 : (S114.I (S.f o1 0) 2).toInt = (S100.I (S.f o1 0) 2).toInt := by rw [(w113.fR (S.f o1 0) ((xe61.tr (xe94.tr xe103)).A F1.2.1).1 List.not_mem_nil).1 2 (by rw [((xe61.tr (xe94.tr xe103)).A F1.2.1).2.1]; decide) |>.1]
            refine W.widen (k := 4) (n := 271) (Nat.le_of_ble_eq_true rfl) (Nat.le_of_ble_eq_true rfl) ?_
            exact W.iret (v := r111) hx hb hr (fun t ht hW9 => ⟨⟨r111, S114, rfl, ⟨t115, (v116)⟩, wd_end hP hK hD ht hW9.alike⟩, hS.F ht⟩) hS.2.2 dX12_gear_121 hlocks
          · have c56i : (f_Jx4a65c_size_8abf5 S (S.f o1 0)).toInt = 20 := eq_v rfl rfl c56
            refine lv_aload_n hx hb dX12_gear_75 rfl (lv_at hl 0 rfl) ?_
            refine lv_iconst (v := 2) hx hb dX12_gear_76 (by decide) ?_
            have l32_2 : (2 : Int32).toInt = 2 := rfl
            have hFc := free_all hD hS hA
            obtain ⟨k119, gk119, hk119⟩ := wGt (cy := cy) X S h_o1.1 h_o1.2.1
            refine va_calli (va_runV (As := [.int (2 : Int32)]) (rest := []) ⟨hx, hb, hml, hown, hts⟩ (c_X12_fails l (cy := cy) (X := X) (D := D) S _ o1 h_o1 (2 : Int32) (hW)) (cwV 1 hts gX12_gear_X12_fails rfl rfl rfl (by decide +kernel) ⟨Nat.le_of_ble_eq_true rfl, Nat.le_of_ble_eq_true rfl⟩) ⟨fun a U g mk q => ⟨q.1, q.2.1, q.2.2.1.calling, NW.same (u := U) (U := U.calling g mk a) rfl q.2.2.2⟩, va_recv hK hP (ci := 16) (q0 := k119) rfl hk119, fun U hU hW => ⟨rfl, by rw [hU], wd_pre hP hK hD hU hW, hN.warm hW⟩⟩ rfl rfl hl.1 rfl (lv_room (Nat.le_of_ble_eq_true rfl)) dX12_gear_77 ⟨(Nat.zero_le _), (Nat.zero_le _)⟩) hS (fun q _ h => hFc q h) hFc (fun r120 u t H1 locs ht hvm hw hB hz1 hk1 hS => ?_)
            obtain ⟨c121, w122⟩ := hw
            obtain ⟨hP, hD⟩ := wd_post hFc ht hB
            generalize H1 = H at hP hS ⊢
            obtain ⟨S123, rfl⟩ : ∃ z, z = u := ⟨_, rfl⟩
            have t124 : stp [(12, 15), (14, 0), (14, 1), (14, 2), (22, 101), (110, 10), (114, 10), (122, 10)] [] [] S S123 := t0.tr w122 (by decide) (fun _ q => absurd q List.not_mem_nil)
            have v125 : (GN S) S123 o1 := GN.keep w122 hW h_o1 (by decide) (by decide) GN.rf
            have xe126 : ext S S123 := w122.x
            have k127 : (S123.I (S.f o1 0) 2).toInt = (S.I (S.f o1 0) 2).toInt := by rw [(w122.fR (S.f o1 0) F1.2.1.1 List.not_mem_nil).1 2 (by rw [F1.2.1.2.1]; decide) |>.1]
            refine W.widen (k := 4) (n := 271) (Nat.le_of_ble_eq_true rfl) (Nat.le_of_ble_eq_true rfl) ?_
            exact W.iret (v := r120) hx hb hr (fun t ht hW9 => ⟨⟨r120, S123, rfl, ⟨t124, (v125)⟩, wd_end hP hK hD ht hW9.alike⟩, hS.F ht⟩) hS.2.2 dX12_gear_80 hlocks
        · have c49i : (f_X12_in x4.toInt64 (1000 : Int64) (99999 : Int64)).toInt = 0 := eq_v rfl rfl c49
          refine lv_aload_n hx hb dX12_gear_57 rfl (lv_at hl 0 rfl) ?_
          refine lv_iconst (v := 1) hx hb dX12_gear_58 (by decide) ?_
          have l32_1 : (1 : Int32).toInt = 1 := rfl
          have hFc := free_all hD hS hA
          obtain ⟨k128, gk128, hk128⟩ := wGt (cy := cy) X S h_o1.1 h_o1.2.1
          refine va_calli (va_runV (As := [.int (1 : Int32)]) (rest := []) ⟨hx, hb, hml, hown, hts⟩ (c_X12_fails l (cy := cy) (X := X) (D := D) S _ o1 h_o1 (1 : Int32) (hW)) (cwV 1 hts gX12_gear_X12_fails rfl rfl rfl (by decide +kernel) ⟨Nat.le_of_ble_eq_true rfl, Nat.le_of_ble_eq_true rfl⟩) ⟨fun a U g mk q => ⟨q.1, q.2.1, q.2.2.1.calling, NW.same (u := U) (U := U.calling g mk a) rfl q.2.2.2⟩, va_recv hK hP (ci := 16) (q0 := k128) rfl hk128, fun U hU hW => ⟨rfl, by rw [hU], wd_pre hP hK hD hU hW, hN.warm hW⟩⟩ rfl rfl hl.1 rfl (lv_room (Nat.le_of_ble_eq_true rfl)) dX12_gear_59 ⟨(Nat.zero_le _), (Nat.zero_le _)⟩) hS (fun q _ h => hFc q h) hFc (fun r129 u t H1 locs ht hvm hw hB hz1 hk1 hS => ?_)
          obtain ⟨c130, w131⟩ := hw
          obtain ⟨hP, hD⟩ := wd_post hFc ht hB
          generalize H1 = H at hP hS ⊢
          obtain ⟨S132, rfl⟩ : ∃ z, z = u := ⟨_, rfl⟩
          have t133 : stp [(12, 15), (14, 0), (14, 1), (14, 2), (22, 101), (110, 10), (114, 10), (122, 10)] [] [] S S132 := t0.tr w131 (by decide) (fun _ q => absurd q List.not_mem_nil)
          have v134 : (GN S) S132 o1 := GN.keep w131 hW h_o1 (by decide) (by decide) GN.rf
          have xe135 : ext S S132 := w131.x
          have k136 : (S132.I (S.f o1 0) 2).toInt = (S.I (S.f o1 0) 2).toInt := by rw [(w131.fR (S.f o1 0) F1.2.1.1 List.not_mem_nil).1 2 (by rw [F1.2.1.2.1]; decide) |>.1]
          refine W.widen (k := 4) (n := 271) (Nat.le_of_ble_eq_true rfl) (Nat.le_of_ble_eq_true rfl) ?_
          exact W.iret (v := r129) hx hb hr (fun t ht hW9 => ⟨⟨r129, S132, rfl, ⟨t133, (v134)⟩, wd_end hP hK hD ht hW9.alike⟩, hS.F ht⟩) hS.2.2 dX12_gear_62 hlocks
set_option maxHeartbeats 4000000 in
set_option maxRecDepth 100000 in
theorem c_X12_hob (l : Launch) {e0 mi : Nat} {D : va_G} {cy : Nat → ClassId} {X : va_W} (S : wPS) (sz : Nat) (o1 : Nat) (h_o1 : isA S o1 12) (x1 : Int32) (x2 : Int32) (x3 : Int32) (x4 : Int32) (hW : wtB S []) (he : S.F o1 77 = some e0) : Met l yX12_hob wsX12_hob ({ frames := 7, cells := 3, slots := 67, locals := 171 }) (va_Pc [.ref o1, .int x1, .int x2, .int x3, .int x4] (fun U => U.heap.size = sz ∧ WD D cy X (fun _ => True) S U ∧ NW U ∧ OU e0 mi (va_A (X ++ PL cy S) sz) U U.heap)) (va_Qi (fun r (u : wPS) => stp [(12, 15), (14, 0), (14, 1), (14, 2), (22, 101), (114, 11), (122, 11)] [] [] S u) (fun u t => WD D cy X (va_A (X ++ PL cy S) sz) u t) (va_A (X ++ PL cy S) sz)) 3 67 (va_A (X ++ PL cy S) sz) := by
  refine Met.ofW (cc := cX12_hob) (maxL := 5) (ret := (some .int)) (by decide) rfl ?_
  intro p e s m args below meth c s₁ B hml hv
  obtain ⟨rfl, hsz, ⟨hP, hK, hD0⟩, hN, hOU⟩ := hv
  have hx := B.exec
  have hb := B.bytes
  have hr := B.returns
  have hts := atoms_spec (ws := wsX12_hob) B.pre
  have hown : s.vm.findClass RX12 = some m.cls := findClass_of_methodNamed B.named
  have hlocks := B.notSynchronized
  subst hsz
  have hD := hD0.self (sz := s.heap.size)
  generalize hAe : va_A (X ++ PL cy S) s.heap.size = A at hD hOU ⊢
  have hA : ∀ q : Nat, s.heap.size ≤ q → A q := fun q h => by rw [← hAe]; exact Or.inr h
  have hS : va_S A s.heap s.heap [] := va_S.rf
  have hl := lv_entry ([.ref o1, .int x1, .int x2, .int x3, .int x4]) (n := 5) (Nat.le_of_ble_eq_true rfl)
  rw [lg_entry_eq]
  generalize (lg_sl ([.ref o1, .int x1, .int x2, .int x3, .int x4]) ++ List.replicate (5 - (lg_sl ([.ref o1, .int x1, .int x2, .int x3, .int x4])).length) Slot.unset).toArray = ls at hl ⊢
  have hl : lv_has ls 5 [(0, .ref o1), (1, .int x1), (2, .int x2), (3, .int x3), (4, .int x4)] := hl
  obtain ⟨⟨ga, gZ, gX, gl, gA⟩, ⟨sa9, sZ, sX, sl9, sA⟩, cZ, eZ, eX, el, eA, hMi, hDc, ⟨pf, pZ⟩⟩ := id hOU
  have t0 : stp [(12, 15), (14, 0), (14, 1), (14, 2), (22, 101), (114, 11), (122, 11)] [] [] S S := stp.rf hW
  have F1 := ((hW.at h_o1 List.not_mem_nil).to_12 h_o1.2.1).F1
  refine lv_iload_n hx hb dX12_hob_0 rfl (lv_at hl 1 rfl) ?_
  refine lv_i2l hx hb dX12_hob_1 rfl ?_
  refine lv_ldc2 (own := RX12) (v := 500) hx hb hown (hts (.constantLong RX12 133 (500)) (by decide +kernel)) dX12_hob_2 ?_
  refine lv_ldc2 (own := RX12) (v := 10000) hx hb hown (hts (.constantLong RX12 135 (10000)) (by decide +kernel)) dX12_hob_5 ?_
  have hFc := free_all hD hS hA
  refine va_calli (va_runS (As := [.long x1.toInt64, .long (500 : Int64), .long (10000 : Int64)]) (rest := []) ⟨hx, hb, hml, hown, hts⟩ (c_X12_in l (cy := cy) (X := X) (D := D) S _ x1.toInt64 (500 : Int64) (10000 : Int64)) (cwS 3 hts gX12_hob_X12_in rfl rfl rfl (by decide +kernel) ⟨Nat.le_of_ble_eq_true rfl, Nat.le_of_ble_eq_true rfl⟩) ⟨fun a U g mk q => ⟨q.1, q.2.1, q.2.2.1.calling, NW.same (u := U) (U := U.calling g mk a) rfl q.2.2.2⟩, fun U hU hW => ⟨rfl, by rw [hU], wd_pre hP hK hD hU hW, hN.warm hW⟩⟩ rfl rfl hl.1 rfl (lv_room (Nat.le_of_ble_eq_true rfl)) dX12_hob_8 ⟨(Nat.zero_le _), (Nat.zero_le _)⟩) hS (fun q _ h => hFc q h) hFc (fun r2 u t H1 locs ht hvm hw hB hz1 hk1 hS => ?_)
  have c3 := hw
  obtain ⟨hP, hD⟩ := wd_post hFc ht hB
  generalize H1 = H at hP hS ⊢
  obtain rfl : r2 = f_X12_in x1.toInt64 (500 : Int64) (10000 : Int64) := c3
  have i4 := i64_i x1
  have l64_500 : (500 : Int64).toInt = 500 := rfl
  have l64_10000 : (10000 : Int64).toInt = 10000 := rfl
  have i5 := in_rng x1.toInt64 (500 : Int64) (10000 : Int64)
  refine lv_if_eq (tgt := 53) hx hb dX12_hob_11 (by decide) (fun c6 => ?_) (fun c6 => ?_)
  · have c6i : (f_X12_in x1.toInt64 (500 : Int64) (10000 : Int64)).toInt = 0 := eq_v rfl rfl c6
    refine lv_aload_n hx hb dX12_hob_53 rfl (lv_at hl 0 rfl) ?_
    refine lv_iconst (v := 1) hx hb dX12_hob_54 (by decide) ?_
    have l32_1 : (1 : Int32).toInt = 1 := rfl
    have hFc := free_all hD hS hA
    obtain ⟨k7, gk7, hk7⟩ := wGt (cy := cy) X S h_o1.1 h_o1.2.1
    refine va_calli (va_runV (As := [.int (1 : Int32)]) (rest := []) ⟨hx, hb, hml, hown, hts⟩ (c_X12_fails l (cy := cy) (X := X) (D := D) S _ o1 h_o1 (1 : Int32) (hW)) (cwV 1 hts gX12_hob_X12_fails rfl rfl rfl (by decide +kernel) ⟨Nat.le_of_ble_eq_true rfl, Nat.le_of_ble_eq_true rfl⟩) ⟨fun a U g mk q => ⟨q.1, q.2.1, q.2.2.1.calling, NW.same (u := U) (U := U.calling g mk a) rfl q.2.2.2⟩, va_recv hK hP (ci := 16) (q0 := k7) rfl hk7, fun U hU hW => ⟨rfl, by rw [hU], wd_pre hP hK hD hU hW, hN.warm hW⟩⟩ rfl rfl hl.1 rfl (lv_room (Nat.le_of_ble_eq_true rfl)) dX12_hob_55 ⟨(Nat.zero_le _), (Nat.zero_le _)⟩) hS (fun q _ h => hFc q h) hFc (fun r8 u t H1 locs ht hvm hw hB hz1 hk1 hS => ?_)
    obtain ⟨c9, w10⟩ := hw
    obtain ⟨hP, hD⟩ := wd_post hFc ht hB
    generalize H1 = H at hP hS ⊢
    obtain ⟨S11, rfl⟩ : ∃ z, z = u := ⟨_, rfl⟩
    have t12 : stp [(12, 15), (14, 0), (14, 1), (14, 2), (22, 101), (114, 11), (122, 11)] [] [] S S11 := t0.tr w10 (by decide) (fun _ q => absurd q List.not_mem_nil)
    have xe13 : ext S S11 := w10.x
    have k14 : (S11.I (S.f o1 1) 2).toInt = (S.I (S.f o1 1) 2).toInt := by rw [(w10.fR (S.f o1 1) F1.2.1.1 List.not_mem_nil).1 2 (by rw [F1.2.1.2.1]; decide) |>.1]
    refine W.widen (k := 3) (n := 67) (Nat.le_of_ble_eq_true rfl) (Nat.le_of_ble_eq_true rfl) ?_
    exact W.iret (v := r8) hx hb hr (fun t ht hW9 => ⟨⟨r8, S11, rfl, t12, wd_end hP hK hD ht hW9.alike⟩, hS.F ht⟩) hS.2.2 dX12_hob_58 hlocks
  · have c6i : ¬ (f_X12_in x1.toInt64 (500 : Int64) (10000 : Int64)).toInt = 0 := neq_v rfl rfl c6
    refine lv_iload_n hx hb dX12_hob_14 rfl (lv_at hl 2 rfl) ?_
    refine lv_i2l hx hb dX12_hob_15 rfl ?_
    refine lv_lconst (v := 1) hx hb dX12_hob_16 (by decide) ?_
    refine lv_ldc2 (own := RX12) (v := 4) hx hb hown (hts (.constantLong RX12 314 (4)) (by decide +kernel)) dX12_hob_17 ?_
    have hFc := free_all hD hS hA
    refine va_calli (va_runS (As := [.long x2.toInt64, .long (1 : Int64), .long (4 : Int64)]) (rest := []) ⟨hx, hb, hml, hown, hts⟩ (c_X12_in l (cy := cy) (X := X) (D := D) S _ x2.toInt64 (1 : Int64) (4 : Int64)) (cwS 3 hts gX12_hob_X12_in rfl rfl rfl (by decide +kernel) ⟨Nat.le_of_ble_eq_true rfl, Nat.le_of_ble_eq_true rfl⟩) ⟨fun a U g mk q => ⟨q.1, q.2.1, q.2.2.1.calling, NW.same (u := U) (U := U.calling g mk a) rfl q.2.2.2⟩, fun U hU hW => ⟨rfl, by rw [hU], wd_pre hP hK hD hU hW, hN.warm hW⟩⟩ rfl rfl hl.1 rfl (lv_room (Nat.le_of_ble_eq_true rfl)) dX12_hob_20 ⟨(Nat.zero_le _), (Nat.zero_le _)⟩) hS (fun q _ h => hFc q h) hFc (fun r15 u t H1 locs ht hvm hw hB hz1 hk1 hS => ?_)
    have c16 := hw
    obtain ⟨hP, hD⟩ := wd_post hFc ht hB
    generalize H1 = H at hP hS ⊢
    obtain rfl : r15 = f_X12_in x2.toInt64 (1 : Int64) (4 : Int64) := c16
    have i17 := i64_i x2
    have l64_1 : (1 : Int64).toInt = 1 := rfl
    have l64_4 : (4 : Int64).toInt = 4 := rfl
    have i18 := in_rng x2.toInt64 (1 : Int64) (4 : Int64)
    refine lv_if_eq (tgt := 53) hx hb dX12_hob_23 (by decide) (fun c19 => ?_) (fun c19 => ?_)
    · have c19i : (f_X12_in x2.toInt64 (1 : Int64) (4 : Int64)).toInt = 0 := eq_v rfl rfl c19
      refine lv_aload_n hx hb dX12_hob_53 rfl (lv_at hl 0 rfl) ?_
      refine lv_iconst (v := 1) hx hb dX12_hob_54 (by decide) ?_
      have l32_1 : (1 : Int32).toInt = 1 := rfl
      have hFc := free_all hD hS hA
      obtain ⟨k20, gk20, hk20⟩ := wGt (cy := cy) X S h_o1.1 h_o1.2.1
      refine va_calli (va_runV (As := [.int (1 : Int32)]) (rest := []) ⟨hx, hb, hml, hown, hts⟩ (c_X12_fails l (cy := cy) (X := X) (D := D) S _ o1 h_o1 (1 : Int32) (hW)) (cwV 1 hts gX12_hob_X12_fails rfl rfl rfl (by decide +kernel) ⟨Nat.le_of_ble_eq_true rfl, Nat.le_of_ble_eq_true rfl⟩) ⟨fun a U g mk q => ⟨q.1, q.2.1, q.2.2.1.calling, NW.same (u := U) (U := U.calling g mk a) rfl q.2.2.2⟩, va_recv hK hP (ci := 16) (q0 := k20) rfl hk20, fun U hU hW => ⟨rfl, by rw [hU], wd_pre hP hK hD hU hW, hN.warm hW⟩⟩ rfl rfl hl.1 rfl (lv_room (Nat.le_of_ble_eq_true rfl)) dX12_hob_55 ⟨(Nat.zero_le _), (Nat.zero_le _)⟩) hS (fun q _ h => hFc q h) hFc (fun r21 u t H1 locs ht hvm hw hB hz1 hk1 hS => ?_)
      obtain ⟨c22, w23⟩ := hw
      obtain ⟨hP, hD⟩ := wd_post hFc ht hB
      generalize H1 = H at hP hS ⊢
      obtain ⟨S24, rfl⟩ : ∃ z, z = u := ⟨_, rfl⟩
      have t25 : stp [(12, 15), (14, 0), (14, 1), (14, 2), (22, 101), (114, 11), (122, 11)] [] [] S S24 := t0.tr w23 (by decide) (fun _ q => absurd q List.not_mem_nil)
      have xe26 : ext S S24 := w23.x
      have k27 : (S24.I (S.f o1 1) 2).toInt = (S.I (S.f o1 1) 2).toInt := by rw [(w23.fR (S.f o1 1) F1.2.1.1 List.not_mem_nil).1 2 (by rw [F1.2.1.2.1]; decide) |>.1]
      refine W.widen (k := 3) (n := 67) (Nat.le_of_ble_eq_true rfl) (Nat.le_of_ble_eq_true rfl) ?_
      exact W.iret (v := r21) hx hb hr (fun t ht hW9 => ⟨⟨r21, S24, rfl, t25, wd_end hP hK hD ht hW9.alike⟩, hS.F ht⟩) hS.2.2 dX12_hob_58 hlocks
    · have c19i : ¬ (f_X12_in x2.toInt64 (1 : Int64) (4 : Int64)).toInt = 0 := neq_v rfl rfl c19
      refine lv_iload_n hx hb dX12_hob_26 rfl (lv_at hl 3 rfl) ?_
      refine lv_i2l hx hb dX12_hob_27 rfl ?_
      refine lv_ldc2 (own := RX12) (v := 20000) hx hb hown (hts (.constantLong RX12 316 (20000)) (by decide +kernel)) dX12_hob_28 ?_
      refine lv_ldc2 (own := RX12) (v := 200000) hx hb hown (hts (.constantLong RX12 318 (200000)) (by decide +kernel)) dX12_hob_31 ?_
      have hFc := free_all hD hS hA
      refine va_calli (va_runS (As := [.long x3.toInt64, .long (20000 : Int64), .long (200000 : Int64)]) (rest := []) ⟨hx, hb, hml, hown, hts⟩ (c_X12_in l (cy := cy) (X := X) (D := D) S _ x3.toInt64 (20000 : Int64) (200000 : Int64)) (cwS 3 hts gX12_hob_X12_in rfl rfl rfl (by decide +kernel) ⟨Nat.le_of_ble_eq_true rfl, Nat.le_of_ble_eq_true rfl⟩) ⟨fun a U g mk q => ⟨q.1, q.2.1, q.2.2.1.calling, NW.same (u := U) (U := U.calling g mk a) rfl q.2.2.2⟩, fun U hU hW => ⟨rfl, by rw [hU], wd_pre hP hK hD hU hW, hN.warm hW⟩⟩ rfl rfl hl.1 rfl (lv_room (Nat.le_of_ble_eq_true rfl)) dX12_hob_34 ⟨(Nat.zero_le _), (Nat.zero_le _)⟩) hS (fun q _ h => hFc q h) hFc (fun r28 u t H1 locs ht hvm hw hB hz1 hk1 hS => ?_)
      have c29 := hw
      obtain ⟨hP, hD⟩ := wd_post hFc ht hB
      generalize H1 = H at hP hS ⊢
      obtain rfl : r28 = f_X12_in x3.toInt64 (20000 : Int64) (200000 : Int64) := c29
      have i30 := i64_i x3
      have l64_20000 : (20000 : Int64).toInt = 20000 := rfl
      have l64_200000 : (200000 : Int64).toInt = 200000 := rfl
      have i31 := in_rng x3.toInt64 (20000 : Int64) (200000 : Int64)
      refine lv_if_eq (tgt := 53) hx hb dX12_hob_37 (by decide) (fun c32 => ?_) (fun c32 => ?_)
      · have c32i : (f_X12_in x3.toInt64 (20000 : Int64) (200000 : Int64)).toInt = 0 := eq_v rfl rfl c32
        refine lv_aload_n hx hb dX12_hob_53 rfl (lv_at hl 0 rfl) ?_
        refine lv_iconst (v := 1) hx hb dX12_hob_54 (by decide) ?_
        have l32_1 : (1 : Int32).toInt = 1 := rfl
        have hFc := free_all hD hS hA
        obtain ⟨k33, gk33, hk33⟩ := wGt (cy := cy) X S h_o1.1 h_o1.2.1
        refine va_calli (va_runV (As := [.int (1 : Int32)]) (rest := []) ⟨hx, hb, hml, hown, hts⟩ (c_X12_fails l (cy := cy) (X := X) (D := D) S _ o1 h_o1 (1 : Int32) (hW)) (cwV 1 hts gX12_hob_X12_fails rfl rfl rfl (by decide +kernel) ⟨Nat.le_of_ble_eq_true rfl, Nat.le_of_ble_eq_true rfl⟩) ⟨fun a U g mk q => ⟨q.1, q.2.1, q.2.2.1.calling, NW.same (u := U) (U := U.calling g mk a) rfl q.2.2.2⟩, va_recv hK hP (ci := 16) (q0 := k33) rfl hk33, fun U hU hW => ⟨rfl, by rw [hU], wd_pre hP hK hD hU hW, hN.warm hW⟩⟩ rfl rfl hl.1 rfl (lv_room (Nat.le_of_ble_eq_true rfl)) dX12_hob_55 ⟨(Nat.zero_le _), (Nat.zero_le _)⟩) hS (fun q _ h => hFc q h) hFc (fun r34 u t H1 locs ht hvm hw hB hz1 hk1 hS => ?_)
        obtain ⟨c35, w36⟩ := hw
        obtain ⟨hP, hD⟩ := wd_post hFc ht hB
        generalize H1 = H at hP hS ⊢
        obtain ⟨S37, rfl⟩ : ∃ z, z = u := ⟨_, rfl⟩
        have t38 : stp [(12, 15), (14, 0), (14, 1), (14, 2), (22, 101), (114, 11), (122, 11)] [] [] S S37 := t0.tr w36 (by decide) (fun _ q => absurd q List.not_mem_nil)
        have xe39 : ext S S37 := w36.x
        have k40 : (S37.I (S.f o1 1) 2).toInt = (S.I (S.f o1 1) 2).toInt := by rw [(w36.fR (S.f o1 1) F1.2.1.1 List.not_mem_nil).1 2 (by rw [F1.2.1.2.1]; decide) |>.1]
        refine W.widen (k := 3) (n := 67) (Nat.le_of_ble_eq_true rfl) (Nat.le_of_ble_eq_true rfl) ?_
        exact W.iret (v := r34) hx hb hr (fun t ht hW9 => ⟨⟨r34, S37, rfl, t38, wd_end hP hK hD ht hW9.alike⟩, hS.F ht⟩) hS.2.2 dX12_hob_58 hlocks
      · have c32i : ¬ (f_X12_in x3.toInt64 (20000 : Int64) (200000 : Int64)).toInt = 0 := neq_v rfl rfl c32
        refine lv_iload hx hb dX12_hob_40 (lv_at hl 4 rfl) ?_
        refine lv_i2l hx hb dX12_hob_42 rfl ?_
        refine lv_lconst (v := 1) hx hb dX12_hob_43 (by decide) ?_
        refine lv_ldc2 (own := RX12) (v := 20) hx hb hown (hts (.constantLong RX12 320 (20)) (by decide +kernel)) dX12_hob_44 ?_
        have hFc := free_all hD hS hA
        refine va_calli (va_runS (As := [.long x4.toInt64, .long (1 : Int64), .long (20 : Int64)]) (rest := []) ⟨hx, hb, hml, hown, hts⟩ (c_X12_in l (cy := cy) (X := X) (D := D) S _ x4.toInt64 (1 : Int64) (20 : Int64)) (cwS 3 hts gX12_hob_X12_in rfl rfl rfl (by decide +kernel) ⟨Nat.le_of_ble_eq_true rfl, Nat.le_of_ble_eq_true rfl⟩) ⟨fun a U g mk q => ⟨q.1, q.2.1, q.2.2.1.calling, NW.same (u := U) (U := U.calling g mk a) rfl q.2.2.2⟩, fun U hU hW => ⟨rfl, by rw [hU], wd_pre hP hK hD hU hW, hN.warm hW⟩⟩ rfl rfl hl.1 rfl (lv_room (Nat.le_of_ble_eq_true rfl)) dX12_hob_47 ⟨(Nat.zero_le _), (Nat.zero_le _)⟩) hS (fun q _ h => hFc q h) hFc (fun r41 u t H1 locs ht hvm hw hB hz1 hk1 hS => ?_)
        have c42 := hw
        obtain ⟨hP, hD⟩ := wd_post hFc ht hB
        generalize H1 = H at hP hS ⊢
        obtain rfl : r41 = f_X12_in x4.toInt64 (1 : Int64) (20 : Int64) := c42
        have i43 := i64_i x4
        have l64_20 : (20 : Int64).toInt = 20 := rfl
        have i44 := in_rng x4.toInt64 (1 : Int64) (20 : Int64)
        refine lv_if_ne (tgt := 59) hx hb dX12_hob_50 (by decide) (fun c45 => ?_) (fun c45 => ?_)
        · have c45i : ¬ (f_X12_in x4.toInt64 (1 : Int64) (20 : Int64)).toInt = 0 := neq_v rfl rfl c45
          refine lv_aload_n hx hb dX12_hob_59 rfl (lv_at hl 0 rfl) ?_
          obtain ⟨k46, gk46, hk46⟩ := wGt (cy := cy) X S h_o1.1 h_o1.2.1
          simp only [kE, F1.1] at hk46
          refine va_get (D := D) (ci := 16) (v := .ref (S.f o1 1)) (C := RX12) (T := TX12) (N := 34) hx hb hts (by decide +kernel) hown hK hP k46 hk46 rfl 1 (by decide) (hts (.fieldLink RX12 28 "HobhouseModel" "hobs" "Ljava/util/ArrayList;") (by decide +kernel)) (fun _ h9 => h9) rfl dX12_hob_60 ?_
          have hFc := free_all hD hS hA
          obtain ⟨k47, gk47, hk47⟩ := wGt (cy := cy) X S F1.2.1.1 F1.2.1.2.1
          refine va_calli (va_runV (As := []) (rest := []) ⟨hx, hb, hml, hown, hts⟩ (c_Jx4a65c_size_8abf5 l (cy := cy) (X := X) (D := D) S _ (S.f o1 1) F1.2.1) (cwV 0 hts gX12_hob_Jx4a65c_size_8abf5 rfl rfl rfl (by decide +kernel) ⟨Nat.le_of_ble_eq_true rfl, Nat.le_of_ble_eq_true rfl⟩) ⟨fun a U g mk q => ⟨q.1, q.2.1, q.2.2.1.calling, NW.same (u := U) (U := U.calling g mk a) rfl q.2.2.2⟩, va_recv hK hP (ci := 3) (q0 := k47) rfl hk47, fun U hU hW => ⟨rfl, by rw [hU], wd_pre hP hK hD hU hW, hN.warm hW⟩⟩ rfl rfl hl.1 rfl (lv_room (Nat.le_of_ble_eq_true rfl)) dX12_hob_63 ⟨(Nat.zero_le _), (Nat.zero_le _)⟩) hS (fun q _ h => hFc q h) hFc (fun r48 u t H1 locs ht hvm hw hB hz1 hk1 hS => ?_)
          have c49 := hw
          obtain ⟨hP, hD⟩ := wd_post hFc ht hB
          generalize H1 = H at hP hS ⊢
          obtain rfl : r48 = f_Jx4a65c_size_8abf5 S (S.f o1 1) := c49
          have i50 := al_sz ((hW.at F1.2.1 List.not_mem_nil).to_14 F1.2.1.2.1)
          have i51 : (f_Jx4a65c_size_8abf5 S (S.f o1 1)).toInt = (S.I (S.f o1 1) 2).toInt := rfl
          refine lv_bipush (v := 8) hx hb dX12_hob_66 (by decide +kernel) ?_
          refine lv_icmp_ne (tgt := 77) hx hb dX12_hob_68 (by decide) (fun c52 => ?_) (fun c52 => ?_)
          · have c52i : ¬ (f_Jx4a65c_size_8abf5 S (S.f o1 1)).toInt = 8 := neq_v rfl rfl c52
            refine lv_aload_n hx hb dX12_hob_77 rfl (lv_at hl 0 rfl) ?_
            obtain ⟨k53, gk53, hk53⟩ := wGt (cy := cy) X S h_o1.1 h_o1.2.1
            simp only [kE, F1.1] at hk53
            refine va_get (D := D) (ci := 16) (v := .ref (S.f o1 1)) (C := RX12) (T := TX12) (N := 34) hx hb hts (by decide +kernel) hown hK hP k53 hk53 rfl 1 (by decide) (hts (.fieldLink RX12 28 "HobhouseModel" "hobs" "Ljava/util/ArrayList;") (by decide +kernel)) (fun _ h9 => h9) rfl dX12_hob_78 ?_
            refine va_new (ci := 15) (fs := [.int 0, .int 0, .null, .int 0, .int 0, .int 0, .int 0]) (C := RX11) (T := TX11) (N := 7) hx hb hts (by decide +kernel) tyX11 tyX11_ok hown (hts (.classLink RX12 322 RX11) (by decide +kernel)) (hts (.instantiable RX11 7) (by decide +kernel)) (hts (.initialized RX11) (by decide +kernel)) hK hP hD hS hA rfl (fun j hj => by rcases (show j = 0 ∨ j = 1 ∨ j = 2 ∨ j = 3 ∨ j = 4 ∨ j = 5 ∨ j = 6 by omega) with rfl | rfl | rfl | rfl | rfl | rfl | rfl <;> rfl) (Nat.le_of_ble_eq_true rfl) (Nat.le_of_ble_eq_true rfl) dX12_hob_81 (fun qa54 H hP2 hD2 hS => ?_)
            have hqa54 : qa54 ∉ S.L := nw_q hD2
            have e9 := wNw (cy := cy) (X := X) (S := S) (a := qa54) (k := 11) (z := 0) (f := fun _ => 0) (g := fun _ => none) hqa54 rfl
            obtain ⟨S55, hS55⟩ : ∃ z, S.nw qa54 11 0 (fun _ => 0) (fun _ => none) = z := ⟨_, rfl⟩
            have hP : va_P D vwCl (X ++ PL cy S55) H := by rw [← hS55, ← e9]; exact hP2
            have hD : va_D A (X ++ PL cy S55) := by rw [← hS55, ← e9]; exact hD2
            have xe56 : ext S S55 := by rw [← hS55]; exact ext.nw hqa54
            have t57 : stp [(12, 15), (14, 0), (14, 1), (14, 2), (22, 101), (114, 11), (122, 11)] [] (qa54 :: []) S S55 := by rw [← hS55]; exact t0.nw hqa54 (Or.inl (by decide))
            have k58 : (S55.I (S.f o1 1) 2).toInt = (S.I (S.f o1 1) 2).toInt := by rw [← hS55]; exact congrArg Int32.toInt (nw_Io hqa54 F1.2.1.1)
            refine W.widen (k := 1) (n := 7) (Nat.le_of_ble_eq_true rfl) (Nat.le_of_ble_eq_true rfl) ?_
            have aqa54 : isA S55 qa54 11 := by rw [← hS55]; exact nw_A (by decide)
            have fqa54 : ∀ j, S55.F qa54 j = none := by rw [← hS55]; exact nw_F
            have iqa54 : ∀ j, S55.I qa54 j = 0 := by rw [← hS55]; exact nw_I
            have bqa54 : qa54 ∉ S.L := fun e => hqa54 e
            refine lv_dup hx hb dX12_hob_84 rfl ?_
            refine lv_iload_n hx hb dX12_hob_85 rfl (lv_at hl 1 rfl) ?_
            refine lv_iload_n hx hb dX12_hob_86 rfl (lv_at hl 2 rfl) ?_
            refine lv_iload_n hx hb dX12_hob_87 rfl (lv_at hl 3 rfl) ?_
            refine lv_iload hx hb dX12_hob_88 (lv_at hl 4 rfl) ?_
            have hFc := free_all hD hS hA
            refine va_callv (va_runI (As := [.int x1, .int x2, .int x3, .int x4]) (rest := [.ref qa54, .ref (S.f o1 1)]) ⟨hx, hb, hml, hown, hts⟩ (c_X11_init l (cy := cy) (X := X) (D := D) S55 _ qa54 aqa54 x1 x2 x3 x4 [] (t57.w) fqa54 iqa54 (by omega)) (cwI 4 hts gX12_hob_X11_init rfl rfl rfl (hts (.initialized RX11) (by decide +kernel)) (hts (.methodLink RX12 324 yX11_init) (by decide +kernel)) (hts (.instanceMethod yX11_init) (by decide +kernel)) rfl (by decide +kernel) ⟨Nat.le_of_ble_eq_true rfl, Nat.le_of_ble_eq_true rfl⟩) ⟨fun a U g mk q => ⟨q.1, q.2.1, q.2.2.1.calling, NW.same (u := U) (U := U.calling g mk a) rfl q.2.2.2⟩, fun U hU hW => ⟨rfl, by rw [hU], wd_pre hP hK hD hU hW, hN.warm hW⟩⟩ rfl rfl hl.1 rfl (lv_room (Nat.le_of_ble_eq_true rfl)) dX12_hob_90 ⟨Nat.le_of_ble_eq_true rfl, Nat.le_of_ble_eq_true rfl⟩) hS (fun q _ h => hFc q h) hFc (fun u t H1 locs ht hvm hw hB hz1 hk1 hS => ?_)
            obtain ⟨w60, y61, y62, y63, y64, y65, y66, y67⟩ := hw
            obtain ⟨hP, hD⟩ := wd_post hFc ht hB
            generalize H1 = H at hP hS ⊢
            obtain ⟨S68, rfl⟩ : ∃ z, z = u := ⟨_, rfl⟩
            have t69 : stp [(12, 15), (14, 0), (14, 1), (14, 2), (22, 101), (114, 11), (122, 11)] [] [] S S68 := t57.tr w60 (by decide) (fun z q => by rw [List.mem_singleton.mp q]; exact (Or.inr bqa54))
            have xe70 : ext S55 S68 := w60.x
            have k71 : (S68.I (S.f o1 1) 2).toInt = (S55.I (S.f o1 1) 2).toInt := by rw [(w60.fR (S.f o1 1) (xe56.A F1.2.1).1 (by rw [List.mem_singleton]; exact fun e => hqa54 (e ▸ F1.2.1.1))).1 2 (by rw [(xe56.A F1.2.1).2.1]; decide) |>.1]
            have hFc := free_all hD hS hA
            obtain ⟨k72, gk72, hk72⟩ := wGt (cy := cy) X S68 ((xe56.tr xe70).A F1.2.1).1 ((xe56.tr xe70).A F1.2.1).2.1
            refine va_calli (va_runV (As := [.ref qa54]) (rest := []) ⟨hx, hb, hml, hown, hts⟩ (c_Jx4a65c_add_9ea2d_h l (e0 := e0) (mi := mi) (cy := cy) (X := X) (D := D) S68 _ (S.f o1 1) ((xe56.tr xe70).A F1.2.1) qa54 (xe70.A aqa54) (t69.w) (by have h9 := ((t69.w.at ((xe56.tr xe70).A h_o1) List.not_mem_nil).to_12 ((xe56.tr xe70).A h_o1).2.1).X2; rw [f_of ((xe56.tr xe70).F h_o1 (by decide) F1.1), f_of (t69.x.F h_o1 (by decide) he)] at h9; exact h9) (by have q9 := al_sz8 ((t69.w.at ((xe56.tr xe70).A F1.2.1) List.not_mem_nil).to_14 ((xe56.tr xe70).A F1.2.1).2.1) (((xe56.tr xe70).n F1.2.1).trans F1.2.2); omega) (((xe56.tr xe70).n F1.2.1).trans F1.2.2)) (cwV 1 hts gX12_hob_Jx4a65c_add_9ea2d rfl rfl rfl (by decide +kernel) ⟨Nat.le_of_ble_eq_true rfl, Nat.le_of_ble_eq_true rfl⟩) ⟨fun a U g mk q => ⟨q.1, q.2.1, q.2.2.1.calling, NW.same (u := U) (U := U.calling g mk a) rfl q.2.2.2.1, q.2.2.2.2.calling⟩, va_recv hK hP (ci := 3) (q0 := k72) rfl hk72, fun U hU hW => ⟨rfl, by rw [hU], wd_pre hP hK hD hU hW, hN.warm hW, ou_pre hOU hS hFc hU hW⟩⟩ rfl rfl hl.1 rfl (lv_room (Nat.le_of_ble_eq_true rfl)) dX12_hob_93 ⟨Nat.le_of_ble_eq_true rfl, Nat.le_of_ble_eq_true rfl⟩) hS (fun q _ h => hFc q h) hFc (fun r73 u t H1 locs ht hvm hw hB hz1 hk1 hS => ?_)
            obtain ⟨w74, y75⟩ := hw
            obtain ⟨hP, hD⟩ := wd_post hFc ht hB
            generalize H1 = H at hP hS ⊢
            obtain ⟨S76, rfl⟩ : ∃ z, z = u := ⟨_, rfl⟩
            have t77 : stp [(12, 15), (14, 0), (14, 1), (14, 2), (22, 101), (114, 11), (122, 11)] [] [] S S76 := t69.tr w74 (by decide) (fun _ q => absurd q List.not_mem_nil)
            have xe78 : ext S68 S76 := w74.x
            refine lv_pop hx hb dX12_hob_96 rfl ?_
            refine lv_aload_n hx hb dX12_hob_97 rfl (lv_at hl 0 rfl) ?_
            refine lv_aload_n hx hb dX12_hob_98 rfl (lv_at hl 0 rfl) ?_
            obtain ⟨k79, gk79, hk79⟩ := wGt (cy := cy) X S76 (xe78.A ((xe56.tr xe70).A h_o1)).1 (xe78.A ((xe56.tr xe70).A h_o1)).2.1
            simp only [kE, ((xe56.tr (xe70.tr xe78)).F h_o1 (by decide) F1.1)] at hk79
            refine va_get (D := D) (ci := 16) (v := .ref (S.f o1 1)) (C := RX12) (T := TX12) (N := 34) hx hb hts (by decide +kernel) hown hK hP k79 hk79 rfl 1 (by decide) (hts (.fieldLink RX12 28 "HobhouseModel" "hobs" "Ljava/util/ArrayList;") (by decide +kernel)) (fun _ h9 => h9) rfl dX12_hob_99 ?_
            have hFc := free_all hD hS hA
            obtain ⟨k80, gk80, hk80⟩ := wGt (cy := cy) X S76 (xe78.A ((xe56.tr xe70).A F1.2.1)).1 (xe78.A ((xe56.tr xe70).A F1.2.1)).2.1
            refine va_calli (va_runV (As := []) (rest := [.ref o1]) ⟨hx, hb, hml, hown, hts⟩ (c_Jx4a65c_size_8abf5 l (cy := cy) (X := X) (D := D) S76 _ (S.f o1 1) (xe78.A ((xe56.tr xe70).A F1.2.1))) (cwV 0 hts gX12_hob_Jx4a65c_size_8abf5 rfl rfl rfl (by decide +kernel) ⟨Nat.le_of_ble_eq_true rfl, Nat.le_of_ble_eq_true rfl⟩) ⟨fun a U g mk q => ⟨q.1, q.2.1, q.2.2.1.calling, NW.same (u := U) (U := U.calling g mk a) rfl q.2.2.2⟩, va_recv hK hP (ci := 3) (q0 := k80) rfl hk80, fun U hU hW => ⟨rfl, by rw [hU], wd_pre hP hK hD hU hW, hN.warm hW⟩⟩ rfl rfl hl.1 rfl (lv_room (Nat.le_of_ble_eq_true rfl)) dX12_hob_102 ⟨Nat.le_of_ble_eq_true rfl, Nat.le_of_ble_eq_true rfl⟩) hS (fun q _ h => hFc q h) hFc (fun r81 u t H1 locs ht hvm hw hB hz1 hk1 hS => ?_)
            have c82 := hw
            obtain ⟨hP, hD⟩ := wd_post hFc ht hB
            generalize H1 = H at hP hS ⊢
            obtain rfl : r81 = f_Jx4a65c_size_8abf5 S76 (S.f o1 1) := c82
            have i83 := al_sz ((t77.w.at (xe78.A ((xe56.tr xe70).A F1.2.1)) List.not_mem_nil).to_14 (xe78.A ((xe56.tr xe70).A F1.2.1)).2.1)
            have i84 : (f_Jx4a65c_size_8abf5 S76 (S.f o1 1)).toInt = (S76.I (S.f o1 1) 2).toInt := rfl
            refine lv_iconst (v := 1) hx hb dX12_hob_105 (by decide) ?_
            refine lv_isub hx hb dX12_hob_106 ?_
            have l32_1 : (1 : Int32).toInt = 1 := rfl
            have hFc := free_all hD hS hA
            obtain ⟨k85, gk85, hk85⟩ := wGt (cy := cy) X S76 (xe78.A ((xe56.tr xe70).A h_o1)).1 (xe78.A ((xe56.tr xe70).A h_o1)).2.1
            refine va_calli (va_runV (As := [.int ((f_Jx4a65c_size_8abf5 S76 (S.f o1 1)) - (1 : Int32))]) (rest := []) ⟨hx, hb, hml, hown, hts⟩ (c_X12_answer l (cy := cy) (X := X) (D := D) S76 _ o1 (xe78.A ((xe56.tr xe70).A h_o1)) ((f_Jx4a65c_size_8abf5 S76 (S.f o1 1)) - (1 : Int32)) (t77.w)) (cwV 1 hts gX12_hob_X12_answer rfl rfl rfl (by decide +kernel) ⟨Nat.le_of_ble_eq_true rfl, Nat.le_of_ble_eq_true rfl⟩) ⟨fun a U g mk q => ⟨q.1, q.2.1, q.2.2.1.calling, NW.same (u := U) (U := U.calling g mk a) rfl q.2.2.2⟩, va_recv hK hP (ci := 16) (q0 := k85) rfl hk85, fun U hU hW => ⟨rfl, by rw [hU], wd_pre hP hK hD hU hW, hN.warm hW⟩⟩ rfl rfl hl.1 rfl (lv_room (Nat.le_of_ble_eq_true rfl)) dX12_hob_107 ⟨Nat.le_of_ble_eq_true rfl, Nat.le_of_ble_eq_true rfl⟩) hS (fun q _ h => hFc q h) hFc (fun r86 u t H1 locs ht hvm hw hB hz1 hk1 hS => ?_)
            obtain ⟨c87, w88⟩ := hw
            obtain ⟨hP, hD⟩ := wd_post hFc ht hB
            generalize H1 = H at hP hS ⊢
            obtain ⟨S89, rfl⟩ : ∃ z, z = u := ⟨_, rfl⟩
            have t90 : stp [(12, 15), (14, 0), (14, 1), (14, 2), (22, 101), (114, 11), (122, 11)] [] [] S S89 := t77.tr w88 (by decide) (fun _ q => absurd q List.not_mem_nil)
            have xe91 : ext S76 S89 := w88.x
            have k92 : (S89.I (S.f o1 1) 2).toInt = (S76.I (S.f o1 1) 2).toInt := by rw [(w88.fR (S.f o1 1) ((xe56.tr (xe70.tr xe78)).A F1.2.1).1 List.not_mem_nil).1 2 (by rw [((xe56.tr (xe70.tr xe78)).A F1.2.1).2.1]; decide) |>.1]
            refine W.widen (k := 3) (n := 67) (Nat.le_of_ble_eq_true rfl) (Nat.le_of_ble_eq_true rfl) ?_
            exact W.iret (v := r86) hx hb hr (fun t ht hW9 => ⟨⟨r86, S89, rfl, t90, wd_end hP hK hD ht hW9.alike⟩, hS.F ht⟩) hS.2.2 dX12_hob_110 hlocks
          · have c52i : (f_Jx4a65c_size_8abf5 S (S.f o1 1)).toInt = 8 := eq_v rfl rfl c52
            refine lv_aload_n hx hb dX12_hob_71 rfl (lv_at hl 0 rfl) ?_
            refine lv_iconst (v := 2) hx hb dX12_hob_72 (by decide) ?_
            have l32_2 : (2 : Int32).toInt = 2 := rfl
            have hFc := free_all hD hS hA
            obtain ⟨k93, gk93, hk93⟩ := wGt (cy := cy) X S h_o1.1 h_o1.2.1
            refine va_calli (va_runV (As := [.int (2 : Int32)]) (rest := []) ⟨hx, hb, hml, hown, hts⟩ (c_X12_fails l (cy := cy) (X := X) (D := D) S _ o1 h_o1 (2 : Int32) (hW)) (cwV 1 hts gX12_hob_X12_fails rfl rfl rfl (by decide +kernel) ⟨Nat.le_of_ble_eq_true rfl, Nat.le_of_ble_eq_true rfl⟩) ⟨fun a U g mk q => ⟨q.1, q.2.1, q.2.2.1.calling, NW.same (u := U) (U := U.calling g mk a) rfl q.2.2.2⟩, va_recv hK hP (ci := 16) (q0 := k93) rfl hk93, fun U hU hW => ⟨rfl, by rw [hU], wd_pre hP hK hD hU hW, hN.warm hW⟩⟩ rfl rfl hl.1 rfl (lv_room (Nat.le_of_ble_eq_true rfl)) dX12_hob_73 ⟨(Nat.zero_le _), (Nat.zero_le _)⟩) hS (fun q _ h => hFc q h) hFc (fun r94 u t H1 locs ht hvm hw hB hz1 hk1 hS => ?_)
            obtain ⟨c95, w96⟩ := hw
            obtain ⟨hP, hD⟩ := wd_post hFc ht hB
            generalize H1 = H at hP hS ⊢
            obtain ⟨S97, rfl⟩ : ∃ z, z = u := ⟨_, rfl⟩
            have t98 : stp [(12, 15), (14, 0), (14, 1), (14, 2), (22, 101), (114, 11), (122, 11)] [] [] S S97 := t0.tr w96 (by decide) (fun _ q => absurd q List.not_mem_nil)
            have xe99 : ext S S97 := w96.x
            have k100 : (S97.I (S.f o1 1) 2).toInt = (S.I (S.f o1 1) 2).toInt := by rw [(w96.fR (S.f o1 1) F1.2.1.1 List.not_mem_nil).1 2 (by rw [F1.2.1.2.1]; decide) |>.1]
            refine W.widen (k := 3) (n := 67) (Nat.le_of_ble_eq_true rfl) (Nat.le_of_ble_eq_true rfl) ?_
            exact W.iret (v := r94) hx hb hr (fun t ht hW9 => ⟨⟨r94, S97, rfl, t98, wd_end hP hK hD ht hW9.alike⟩, hS.F ht⟩) hS.2.2 dX12_hob_76 hlocks
        · have c45i : (f_X12_in x4.toInt64 (1 : Int64) (20 : Int64)).toInt = 0 := eq_v rfl rfl c45
          refine lv_aload_n hx hb dX12_hob_53 rfl (lv_at hl 0 rfl) ?_
          refine lv_iconst (v := 1) hx hb dX12_hob_54 (by decide) ?_
          have l32_1 : (1 : Int32).toInt = 1 := rfl
          have hFc := free_all hD hS hA
          obtain ⟨k101, gk101, hk101⟩ := wGt (cy := cy) X S h_o1.1 h_o1.2.1
          refine va_calli (va_runV (As := [.int (1 : Int32)]) (rest := []) ⟨hx, hb, hml, hown, hts⟩ (c_X12_fails l (cy := cy) (X := X) (D := D) S _ o1 h_o1 (1 : Int32) (hW)) (cwV 1 hts gX12_hob_X12_fails rfl rfl rfl (by decide +kernel) ⟨Nat.le_of_ble_eq_true rfl, Nat.le_of_ble_eq_true rfl⟩) ⟨fun a U g mk q => ⟨q.1, q.2.1, q.2.2.1.calling, NW.same (u := U) (U := U.calling g mk a) rfl q.2.2.2⟩, va_recv hK hP (ci := 16) (q0 := k101) rfl hk101, fun U hU hW => ⟨rfl, by rw [hU], wd_pre hP hK hD hU hW, hN.warm hW⟩⟩ rfl rfl hl.1 rfl (lv_room (Nat.le_of_ble_eq_true rfl)) dX12_hob_55 ⟨(Nat.zero_le _), (Nat.zero_le _)⟩) hS (fun q _ h => hFc q h) hFc (fun r102 u t H1 locs ht hvm hw hB hz1 hk1 hS => ?_)
          obtain ⟨c103, w104⟩ := hw
          obtain ⟨hP, hD⟩ := wd_post hFc ht hB
          generalize H1 = H at hP hS ⊢
          obtain ⟨S105, rfl⟩ : ∃ z, z = u := ⟨_, rfl⟩
          have t106 : stp [(12, 15), (14, 0), (14, 1), (14, 2), (22, 101), (114, 11), (122, 11)] [] [] S S105 := t0.tr w104 (by decide) (fun _ q => absurd q List.not_mem_nil)
          have xe107 : ext S S105 := w104.x
          have k108 : (S105.I (S.f o1 1) 2).toInt = (S.I (S.f o1 1) 2).toInt := by rw [(w104.fR (S.f o1 1) F1.2.1.1 List.not_mem_nil).1 2 (by rw [F1.2.1.2.1]; decide) |>.1]
          refine W.widen (k := 3) (n := 67) (Nat.le_of_ble_eq_true rfl) (Nat.le_of_ble_eq_true rfl) ?_
          exact W.iret (v := r102) hx hb hr (fun t ht hW9 => ⟨⟨r102, S105, rfl, t106, wd_end hP hK hD ht hW9.alike⟩, hS.F ht⟩) hS.2.2 dX12_hob_58 hlocks
