theorem hi_X3_init_X3 : ∀ w ∈ u_ws RX3 TX3 6, w ∈ wsX3_init := by decide +kernel
set_option maxHeartbeats 4000000 in
set_option maxRecDepth 100000 in
theorem c_X3_init (l : Launch) {D : va_G} {cy : Nat → ClassId} {X : va_W} (S : wPS) (sz : Nat) (o1 : Nat) (h_o1 : isA S o1 3) (x1 : Int32) (x2 : Int32) (x3 : Int32) (x4 : Int32) (R : List Nat) (hW : wtB S (o1 :: R)) (hF0 : ∀ j, S.F o1 j = none) (hI0 : ∀ j, S.I o1 j = 0) (hx : 1 ≤ x4.toInt ∧ x4.toInt ≤ 20) : Met l yX3_init wsX3_init ({ frames := 1, cells := 1, slots := 20, locals := 12 }) (va_Pc [.ref o1, .int x1, .int x2, .int x3, .int x4] (fun U => U.heap.size = sz ∧ WD D cy X (fun _ => True) S U ∧ NW U)) (va_Qv (fun (u : wPS) => stp ([] : List (Nat × Nat)) [o1] R S u ∧ isA u o1 3 ∧ u.I o1 0 = x1 ∧ u.I o1 1 = x2 ∧ u.I o1 3 = x3 ∧ u.I o1 4 = (0 : Int32) ∧ u.I o1 5 = (0 : Int32)) (fun u t => WD D cy X (va_A (X ++ PL cy S) sz) u t) (va_A (X ++ PL cy S) sz)) 1 20 (va_A (X ++ PL cy S) sz) := by
  refine Met.ofW (cc := cX3_init) (maxL := 5) (ret := none) (by decide) rfl ?_
  intro p e s m args below meth c s₁ B hml hv
  obtain ⟨rfl, hsz, ⟨hP, hK, hD0⟩, hN⟩ := hv
  have hx := B.exec
  have hb := B.bytes
  have hr := B.returns
  have hts := atoms_spec (ws := wsX3_init) B.pre
  have hown : s.vm.findClass RX3 = some m.cls := findClass_of_methodNamed (x := yX3_init) B.named
  have hlocks := B.notSynchronized
  have hin : meth.name = "<init>" := (name_of_methodNamed B.named B.method).1
  subst hsz
  have hD := hD0.self (sz := s.heap.size)
  generalize hAe : va_A (X ++ PL cy S) s.heap.size = A at hD ⊢
  have hA : ∀ q : Nat, s.heap.size ≤ q → A q := fun q h => by rw [← hAe]; exact Or.inr h
  have hS : va_S A s.heap s.heap [] := va_S.rf
  have hl := lv_entry ([.ref o1, .int x1, .int x2, .int x3, .int x4]) (n := 5) (Nat.le_of_ble_eq_true rfl)
  rw [lg_entry_eq]
  generalize (lg_sl ([.ref o1, .int x1, .int x2, .int x3, .int x4]) ++ List.replicate (5 - (lg_sl ([.ref o1, .int x1, .int x2, .int x3, .int x4])).length) Slot.unset).toArray = ls at hl ⊢
  have hl : lv_has ls 5 [(0, .ref o1), (1, .int x1), (2, .int x2), (3, .int x3), (4, .int x4)] := hl
  have t0 : stp ([] : List (Nat × Nat)) [o1] (o1 :: R) S S := stp.rf hW
  refine lv_aload_n hx hb dX3_init_0 rfl (lv_at hl 0 rfl) ?_
  refine W.objInit hx hb hown (hts (.methodLink RX3 3 objectInit) (by decide +kernel)) (hts (.instanceMethod objectInit) (by decide +kernel)) (hts (.code objectInit ⟨#[0xb1]⟩ 1 none) (by decide +kernel)) rfl (by rw [hml]; exact hl.1) rfl dX3_init_1 (Nat.le_of_ble_eq_true rfl) (Nat.le_of_ble_eq_true rfl) ?_
  refine W.eq (g2 := F0 m 4 ls []) rfl ?_
  refine lv_aload_n hx hb dX3_init_4 rfl (lv_at hl 0 rfl) ?_
  refine lv_iload_n hx hb dX3_init_5 rfl (lv_at hl 1 rfl) ?_
  obtain ⟨k1, gk1, hk1⟩ := wGt (cy := cy) X S h_o1.1 h_o1.2.1
  refine va_putF (D := D) (ci := 7) (v := .int x1) (ty := .int) (C := RX3) (T := TX3) (N := 6) hx hb hts hi_X3_init_X3 tyX3 tyX3_ok nmX3 hown hK hP hD hS k1 hk1 rfl 0 (by decide) (hts (.fieldLink RX3 9 "Hobhouse$Hob" "module" "I") (by decide +kernel)) (fun _ h9 => h9) rfl hin rfl (by decide +kernel) (rfl) (rfl) (Nat.le_of_ble_eq_true rfl) dX3_init_6 (fun H locs hP2 hD2 hS => ?_)
  have e9 := wPuI (cy := cy) (j := 0) (v := x1) hD h_o1.1 h_o1.2.1 gk1 rfl
  obtain ⟨S2, hS2⟩ : ∃ z, S.sI o1 0 x1 = z := ⟨_, rfl⟩
  have hP : va_P D vwCl (X ++ PL cy S2) H := by rw [← hS2, ← e9]; exact hP2
  have hD : va_D A (X ++ PL cy S2) := by rw [← hS2, ← e9]; exact hD2
  have xe3 : ext S S2 := by rw [← hS2]; exact ext.sI _ _ _ _
  have t4 : stp ([] : List (Nat × Nat)) [o1] (o1 :: R) S S2 := by rw [← hS2]; exact t0.Ir 0 x1 List.mem_cons_self (Or.inl List.mem_cons_self)
  refine lv_aload_n hx hb dX3_init_9 rfl (lv_at hl 0 rfl) ?_
  refine lv_iload_n hx hb dX3_init_10 rfl (lv_at hl 2 rfl) ?_
  obtain ⟨k5, gk5, hk5⟩ := wGt (cy := cy) X S2 (xe3.A h_o1).1 (xe3.A h_o1).2.1
  refine va_putF (D := D) (ci := 7) (v := .int x2) (ty := .int) (C := RX3) (T := TX3) (N := 6) hx hb hts hi_X3_init_X3 tyX3 tyX3_ok nmX3 hown hK hP hD hS k5 hk5 rfl 1 (by decide) (hts (.fieldLink RX3 15 "Hobhouse$Hob" "starts" "I") (by decide +kernel)) (fun _ h9 => h9) rfl hin rfl (by decide +kernel) (rfl) (rfl) (Nat.le_of_ble_eq_true rfl) dX3_init_11 (fun H locs hP2 hD2 hS => ?_)
  have e9 := wPuI (cy := cy) (j := 1) (v := x2) hD (xe3.A h_o1).1 (xe3.A h_o1).2.1 gk5 rfl
  obtain ⟨S6, hS6⟩ : ∃ z, S2.sI o1 1 x2 = z := ⟨_, rfl⟩
  have hP : va_P D vwCl (X ++ PL cy S6) H := by rw [← hS6, ← e9]; exact hP2
  have hD : va_D A (X ++ PL cy S6) := by rw [← hS6, ← e9]; exact hD2
  have xe7 : ext S2 S6 := by rw [← hS6]; exact ext.sI _ _ _ _
  have t8 : stp ([] : List (Nat × Nat)) [o1] (o1 :: R) S S6 := by rw [← hS6]; exact t4.Ir 1 x2 List.mem_cons_self (Or.inl List.mem_cons_self)
  refine lv_aload_n hx hb dX3_init_14 rfl (lv_at hl 0 rfl) ?_
  refine lv_iload_n hx hb dX3_init_15 rfl (lv_at hl 3 rfl) ?_
  obtain ⟨k9, gk9, hk9⟩ := wGt (cy := cy) X S6 (xe7.A (xe3.A h_o1)).1 (xe7.A (xe3.A h_o1)).2.1
  refine va_put (D := D) (ci := 7) (v := .int x3) (ty := .int) (C := RX3) (T := TX3) (N := 6) hx hb hts hi_X3_init_X3 tyX3 tyX3_ok nmX3 hown hK hP hD hS k9 hk9 rfl 3 (by decide) (hts (.fieldLink RX3 18 "Hobhouse$Hob" "diameter" "I") (by decide +kernel)) (fun _ h9 => h9) rfl (by decide +kernel) (rfl) (rfl) (Nat.le_of_ble_eq_true rfl) dX3_init_16 (fun H locs hP2 hD2 hS => ?_)
  have e9 := wPuI (cy := cy) (j := 3) (v := x3) hD (xe7.A (xe3.A h_o1)).1 (xe7.A (xe3.A h_o1)).2.1 gk9 rfl
  obtain ⟨S10, hS10⟩ : ∃ z, S6.sI o1 3 x3 = z := ⟨_, rfl⟩
  have hP : va_P D vwCl (X ++ PL cy S10) H := by rw [← hS10, ← e9]; exact hP2
  have hD : va_D A (X ++ PL cy S10) := by rw [← hS10, ← e9]; exact hD2
  have xe11 : ext S6 S10 := by rw [← hS10]; exact ext.sI _ _ _ _
  have t12 : stp ([] : List (Nat × Nat)) [o1] (o1 :: R) S S10 := by rw [← hS10]; exact t8.Ir 3 x3 List.mem_cons_self (Or.inl List.mem_cons_self)
  refine lv_aload_n hx hb dX3_init_19 rfl (lv_at hl 0 rfl) ?_
  refine lv_iload hx hb dX3_init_20 (lv_at hl 4 rfl) ?_
  have mqa13 : x4.toNatClampNeg ≤ 20 := clamp_le (by omega) (by omega)
  refine va_newa (atype := .int) hx hb (hts (.arrayClass .int) (by decide +kernel)) (ty := .int) rfl hK hP hD hS hA (N' := x4.toNatClampNeg) (a0 := (x4.toNatClampNeg, .inl (fun _ => 0))) (fun _ => rfl) (nneg_i (by omega)) (rfl) (Nat.le_trans (Nat.mul_le_mul_right _ mqa13) (by decide)) (Nat.le_of_ble_eq_true rfl) (Nat.le_trans (Nat.add_le_add_left mqa13 _) (Nat.le_of_ble_eq_true rfl)) dX3_init_22 (fun qa13 cqa13 H hK2 hP2 hD2 hS => ?_)
  obtain rfl : cqa13 = cy 2 := cls_int hK hK2
  have hqa13 : qa13 ∉ S10.L := nw_q hD2
  have e9 := wNw (cy := cy) (X := X) (S := S10) (a := qa13) (k := 28) (z := x4.toNatClampNeg) (f := fun _ => 0) (g := fun _ => none) hqa13 rfl
  obtain ⟨S14, hS14⟩ : ∃ z, S10.nw qa13 28 x4.toNatClampNeg (fun _ => 0) (fun _ => none) = z := ⟨_, rfl⟩
  have hP : va_P D vwCl (X ++ PL cy S14) H := by rw [← hS14, ← e9]; exact hP2
  have hD : va_D A (X ++ PL cy S14) := by rw [← hS14, ← e9]; exact hD2
  have xe15 : ext S10 S14 := by rw [← hS14]; exact ext.nw hqa13
  have t16 : stp ([] : List (Nat × Nat)) [o1] (o1 :: R) S S14 := by rw [← hS14]; exact t12.nwA hqa13 (by decide)
  refine W.widen (k := 1) (n := 20) (Nat.le_of_ble_eq_true rfl) (Nat.add_le_add_left mqa13 _) ?_
  have aqa13 : isA S14 qa13 28 := by rw [← hS14]; exact nw_A (Nat.lt_of_le_of_lt mqa13 (by decide))
  have nqa13 : S14.n qa13 = x4.toNatClampNeg := by rw [← hS14]; exact nw_n
  obtain ⟨k17, gk17, hk17⟩ := wGt (cy := cy) X S14 ((xe11.tr xe15).A (xe7.A (xe3.A h_o1))).1 ((xe11.tr xe15).A (xe7.A (xe3.A h_o1))).2.1
  refine va_putF (D := D) (ci := 7) (v := .ref qa13) (ty := (tyX3 2)) (C := RX3) (T := TX3) (N := 6) hx hb hts hi_X3_init_X3 tyX3 tyX3_ok nmX3 hown hK hP hD hS k17 hk17 rfl 2 (by decide) (hts (.fieldLink RX3 21 "Hobhouse$Hob" "worn" "[I") (by decide +kernel)) (fun _ h9 => h9) rfl hin rfl (by decide +kernel) (rfl) (rfl) (Nat.le_of_ble_eq_true rfl) dX3_init_24 (fun H locs hP2 hD2 hS => ?_)
  have e9 := wPuF (cy := cy) (j := 2) (v := (some qa13)) hD ((xe11.tr xe15).A (xe7.A (xe3.A h_o1))).1 ((xe11.tr xe15).A (xe7.A (xe3.A h_o1))).2.1 gk17 rfl
  obtain ⟨S18, hS18⟩ : ∃ z, S14.sF o1 2 (some qa13) = z := ⟨_, rfl⟩
  have hP : va_P D vwCl (X ++ PL cy S18) H := by rw [← hS18, ← e9]; exact hP2
  have hD : va_D A (X ++ PL cy S18) := by rw [← hS18, ← e9]; exact hD2
  have xe19 : ext S14 S18 := by rw [← hS18]; exact ext.sF (by rw [← hS14, nw_Fo hqa13 ((xe3.tr (xe7.tr xe11)).A h_o1).1]; rw [← hS10]; show S6.F o1 2 = none; rw [← hS6]; show S2.F o1 2 = none; rw [← hS2]; show S.F o1 2 = none; exact hF0 2)
  have t20 : stp ([] : List (Nat × Nat)) [o1] (o1 :: R) S S18 := by rw [← hS18]; exact t16.F 2 qa13 List.mem_cons_self (Or.inl List.mem_cons_self) (by rw [← hS14, nw_Fo hqa13 ((xe3.tr (xe7.tr xe11)).A h_o1).1]; rw [← hS10]; show S6.F o1 2 = none; rw [← hS6]; show S2.F o1 2 = none; rw [← hS2]; show S.F o1 2 = none; exact hF0 2)
  have F21 : S18.F o1 2 = some qa13 := by rw [← hS18]; exact sF_eq
  have oo : isA S18 o1 3 := (xe19.A ((xe11.tr xe15).A (xe7.A (xe3.A h_o1))))
  have I0 : S18.I o1 0 = x1 := (by rw [← hS18]; show S14.I o1 0 = _; rw [← hS14, nw_Io hqa13 ((xe3.tr (xe7.tr xe11)).A h_o1).1]; rw [← hS10, sI_I (by rintro ⟨e1, e2⟩; exact absurd e2 (by decide))]; rw [← hS6, sI_I (by rintro ⟨e1, e2⟩; exact absurd e2 (by decide))]; rw [← hS2, sI_eq])
  have I1 : S18.I o1 1 = x2 := (by rw [← hS18]; show S14.I o1 1 = _; rw [← hS14, nw_Io hqa13 ((xe3.tr (xe7.tr xe11)).A h_o1).1]; rw [← hS10, sI_I (by rintro ⟨e1, e2⟩; exact absurd e2 (by decide))]; rw [← hS6, sI_eq])
  have I3 : S18.I o1 3 = x3 := (by rw [← hS18]; show S14.I o1 3 = _; rw [← hS14, nw_Io hqa13 ((xe3.tr (xe7.tr xe11)).A h_o1).1]; rw [← hS10, sI_eq])
  have I4 : S18.I o1 4 = (0 : Int32) := (by rw [← hS18]; show S14.I o1 4 = _; rw [← hS14, nw_Io hqa13 ((xe3.tr (xe7.tr xe11)).A h_o1).1]; rw [← hS10, sI_I (by rintro ⟨e1, e2⟩; exact absurd e2 (by decide))]; rw [← hS6, sI_I (by rintro ⟨e1, e2⟩; exact absurd e2 (by decide))]; rw [← hS2, sI_I (by rintro ⟨e1, e2⟩; exact absurd e2 (by decide))]; exact hI0 4)
  have I5 : S18.I o1 5 = (0 : Int32) := (by rw [← hS18]; show S14.I o1 5 = _; rw [← hS14, nw_Io hqa13 ((xe3.tr (xe7.tr xe11)).A h_o1).1]; rw [← hS10, sI_I (by rintro ⟨e1, e2⟩; exact absurd e2 (by decide))]; rw [← hS6, sI_I (by rintro ⟨e1, e2⟩; exact absurd e2 (by decide))]; rw [← hS2, sI_I (by rintro ⟨e1, e2⟩; exact absurd e2 (by decide))]; exact hI0 5)
  have tt : stp ([] : List (Nat × Nat)) [o1] R S S18 := t20.un (okAt.of_3 oo.2.1 ⟨(by rw [f_of F21]; exact ⟨F21, (xe19.A aqa13), (by rw [(xe19.n aqa13).trans nqa13]; exact clamp_le (by omega) (by omega))⟩), (by rw [I5]; exact ⟨by decide, by decide⟩)⟩)
  refine W.widen (k := 1) (n := 20) (Nat.le_of_ble_eq_true rfl) (Nat.le_of_ble_eq_true rfl) ?_
  exact W.vret hx hb hr (fun t ht hW9 => ⟨⟨S18, rfl, ⟨tt, oo, I0, I1, I3, I4, I5⟩, wd_end hP hK hD ht hW9.alike⟩, hS.F ht⟩) hS.2.2 dX3_init_27 hlocks
def f_X3_wayIn (S : wPS) (o1 : Nat) : Int64 := f_X9_root ((((9 : Int64) * ((S.I o1 0).toInt64)) / (4 : Int64)) * (((S.I o1 3).toInt64) - (((9 : Int64) * ((S.I o1 0).toInt64)) / (4 : Int64))))
theorem hi_X3_wayIn_X3 : ∀ w ∈ u_ws RX3 TX3 6, w ∈ wsX3_wayIn := by decide +kernel
theorem hd_X3_wayIn : yX3_wayIn.cls = RX3 ∧ yX3_wayIn.cls ≠ "java/lang/invoke/MethodHandle" ∧ yX3_wayIn.cls ≠ "java/lang/invoke/VarHandle" ∧ (parseMethodDescriptor yX3_wayIn.desc).map (fun d => d.parameters.length) = some 0 := by decide +kernel
set_option maxHeartbeats 4000000 in
set_option maxRecDepth 100000 in
theorem c_X3_wayIn (l : Launch) {D : va_G} {cy : Nat → ClassId} {X : va_W} (S : wPS) (sz : Nat) (o1 : Nat) (h_o1 : isA S o1 3)  : Met l yX3_wayIn wsX3_wayIn ({ frames := 1, cells := 0, slots := 0, locals := 26 }) (va_Pc [.ref o1] (fun U => U.heap.size = sz ∧ WD D cy X (fun _ => True) S U ∧ NW U)) (va_Ql (fun r (_ : Unit) => r = f_X3_wayIn S o1) (fun _ t => WD D cy X (va_A (X ++ PL cy S) sz) S t) (va_A (X ++ PL cy S) sz)) 0 0 (va_A (X ++ PL cy S) sz) := by
  refine Met.ofW (cc := cX3_wayIn) (maxL := 3) (ret := (some .long)) (by decide) rfl ?_
  intro p e s m args below meth c s₁ B hml hv
  obtain ⟨rfl, hsz, ⟨hP, hK, hD0⟩, hN⟩ := hv
  have hx := B.exec
  have hb := B.bytes
  have hr := B.returns
  have hts := atoms_spec (ws := wsX3_wayIn) B.pre
  have hown : s.vm.findClass RX3 = some m.cls := findClass_of_methodNamed (x := yX3_wayIn) B.named
  have hlocks := B.notSynchronized
  subst hsz
  have hD := hD0.self (sz := s.heap.size)
  generalize hAe : va_A (X ++ PL cy S) s.heap.size = A at hD ⊢
  have hA : ∀ q : Nat, s.heap.size ≤ q → A q := fun q h => by rw [← hAe]; exact Or.inr h
  have hS : va_S A s.heap s.heap [] := va_S.rf
  have hl := lv_entry ([.ref o1]) (n := 3) (Nat.le_of_ble_eq_true rfl)
  rw [lg_entry_eq]
  generalize (lg_sl ([.ref o1]) ++ List.replicate (3 - (lg_sl ([.ref o1])).length) Slot.unset).toArray = ls at hl ⊢
  have hl : lv_has ls 3 [(0, .ref o1)] := hl
  refine lv_ldc2 (own := RX3) (v := 9) hx hb hown (hts (.constantLong RX3 25 (9)) (by decide +kernel)) dX3_wayIn_0 ?_
  refine lv_aload_n hx hb dX3_wayIn_3 rfl (lv_at hl 0 rfl) ?_
  obtain ⟨k1, gk1, hk1⟩ := wGt (cy := cy) X S h_o1.1 h_o1.2.1
  refine va_get (D := D) (ci := 7) (v := .int (S.I o1 0)) (C := RX3) (T := TX3) (N := 6) hx hb hts hi_X3_wayIn_X3 hown hK hP k1 hk1 rfl 0 (by decide) (hts (.fieldLink RX3 9 "Hobhouse$Hob" "module" "I") (by decide +kernel)) (fun _ h9 => h9) rfl dX3_wayIn_4 ?_
  refine lv_i2l hx hb dX3_wayIn_7 rfl ?_
  refine lv_lmul hx hb dX3_wayIn_8 ?_
  refine lv_ldc2 (own := RX3) (v := 4) hx hb hown (hts (.constantLong RX3 27 (4)) (by decide +kernel)) dX3_wayIn_9 ?_
  refine lv_ldiv hx hb dX3_wayIn_12 (by decide) ?_
  refine lv_lstore_n (lv' := [(1, .long (((9 : Int64) * ((S.I o1 0).toInt64)) / (4 : Int64))), (0, .ref o1)]) hx hb dX3_wayIn_13 rfl hl (by decide) rfl (fun ls hl => ?_)
  refine lv_lload_n hx hb dX3_wayIn_14 rfl (lv_at hl 0 rfl) ?_
  refine lv_aload_n hx hb dX3_wayIn_15 rfl (lv_at hl 1 rfl) ?_
  obtain ⟨k2, gk2, hk2⟩ := wGt (cy := cy) X S h_o1.1 h_o1.2.1
  refine va_get (D := D) (ci := 7) (v := .int (S.I o1 3)) (C := RX3) (T := TX3) (N := 6) hx hb hts hi_X3_wayIn_X3 hown hK hP k2 hk2 rfl 3 (by decide) (hts (.fieldLink RX3 18 "Hobhouse$Hob" "diameter" "I") (by decide +kernel)) (fun _ h9 => h9) rfl dX3_wayIn_16 ?_
  refine lv_i2l hx hb dX3_wayIn_19 rfl ?_
  refine lv_lload_n hx hb dX3_wayIn_20 rfl (lv_at hl 0 rfl) ?_
  refine lv_lsub hx hb dX3_wayIn_21 ?_
  refine lv_lmul hx hb dX3_wayIn_22 ?_
  have hFc := free_all hD hS hA
  refine va_calll (va_runSN (As := [.long ((((9 : Int64) * ((S.I o1 0).toInt64)) / (4 : Int64)) * (((S.I o1 3).toInt64) - (((9 : Int64) * ((S.I o1 0).toInt64)) / (4 : Int64))))]) (rest := []) ⟨hx, hb, hml, hown, hts⟩ (c_X9_root l (cy := cy) (X := X) (D := D) S _ ((((9 : Int64) * ((S.I o1 0).toInt64)) / (4 : Int64)) * (((S.I o1 3).toInt64) - (((9 : Int64) * ((S.I o1 0).toInt64)) / (4 : Int64))))) ⟨va_cnB 1 hts gX3_wayIn_X9_root_n29 rfl rfl rfl (hN (.methodLinkNest RX3 29 yX9_root RX9) (by decide +kernel)) (hts (.initialized RX9) (by decide +kernel)) (by decide +kernel) ⟨Nat.le_of_ble_eq_true rfl, Nat.le_of_ble_eq_true rfl⟩, hts (.static yX9_root) (by decide +kernel), trivial⟩ (pS hP hK hD hN) rfl rfl hl.1 rfl (lv_room (Nat.le_of_ble_eq_true rfl)) dX3_wayIn_23 ⟨(Nat.zero_le _), (Nat.zero_le _)⟩) hS (fun q _ h => hFc q h) hFc (fun r3 u t H1 locs ht hvm hw hB hz1 hk1 hS => ?_)
  have c4 := hw
  obtain ⟨hP, hD⟩ := wd_post hFc ht hB
  generalize H1 = H at hP hS ⊢
  obtain rfl : f_X9_root ((((9 : Int64) * ((S.I o1 0).toInt64)) / (4 : Int64)) * (((S.I o1 3).toInt64) - (((9 : Int64) * ((S.I o1 0).toInt64)) / (4 : Int64)))) = r3 := c4.symm
  refine W.widen (k := 0) (n := 0) (Nat.le_of_ble_eq_true rfl) (Nat.le_of_ble_eq_true rfl) ?_
  exact W.lret (v := f_X9_root ((((9 : Int64) * ((S.I o1 0).toInt64)) / (4 : Int64)) * (((S.I o1 3).toInt64) - (((9 : Int64) * ((S.I o1 0).toInt64)) / (4 : Int64))))) hx hb hr (fun t ht hW9 => ⟨⟨f_X9_root ((((9 : Int64) * ((S.I o1 0).toInt64)) / (4 : Int64)) * (((S.I o1 3).toInt64) - (((9 : Int64) * ((S.I o1 0).toInt64)) / (4 : Int64)))), (), rfl, (by show (f_X9_root ((((9 : Int64) * ((S.I o1 0).toInt64)) / (4 : Int64)) * (((S.I o1 3).toInt64) - (((9 : Int64) * ((S.I o1 0).toInt64)) / (4 : Int64))))) = f_X3_wayIn S o1; unfold f_X3_wayIn; rfl), wd_end hP hK hD ht hW9.alike⟩, hS.F ht⟩) hS.2.2 dX3_wayIn_26 hlocks
def f_X3_isBlunt (S : wPS) (o1 : Nat) : Int32 := if (nI (S.n (S.f o1 2))) ≤ (S.I o1 5) then (1 : Int32) else if (S.i (S.f o1 2) (S.I o1 5).toNatClampNeg) < (200 : Int32) then (0 : Int32) else (1 : Int32)
theorem f_X3_isBlunt_b (S : wPS) (o1 : Nat) : narrow .boolean (.int (f_X3_isBlunt S o1)) = .int (f_X3_isBlunt S o1) := by
  unfold f_X3_isBlunt; (repeat' split) <;> rfl
theorem hi_X3_isBlunt_X3 : ∀ w ∈ u_ws RX3 TX3 6, w ∈ wsX3_isBlunt := by decide +kernel
theorem hd_X3_isBlunt : yX3_isBlunt.cls = RX3 ∧ yX3_isBlunt.cls ≠ "java/lang/invoke/MethodHandle" ∧ yX3_isBlunt.cls ≠ "java/lang/invoke/VarHandle" ∧ (parseMethodDescriptor yX3_isBlunt.desc).map (fun d => d.parameters.length) = some 0 := by decide +kernel
set_option maxHeartbeats 4000000 in
set_option maxRecDepth 100000 in
theorem c_X3_isBlunt (l : Launch) {D : va_G} {cy : Nat → ClassId} {X : va_W} (S : wPS) (sz : Nat) (o1 : Nat) (h_o1 : isA S o1 3) (hW : wtB S [])  : Met l yX3_isBlunt wsX3_isBlunt ({ frames := 0, cells := 0, slots := 0, locals := 0 }) (va_Pc [.ref o1] (fun U => U.heap.size = sz ∧ WD D cy X (fun _ => True) S U ∧ NW U)) (va_Qi (fun r (_ : Unit) => r = f_X3_isBlunt S o1) (fun _ t => WD D cy X (va_A (X ++ PL cy S) sz) S t) (va_A (X ++ PL cy S) sz)) 0 0 (va_A (X ++ PL cy S) sz) := by
  refine Met.ofW (cc := cX3_isBlunt) (maxL := 1) (ret := (some .boolean)) (by decide) rfl ?_
  intro p e s m args below meth c s₁ B hml hv
  obtain ⟨rfl, hsz, ⟨hP, hK, hD0⟩, hN⟩ := hv
  have hx := B.exec
  have hb := B.bytes
  have hr := B.returns
  have hts := atoms_spec (ws := wsX3_isBlunt) B.pre
  have hown : s.vm.findClass RX3 = some m.cls := findClass_of_methodNamed (x := yX3_isBlunt) B.named
  have hlocks := B.notSynchronized
  subst hsz
  have hD := hD0.self (sz := s.heap.size)
  generalize hAe : va_A (X ++ PL cy S) s.heap.size = A at hD ⊢
  have hA : ∀ q : Nat, s.heap.size ≤ q → A q := fun q h => by rw [← hAe]; exact Or.inr h
  have hS : va_S A s.heap s.heap [] := va_S.rf
  have hl := lv_entry ([.ref o1]) (n := 1) (Nat.le_of_ble_eq_true rfl)
  rw [lg_entry_eq]
  generalize (lg_sl ([.ref o1]) ++ List.replicate (1 - (lg_sl ([.ref o1])).length) Slot.unset).toArray = ls at hl ⊢
  have hl : lv_has ls 1 [(0, .ref o1)] := hl
  refine lv_aload_n hx hb dX3_isBlunt_0 rfl (lv_at hl 0 rfl) ?_
  obtain ⟨k1, gk1, hk1⟩ := wGt (cy := cy) X S h_o1.1 h_o1.2.1
  have i2 := ((hW.at h_o1 List.not_mem_nil).to_3 h_o1.2.1).R5
  refine va_get (D := D) (ci := 7) (v := .int (S.I o1 5)) (C := RX3) (T := TX3) (N := 6) hx hb hts hi_X3_isBlunt_X3 hown hK hP k1 hk1 rfl 5 (by decide) (hts (.fieldLink RX3 49 "Hobhouse$Hob" "next" "I") (by decide +kernel)) (fun _ h9 => h9) rfl dX3_isBlunt_1 ?_
  refine lv_aload_n hx hb dX3_isBlunt_4 rfl (lv_at hl 0 rfl) ?_
  have F3 := ((hW.at h_o1 List.not_mem_nil).to_3 h_o1.2.1).F2
  obtain ⟨k4, gk4, hk4⟩ := wGt (cy := cy) X S h_o1.1 h_o1.2.1
  simp only [kE, F3.1] at hk4
  refine va_get (D := D) (ci := 7) (v := .ref (S.f o1 2)) (C := RX3) (T := TX3) (N := 6) hx hb hts hi_X3_isBlunt_X3 hown hK hP k4 hk4 rfl 2 (by decide) (hts (.fieldLink RX3 21 "Hobhouse$Hob" "worn" "[I") (by decide +kernel)) (fun _ h9 => h9) rfl dX3_isBlunt_5 ?_
  obtain ⟨k5, gk5, hk5⟩ := wGt (cy := cy) X S F3.2.1.1 F3.2.1.2.1
  have i6 : (nI (S.n (S.f o1 2))).toInt = ((S.n (S.f o1 2) : Nat) : Int) := nI_toInt F3.2.1.2.2
  have i7 := F3.2.1.2.2
  have i8 := F3.2.2
  refine va_alen (D := D) (cl := vwCl) (tys := tyL cy) hx hb hK hP k5 2 hk5 rfl (v := nI (S.n (S.f o1 2))) rfl dX3_isBlunt_8 ?_
  refine lv_icmp_ge (tgt := 27) hx hb dX3_isBlunt_9 (by decide) (fun c9 => ?_) (fun c9 => ?_)
  · have c9i : (nI (S.n (S.f o1 2))).toInt ≤ (S.I o1 5).toInt := le_v rfl rfl c9
    refine lv_iconst (v := 1) hx hb dX3_isBlunt_27 (by decide) ?_
    refine lv_goto (tgt := 32) hx hb dX3_isBlunt_28 (by decide) ?_
    refine W.widen (k := 0) (n := 0) (Nat.le_of_ble_eq_true rfl) (Nat.le_of_ble_eq_true rfl) ?_
    exact W.zret (v := (1 : Int32)) hx hb hr (by rfl) (fun t ht hW9 => ⟨⟨(1 : Int32), (), rfl, (by show (1 : Int32) = f_X3_isBlunt S o1; unfold f_X3_isBlunt; rw [if_pos c9]), wd_end hP hK hD ht hW9.alike⟩, hS.F ht⟩) hS.2.2 dX3_isBlunt_32 hlocks
  · have c9i : (S.I o1 5).toInt < (nI (S.n (S.f o1 2))).toInt := nle_v rfl rfl c9
    refine lv_aload_n hx hb dX3_isBlunt_12 rfl (lv_at hl 0 rfl) ?_
    obtain ⟨k10, gk10, hk10⟩ := wGt (cy := cy) X S h_o1.1 h_o1.2.1
    simp only [kE, F3.1] at hk10
    refine va_get (D := D) (ci := 7) (v := .ref (S.f o1 2)) (C := RX3) (T := TX3) (N := 6) hx hb hts hi_X3_isBlunt_X3 hown hK hP k10 hk10 rfl 2 (by decide) (hts (.fieldLink RX3 21 "Hobhouse$Hob" "worn" "[I") (by decide +kernel)) (fun _ h9 => h9) rfl dX3_isBlunt_13 ?_
    refine lv_aload_n hx hb dX3_isBlunt_16 rfl (lv_at hl 0 rfl) ?_
    obtain ⟨k11, gk11, hk11⟩ := wGt (cy := cy) X S h_o1.1 h_o1.2.1
    refine va_get (D := D) (ci := 7) (v := .int (S.I o1 5)) (C := RX3) (T := TX3) (N := 6) hx hb hts hi_X3_isBlunt_X3 hown hK hP k11 hk11 rfl 5 (by decide) (hts (.fieldLink RX3 49 "Hobhouse$Hob" "next" "I") (by decide +kernel)) (fun _ h9 => h9) rfl dX3_isBlunt_17 ?_
    have i12 := F3.2.2
    obtain ⟨k13, gk13, hk13⟩ := wGt (cy := cy) X S F3.2.1.1 F3.2.1.2.1
    refine va_iald hx hb hK hP k13 2 hk13 rfl (inb (m := S.n (S.f o1 2)) rfl (by omega) (by omega)) dX3_isBlunt_20 ?_
    refine lv_sipush (v := 200) hx hb dX3_isBlunt_21 (by decide +kernel) ?_
    refine lv_icmp_lt (tgt := 31) hx hb dX3_isBlunt_24 (by decide) (fun c14 => ?_) (fun c14 => ?_)
    · have c14i : (S.i (S.f o1 2) (S.I o1 5).toNatClampNeg).toInt < 200 := lt_v rfl rfl c14
      refine lv_iconst (v := 0) hx hb dX3_isBlunt_31 (by decide) ?_
      refine W.widen (k := 0) (n := 0) (Nat.le_of_ble_eq_true rfl) (Nat.le_of_ble_eq_true rfl) ?_
      exact W.zret (v := (0 : Int32)) hx hb hr (by rfl) (fun t ht hW9 => ⟨⟨(0 : Int32), (), rfl, (by show (0 : Int32) = f_X3_isBlunt S o1; unfold f_X3_isBlunt; rw [if_neg c9, if_pos c14]), wd_end hP hK hD ht hW9.alike⟩, hS.F ht⟩) hS.2.2 dX3_isBlunt_32 hlocks
    · have c14i : 200 ≤ (S.i (S.f o1 2) (S.I o1 5).toNatClampNeg).toInt := nlt_v rfl rfl c14
      refine lv_iconst (v := 1) hx hb dX3_isBlunt_27 (by decide) ?_
      refine lv_goto (tgt := 32) hx hb dX3_isBlunt_28 (by decide) ?_
      refine W.widen (k := 0) (n := 0) (Nat.le_of_ble_eq_true rfl) (Nat.le_of_ble_eq_true rfl) ?_
      exact W.zret (v := (1 : Int32)) hx hb hr (by rfl) (fun t ht hW9 => ⟨⟨(1 : Int32), (), rfl, (by show (1 : Int32) = f_X3_isBlunt S o1; unfold f_X3_isBlunt; rw [if_neg c9, if_neg c14]), wd_end hP hK hD ht hW9.alike⟩, hS.F ht⟩) hS.2.2 dX3_isBlunt_32 hlocks
def f_X3_fits (S : wPS) (o1 : Nat) (o2 : Nat) : Int32 := if (S.I o2 2) = (S.I o1 0) then if (S.I o2 1) < (S.I o1 1) then (0 : Int32) else if (S.I o1 1) = (1 : Int32) then if (S.I o2 8) = (-1 : Int32) then (1 : Int32) else if (0 : Int32) < (lg_cmp (f_X3_wayIn S o1) ((S.I o2 8).toInt64)) then (0 : Int32) else (1 : Int32) else if (S.I o2 3) < (0 : Int32) then (0 : Int32) else if (S.I o2 8) = (-1 : Int32) then (1 : Int32) else if (0 : Int32) < (lg_cmp (f_X3_wayIn S o1) ((S.I o2 8).toInt64)) then (0 : Int32) else (1 : Int32) else (0 : Int32)
theorem f_X3_fits_b (S : wPS) (o1 : Nat) (o2 : Nat) : narrow .boolean (.int (f_X3_fits S o1 o2)) = .int (f_X3_fits S o1 o2) := by
  unfold f_X3_fits; (repeat' split) <;> rfl
theorem hi_X3_fits_X2 : ∀ w ∈ u_ws RX2 TX2 20, w ∈ wsX3_fits := by decide +kernel
theorem hi_X3_fits_X3 : ∀ w ∈ u_ws RX3 TX3 6, w ∈ wsX3_fits := by decide +kernel
theorem hd_X3_fits : yX3_fits.cls = RX3 ∧ yX3_fits.cls ≠ "java/lang/invoke/MethodHandle" ∧ yX3_fits.cls ≠ "java/lang/invoke/VarHandle" ∧ (parseMethodDescriptor yX3_fits.desc).map (fun d => d.parameters.length) = some 1 := by decide +kernel
set_option maxHeartbeats 4000000 in
set_option maxRecDepth 100000 in
theorem c_X3_fits (l : Launch) {D : va_G} {cy : Nat → ClassId} {X : va_W} (S : wPS) (sz : Nat) (o1 : Nat) (h_o1 : isA S o1 3) (o2 : Nat) (h_o2 : isA S o2 2)  : Met l yX3_fits wsX3_fits ({ frames := 2, cells := 0, slots := 0, locals := 48 }) (va_Pc [.ref o1, .ref o2] (fun U => U.heap.size = sz ∧ WD D cy X (fun _ => True) S U ∧ NW U)) (va_Qi (fun r (_ : Unit) => r = f_X3_fits S o1 o2) (fun _ t => WD D cy X (va_A (X ++ PL cy S) sz) S t) (va_A (X ++ PL cy S) sz)) 0 0 (va_A (X ++ PL cy S) sz) := by
  refine Met.ofW (cc := cX3_fits) (maxL := 2) (ret := (some .boolean)) (by decide) rfl ?_
  intro p e s m args below meth c s₁ B hml hv
  obtain ⟨rfl, hsz, ⟨hP, hK, hD0⟩, hN⟩ := hv
  have hx := B.exec
  have hb := B.bytes
  have hr := B.returns
  have hts := atoms_spec (ws := wsX3_fits) B.pre
  have hown : s.vm.findClass RX3 = some m.cls := findClass_of_methodNamed (x := yX3_fits) B.named
  have hlocks := B.notSynchronized
  subst hsz
  have hD := hD0.self (sz := s.heap.size)
  generalize hAe : va_A (X ++ PL cy S) s.heap.size = A at hD ⊢
  have hA : ∀ q : Nat, s.heap.size ≤ q → A q := fun q h => by rw [← hAe]; exact Or.inr h
  have hS : va_S A s.heap s.heap [] := va_S.rf
  have hl := lv_entry ([.ref o1, .ref o2]) (n := 2) (Nat.le_of_ble_eq_true rfl)
  rw [lg_entry_eq]
  generalize (lg_sl ([.ref o1, .ref o2]) ++ List.replicate (2 - (lg_sl ([.ref o1, .ref o2])).length) Slot.unset).toArray = ls at hl ⊢
  have hl : lv_has ls 2 [(0, .ref o1), (1, .ref o2)] := hl
  refine lv_aload_n hx hb dX3_fits_0 rfl (lv_at hl 1 rfl) ?_
  obtain ⟨k1, gk1, hk1⟩ := wGt (cy := cy) X S h_o2.1 h_o2.2.1
  refine va_get (D := D) (ci := 6) (v := .int (S.I o2 2)) (C := RX2) (T := TX2) (N := 20) hx hb hts hi_X3_fits_X2 hown hK hP k1 hk1 rfl 2 (by decide) (hts (.fieldLink RX3 33 "Hobhouse$Gear" "module" "I") (by decide +kernel)) (fun _ h9 => h9) rfl dX3_fits_1 ?_
  refine lv_aload_n hx hb dX3_fits_4 rfl (lv_at hl 0 rfl) ?_
  obtain ⟨k2, gk2, hk2⟩ := wGt (cy := cy) X S h_o1.1 h_o1.2.1
  refine va_get (D := D) (ci := 7) (v := .int (S.I o1 0)) (C := RX3) (T := TX3) (N := 6) hx hb hts hi_X3_fits_X3 hown hK hP k2 hk2 rfl 0 (by decide) (hts (.fieldLink RX3 9 "Hobhouse$Hob" "module" "I") (by decide +kernel)) (fun _ h9 => h9) rfl dX3_fits_5 ?_
  refine lv_icmp_ne (tgt := 62) hx hb dX3_fits_8 (by decide) (fun c3 => ?_) (fun c3 => ?_)
  · have c3i : ¬ (S.I o2 2).toInt = (S.I o1 0).toInt := neq_v rfl rfl c3
    refine lv_iconst (v := 0) hx hb dX3_fits_62 (by decide) ?_
    refine W.widen (k := 0) (n := 0) (Nat.le_of_ble_eq_true rfl) (Nat.le_of_ble_eq_true rfl) ?_
    exact W.zret (v := (0 : Int32)) hx hb hr (by rfl) (fun t ht hW9 => ⟨⟨(0 : Int32), (), rfl, (by show (0 : Int32) = f_X3_fits S o1 o2; unfold f_X3_fits; rw [if_neg c3]), wd_end hP hK hD ht hW9.alike⟩, hS.F ht⟩) hS.2.2 dX3_fits_63 hlocks
  · have c3i : (S.I o2 2).toInt = (S.I o1 0).toInt := eq_v rfl rfl c3
    refine lv_aload_n hx hb dX3_fits_11 rfl (lv_at hl 1 rfl) ?_
    obtain ⟨k4, gk4, hk4⟩ := wGt (cy := cy) X S h_o2.1 h_o2.2.1
    refine va_get (D := D) (ci := 6) (v := .int (S.I o2 1)) (C := RX2) (T := TX2) (N := 20) hx hb hts hi_X3_fits_X2 hown hK hP k4 hk4 rfl 1 (by decide) (hts (.fieldLink RX3 36 "Hobhouse$Gear" "teeth" "I") (by decide +kernel)) (fun _ h9 => h9) rfl dX3_fits_12 ?_
    refine lv_aload_n hx hb dX3_fits_15 rfl (lv_at hl 0 rfl) ?_
    obtain ⟨k5, gk5, hk5⟩ := wGt (cy := cy) X S h_o1.1 h_o1.2.1
    refine va_get (D := D) (ci := 7) (v := .int (S.I o1 1)) (C := RX3) (T := TX3) (N := 6) hx hb hts hi_X3_fits_X3 hown hK hP k5 hk5 rfl 1 (by decide) (hts (.fieldLink RX3 15 "Hobhouse$Hob" "starts" "I") (by decide +kernel)) (fun _ h9 => h9) rfl dX3_fits_16 ?_
    refine lv_icmp_lt (tgt := 62) hx hb dX3_fits_19 (by decide) (fun c6 => ?_) (fun c6 => ?_)
    · have c6i : (S.I o2 1).toInt < (S.I o1 1).toInt := lt_v rfl rfl c6
      refine lv_iconst (v := 0) hx hb dX3_fits_62 (by decide) ?_
      refine W.widen (k := 0) (n := 0) (Nat.le_of_ble_eq_true rfl) (Nat.le_of_ble_eq_true rfl) ?_
      exact W.zret (v := (0 : Int32)) hx hb hr (by rfl) (fun t ht hW9 => ⟨⟨(0 : Int32), (), rfl, (by show (0 : Int32) = f_X3_fits S o1 o2; unfold f_X3_fits; rw [if_pos c3, if_pos c6]), wd_end hP hK hD ht hW9.alike⟩, hS.F ht⟩) hS.2.2 dX3_fits_63 hlocks
    · have c6i : (S.I o1 1).toInt ≤ (S.I o2 1).toInt := nlt_v rfl rfl c6
      refine lv_aload_n hx hb dX3_fits_22 rfl (lv_at hl 0 rfl) ?_
      obtain ⟨k7, gk7, hk7⟩ := wGt (cy := cy) X S h_o1.1 h_o1.2.1
      refine va_get (D := D) (ci := 7) (v := .int (S.I o1 1)) (C := RX3) (T := TX3) (N := 6) hx hb hts hi_X3_fits_X3 hown hK hP k7 hk7 rfl 1 (by decide) (hts (.fieldLink RX3 15 "Hobhouse$Hob" "starts" "I") (by decide +kernel)) (fun _ h9 => h9) rfl dX3_fits_23 ?_
      refine lv_iconst (v := 1) hx hb dX3_fits_26 (by decide) ?_
      refine lv_icmp_eq (tgt := 37) hx hb dX3_fits_27 (by decide) (fun c8 => ?_) (fun c8 => ?_)
      · have c8i : (S.I o1 1).toInt = 1 := eq_v rfl rfl c8
        refine lv_aload_n hx hb dX3_fits_37 rfl (lv_at hl 1 rfl) ?_
        obtain ⟨k9, gk9, hk9⟩ := wGt (cy := cy) X S h_o2.1 h_o2.2.1
        refine va_get (D := D) (ci := 6) (v := .int (S.I o2 8)) (C := RX2) (T := TX2) (N := 20) hx hb hts hi_X3_fits_X2 hown hK hP k9 hk9 rfl 8 (by decide) (hts (.fieldLink RX3 42 "Hobhouse$Gear" "room" "I") (by decide +kernel)) (fun _ h9 => h9) rfl dX3_fits_38 ?_
        refine lv_iconst (v := -1) hx hb dX3_fits_41 (by decide) ?_
        refine lv_icmp_eq (tgt := 58) hx hb dX3_fits_42 (by decide) (fun c10 => ?_) (fun c10 => ?_)
        · have c10i : (S.I o2 8).toInt = -1 := eq_v rfl rfl c10
          refine lv_iconst (v := 1) hx hb dX3_fits_58 (by decide) ?_
          refine lv_goto (tgt := 63) hx hb dX3_fits_59 (by decide) ?_
          refine W.widen (k := 0) (n := 0) (Nat.le_of_ble_eq_true rfl) (Nat.le_of_ble_eq_true rfl) ?_
          exact W.zret (v := (1 : Int32)) hx hb hr (by rfl) (fun t ht hW9 => ⟨⟨(1 : Int32), (), rfl, (by show (1 : Int32) = f_X3_fits S o1 o2; unfold f_X3_fits; rw [if_pos c3, if_neg c6, if_pos c8, if_pos c10]), wd_end hP hK hD ht hW9.alike⟩, hS.F ht⟩) hS.2.2 dX3_fits_63 hlocks
        · have c10i : ¬ (S.I o2 8).toInt = -1 := neq_v rfl rfl c10
          refine lv_aload_n hx hb dX3_fits_45 rfl (lv_at hl 0 rfl) ?_
          have hFc := free_all hD hS hA
          obtain ⟨k11, gk11, hk11⟩ := wGt (cy := cy) X S h_o1.1 h_o1.2.1
          refine va_calll (va_runV (As := []) (rest := []) ⟨hx, hb, hml, hown, hts⟩ (c_X3_wayIn l (cy := cy) (X := X) (D := D) S _ o1 h_o1) (cwV 0 hts gX3_fits_X3_wayIn rfl rfl rfl hd_X3_wayIn ⟨Nat.le_of_ble_eq_true rfl, Nat.le_of_ble_eq_true rfl⟩) (pV (va_recv hK hP (q := (RX3, TX3, 6)) (ci := 7) (q0 := k11) rfl hk11) hP hK hD hN) rfl rfl hl.1 rfl (lv_room (Nat.le_of_ble_eq_true rfl)) dX3_fits_46 ⟨(Nat.zero_le _), (Nat.zero_le _)⟩) hS (fun q _ h => hFc q h) hFc (fun r12 u t H1 locs ht hvm hw hB hz1 hk1 hS => ?_)
          have c13 := hw
          obtain ⟨hP, hD⟩ := wd_post hFc ht hB
          generalize H1 = H at hP hS ⊢
          obtain rfl : f_X3_wayIn S o1 = r12 := c13.symm
          refine lv_aload_n hx hb dX3_fits_49 rfl (lv_at hl 1 rfl) ?_
          obtain ⟨k14, gk14, hk14⟩ := wGt (cy := cy) X S h_o2.1 h_o2.2.1
          refine va_get (D := D) (ci := 6) (v := .int (S.I o2 8)) (C := RX2) (T := TX2) (N := 20) hx hb hts hi_X3_fits_X2 hown hK hP k14 hk14 rfl 8 (by decide) (hts (.fieldLink RX3 42 "Hobhouse$Gear" "room" "I") (by decide +kernel)) (fun _ h9 => h9) rfl dX3_fits_50 ?_
          refine lv_i2l hx hb dX3_fits_53 rfl ?_
          refine W.lcmp hx hb dX3_fits_54 ?_
          refine lv_if_gt (tgt := 62) hx hb dX3_fits_55 (by decide) (fun c15 => ?_) (fun c15 => ?_)
          · have c15i := lc_gt c15
            have i16 := i64_i (S.I o2 8)
            refine lv_iconst (v := 0) hx hb dX3_fits_62 (by decide) ?_
            refine W.widen (k := 0) (n := 0) (Nat.le_of_ble_eq_true rfl) (Nat.le_of_ble_eq_true rfl) ?_
            exact W.zret (v := (0 : Int32)) hx hb hr (by rfl) (fun t ht hW9 => ⟨⟨(0 : Int32), (), rfl, (by show (0 : Int32) = f_X3_fits S o1 o2; unfold f_X3_fits; rw [if_pos c3, if_neg c6, if_pos c8, if_neg c10, if_pos c15]), wd_end hP hK hD ht hW9.alike⟩, hS.F ht⟩) hS.2.2 dX3_fits_63 hlocks
          · have c15i := lc_ngt c15
            have i17 := i64_i (S.I o2 8)
            refine lv_iconst (v := 1) hx hb dX3_fits_58 (by decide) ?_
            refine lv_goto (tgt := 63) hx hb dX3_fits_59 (by decide) ?_
            refine W.widen (k := 0) (n := 0) (Nat.le_of_ble_eq_true rfl) (Nat.le_of_ble_eq_true rfl) ?_
            exact W.zret (v := (1 : Int32)) hx hb hr (by rfl) (fun t ht hW9 => ⟨⟨(1 : Int32), (), rfl, (by show (1 : Int32) = f_X3_fits S o1 o2; unfold f_X3_fits; rw [if_pos c3, if_neg c6, if_pos c8, if_neg c10, if_neg c15]), wd_end hP hK hD ht hW9.alike⟩, hS.F ht⟩) hS.2.2 dX3_fits_63 hlocks
      · have c8i : ¬ (S.I o1 1).toInt = 1 := neq_v rfl rfl c8
        refine lv_aload_n hx hb dX3_fits_30 rfl (lv_at hl 1 rfl) ?_
        obtain ⟨k18, gk18, hk18⟩ := wGt (cy := cy) X S h_o2.1 h_o2.2.1
        refine va_get (D := D) (ci := 6) (v := .int (S.I o2 3)) (C := RX2) (T := TX2) (N := 20) hx hb hts hi_X3_fits_X2 hown hK hP k18 hk18 rfl 3 (by decide) (hts (.fieldLink RX3 39 "Hobhouse$Gear" "helix" "I") (by decide +kernel)) (fun _ h9 => h9) rfl dX3_fits_31 ?_
        refine lv_if_lt (tgt := 62) hx hb dX3_fits_34 (by decide) (fun c19 => ?_) (fun c19 => ?_)
        · have c19i : (S.I o2 3).toInt < 0 := lt_v rfl rfl c19
          refine lv_iconst (v := 0) hx hb dX3_fits_62 (by decide) ?_
          refine W.widen (k := 0) (n := 0) (Nat.le_of_ble_eq_true rfl) (Nat.le_of_ble_eq_true rfl) ?_
          exact W.zret (v := (0 : Int32)) hx hb hr (by rfl) (fun t ht hW9 => ⟨⟨(0 : Int32), (), rfl, (by show (0 : Int32) = f_X3_fits S o1 o2; unfold f_X3_fits; rw [if_pos c3, if_neg c6, if_neg c8, if_pos c19]), wd_end hP hK hD ht hW9.alike⟩, hS.F ht⟩) hS.2.2 dX3_fits_63 hlocks
        · have c19i : 0 ≤ (S.I o2 3).toInt := nlt_v rfl rfl c19
          refine lv_aload_n hx hb dX3_fits_37 rfl (lv_at hl 1 rfl) ?_
          obtain ⟨k20, gk20, hk20⟩ := wGt (cy := cy) X S h_o2.1 h_o2.2.1
          refine va_get (D := D) (ci := 6) (v := .int (S.I o2 8)) (C := RX2) (T := TX2) (N := 20) hx hb hts hi_X3_fits_X2 hown hK hP k20 hk20 rfl 8 (by decide) (hts (.fieldLink RX3 42 "Hobhouse$Gear" "room" "I") (by decide +kernel)) (fun _ h9 => h9) rfl dX3_fits_38 ?_
          refine lv_iconst (v := -1) hx hb dX3_fits_41 (by decide) ?_
          refine lv_icmp_eq (tgt := 58) hx hb dX3_fits_42 (by decide) (fun c21 => ?_) (fun c21 => ?_)
          · have c21i : (S.I o2 8).toInt = -1 := eq_v rfl rfl c21
            refine lv_iconst (v := 1) hx hb dX3_fits_58 (by decide) ?_
            refine lv_goto (tgt := 63) hx hb dX3_fits_59 (by decide) ?_
            refine W.widen (k := 0) (n := 0) (Nat.le_of_ble_eq_true rfl) (Nat.le_of_ble_eq_true rfl) ?_
            exact W.zret (v := (1 : Int32)) hx hb hr (by rfl) (fun t ht hW9 => ⟨⟨(1 : Int32), (), rfl, (by show (1 : Int32) = f_X3_fits S o1 o2; unfold f_X3_fits; rw [if_pos c3, if_neg c6, if_neg c8, if_neg c19, if_pos c21]), wd_end hP hK hD ht hW9.alike⟩, hS.F ht⟩) hS.2.2 dX3_fits_63 hlocks
          · have c21i : ¬ (S.I o2 8).toInt = -1 := neq_v rfl rfl c21
            refine lv_aload_n hx hb dX3_fits_45 rfl (lv_at hl 0 rfl) ?_
            have hFc := free_all hD hS hA
            obtain ⟨k22, gk22, hk22⟩ := wGt (cy := cy) X S h_o1.1 h_o1.2.1
            refine va_calll (va_runV (As := []) (rest := []) ⟨hx, hb, hml, hown, hts⟩ (c_X3_wayIn l (cy := cy) (X := X) (D := D) S _ o1 h_o1) (cwV 0 hts gX3_fits_X3_wayIn rfl rfl rfl hd_X3_wayIn ⟨Nat.le_of_ble_eq_true rfl, Nat.le_of_ble_eq_true rfl⟩) (pV (va_recv hK hP (q := (RX3, TX3, 6)) (ci := 7) (q0 := k22) rfl hk22) hP hK hD hN) rfl rfl hl.1 rfl (lv_room (Nat.le_of_ble_eq_true rfl)) dX3_fits_46 ⟨(Nat.zero_le _), (Nat.zero_le _)⟩) hS (fun q _ h => hFc q h) hFc (fun r23 u t H1 locs ht hvm hw hB hz1 hk1 hS => ?_)
            have c24 := hw
            obtain ⟨hP, hD⟩ := wd_post hFc ht hB
            generalize H1 = H at hP hS ⊢
            obtain rfl : f_X3_wayIn S o1 = r23 := c24.symm
            refine lv_aload_n hx hb dX3_fits_49 rfl (lv_at hl 1 rfl) ?_
            obtain ⟨k25, gk25, hk25⟩ := wGt (cy := cy) X S h_o2.1 h_o2.2.1
            refine va_get (D := D) (ci := 6) (v := .int (S.I o2 8)) (C := RX2) (T := TX2) (N := 20) hx hb hts hi_X3_fits_X2 hown hK hP k25 hk25 rfl 8 (by decide) (hts (.fieldLink RX3 42 "Hobhouse$Gear" "room" "I") (by decide +kernel)) (fun _ h9 => h9) rfl dX3_fits_50 ?_
            refine lv_i2l hx hb dX3_fits_53 rfl ?_
            refine W.lcmp hx hb dX3_fits_54 ?_
            refine lv_if_gt (tgt := 62) hx hb dX3_fits_55 (by decide) (fun c26 => ?_) (fun c26 => ?_)
            · have c26i := lc_gt c26
              have i27 := i64_i (S.I o2 8)
              refine lv_iconst (v := 0) hx hb dX3_fits_62 (by decide) ?_
              refine W.widen (k := 0) (n := 0) (Nat.le_of_ble_eq_true rfl) (Nat.le_of_ble_eq_true rfl) ?_
              exact W.zret (v := (0 : Int32)) hx hb hr (by rfl) (fun t ht hW9 => ⟨⟨(0 : Int32), (), rfl, (by show (0 : Int32) = f_X3_fits S o1 o2; unfold f_X3_fits; rw [if_pos c3, if_neg c6, if_neg c8, if_neg c19, if_neg c21, if_pos c26]), wd_end hP hK hD ht hW9.alike⟩, hS.F ht⟩) hS.2.2 dX3_fits_63 hlocks
            · have c26i := lc_ngt c26
              have i28 := i64_i (S.I o2 8)
              refine lv_iconst (v := 1) hx hb dX3_fits_58 (by decide) ?_
              refine lv_goto (tgt := 63) hx hb dX3_fits_59 (by decide) ?_
              refine W.widen (k := 0) (n := 0) (Nat.le_of_ble_eq_true rfl) (Nat.le_of_ble_eq_true rfl) ?_
              exact W.zret (v := (1 : Int32)) hx hb hr (by rfl) (fun t ht hW9 => ⟨⟨(1 : Int32), (), rfl, (by show (1 : Int32) = f_X3_fits S o1 o2; unfold f_X3_fits; rw [if_pos c3, if_neg c6, if_neg c8, if_neg c19, if_neg c21, if_neg c26]), wd_end hP hK hD ht hW9.alike⟩, hS.F ht⟩) hS.2.2 dX3_fits_63 hlocks
def f_X3_turnToNext (S : wPS) (o1 : Nat) (x1 : Int32) : (Int32 × wPS) := if (nI (S.n (S.f o1 2))) ≤ (S.I o1 5) then (S.I o1 5, S) else if (S.I o1 1) ≤ (0 : Int32) then (S.I o1 5, S) else l1 (S.si (S.f o1 2) (upd (S.i (S.f o1 2)) (S.I o1 5).toNatClampNeg ((S.i (S.f o1 2) (S.I o1 5).toNatClampNeg) + (x1 / (S.I o1 1))))) (fun S17 => if (nI (S.n (S.f o1 2))) ≤ ((S.I o1 5) + (1 : Int32)) then l1 (S17.sI o1 5 (0 : Int32)) (fun S25 => (S.I o1 5, S25)) else l1 (S17.sI o1 5 ((S.I o1 5) + (1 : Int32))) (fun S29 => (S.I o1 5, S29)))
theorem hi_X3_turnToNext_X3 : ∀ w ∈ u_ws RX3 TX3 6, w ∈ wsX3_turnToNext := by decide +kernel
theorem hd_X3_turnToNext : yX3_turnToNext.cls = RX3 ∧ yX3_turnToNext.cls ≠ "java/lang/invoke/MethodHandle" ∧ yX3_turnToNext.cls ≠ "java/lang/invoke/VarHandle" ∧ (parseMethodDescriptor yX3_turnToNext.desc).map (fun d => d.parameters.length) = some 1 := by decide +kernel
set_option maxHeartbeats 4000000 in
set_option maxRecDepth 100000 in
theorem c_X3_turnToNext (l : Launch) {D : va_G} {cy : Nat → ClassId} {X : va_W} (S : wPS) (sz : Nat) (o1 : Nat) (h_o1 : isA S o1 3) (x1 : Int32) (hW : wtB S [])  : Met l yX3_turnToNext wsX3_turnToNext ({ frames := 0, cells := 0, slots := 0, locals := 0 }) (va_Pc [.ref o1, .int x1] (fun U => U.heap.size = sz ∧ WD D cy X (fun _ => True) S U ∧ NW U)) (va_Qi (fun r (u : wPS) => (r, u) = f_X3_turnToNext S o1 x1 ∧ stp [(3, 5), (28, 100)] [] [] S u) (fun u t => WD D cy X (va_A (X ++ PL cy S) sz) u t) (va_A (X ++ PL cy S) sz)) 0 0 (va_A (X ++ PL cy S) sz) := by
  refine Met.ofW (cc := cX3_turnToNext) (maxL := 3) (ret := (some .int)) (by decide) rfl ?_
  intro p e s m args below meth c s₁ B hml hv
  obtain ⟨rfl, hsz, ⟨hP, hK, hD0⟩, hN⟩ := hv
  have hx := B.exec
  have hb := B.bytes
  have hr := B.returns
  have hts := atoms_spec (ws := wsX3_turnToNext) B.pre
  have hown : s.vm.findClass RX3 = some m.cls := findClass_of_methodNamed (x := yX3_turnToNext) B.named
  have hlocks := B.notSynchronized
  subst hsz
  have hD := hD0.self (sz := s.heap.size)
  generalize hAe : va_A (X ++ PL cy S) s.heap.size = A at hD ⊢
  have hA : ∀ q : Nat, s.heap.size ≤ q → A q := fun q h => by rw [← hAe]; exact Or.inr h
  have hS : va_S A s.heap s.heap [] := va_S.rf
  have hl := lv_entry ([.ref o1, .int x1]) (n := 3) (Nat.le_of_ble_eq_true rfl)
  rw [lg_entry_eq]
  generalize (lg_sl ([.ref o1, .int x1]) ++ List.replicate (3 - (lg_sl ([.ref o1, .int x1])).length) Slot.unset).toArray = ls at hl ⊢
  have hl : lv_has ls 3 [(0, .ref o1), (1, .int x1)] := hl
  have t0 : stp [(3, 5), (28, 100)] [] [] S S := stp.rf hW
  refine lv_aload_n hx hb dX3_turnToNext_0 rfl (lv_at hl 0 rfl) ?_
  obtain ⟨k1, gk1, hk1⟩ := wGt (cy := cy) X S h_o1.1 h_o1.2.1
  have i2 := ((hW.at h_o1 List.not_mem_nil).to_3 h_o1.2.1).R5
  refine va_get (D := D) (ci := 7) (v := .int (S.I o1 5)) (C := RX3) (T := TX3) (N := 6) hx hb hts hi_X3_turnToNext_X3 hown hK hP k1 hk1 rfl 5 (by decide) (hts (.fieldLink RX3 49 "Hobhouse$Hob" "next" "I") (by decide +kernel)) (fun _ h9 => h9) rfl dX3_turnToNext_1 ?_
  refine lv_istore_n (lv' := [(2, .int (S.I o1 5)), (0, .ref o1), (1, .int x1)]) hx hb dX3_turnToNext_4 rfl hl (by decide) rfl (fun ls hl => ?_)
  refine lv_iload_n hx hb dX3_turnToNext_5 rfl (lv_at hl 0 rfl) ?_
  refine lv_aload_n hx hb dX3_turnToNext_6 rfl (lv_at hl 1 rfl) ?_
  have F3 := ((hW.at h_o1 List.not_mem_nil).to_3 h_o1.2.1).F2
  obtain ⟨k4, gk4, hk4⟩ := wGt (cy := cy) X S h_o1.1 h_o1.2.1
  simp only [kE, F3.1] at hk4
  refine va_get (D := D) (ci := 7) (v := .ref (S.f o1 2)) (C := RX3) (T := TX3) (N := 6) hx hb hts hi_X3_turnToNext_X3 hown hK hP k4 hk4 rfl 2 (by decide) (hts (.fieldLink RX3 21 "Hobhouse$Hob" "worn" "[I") (by decide +kernel)) (fun _ h9 => h9) rfl dX3_turnToNext_7 ?_
  obtain ⟨k5, gk5, hk5⟩ := wGt (cy := cy) X S F3.2.1.1 F3.2.1.2.1
  have i6 : (nI (S.n (S.f o1 2))).toInt = ((S.n (S.f o1 2) : Nat) : Int) := nI_toInt F3.2.1.2.2
  have i7 := F3.2.1.2.2
  have i8 := F3.2.2
  refine va_alen (D := D) (cl := vwCl) (tys := tyL cy) hx hb hK hP k5 2 hk5 rfl (v := nI (S.n (S.f o1 2))) rfl dX3_turnToNext_10 ?_
  refine lv_icmp_ge (tgt := 58) hx hb dX3_turnToNext_11 (by decide) (fun c9 => ?_) (fun c9 => ?_)
  · have c9i : (nI (S.n (S.f o1 2))).toInt ≤ (S.I o1 5).toInt := le_v rfl rfl c9
    refine lv_iload_n hx hb dX3_turnToNext_58 rfl (lv_at hl 0 rfl) ?_
    refine W.widen (k := 0) (n := 0) (Nat.le_of_ble_eq_true rfl) (Nat.le_of_ble_eq_true rfl) ?_
    exact W.iret (v := S.I o1 5) hx hb hr (fun t ht hW9 => ⟨⟨S.I o1 5, S, rfl, ⟨(by show (S.I o1 5, S) = f_X3_turnToNext S o1 x1; unfold f_X3_turnToNext; rw [if_pos c9]), t0⟩, wd_end hP hK hD ht hW9.alike⟩, hS.F ht⟩) hS.2.2 dX3_turnToNext_59 hlocks
  · have c9i : (S.I o1 5).toInt < (nI (S.n (S.f o1 2))).toInt := nle_v rfl rfl c9
    refine lv_aload_n hx hb dX3_turnToNext_14 rfl (lv_at hl 1 rfl) ?_
    obtain ⟨k10, gk10, hk10⟩ := wGt (cy := cy) X S h_o1.1 h_o1.2.1
    refine va_get (D := D) (ci := 7) (v := .int (S.I o1 1)) (C := RX3) (T := TX3) (N := 6) hx hb hts hi_X3_turnToNext_X3 hown hK hP k10 hk10 rfl 1 (by decide) (hts (.fieldLink RX3 15 "Hobhouse$Hob" "starts" "I") (by decide +kernel)) (fun _ h9 => h9) rfl dX3_turnToNext_15 ?_
    refine lv_if_le (tgt := 58) hx hb dX3_turnToNext_18 (by decide) (fun c11 => ?_) (fun c11 => ?_)
    · have c11i : (S.I o1 1).toInt ≤ 0 := le_v rfl rfl c11
      refine lv_iload_n hx hb dX3_turnToNext_58 rfl (lv_at hl 0 rfl) ?_
      refine W.widen (k := 0) (n := 0) (Nat.le_of_ble_eq_true rfl) (Nat.le_of_ble_eq_true rfl) ?_
      exact W.iret (v := S.I o1 5) hx hb hr (fun t ht hW9 => ⟨⟨S.I o1 5, S, rfl, ⟨(by show (S.I o1 5, S) = f_X3_turnToNext S o1 x1; unfold f_X3_turnToNext; rw [if_neg c9, if_pos c11]), t0⟩, wd_end hP hK hD ht hW9.alike⟩, hS.F ht⟩) hS.2.2 dX3_turnToNext_59 hlocks
    · have c11i : 0 < (S.I o1 1).toInt := nle_v rfl rfl c11
      refine lv_aload_n hx hb dX3_turnToNext_21 rfl (lv_at hl 1 rfl) ?_
      obtain ⟨k12, gk12, hk12⟩ := wGt (cy := cy) X S h_o1.1 h_o1.2.1
      simp only [kE, F3.1] at hk12
      refine va_get (D := D) (ci := 7) (v := .ref (S.f o1 2)) (C := RX3) (T := TX3) (N := 6) hx hb hts hi_X3_turnToNext_X3 hown hK hP k12 hk12 rfl 2 (by decide) (hts (.fieldLink RX3 21 "Hobhouse$Hob" "worn" "[I") (by decide +kernel)) (fun _ h9 => h9) rfl dX3_turnToNext_22 ?_
      refine lv_iload_n hx hb dX3_turnToNext_25 rfl (lv_at hl 0 rfl) ?_
      refine lv_dup2_11 hx hb dX3_turnToNext_26 rfl rfl ?_
      have i13 := F3.2.2
      obtain ⟨k14, gk14, hk14⟩ := wGt (cy := cy) X S F3.2.1.1 F3.2.1.2.1
      refine va_iald hx hb hK hP k14 2 hk14 rfl (inb (m := S.n (S.f o1 2)) rfl (by omega) (by omega)) dX3_turnToNext_27 ?_
      refine lv_iload_n hx hb dX3_turnToNext_28 rfl (lv_at hl 2 rfl) ?_
      refine lv_aload_n hx hb dX3_turnToNext_29 rfl (lv_at hl 1 rfl) ?_
      obtain ⟨k15, gk15, hk15⟩ := wGt (cy := cy) X S h_o1.1 h_o1.2.1
      refine va_get (D := D) (ci := 7) (v := .int (S.I o1 1)) (C := RX3) (T := TX3) (N := 6) hx hb hts hi_X3_turnToNext_X3 hown hK hP k15 hk15 rfl 1 (by decide) (hts (.fieldLink RX3 15 "Hobhouse$Hob" "starts" "I") (by decide +kernel)) (fun _ h9 => h9) rfl dX3_turnToNext_30 ?_
      refine lv_idiv hx hb dX3_turnToNext_33 (nz_i (by omega)) ?_
      refine lv_iadd hx hb dX3_turnToNext_34 ?_
      obtain ⟨k16, gk16, hk16⟩ := wGt (cy := cy) X S F3.2.1.1 F3.2.1.2.1
      refine va_iast hx hb hK hP hD hS k16 2 hk16 rfl (inb (m := S.n (S.f o1 2)) rfl (by omega) (by omega)) dX3_turnToNext_35 (fun H locs hP2 hD2 hS => ?_)
      have e9 := wPui (cy := cy) (f := (upd (S.i (S.f o1 2)) (S.I o1 5).toNatClampNeg ((S.i (S.f o1 2) (S.I o1 5).toNatClampNeg) + (x1 / (S.I o1 1))))) hD F3.2.1.1 F3.2.1.2.1 gk16 rfl
      obtain ⟨S17, hS17⟩ : ∃ z, S.si (S.f o1 2) (upd (S.i (S.f o1 2)) (S.I o1 5).toNatClampNeg ((S.i (S.f o1 2) (S.I o1 5).toNatClampNeg) + (x1 / (S.I o1 1)))) = z := ⟨_, rfl⟩
      have hP : va_P D vwCl (X ++ PL cy S17) H := by rw [← hS17, ← e9]; exact hP2
      have hD : va_D A (X ++ PL cy S17) := by rw [← hS17, ← e9]; exact hD2
      have xe18 : ext S S17 := by rw [← hS17]; exact ext.si _ _ _
      have t19 : stp [(3, 5), (28, 100)] [] [] S S17 := by rw [← hS17]; exact t0.i (upd (S.i (S.f o1 2)) (S.I o1 5).toNatClampNeg ((S.i (S.f o1 2) (S.I o1 5).toNatClampNeg) + (x1 / (S.I o1 1)))) F3.2.1 (by decide)
      refine lv_aload_n hx hb dX3_turnToNext_36 rfl (lv_at hl 1 rfl) ?_
      refine lv_iload_n hx hb dX3_turnToNext_37 rfl (lv_at hl 0 rfl) ?_
      refine lv_iconst (v := 1) hx hb dX3_turnToNext_38 (by decide) ?_
      refine lv_iadd hx hb dX3_turnToNext_39 ?_
      refine lv_aload_n hx hb dX3_turnToNext_40 rfl (lv_at hl 1 rfl) ?_
      obtain ⟨k20, gk20, hk20⟩ := wGt (cy := cy) X S17 (xe18.A h_o1).1 (xe18.A h_o1).2.1
      simp only [kE, (xe18.F h_o1 (by decide) F3.1)] at hk20
      refine va_get (D := D) (ci := 7) (v := .ref (S.f o1 2)) (C := RX3) (T := TX3) (N := 6) hx hb hts hi_X3_turnToNext_X3 hown hK hP k20 hk20 rfl 2 (by decide) (hts (.fieldLink RX3 21 "Hobhouse$Hob" "worn" "[I") (by decide +kernel)) (fun _ h9 => h9) rfl dX3_turnToNext_41 ?_
      obtain ⟨k21, gk21, hk21⟩ := wGt (cy := cy) X S17 (xe18.A F3.2.1).1 (xe18.A F3.2.1).2.1
      refine va_alen (D := D) (cl := vwCl) (tys := tyL cy) hx hb hK hP k21 2 hk21 rfl (v := nI (S.n (S.f o1 2))) (by rw [(xe18.n F3.2.1)]; rfl) dX3_turnToNext_44 ?_
      have l32_1 : (1 : Int32).toInt = 1 := rfl
      have i22 : ((S.I o1 5) + (1 : Int32)).toInt = (S.I o1 5).toInt + 1 := t_addr (n := 1) rfl (by omega)
      refine lv_icmp_ge (tgt := 54) hx hb dX3_turnToNext_45 (by decide) (fun c23 => ?_) (fun c23 => ?_)
      · have c23i : (nI (S.n (S.f o1 2))).toInt ≤ ((S.I o1 5) + (1 : Int32)).toInt := le_v rfl rfl c23
        refine lv_iconst (v := 0) hx hb dX3_turnToNext_54 (by decide) ?_
        have l32_0 : (0 : Int32).toInt = 0 := rfl
        obtain ⟨k24, gk24, hk24⟩ := wGt (cy := cy) X S17 (xe18.A h_o1).1 (xe18.A h_o1).2.1
        refine va_put (D := D) (ci := 7) (v := .int (0 : Int32)) (ty := .int) (C := RX3) (T := TX3) (N := 6) hx hb hts hi_X3_turnToNext_X3 tyX3 tyX3_ok nmX3 hown hK hP hD hS k24 hk24 rfl 5 (by decide) (hts (.fieldLink RX3 49 "Hobhouse$Hob" "next" "I") (by decide +kernel)) (fun _ h9 => h9) rfl (by decide +kernel) (rfl) (rfl) (Nat.le_of_ble_eq_true rfl) dX3_turnToNext_55 (fun H locs hP2 hD2 hS => ?_)
        have e9 := wPuI (cy := cy) (j := 5) (v := (0 : Int32)) hD (xe18.A h_o1).1 (xe18.A h_o1).2.1 gk24 rfl
        obtain ⟨S25, hS25⟩ : ∃ z, S17.sI o1 5 (0 : Int32) = z := ⟨_, rfl⟩
        have hP : va_P D vwCl (X ++ PL cy S25) H := by rw [← hS25, ← e9]; exact hP2
        have hD : va_D A (X ++ PL cy S25) := by rw [← hS25, ← e9]; exact hD2
        have xe26 : ext S17 S25 := by rw [← hS25]; exact ext.sI _ _ _ _
        have t27 : stp [(3, 5), (28, 100)] [] [] S S25 := by rw [← hS25]; exact t19.I 5 (0 : Int32) (xe18.A h_o1) (by decide) (⟨by decide, by decide⟩) (Or.inl (by decide))
        refine lv_iload_n hx hb dX3_turnToNext_58 rfl (lv_at hl 0 rfl) ?_
        refine W.widen (k := 0) (n := 0) (Nat.le_of_ble_eq_true rfl) (Nat.le_of_ble_eq_true rfl) ?_
        exact W.iret (v := S.I o1 5) hx hb hr (fun t ht hW9 => ⟨⟨S.I o1 5, S25, rfl, ⟨(by show (S.I o1 5, S25) = f_X3_turnToNext S o1 x1; unfold f_X3_turnToNext; rw [if_neg c9, if_neg c11, l1_eq hS17, if_pos c23, l1_eq hS25]), t27⟩, wd_end hP hK hD ht hW9.alike⟩, hS.F ht⟩) hS.2.2 dX3_turnToNext_59 hlocks
      · have c23i : ((S.I o1 5) + (1 : Int32)).toInt < (nI (S.n (S.f o1 2))).toInt := nle_v rfl rfl c23
        refine lv_iload_n hx hb dX3_turnToNext_48 rfl (lv_at hl 0 rfl) ?_
        refine lv_iconst (v := 1) hx hb dX3_turnToNext_49 (by decide) ?_
        refine lv_iadd hx hb dX3_turnToNext_50 ?_
        refine lv_goto (tgt := 55) hx hb dX3_turnToNext_51 (by decide) ?_
        obtain ⟨k28, gk28, hk28⟩ := wGt (cy := cy) X S17 (xe18.A h_o1).1 (xe18.A h_o1).2.1
        refine va_put (D := D) (ci := 7) (v := .int ((S.I o1 5) + (1 : Int32))) (ty := .int) (C := RX3) (T := TX3) (N := 6) hx hb hts hi_X3_turnToNext_X3 tyX3 tyX3_ok nmX3 hown hK hP hD hS k28 hk28 rfl 5 (by decide) (hts (.fieldLink RX3 49 "Hobhouse$Hob" "next" "I") (by decide +kernel)) (fun _ h9 => h9) rfl (by decide +kernel) (rfl) (rfl) (Nat.le_of_ble_eq_true rfl) dX3_turnToNext_55 (fun H locs hP2 hD2 hS => ?_)
        have e9 := wPuI (cy := cy) (j := 5) (v := ((S.I o1 5) + (1 : Int32))) hD (xe18.A h_o1).1 (xe18.A h_o1).2.1 gk28 rfl
        obtain ⟨S29, hS29⟩ : ∃ z, S17.sI o1 5 ((S.I o1 5) + (1 : Int32)) = z := ⟨_, rfl⟩
        have hP : va_P D vwCl (X ++ PL cy S29) H := by rw [← hS29, ← e9]; exact hP2
        have hD : va_D A (X ++ PL cy S29) := by rw [← hS29, ← e9]; exact hD2
        have xe30 : ext S17 S29 := by rw [← hS29]; exact ext.sI _ _ _ _
        have t31 : stp [(3, 5), (28, 100)] [] [] S S29 := by rw [← hS29]; exact t19.I 5 ((S.I o1 5) + (1 : Int32)) (xe18.A h_o1) (by decide) (⟨by omega, by omega⟩) (Or.inl (by decide))
        refine lv_iload_n hx hb dX3_turnToNext_58 rfl (lv_at hl 0 rfl) ?_
        refine W.widen (k := 0) (n := 0) (Nat.le_of_ble_eq_true rfl) (Nat.le_of_ble_eq_true rfl) ?_
        exact W.iret (v := S.I o1 5) hx hb hr (fun t ht hW9 => ⟨⟨S.I o1 5, S29, rfl, ⟨(by show (S.I o1 5, S29) = f_X3_turnToNext S o1 x1; unfold f_X3_turnToNext; rw [if_neg c9, if_neg c11, l1_eq hS17, if_neg c23, l1_eq hS29]), t31⟩, wd_end hP hK hD ht hW9.alike⟩, hS.F ht⟩) hS.2.2 dX3_turnToNext_59 hlocks
theorem hi_X3_sharpen_X3 : ∀ w ∈ u_ws RX3 TX3 6, w ∈ wsX3_sharpen := by decide +kernel
theorem hd_X3_sharpen : yX3_sharpen.cls = RX3 ∧ yX3_sharpen.cls ≠ "java/lang/invoke/MethodHandle" ∧ yX3_sharpen.cls ≠ "java/lang/invoke/VarHandle" ∧ (parseMethodDescriptor yX3_sharpen.desc).map (fun d => d.parameters.length) = some 0 := by decide +kernel
set_option maxHeartbeats 4000000 in
set_option maxRecDepth 100000 in
theorem c_X3_sharpen (l : Launch) {D : va_G} {cy : Nat → ClassId} {X : va_W} (S : wPS) (sz : Nat) (o1 : Nat) (h_o1 : isA S o1 3) (hW : wtB S [])  : Met l yX3_sharpen wsX3_sharpen ({ frames := 0, cells := 0, slots := 0, locals := 0 }) (va_Pc [.ref o1] (fun U => U.heap.size = sz ∧ WD D cy X (fun _ => True) S U ∧ NW U)) (va_Qv (fun (u : wPS) => stp [(3, 3), (3, 4), (28, 100)] [] [] S u) (fun u t => WD D cy X (va_A (X ++ PL cy S) sz) u t) (va_A (X ++ PL cy S) sz)) 0 0 (va_A (X ++ PL cy S) sz) := by
  refine Met.ofW (cc := cX3_sharpen) (maxL := 2) (ret := none) (by decide) rfl ?_
  intro p e s m args below meth c s₁ B hml hv
  obtain ⟨rfl, hsz, ⟨hP, hK, hD0⟩, hN⟩ := hv
  have hx := B.exec
  have hb := B.bytes
  have hr := B.returns
  have hts := atoms_spec (ws := wsX3_sharpen) B.pre
  have hown : s.vm.findClass RX3 = some m.cls := findClass_of_methodNamed (x := yX3_sharpen) B.named
  have hlocks := B.notSynchronized
  subst hsz
  have hD := hD0.self (sz := s.heap.size)
  generalize hAe : va_A (X ++ PL cy S) s.heap.size = A at hD ⊢
  have hA : ∀ q : Nat, s.heap.size ≤ q → A q := fun q h => by rw [← hAe]; exact Or.inr h
  have hS : va_S A s.heap s.heap [] := va_S.rf
  have hl := lv_entry ([.ref o1]) (n := 2) (Nat.le_of_ble_eq_true rfl)
  rw [lg_entry_eq]
  generalize (lg_sl ([.ref o1]) ++ List.replicate (2 - (lg_sl ([.ref o1])).length) Slot.unset).toArray = ls at hl ⊢
  have hl : lv_has ls 2 [(0, .ref o1)] := hl
  have t0 : stp [(3, 3), (3, 4), (28, 100)] [] [] S S := stp.rf hW
  refine lv_aload_n hx hb dX3_sharpen_0 rfl (lv_at hl 0 rfl) ?_
  refine lv_dup hx hb dX3_sharpen_1 rfl ?_
  obtain ⟨k1, gk1, hk1⟩ := wGt (cy := cy) X S h_o1.1 h_o1.2.1
  refine va_get (D := D) (ci := 7) (v := .int (S.I o1 3)) (C := RX3) (T := TX3) (N := 6) hx hb hts hi_X3_sharpen_X3 hown hK hP k1 hk1 rfl 3 (by decide) (hts (.fieldLink RX3 18 "Hobhouse$Hob" "diameter" "I") (by decide +kernel)) (fun _ h9 => h9) rfl dX3_sharpen_2 ?_
  refine lv_bipush (v := 100) hx hb dX3_sharpen_5 (by decide +kernel) ?_
  refine lv_isub hx hb dX3_sharpen_7 ?_
  obtain ⟨k2, gk2, hk2⟩ := wGt (cy := cy) X S h_o1.1 h_o1.2.1
  refine va_put (D := D) (ci := 7) (v := .int ((S.I o1 3) - (100 : Int32))) (ty := .int) (C := RX3) (T := TX3) (N := 6) hx hb hts hi_X3_sharpen_X3 tyX3 tyX3_ok nmX3 hown hK hP hD hS k2 hk2 rfl 3 (by decide) (hts (.fieldLink RX3 18 "Hobhouse$Hob" "diameter" "I") (by decide +kernel)) (fun _ h9 => h9) rfl (by decide +kernel) (rfl) (rfl) (Nat.le_of_ble_eq_true rfl) dX3_sharpen_8 (fun H locs hP2 hD2 hS => ?_)
  have e9 := wPuI (cy := cy) (j := 3) (v := ((S.I o1 3) - (100 : Int32))) hD h_o1.1 h_o1.2.1 gk2 rfl
  obtain ⟨S3, hS3⟩ : ∃ z, S.sI o1 3 ((S.I o1 3) - (100 : Int32)) = z := ⟨_, rfl⟩
  have hP : va_P D vwCl (X ++ PL cy S3) H := by rw [← hS3, ← e9]; exact hP2
  have hD : va_D A (X ++ PL cy S3) := by rw [← hS3, ← e9]; exact hD2
  have xe4 : ext S S3 := by rw [← hS3]; exact ext.sI _ _ _ _
  have t5 : stp [(3, 3), (3, 4), (28, 100)] [] [] S S3 := by rw [← hS3]; exact t0.I 3 ((S.I o1 3) - (100 : Int32)) h_o1 (by decide) (trivial) (Or.inl (by decide))
  refine lv_aload_n hx hb dX3_sharpen_11 rfl (lv_at hl 0 rfl) ?_
  refine lv_dup hx hb dX3_sharpen_12 rfl ?_
  obtain ⟨k6, gk6, hk6⟩ := wGt (cy := cy) X S3 (xe4.A h_o1).1 (xe4.A h_o1).2.1
  refine va_get (D := D) (ci := 7) (v := .int (S3.I o1 4)) (C := RX3) (T := TX3) (N := 6) hx hb hts hi_X3_sharpen_X3 hown hK hP k6 hk6 rfl 4 (by decide) (hts (.fieldLink RX3 52 "Hobhouse$Hob" "profileError" "I") (by decide +kernel)) (fun _ h9 => h9) rfl dX3_sharpen_13 ?_
  refine lv_iconst (v := 1) hx hb dX3_sharpen_16 (by decide) ?_
  refine lv_iadd hx hb dX3_sharpen_17 ?_
  obtain ⟨k7, gk7, hk7⟩ := wGt (cy := cy) X S3 (xe4.A h_o1).1 (xe4.A h_o1).2.1
  refine va_put (D := D) (ci := 7) (v := .int ((S3.I o1 4) + (1 : Int32))) (ty := .int) (C := RX3) (T := TX3) (N := 6) hx hb hts hi_X3_sharpen_X3 tyX3 tyX3_ok nmX3 hown hK hP hD hS k7 hk7 rfl 4 (by decide) (hts (.fieldLink RX3 52 "Hobhouse$Hob" "profileError" "I") (by decide +kernel)) (fun _ h9 => h9) rfl (by decide +kernel) (rfl) (rfl) (Nat.le_of_ble_eq_true rfl) dX3_sharpen_18 (fun H locs hP2 hD2 hS => ?_)
  have e9 := wPuI (cy := cy) (j := 4) (v := ((S3.I o1 4) + (1 : Int32))) hD (xe4.A h_o1).1 (xe4.A h_o1).2.1 gk7 rfl
  obtain ⟨S8, hS8⟩ : ∃ z, S3.sI o1 4 ((S3.I o1 4) + (1 : Int32)) = z := ⟨_, rfl⟩
  have hP : va_P D vwCl (X ++ PL cy S8) H := by rw [← hS8, ← e9]; exact hP2
  have hD : va_D A (X ++ PL cy S8) := by rw [← hS8, ← e9]; exact hD2
  have xe9 : ext S3 S8 := by rw [← hS8]; exact ext.sI _ _ _ _
  have t10 : stp [(3, 3), (3, 4), (28, 100)] [] [] S S8 := by rw [← hS8]; exact t5.I 4 ((S3.I o1 4) + (1 : Int32)) (xe4.A h_o1) (by decide) (trivial) (Or.inl (by decide))
  refine lv_iconst (v := 0) hx hb dX3_sharpen_21 (by decide) ?_
  refine lv_istore_n (lv' := [(1, .int (0 : Int32)), (0, .ref o1)]) hx hb dX3_sharpen_22 rfl hl (by decide) rfl (fun ls hl => ?_)
  have l32_0 : (0 : Int32).toInt = 0 := rfl
  have loop23 : ∀ (n : Nat) (S23_ : wPS) (w23_1 : Int32) (H : Heap) (locs : List Loc) (ls : Array Slot), (20 - w23_1.toInt).toNat < n → 0 ≤ w23_1.toInt ∧ w23_1.toInt ≤ 20 → stp [(3, 3), (3, 4), (28, 100)] [] [] S8 S23_ → va_P D vwCl (X ++ PL cy S23_) H → va_D A (X ++ PL cy S23_) → va_S A s.heap H locs → lv_has ls 2 [(1, .int w23_1), (0, .ref o1)] → (∀ (S23_x : wPS) (w23_1x : Int32) (H : Heap) (locs : List Loc) (ls : Array Slot), 0 ≤ w23_1x.toInt ∧ w23_1x.toInt ≤ 20 → stp [(3, 3), (3, 4), (28, 100)] [] [] S8 S23_x → va_P D vwCl (X ++ PL cy S23_x) H → va_D A (X ++ PL cy S23_x) → va_S A s.heap H locs → lv_has ls 2 [(1, .int w23_1x), (0, .ref o1)] → W p l e (headSpec wsX3_sharpen ({ frames := 0, cells := 0, slots := 0, locals := 0 } : Room)).room s m [.ref o1].toArray below meth c H locs 0 0 (MQ below (va_Qv (fun (u : wPS) => stp [(3, 3), (3, 4), (28, 100)] [] [] S u) (fun u t => WD D cy X A u t) A) [.ref o1].toArray s 0 0 A) (F0 m 45 ls [])) → W p l e (headSpec wsX3_sharpen ({ frames := 0, cells := 0, slots := 0, locals := 0 } : Room)).room s m [.ref o1].toArray below meth c H locs 0 0 (MQ below (va_Qv (fun (u : wPS) => stp [(3, 3), (3, 4), (28, 100)] [] [] S u) (fun u t => WD D cy X A u t) A) [.ref o1].toArray s 0 0 A) (F0 m 23 ls []) := by
    intro n23
    induction n23 with
    | zero => intro S23_ w23_1 H locs ls hm; exact absurd hm (Nat.not_lt_zero _)
    | succ n23 ih23 =>
      intro S23_ w23_1 H locs ls hm23 hi23 hsh23 hP hD hS hl ko23
      refine lv_iload_n hx hb dX3_sharpen_23 rfl (lv_at hl 0 rfl) ?_
      refine lv_aload_n hx hb dX3_sharpen_24 rfl (lv_at hl 1 rfl) ?_
      have F11 := ((hW.at h_o1 List.not_mem_nil).to_3 h_o1.2.1).F2
      obtain ⟨k12, gk12, hk12⟩ := wGt (cy := cy) X S23_ ((xe9.tr hsh23.x).A (xe4.A h_o1)).1 ((xe9.tr hsh23.x).A (xe4.A h_o1)).2.1
      simp only [kE, ((xe4.tr (xe9.tr hsh23.x)).F h_o1 (by decide) F11.1)] at hk12
      refine va_get (D := D) (ci := 7) (v := .ref (S.f o1 2)) (C := RX3) (T := TX3) (N := 6) hx hb hts hi_X3_sharpen_X3 hown hK hP k12 hk12 rfl 2 (by decide) (hts (.fieldLink RX3 21 "Hobhouse$Hob" "worn" "[I") (by decide +kernel)) (fun _ h9 => h9) rfl dX3_sharpen_25 ?_
      obtain ⟨k13, gk13, hk13⟩ := wGt (cy := cy) X S23_ ((xe4.tr (xe9.tr hsh23.x)).A F11.2.1).1 ((xe4.tr (xe9.tr hsh23.x)).A F11.2.1).2.1
      have i14 : (nI (S.n (S.f o1 2))).toInt = ((S.n (S.f o1 2) : Nat) : Int) := nI_toInt F11.2.1.2.2
      have i15 := F11.2.1.2.2
      have i16 := F11.2.2
      refine va_alen (D := D) (cl := vwCl) (tys := tyL cy) hx hb hK hP k13 2 hk13 rfl (v := nI (S.n (S.f o1 2))) (by rw [((xe4.tr (xe9.tr hsh23.x)).n F11.2.1)]; rfl) dX3_sharpen_28 ?_
      refine lv_icmp_ge (tgt := 45) hx hb dX3_sharpen_29 (by decide) (fun c17 => ?_) (fun c17 => ?_)
      · have c17i : (nI (S.n (S.f o1 2))).toInt ≤ w23_1.toInt := le_v rfl rfl c17
        exact ko23 S23_ w23_1 _ _ _ (by omega) hsh23 hP hD hS (lv_sub hl [0, 1] rfl)
      · have c17i : w23_1.toInt < (nI (S.n (S.f o1 2))).toInt := nle_v rfl rfl c17
        refine lv_aload_n hx hb dX3_sharpen_32 rfl (lv_at hl 1 rfl) ?_
        obtain ⟨k18, gk18, hk18⟩ := wGt (cy := cy) X S23_ ((xe9.tr hsh23.x).A (xe4.A h_o1)).1 ((xe9.tr hsh23.x).A (xe4.A h_o1)).2.1
        simp only [kE, ((xe4.tr (xe9.tr hsh23.x)).F h_o1 (by decide) F11.1)] at hk18
        refine va_get (D := D) (ci := 7) (v := .ref (S.f o1 2)) (C := RX3) (T := TX3) (N := 6) hx hb hts hi_X3_sharpen_X3 hown hK hP k18 hk18 rfl 2 (by decide) (hts (.fieldLink RX3 21 "Hobhouse$Hob" "worn" "[I") (by decide +kernel)) (fun _ h9 => h9) rfl dX3_sharpen_33 ?_
        refine lv_iload_n hx hb dX3_sharpen_36 rfl (lv_at hl 0 rfl) ?_
        refine lv_iconst (v := 0) hx hb dX3_sharpen_37 (by decide) ?_
        have i19 := F11.2.2
        obtain ⟨k20, gk20, hk20⟩ := wGt (cy := cy) X S23_ ((xe4.tr (xe9.tr hsh23.x)).A F11.2.1).1 ((xe4.tr (xe9.tr hsh23.x)).A F11.2.1).2.1
        refine va_iast hx hb hK hP hD hS k20 2 hk20 rfl (inb (m := S.n (S.f o1 2)) ((xe4.tr (xe9.tr hsh23.x)).n F11.2.1) (by omega) (by omega)) dX3_sharpen_38 (fun H locs hP2 hD2 hS => ?_)
        have e9 := wPui (cy := cy) (f := (upd (S23_.i (S.f o1 2)) w23_1.toNatClampNeg (0 : Int32))) hD ((xe4.tr (xe9.tr hsh23.x)).A F11.2.1).1 ((xe4.tr (xe9.tr hsh23.x)).A F11.2.1).2.1 gk20 rfl
        obtain ⟨S21, hS21⟩ : ∃ z, S23_.si (S.f o1 2) (upd (S23_.i (S.f o1 2)) w23_1.toNatClampNeg (0 : Int32)) = z := ⟨_, rfl⟩
        have hP : va_P D vwCl (X ++ PL cy S21) H := by rw [← hS21, ← e9]; exact hP2
        have hD : va_D A (X ++ PL cy S21) := by rw [← hS21, ← e9]; exact hD2
        have xe22 : ext S23_ S21 := by rw [← hS21]; exact ext.si _ _ _
        have t23 : stp [(3, 3), (3, 4), (28, 100)] [] [] S8 S21 := by rw [← hS21]; exact hsh23.i (upd (S23_.i (S.f o1 2)) w23_1.toNatClampNeg (0 : Int32)) ((xe4.tr (xe9.tr hsh23.x)).A F11.2.1) (by decide)
        refine lv_iinc (v := w23_1 + (1 : Int32)) (lv' := [(1, .int (w23_1 + (1 : Int32))), (0, .ref o1)]) hx hb dX3_sharpen_39 hl (k := 0) rfl (by rfl) (by decide) rfl (fun ls hl => ?_)
        refine lv_goto (tgt := 23) hx hb dX3_sharpen_42 (by decide) ?_
        have l32_1 : (1 : Int32).toInt = 1 := rfl
        have i24 : (w23_1 + (1 : Int32)).toInt = w23_1.toInt + 1 := t_addr (n := 1) rfl (by omega)
        exact ih23 S21 (w23_1 + (1 : Int32)) _ _ _ (Nat.lt_of_lt_of_le (by omega) (Nat.le_of_lt_succ hm23)) (by omega) t23 hP hD hS (lv_sub hl [0, 1] rfl) ko23
  refine loop23 21 S8 (0 : Int32) _ _ _ (by omega) (by omega) (stp.rf t10.w) hP hD hS (lv_sub hl [0, 1] rfl) (fun S26 z27 H locs ls hi23 hsh23 hP hD hS hl => ?_)
  have t28 : stp [(3, 3), (3, 4), (28, 100)] [] [] S S26 := t10.tr hsh23 (fun _ q => q) (fun _ q => Or.inl q)
  have et28 := hsh23.x
  refine W.widen (k := 0) (n := 0) (Nat.le_of_ble_eq_true rfl) (Nat.le_of_ble_eq_true rfl) ?_
  exact W.vret hx hb hr (fun t ht hW9 => ⟨⟨S26, rfl, t28, wd_end hP hK hD ht hW9.alike⟩, hS.F ht⟩) hS.2.2 dX3_sharpen_45 hlocks
theorem hi_X7_init_X7 : ∀ w ∈ u_ws RX7 TX7 4, w ∈ wsX7_init := by decide +kernel
set_option maxHeartbeats 4000000 in
set_option maxRecDepth 100000 in
theorem c_X7_init (l : Launch) {D : va_G} {cy : Nat → ClassId} {X : va_W} (S : wPS) (sz : Nat) (o1 : Nat) (h_o1 : isA S o1 7) (x1 : Int32) (x2 : Int32) (R : List Nat) (hW : wtB S (o1 :: R)) (hF0 : ∀ j, S.F o1 j = none) (hI0 : ∀ j, S.I o1 j = 0) (hch : narrow .char (.int x1) = .int x1) (hcf : fits .char (.int x1) = true) : Met l yX7_init wsX7_init ({ frames := 1, cells := 0, slots := 0, locals := 12 }) (va_Pc [.ref o1, .int x1, .int x2] (fun U => U.heap.size = sz ∧ WD D cy X (fun _ => True) S U ∧ NW U)) (va_Qv (fun (u : wPS) => stp ([] : List (Nat × Nat)) [o1] R S u ∧ isA u o1 7 ∧ u.I o1 0 = x1 ∧ u.I o1 1 = x2 ∧ u.I o1 2 = (0 : Int32) ∧ u.I o1 3 = (0 : Int32)) (fun u t => WD D cy X (va_A (X ++ PL cy S) sz) u t) (va_A (X ++ PL cy S) sz)) 0 0 (va_A (X ++ PL cy S) sz) := by
  refine Met.ofW (cc := cX7_init) (maxL := 3) (ret := none) (by decide) rfl ?_
  intro p e s m args below meth c s₁ B hml hv
  obtain ⟨rfl, hsz, ⟨hP, hK, hD0⟩, hN⟩ := hv
  have hx := B.exec
  have hb := B.bytes
  have hr := B.returns
  have hts := atoms_spec (ws := wsX7_init) B.pre
  have hown : s.vm.findClass RX7 = some m.cls := findClass_of_methodNamed (x := yX7_init) B.named
  have hlocks := B.notSynchronized
  have hin : meth.name = "<init>" := (name_of_methodNamed B.named B.method).1
  subst hsz
  have hD := hD0.self (sz := s.heap.size)
  generalize hAe : va_A (X ++ PL cy S) s.heap.size = A at hD ⊢
  have hA : ∀ q : Nat, s.heap.size ≤ q → A q := fun q h => by rw [← hAe]; exact Or.inr h
  have hS : va_S A s.heap s.heap [] := va_S.rf
  have hl := lv_entry ([.ref o1, .int x1, .int x2]) (n := 3) (Nat.le_of_ble_eq_true rfl)
  rw [lg_entry_eq]
  generalize (lg_sl ([.ref o1, .int x1, .int x2]) ++ List.replicate (3 - (lg_sl ([.ref o1, .int x1, .int x2])).length) Slot.unset).toArray = ls at hl ⊢
  have hl : lv_has ls 3 [(0, .ref o1), (1, .int x1), (2, .int x2)] := hl
  have t0 : stp ([] : List (Nat × Nat)) [o1] (o1 :: R) S S := stp.rf hW
  refine lv_aload_n hx hb dX7_init_0 rfl (lv_at hl 0 rfl) ?_
  refine W.objInit hx hb hown (hts (.methodLink RX7 1 objectInit) (by decide +kernel)) (hts (.instanceMethod objectInit) (by decide +kernel)) (hts (.code objectInit ⟨#[0xb1]⟩ 1 none) (by decide +kernel)) rfl (by rw [hml]; exact hl.1) rfl dX7_init_1 (Nat.le_of_ble_eq_true rfl) (Nat.le_of_ble_eq_true rfl) ?_
  refine W.eq (g2 := F0 m 4 ls []) rfl ?_
  refine lv_aload_n hx hb dX7_init_4 rfl (lv_at hl 0 rfl) ?_
  refine lv_iload_n hx hb dX7_init_5 rfl (lv_at hl 1 rfl) ?_
  obtain ⟨k1, gk1, hk1⟩ := wGt (cy := cy) X S h_o1.1 h_o1.2.1
  refine va_putF (D := D) (ci := 11) (v := .int x1) (ty := .char) (C := RX7) (T := TX7) (N := 4) hx hb hts hi_X7_init_X7 tyX7 tyX7_ok nmX7 hown hK hP hD hS k1 hk1 rfl 0 (by decide) (hts (.fieldLink RX7 7 "Hobhouse$Station" "kind" "C") (by decide +kernel)) (fun _ h9 => h9) rfl hin rfl (by decide +kernel) (hch) (hcf) (Nat.le_of_ble_eq_true rfl) dX7_init_6 (fun H locs hP2 hD2 hS => ?_)
  have e9 := wPuI (cy := cy) (j := 0) (v := x1) hD h_o1.1 h_o1.2.1 gk1 rfl
  obtain ⟨S2, hS2⟩ : ∃ z, S.sI o1 0 x1 = z := ⟨_, rfl⟩
  have hP : va_P D vwCl (X ++ PL cy S2) H := by rw [← hS2, ← e9]; exact hP2
  have hD : va_D A (X ++ PL cy S2) := by rw [← hS2, ← e9]; exact hD2
  have xe3 : ext S S2 := by rw [← hS2]; exact ext.sI _ _ _ _
  have t4 : stp ([] : List (Nat × Nat)) [o1] (o1 :: R) S S2 := by rw [← hS2]; exact t0.Ir 0 x1 List.mem_cons_self (Or.inl List.mem_cons_self)
  refine lv_aload_n hx hb dX7_init_9 rfl (lv_at hl 0 rfl) ?_
  refine lv_iload_n hx hb dX7_init_10 rfl (lv_at hl 2 rfl) ?_
  obtain ⟨k5, gk5, hk5⟩ := wGt (cy := cy) X S2 (xe3.A h_o1).1 (xe3.A h_o1).2.1
  refine va_putF (D := D) (ci := 11) (v := .int x2) (ty := .int) (C := RX7) (T := TX7) (N := 4) hx hb hts hi_X7_init_X7 tyX7 tyX7_ok nmX7 hown hK hP hD hS k5 hk5 rfl 1 (by decide) (hts (.fieldLink RX7 13 "Hobhouse$Station" "time" "I") (by decide +kernel)) (fun _ h9 => h9) rfl hin rfl (by decide +kernel) (rfl) (rfl) (Nat.le_of_ble_eq_true rfl) dX7_init_11 (fun H locs hP2 hD2 hS => ?_)
  have e9 := wPuI (cy := cy) (j := 1) (v := x2) hD (xe3.A h_o1).1 (xe3.A h_o1).2.1 gk5 rfl
  obtain ⟨S6, hS6⟩ : ∃ z, S2.sI o1 1 x2 = z := ⟨_, rfl⟩
  have hP : va_P D vwCl (X ++ PL cy S6) H := by rw [← hS6, ← e9]; exact hP2
  have hD : va_D A (X ++ PL cy S6) := by rw [← hS6, ← e9]; exact hD2
  have xe7 : ext S2 S6 := by rw [← hS6]; exact ext.sI _ _ _ _
  have t8 : stp ([] : List (Nat × Nat)) [o1] (o1 :: R) S S6 := by rw [← hS6]; exact t4.Ir 1 x2 List.mem_cons_self (Or.inl List.mem_cons_self)
  have oo : isA S6 o1 7 := (xe7.A (xe3.A h_o1))
  have I0 : S6.I o1 0 = x1 := (by rw [← hS6, sI_I (by rintro ⟨e1, e2⟩; exact absurd e2 (by decide))]; rw [← hS2, sI_eq])
  have I1 : S6.I o1 1 = x2 := (by rw [← hS6, sI_eq])
  have I2 : S6.I o1 2 = (0 : Int32) := (by rw [← hS6, sI_I (by rintro ⟨e1, e2⟩; exact absurd e2 (by decide))]; rw [← hS2, sI_I (by rintro ⟨e1, e2⟩; exact absurd e2 (by decide))]; exact hI0 2)
  have I3 : S6.I o1 3 = (0 : Int32) := (by rw [← hS6, sI_I (by rintro ⟨e1, e2⟩; exact absurd e2 (by decide))]; rw [← hS2, sI_I (by rintro ⟨e1, e2⟩; exact absurd e2 (by decide))]; exact hI0 3)
  have tt : stp ([] : List (Nat × Nat)) [o1] R S S6 := t8.un (okAt.no _ oo.2.1 (by decide) (by decide) (by decide) (by decide) (by decide) (by decide) (by decide) (by decide) (by decide) (by decide) (by decide) (by decide) (by decide) (by decide) (by decide) (by decide) (by decide))
  refine W.widen (k := 0) (n := 0) (Nat.le_of_ble_eq_true rfl) (Nat.le_of_ble_eq_true rfl) ?_
  exact W.vret hx hb hr (fun t ht hW9 => ⟨⟨S6, rfl, ⟨tt, oo, I0, I1, I2, I3⟩, wd_end hP hK hD ht hW9.alike⟩, hS.F ht⟩) hS.2.2 dX7_init_14 hlocks
def f_X7_endFrom (S : wPS) (o1 : Nat) (x1 : Int32) : Int32 := (if x1 < (S.I o1 3) then (S.I o1 3) else x1) + (S.I o1 1)
theorem hi_X7_endFrom_X7 : ∀ w ∈ u_ws RX7 TX7 4, w ∈ wsX7_endFrom := by decide +kernel
theorem hd_X7_endFrom : yX7_endFrom.cls = RX7 ∧ yX7_endFrom.cls ≠ "java/lang/invoke/MethodHandle" ∧ yX7_endFrom.cls ≠ "java/lang/invoke/VarHandle" ∧ (parseMethodDescriptor yX7_endFrom.desc).map (fun d => d.parameters.length) = some 1 := by decide +kernel
set_option maxHeartbeats 4000000 in
set_option maxRecDepth 100000 in
theorem c_X7_endFrom (l : Launch) {D : va_G} {cy : Nat → ClassId} {X : va_W} (S : wPS) (sz : Nat) (o1 : Nat) (h_o1 : isA S o1 7) (x1 : Int32)  : Met l yX7_endFrom wsX7_endFrom ({ frames := 1, cells := 0, slots := 0, locals := 13 }) (va_Pc [.ref o1, .int x1] (fun U => U.heap.size = sz ∧ WD D cy X (fun _ => True) S U ∧ NW U)) (va_Qi (fun r (_ : Unit) => r = f_X7_endFrom S o1 x1) (fun _ t => WD D cy X (va_A (X ++ PL cy S) sz) S t) (va_A (X ++ PL cy S) sz)) 0 0 (va_A (X ++ PL cy S) sz) := by
  refine Met.ofW (cc := cX7_endFrom) (maxL := 2) (ret := (some .int)) (by decide) rfl ?_
  intro p e s m args below meth c s₁ B hml hv
  obtain ⟨rfl, hsz, ⟨hP, hK, hD0⟩, hN⟩ := hv
  have hx := B.exec
  have hb := B.bytes
  have hr := B.returns
  have hts := atoms_spec (ws := wsX7_endFrom) B.pre
  have hown : s.vm.findClass RX7 = some m.cls := findClass_of_methodNamed (x := yX7_endFrom) B.named
  have hlocks := B.notSynchronized
  subst hsz
  have hD := hD0.self (sz := s.heap.size)
  generalize hAe : va_A (X ++ PL cy S) s.heap.size = A at hD ⊢
  have hA : ∀ q : Nat, s.heap.size ≤ q → A q := fun q h => by rw [← hAe]; exact Or.inr h
  have hS : va_S A s.heap s.heap [] := va_S.rf
  have hl := lv_entry ([.ref o1, .int x1]) (n := 2) (Nat.le_of_ble_eq_true rfl)
  rw [lg_entry_eq]
  generalize (lg_sl ([.ref o1, .int x1]) ++ List.replicate (2 - (lg_sl ([.ref o1, .int x1])).length) Slot.unset).toArray = ls at hl ⊢
  have hl : lv_has ls 2 [(0, .ref o1), (1, .int x1)] := hl
  refine lv_iload_n hx hb dX7_endFrom_0 rfl (lv_at hl 1 rfl) ?_
  refine lv_aload_n hx hb dX7_endFrom_1 rfl (lv_at hl 0 rfl) ?_
  obtain ⟨k1, gk1, hk1⟩ := wGt (cy := cy) X S h_o1.1 h_o1.2.1
  refine va_get (D := D) (ci := 11) (v := .int (S.I o1 3)) (C := RX7) (T := TX7) (N := 4) hx hb hts hi_X7_endFrom_X7 hown hK hP k1 hk1 rfl 3 (by decide) (hts (.fieldLink RX7 17 "Hobhouse$Station" "freeFrom" "I") (by decide +kernel)) (fun _ h9 => h9) rfl dX7_endFrom_2 ?_
  refine va_mmax hx hb (hml.trans hl.1.symm) hown (hts (.methodLink RX7 20 Lib.Math.max.name) (by decide +kernel)) (hts (.static Lib.Math.max.name) (by decide +kernel)) (hts (.initialized "java/lang/Math") (by decide +kernel)) (hts (.code Lib.Math.max.name Lib.Math.max.code 2 (some .int)) (by decide +kernel)) (Nat.le_of_ble_eq_true rfl) (Nat.le_of_ble_eq_true rfl) (Nat.zero_le _) (Nat.zero_le _) dX7_endFrom_5 ?_
  refine lv_aload_n hx hb dX7_endFrom_8 rfl (lv_at hl 0 rfl) ?_
  obtain ⟨k2, gk2, hk2⟩ := wGt (cy := cy) X S h_o1.1 h_o1.2.1
  refine va_get (D := D) (ci := 11) (v := .int (S.I o1 1)) (C := RX7) (T := TX7) (N := 4) hx hb hts hi_X7_endFrom_X7 hown hK hP k2 hk2 rfl 1 (by decide) (hts (.fieldLink RX7 13 "Hobhouse$Station" "time" "I") (by decide +kernel)) (fun _ h9 => h9) rfl dX7_endFrom_9 ?_
  refine lv_iadd hx hb dX7_endFrom_12 ?_
  refine W.widen (k := 0) (n := 0) (Nat.le_of_ble_eq_true rfl) (Nat.le_of_ble_eq_true rfl) ?_
  exact W.iret (v := (if x1 < (S.I o1 3) then (S.I o1 3) else x1) + (S.I o1 1)) hx hb hr (fun t ht hW9 => ⟨⟨(if x1 < (S.I o1 3) then (S.I o1 3) else x1) + (S.I o1 1), (), rfl, (by show ((if x1 < (S.I o1 3) then (S.I o1 3) else x1) + (S.I o1 1)) = f_X7_endFrom S o1 x1; unfold f_X7_endFrom; rfl), wd_end hP hK hD ht hW9.alike⟩, hS.F ht⟩) hS.2.2 dX7_endFrom_13 hlocks
