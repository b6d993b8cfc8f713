theorem nk_rng {a : Int32} (h : f_X9_needKind a = .ok ()) : 0 ≤ a.toInt ∧ a.toInt ≤ 255 := by
  rcases nk_i h with h | h | h | h <;> subst h <;> decide
theorem hi_X2_init_J4 : ∀ w ∈ u_ws RJ4 TJ4 4, w ∈ wsX2_init := by decide +kernel
theorem hi_X2_init_X1 : ∀ w ∈ u_ws RX1 TX1 3, w ∈ wsX2_init := by decide +kernel
theorem hi_X2_init_X2 : ∀ w ∈ u_ws RX2 TX2 20, w ∈ wsX2_init := by decide +kernel
set_option maxHeartbeats 4000000 in
set_option maxRecDepth 100000 in
theorem c_X2_init (l : Launch) {e0 mi : Nat} {D : va_G} {cy : Nat → ClassId} {X : va_W} (S : wPS) (sz : Nat) (o1 : Nat) (h_o1 : isA S o1 2) (x1 : Int32) (x2 : Int32) (x3 : Int32) (x4 : Int32) (x5 : Int32) (R : List Nat) (hW : wtB S (o1 :: R)) (hF0 : ∀ j, S.F o1 j = none) (hI0 : ∀ j, S.I o1 j = 0) (hr : (6 ≤ x2.toInt ∧ x2.toInt ≤ 200) ∧ (500 ≤ x3.toInt ∧ x3.toInt ≤ 10000) ∧ (-500 ≤ x4.toInt ∧ x4.toInt ≤ 500) ∧ 1000 ≤ x5.toInt ∧ x5.toInt ≤ 99999) : Met l yX2_init wsX2_init ({ frames := 3, cells := 5, slots := 423, locals := 53 }) (va_Pc [.ref o1, .int x1, .int x2, .int x3, .int x4, .int x5] (fun U => U.heap.size = sz ∧ WD D cy X (fun _ => True) S U ∧ NW U ∧ OU e0 mi (va_A (X ++ PL cy S) sz) U U.heap)) (va_Qv (fun (u : wPS) => stp ([] : List (Nat × Nat)) [o1] R S u ∧ isA u o1 2 ∧ u.I o1 0 = x1 ∧ u.I o1 1 = x2 ∧ u.I o1 2 = x3 ∧ u.I o1 3 = x4 ∧ u.I o1 4 = x5 ∧ u.I o1 7 = (0 : Int32) ∧ u.I o1 8 = (-1 : Int32) ∧ u.I o1 9 = (0 : Int32) ∧ u.I o1 10 = (0 : Int32) ∧ u.I o1 11 = (0 : Int32) ∧ u.I o1 12 = (0 : Int32) ∧ u.I o1 13 = (0 : Int32) ∧ u.I o1 14 = (0 : Int32) ∧ u.I o1 15 = (0 : Int32) ∧ u.I o1 16 = (0 : Int32) ∧ u.I o1 17 = (0 : Int32) ∧ u.I o1 19 = (-1 : Int32) ∧ u.f o1 6 ∉ S.L ∧ u.I (u.f o1 6) 3 = (0 : Int32) ∧ u.f (u.f o1 6) 0 ∉ S.L) (fun u t => WD D cy X (va_A (X ++ PL cy S) sz) u t) (va_A (X ++ PL cy S) sz)) 5 423 (va_A (X ++ PL cy S) sz) := by
  refine Met.ofW (cc := cX2_init) (maxL := 6) (ret := none) (by decide) rfl ?_
  intro p e s m args below meth c s₁ B hml hv
  obtain ⟨rfl, hsz, ⟨hP, hK, hD0⟩, hN, hOU⟩ := hv
  have hx := B.exec
  have hb := B.bytes
  have hr := B.returns
  have hts := atoms_spec (ws := wsX2_init) B.pre
  have hown : s.vm.findClass RX2 = some m.cls := findClass_of_methodNamed (x := yX2_init) B.named
  have hlocks := B.notSynchronized
  have hin : meth.name = "<init>" := (name_of_methodNamed B.named B.method).1
  subst hsz
  have hD := hD0.self (sz := s.heap.size)
  generalize hAe : va_A (X ++ PL cy S) s.heap.size = A at hD hOU ⊢
  have hA : ∀ q : Nat, s.heap.size ≤ q → A q := fun q h => by rw [← hAe]; exact Or.inr h
  have hS : va_S A s.heap s.heap [] := va_S.rf
  have hl := lv_entry ([.ref o1, .int x1, .int x2, .int x3, .int x4, .int x5]) (n := 6) (Nat.le_of_ble_eq_true rfl)
  rw [lg_entry_eq]
  generalize (lg_sl ([.ref o1, .int x1, .int x2, .int x3, .int x4, .int x5]) ++ List.replicate (6 - (lg_sl ([.ref o1, .int x1, .int x2, .int x3, .int x4, .int x5])).length) Slot.unset).toArray = ls at hl ⊢
  have hl : lv_has ls 6 [(0, .ref o1), (1, .int x1), (2, .int x2), (3, .int x3), (4, .int x4), (5, .int x5)] := hl
  obtain ⟨⟨ga, gZ, gX, gl, gA⟩, ⟨sa9, sZ, sX, sl9, sA⟩, cZ, eZ, eX, el, eA, hMi, hDc, ⟨pf, pZ⟩⟩ := id hOU
  have t0 : stp ([] : List (Nat × Nat)) [o1] (o1 :: R) S S := stp.rf hW
  refine lv_aload_n hx hb dX2_init_0 rfl (lv_at hl 0 rfl) ?_
  refine W.objInit hx hb hown (hts (.methodLink RX2 3 objectInit) (by decide +kernel)) (hts (.instanceMethod objectInit) (by decide +kernel)) (hts (.code objectInit ⟨#[0xb1]⟩ 1 none) (by decide +kernel)) rfl (by rw [hml]; exact hl.1) rfl dX2_init_1 (Nat.le_of_ble_eq_true rfl) (Nat.le_of_ble_eq_true rfl) ?_
  refine W.eq (g2 := F0 m 4 ls []) rfl ?_
  refine lv_aload_n hx hb dX2_init_4 rfl (lv_at hl 0 rfl) ?_
  refine lv_iload_n hx hb dX2_init_5 rfl (lv_at hl 1 rfl) ?_
  obtain ⟨k1, gk1, hk1⟩ := wGt (cy := cy) X S h_o1.1 h_o1.2.1
  refine va_putF (D := D) (ci := 6) (v := .int x1) (ty := .int) (C := RX2) (T := TX2) (N := 20) hx hb hts hi_X2_init_X2 tyX2 tyX2_ok nmX2 hown hK hP hD hS k1 hk1 rfl 0 (by decide) (hts (.fieldLink RX2 9 "Hobhouse$Gear" "number" "I") (by decide +kernel)) (fun _ h9 => h9) rfl hin rfl (by decide +kernel) (rfl) (rfl) (Nat.le_of_ble_eq_true rfl) dX2_init_6 (fun H locs hP2 hD2 hS => ?_)
  have e9 := wPuI (cy := cy) (j := 0) (v := x1) hD h_o1.1 h_o1.2.1 gk1 rfl
  obtain ⟨S2, hS2⟩ : ∃ z, S.sI o1 0 x1 = z := ⟨_, rfl⟩
  have hP : va_P D vwCl (X ++ PL cy S2) H := by rw [← hS2, ← e9]; exact hP2
  have hD : va_D A (X ++ PL cy S2) := by rw [← hS2, ← e9]; exact hD2
  have xe3 : ext S S2 := by rw [← hS2]; exact ext.sI _ _ _ _
  have t4 : stp ([] : List (Nat × Nat)) [o1] (o1 :: R) S S2 := by rw [← hS2]; exact t0.Ir 0 x1 List.mem_cons_self (Or.inl List.mem_cons_self)
  refine lv_aload_n hx hb dX2_init_9 rfl (lv_at hl 0 rfl) ?_
  refine lv_iload_n hx hb dX2_init_10 rfl (lv_at hl 2 rfl) ?_
  obtain ⟨k5, gk5, hk5⟩ := wGt (cy := cy) X S2 (xe3.A h_o1).1 (xe3.A h_o1).2.1
  refine va_putF (D := D) (ci := 6) (v := .int x2) (ty := .int) (C := RX2) (T := TX2) (N := 20) hx hb hts hi_X2_init_X2 tyX2 tyX2_ok nmX2 hown hK hP hD hS k5 hk5 rfl 1 (by decide) (hts (.fieldLink RX2 15 "Hobhouse$Gear" "teeth" "I") (by decide +kernel)) (fun _ h9 => h9) rfl hin rfl (by decide +kernel) (rfl) (rfl) (Nat.le_of_ble_eq_true rfl) dX2_init_11 (fun H locs hP2 hD2 hS => ?_)
  have e9 := wPuI (cy := cy) (j := 1) (v := x2) hD (xe3.A h_o1).1 (xe3.A h_o1).2.1 gk5 rfl
  obtain ⟨S6, hS6⟩ : ∃ z, S2.sI o1 1 x2 = z := ⟨_, rfl⟩
  have hP : va_P D vwCl (X ++ PL cy S6) H := by rw [← hS6, ← e9]; exact hP2
  have hD : va_D A (X ++ PL cy S6) := by rw [← hS6, ← e9]; exact hD2
  have xe7 : ext S2 S6 := by rw [← hS6]; exact ext.sI _ _ _ _
  have t8 : stp ([] : List (Nat × Nat)) [o1] (o1 :: R) S S6 := by rw [← hS6]; exact t4.Ir 1 x2 List.mem_cons_self (Or.inl List.mem_cons_self)
  refine lv_aload_n hx hb dX2_init_14 rfl (lv_at hl 0 rfl) ?_
  refine lv_iload_n hx hb dX2_init_15 rfl (lv_at hl 3 rfl) ?_
  obtain ⟨k9, gk9, hk9⟩ := wGt (cy := cy) X S6 (xe7.A (xe3.A h_o1)).1 (xe7.A (xe3.A h_o1)).2.1
  refine va_putF (D := D) (ci := 6) (v := .int x3) (ty := .int) (C := RX2) (T := TX2) (N := 20) hx hb hts hi_X2_init_X2 tyX2 tyX2_ok nmX2 hown hK hP hD hS k9 hk9 rfl 2 (by decide) (hts (.fieldLink RX2 18 "Hobhouse$Gear" "module" "I") (by decide +kernel)) (fun _ h9 => h9) rfl hin rfl (by decide +kernel) (rfl) (rfl) (Nat.le_of_ble_eq_true rfl) dX2_init_16 (fun H locs hP2 hD2 hS => ?_)
  have e9 := wPuI (cy := cy) (j := 2) (v := x3) hD (xe7.A (xe3.A h_o1)).1 (xe7.A (xe3.A h_o1)).2.1 gk9 rfl
  obtain ⟨S10, hS10⟩ : ∃ z, S6.sI o1 2 x3 = z := ⟨_, rfl⟩
  have hP : va_P D vwCl (X ++ PL cy S10) H := by rw [← hS10, ← e9]; exact hP2
  have hD : va_D A (X ++ PL cy S10) := by rw [← hS10, ← e9]; exact hD2
  have xe11 : ext S6 S10 := by rw [← hS10]; exact ext.sI _ _ _ _
  have t12 : stp ([] : List (Nat × Nat)) [o1] (o1 :: R) S S10 := by rw [← hS10]; exact t8.Ir 2 x3 List.mem_cons_self (Or.inl List.mem_cons_self)
  refine lv_aload_n hx hb dX2_init_19 rfl (lv_at hl 0 rfl) ?_
  refine lv_iload hx hb dX2_init_20 (lv_at hl 4 rfl) ?_
  obtain ⟨k13, gk13, hk13⟩ := wGt (cy := cy) X S10 (xe11.A (xe7.A (xe3.A h_o1))).1 (xe11.A (xe7.A (xe3.A h_o1))).2.1
  refine va_putF (D := D) (ci := 6) (v := .int x4) (ty := .int) (C := RX2) (T := TX2) (N := 20) hx hb hts hi_X2_init_X2 tyX2 tyX2_ok nmX2 hown hK hP hD hS k13 hk13 rfl 3 (by decide) (hts (.fieldLink RX2 21 "Hobhouse$Gear" "helix" "I") (by decide +kernel)) (fun _ h9 => h9) rfl hin rfl (by decide +kernel) (rfl) (rfl) (Nat.le_of_ble_eq_true rfl) dX2_init_22 (fun H locs hP2 hD2 hS => ?_)
  have e9 := wPuI (cy := cy) (j := 3) (v := x4) hD (xe11.A (xe7.A (xe3.A h_o1))).1 (xe11.A (xe7.A (xe3.A h_o1))).2.1 gk13 rfl
  obtain ⟨S14, hS14⟩ : ∃ z, S10.sI o1 3 x4 = z := ⟨_, rfl⟩
  have hP : va_P D vwCl (X ++ PL cy S14) H := by rw [← hS14, ← e9]; exact hP2
  have hD : va_D A (X ++ PL cy S14) := by rw [← hS14, ← e9]; exact hD2
  have xe15 : ext S10 S14 := by rw [← hS14]; exact ext.sI _ _ _ _
  have t16 : stp ([] : List (Nat × Nat)) [o1] (o1 :: R) S S14 := by rw [← hS14]; exact t12.Ir 3 x4 List.mem_cons_self (Or.inl List.mem_cons_self)
  refine lv_aload_n hx hb dX2_init_25 rfl (lv_at hl 0 rfl) ?_
  refine lv_iload hx hb dX2_init_26 (lv_at hl 5 rfl) ?_
  obtain ⟨k17, gk17, hk17⟩ := wGt (cy := cy) X S14 (xe15.A (xe11.A (xe7.A (xe3.A h_o1)))).1 (xe15.A (xe11.A (xe7.A (xe3.A h_o1)))).2.1
  refine va_putF (D := D) (ci := 6) (v := .int x5) (ty := .int) (C := RX2) (T := TX2) (N := 20) hx hb hts hi_X2_init_X2 tyX2 tyX2_ok nmX2 hown hK hP hD hS k17 hk17 rfl 4 (by decide) (hts (.fieldLink RX2 24 "Hobhouse$Gear" "width" "I") (by decide +kernel)) (fun _ h9 => h9) rfl hin rfl (by decide +kernel) (rfl) (rfl) (Nat.le_of_ble_eq_true rfl) dX2_init_28 (fun H locs hP2 hD2 hS => ?_)
  have e9 := wPuI (cy := cy) (j := 4) (v := x5) hD (xe15.A (xe11.A (xe7.A (xe3.A h_o1)))).1 (xe15.A (xe11.A (xe7.A (xe3.A h_o1)))).2.1 gk17 rfl
  obtain ⟨S18, hS18⟩ : ∃ z, S14.sI o1 4 x5 = z := ⟨_, rfl⟩
  have hP : va_P D vwCl (X ++ PL cy S18) H := by rw [← hS18, ← e9]; exact hP2
  have hD : va_D A (X ++ PL cy S18) := by rw [← hS18, ← e9]; exact hD2
  have xe19 : ext S14 S18 := by rw [← hS18]; exact ext.sI _ _ _ _
  have t20 : stp ([] : List (Nat × Nat)) [o1] (o1 :: R) S S18 := by rw [← hS18]; exact t16.Ir 4 x5 List.mem_cons_self (Or.inl List.mem_cons_self)
  refine lv_aload_n hx hb dX2_init_31 rfl (lv_at hl 0 rfl) ?_
  refine va_new (ci := 5) (fs := [.null, .null, .int 0]) (C := RX1) (T := TX1) (N := 3) hx hb hts hi_X2_init_X1 tyX1 tyX1_ok hown (hts (.classLink RX2 27 RX1) (by decide +kernel)) (hts (.instantiable RX1 3) (by decide +kernel)) (hts (.initialized RX1) (by decide +kernel)) hK hP hD hS hA rfl (fun j hj => by rcases (show j = 0 ∨ j = 1 ∨ j = 2 by omega) with rfl | rfl | rfl <;> rfl) (Nat.le_of_ble_eq_true rfl) (Nat.le_of_ble_eq_true rfl) dX2_init_32 (fun qa21 H hP2 hD2 hS => ?_)
  have hqa21 : qa21 ∉ S18.L := nw_q hD2
  have e9 := wNw (cy := cy) (X := X) (S := S18) (a := qa21) (k := 1) (z := 0) (f := fun _ => 0) (g := fun _ => none) hqa21 rfl
  obtain ⟨S22, hS22⟩ : ∃ z, S18.nw qa21 1 0 (fun _ => 0) (fun _ => none) = z := ⟨_, rfl⟩
  have hP : va_P D vwCl (X ++ PL cy S22) H := by rw [← hS22, ← e9]; exact hP2
  have hD : va_D A (X ++ PL cy S22) := by rw [← hS22, ← e9]; exact hD2
  have xe23 : ext S18 S22 := by rw [← hS22]; exact ext.nw hqa21
  have t24 : stp ([] : List (Nat × Nat)) [o1] (qa21 :: (o1 :: R)) S S22 := by rw [← hS22]; exact t20.nw hqa21 (Or.inl (by decide))
  refine W.widen (k := 1) (n := 3) (Nat.le_of_ble_eq_true rfl) (Nat.le_of_ble_eq_true rfl) ?_
  have aqa21 : isA S22 qa21 1 := by rw [← hS22]; exact nw_A (by decide)
  have fqa21 : ∀ j, S22.F qa21 j = none := by rw [← hS22]; exact nw_F
  have iqa21 : ∀ j, S22.I qa21 j = 0 := by rw [← hS22]; exact nw_I
  have bqa21 : qa21 ∉ S.L := fun e => hqa21 ((xe3.tr (xe7.tr (xe11.tr (xe15.tr xe19)))) _ e).1
  refine lv_dup hx hb dX2_init_35 rfl ?_
  refine lv_iload_n hx hb dX2_init_36 rfl (lv_at hl 2 rfl) ?_
  have hFc := free_all hD hS hA
  refine va_callv (va_runI (As := [.int x2]) (rest := [.ref qa21, .ref o1]) ⟨hx, hb, hml, hown, hts⟩ (c_X1_init l (cy := cy) (X := X) (D := D) S22 _ qa21 aqa21 x2 (o1 :: R) (t24.w) fqa21 iqa21 (by omega)) (cwI 1 hts gX2_init_X1_init rfl rfl rfl (hts (.initialized RX1) (by decide +kernel)) (hts (.methodLink RX2 29 yX1_init) (by decide +kernel)) (hts (.instanceMethod yX1_init) (by decide +kernel)) rfl (by decide +kernel) ⟨Nat.le_of_ble_eq_true rfl, Nat.le_of_ble_eq_true rfl⟩) (pS hP hK hD hN) rfl rfl hl.1 rfl (lv_room (Nat.le_of_ble_eq_true rfl)) dX2_init_37 ⟨Nat.le_of_ble_eq_true rfl, Nat.le_of_ble_eq_true rfl⟩) hS (fun q _ h => hFc q h) hFc (fun u t H1 locs ht hvm hw hB hz1 hk1 hS => ?_)
  obtain ⟨w26, y27, y28⟩ := hw
  obtain ⟨hP, hD⟩ := wd_post hFc ht hB
  generalize H1 = H at hP hS ⊢
  obtain ⟨S29, rfl⟩ : ∃ z, z = u := ⟨_, rfl⟩
  have t30 : stp ([] : List (Nat × Nat)) [o1] (o1 :: R) S S29 := t24.tr w26 (by decide) (fun z q => by rw [List.mem_singleton.mp q]; exact (Or.inr bqa21))
  have xe31 : ext S22 S29 := w26.x
  have o33 : isA S29 o1 2 := ((xe19.tr (xe23.tr xe31)).A (xe15.A (xe11.A (xe7.A (xe3.A h_o1)))))
  obtain ⟨k32, gk32, hk32⟩ := wGt (cy := cy) X S29 o33.1 o33.2.1
  refine va_putF (D := D) (ci := 6) (v := .ref qa21) (ty := (tyX2 5)) (C := RX2) (T := TX2) (N := 20) hx hb hts hi_X2_init_X2 tyX2 tyX2_ok nmX2 hown hK hP hD hS k32 hk32 rfl 5 (by decide) (hts (.fieldLink RX2 32 "Hobhouse$Gear" "chart" "LHobhouse$Chart;") (by decide +kernel)) (fun _ h9 => h9) rfl hin rfl (by decide +kernel) (rfl) (rfl) (Nat.le_of_ble_eq_true rfl) dX2_init_40 (fun H locs hP2 hD2 hS => ?_)
  have e9 := wPuF (cy := cy) (j := 5) (v := (some qa21)) hD o33.1 o33.2.1 gk32 rfl
  obtain ⟨S34, hS34⟩ : ∃ z, S29.sF o1 5 (some qa21) = z := ⟨_, rfl⟩
  have hP : va_P D vwCl (X ++ PL cy S34) H := by rw [← hS34, ← e9]; exact hP2
  have hD : va_D A (X ++ PL cy S34) := by rw [← hS34, ← e9]; exact hD2
  have xe35 : ext S29 S34 := by rw [← hS34]; exact ext.sF (by rw [(w26.fR o1 ((xe3.tr (xe7.tr (xe11.tr (xe15.tr (xe19.tr xe23))))).A h_o1).1 (by rw [List.mem_singleton]; exact fun e => hqa21 (e ▸ ((xe3.tr (xe7.tr (xe11.tr (xe15.tr xe19)))).A h_o1).1))).2.2.2.resolve_left (by rw [((xe3.tr (xe7.tr (xe11.tr (xe15.tr (xe19.tr xe23))))).A h_o1).2.1]; decide)]; rw [← hS22, nw_Fo hqa21 ((xe3.tr (xe7.tr (xe11.tr (xe15.tr xe19)))).A h_o1).1]; rw [← hS18]; show S14.F o1 5 = none; rw [← hS14]; show S10.F o1 5 = none; rw [← hS10]; show S6.F o1 5 = none; rw [← hS6]; show S2.F o1 5 = none; rw [← hS2]; show S.F o1 5 = none; exact hF0 5)
  have t36 : stp ([] : List (Nat × Nat)) [o1] (o1 :: R) S S34 := by rw [← hS34]; exact t30.F 5 qa21 List.mem_cons_self (Or.inl List.mem_cons_self) (by rw [(w26.fR o1 ((xe3.tr (xe7.tr (xe11.tr (xe15.tr (xe19.tr xe23))))).A h_o1).1 (by rw [List.mem_singleton]; exact fun e => hqa21 (e ▸ ((xe3.tr (xe7.tr (xe11.tr (xe15.tr xe19)))).A h_o1).1))).2.2.2.resolve_left (by rw [((xe3.tr (xe7.tr (xe11.tr (xe15.tr (xe19.tr xe23))))).A h_o1).2.1]; decide)]; rw [← hS22, nw_Fo hqa21 ((xe3.tr (xe7.tr (xe11.tr (xe15.tr xe19)))).A h_o1).1]; rw [← hS18]; show S14.F o1 5 = none; rw [← hS14]; show S10.F o1 5 = none; rw [← hS10]; show S6.F o1 5 = none; rw [← hS6]; show S2.F o1 5 = none; rw [← hS2]; show S.F o1 5 = none; exact hF0 5)
  have F37 : S34.F o1 5 = some qa21 := by rw [← hS34]; exact sF_eq
  refine lv_aload_n hx hb dX2_init_43 rfl (lv_at hl 0 rfl) ?_
  refine va_new (ci := 1) (fs := [.null, .int 0, .int 0, .int 0]) (C := RJ4) (T := TJ4) (N := 4) hx hb hts hi_X2_init_J4 tyJ4 tyJ4_ok hown (hts (.classLink RX2 36 RJ4) (by decide +kernel)) (hts (.instantiable RJ4 4) (by decide +kernel)) (hts (.initialized RJ4) (by decide +kernel)) hK hP hD hS hA rfl (fun j hj => by rcases (show j = 0 ∨ j = 1 ∨ j = 2 ∨ j = 3 by omega) with rfl | rfl | rfl | rfl <;> rfl) (Nat.le_of_ble_eq_true rfl) (Nat.le_of_ble_eq_true rfl) dX2_init_44 (fun qa38 H hP2 hD2 hS => ?_)
  have hqa38 : qa38 ∉ S34.L := nw_q hD2
  have e9 := wNw (cy := cy) (X := X) (S := S34) (a := qa38) (k := 13) (z := 0) (f := fun _ => 0) (g := fun _ => none) hqa38 rfl
  obtain ⟨S39, hS39⟩ : ∃ z, S34.nw qa38 13 0 (fun _ => 0) (fun _ => none) = z := ⟨_, rfl⟩
  have hP : va_P D vwCl (X ++ PL cy S39) H := by rw [← hS39, ← e9]; exact hP2
  have hD : va_D A (X ++ PL cy S39) := by rw [← hS39, ← e9]; exact hD2
  have xe40 : ext S34 S39 := by rw [← hS39]; exact ext.nw hqa38
  have t41 : stp ([] : List (Nat × Nat)) [o1] (qa38 :: (o1 :: R)) S S39 := by rw [← hS39]; exact t36.nw hqa38 (Or.inl (by decide))
  refine W.widen (k := 4) (n := 407) (Nat.le_of_ble_eq_true rfl) (Nat.le_of_ble_eq_true rfl) ?_
  have aqa38 : isA S39 qa38 13 := by rw [← hS39]; exact nw_A (by decide)
  have fqa38 : ∀ j, S39.F qa38 j = none := by rw [← hS39]; exact nw_F
  have iqa38 : ∀ j, S39.I qa38 j = 0 := by rw [← hS39]; exact nw_I
  have bqa38 : qa38 ∉ S.L := fun e => hqa38 ((xe3.tr (xe7.tr (xe11.tr (xe15.tr (xe19.tr (xe23.tr (xe31.tr xe35))))))) _ e).1
  refine lv_dup hx hb dX2_init_47 rfl ?_
  have hFc := free_all hD hS hA
  refine va_callv (va_runI (As := []) (rest := [.ref qa38, .ref o1]) ⟨hx, hb, hml, hown, hts⟩ (c_J4_init_da8c8 l (e0 := e0) (mi := mi) (cy := cy) (X := X) (D := D) S39 _ qa38 aqa38 (o1 :: R) (t41.w) fqa38 iqa38) (cwI 0 hts gX2_init_J4_init_da8c8 rfl rfl rfl (hts (.initialized RJ4) (by decide +kernel)) (hts (.methodLink RX2 38 yJ4_init_da8c8) (by decide +kernel)) (hts (.instanceMethod yJ4_init_da8c8) (by decide +kernel)) rfl (by decide +kernel) ⟨Nat.le_of_ble_eq_true rfl, Nat.le_of_ble_eq_true rfl⟩) (pSo hP hK hD hN hOU hS hFc) rfl rfl hl.1 rfl (lv_room (Nat.le_of_ble_eq_true rfl)) dX2_init_48 ⟨Nat.le_of_ble_eq_true rfl, Nat.le_of_ble_eq_true rfl⟩) hS (fun q _ h => hFc q h) hFc (fun u t H1 locs ht hvm hw hB hz1 hk1 hS => ?_)
  obtain ⟨w43, y44, y45, y46, y47, y48⟩ := hw
  obtain ⟨hP, hD⟩ := wd_post hFc ht hB
  generalize H1 = H at hP hS ⊢
  obtain ⟨S49, rfl⟩ : ∃ z, z = u := ⟨_, rfl⟩
  have t50 : stp ([] : List (Nat × Nat)) [o1] (o1 :: R) S S49 := t41.tr w43 (by decide) (fun z q => by rw [List.mem_singleton.mp q]; exact (Or.inr bqa38))
  have xe51 : ext S39 S49 := w43.x
  obtain ⟨k52, gk52, hk52⟩ := wGt (cy := cy) X S49 ((xe35.tr (xe40.tr xe51)).A o33).1 ((xe35.tr (xe40.tr xe51)).A o33).2.1
  refine va_putF (D := D) (ci := 6) (v := .ref qa38) (ty := (tyX2 6)) (C := RX2) (T := TX2) (N := 20) hx hb hts hi_X2_init_X2 tyX2 tyX2_ok nmX2 hown hK hP hD hS k52 hk52 rfl 6 (by decide) (hts (.fieldLink RX2 39 "Hobhouse$Gear" "way" "Ljava/lang/StringBuilder;") (by decide +kernel)) (fun _ h9 => h9) rfl hin rfl (by decide +kernel) (rfl) (rfl) (Nat.le_of_ble_eq_true rfl) dX2_init_51 (fun H locs hP2 hD2 hS => ?_)
  have e9 := wPuF (cy := cy) (j := 6) (v := (some qa38)) hD ((xe35.tr (xe40.tr xe51)).A o33).1 ((xe35.tr (xe40.tr xe51)).A o33).2.1 gk52 rfl
  obtain ⟨S53, hS53⟩ : ∃ z, S49.sF o1 6 (some qa38) = z := ⟨_, rfl⟩
  have hP : va_P D vwCl (X ++ PL cy S53) H := by rw [← hS53, ← e9]; exact hP2
  have hD : va_D A (X ++ PL cy S53) := by rw [← hS53, ← e9]; exact hD2
  have xe54 : ext S49 S53 := by rw [← hS53]; exact ext.sF (by rw [(w43.fR o1 ((xe3.tr (xe7.tr (xe11.tr (xe15.tr (xe19.tr (xe23.tr (xe31.tr (xe35.tr xe40)))))))).A h_o1).1 (by rw [List.mem_singleton]; exact fun e => hqa38 (e ▸ ((xe3.tr (xe7.tr (xe11.tr (xe15.tr (xe19.tr (xe23.tr (xe31.tr xe35))))))).A h_o1).1))).2.2.2.resolve_left (by rw [((xe3.tr (xe7.tr (xe11.tr (xe15.tr (xe19.tr (xe23.tr (xe31.tr (xe35.tr xe40)))))))).A h_o1).2.1]; decide)]; rw [← hS39, nw_Fo hqa38 ((xe3.tr (xe7.tr (xe11.tr (xe15.tr (xe19.tr (xe23.tr (xe31.tr xe35))))))).A h_o1).1]; rw [← hS34, sF_ne (fun q9 => absurd q9.2 (by decide))]; rw [(w26.fR o1 ((xe3.tr (xe7.tr (xe11.tr (xe15.tr (xe19.tr xe23))))).A h_o1).1 (by rw [List.mem_singleton]; exact fun e => hqa21 (e ▸ ((xe3.tr (xe7.tr (xe11.tr (xe15.tr xe19)))).A h_o1).1))).2.2.2.resolve_left (by rw [((xe3.tr (xe7.tr (xe11.tr (xe15.tr (xe19.tr xe23))))).A h_o1).2.1]; decide)]; rw [← hS22, nw_Fo hqa21 ((xe3.tr (xe7.tr (xe11.tr (xe15.tr xe19)))).A h_o1).1]; rw [← hS18]; show S14.F o1 6 = none; rw [← hS14]; show S10.F o1 6 = none; rw [← hS10]; show S6.F o1 6 = none; rw [← hS6]; show S2.F o1 6 = none; rw [← hS2]; show S.F o1 6 = none; exact hF0 6)
  have t55 : stp ([] : List (Nat × Nat)) [o1] (o1 :: R) S S53 := by rw [← hS53]; exact t50.F 6 qa38 List.mem_cons_self (Or.inl List.mem_cons_self) (by rw [(w43.fR o1 ((xe3.tr (xe7.tr (xe11.tr (xe15.tr (xe19.tr (xe23.tr (xe31.tr (xe35.tr xe40)))))))).A h_o1).1 (by rw [List.mem_singleton]; exact fun e => hqa38 (e ▸ ((xe3.tr (xe7.tr (xe11.tr (xe15.tr (xe19.tr (xe23.tr (xe31.tr xe35))))))).A h_o1).1))).2.2.2.resolve_left (by rw [((xe3.tr (xe7.tr (xe11.tr (xe15.tr (xe19.tr (xe23.tr (xe31.tr (xe35.tr xe40)))))))).A h_o1).2.1]; decide)]; rw [← hS39, nw_Fo hqa38 ((xe3.tr (xe7.tr (xe11.tr (xe15.tr (xe19.tr (xe23.tr (xe31.tr xe35))))))).A h_o1).1]; rw [← hS34, sF_ne (fun q9 => absurd q9.2 (by decide))]; rw [(w26.fR o1 ((xe3.tr (xe7.tr (xe11.tr (xe15.tr (xe19.tr xe23))))).A h_o1).1 (by rw [List.mem_singleton]; exact fun e => hqa21 (e ▸ ((xe3.tr (xe7.tr (xe11.tr (xe15.tr xe19)))).A h_o1).1))).2.2.2.resolve_left (by rw [((xe3.tr (xe7.tr (xe11.tr (xe15.tr (xe19.tr xe23))))).A h_o1).2.1]; decide)]; rw [← hS22, nw_Fo hqa21 ((xe3.tr (xe7.tr (xe11.tr (xe15.tr xe19)))).A h_o1).1]; rw [← hS18]; show S14.F o1 6 = none; rw [← hS14]; show S10.F o1 6 = none; rw [← hS10]; show S6.F o1 6 = none; rw [← hS6]; show S2.F o1 6 = none; rw [← hS2]; show S.F o1 6 = none; exact hF0 6)
  have F56 : S53.F o1 6 = some qa38 := by rw [← hS53]; exact sF_eq
  refine lv_aload_n hx hb dX2_init_54 rfl (lv_at hl 0 rfl) ?_
  refine lv_iconst (v := -1) hx hb dX2_init_55 (by decide) ?_
  obtain ⟨k57, gk57, hk57⟩ := wGt (cy := cy) X S53 (xe54.A ((xe35.tr (xe40.tr xe51)).A o33)).1 (xe54.A ((xe35.tr (xe40.tr xe51)).A o33)).2.1
  refine va_put (D := D) (ci := 6) (v := .int (-1 : Int32)) (ty := .int) (C := RX2) (T := TX2) (N := 20) hx hb hts hi_X2_init_X2 tyX2 tyX2_ok nmX2 hown hK hP hD hS k57 hk57 rfl 8 (by decide) (hts (.fieldLink RX2 43 "Hobhouse$Gear" "room" "I") (by decide +kernel)) (fun _ h9 => h9) rfl (by decide +kernel) (rfl) (rfl) (Nat.le_of_ble_eq_true rfl) dX2_init_56 (fun H locs hP2 hD2 hS => ?_)
  have e9 := wPuI (cy := cy) (j := 8) (v := (-1 : Int32)) hD (xe54.A ((xe35.tr (xe40.tr xe51)).A o33)).1 (xe54.A ((xe35.tr (xe40.tr xe51)).A o33)).2.1 gk57 rfl
  obtain ⟨S58, hS58⟩ : ∃ z, S53.sI o1 8 (-1 : Int32) = z := ⟨_, rfl⟩
  have hP : va_P D vwCl (X ++ PL cy S58) H := by rw [← hS58, ← e9]; exact hP2
  have hD : va_D A (X ++ PL cy S58) := by rw [← hS58, ← e9]; exact hD2
  have xe59 : ext S53 S58 := by rw [← hS58]; exact ext.sI _ _ _ _
  have t60 : stp ([] : List (Nat × Nat)) [o1] (o1 :: R) S S58 := by rw [← hS58]; exact t55.Ir 8 (-1 : Int32) List.mem_cons_self (Or.inl List.mem_cons_self)
  refine lv_aload_n hx hb dX2_init_59 rfl (lv_at hl 0 rfl) ?_
  refine lv_iconst (v := -1) hx hb dX2_init_60 (by decide) ?_
  obtain ⟨k61, gk61, hk61⟩ := wGt (cy := cy) X S58 (xe59.A (xe54.A ((xe35.tr (xe40.tr xe51)).A o33))).1 (xe59.A (xe54.A ((xe35.tr (xe40.tr xe51)).A o33))).2.1
  refine va_put (D := D) (ci := 6) (v := .int (-1 : Int32)) (ty := .int) (C := RX2) (T := TX2) (N := 20) hx hb hts hi_X2_init_X2 tyX2 tyX2_ok nmX2 hown hK hP hD hS k61 hk61 rfl 19 (by decide) (hts (.fieldLink RX2 46 "Hobhouse$Gear" "mateNumber" "I") (by decide +kernel)) (fun _ h9 => h9) rfl (by decide +kernel) (rfl) (rfl) (Nat.le_of_ble_eq_true rfl) dX2_init_61 (fun H locs hP2 hD2 hS => ?_)
  have e9 := wPuI (cy := cy) (j := 19) (v := (-1 : Int32)) hD (xe59.A (xe54.A ((xe35.tr (xe40.tr xe51)).A o33))).1 (xe59.A (xe54.A ((xe35.tr (xe40.tr xe51)).A o33))).2.1 gk61 rfl
  obtain ⟨S62, hS62⟩ : ∃ z, S58.sI o1 19 (-1 : Int32) = z := ⟨_, rfl⟩
  have hP : va_P D vwCl (X ++ PL cy S62) H := by rw [← hS62, ← e9]; exact hP2
  have hD : va_D A (X ++ PL cy S62) := by rw [← hS62, ← e9]; exact hD2
  have xe63 : ext S58 S62 := by rw [← hS62]; exact ext.sI _ _ _ _
  have t64 : stp ([] : List (Nat × Nat)) [o1] (o1 :: R) S S62 := by rw [← hS62]; exact t60.Ir 19 (-1 : Int32) List.mem_cons_self (Or.inl List.mem_cons_self)
  have oo : isA S62 o1 2 := (xe63.A (xe59.A (xe54.A ((xe35.tr (xe40.tr xe51)).A o33))))
  have I0 : S62.I o1 0 = x1 := (by rw [← hS62, sI_I (by rintro ⟨e1, e2⟩; exact absurd e2 (by decide))]; rw [← hS58, sI_I (by rintro ⟨e1, e2⟩; exact absurd e2 (by decide))]; rw [← hS53]; show S49.I o1 0 = _; rw [((w43.fR o1 ((xe3.tr (xe7.tr (xe11.tr (xe15.tr (xe19.tr (xe23.tr (xe31.tr (xe35.tr xe40)))))))).A h_o1).1 (by rw [List.mem_singleton]; exact fun e => hqa38 (e ▸ ((xe3.tr (xe7.tr (xe11.tr (xe15.tr (xe19.tr (xe23.tr (xe31.tr xe35))))))).A h_o1).1))).1 0 (by rw [((xe3.tr (xe7.tr (xe11.tr (xe15.tr (xe19.tr (xe23.tr (xe31.tr (xe35.tr xe40)))))))).A h_o1).2.1]; decide)).1]; rw [← hS39, nw_Io hqa38 ((xe3.tr (xe7.tr (xe11.tr (xe15.tr (xe19.tr (xe23.tr (xe31.tr xe35))))))).A h_o1).1]; rw [← hS34]; show S29.I o1 0 = _; rw [((w26.fR o1 ((xe3.tr (xe7.tr (xe11.tr (xe15.tr (xe19.tr xe23))))).A h_o1).1 (by rw [List.mem_singleton]; exact fun e => hqa21 (e ▸ ((xe3.tr (xe7.tr (xe11.tr (xe15.tr xe19)))).A h_o1).1))).1 0 (by rw [((xe3.tr (xe7.tr (xe11.tr (xe15.tr (xe19.tr xe23))))).A h_o1).2.1]; decide)).1]; rw [← hS22, nw_Io hqa21 ((xe3.tr (xe7.tr (xe11.tr (xe15.tr xe19)))).A h_o1).1]; rw [← hS18, sI_I (by rintro ⟨e1, e2⟩; exact absurd e2 (by decide))]; rw [← hS14, sI_I (by rintro ⟨e1, e2⟩; exact absurd e2 (by decide))]; rw [← hS10, sI_I (by rintro ⟨e1, e2⟩; exact absurd e2 (by decide))]; rw [← hS6, sI_I (by rintro ⟨e1, e2⟩; exact absurd e2 (by decide))]; rw [← hS2, sI_eq])
  have I1 : S62.I o1 1 = x2 := (by rw [← hS62, sI_I (by rintro ⟨e1, e2⟩; exact absurd e2 (by decide))]; rw [← hS58, sI_I (by rintro ⟨e1, e2⟩; exact absurd e2 (by decide))]; rw [← hS53]; show S49.I o1 1 = _; rw [((w43.fR o1 ((xe3.tr (xe7.tr (xe11.tr (xe15.tr (xe19.tr (xe23.tr (xe31.tr (xe35.tr xe40)))))))).A h_o1).1 (by rw [List.mem_singleton]; exact fun e => hqa38 (e ▸ ((xe3.tr (xe7.tr (xe11.tr (xe15.tr (xe19.tr (xe23.tr (xe31.tr xe35))))))).A h_o1).1))).1 1 (by rw [((xe3.tr (xe7.tr (xe11.tr (xe15.tr (xe19.tr (xe23.tr (xe31.tr (xe35.tr xe40)))))))).A h_o1).2.1]; decide)).1]; rw [← hS39, nw_Io hqa38 ((xe3.tr (xe7.tr (xe11.tr (xe15.tr (xe19.tr (xe23.tr (xe31.tr xe35))))))).A h_o1).1]; rw [← hS34]; show S29.I o1 1 = _; rw [((w26.fR o1 ((xe3.tr (xe7.tr (xe11.tr (xe15.tr (xe19.tr xe23))))).A h_o1).1 (by rw [List.mem_singleton]; exact fun e => hqa21 (e ▸ ((xe3.tr (xe7.tr (xe11.tr (xe15.tr xe19)))).A h_o1).1))).1 1 (by rw [((xe3.tr (xe7.tr (xe11.tr (xe15.tr (xe19.tr xe23))))).A h_o1).2.1]; decide)).1]; rw [← hS22, nw_Io hqa21 ((xe3.tr (xe7.tr (xe11.tr (xe15.tr xe19)))).A h_o1).1]; rw [← hS18, sI_I (by rintro ⟨e1, e2⟩; exact absurd e2 (by decide))]; rw [← hS14, sI_I (by rintro ⟨e1, e2⟩; exact absurd e2 (by decide))]; rw [← hS10, sI_I (by rintro ⟨e1, e2⟩; exact absurd e2 (by decide))]; rw [← hS6, sI_eq])
  have I2 : S62.I o1 2 = x3 := (by rw [← hS62, sI_I (by rintro ⟨e1, e2⟩; exact absurd e2 (by decide))]; rw [← hS58, sI_I (by rintro ⟨e1, e2⟩; exact absurd e2 (by decide))]; rw [← hS53]; show S49.I o1 2 = _; rw [((w43.fR o1 ((xe3.tr (xe7.tr (xe11.tr (xe15.tr (xe19.tr (xe23.tr (xe31.tr (xe35.tr xe40)))))))).A h_o1).1 (by rw [List.mem_singleton]; exact fun e => hqa38 (e ▸ ((xe3.tr (xe7.tr (xe11.tr (xe15.tr (xe19.tr (xe23.tr (xe31.tr xe35))))))).A h_o1).1))).1 2 (by rw [((xe3.tr (xe7.tr (xe11.tr (xe15.tr (xe19.tr (xe23.tr (xe31.tr (xe35.tr xe40)))))))).A h_o1).2.1]; decide)).1]; rw [← hS39, nw_Io hqa38 ((xe3.tr (xe7.tr (xe11.tr (xe15.tr (xe19.tr (xe23.tr (xe31.tr xe35))))))).A h_o1).1]; rw [← hS34]; show S29.I o1 2 = _; rw [((w26.fR o1 ((xe3.tr (xe7.tr (xe11.tr (xe15.tr (xe19.tr xe23))))).A h_o1).1 (by rw [List.mem_singleton]; exact fun e => hqa21 (e ▸ ((xe3.tr (xe7.tr (xe11.tr (xe15.tr xe19)))).A h_o1).1))).1 2 (by rw [((xe3.tr (xe7.tr (xe11.tr (xe15.tr (xe19.tr xe23))))).A h_o1).2.1]; decide)).1]; rw [← hS22, nw_Io hqa21 ((xe3.tr (xe7.tr (xe11.tr (xe15.tr xe19)))).A h_o1).1]; rw [← hS18, sI_I (by rintro ⟨e1, e2⟩; exact absurd e2 (by decide))]; rw [← hS14, sI_I (by rintro ⟨e1, e2⟩; exact absurd e2 (by decide))]; rw [← hS10, sI_eq])
  have I3 : S62.I o1 3 = x4 := (by rw [← hS62, sI_I (by rintro ⟨e1, e2⟩; exact absurd e2 (by decide))]; rw [← hS58, sI_I (by rintro ⟨e1, e2⟩; exact absurd e2 (by decide))]; rw [← hS53]; show S49.I o1 3 = _; rw [((w43.fR o1 ((xe3.tr (xe7.tr (xe11.tr (xe15.tr (xe19.tr (xe23.tr (xe31.tr (xe35.tr xe40)))))))).A h_o1).1 (by rw [List.mem_singleton]; exact fun e => hqa38 (e ▸ ((xe3.tr (xe7.tr (xe11.tr (xe15.tr (xe19.tr (xe23.tr (xe31.tr xe35))))))).A h_o1).1))).1 3 (by rw [((xe3.tr (xe7.tr (xe11.tr (xe15.tr (xe19.tr (xe23.tr (xe31.tr (xe35.tr xe40)))))))).A h_o1).2.1]; decide)).1]; rw [← hS39, nw_Io hqa38 ((xe3.tr (xe7.tr (xe11.tr (xe15.tr (xe19.tr (xe23.tr (xe31.tr xe35))))))).A h_o1).1]; rw [← hS34]; show S29.I o1 3 = _; rw [((w26.fR o1 ((xe3.tr (xe7.tr (xe11.tr (xe15.tr (xe19.tr xe23))))).A h_o1).1 (by rw [List.mem_singleton]; exact fun e => hqa21 (e ▸ ((xe3.tr (xe7.tr (xe11.tr (xe15.tr xe19)))).A h_o1).1))).1 3 (by rw [((xe3.tr (xe7.tr (xe11.tr (xe15.tr (xe19.tr xe23))))).A h_o1).2.1]; decide)).1]; rw [← hS22, nw_Io hqa21 ((xe3.tr (xe7.tr (xe11.tr (xe15.tr xe19)))).A h_o1).1]; rw [← hS18, sI_I (by rintro ⟨e1, e2⟩; exact absurd e2 (by decide))]; rw [← hS14, sI_eq])
  have I4 : S62.I o1 4 = x5 := (by rw [← hS62, sI_I (by rintro ⟨e1, e2⟩; exact absurd e2 (by decide))]; rw [← hS58, sI_I (by rintro ⟨e1, e2⟩; exact absurd e2 (by decide))]; rw [← hS53]; show S49.I o1 4 = _; rw [((w43.fR o1 ((xe3.tr (xe7.tr (xe11.tr (xe15.tr (xe19.tr (xe23.tr (xe31.tr (xe35.tr xe40)))))))).A h_o1).1 (by rw [List.mem_singleton]; exact fun e => hqa38 (e ▸ ((xe3.tr (xe7.tr (xe11.tr (xe15.tr (xe19.tr (xe23.tr (xe31.tr xe35))))))).A h_o1).1))).1 4 (by rw [((xe3.tr (xe7.tr (xe11.tr (xe15.tr (xe19.tr (xe23.tr (xe31.tr (xe35.tr xe40)))))))).A h_o1).2.1]; decide)).1]; rw [← hS39, nw_Io hqa38 ((xe3.tr (xe7.tr (xe11.tr (xe15.tr (xe19.tr (xe23.tr (xe31.tr xe35))))))).A h_o1).1]; rw [← hS34]; show S29.I o1 4 = _; rw [((w26.fR o1 ((xe3.tr (xe7.tr (xe11.tr (xe15.tr (xe19.tr xe23))))).A h_o1).1 (by rw [List.mem_singleton]; exact fun e => hqa21 (e ▸ ((xe3.tr (xe7.tr (xe11.tr (xe15.tr xe19)))).A h_o1).1))).1 4 (by rw [((xe3.tr (xe7.tr (xe11.tr (xe15.tr (xe19.tr xe23))))).A h_o1).2.1]; decide)).1]; rw [← hS22, nw_Io hqa21 ((xe3.tr (xe7.tr (xe11.tr (xe15.tr xe19)))).A h_o1).1]; rw [← hS18, sI_eq])
  have I7 : S62.I o1 7 = (0 : Int32) := (by rw [← hS62, sI_I (by rintro ⟨e1, e2⟩; exact absurd e2 (by decide))]; rw [← hS58, sI_I (by rintro ⟨e1, e2⟩; exact absurd e2 (by decide))]; rw [← hS53]; show S49.I o1 7 = _; rw [((w43.fR o1 ((xe3.tr (xe7.tr (xe11.tr (xe15.tr (xe19.tr (xe23.tr (xe31.tr (xe35.tr xe40)))))))).A h_o1).1 (by rw [List.mem_singleton]; exact fun e => hqa38 (e ▸ ((xe3.tr (xe7.tr (xe11.tr (xe15.tr (xe19.tr (xe23.tr (xe31.tr xe35))))))).A h_o1).1))).1 7 (by rw [((xe3.tr (xe7.tr (xe11.tr (xe15.tr (xe19.tr (xe23.tr (xe31.tr (xe35.tr xe40)))))))).A h_o1).2.1]; decide)).1]; rw [← hS39, nw_Io hqa38 ((xe3.tr (xe7.tr (xe11.tr (xe15.tr (xe19.tr (xe23.tr (xe31.tr xe35))))))).A h_o1).1]; rw [← hS34]; show S29.I o1 7 = _; rw [((w26.fR o1 ((xe3.tr (xe7.tr (xe11.tr (xe15.tr (xe19.tr xe23))))).A h_o1).1 (by rw [List.mem_singleton]; exact fun e => hqa21 (e ▸ ((xe3.tr (xe7.tr (xe11.tr (xe15.tr xe19)))).A h_o1).1))).1 7 (by rw [((xe3.tr (xe7.tr (xe11.tr (xe15.tr (xe19.tr xe23))))).A h_o1).2.1]; decide)).1]; rw [← hS22, nw_Io hqa21 ((xe3.tr (xe7.tr (xe11.tr (xe15.tr xe19)))).A h_o1).1]; rw [← hS18, sI_I (by rintro ⟨e1, e2⟩; exact absurd e2 (by decide))]; rw [← hS14, sI_I (by rintro ⟨e1, e2⟩; exact absurd e2 (by decide))]; rw [← hS10, sI_I (by rintro ⟨e1, e2⟩; exact absurd e2 (by decide))]; rw [← hS6, sI_I (by rintro ⟨e1, e2⟩; exact absurd e2 (by decide))]; rw [← hS2, sI_I (by rintro ⟨e1, e2⟩; exact absurd e2 (by decide))]; exact hI0 7)
  have I8 : S62.I o1 8 = (-1 : Int32) := (by rw [← hS62, sI_I (by rintro ⟨e1, e2⟩; exact absurd e2 (by decide))]; rw [← hS58, sI_eq])
  have I9 : S62.I o1 9 = (0 : Int32) := (by rw [← hS62, sI_I (by rintro ⟨e1, e2⟩; exact absurd e2 (by decide))]; rw [← hS58, sI_I (by rintro ⟨e1, e2⟩; exact absurd e2 (by decide))]; rw [← hS53]; show S49.I o1 9 = _; rw [((w43.fR o1 ((xe3.tr (xe7.tr (xe11.tr (xe15.tr (xe19.tr (xe23.tr (xe31.tr (xe35.tr xe40)))))))).A h_o1).1 (by rw [List.mem_singleton]; exact fun e => hqa38 (e ▸ ((xe3.tr (xe7.tr (xe11.tr (xe15.tr (xe19.tr (xe23.tr (xe31.tr xe35))))))).A h_o1).1))).1 9 (by rw [((xe3.tr (xe7.tr (xe11.tr (xe15.tr (xe19.tr (xe23.tr (xe31.tr (xe35.tr xe40)))))))).A h_o1).2.1]; decide)).1]; rw [← hS39, nw_Io hqa38 ((xe3.tr (xe7.tr (xe11.tr (xe15.tr (xe19.tr (xe23.tr (xe31.tr xe35))))))).A h_o1).1]; rw [← hS34]; show S29.I o1 9 = _; rw [((w26.fR o1 ((xe3.tr (xe7.tr (xe11.tr (xe15.tr (xe19.tr xe23))))).A h_o1).1 (by rw [List.mem_singleton]; exact fun e => hqa21 (e ▸ ((xe3.tr (xe7.tr (xe11.tr (xe15.tr xe19)))).A h_o1).1))).1 9 (by rw [((xe3.tr (xe7.tr (xe11.tr (xe15.tr (xe19.tr xe23))))).A h_o1).2.1]; decide)).1]; rw [← hS22, nw_Io hqa21 ((xe3.tr (xe7.tr (xe11.tr (xe15.tr xe19)))).A h_o1).1]; rw [← hS18, sI_I (by rintro ⟨e1, e2⟩; exact absurd e2 (by decide))]; rw [← hS14, sI_I (by rintro ⟨e1, e2⟩; exact absurd e2 (by decide))]; rw [← hS10, sI_I (by rintro ⟨e1, e2⟩; exact absurd e2 (by decide))]; rw [← hS6, sI_I (by rintro ⟨e1, e2⟩; exact absurd e2 (by decide))]; rw [← hS2, sI_I (by rintro ⟨e1, e2⟩; exact absurd e2 (by decide))]; exact hI0 9)
  have I10 : S62.I o1 10 = (0 : Int32) := (by rw [← hS62, sI_I (by rintro ⟨e1, e2⟩; exact absurd e2 (by decide))]; rw [← hS58, sI_I (by rintro ⟨e1, e2⟩; exact absurd e2 (by decide))]; rw [← hS53]; show S49.I o1 10 = _; rw [((w43.fR o1 ((xe3.tr (xe7.tr (xe11.tr (xe15.tr (xe19.tr (xe23.tr (xe31.tr (xe35.tr xe40)))))))).A h_o1).1 (by rw [List.mem_singleton]; exact fun e => hqa38 (e ▸ ((xe3.tr (xe7.tr (xe11.tr (xe15.tr (xe19.tr (xe23.tr (xe31.tr xe35))))))).A h_o1).1))).1 10 (by rw [((xe3.tr (xe7.tr (xe11.tr (xe15.tr (xe19.tr (xe23.tr (xe31.tr (xe35.tr xe40)))))))).A h_o1).2.1]; decide)).1]; rw [← hS39, nw_Io hqa38 ((xe3.tr (xe7.tr (xe11.tr (xe15.tr (xe19.tr (xe23.tr (xe31.tr xe35))))))).A h_o1).1]; rw [← hS34]; show S29.I o1 10 = _; rw [((w26.fR o1 ((xe3.tr (xe7.tr (xe11.tr (xe15.tr (xe19.tr xe23))))).A h_o1).1 (by rw [List.mem_singleton]; exact fun e => hqa21 (e ▸ ((xe3.tr (xe7.tr (xe11.tr (xe15.tr xe19)))).A h_o1).1))).1 10 (by rw [((xe3.tr (xe7.tr (xe11.tr (xe15.tr (xe19.tr xe23))))).A h_o1).2.1]; decide)).1]; rw [← hS22, nw_Io hqa21 ((xe3.tr (xe7.tr (xe11.tr (xe15.tr xe19)))).A h_o1).1]; rw [← hS18, sI_I (by rintro ⟨e1, e2⟩; exact absurd e2 (by decide))]; rw [← hS14, sI_I (by rintro ⟨e1, e2⟩; exact absurd e2 (by decide))]; rw [← hS10, sI_I (by rintro ⟨e1, e2⟩; exact absurd e2 (by decide))]; rw [← hS6, sI_I (by rintro ⟨e1, e2⟩; exact absurd e2 (by decide))]; rw [← hS2, sI_I (by rintro ⟨e1, e2⟩; exact absurd e2 (by decide))]; exact hI0 10)
  have I11 : S62.I o1 11 = (0 : Int32) := (by rw [← hS62, sI_I (by rintro ⟨e1, e2⟩; exact absurd e2 (by decide))]; rw [← hS58, sI_I (by rintro ⟨e1, e2⟩; exact absurd e2 (by decide))]; rw [← hS53]; show S49.I o1 11 = _; rw [((w43.fR o1 ((xe3.tr (xe7.tr (xe11.tr (xe15.tr (xe19.tr (xe23.tr (xe31.tr (xe35.tr xe40)))))))).A h_o1).1 (by rw [List.mem_singleton]; exact fun e => hqa38 (e ▸ ((xe3.tr (xe7.tr (xe11.tr (xe15.tr (xe19.tr (xe23.tr (xe31.tr xe35))))))).A h_o1).1))).1 11 (by rw [((xe3.tr (xe7.tr (xe11.tr (xe15.tr (xe19.tr (xe23.tr (xe31.tr (xe35.tr xe40)))))))).A h_o1).2.1]; decide)).1]; rw [← hS39, nw_Io hqa38 ((xe3.tr (xe7.tr (xe11.tr (xe15.tr (xe19.tr (xe23.tr (xe31.tr xe35))))))).A h_o1).1]; rw [← hS34]; show S29.I o1 11 = _; rw [((w26.fR o1 ((xe3.tr (xe7.tr (xe11.tr (xe15.tr (xe19.tr xe23))))).A h_o1).1 (by rw [List.mem_singleton]; exact fun e => hqa21 (e ▸ ((xe3.tr (xe7.tr (xe11.tr (xe15.tr xe19)))).A h_o1).1))).1 11 (by rw [((xe3.tr (xe7.tr (xe11.tr (xe15.tr (xe19.tr xe23))))).A h_o1).2.1]; decide)).1]; rw [← hS22, nw_Io hqa21 ((xe3.tr (xe7.tr (xe11.tr (xe15.tr xe19)))).A h_o1).1]; rw [← hS18, sI_I (by rintro ⟨e1, e2⟩; exact absurd e2 (by decide))]; rw [← hS14, sI_I (by rintro ⟨e1, e2⟩; exact absurd e2 (by decide))]; rw [← hS10, sI_I (by rintro ⟨e1, e2⟩; exact absurd e2 (by decide))]; rw [← hS6, sI_I (by rintro ⟨e1, e2⟩; exact absurd e2 (by decide))]; rw [← hS2, sI_I (by rintro ⟨e1, e2⟩; exact absurd e2 (by decide))]; exact hI0 11)
  have I12 : S62.I o1 12 = (0 : Int32) := (by rw [← hS62, sI_I (by rintro ⟨e1, e2⟩; exact absurd e2 (by decide))]; rw [← hS58, sI_I (by rintro ⟨e1, e2⟩; exact absurd e2 (by decide))]; rw [← hS53]; show S49.I o1 12 = _; rw [((w43.fR o1 ((xe3.tr (xe7.tr (xe11.tr (xe15.tr (xe19.tr (xe23.tr (xe31.tr (xe35.tr xe40)))))))).A h_o1).1 (by rw [List.mem_singleton]; exact fun e => hqa38 (e ▸ ((xe3.tr (xe7.tr (xe11.tr (xe15.tr (xe19.tr (xe23.tr (xe31.tr xe35))))))).A h_o1).1))).1 12 (by rw [((xe3.tr (xe7.tr (xe11.tr (xe15.tr (xe19.tr (xe23.tr (xe31.tr (xe35.tr xe40)))))))).A h_o1).2.1]; decide)).1]; rw [← hS39, nw_Io hqa38 ((xe3.tr (xe7.tr (xe11.tr (xe15.tr (xe19.tr (xe23.tr (xe31.tr xe35))))))).A h_o1).1]; rw [← hS34]; show S29.I o1 12 = _; rw [((w26.fR o1 ((xe3.tr (xe7.tr (xe11.tr (xe15.tr (xe19.tr xe23))))).A h_o1).1 (by rw [List.mem_singleton]; exact fun e => hqa21 (e ▸ ((xe3.tr (xe7.tr (xe11.tr (xe15.tr xe19)))).A h_o1).1))).1 12 (by rw [((xe3.tr (xe7.tr (xe11.tr (xe15.tr (xe19.tr xe23))))).A h_o1).2.1]; decide)).1]; rw [← hS22, nw_Io hqa21 ((xe3.tr (xe7.tr (xe11.tr (xe15.tr xe19)))).A h_o1).1]; rw [← hS18, sI_I (by rintro ⟨e1, e2⟩; exact absurd e2 (by decide))]; rw [← hS14, sI_I (by rintro ⟨e1, e2⟩; exact absurd e2 (by decide))]; rw [← hS10, sI_I (by rintro ⟨e1, e2⟩; exact absurd e2 (by decide))]; rw [← hS6, sI_I (by rintro ⟨e1, e2⟩; exact absurd e2 (by decide))]; rw [← hS2, sI_I (by rintro ⟨e1, e2⟩; exact absurd e2 (by decide))]; exact hI0 12)
  have I13 : S62.I o1 13 = (0 : Int32) := (by rw [← hS62, sI_I (by rintro ⟨e1, e2⟩; exact absurd e2 (by decide))]; rw [← hS58, sI_I (by rintro ⟨e1, e2⟩; exact absurd e2 (by decide))]; rw [← hS53]; show S49.I o1 13 = _; rw [((w43.fR o1 ((xe3.tr (xe7.tr (xe11.tr (xe15.tr (xe19.tr (xe23.tr (xe31.tr (xe35.tr xe40)))))))).A h_o1).1 (by rw [List.mem_singleton]; exact fun e => hqa38 (e ▸ ((xe3.tr (xe7.tr (xe11.tr (xe15.tr (xe19.tr (xe23.tr (xe31.tr xe35))))))).A h_o1).1))).1 13 (by rw [((xe3.tr (xe7.tr (xe11.tr (xe15.tr (xe19.tr (xe23.tr (xe31.tr (xe35.tr xe40)))))))).A h_o1).2.1]; decide)).1]; rw [← hS39, nw_Io hqa38 ((xe3.tr (xe7.tr (xe11.tr (xe15.tr (xe19.tr (xe23.tr (xe31.tr xe35))))))).A h_o1).1]; rw [← hS34]; show S29.I o1 13 = _; rw [((w26.fR o1 ((xe3.tr (xe7.tr (xe11.tr (xe15.tr (xe19.tr xe23))))).A h_o1).1 (by rw [List.mem_singleton]; exact fun e => hqa21 (e ▸ ((xe3.tr (xe7.tr (xe11.tr (xe15.tr xe19)))).A h_o1).1))).1 13 (by rw [((xe3.tr (xe7.tr (xe11.tr (xe15.tr (xe19.tr xe23))))).A h_o1).2.1]; decide)).1]; rw [← hS22, nw_Io hqa21 ((xe3.tr (xe7.tr (xe11.tr (xe15.tr xe19)))).A h_o1).1]; rw [← hS18, sI_I (by rintro ⟨e1, e2⟩; exact absurd e2 (by decide))]; rw [← hS14, sI_I (by rintro ⟨e1, e2⟩; exact absurd e2 (by decide))]; rw [← hS10, sI_I (by rintro ⟨e1, e2⟩; exact absurd e2 (by decide))]; rw [← hS6, sI_I (by rintro ⟨e1, e2⟩; exact absurd e2 (by decide))]; rw [← hS2, sI_I (by rintro ⟨e1, e2⟩; exact absurd e2 (by decide))]; exact hI0 13)
  have I14 : S62.I o1 14 = (0 : Int32) := (by rw [← hS62, sI_I (by rintro ⟨e1, e2⟩; exact absurd e2 (by decide))]; rw [← hS58, sI_I (by rintro ⟨e1, e2⟩; exact absurd e2 (by decide))]; rw [← hS53]; show S49.I o1 14 = _; rw [((w43.fR o1 ((xe3.tr (xe7.tr (xe11.tr (xe15.tr (xe19.tr (xe23.tr (xe31.tr (xe35.tr xe40)))))))).A h_o1).1 (by rw [List.mem_singleton]; exact fun e => hqa38 (e ▸ ((xe3.tr (xe7.tr (xe11.tr (xe15.tr (xe19.tr (xe23.tr (xe31.tr xe35))))))).A h_o1).1))).1 14 (by rw [((xe3.tr (xe7.tr (xe11.tr (xe15.tr (xe19.tr (xe23.tr (xe31.tr (xe35.tr xe40)))))))).A h_o1).2.1]; decide)).1]; rw [← hS39, nw_Io hqa38 ((xe3.tr (xe7.tr (xe11.tr (xe15.tr (xe19.tr (xe23.tr (xe31.tr xe35))))))).A h_o1).1]; rw [← hS34]; show S29.I o1 14 = _; rw [((w26.fR o1 ((xe3.tr (xe7.tr (xe11.tr (xe15.tr (xe19.tr xe23))))).A h_o1).1 (by rw [List.mem_singleton]; exact fun e => hqa21 (e ▸ ((xe3.tr (xe7.tr (xe11.tr (xe15.tr xe19)))).A h_o1).1))).1 14 (by rw [((xe3.tr (xe7.tr (xe11.tr (xe15.tr (xe19.tr xe23))))).A h_o1).2.1]; decide)).1]; rw [← hS22, nw_Io hqa21 ((xe3.tr (xe7.tr (xe11.tr (xe15.tr xe19)))).A h_o1).1]; rw [← hS18, sI_I (by rintro ⟨e1, e2⟩; exact absurd e2 (by decide))]; rw [← hS14, sI_I (by rintro ⟨e1, e2⟩; exact absurd e2 (by decide))]; rw [← hS10, sI_I (by rintro ⟨e1, e2⟩; exact absurd e2 (by decide))]; rw [← hS6, sI_I (by rintro ⟨e1, e2⟩; exact absurd e2 (by decide))]; rw [← hS2, sI_I (by rintro ⟨e1, e2⟩; exact absurd e2 (by decide))]; exact hI0 14)
  have I15 : S62.I o1 15 = (0 : Int32) := (by rw [← hS62, sI_I (by rintro ⟨e1, e2⟩; exact absurd e2 (by decide))]; rw [← hS58, sI_I (by rintro ⟨e1, e2⟩; exact absurd e2 (by decide))]; rw [← hS53]; show S49.I o1 15 = _; rw [((w43.fR o1 ((xe3.tr (xe7.tr (xe11.tr (xe15.tr (xe19.tr (xe23.tr (xe31.tr (xe35.tr xe40)))))))).A h_o1).1 (by rw [List.mem_singleton]; exact fun e => hqa38 (e ▸ ((xe3.tr (xe7.tr (xe11.tr (xe15.tr (xe19.tr (xe23.tr (xe31.tr xe35))))))).A h_o1).1))).1 15 (by rw [((xe3.tr (xe7.tr (xe11.tr (xe15.tr (xe19.tr (xe23.tr (xe31.tr (xe35.tr xe40)))))))).A h_o1).2.1]; decide)).1]; rw [← hS39, nw_Io hqa38 ((xe3.tr (xe7.tr (xe11.tr (xe15.tr (xe19.tr (xe23.tr (xe31.tr xe35))))))).A h_o1).1]; rw [← hS34]; show S29.I o1 15 = _; rw [((w26.fR o1 ((xe3.tr (xe7.tr (xe11.tr (xe15.tr (xe19.tr xe23))))).A h_o1).1 (by rw [List.mem_singleton]; exact fun e => hqa21 (e ▸ ((xe3.tr (xe7.tr (xe11.tr (xe15.tr xe19)))).A h_o1).1))).1 15 (by rw [((xe3.tr (xe7.tr (xe11.tr (xe15.tr (xe19.tr xe23))))).A h_o1).2.1]; decide)).1]; rw [← hS22, nw_Io hqa21 ((xe3.tr (xe7.tr (xe11.tr (xe15.tr xe19)))).A h_o1).1]; rw [← hS18, sI_I (by rintro ⟨e1, e2⟩; exact absurd e2 (by decide))]; rw [← hS14, sI_I (by rintro ⟨e1, e2⟩; exact absurd e2 (by decide))]; rw [← hS10, sI_I (by rintro ⟨e1, e2⟩; exact absurd e2 (by decide))]; rw [← hS6, sI_I (by rintro ⟨e1, e2⟩; exact absurd e2 (by decide))]; rw [← hS2, sI_I (by rintro ⟨e1, e2⟩; exact absurd e2 (by decide))]; exact hI0 15)
  have I16 : S62.I o1 16 = (0 : Int32) := (by rw [← hS62, sI_I (by rintro ⟨e1, e2⟩; exact absurd e2 (by decide))]; rw [← hS58, sI_I (by rintro ⟨e1, e2⟩; exact absurd e2 (by decide))]; rw [← hS53]; show S49.I o1 16 = _; rw [((w43.fR o1 ((xe3.tr (xe7.tr (xe11.tr (xe15.tr (xe19.tr (xe23.tr (xe31.tr (xe35.tr xe40)))))))).A h_o1).1 (by rw [List.mem_singleton]; exact fun e => hqa38 (e ▸ ((xe3.tr (xe7.tr (xe11.tr (xe15.tr (xe19.tr (xe23.tr (xe31.tr xe35))))))).A h_o1).1))).1 16 (by rw [((xe3.tr (xe7.tr (xe11.tr (xe15.tr (xe19.tr (xe23.tr (xe31.tr (xe35.tr xe40)))))))).A h_o1).2.1]; decide)).1]; rw [← hS39, nw_Io hqa38 ((xe3.tr (xe7.tr (xe11.tr (xe15.tr (xe19.tr (xe23.tr (xe31.tr xe35))))))).A h_o1).1]; rw [← hS34]; show S29.I o1 16 = _; rw [((w26.fR o1 ((xe3.tr (xe7.tr (xe11.tr (xe15.tr (xe19.tr xe23))))).A h_o1).1 (by rw [List.mem_singleton]; exact fun e => hqa21 (e ▸ ((xe3.tr (xe7.tr (xe11.tr (xe15.tr xe19)))).A h_o1).1))).1 16 (by rw [((xe3.tr (xe7.tr (xe11.tr (xe15.tr (xe19.tr xe23))))).A h_o1).2.1]; decide)).1]; rw [← hS22, nw_Io hqa21 ((xe3.tr (xe7.tr (xe11.tr (xe15.tr xe19)))).A h_o1).1]; rw [← hS18, sI_I (by rintro ⟨e1, e2⟩; exact absurd e2 (by decide))]; rw [← hS14, sI_I (by rintro ⟨e1, e2⟩; exact absurd e2 (by decide))]; rw [← hS10, sI_I (by rintro ⟨e1, e2⟩; exact absurd e2 (by decide))]; rw [← hS6, sI_I (by rintro ⟨e1, e2⟩; exact absurd e2 (by decide))]; rw [← hS2, sI_I (by rintro ⟨e1, e2⟩; exact absurd e2 (by decide))]; exact hI0 16)
  have I17 : S62.I o1 17 = (0 : Int32) := (by rw [← hS62, sI_I (by rintro ⟨e1, e2⟩; exact absurd e2 (by decide))]; rw [← hS58, sI_I (by rintro ⟨e1, e2⟩; exact absurd e2 (by decide))]; rw [← hS53]; show S49.I o1 17 = _; rw [((w43.fR o1 ((xe3.tr (xe7.tr (xe11.tr (xe15.tr (xe19.tr (xe23.tr (xe31.tr (xe35.tr xe40)))))))).A h_o1).1 (by rw [List.mem_singleton]; exact fun e => hqa38 (e ▸ ((xe3.tr (xe7.tr (xe11.tr (xe15.tr (xe19.tr (xe23.tr (xe31.tr xe35))))))).A h_o1).1))).1 17 (by rw [((xe3.tr (xe7.tr (xe11.tr (xe15.tr (xe19.tr (xe23.tr (xe31.tr (xe35.tr xe40)))))))).A h_o1).2.1]; decide)).1]; rw [← hS39, nw_Io hqa38 ((xe3.tr (xe7.tr (xe11.tr (xe15.tr (xe19.tr (xe23.tr (xe31.tr xe35))))))).A h_o1).1]; rw [← hS34]; show S29.I o1 17 = _; rw [((w26.fR o1 ((xe3.tr (xe7.tr (xe11.tr (xe15.tr (xe19.tr xe23))))).A h_o1).1 (by rw [List.mem_singleton]; exact fun e => hqa21 (e ▸ ((xe3.tr (xe7.tr (xe11.tr (xe15.tr xe19)))).A h_o1).1))).1 17 (by rw [((xe3.tr (xe7.tr (xe11.tr (xe15.tr (xe19.tr xe23))))).A h_o1).2.1]; decide)).1]; rw [← hS22, nw_Io hqa21 ((xe3.tr (xe7.tr (xe11.tr (xe15.tr xe19)))).A h_o1).1]; rw [← hS18, sI_I (by rintro ⟨e1, e2⟩; exact absurd e2 (by decide))]; rw [← hS14, sI_I (by rintro ⟨e1, e2⟩; exact absurd e2 (by decide))]; rw [← hS10, sI_I (by rintro ⟨e1, e2⟩; exact absurd e2 (by decide))]; rw [← hS6, sI_I (by rintro ⟨e1, e2⟩; exact absurd e2 (by decide))]; rw [← hS2, sI_I (by rintro ⟨e1, e2⟩; exact absurd e2 (by decide))]; exact hI0 17)
  have I19 : S62.I o1 19 = (-1 : Int32) := (by rw [← hS62, sI_eq])
  have tt : stp ([] : List (Nat × Nat)) [o1] R S S62 := t64.un (okAt.of_2 oo.2.1 ⟨(by rw [f_of ((xe40.tr (xe51.tr (xe54.tr (xe59.tr xe63)))).F ((xe3.tr (xe7.tr (xe11.tr (xe15.tr (xe19.tr (xe23.tr (xe31.tr xe35))))))).A h_o1) (by decide) F37)]; exact ⟨((xe40.tr (xe51.tr (xe54.tr (xe59.tr xe63)))).F ((xe3.tr (xe7.tr (xe11.tr (xe15.tr (xe19.tr (xe23.tr (xe31.tr xe35))))))).A h_o1) (by decide) F37), ((xe35.tr (xe40.tr (xe51.tr (xe54.tr (xe59.tr xe63))))).A (xe31.A aqa21))⟩), (by rw [f_of ((xe59.tr xe63).F ((xe3.tr (xe7.tr (xe11.tr (xe15.tr (xe19.tr (xe23.tr (xe31.tr (xe35.tr (xe40.tr (xe51.tr xe54)))))))))).A h_o1) (by decide) F56)]; exact ⟨((xe59.tr xe63).F ((xe3.tr (xe7.tr (xe11.tr (xe15.tr (xe19.tr (xe23.tr (xe31.tr (xe35.tr (xe40.tr (xe51.tr xe54)))))))))).A h_o1) (by decide) F56), ((xe54.tr (xe59.tr xe63)).A (xe51.A aqa38))⟩), (by rw [I1]; exact ⟨by omega, by omega⟩), (by rw [I2]; exact ⟨by omega, by omega⟩), (by rw [I3]; exact ⟨by omega, by omega⟩), (by rw [I4]; exact ⟨by omega, by omega⟩), (by rw [I9]; exact ⟨by decide, by decide⟩), (by rw [I13]; exact ⟨by decide, by decide⟩), (by rw [I14]; exact ⟨by decide, by decide⟩), (by rw [I16]; exact ⟨by decide, by decide⟩), (by rw [I17]; exact ⟨by decide, by decide⟩)⟩)
  refine W.widen (k := 5) (n := 423) (Nat.le_of_ble_eq_true rfl) (Nat.le_of_ble_eq_true rfl) ?_
  exact W.vret hx hb hr (fun t ht hW9 => ⟨⟨S62, rfl, ⟨tt, oo, I0, I1, I2, I3, I4, I7, I8, I9, I10, I11, I12, I13, I14, I15, I16, I17, I19, (by rw [f_of ((xe59.tr xe63).F ((xe3.tr (xe7.tr (xe11.tr (xe15.tr (xe19.tr (xe23.tr (xe31.tr (xe35.tr (xe40.tr (xe51.tr xe54)))))))))).A h_o1) (by decide) F56)]; exact bqa38), (by rw [f_of ((xe59.tr xe63).F ((xe3.tr (xe7.tr (xe11.tr (xe15.tr (xe19.tr (xe23.tr (xe31.tr (xe35.tr (xe40.tr (xe51.tr xe54)))))))))).A h_o1) (by decide) F56)]; exact (by rw [← hS62, sI_no (fun e1 : qa38 = o1 => hqa38 (by rw [e1]; exact ((xe3.tr (xe7.tr (xe11.tr (xe15.tr (xe19.tr (xe23.tr (xe31.tr xe35))))))).A h_o1).1))]; rw [← hS58, sI_no (fun e1 : qa38 = o1 => hqa38 (by rw [e1]; exact ((xe3.tr (xe7.tr (xe11.tr (xe15.tr (xe19.tr (xe23.tr (xe31.tr xe35))))))).A h_o1).1))]; rw [← hS53]; show S49.I qa38 3 = _; exact y45)), (by rw [f_of ((xe59.tr xe63).F ((xe3.tr (xe7.tr (xe11.tr (xe15.tr (xe19.tr (xe23.tr (xe31.tr (xe35.tr (xe40.tr (xe51.tr xe54)))))))))).A h_o1) (by decide) F56), f_of ((xe54.tr (xe59.tr xe63)).F (xe51.A aqa38) (by decide) y46)]; exact fun e9 => y48 ((xe3.tr (xe7.tr (xe11.tr (xe15.tr (xe19.tr (xe23.tr (xe31.tr (xe35.tr xe40)))))))) _ e9).1)⟩, wd_end hP hK hD ht hW9.alike⟩, hS.F ht⟩) hS.2.2 dX2_init_64 hlocks
def f_X9_gear (S : wPS) (o1 : Nat) (x1 : Int32) (x2 : Int32) (x3 : Int32) (x4 : Int32) : Except String Int32 := eB (f_X9_needTeeth x1) (fun _ => eB (f_X9_needRange x2 (500 : Int32) (10000 : Int32)) (fun _ => eB (f_X9_needRange x3 (-500 : Int32) (500 : Int32)) (fun _ => eB (f_X9_needRange x4 (1000 : Int32) (99999 : Int32)) (fun _ => if (S.I o1 1) < (20 : Int32) then .ok (S.I o1 1) else .error "java/lang/IllegalStateException"))))
set_option maxRecDepth 20000 in
theorem s_X9_gear_ISE : ∀ w ∈ (vx_atS RX9 71 "java/lang/IllegalStateException" ["java/lang/RuntimeException", "java/lang/Exception"]).filter goodWord, w ∈ wsX9_gear := fun w h => List.mem_cons_of_mem _ (List.mem_append_left _ (List.mem_append_right _ h))
theorem hi_X9_gear_X2 : ∀ w ∈ u_ws RX2 TX2 20, w ∈ wsX9_gear := by decide +kernel
theorem hi_X9_gear_X9 : ∀ w ∈ u_ws RX9 TX9 11, w ∈ wsX9_gear := by decide +kernel
theorem hd_X9_gear : yX9_gear.cls = RX9 ∧ yX9_gear.cls ≠ "java/lang/invoke/MethodHandle" ∧ yX9_gear.cls ≠ "java/lang/invoke/VarHandle" ∧ (parseMethodDescriptor yX9_gear.desc).map (fun d => d.parameters.length) = some 4 := by decide +kernel
set_option maxHeartbeats 4000000 in
set_option maxRecDepth 100000 in
theorem c_X9_gear (l : Launch) (hst : l.stackTraces = false) {e0 mi : Nat} {D : va_G} {cy : Nat → ClassId} {X : va_W} (S : wPS) (sz : Nat) (o1 : Nat) (h_o1 : isA S o1 9) (x1 : Int32) (x2 : Int32) (x3 : Int32) (x4 : Int32) (hW : wtB S [])  : vx_Met l yX9_gear wsX9_gear ({ frames := 8, cells := 10, slots := 467, locals := 124 }) (va_Pc [.ref o1, .int x1, .int x2, .int x3, .int x4] (fun U => U.heap.size = sz ∧ WD D cy X (fun _ => True) S U ∧ NW U ∧ TH (va_A (X ++ PL cy S) sz) U ∧ OU e0 mi (va_A (X ++ PL cy S) sz) U U.heap)) (va_Qi (fun r (u : wPS) => f_X9_gear S o1 x1 x2 x3 x4 = .ok r ∧ stp [(9, 1), (19, 101)] [] [] S u ∧ (u.I o1 1).toInt = (S.I o1 1).toInt + 1 ∧ (∃ g : Nat, g ∉ S.L ∧ isA u g 2 ∧ u.r (S.f o1 0) (S.I o1 1).toNatClampNeg = some g ∧ (∀ i : Nat, i ≠ (S.I o1 1).toNatClampNeg → u.r (S.f o1 0) i = S.r (S.f o1 0) i) ∧ u.I g 0 = S.I o1 1 ∧ u.I g 1 = x1 ∧ u.I g 2 = x2 ∧ u.I g 3 = x3 ∧ u.I g 4 = x4 ∧ u.I g 7 = (0 : Int32) ∧ u.I g 8 = (-1 : Int32) ∧ u.I g 9 = (0 : Int32) ∧ u.I g 10 = (0 : Int32) ∧ u.I g 11 = (0 : Int32) ∧ u.f g 6 ∉ S.L ∧ u.I (u.f g 6) 3 = (0 : Int32) ∧ u.f (u.f g 6) 0 ∉ S.L)) (fun u t => WD D cy X (va_A (X ++ PL cy S) sz) u t) (va_A (X ++ PL cy S) sz)) (vx_X (fun (u : wPS) => stp [(9, 1), (19, 101)] [] [] S u) (fun E u t => f_X9_gear S o1 x1 x2 x3 x4 = .error E ∧ E ∈ ["java/lang/IllegalArgumentException", "java/lang/IllegalStateException"] ∧ u = S ∧ WD D cy X (va_A (X ++ PL cy S) sz) u t) (va_A (X ++ PL cy S) sz)) 10 467 (va_A (X ++ PL cy S) sz) := by
  refine vx_ofW (cc := cX9_gear) (maxL := 6) (ret := (some .int)) (by decide) rfl ?_
  intro p e s m args below meth c s₁ B hml hno hv
  obtain ⟨rfl, hsz, ⟨hP, hK, hD0⟩, hN, hTH, hOU⟩ := hv
  have hx := B.exec
  have hb := B.bytes
  have hr := B.returns
  have hts := atoms_spec (ws := wsX9_gear) B.pre
  have hown : s.vm.findClass RX9 = some m.cls := findClass_of_methodNamed (x := yX9_gear) B.named
  have hlocks := B.notSynchronized
  subst hsz
  have hD := hD0.self (sz := s.heap.size)
  generalize hAe : va_A (X ++ PL cy S) s.heap.size = A at hD hTH hOU ⊢
  have hA : ∀ q : Nat, s.heap.size ≤ q → A q := fun q h => by rw [← hAe]; exact Or.inr h
  have hS : va_S A s.heap s.heap [] := va_S.rf
  have hl := lv_entry ([.ref o1, .int x1, .int x2, .int x3, .int x4]) (n := 6) (Nat.le_of_ble_eq_true rfl)
  rw [lg_entry_eq]
  generalize (lg_sl ([.ref o1, .int x1, .int x2, .int x3, .int x4]) ++ List.replicate (6 - (lg_sl ([.ref o1, .int x1, .int x2, .int x3, .int x4])).length) Slot.unset).toArray = ls at hl ⊢
  have hl : lv_has ls 6 [(0, .ref o1), (1, .int x1), (2, .int x2), (3, .int x3), (4, .int x4)] := hl
  obtain ⟨⟨ga, gZ, gX, gl, gA⟩, ⟨sa9, sZ, sX, sl9, sA⟩, cZ, eZ, eX, el, eA, hMi, hDc, ⟨pf, pZ⟩⟩ := id hOU
  have t0 : stp [(9, 1), (19, 101)] [] [] S S := stp.rf hW
  refine lv_iload_n hx hb dX9_gear_0 rfl (lv_at hl 1 rfl) ?_
  have hFc := free_all hD hS hA
  refine vx_callv (vx_runS (As := [.int x1]) (rest := []) ⟨hx, hb, hml, hown, hts⟩ (c_X9_needTeeth l hst (cy := cy) (X := X) (D := D) S _ x1) (cwS 1 hts gX9_gear_X9_needTeeth rfl rfl rfl hd_X9_needTeeth ⟨Nat.le_of_ble_eq_true rfl, Nat.le_of_ble_eq_true rfl⟩) (pSt hP hK hD hN hTH hS hFc) rfl rfl hl.1 rfl (lv_room (Nat.le_of_ble_eq_true rfl)) dX9_gear_1 ⟨Nat.le_of_ble_eq_true rfl, Nat.le_of_ble_eq_true rfl⟩) hS (fun q _ h => hFc q h) hFc (fun q _ h => hFc q h) (fun E ce q9 u t H1 locs ht hvm hw hB hz1 hk1 hS hq9 hce hcl => ?_) (fun u t H1 locs ht hvm hw hB hz1 hk1 hS => ?_)
  · obtain ⟨c2, hEc2, hB2⟩ := hB
    obtain ⟨hP, hD⟩ := wd_post hFc ht hB2
    exact vx_out (fun x h => (hno x h).elim) hlocks hq9 hce hcl (fun t2 ht2 hA2 => ⟨S, t0, ⟨(by show f_X9_gear S o1 x1 x2 x3 x4 = .error E; unfold f_X9_gear; rw [eB_er c2]), (el_in (by decide) hEc2), rfl, wd_end hP hK hD ht2 hA2⟩, hS.F ht2⟩) hS.2.2 (Nat.le_of_ble_eq_true rfl) (Nat.le_of_ble_eq_true rfl)
  · have c3 := hw
    obtain ⟨hP, hD⟩ := wd_post hFc ht hB
    generalize H1 = H at hP hS ⊢
    have i4 := nt_i c3
    refine lv_iload_n hx hb dX9_gear_4 rfl (lv_at hl 2 rfl) ?_
    refine lv_sipush (v := 500) hx hb dX9_gear_5 (by decide +kernel) ?_
    refine lv_sipush (v := 10000) hx hb dX9_gear_8 (by decide +kernel) ?_
    have l32_500 : (500 : Int32).toInt = 500 := rfl
    have l32_10000 : (10000 : Int32).toInt = 10000 := rfl
    have hFc := free_all hD hS hA
    refine vx_callv (vx_runS (As := [.int x2, .int (500 : Int32), .int (10000 : Int32)]) (rest := []) ⟨hx, hb, hml, hown, hts⟩ (c_X9_needRange l hst (cy := cy) (X := X) (D := D) S _ x2 (500 : Int32) (10000 : Int32)) (cwS 3 hts gX9_gear_X9_needRange rfl rfl rfl hd_X9_needRange ⟨Nat.le_of_ble_eq_true rfl, Nat.le_of_ble_eq_true rfl⟩) (pSt hP hK hD hN hTH hS hFc) rfl rfl hl.1 rfl (lv_room (Nat.le_of_ble_eq_true rfl)) dX9_gear_11 ⟨Nat.le_of_ble_eq_true rfl, Nat.le_of_ble_eq_true rfl⟩) hS (fun q _ h => hFc q h) hFc (fun q _ h => hFc q h) (fun E ce q9 u t H1 locs ht hvm hw hB hz1 hk1 hS hq9 hce hcl => ?_) (fun u t H1 locs ht hvm hw hB hz1 hk1 hS => ?_)
    · obtain ⟨c6, hEc6, hB2⟩ := hB
      obtain ⟨hP, hD⟩ := wd_post hFc ht hB2
      exact vx_out (fun x h => (hno x h).elim) hlocks hq9 hce hcl (fun t2 ht2 hA2 => ⟨S, t0, ⟨(by show f_X9_gear S o1 x1 x2 x3 x4 = .error E; unfold f_X9_gear; rw [eB_ok c3, eB_er c6]), (el_in (by decide) hEc6), rfl, wd_end hP hK hD ht2 hA2⟩, hS.F ht2⟩) hS.2.2 (Nat.le_of_ble_eq_true rfl) (Nat.le_of_ble_eq_true rfl)
    · have c7 := hw
      obtain ⟨hP, hD⟩ := wd_post hFc ht hB
      generalize H1 = H at hP hS ⊢
      have i8 := nr_i c7
      have i8l := i8.1
      have i8h := i8.2
      have l9 : (500 : Int32).toInt = 500 := rfl
      have l10 : (10000 : Int32).toInt = 10000 := rfl
      refine lv_iload_n hx hb dX9_gear_14 rfl (lv_at hl 3 rfl) ?_
      refine lv_sipush (v := -500) hx hb dX9_gear_15 (by decide +kernel) ?_
      refine lv_sipush (v := 500) hx hb dX9_gear_18 (by decide +kernel) ?_
      have hFc := free_all hD hS hA
      refine vx_callv (vx_runS (As := [.int x3, .int (-500 : Int32), .int (500 : Int32)]) (rest := []) ⟨hx, hb, hml, hown, hts⟩ (c_X9_needRange l hst (cy := cy) (X := X) (D := D) S _ x3 (-500 : Int32) (500 : Int32)) (cwS 3 hts gX9_gear_X9_needRange rfl rfl rfl hd_X9_needRange ⟨Nat.le_of_ble_eq_true rfl, Nat.le_of_ble_eq_true rfl⟩) (pSt hP hK hD hN hTH hS hFc) rfl rfl hl.1 rfl (lv_room (Nat.le_of_ble_eq_true rfl)) dX9_gear_21 ⟨Nat.le_of_ble_eq_true rfl, Nat.le_of_ble_eq_true rfl⟩) hS (fun q _ h => hFc q h) hFc (fun q _ h => hFc q h) (fun E ce q9 u t H1 locs ht hvm hw hB hz1 hk1 hS hq9 hce hcl => ?_) (fun u t H1 locs ht hvm hw hB hz1 hk1 hS => ?_)
      · obtain ⟨c12, hEc12, hB2⟩ := hB
        obtain ⟨hP, hD⟩ := wd_post hFc ht hB2
        exact vx_out (fun x h => (hno x h).elim) hlocks hq9 hce hcl (fun t2 ht2 hA2 => ⟨S, t0, ⟨(by show f_X9_gear S o1 x1 x2 x3 x4 = .error E; unfold f_X9_gear; rw [eB_ok c3, eB_ok c7, eB_er c12]), (el_in (by decide) hEc12), rfl, wd_end hP hK hD ht2 hA2⟩, hS.F ht2⟩) hS.2.2 (Nat.le_of_ble_eq_true rfl) (Nat.le_of_ble_eq_true rfl)
      · have c13 := hw
        obtain ⟨hP, hD⟩ := wd_post hFc ht hB
        generalize H1 = H at hP hS ⊢
        have i14 := nr_i c13
        have i14l := i14.1
        have i14h := i14.2
        have l15 : (-500 : Int32).toInt = -500 := rfl
        have l16 : (500 : Int32).toInt = 500 := rfl
        refine lv_iload hx hb dX9_gear_24 (lv_at hl 4 rfl) ?_
        refine lv_sipush (v := 1000) hx hb dX9_gear_26 (by decide +kernel) ?_
        refine lv_ldc (own := RX9) (v := 99999) hx hb hown (hts (.constant RX9 63 (99999)) (by decide +kernel)) dX9_gear_29 ?_
        have l32_1000 : (1000 : Int32).toInt = 1000 := rfl
        have l32_99999 : (99999 : Int32).toInt = 99999 := rfl
        have hFc := free_all hD hS hA
        refine vx_callv (vx_runS (As := [.int x4, .int (1000 : Int32), .int (99999 : Int32)]) (rest := []) ⟨hx, hb, hml, hown, hts⟩ (c_X9_needRange l hst (cy := cy) (X := X) (D := D) S _ x4 (1000 : Int32) (99999 : Int32)) (cwS 3 hts gX9_gear_X9_needRange rfl rfl rfl hd_X9_needRange ⟨Nat.le_of_ble_eq_true rfl, Nat.le_of_ble_eq_true rfl⟩) (pSt hP hK hD hN hTH hS hFc) rfl rfl hl.1 rfl (lv_room (Nat.le_of_ble_eq_true rfl)) dX9_gear_31 ⟨Nat.le_of_ble_eq_true rfl, Nat.le_of_ble_eq_true rfl⟩) hS (fun q _ h => hFc q h) hFc (fun q _ h => hFc q h) (fun E ce q9 u t H1 locs ht hvm hw hB hz1 hk1 hS hq9 hce hcl => ?_) (fun u t H1 locs ht hvm hw hB hz1 hk1 hS => ?_)
        · obtain ⟨c18, hEc18, hB2⟩ := hB
          obtain ⟨hP, hD⟩ := wd_post hFc ht hB2
          exact vx_out (fun x h => (hno x h).elim) hlocks hq9 hce hcl (fun t2 ht2 hA2 => ⟨S, t0, ⟨(by show f_X9_gear S o1 x1 x2 x3 x4 = .error E; unfold f_X9_gear; rw [eB_ok c3, eB_ok c7, eB_ok c13, eB_er c18]), (el_in (by decide) hEc18), rfl, wd_end hP hK hD ht2 hA2⟩, hS.F ht2⟩) hS.2.2 (Nat.le_of_ble_eq_true rfl) (Nat.le_of_ble_eq_true rfl)
        · have c19 := hw
          obtain ⟨hP, hD⟩ := wd_post hFc ht hB
          generalize H1 = H at hP hS ⊢
          have i20 := nr_i c19
          have i20l := i20.1
          have i20h := i20.2
          have l21 : (1000 : Int32).toInt = 1000 := rfl
          have l22 : (99999 : Int32).toInt = 99999 := rfl
          refine lv_aload_n hx hb dX9_gear_34 rfl (lv_at hl 0 rfl) ?_
          obtain ⟨k23, gk23, hk23⟩ := wGt (cy := cy) X S h_o1.1 h_o1.2.1
          have i24 := ((hW.at h_o1 List.not_mem_nil).to_9 h_o1.2.1).R1
          refine va_get (D := D) (ci := 13) (v := .int (S.I o1 1)) (C := RX9) (T := TX9) (N := 11) hx hb hts hi_X9_gear_X9 hown hK hP k23 hk23 rfl 1 (by decide) (hts (.fieldLink RX9 64 "Hobhouse" "gearCount" "I") (by decide +kernel)) (fun _ h9 => h9) rfl dX9_gear_35 ?_
          refine lv_aload_n hx hb dX9_gear_38 rfl (lv_at hl 0 rfl) ?_
          have F25 := ((hW.at h_o1 List.not_mem_nil).to_9 h_o1.2.1).F0
          obtain ⟨k26, gk26, hk26⟩ := wGt (cy := cy) X S h_o1.1 h_o1.2.1
          simp only [kE, F25.1] at hk26
          refine va_get (D := D) (ci := 13) (v := .ref (S.f o1 0)) (C := RX9) (T := TX9) (N := 11) hx hb hts hi_X9_gear_X9 hown hK hP k26 hk26 rfl 0 (by decide) (hts (.fieldLink RX9 11 "Hobhouse" "gears" "[LHobhouse$Gear;") (by decide +kernel)) (fun _ h9 => h9) rfl dX9_gear_39 ?_
          obtain ⟨k27, gk27, hk27⟩ := wGt (cy := cy) X S F25.2.1.1 F25.2.1.2.1
          refine va_alen (D := D) (cl := vwCl) (tys := tyL cy) hx hb hK hP k27 4 hk27 rfl (v := (20 : Int32)) (by rw [F25.2.2]; rfl) dX9_gear_42 ?_
          refine lv_icmp_lt (tgt := 56) hx hb dX9_gear_43 (by decide) (fun c28 => ?_) (fun c28 => ?_)
          · have c28i : (S.I o1 1).toInt < 20 := lt_v rfl rfl c28
            refine lv_aload_n hx hb dX9_gear_56 rfl (lv_at hl 0 rfl) ?_
            obtain ⟨k29, gk29, hk29⟩ := wGt (cy := cy) X S h_o1.1 h_o1.2.1
            refine va_get (D := D) (ci := 13) (v := .int (S.I o1 1)) (C := RX9) (T := TX9) (N := 11) hx hb hts hi_X9_gear_X9 hown hK hP k29 hk29 rfl 1 (by decide) (hts (.fieldLink RX9 64 "Hobhouse" "gearCount" "I") (by decide +kernel)) (fun _ h9 => h9) rfl dX9_gear_57 ?_
            refine lv_istore (lv' := [(5, .int (S.I o1 1)), (0, .ref o1), (1, .int x1), (2, .int x2), (3, .int x3), (4, .int x4)]) hx hb dX9_gear_60 hl (by decide) rfl (fun ls hl => ?_)
            refine lv_aload_n hx hb dX9_gear_62 rfl (lv_at hl 1 rfl) ?_
            obtain ⟨k30, gk30, hk30⟩ := wGt (cy := cy) X S h_o1.1 h_o1.2.1
            simp only [kE, F25.1] at hk30
            refine va_get (D := D) (ci := 13) (v := .ref (S.f o1 0)) (C := RX9) (T := TX9) (N := 11) hx hb hts hi_X9_gear_X9 hown hK hP k30 hk30 rfl 0 (by decide) (hts (.fieldLink RX9 11 "Hobhouse" "gears" "[LHobhouse$Gear;") (by decide +kernel)) (fun _ h9 => h9) rfl dX9_gear_63 ?_
            refine lv_iload hx hb dX9_gear_66 (lv_at hl 0 rfl) ?_
            refine va_new (ci := 6) (fs := [.int 0, .int 0, .int 0, .int 0, .int 0, .null, .null, .int 0, .int 0, .int 0, .int 0, .int 0, .int 0, .int 0, .int 0, .int 0, .int 0, .int 0, .long 0, .int 0]) (C := RX2) (T := TX2) (N := 20) hx hb hts hi_X9_gear_X2 tyX2 tyX2_ok hown (hts (.classLink RX9 9 RX2) (by decide +kernel)) (hts (.instantiable RX2 20) (by decide +kernel)) (hts (.initialized RX2) (by decide +kernel)) hK hP hD hS hA rfl (fun j hj => by rcases (show j = 0 ∨ j = 1 ∨ j = 2 ∨ j = 3 ∨ j = 4 ∨ j = 5 ∨ j = 6 ∨ j = 7 ∨ j = 8 ∨ j = 9 ∨ j = 10 ∨ j = 11 ∨ j = 12 ∨ j = 13 ∨ j = 14 ∨ j = 15 ∨ j = 16 ∨ j = 17 ∨ j = 18 ∨ j = 19 by omega) with rfl | rfl | rfl | rfl | rfl | rfl | rfl | rfl | rfl | rfl | rfl | rfl | rfl | rfl | rfl | rfl | rfl | rfl | rfl | rfl <;> rfl) (Nat.le_of_ble_eq_true rfl) (Nat.le_of_ble_eq_true rfl) dX9_gear_68 (fun qa31 H hP2 hD2 hS => ?_)
            have hqa31 : qa31 ∉ S.L := nw_q hD2
            have e9 := wNw (cy := cy) (X := X) (S := S) (a := qa31) (k := 2) (z := 0) (f := fun _ => 0) (g := fun _ => none) hqa31 rfl
            obtain ⟨S32, hS32⟩ : ∃ z, S.nw qa31 2 0 (fun _ => 0) (fun _ => none) = z := ⟨_, rfl⟩
            have hP : va_P D vwCl (X ++ PL cy S32) H := by rw [← hS32, ← e9]; exact hP2
            have hD : va_D A (X ++ PL cy S32) := by rw [← hS32, ← e9]; exact hD2
            have xe33 : ext S S32 := by rw [← hS32]; exact ext.nw hqa31
            have t34 : stp [(9, 1), (19, 101)] [] (qa31 :: []) S S32 := by rw [← hS32]; exact t0.nw hqa31 (Or.inl (by decide))
            have k35 : (S32.I o1 1).toInt = (S.I o1 1).toInt := by rw [← hS32]; exact congrArg Int32.toInt (nw_Io hqa31 h_o1.1)
            refine W.widen (k := 5) (n := 44) (Nat.le_of_ble_eq_true rfl) (Nat.le_of_ble_eq_true rfl) ?_
            have aqa31 : isA S32 qa31 2 := by rw [← hS32]; exact nw_A (by decide)
            have fqa31 : ∀ j, S32.F qa31 j = none := by rw [← hS32]; exact nw_F
            have iqa31 : ∀ j, S32.I qa31 j = 0 := by rw [← hS32]; exact nw_I
            have bqa31 : qa31 ∉ S.L := fun e => hqa31 e
            refine lv_dup hx hb dX9_gear_71 rfl ?_
            refine lv_iload hx hb dX9_gear_72 (lv_at hl 0 rfl) ?_
            refine lv_iload_n hx hb dX9_gear_74 rfl (lv_at hl 2 rfl) ?_
            refine lv_iload_n hx hb dX9_gear_75 rfl (lv_at hl 3 rfl) ?_
            refine lv_iload_n hx hb dX9_gear_76 rfl (lv_at hl 4 rfl) ?_
            refine lv_iload hx hb dX9_gear_77 (lv_at hl 5 rfl) ?_
            have hFc := free_all hD hS hA
            refine va_callv (va_runI (As := [.int (S.I o1 1), .int x1, .int x2, .int x3, .int x4]) (rest := [.ref qa31, .int (S.I o1 1), .ref (S.f o1 0)]) ⟨hx, hb, hml, hown, hts⟩ (c_X2_init l (e0 := e0) (mi := mi) (cy := cy) (X := X) (D := D) S32 _ qa31 aqa31 (S.I o1 1) x1 x2 x3 x4 [] (t34.w) fqa31 iqa31 (by omega)) (cwI 5 hts gX9_gear_X2_init rfl rfl rfl (hts (.initialized RX2) (by decide +kernel)) (hts (.methodLink RX9 74 yX2_init) (by decide +kernel)) (hts (.instanceMethod yX2_init) (by decide +kernel)) rfl (by decide +kernel) ⟨Nat.le_of_ble_eq_true rfl, Nat.le_of_ble_eq_true rfl⟩) (pSo hP hK hD hN hOU hS hFc) rfl rfl hl.1 rfl (lv_room (Nat.le_of_ble_eq_true rfl)) dX9_gear_79 ⟨Nat.le_of_ble_eq_true rfl, Nat.le_of_ble_eq_true rfl⟩) hS (fun q _ h => hFc q h) hFc (fun u t H1 locs ht hvm hw hB hz1 hk1 hS => ?_)
            obtain ⟨w37, y38, y39, y40, y41, y42, y43, y44, y45, y46, y47, y48, y49, y50, y51, y52, y53, y54, y55, y56, y57, y58⟩ := hw
            obtain ⟨hP, hD⟩ := wd_post hFc ht hB
            generalize H1 = H at hP hS ⊢
            obtain ⟨S59, rfl⟩ : ∃ z, z = u := ⟨_, rfl⟩
            have t60 : stp [(9, 1), (19, 101)] [] [] S S59 := t34.tr w37 (by decide) (fun z q => by rw [List.mem_singleton.mp q]; exact (Or.inr bqa31))
            have xe61 : ext S32 S59 := w37.x
            have k62 : (S59.I o1 1).toInt = (S32.I o1 1).toInt := by rw [(w37.fR o1 (xe33.A h_o1).1 (by rw [List.mem_singleton]; exact fun e => hqa31 (e ▸ h_o1.1))).1 1 (by rw [(xe33.A h_o1).2.1]; decide) |>.1]
            obtain ⟨k63, gk63, hk63⟩ := wGt (cy := cy) X S59 (xe61.A aqa31).1 (xe61.A aqa31).2.1
            obtain ⟨k64, gk64, hk64⟩ := wGt (cy := cy) X S59 ((xe33.tr xe61).A F25.2.1).1 ((xe33.tr xe61).A F25.2.1).2.1
            refine va_astq hx hb hK hP hD hS k64 4 k63 6 hk64 rfl hk63 rfl (inb (m := 20) (((xe33.tr xe61).n F25.2.1).trans F25.2.2) (by omega) (by omega)) dX9_gear_82 (fun H locs hP2 hD2 hS => ?_)
            have e9 := wPur (cy := cy) (f := (va_up (S59.r (S.f o1 0)) (S.I o1 1).toNatClampNeg (some qa31))) hD ((xe33.tr xe61).A F25.2.1).1 ((xe33.tr xe61).A F25.2.1).2.1 gk64 rfl
            obtain ⟨S65, hS65⟩ : ∃ z, S59.sr (S.f o1 0) (va_up (S59.r (S.f o1 0)) (S.I o1 1).toNatClampNeg (some qa31)) = z := ⟨_, rfl⟩
            have hP : va_P D vwCl (X ++ PL cy S65) H := by rw [← hS65, ← e9]; exact hP2
            have hD : va_D A (X ++ PL cy S65) := by rw [← hS65, ← e9]; exact hD2
            have xe66 : ext S59 S65 := by rw [← hS65]; exact ext.sr _ _ _
            have t67 : stp [(9, 1), (19, 101)] [] [] S S65 := by rw [← hS65]; exact t60.r ((xe33.tr xe61).A F25.2.1) (by decide) (xe61.A aqa31) (Or.inl ⟨rfl, rfl⟩) List.not_mem_nil (by decide)
            have k68 : (S65.I o1 1).toInt = (S59.I o1 1).toInt := by rw [← hS65]; rfl
            have g69 : S65.r (S.f o1 0) (S.I o1 1).toNatClampNeg = some qa31 := by rw [← hS65]; exact sr_eq
            refine lv_aload_n hx hb dX9_gear_83 rfl (lv_at hl 1 rfl) ?_
            refine lv_dup hx hb dX9_gear_84 rfl ?_
            obtain ⟨k70, gk70, hk70⟩ := wGt (cy := cy) X S65 ((xe33.tr (xe61.tr xe66)).A h_o1).1 ((xe33.tr (xe61.tr xe66)).A h_o1).2.1
            have i71 := ((t67.w.at ((xe33.tr (xe61.tr xe66)).A h_o1) List.not_mem_nil).to_9 ((xe33.tr (xe61.tr xe66)).A h_o1).2.1).R1
            refine va_get (D := D) (ci := 13) (v := .int (S65.I o1 1)) (C := RX9) (T := TX9) (N := 11) hx hb hts hi_X9_gear_X9 hown hK hP k70 hk70 rfl 1 (by decide) (hts (.fieldLink RX9 64 "Hobhouse" "gearCount" "I") (by decide +kernel)) (fun _ h9 => h9) rfl dX9_gear_85 ?_
            refine lv_iconst (v := 1) hx hb dX9_gear_88 (by decide) ?_
            refine lv_iadd hx hb dX9_gear_89 ?_
            have l32_1 : (1 : Int32).toInt = 1 := rfl
            have i72 : ((S65.I o1 1) + (1 : Int32)).toInt = (S65.I o1 1).toInt + 1 := t_addr (n := 1) rfl (by omega)
            obtain ⟨k73, gk73, hk73⟩ := wGt (cy := cy) X S65 ((xe33.tr (xe61.tr xe66)).A h_o1).1 ((xe33.tr (xe61.tr xe66)).A h_o1).2.1
            refine va_put (D := D) (ci := 13) (v := .int ((S65.I o1 1) + (1 : Int32))) (ty := .int) (C := RX9) (T := TX9) (N := 11) hx hb hts hi_X9_gear_X9 tyX9 tyX9_ok nmX9 hown hK hP hD hS k73 hk73 rfl 1 (by decide) (hts (.fieldLink RX9 64 "Hobhouse" "gearCount" "I") (by decide +kernel)) (fun _ h9 => h9) rfl (by decide +kernel) (rfl) (rfl) (Nat.le_of_ble_eq_true rfl) dX9_gear_90 (fun H locs hP2 hD2 hS => ?_)
            have e9 := wPuI (cy := cy) (j := 1) (v := ((S65.I o1 1) + (1 : Int32))) hD ((xe33.tr (xe61.tr xe66)).A h_o1).1 ((xe33.tr (xe61.tr xe66)).A h_o1).2.1 gk73 rfl
            have i74 := cl_int (i := S.I o1 1) (by omega)
            obtain ⟨S75, hS75⟩ : ∃ z, S65.sI o1 1 ((S65.I o1 1) + (1 : Int32)) = z := ⟨_, rfl⟩
            have hP : va_P D vwCl (X ++ PL cy S75) H := by rw [← hS75, ← e9]; exact hP2
            have hD : va_D A (X ++ PL cy S75) := by rw [← hS75, ← e9]; exact hD2
            have xe76 : ext S65 S75 := by rw [← hS75]; exact ext.sI _ _ _ _
            have t77 : stp [(9, 1), (19, 101)] [] [] S S75 := by rw [← hS75]; exact t67.I 1 ((S65.I o1 1) + (1 : Int32)) ((xe33.tr (xe61.tr xe66)).A h_o1) (by decide) (⟨⟨by omega, by omega⟩, by rw [f_of ((xe33.tr (xe61.tr xe66)).F h_o1 (by decide) F25.1)]; exact E_push (by have h9 := ((t67.w.at ((xe33.tr (xe61.tr xe66)).A h_o1) List.not_mem_nil).to_9 ((xe33.tr (xe61.tr xe66)).A h_o1).2.1).E0; rw [f_of ((xe33.tr (xe61.tr xe66)).F h_o1 (by decide) F25.1)] at h9; exact h9) (by omega) g69 (by omega) (xe66.A (xe61.A aqa31))⟩) (Or.inl (by decide))
            have k78 : (S75.I o1 1).toInt = ((S65.I o1 1) + (1 : Int32)).toInt := by rw [← hS75, sI_eq]
            refine lv_iload hx hb dX9_gear_93 (lv_at hl 0 rfl) ?_
            have F79 := ((t60.w.at (xe61.A aqa31) List.not_mem_nil).to_2 (xe61.A aqa31).2.1).F6
            have F80 := ((t60.w.at F79.2 List.not_mem_nil).to_13 F79.2.2.1).F0
            refine vx_ret ?_
            refine W.widen (k := 10) (n := 467) (Nat.le_of_ble_eq_true rfl) (Nat.le_of_ble_eq_true rfl) ?_
            exact W.iret (v := S.I o1 1) hx hb hr (fun t ht hW9 => ⟨⟨S.I o1 1, S75, rfl, ⟨(by show f_X9_gear S o1 x1 x2 x3 x4 = .ok (S.I o1 1); unfold f_X9_gear; rw [eB_ok c3, eB_ok c7, eB_ok c13, eB_ok c19, if_pos c28]), t77, (by omega), (⟨qa31, bqa31, (xe76.A (xe66.A (xe61.A aqa31))), (by rw [← hS75]; exact g69), (fun i hi => ((show S75.r (S.f o1 0) i = S65.r (S.f o1 0) i from by rw [← hS75]; rfl).trans ((show S65.r (S.f o1 0) i = S59.r (S.f o1 0) i from by rw [← hS65]; exact sr_up_ne hi).trans ((show S59.r (S.f o1 0) i = S32.r (S.f o1 0) i from congrFun ((w37.fR (S.f o1 0) (xe33.A F25.2.1).1 (by rw [List.mem_singleton]; exact fun e => hqa31 (e ▸ F25.2.1.1))).2.2.1 (by rw [(xe33.A F25.2.1).2.1]; decide)) i).trans (show S32.r (S.f o1 0) i = S.r (S.f o1 0) i from by rw [← hS32]; exact congrFun (up_nq (f := S.r) (fun e : (S.f o1 0) = qa31 => hqa31 (by rw [← e]; exact F25.2.1.1))) i))))), (by rw [← hS75, sI_no (fun e1 : qa31 = o1 => hqa31 (by rw [e1]; exact h_o1.1))]; rw [← hS65]; show S59.I qa31 0 = _; exact y39), (by rw [← hS75, sI_no (fun e1 : qa31 = o1 => hqa31 (by rw [e1]; exact h_o1.1))]; rw [← hS65]; show S59.I qa31 1 = _; exact y40), (by rw [← hS75, sI_no (fun e1 : qa31 = o1 => hqa31 (by rw [e1]; exact h_o1.1))]; rw [← hS65]; show S59.I qa31 2 = _; exact y41), (by rw [← hS75, sI_no (fun e1 : qa31 = o1 => hqa31 (by rw [e1]; exact h_o1.1))]; rw [← hS65]; show S59.I qa31 3 = _; exact y42), (by rw [← hS75, sI_no (fun e1 : qa31 = o1 => hqa31 (by rw [e1]; exact h_o1.1))]; rw [← hS65]; show S59.I qa31 4 = _; exact y43), (by rw [← hS75, sI_no (fun e1 : qa31 = o1 => hqa31 (by rw [e1]; exact h_o1.1))]; rw [← hS65]; show S59.I qa31 7 = _; exact y44), (by rw [← hS75, sI_no (fun e1 : qa31 = o1 => hqa31 (by rw [e1]; exact h_o1.1))]; rw [← hS65]; show S59.I qa31 8 = _; exact y45), (by rw [← hS75, sI_no (fun e1 : qa31 = o1 => hqa31 (by rw [e1]; exact h_o1.1))]; rw [← hS65]; show S59.I qa31 9 = _; exact y46), (by rw [← hS75, sI_no (fun e1 : qa31 = o1 => hqa31 (by rw [e1]; exact h_o1.1))]; rw [← hS65]; show S59.I qa31 10 = _; exact y47), (by rw [← hS75, sI_no (fun e1 : qa31 = o1 => hqa31 (by rw [e1]; exact h_o1.1))]; rw [← hS65]; show S59.I qa31 11 = _; exact y48), (by rw [f_of ((xe66.tr xe76).F (xe61.A aqa31) (by decide) F79.1)]; exact fun e9 => y56 (xe33 _ e9).1), (by rw [f_of ((xe66.tr xe76).F (xe61.A aqa31) (by decide) F79.1)]; exact ((show S75.I (S59.f qa31 6) 3 = S65.I (S59.f qa31 6) 3 from by rw [← hS75, sI_no (fun e1 : (S59.f qa31 6) = o1 => by have k9 := (xe66.A F79.2).2.1; rw [e1, ((xe33.tr (xe61.tr xe66)).A h_o1).2.1] at k9; exact absurd k9 (by decide))]).trans (show S65.I (S59.f qa31 6) 3 = S59.I (S59.f qa31 6) 3 from by rw [← hS65]; rfl)).trans y57), (by rw [f_of ((xe66.tr xe76).F (xe61.A aqa31) (by decide) F79.1), f_of ((xe66.tr xe76).F F79.2 (by decide) F80.1)]; exact fun e9 => y58 (xe33 _ e9).1)⟩)⟩, wd_end hP hK hD ht hW9.alike⟩, hS.F ht⟩) hS.2.2 dX9_gear_95 hlocks
          · have c28i : 20 ≤ (S.I o1 1).toInt := nlt_v rfl rfl c28
            obtain ⟨sa, hsa⟩ := hTH.2.2 (RX9, 69, "there are 20 gears") (by decide +kernel)
            exact vx_throwS hx hb hst (names := ["java/lang/RuntimeException", "java/lang/Exception"]) hown (by decide +kernel) (by decide +kernel) (hts (.classLink RX9 67 "java/lang/IllegalStateException") (by decide +kernel)) (hts (.initialized "java/lang/IllegalStateException") (by decide +kernel)) hsa (th_at (B := exW_X9_ISE) (fun w h => hts w (s_X9_gear_ISE w h)) rfl (by simp only [exW, List.mem_append]; intro w h; simp [h]) hTH.2.1) (List.forall_mem_cons.mpr ⟨by decide +kernel, List.forall_mem_cons.mpr ⟨by decide +kernel, exW_X9_ISE_ok⟩⟩) hTH.1.1 hTH.1.2 hS (hl.1.trans hml.symm) dX9_gear_46 dX9_gear_49 dX9_gear_50 dX9_gear_52 dX9_gear_55 (fun x h => (hno x h).elim) (Nat.le_of_ble_eq_true rfl) (Nat.le_of_ble_eq_true rfl) (Nat.le_of_ble_eq_true rfl) (Nat.le_of_ble_eq_true rfl) hlocks (fun t hA2 h1 h2 => ⟨S, t0, ⟨(by show f_X9_gear S o1 x1 x2 x3 x4 = .error "java/lang/IllegalStateException"; unfold f_X9_gear; rw [eB_ok c3, eB_ok c7, eB_ok c13, eB_ok c19, if_neg c28]), (by decide), rfl, wd_exc hP hK hD hA2 h2⟩, exc_F hS h1 h2⟩) hS.2.2 (Nat.le_of_ble_eq_true rfl) (Nat.le_of_ble_eq_true rfl)
theorem hi_X4_init_X4 : ∀ w ∈ u_ws RX4 TX4 9, w ∈ wsX4_init := by decide +kernel
set_option maxHeartbeats 4000000 in
set_option maxRecDepth 100000 in
theorem c_X4_init (l : Launch) {D : va_G} {cy : Nat → ClassId} {X : va_W} (S : wPS) (sz : Nat) (o1 : Nat) (h_o1 : isA S o1 4) (R : List Nat) (hW : wtB S (o1 :: R)) (hF0 : ∀ j, S.F o1 j = none) (hI0 : ∀ j, S.I o1 j = 0)  : Met l yX4_init wsX4_init ({ frames := 1, cells := 6, slots := 50, locals := 12 }) (va_Pc [.ref o1] (fun U => U.heap.size = sz ∧ WD D cy X (fun _ => True) S U ∧ NW U)) (va_Qv (fun (u : wPS) => stp ([] : List (Nat × Nat)) [o1] R S u ∧ isA u o1 4 ∧ u.I o1 6 = (0 : Int32) ∧ u.I o1 7 = (0 : Int32) ∧ u.I o1 8 = (0 : Int32)) (fun u t => WD D cy X (va_A (X ++ PL cy S) sz) u t) (va_A (X ++ PL cy S) sz)) 6 50 (va_A (X ++ PL cy S) sz) := by
  refine Met.ofW (cc := cX4_init) (maxL := 1) (ret := none) (by decide) rfl ?_
  intro p e s m args below meth c s₁ B hml hv
  obtain ⟨rfl, hsz, ⟨hP, hK, hD0⟩, hN⟩ := hv
  have hx := B.exec
  have hb := B.bytes
  have hr := B.returns
  have hts := atoms_spec (ws := wsX4_init) B.pre
  have hown : s.vm.findClass RX4 = some m.cls := findClass_of_methodNamed (x := yX4_init) B.named
  have hlocks := B.notSynchronized
  have hin : meth.name = "<init>" := (name_of_methodNamed B.named B.method).1
  subst hsz
  have hD := hD0.self (sz := s.heap.size)
  generalize hAe : va_A (X ++ PL cy S) s.heap.size = A at hD ⊢
  have hA : ∀ q : Nat, s.heap.size ≤ q → A q := fun q h => by rw [← hAe]; exact Or.inr h
  have hS : va_S A s.heap s.heap [] := va_S.rf
  have hl := lv_entry ([.ref o1]) (n := 1) (Nat.le_of_ble_eq_true rfl)
  rw [lg_entry_eq]
  generalize (lg_sl ([.ref o1]) ++ List.replicate (1 - (lg_sl ([.ref o1])).length) Slot.unset).toArray = ls at hl ⊢
  have hl : lv_has ls 1 [(0, .ref o1)] := hl
  have t0 : stp ([] : List (Nat × Nat)) [o1] (o1 :: R) S S := stp.rf hW
  refine lv_aload_n hx hb dX4_init_0 rfl (lv_at hl 0 rfl) ?_
  refine W.objInit hx hb hown (hts (.methodLink RX4 3 objectInit) (by decide +kernel)) (hts (.instanceMethod objectInit) (by decide +kernel)) (hts (.code objectInit ⟨#[0xb1]⟩ 1 none) (by decide +kernel)) rfl (by rw [hml]; exact hl.1) rfl dX4_init_1 (Nat.le_of_ble_eq_true rfl) (Nat.le_of_ble_eq_true rfl) ?_
  refine W.eq (g2 := F0 m 4 ls []) rfl ?_
  refine lv_aload_n hx hb dX4_init_4 rfl (lv_at hl 0 rfl) ?_
  refine lv_iconst (v := 5) hx hb dX4_init_5 (by decide) ?_
  refine va_newq (C := "Hobhouse$Gear") hx hb hown (hts (.classLink RX4 9 "Hobhouse$Gear") (by decide +kernel)) (hN (.arrayOver (.object "Hobhouse$Gear")) (by decide +kernel)) hK hP hD hS hA (N' := 5) (by decide) (by decide) (by decide) (Nat.le_of_ble_eq_true rfl) (Nat.le_of_ble_eq_true rfl) dX4_init_6 (fun qa1 cqa1 H hK2 hP2 hD2 hS => ?_)
  obtain rfl : cqa1 = cy 4 := cls_19 hK hK2
  have hqa1 : qa1 ∉ S.L := nw_q hD2
  have e9 := wNw (cy := cy) (X := X) (S := S) (a := qa1) (k := 24) (z := 5) (f := fun _ => 0) (g := fun _ => none) hqa1 rfl
  obtain ⟨S2, hS2⟩ : ∃ z, S.nw qa1 24 5 (fun _ => 0) (fun _ => none) = z := ⟨_, rfl⟩
  have hP : va_P D vwCl (X ++ PL cy S2) H := by rw [← hS2, ← e9]; exact hP2
  have hD : va_D A (X ++ PL cy S2) := by rw [← hS2, ← e9]; exact hD2
  have xe3 : ext S S2 := by rw [← hS2]; exact ext.nw hqa1
  have t4 : stp ([] : List (Nat × Nat)) [o1] (o1 :: R) S S2 := by rw [← hS2]; exact t0.nwA hqa1 (by decide)
  refine W.widen (k := 1) (n := 5) (Nat.le_of_ble_eq_true rfl) (Nat.le_of_ble_eq_true rfl) ?_
  have aqa1 : isA S2 qa1 24 := by rw [← hS2]; exact nw_A (by decide)
  have nqa1 : S2.n qa1 = 5 := by rw [← hS2]; exact nw_n
  obtain ⟨k5, gk5, hk5⟩ := wGt (cy := cy) X S2 (xe3.A h_o1).1 (xe3.A h_o1).2.1
  refine va_putF (D := D) (ci := 8) (v := .ref qa1) (ty := (tyX4 0)) (C := RX4) (T := TX4) (N := 9) hx hb hts hi_X4_init_X4 tyX4 tyX4_ok nmX4 hown hK hP hD hS k5 hk5 rfl 0 (by decide) (hts (.fieldLink RX4 11 "Hobhouse$Matching" "firsts" "[LHobhouse$Gear;") (by decide +kernel)) (fun _ h9 => h9) rfl hin rfl (by decide +kernel) (rfl) (rfl) (Nat.le_of_ble_eq_true rfl) dX4_init_9 (fun H locs hP2 hD2 hS => ?_)
  have e9 := wPuF (cy := cy) (j := 0) (v := (some qa1)) hD (xe3.A h_o1).1 (xe3.A h_o1).2.1 gk5 rfl
  obtain ⟨S6, hS6⟩ : ∃ z, S2.sF o1 0 (some qa1) = z := ⟨_, rfl⟩
  have hP : va_P D vwCl (X ++ PL cy S6) H := by rw [← hS6, ← e9]; exact hP2
  have hD : va_D A (X ++ PL cy S6) := by rw [← hS6, ← e9]; exact hD2
  have xe7 : ext S2 S6 := by rw [← hS6]; exact ext.sF (by rw [← hS2, nw_Fo hqa1 h_o1.1]; exact hF0 0)
  have t8 : stp ([] : List (Nat × Nat)) [o1] (o1 :: R) S S6 := by rw [← hS6]; exact t4.F 0 qa1 List.mem_cons_self (Or.inl List.mem_cons_self) (by rw [← hS2, nw_Fo hqa1 h_o1.1]; exact hF0 0)
  have F9 : S6.F o1 0 = some qa1 := by rw [← hS6]; exact sF_eq
  refine lv_aload_n hx hb dX4_init_12 rfl (lv_at hl 0 rfl) ?_
  refine lv_iconst (v := 5) hx hb dX4_init_13 (by decide) ?_
  refine va_newq (C := "Hobhouse$Gear") hx hb hown (hts (.classLink RX4 9 "Hobhouse$Gear") (by decide +kernel)) (hN (.arrayOver (.object "Hobhouse$Gear")) (by decide +kernel)) hK hP hD hS hA (N' := 5) (by decide) (by decide) (by decide) (Nat.le_of_ble_eq_true rfl) (Nat.le_of_ble_eq_true rfl) dX4_init_14 (fun qa10 cqa10 H hK2 hP2 hD2 hS => ?_)
  obtain rfl : cqa10 = cy 4 := cls_19 hK hK2
  have hqa10 : qa10 ∉ S6.L := nw_q hD2
  have e9 := wNw (cy := cy) (X := X) (S := S6) (a := qa10) (k := 24) (z := 5) (f := fun _ => 0) (g := fun _ => none) hqa10 rfl
  obtain ⟨S11, hS11⟩ : ∃ z, S6.nw qa10 24 5 (fun _ => 0) (fun _ => none) = z := ⟨_, rfl⟩
  have hP : va_P D vwCl (X ++ PL cy S11) H := by rw [← hS11, ← e9]; exact hP2
  have hD : va_D A (X ++ PL cy S11) := by rw [← hS11, ← e9]; exact hD2
  have xe12 : ext S6 S11 := by rw [← hS11]; exact ext.nw hqa10
  have t13 : stp ([] : List (Nat × Nat)) [o1] (o1 :: R) S S11 := by rw [← hS11]; exact t8.nwA hqa10 (by decide)
  refine W.widen (k := 2) (n := 10) (Nat.le_of_ble_eq_true rfl) (Nat.le_of_ble_eq_true rfl) ?_
  have aqa10 : isA S11 qa10 24 := by rw [← hS11]; exact nw_A (by decide)
  have nqa10 : S11.n qa10 = 5 := by rw [← hS11]; exact nw_n
  obtain ⟨k14, gk14, hk14⟩ := wGt (cy := cy) X S11 ((xe7.tr xe12).A (xe3.A h_o1)).1 ((xe7.tr xe12).A (xe3.A h_o1)).2.1
  refine va_putF (D := D) (ci := 8) (v := .ref qa10) (ty := (tyX4 1)) (C := RX4) (T := TX4) (N := 9) hx hb hts hi_X4_init_X4 tyX4 tyX4_ok nmX4 hown hK hP hD hS k14 hk14 rfl 1 (by decide) (hts (.fieldLink RX4 17 "Hobhouse$Matching" "seconds" "[LHobhouse$Gear;") (by decide +kernel)) (fun _ h9 => h9) rfl hin rfl (by decide +kernel) (rfl) (rfl) (Nat.le_of_ble_eq_true rfl) dX4_init_17 (fun H locs hP2 hD2 hS => ?_)
  have e9 := wPuF (cy := cy) (j := 1) (v := (some qa10)) hD ((xe7.tr xe12).A (xe3.A h_o1)).1 ((xe7.tr xe12).A (xe3.A h_o1)).2.1 gk14 rfl
  obtain ⟨S15, hS15⟩ : ∃ z, S11.sF o1 1 (some qa10) = z := ⟨_, rfl⟩
  have hP : va_P D vwCl (X ++ PL cy S15) H := by rw [← hS15, ← e9]; exact hP2
  have hD : va_D A (X ++ PL cy S15) := by rw [← hS15, ← e9]; exact hD2
  have xe16 : ext S11 S15 := by rw [← hS15]; exact ext.sF (by rw [← hS11, nw_Fo hqa10 ((xe3.tr xe7).A h_o1).1]; rw [← hS6, sF_ne (fun q9 => absurd q9.2 (by decide))]; rw [← hS2, nw_Fo hqa1 h_o1.1]; exact hF0 1)
  have t17 : stp ([] : List (Nat × Nat)) [o1] (o1 :: R) S S15 := by rw [← hS15]; exact t13.F 1 qa10 List.mem_cons_self (Or.inl List.mem_cons_self) (by rw [← hS11, nw_Fo hqa10 ((xe3.tr xe7).A h_o1).1]; rw [← hS6, sF_ne (fun q9 => absurd q9.2 (by decide))]; rw [← hS2, nw_Fo hqa1 h_o1.1]; exact hF0 1)
  have F18 : S15.F o1 1 = some qa10 := by rw [← hS15]; exact sF_eq
  refine lv_aload_n hx hb dX4_init_20 rfl (lv_at hl 0 rfl) ?_
  refine lv_bipush (v := 25) hx hb dX4_init_21 (by decide +kernel) ?_
  refine va_newa (atype := .int) hx hb (hts (.arrayClass .int) (by decide +kernel)) (ty := .int) rfl hK hP hD hS hA (N' := 25) (a0 := (25, .inl (fun _ => 0))) (fun _ => rfl) (by decide) (by decide) (by decide) (Nat.le_of_ble_eq_true rfl) (Nat.le_of_ble_eq_true rfl) dX4_init_23 (fun qa19 cqa19 H hK2 hP2 hD2 hS => ?_)
  obtain rfl : cqa19 = cy 2 := cls_int hK hK2
  have hqa19 : qa19 ∉ S15.L := nw_q hD2
  have e9 := wNw (cy := cy) (X := X) (S := S15) (a := qa19) (k := 17) (z := 25) (f := fun _ => 0) (g := fun _ => none) hqa19 rfl
  obtain ⟨S20, hS20⟩ : ∃ z, S15.nw qa19 17 25 (fun _ => 0) (fun _ => none) = z := ⟨_, rfl⟩
  have hP : va_P D vwCl (X ++ PL cy S20) H := by rw [← hS20, ← e9]; exact hP2
  have hD : va_D A (X ++ PL cy S20) := by rw [← hS20, ← e9]; exact hD2
  have xe21 : ext S15 S20 := by rw [← hS20]; exact ext.nw hqa19
  have t22 : stp ([] : List (Nat × Nat)) [o1] (o1 :: R) S S20 := by rw [← hS20]; exact t17.nwA hqa19 (by decide)
  refine W.widen (k := 3) (n := 35) (Nat.le_of_ble_eq_true rfl) (Nat.le_of_ble_eq_true rfl) ?_
  have aqa19 : isA S20 qa19 17 := by rw [← hS20]; exact nw_A (by decide)
  have nqa19 : S20.n qa19 = 25 := by rw [← hS20]; exact nw_n
  obtain ⟨k23, gk23, hk23⟩ := wGt (cy := cy) X S20 ((xe16.tr xe21).A ((xe7.tr xe12).A (xe3.A h_o1))).1 ((xe16.tr xe21).A ((xe7.tr xe12).A (xe3.A h_o1))).2.1
  refine va_putF (D := D) (ci := 8) (v := .ref qa19) (ty := (tyX4 2)) (C := RX4) (T := TX4) (N := 9) hx hb hts hi_X4_init_X4 tyX4 tyX4_ok nmX4 hown hK hP hD hS k23 hk23 rfl 2 (by decide) (hts (.fieldLink RX4 20 "Hobhouse$Matching" "peaks" "[I") (by decide +kernel)) (fun _ h9 => h9) rfl hin rfl (by decide +kernel) (rfl) (rfl) (Nat.le_of_ble_eq_true rfl) dX4_init_25 (fun H locs hP2 hD2 hS => ?_)
  have e9 := wPuF (cy := cy) (j := 2) (v := (some qa19)) hD ((xe16.tr xe21).A ((xe7.tr xe12).A (xe3.A h_o1))).1 ((xe16.tr xe21).A ((xe7.tr xe12).A (xe3.A h_o1))).2.1 gk23 rfl
  obtain ⟨S24, hS24⟩ : ∃ z, S20.sF o1 2 (some qa19) = z := ⟨_, rfl⟩
  have hP : va_P D vwCl (X ++ PL cy S24) H := by rw [← hS24, ← e9]; exact hP2
  have hD : va_D A (X ++ PL cy S24) := by rw [← hS24, ← e9]; exact hD2
  have xe25 : ext S20 S24 := by rw [← hS24]; exact ext.sF (by rw [← hS20, nw_Fo hqa19 ((xe3.tr (xe7.tr (xe12.tr xe16))).A h_o1).1]; rw [← hS15, sF_ne (fun q9 => absurd q9.2 (by decide))]; rw [← hS11, nw_Fo hqa10 ((xe3.tr xe7).A h_o1).1]; rw [← hS6, sF_ne (fun q9 => absurd q9.2 (by decide))]; rw [← hS2, nw_Fo hqa1 h_o1.1]; exact hF0 2)
  have t26 : stp ([] : List (Nat × Nat)) [o1] (o1 :: R) S S24 := by rw [← hS24]; exact t22.F 2 qa19 List.mem_cons_self (Or.inl List.mem_cons_self) (by rw [← hS20, nw_Fo hqa19 ((xe3.tr (xe7.tr (xe12.tr xe16))).A h_o1).1]; rw [← hS15, sF_ne (fun q9 => absurd q9.2 (by decide))]; rw [← hS11, nw_Fo hqa10 ((xe3.tr xe7).A h_o1).1]; rw [← hS6, sF_ne (fun q9 => absurd q9.2 (by decide))]; rw [← hS2, nw_Fo hqa1 h_o1.1]; exact hF0 2)
  have F27 : S24.F o1 2 = some qa19 := by rw [← hS24]; exact sF_eq
  refine lv_aload_n hx hb dX4_init_28 rfl (lv_at hl 0 rfl) ?_
  refine lv_iconst (v := 5) hx hb dX4_init_29 (by decide) ?_
  refine va_newa (atype := .boolean) hx hb (hts (.arrayClass .boolean) (by decide +kernel)) (ty := .boolean) rfl hK hP hD hS hA (N' := 5) (a0 := (5, .inl (fun _ => 0))) (fun _ => rfl) (by decide) (by decide) (by decide) (Nat.le_of_ble_eq_true rfl) (Nat.le_of_ble_eq_true rfl) dX4_init_30 (fun qa28 cqa28 H hK2 hP2 hD2 hS => ?_)
  obtain rfl : cqa28 = cy 3 := cls_boolean hK hK2
  have hqa28 : qa28 ∉ S24.L := nw_q hD2
  have e9 := wNw (cy := cy) (X := X) (S := S24) (a := qa28) (k := 18) (z := 5) (f := fun _ => 0) (g := fun _ => none) hqa28 rfl
  obtain ⟨S29, hS29⟩ : ∃ z, S24.nw qa28 18 5 (fun _ => 0) (fun _ => none) = z := ⟨_, rfl⟩
  have hP : va_P D vwCl (X ++ PL cy S29) H := by rw [← hS29, ← e9]; exact hP2
  have hD : va_D A (X ++ PL cy S29) := by rw [← hS29, ← e9]; exact hD2
  have xe30 : ext S24 S29 := by rw [← hS29]; exact ext.nw hqa28
  have t31 : stp ([] : List (Nat × Nat)) [o1] (o1 :: R) S S29 := by rw [← hS29]; exact t26.nwA hqa28 (by decide)
  refine W.widen (k := 4) (n := 40) (Nat.le_of_ble_eq_true rfl) (Nat.le_of_ble_eq_true rfl) ?_
  have aqa28 : isA S29 qa28 18 := by rw [← hS29]; exact nw_A (by decide)
  have nqa28 : S29.n qa28 = 5 := by rw [← hS29]; exact nw_n
  have o33 : isA S29 o1 4 := ((xe25.tr xe30).A ((xe16.tr xe21).A ((xe7.tr xe12).A (xe3.A h_o1))))
  obtain ⟨k32, gk32, hk32⟩ := wGt (cy := cy) X S29 o33.1 o33.2.1
  refine va_putF (D := D) (ci := 8) (v := .ref qa28) (ty := (tyX4 3)) (C := RX4) (T := TX4) (N := 9) hx hb hts hi_X4_init_X4 tyX4 tyX4_ok nmX4 hown hK hP hD hS k32 hk32 rfl 3 (by decide) (hts (.fieldLink RX4 24 "Hobhouse$Matching" "isTaken" "[Z") (by decide +kernel)) (fun _ h9 => h9) rfl hin rfl (by decide +kernel) (rfl) (rfl) (Nat.le_of_ble_eq_true rfl) dX4_init_32 (fun H locs hP2 hD2 hS => ?_)
  have e9 := wPuF (cy := cy) (j := 3) (v := (some qa28)) hD o33.1 o33.2.1 gk32 rfl
  obtain ⟨S34, hS34⟩ : ∃ z, S29.sF o1 3 (some qa28) = z := ⟨_, rfl⟩
  have hP : va_P D vwCl (X ++ PL cy S34) H := by rw [← hS34, ← e9]; exact hP2
  have hD : va_D A (X ++ PL cy S34) := by rw [← hS34, ← e9]; exact hD2
  have xe35 : ext S29 S34 := by rw [← hS34]; exact ext.sF (by rw [← hS29, nw_Fo hqa28 ((xe3.tr (xe7.tr (xe12.tr (xe16.tr (xe21.tr xe25))))).A h_o1).1]; rw [← hS24, sF_ne (fun q9 => absurd q9.2 (by decide))]; rw [← hS20, nw_Fo hqa19 ((xe3.tr (xe7.tr (xe12.tr xe16))).A h_o1).1]; rw [← hS15, sF_ne (fun q9 => absurd q9.2 (by decide))]; rw [← hS11, nw_Fo hqa10 ((xe3.tr xe7).A h_o1).1]; rw [← hS6, sF_ne (fun q9 => absurd q9.2 (by decide))]; rw [← hS2, nw_Fo hqa1 h_o1.1]; exact hF0 3)
  have t36 : stp ([] : List (Nat × Nat)) [o1] (o1 :: R) S S34 := by rw [← hS34]; exact t31.F 3 qa28 List.mem_cons_self (Or.inl List.mem_cons_self) (by rw [← hS29, nw_Fo hqa28 ((xe3.tr (xe7.tr (xe12.tr (xe16.tr (xe21.tr xe25))))).A h_o1).1]; rw [← hS24, sF_ne (fun q9 => absurd q9.2 (by decide))]; rw [← hS20, nw_Fo hqa19 ((xe3.tr (xe7.tr (xe12.tr xe16))).A h_o1).1]; rw [← hS15, sF_ne (fun q9 => absurd q9.2 (by decide))]; rw [← hS11, nw_Fo hqa10 ((xe3.tr xe7).A h_o1).1]; rw [← hS6, sF_ne (fun q9 => absurd q9.2 (by decide))]; rw [← hS2, nw_Fo hqa1 h_o1.1]; exact hF0 3)
  have F37 : S34.F o1 3 = some qa28 := by rw [← hS34]; exact sF_eq
  refine lv_aload_n hx hb dX4_init_35 rfl (lv_at hl 0 rfl) ?_
  refine lv_iconst (v := 5) hx hb dX4_init_36 (by decide) ?_
  refine va_newa (atype := .int) hx hb (hts (.arrayClass .int) (by decide +kernel)) (ty := .int) rfl hK hP hD hS hA (N' := 5) (a0 := (5, .inl (fun _ => 0))) (fun _ => rfl) (by decide) (by decide) (by decide) (Nat.le_of_ble_eq_true rfl) (Nat.le_of_ble_eq_true rfl) dX4_init_37 (fun qa38 cqa38 H hK2 hP2 hD2 hS => ?_)
  obtain rfl : cqa38 = cy 2 := cls_int hK hK2
  have hqa38 : qa38 ∉ S34.L := nw_q hD2
  have e9 := wNw (cy := cy) (X := X) (S := S34) (a := qa38) (k := 17) (z := 5) (f := fun _ => 0) (g := fun _ => none) hqa38 rfl
  obtain ⟨S39, hS39⟩ : ∃ z, S34.nw qa38 17 5 (fun _ => 0) (fun _ => none) = z := ⟨_, rfl⟩
  have hP : va_P D vwCl (X ++ PL cy S39) H := by rw [← hS39, ← e9]; exact hP2
  have hD : va_D A (X ++ PL cy S39) := by rw [← hS39, ← e9]; exact hD2
  have xe40 : ext S34 S39 := by rw [← hS39]; exact ext.nw hqa38
  have t41 : stp ([] : List (Nat × Nat)) [o1] (o1 :: R) S S39 := by rw [← hS39]; exact t36.nwA hqa38 (by decide)
  refine W.widen (k := 5) (n := 45) (Nat.le_of_ble_eq_true rfl) (Nat.le_of_ble_eq_true rfl) ?_
  have aqa38 : isA S39 qa38 17 := by rw [← hS39]; exact nw_A (by decide)
  have nqa38 : S39.n qa38 = 5 := by rw [← hS39]; exact nw_n
  obtain ⟨k42, gk42, hk42⟩ := wGt (cy := cy) X S39 ((xe35.tr xe40).A o33).1 ((xe35.tr xe40).A o33).2.1
  refine va_putF (D := D) (ci := 8) (v := .ref qa38) (ty := (tyX4 4)) (C := RX4) (T := TX4) (N := 9) hx hb hts hi_X4_init_X4 tyX4 tyX4_ok nmX4 hown hK hP hD hS k42 hk42 rfl 4 (by decide) (hts (.fieldLink RX4 28 "Hobhouse$Matching" "partners" "[I") (by decide +kernel)) (fun _ h9 => h9) rfl hin rfl (by decide +kernel) (rfl) (rfl) (Nat.le_of_ble_eq_true rfl) dX4_init_39 (fun H locs hP2 hD2 hS => ?_)
  have e9 := wPuF (cy := cy) (j := 4) (v := (some qa38)) hD ((xe35.tr xe40).A o33).1 ((xe35.tr xe40).A o33).2.1 gk42 rfl
  obtain ⟨S43, hS43⟩ : ∃ z, S39.sF o1 4 (some qa38) = z := ⟨_, rfl⟩
  have hP : va_P D vwCl (X ++ PL cy S43) H := by rw [← hS43, ← e9]; exact hP2
  have hD : va_D A (X ++ PL cy S43) := by rw [← hS43, ← e9]; exact hD2
  have xe44 : ext S39 S43 := by rw [← hS43]; exact ext.sF (by rw [← hS39, nw_Fo hqa38 ((xe3.tr (xe7.tr (xe12.tr (xe16.tr (xe21.tr (xe25.tr (xe30.tr xe35))))))).A h_o1).1]; rw [← hS34, sF_ne (fun q9 => absurd q9.2 (by decide))]; rw [← hS29, nw_Fo hqa28 ((xe3.tr (xe7.tr (xe12.tr (xe16.tr (xe21.tr xe25))))).A h_o1).1]; rw [← hS24, sF_ne (fun q9 => absurd q9.2 (by decide))]; rw [← hS20, nw_Fo hqa19 ((xe3.tr (xe7.tr (xe12.tr xe16))).A h_o1).1]; rw [← hS15, sF_ne (fun q9 => absurd q9.2 (by decide))]; rw [← hS11, nw_Fo hqa10 ((xe3.tr xe7).A h_o1).1]; rw [← hS6, sF_ne (fun q9 => absurd q9.2 (by decide))]; rw [← hS2, nw_Fo hqa1 h_o1.1]; exact hF0 4)
  have t45 : stp ([] : List (Nat × Nat)) [o1] (o1 :: R) S S43 := by rw [← hS43]; exact t41.F 4 qa38 List.mem_cons_self (Or.inl List.mem_cons_self) (by rw [← hS39, nw_Fo hqa38 ((xe3.tr (xe7.tr (xe12.tr (xe16.tr (xe21.tr (xe25.tr (xe30.tr xe35))))))).A h_o1).1]; rw [← hS34, sF_ne (fun q9 => absurd q9.2 (by decide))]; rw [← hS29, nw_Fo hqa28 ((xe3.tr (xe7.tr (xe12.tr (xe16.tr (xe21.tr xe25))))).A h_o1).1]; rw [← hS24, sF_ne (fun q9 => absurd q9.2 (by decide))]; rw [← hS20, nw_Fo hqa19 ((xe3.tr (xe7.tr (xe12.tr xe16))).A h_o1).1]; rw [← hS15, sF_ne (fun q9 => absurd q9.2 (by decide))]; rw [← hS11, nw_Fo hqa10 ((xe3.tr xe7).A h_o1).1]; rw [← hS6, sF_ne (fun q9 => absurd q9.2 (by decide))]; rw [← hS2, nw_Fo hqa1 h_o1.1]; exact hF0 4)
  have F46 : S43.F o1 4 = some qa38 := by rw [← hS43]; exact sF_eq
  refine lv_aload_n hx hb dX4_init_42 rfl (lv_at hl 0 rfl) ?_
  refine lv_iconst (v := 5) hx hb dX4_init_43 (by decide) ?_
  refine va_newa (atype := .int) hx hb (hts (.arrayClass .int) (by decide +kernel)) (ty := .int) rfl hK hP hD hS hA (N' := 5) (a0 := (5, .inl (fun _ => 0))) (fun _ => rfl) (by decide) (by decide) (by decide) (Nat.le_of_ble_eq_true rfl) (Nat.le_of_ble_eq_true rfl) dX4_init_44 (fun qa47 cqa47 H hK2 hP2 hD2 hS => ?_)
  obtain rfl : cqa47 = cy 2 := cls_int hK hK2
  have hqa47 : qa47 ∉ S43.L := nw_q hD2
  have e9 := wNw (cy := cy) (X := X) (S := S43) (a := qa47) (k := 17) (z := 5) (f := fun _ => 0) (g := fun _ => none) hqa47 rfl
  obtain ⟨S48, hS48⟩ : ∃ z, S43.nw qa47 17 5 (fun _ => 0) (fun _ => none) = z := ⟨_, rfl⟩
  have hP : va_P D vwCl (X ++ PL cy S48) H := by rw [← hS48, ← e9]; exact hP2
  have hD : va_D A (X ++ PL cy S48) := by rw [← hS48, ← e9]; exact hD2
  have xe49 : ext S43 S48 := by rw [← hS48]; exact ext.nw hqa47
  have t50 : stp ([] : List (Nat × Nat)) [o1] (o1 :: R) S S48 := by rw [← hS48]; exact t45.nwA hqa47 (by decide)
  refine W.widen (k := 6) (n := 50) (Nat.le_of_ble_eq_true rfl) (Nat.le_of_ble_eq_true rfl) ?_
  have aqa47 : isA S48 qa47 17 := by rw [← hS48]; exact nw_A (by decide)
  have nqa47 : S48.n qa47 = 5 := by rw [← hS48]; exact nw_n
  obtain ⟨k51, gk51, hk51⟩ := wGt (cy := cy) X S48 ((xe44.tr xe49).A ((xe35.tr xe40).A o33)).1 ((xe44.tr xe49).A ((xe35.tr xe40).A o33)).2.1
  refine va_putF (D := D) (ci := 8) (v := .ref qa47) (ty := (tyX4 5)) (C := RX4) (T := TX4) (N := 9) hx hb hts hi_X4_init_X4 tyX4 tyX4_ok nmX4 hown hK hP hD hS k51 hk51 rfl 5 (by decide) (hts (.fieldLink RX4 31 "Hobhouse$Matching" "bestPartners" "[I") (by decide +kernel)) (fun _ h9 => h9) rfl hin rfl (by decide +kernel) (rfl) (rfl) (Nat.le_of_ble_eq_true rfl) dX4_init_46 (fun H locs hP2 hD2 hS => ?_)
  have e9 := wPuF (cy := cy) (j := 5) (v := (some qa47)) hD ((xe44.tr xe49).A ((xe35.tr xe40).A o33)).1 ((xe44.tr xe49).A ((xe35.tr xe40).A o33)).2.1 gk51 rfl
  obtain ⟨S52, hS52⟩ : ∃ z, S48.sF o1 5 (some qa47) = z := ⟨_, rfl⟩
  have hP : va_P D vwCl (X ++ PL cy S52) H := by rw [← hS52, ← e9]; exact hP2
  have hD : va_D A (X ++ PL cy S52) := by rw [← hS52, ← e9]; exact hD2
  have xe53 : ext S48 S52 := by rw [← hS52]; exact ext.sF (by rw [← hS48, nw_Fo hqa47 ((xe3.tr (xe7.tr (xe12.tr (xe16.tr (xe21.tr (xe25.tr (xe30.tr (xe35.tr (xe40.tr xe44))))))))).A h_o1).1]; rw [← hS43, sF_ne (fun q9 => absurd q9.2 (by decide))]; rw [← hS39, nw_Fo hqa38 ((xe3.tr (xe7.tr (xe12.tr (xe16.tr (xe21.tr (xe25.tr (xe30.tr xe35))))))).A h_o1).1]; rw [← hS34, sF_ne (fun q9 => absurd q9.2 (by decide))]; rw [← hS29, nw_Fo hqa28 ((xe3.tr (xe7.tr (xe12.tr (xe16.tr (xe21.tr xe25))))).A h_o1).1]; rw [← hS24, sF_ne (fun q9 => absurd q9.2 (by decide))]; rw [← hS20, nw_Fo hqa19 ((xe3.tr (xe7.tr (xe12.tr xe16))).A h_o1).1]; rw [← hS15, sF_ne (fun q9 => absurd q9.2 (by decide))]; rw [← hS11, nw_Fo hqa10 ((xe3.tr xe7).A h_o1).1]; rw [← hS6, sF_ne (fun q9 => absurd q9.2 (by decide))]; rw [← hS2, nw_Fo hqa1 h_o1.1]; exact hF0 5)
  have t54 : stp ([] : List (Nat × Nat)) [o1] (o1 :: R) S S52 := by rw [← hS52]; exact t50.F 5 qa47 List.mem_cons_self (Or.inl List.mem_cons_self) (by rw [← hS48, nw_Fo hqa47 ((xe3.tr (xe7.tr (xe12.tr (xe16.tr (xe21.tr (xe25.tr (xe30.tr (xe35.tr (xe40.tr xe44))))))))).A h_o1).1]; rw [← hS43, sF_ne (fun q9 => absurd q9.2 (by decide))]; rw [← hS39, nw_Fo hqa38 ((xe3.tr (xe7.tr (xe12.tr (xe16.tr (xe21.tr (xe25.tr (xe30.tr xe35))))))).A h_o1).1]; rw [← hS34, sF_ne (fun q9 => absurd q9.2 (by decide))]; rw [← hS29, nw_Fo hqa28 ((xe3.tr (xe7.tr (xe12.tr (xe16.tr (xe21.tr xe25))))).A h_o1).1]; rw [← hS24, sF_ne (fun q9 => absurd q9.2 (by decide))]; rw [← hS20, nw_Fo hqa19 ((xe3.tr (xe7.tr (xe12.tr xe16))).A h_o1).1]; rw [← hS15, sF_ne (fun q9 => absurd q9.2 (by decide))]; rw [← hS11, nw_Fo hqa10 ((xe3.tr xe7).A h_o1).1]; rw [← hS6, sF_ne (fun q9 => absurd q9.2 (by decide))]; rw [← hS2, nw_Fo hqa1 h_o1.1]; exact hF0 5)
  have F55 : S52.F o1 5 = some qa47 := by rw [← hS52]; exact sF_eq
  have oo : isA S52 o1 4 := (xe53.A ((xe44.tr xe49).A ((xe35.tr xe40).A o33)))
  have I6 : S52.I o1 6 = (0 : Int32) := (by rw [← hS52]; show S48.I o1 6 = _; rw [← hS48, nw_Io hqa47 ((xe3.tr (xe7.tr (xe12.tr (xe16.tr (xe21.tr (xe25.tr (xe30.tr (xe35.tr (xe40.tr xe44))))))))).A h_o1).1]; rw [← hS43]; show S39.I o1 6 = _; rw [← hS39, nw_Io hqa38 ((xe3.tr (xe7.tr (xe12.tr (xe16.tr (xe21.tr (xe25.tr (xe30.tr xe35))))))).A h_o1).1]; rw [← hS34]; show S29.I o1 6 = _; rw [← hS29, nw_Io hqa28 ((xe3.tr (xe7.tr (xe12.tr (xe16.tr (xe21.tr xe25))))).A h_o1).1]; rw [← hS24]; show S20.I o1 6 = _; rw [← hS20, nw_Io hqa19 ((xe3.tr (xe7.tr (xe12.tr xe16))).A h_o1).1]; rw [← hS15]; show S11.I o1 6 = _; rw [← hS11, nw_Io hqa10 ((xe3.tr xe7).A h_o1).1]; rw [← hS6]; show S2.I o1 6 = _; rw [← hS2, nw_Io hqa1 h_o1.1]; exact hI0 6)
  have I7 : S52.I o1 7 = (0 : Int32) := (by rw [← hS52]; show S48.I o1 7 = _; rw [← hS48, nw_Io hqa47 ((xe3.tr (xe7.tr (xe12.tr (xe16.tr (xe21.tr (xe25.tr (xe30.tr (xe35.tr (xe40.tr xe44))))))))).A h_o1).1]; rw [← hS43]; show S39.I o1 7 = _; rw [← hS39, nw_Io hqa38 ((xe3.tr (xe7.tr (xe12.tr (xe16.tr (xe21.tr (xe25.tr (xe30.tr xe35))))))).A h_o1).1]; rw [← hS34]; show S29.I o1 7 = _; rw [← hS29, nw_Io hqa28 ((xe3.tr (xe7.tr (xe12.tr (xe16.tr (xe21.tr xe25))))).A h_o1).1]; rw [← hS24]; show S20.I o1 7 = _; rw [← hS20, nw_Io hqa19 ((xe3.tr (xe7.tr (xe12.tr xe16))).A h_o1).1]; rw [← hS15]; show S11.I o1 7 = _; rw [← hS11, nw_Io hqa10 ((xe3.tr xe7).A h_o1).1]; rw [← hS6]; show S2.I o1 7 = _; rw [← hS2, nw_Io hqa1 h_o1.1]; exact hI0 7)
  have I8 : S52.I o1 8 = (0 : Int32) := (by rw [← hS52]; show S48.I o1 8 = _; rw [← hS48, nw_Io hqa47 ((xe3.tr (xe7.tr (xe12.tr (xe16.tr (xe21.tr (xe25.tr (xe30.tr (xe35.tr (xe40.tr xe44))))))))).A h_o1).1]; rw [← hS43]; show S39.I o1 8 = _; rw [← hS39, nw_Io hqa38 ((xe3.tr (xe7.tr (xe12.tr (xe16.tr (xe21.tr (xe25.tr (xe30.tr xe35))))))).A h_o1).1]; rw [← hS34]; show S29.I o1 8 = _; rw [← hS29, nw_Io hqa28 ((xe3.tr (xe7.tr (xe12.tr (xe16.tr (xe21.tr xe25))))).A h_o1).1]; rw [← hS24]; show S20.I o1 8 = _; rw [← hS20, nw_Io hqa19 ((xe3.tr (xe7.tr (xe12.tr xe16))).A h_o1).1]; rw [← hS15]; show S11.I o1 8 = _; rw [← hS11, nw_Io hqa10 ((xe3.tr xe7).A h_o1).1]; rw [← hS6]; show S2.I o1 8 = _; rw [← hS2, nw_Io hqa1 h_o1.1]; exact hI0 8)
  have tt : stp ([] : List (Nat × Nat)) [o1] R S S52 := t54.un (okAt.of_4 oo.2.1 ⟨(by rw [f_of ((xe12.tr (xe16.tr (xe21.tr (xe25.tr (xe30.tr (xe35.tr (xe40.tr (xe44.tr (xe49.tr xe53))))))))).F ((xe3.tr xe7).A h_o1) (by decide) F9)]; exact ⟨((xe12.tr (xe16.tr (xe21.tr (xe25.tr (xe30.tr (xe35.tr (xe40.tr (xe44.tr (xe49.tr xe53))))))))).F ((xe3.tr xe7).A h_o1) (by decide) F9), ((xe7.tr (xe12.tr (xe16.tr (xe21.tr (xe25.tr (xe30.tr (xe35.tr (xe40.tr (xe44.tr (xe49.tr xe53)))))))))).A aqa1), (((xe7.tr (xe12.tr (xe16.tr (xe21.tr (xe25.tr (xe30.tr (xe35.tr (xe40.tr (xe44.tr (xe49.tr xe53)))))))))).n aqa1).trans nqa1)⟩), (by rw [f_of ((xe21.tr (xe25.tr (xe30.tr (xe35.tr (xe40.tr (xe44.tr (xe49.tr xe53))))))).F ((xe3.tr (xe7.tr (xe12.tr xe16))).A h_o1) (by decide) F18)]; exact ⟨((xe21.tr (xe25.tr (xe30.tr (xe35.tr (xe40.tr (xe44.tr (xe49.tr xe53))))))).F ((xe3.tr (xe7.tr (xe12.tr xe16))).A h_o1) (by decide) F18), ((xe16.tr (xe21.tr (xe25.tr (xe30.tr (xe35.tr (xe40.tr (xe44.tr (xe49.tr xe53)))))))).A aqa10), (((xe16.tr (xe21.tr (xe25.tr (xe30.tr (xe35.tr (xe40.tr (xe44.tr (xe49.tr xe53)))))))).n aqa10).trans nqa10)⟩), (by rw [f_of ((xe30.tr (xe35.tr (xe40.tr (xe44.tr (xe49.tr xe53))))).F ((xe3.tr (xe7.tr (xe12.tr (xe16.tr (xe21.tr xe25))))).A h_o1) (by decide) F27)]; exact ⟨((xe30.tr (xe35.tr (xe40.tr (xe44.tr (xe49.tr xe53))))).F ((xe3.tr (xe7.tr (xe12.tr (xe16.tr (xe21.tr xe25))))).A h_o1) (by decide) F27), ((xe25.tr (xe30.tr (xe35.tr (xe40.tr (xe44.tr (xe49.tr xe53)))))).A aqa19), (((xe25.tr (xe30.tr (xe35.tr (xe40.tr (xe44.tr (xe49.tr xe53)))))).n aqa19).trans nqa19)⟩), (by rw [f_of ((xe40.tr (xe44.tr (xe49.tr xe53))).F ((xe3.tr (xe7.tr (xe12.tr (xe16.tr (xe21.tr (xe25.tr (xe30.tr xe35))))))).A h_o1) (by decide) F37)]; exact ⟨((xe40.tr (xe44.tr (xe49.tr xe53))).F ((xe3.tr (xe7.tr (xe12.tr (xe16.tr (xe21.tr (xe25.tr (xe30.tr xe35))))))).A h_o1) (by decide) F37), ((xe35.tr (xe40.tr (xe44.tr (xe49.tr xe53)))).A aqa28), (((xe35.tr (xe40.tr (xe44.tr (xe49.tr xe53)))).n aqa28).trans nqa28)⟩), (by rw [f_of ((xe49.tr xe53).F ((xe3.tr (xe7.tr (xe12.tr (xe16.tr (xe21.tr (xe25.tr (xe30.tr (xe35.tr (xe40.tr xe44))))))))).A h_o1) (by decide) F46)]; exact ⟨((xe49.tr xe53).F ((xe3.tr (xe7.tr (xe12.tr (xe16.tr (xe21.tr (xe25.tr (xe30.tr (xe35.tr (xe40.tr xe44))))))))).A h_o1) (by decide) F46), ((xe44.tr (xe49.tr xe53)).A aqa38), (((xe44.tr (xe49.tr xe53)).n aqa38).trans nqa38)⟩), (by rw [f_of F55]; exact ⟨F55, (xe53.A aqa47), ((xe53.n aqa47).trans nqa47)⟩), (by rw [I6]; exact ⟨by decide, by decide⟩), (by rw [I7]; exact ⟨by decide, by decide⟩), (fun i hi => absurd hi (by rw [I6]; exact not0 i)), (fun i hi => absurd hi (by rw [I7]; exact not0 i))⟩)
  refine W.widen (k := 6) (n := 50) (Nat.le_of_ble_eq_true rfl) (Nat.le_of_ble_eq_true rfl) ?_
  exact W.vret hx hb hr (fun t ht hW9 => ⟨⟨S52, rfl, ⟨tt, oo, I6, I7, I8⟩, wd_end hP hK hD ht hW9.alike⟩, hS.F ht⟩) hS.2.2 dX4_init_49 hlocks
theorem hi_X6_init_X6 : ∀ w ∈ u_ws RX6 TX6 5, w ∈ wsX6_init := by decide +kernel
set_option maxHeartbeats 4000000 in
set_option maxRecDepth 100000 in
theorem c_X6_init (l : Launch) {D : va_G} {cy : Nat → ClassId} {X : va_W} (S : wPS) (sz : Nat) (o1 : Nat) (h_o1 : isA S o1 6) (R : List Nat) (hW : wtB S (o1 :: R)) (hF0 : ∀ j, S.F o1 j = none) (hI0 : ∀ j, S.I o1 j = 0)  : Met l yX6_init wsX6_init ({ frames := 1, cells := 4, slots := 800, locals := 12 }) (va_Pc [.ref o1] (fun U => U.heap.size = sz ∧ WD D cy X (fun _ => True) S U ∧ NW U)) (va_Qv (fun (u : wPS) => stp ([] : List (Nat × Nat)) [o1] R S u ∧ isA u o1 6 ∧ u.I o1 4 = (1 : Int32)) (fun u t => WD D cy X (va_A (X ++ PL cy S) sz) u t) (va_A (X ++ PL cy S) sz)) 4 800 (va_A (X ++ PL cy S) sz) := by
  refine Met.ofW (cc := cX6_init) (maxL := 1) (ret := none) (by decide) rfl ?_
  intro p e s m args below meth c s₁ B hml hv
  obtain ⟨rfl, hsz, ⟨hP, hK, hD0⟩, hN⟩ := hv
  have hx := B.exec
  have hb := B.bytes
  have hr := B.returns
  have hts := atoms_spec (ws := wsX6_init) B.pre
  have hown : s.vm.findClass RX6 = some m.cls := findClass_of_methodNamed (x := yX6_init) B.named
  have hlocks := B.notSynchronized
  have hin : meth.name = "<init>" := (name_of_methodNamed B.named B.method).1
  subst hsz
  have hD := hD0.self (sz := s.heap.size)
  generalize hAe : va_A (X ++ PL cy S) s.heap.size = A at hD ⊢
  have hA : ∀ q : Nat, s.heap.size ≤ q → A q := fun q h => by rw [← hAe]; exact Or.inr h
  have hS : va_S A s.heap s.heap [] := va_S.rf
  have hl := lv_entry ([.ref o1]) (n := 1) (Nat.le_of_ble_eq_true rfl)
  rw [lg_entry_eq]
  generalize (lg_sl ([.ref o1]) ++ List.replicate (1 - (lg_sl ([.ref o1])).length) Slot.unset).toArray = ls at hl ⊢
  have hl : lv_has ls 1 [(0, .ref o1)] := hl
  have t0 : stp ([] : List (Nat × Nat)) [o1] (o1 :: R) S S := stp.rf hW
  refine lv_aload_n hx hb dX6_init_0 rfl (lv_at hl 0 rfl) ?_
  refine W.objInit hx hb hown (hts (.methodLink RX6 3 objectInit) (by decide +kernel)) (hts (.instanceMethod objectInit) (by decide +kernel)) (hts (.code objectInit ⟨#[0xb1]⟩ 1 none) (by decide +kernel)) rfl (by rw [hml]; exact hl.1) rfl dX6_init_1 (Nat.le_of_ble_eq_true rfl) (Nat.le_of_ble_eq_true rfl) ?_
  refine W.eq (g2 := F0 m 4 ls []) rfl ?_
  refine lv_aload_n hx hb dX6_init_4 rfl (lv_at hl 0 rfl) ?_
  refine lv_sipush (v := 200) hx hb dX6_init_5 (by decide +kernel) ?_
  refine va_newa (atype := .int) hx hb (hts (.arrayClass .int) (by decide +kernel)) (ty := .int) rfl hK hP hD hS hA (N' := 200) (a0 := (200, .inl (fun _ => 0))) (fun _ => rfl) (by decide) (by decide) (by decide) (Nat.le_of_ble_eq_true rfl) (Nat.le_of_ble_eq_true rfl) dX6_init_8 (fun qa1 cqa1 H hK2 hP2 hD2 hS => ?_)
  obtain rfl : cqa1 = cy 2 := cls_int hK hK2
  have hqa1 : qa1 ∉ S.L := nw_q hD2
  have e9 := wNw (cy := cy) (X := X) (S := S) (a := qa1) (k := 17) (z := 200) (f := fun _ => 0) (g := fun _ => none) hqa1 rfl
  obtain ⟨S2, hS2⟩ : ∃ z, S.nw qa1 17 200 (fun _ => 0) (fun _ => none) = z := ⟨_, rfl⟩
  have hP : va_P D vwCl (X ++ PL cy S2) H := by rw [← hS2, ← e9]; exact hP2
  have hD : va_D A (X ++ PL cy S2) := by rw [← hS2, ← e9]; exact hD2
  have xe3 : ext S S2 := by rw [← hS2]; exact ext.nw hqa1
  have t4 : stp ([] : List (Nat × Nat)) [o1] (o1 :: R) S S2 := by rw [← hS2]; exact t0.nwA hqa1 (by decide)
  refine W.widen (k := 1) (n := 200) (Nat.le_of_ble_eq_true rfl) (Nat.le_of_ble_eq_true rfl) ?_
  have aqa1 : isA S2 qa1 17 := by rw [← hS2]; exact nw_A (by decide)
  have nqa1 : S2.n qa1 = 200 := by rw [← hS2]; exact nw_n
  obtain ⟨k5, gk5, hk5⟩ := wGt (cy := cy) X S2 (xe3.A h_o1).1 (xe3.A h_o1).2.1
  refine va_putF (D := D) (ci := 10) (v := .ref qa1) (ty := (tyX6 0)) (C := RX6) (T := TX6) (N := 5) hx hb hts hi_X6_init_X6 tyX6 tyX6_ok nmX6 hown hK hP hD hS k5 hk5 rfl 0 (by decide) (hts (.fieldLink RX6 9 "Hobhouse$Rolling" "firstHighs" "[I") (by decide +kernel)) (fun _ h9 => h9) rfl hin rfl (by decide +kernel) (rfl) (rfl) (Nat.le_of_ble_eq_true rfl) dX6_init_10 (fun H locs hP2 hD2 hS => ?_)
  have e9 := wPuF (cy := cy) (j := 0) (v := (some qa1)) hD (xe3.A h_o1).1 (xe3.A h_o1).2.1 gk5 rfl
  obtain ⟨S6, hS6⟩ : ∃ z, S2.sF o1 0 (some qa1) = z := ⟨_, rfl⟩
  have hP : va_P D vwCl (X ++ PL cy S6) H := by rw [← hS6, ← e9]; exact hP2
  have hD : va_D A (X ++ PL cy S6) := by rw [← hS6, ← e9]; exact hD2
  have xe7 : ext S2 S6 := by rw [← hS6]; exact ext.sF (by rw [← hS2, nw_Fo hqa1 h_o1.1]; exact hF0 0)
  have t8 : stp ([] : List (Nat × Nat)) [o1] (o1 :: R) S S6 := by rw [← hS6]; exact t4.F 0 qa1 List.mem_cons_self (Or.inl List.mem_cons_self) (by rw [← hS2, nw_Fo hqa1 h_o1.1]; exact hF0 0)
  have F9 : S6.F o1 0 = some qa1 := by rw [← hS6]; exact sF_eq
  refine lv_aload_n hx hb dX6_init_13 rfl (lv_at hl 0 rfl) ?_
  refine lv_sipush (v := 200) hx hb dX6_init_14 (by decide +kernel) ?_
  refine va_newa (atype := .int) hx hb (hts (.arrayClass .int) (by decide +kernel)) (ty := .int) rfl hK hP hD hS hA (N' := 200) (a0 := (200, .inl (fun _ => 0))) (fun _ => rfl) (by decide) (by decide) (by decide) (Nat.le_of_ble_eq_true rfl) (Nat.le_of_ble_eq_true rfl) dX6_init_17 (fun qa10 cqa10 H hK2 hP2 hD2 hS => ?_)
  obtain rfl : cqa10 = cy 2 := cls_int hK hK2
  have hqa10 : qa10 ∉ S6.L := nw_q hD2
  have e9 := wNw (cy := cy) (X := X) (S := S6) (a := qa10) (k := 17) (z := 200) (f := fun _ => 0) (g := fun _ => none) hqa10 rfl
  obtain ⟨S11, hS11⟩ : ∃ z, S6.nw qa10 17 200 (fun _ => 0) (fun _ => none) = z := ⟨_, rfl⟩
  have hP : va_P D vwCl (X ++ PL cy S11) H := by rw [← hS11, ← e9]; exact hP2
  have hD : va_D A (X ++ PL cy S11) := by rw [← hS11, ← e9]; exact hD2
  have xe12 : ext S6 S11 := by rw [← hS11]; exact ext.nw hqa10
  have t13 : stp ([] : List (Nat × Nat)) [o1] (o1 :: R) S S11 := by rw [← hS11]; exact t8.nwA hqa10 (by decide)
  refine W.widen (k := 2) (n := 400) (Nat.le_of_ble_eq_true rfl) (Nat.le_of_ble_eq_true rfl) ?_
  have aqa10 : isA S11 qa10 17 := by rw [← hS11]; exact nw_A (by decide)
  have nqa10 : S11.n qa10 = 200 := by rw [← hS11]; exact nw_n
  obtain ⟨k14, gk14, hk14⟩ := wGt (cy := cy) X S11 ((xe7.tr xe12).A (xe3.A h_o1)).1 ((xe7.tr xe12).A (xe3.A h_o1)).2.1
  refine va_putF (D := D) (ci := 10) (v := .ref qa10) (ty := (tyX6 1)) (C := RX6) (T := TX6) (N := 5) hx hb hts hi_X6_init_X6 tyX6 tyX6_ok nmX6 hown hK hP hD hS k14 hk14 rfl 1 (by decide) (hts (.fieldLink RX6 15 "Hobhouse$Rolling" "firstLows" "[I") (by decide +kernel)) (fun _ h9 => h9) rfl hin rfl (by decide +kernel) (rfl) (rfl) (Nat.le_of_ble_eq_true rfl) dX6_init_19 (fun H locs hP2 hD2 hS => ?_)
  have e9 := wPuF (cy := cy) (j := 1) (v := (some qa10)) hD ((xe7.tr xe12).A (xe3.A h_o1)).1 ((xe7.tr xe12).A (xe3.A h_o1)).2.1 gk14 rfl
  obtain ⟨S15, hS15⟩ : ∃ z, S11.sF o1 1 (some qa10) = z := ⟨_, rfl⟩
  have hP : va_P D vwCl (X ++ PL cy S15) H := by rw [← hS15, ← e9]; exact hP2
  have hD : va_D A (X ++ PL cy S15) := by rw [← hS15, ← e9]; exact hD2
  have xe16 : ext S11 S15 := by rw [← hS15]; exact ext.sF (by rw [← hS11, nw_Fo hqa10 ((xe3.tr xe7).A h_o1).1]; rw [← hS6, sF_ne (fun q9 => absurd q9.2 (by decide))]; rw [← hS2, nw_Fo hqa1 h_o1.1]; exact hF0 1)
  have t17 : stp ([] : List (Nat × Nat)) [o1] (o1 :: R) S S15 := by rw [← hS15]; exact t13.F 1 qa10 List.mem_cons_self (Or.inl List.mem_cons_self) (by rw [← hS11, nw_Fo hqa10 ((xe3.tr xe7).A h_o1).1]; rw [← hS6, sF_ne (fun q9 => absurd q9.2 (by decide))]; rw [← hS2, nw_Fo hqa1 h_o1.1]; exact hF0 1)
  have F18 : S15.F o1 1 = some qa10 := by rw [← hS15]; exact sF_eq
  refine lv_aload_n hx hb dX6_init_22 rfl (lv_at hl 0 rfl) ?_
  refine lv_sipush (v := 200) hx hb dX6_init_23 (by decide +kernel) ?_
  refine va_newa (atype := .int) hx hb (hts (.arrayClass .int) (by decide +kernel)) (ty := .int) rfl hK hP hD hS hA (N' := 200) (a0 := (200, .inl (fun _ => 0))) (fun _ => rfl) (by decide) (by decide) (by decide) (Nat.le_of_ble_eq_true rfl) (Nat.le_of_ble_eq_true rfl) dX6_init_26 (fun qa19 cqa19 H hK2 hP2 hD2 hS => ?_)
  obtain rfl : cqa19 = cy 2 := cls_int hK hK2
  have hqa19 : qa19 ∉ S15.L := nw_q hD2
  have e9 := wNw (cy := cy) (X := X) (S := S15) (a := qa19) (k := 17) (z := 200) (f := fun _ => 0) (g := fun _ => none) hqa19 rfl
  obtain ⟨S20, hS20⟩ : ∃ z, S15.nw qa19 17 200 (fun _ => 0) (fun _ => none) = z := ⟨_, rfl⟩
  have hP : va_P D vwCl (X ++ PL cy S20) H := by rw [← hS20, ← e9]; exact hP2
  have hD : va_D A (X ++ PL cy S20) := by rw [← hS20, ← e9]; exact hD2
  have xe21 : ext S15 S20 := by rw [← hS20]; exact ext.nw hqa19
  have t22 : stp ([] : List (Nat × Nat)) [o1] (o1 :: R) S S20 := by rw [← hS20]; exact t17.nwA hqa19 (by decide)
  refine W.widen (k := 3) (n := 600) (Nat.le_of_ble_eq_true rfl) (Nat.le_of_ble_eq_true rfl) ?_
  have aqa19 : isA S20 qa19 17 := by rw [← hS20]; exact nw_A (by decide)
  have nqa19 : S20.n qa19 = 200 := by rw [← hS20]; exact nw_n
  obtain ⟨k23, gk23, hk23⟩ := wGt (cy := cy) X S20 ((xe16.tr xe21).A ((xe7.tr xe12).A (xe3.A h_o1))).1 ((xe16.tr xe21).A ((xe7.tr xe12).A (xe3.A h_o1))).2.1
  refine va_putF (D := D) (ci := 10) (v := .ref qa19) (ty := (tyX6 2)) (C := RX6) (T := TX6) (N := 5) hx hb hts hi_X6_init_X6 tyX6 tyX6_ok nmX6 hown hK hP hD hS k23 hk23 rfl 2 (by decide) (hts (.fieldLink RX6 18 "Hobhouse$Rolling" "secondHighs" "[I") (by decide +kernel)) (fun _ h9 => h9) rfl hin rfl (by decide +kernel) (rfl) (rfl) (Nat.le_of_ble_eq_true rfl) dX6_init_28 (fun H locs hP2 hD2 hS => ?_)
  have e9 := wPuF (cy := cy) (j := 2) (v := (some qa19)) hD ((xe16.tr xe21).A ((xe7.tr xe12).A (xe3.A h_o1))).1 ((xe16.tr xe21).A ((xe7.tr xe12).A (xe3.A h_o1))).2.1 gk23 rfl
  obtain ⟨S24, hS24⟩ : ∃ z, S20.sF o1 2 (some qa19) = z := ⟨_, rfl⟩
  have hP : va_P D vwCl (X ++ PL cy S24) H := by rw [← hS24, ← e9]; exact hP2
  have hD : va_D A (X ++ PL cy S24) := by rw [← hS24, ← e9]; exact hD2
  have xe25 : ext S20 S24 := by rw [← hS24]; exact ext.sF (by rw [← hS20, nw_Fo hqa19 ((xe3.tr (xe7.tr (xe12.tr xe16))).A h_o1).1]; rw [← hS15, sF_ne (fun q9 => absurd q9.2 (by decide))]; rw [← hS11, nw_Fo hqa10 ((xe3.tr xe7).A h_o1).1]; rw [← hS6, sF_ne (fun q9 => absurd q9.2 (by decide))]; rw [← hS2, nw_Fo hqa1 h_o1.1]; exact hF0 2)
  have t26 : stp ([] : List (Nat × Nat)) [o1] (o1 :: R) S S24 := by rw [← hS24]; exact t22.F 2 qa19 List.mem_cons_self (Or.inl List.mem_cons_self) (by rw [← hS20, nw_Fo hqa19 ((xe3.tr (xe7.tr (xe12.tr xe16))).A h_o1).1]; rw [← hS15, sF_ne (fun q9 => absurd q9.2 (by decide))]; rw [← hS11, nw_Fo hqa10 ((xe3.tr xe7).A h_o1).1]; rw [← hS6, sF_ne (fun q9 => absurd q9.2 (by decide))]; rw [← hS2, nw_Fo hqa1 h_o1.1]; exact hF0 2)
  have F27 : S24.F o1 2 = some qa19 := by rw [← hS24]; exact sF_eq
  refine lv_aload_n hx hb dX6_init_31 rfl (lv_at hl 0 rfl) ?_
  refine lv_sipush (v := 200) hx hb dX6_init_32 (by decide +kernel) ?_
  refine va_newa (atype := .int) hx hb (hts (.arrayClass .int) (by decide +kernel)) (ty := .int) rfl hK hP hD hS hA (N' := 200) (a0 := (200, .inl (fun _ => 0))) (fun _ => rfl) (by decide) (by decide) (by decide) (Nat.le_of_ble_eq_true rfl) (Nat.le_of_ble_eq_true rfl) dX6_init_35 (fun qa28 cqa28 H hK2 hP2 hD2 hS => ?_)
  obtain rfl : cqa28 = cy 2 := cls_int hK hK2
  have hqa28 : qa28 ∉ S24.L := nw_q hD2
  have e9 := wNw (cy := cy) (X := X) (S := S24) (a := qa28) (k := 17) (z := 200) (f := fun _ => 0) (g := fun _ => none) hqa28 rfl
  obtain ⟨S29, hS29⟩ : ∃ z, S24.nw qa28 17 200 (fun _ => 0) (fun _ => none) = z := ⟨_, rfl⟩
  have hP : va_P D vwCl (X ++ PL cy S29) H := by rw [← hS29, ← e9]; exact hP2
  have hD : va_D A (X ++ PL cy S29) := by rw [← hS29, ← e9]; exact hD2
  have xe30 : ext S24 S29 := by rw [← hS29]; exact ext.nw hqa28
  have t31 : stp ([] : List (Nat × Nat)) [o1] (o1 :: R) S S29 := by rw [← hS29]; exact t26.nwA hqa28 (by decide)
  refine W.widen (k := 4) (n := 800) (Nat.le_of_ble_eq_true rfl) (Nat.le_of_ble_eq_true rfl) ?_
  have aqa28 : isA S29 qa28 17 := by rw [← hS29]; exact nw_A (by decide)
  have nqa28 : S29.n qa28 = 200 := by rw [← hS29]; exact nw_n
  have o33 : isA S29 o1 6 := ((xe25.tr xe30).A ((xe16.tr xe21).A ((xe7.tr xe12).A (xe3.A h_o1))))
  obtain ⟨k32, gk32, hk32⟩ := wGt (cy := cy) X S29 o33.1 o33.2.1
  refine va_putF (D := D) (ci := 10) (v := .ref qa28) (ty := (tyX6 3)) (C := RX6) (T := TX6) (N := 5) hx hb hts hi_X6_init_X6 tyX6 tyX6_ok nmX6 hown hK hP hD hS k32 hk32 rfl 3 (by decide) (hts (.fieldLink RX6 21 "Hobhouse$Rolling" "secondLows" "[I") (by decide +kernel)) (fun _ h9 => h9) rfl hin rfl (by decide +kernel) (rfl) (rfl) (Nat.le_of_ble_eq_true rfl) dX6_init_37 (fun H locs hP2 hD2 hS => ?_)
  have e9 := wPuF (cy := cy) (j := 3) (v := (some qa28)) hD o33.1 o33.2.1 gk32 rfl
  obtain ⟨S34, hS34⟩ : ∃ z, S29.sF o1 3 (some qa28) = z := ⟨_, rfl⟩
  have hP : va_P D vwCl (X ++ PL cy S34) H := by rw [← hS34, ← e9]; exact hP2
  have hD : va_D A (X ++ PL cy S34) := by rw [← hS34, ← e9]; exact hD2
  have xe35 : ext S29 S34 := by rw [← hS34]; exact ext.sF (by rw [← hS29, nw_Fo hqa28 ((xe3.tr (xe7.tr (xe12.tr (xe16.tr (xe21.tr xe25))))).A h_o1).1]; rw [← hS24, sF_ne (fun q9 => absurd q9.2 (by decide))]; rw [← hS20, nw_Fo hqa19 ((xe3.tr (xe7.tr (xe12.tr xe16))).A h_o1).1]; rw [← hS15, sF_ne (fun q9 => absurd q9.2 (by decide))]; rw [← hS11, nw_Fo hqa10 ((xe3.tr xe7).A h_o1).1]; rw [← hS6, sF_ne (fun q9 => absurd q9.2 (by decide))]; rw [← hS2, nw_Fo hqa1 h_o1.1]; exact hF0 3)
  have t36 : stp ([] : List (Nat × Nat)) [o1] (o1 :: R) S S34 := by rw [← hS34]; exact t31.F 3 qa28 List.mem_cons_self (Or.inl List.mem_cons_self) (by rw [← hS29, nw_Fo hqa28 ((xe3.tr (xe7.tr (xe12.tr (xe16.tr (xe21.tr xe25))))).A h_o1).1]; rw [← hS24, sF_ne (fun q9 => absurd q9.2 (by decide))]; rw [← hS20, nw_Fo hqa19 ((xe3.tr (xe7.tr (xe12.tr xe16))).A h_o1).1]; rw [← hS15, sF_ne (fun q9 => absurd q9.2 (by decide))]; rw [← hS11, nw_Fo hqa10 ((xe3.tr xe7).A h_o1).1]; rw [← hS6, sF_ne (fun q9 => absurd q9.2 (by decide))]; rw [← hS2, nw_Fo hqa1 h_o1.1]; exact hF0 3)
  have F37 : S34.F o1 3 = some qa28 := by rw [← hS34]; exact sF_eq
  refine lv_aload_n hx hb dX6_init_40 rfl (lv_at hl 0 rfl) ?_
  refine lv_iconst (v := 1) hx hb dX6_init_41 (by decide) ?_
  obtain ⟨k38, gk38, hk38⟩ := wGt (cy := cy) X S34 (xe35.A o33).1 (xe35.A o33).2.1
  refine va_put (D := D) (ci := 10) (v := .int (1 : Int32)) (ty := .int) (C := RX6) (T := TX6) (N := 5) hx hb hts hi_X6_init_X6 tyX6 tyX6_ok nmX6 hown hK hP hD hS k38 hk38 rfl 4 (by decide) (hts (.fieldLink RX6 24 "Hobhouse$Rolling" "classes" "I") (by decide +kernel)) (fun _ h9 => h9) rfl (by decide +kernel) (rfl) (rfl) (Nat.le_of_ble_eq_true rfl) dX6_init_42 (fun H locs hP2 hD2 hS => ?_)
  have e9 := wPuI (cy := cy) (j := 4) (v := (1 : Int32)) hD (xe35.A o33).1 (xe35.A o33).2.1 gk38 rfl
  obtain ⟨S39, hS39⟩ : ∃ z, S34.sI o1 4 (1 : Int32) = z := ⟨_, rfl⟩
  have hP : va_P D vwCl (X ++ PL cy S39) H := by rw [← hS39, ← e9]; exact hP2
  have hD : va_D A (X ++ PL cy S39) := by rw [← hS39, ← e9]; exact hD2
  have xe40 : ext S34 S39 := by rw [← hS39]; exact ext.sI _ _ _ _
  have t41 : stp ([] : List (Nat × Nat)) [o1] (o1 :: R) S S39 := by rw [← hS39]; exact t36.Ir 4 (1 : Int32) List.mem_cons_self (Or.inl List.mem_cons_self)
  have oo : isA S39 o1 6 := (xe40.A (xe35.A o33))
  have I4 : S39.I o1 4 = (1 : Int32) := (by rw [← hS39, sI_eq])
  have tt : stp ([] : List (Nat × Nat)) [o1] R S S39 := t41.un (okAt.of_6 oo.2.1 ⟨(by rw [f_of ((xe12.tr (xe16.tr (xe21.tr (xe25.tr (xe30.tr (xe35.tr xe40)))))).F ((xe3.tr xe7).A h_o1) (by decide) F9)]; exact ⟨((xe12.tr (xe16.tr (xe21.tr (xe25.tr (xe30.tr (xe35.tr xe40)))))).F ((xe3.tr xe7).A h_o1) (by decide) F9), ((xe7.tr (xe12.tr (xe16.tr (xe21.tr (xe25.tr (xe30.tr (xe35.tr xe40))))))).A aqa1), (((xe7.tr (xe12.tr (xe16.tr (xe21.tr (xe25.tr (xe30.tr (xe35.tr xe40))))))).n aqa1).trans nqa1)⟩), (by rw [f_of ((xe21.tr (xe25.tr (xe30.tr (xe35.tr xe40)))).F ((xe3.tr (xe7.tr (xe12.tr xe16))).A h_o1) (by decide) F18)]; exact ⟨((xe21.tr (xe25.tr (xe30.tr (xe35.tr xe40)))).F ((xe3.tr (xe7.tr (xe12.tr xe16))).A h_o1) (by decide) F18), ((xe16.tr (xe21.tr (xe25.tr (xe30.tr (xe35.tr xe40))))).A aqa10), (((xe16.tr (xe21.tr (xe25.tr (xe30.tr (xe35.tr xe40))))).n aqa10).trans nqa10)⟩), (by rw [f_of ((xe30.tr (xe35.tr xe40)).F ((xe3.tr (xe7.tr (xe12.tr (xe16.tr (xe21.tr xe25))))).A h_o1) (by decide) F27)]; exact ⟨((xe30.tr (xe35.tr xe40)).F ((xe3.tr (xe7.tr (xe12.tr (xe16.tr (xe21.tr xe25))))).A h_o1) (by decide) F27), ((xe25.tr (xe30.tr (xe35.tr xe40))).A aqa19), (((xe25.tr (xe30.tr (xe35.tr xe40))).n aqa19).trans nqa19)⟩), (by rw [f_of (xe40.F ((xe3.tr (xe7.tr (xe12.tr (xe16.tr (xe21.tr (xe25.tr (xe30.tr xe35))))))).A h_o1) (by decide) F37)]; exact ⟨(xe40.F ((xe3.tr (xe7.tr (xe12.tr (xe16.tr (xe21.tr (xe25.tr (xe30.tr xe35))))))).A h_o1) (by decide) F37), ((xe35.tr xe40).A aqa28), (((xe35.tr xe40).n aqa28).trans nqa28)⟩), (by rw [I4]; exact ⟨by decide, by decide⟩)⟩)
  refine W.widen (k := 4) (n := 800) (Nat.le_of_ble_eq_true rfl) (Nat.le_of_ble_eq_true rfl) ?_
  exact W.vret hx hb hr (fun t ht hW9 => ⟨⟨S39, rfl, ⟨tt, oo, I4⟩, wd_end hP hK hD ht hW9.alike⟩, hS.F ht⟩) hS.2.2 dX6_init_45 hlocks
theorem hi_X9_init_X0 : ∀ w ∈ u_ws RX0 TX0 7, w ∈ wsX9_init := by decide +kernel
theorem hi_X9_init_X4 : ∀ w ∈ u_ws RX4 TX4 9, w ∈ wsX9_init := by decide +kernel
theorem hi_X9_init_X6 : ∀ w ∈ u_ws RX6 TX6 5, w ∈ wsX9_init := by decide +kernel
theorem hi_X9_init_X9 : ∀ w ∈ u_ws RX9 TX9 11, w ∈ wsX9_init := by decide +kernel
set_option maxHeartbeats 4000000 in
set_option maxRecDepth 100000 in
theorem c_X9_init (l : Launch) {D : va_G} {cy : Nat → ClassId} {X : va_W} (S : wPS) (sz : Nat) (o1 : Nat) (h_o1 : isA S o1 9) (R : List Nat) (hW : wtB S (o1 :: R)) (hF0 : ∀ j, S.F o1 j = none) (hI0 : ∀ j, S.I o1 j = 0)  : Met l yX9_init wsX9_init ({ frames := 2, cells := 18, slots := 925, locals := 32 }) (va_Pc [.ref o1] (fun U => U.heap.size = sz ∧ WD D cy X (fun _ => True) S U ∧ NW U)) (va_Qv (fun (u : wPS) => stp ([] : List (Nat × Nat)) [o1] R S u ∧ isA u o1 9 ∧ u.I o1 1 = (0 : Int32) ∧ u.I o1 3 = (0 : Int32) ∧ u.I o1 5 = (0 : Int32) ∧ u.I o1 9 = (24 : Int32) ∧ u.I o1 10 = (60 : Int32) ∧ u.I (u.f o1 6) 2 = 0) (fun u t => WD D cy X (va_A (X ++ PL cy S) sz) u t) (va_A (X ++ PL cy S) sz)) 18 925 (va_A (X ++ PL cy S) sz) := by
  refine Met.ofW (cc := cX9_init) (maxL := 1) (ret := none) (by decide) rfl ?_
  intro p e s m args below meth c s₁ B hml hv
  obtain ⟨rfl, hsz, ⟨hP, hK, hD0⟩, hN⟩ := hv
  have hx := B.exec
  have hb := B.bytes
  have hr := B.returns
  have hts := atoms_spec (ws := wsX9_init) B.pre
  have hown : s.vm.findClass RX9 = some m.cls := findClass_of_methodNamed (x := yX9_init) B.named
  have hlocks := B.notSynchronized
  have hin : meth.name = "<init>" := (name_of_methodNamed B.named B.method).1
  subst hsz
  have hD := hD0.self (sz := s.heap.size)
  generalize hAe : va_A (X ++ PL cy S) s.heap.size = A at hD ⊢
  have hA : ∀ q : Nat, s.heap.size ≤ q → A q := fun q h => by rw [← hAe]; exact Or.inr h
  have hS : va_S A s.heap s.heap [] := va_S.rf
  have hl := lv_entry ([.ref o1]) (n := 1) (Nat.le_of_ble_eq_true rfl)
  rw [lg_entry_eq]
  generalize (lg_sl ([.ref o1]) ++ List.replicate (1 - (lg_sl ([.ref o1])).length) Slot.unset).toArray = ls at hl ⊢
  have hl : lv_has ls 1 [(0, .ref o1)] := hl
  have t0 : stp ([] : List (Nat × Nat)) [o1] (o1 :: R) S S := stp.rf hW
  refine lv_aload_n hx hb dX9_init_0 rfl (lv_at hl 0 rfl) ?_
  refine W.objInit hx hb hown (hts (.methodLink RX9 1 objectInit) (by decide +kernel)) (hts (.instanceMethod objectInit) (by decide +kernel)) (hts (.code objectInit ⟨#[0xb1]⟩ 1 none) (by decide +kernel)) rfl (by rw [hml]; exact hl.1) rfl dX9_init_1 (Nat.le_of_ble_eq_true rfl) (Nat.le_of_ble_eq_true rfl) ?_
  refine W.eq (g2 := F0 m 4 ls []) rfl ?_
  refine lv_aload_n hx hb dX9_init_4 rfl (lv_at hl 0 rfl) ?_
  refine lv_bipush (v := 20) hx hb dX9_init_5 (by decide +kernel) ?_
  refine va_newq (C := "Hobhouse$Gear") hx hb hown (hts (.classLink RX9 9 "Hobhouse$Gear") (by decide +kernel)) (hN (.arrayOver (.object "Hobhouse$Gear")) (by decide +kernel)) hK hP hD hS hA (N' := 20) (by decide) (by decide) (by decide) (Nat.le_of_ble_eq_true rfl) (Nat.le_of_ble_eq_true rfl) dX9_init_7 (fun qa1 cqa1 H hK2 hP2 hD2 hS => ?_)
  obtain rfl : cqa1 = cy 4 := cls_19 hK hK2
  have hqa1 : qa1 ∉ S.L := nw_q hD2
  have e9 := wNw (cy := cy) (X := X) (S := S) (a := qa1) (k := 19) (z := 20) (f := fun _ => 0) (g := fun _ => none) hqa1 rfl
  obtain ⟨S2, hS2⟩ : ∃ z, S.nw qa1 19 20 (fun _ => 0) (fun _ => none) = z := ⟨_, rfl⟩
  have hP : va_P D vwCl (X ++ PL cy S2) H := by rw [← hS2, ← e9]; exact hP2
  have hD : va_D A (X ++ PL cy S2) := by rw [← hS2, ← e9]; exact hD2
  have xe3 : ext S S2 := by rw [← hS2]; exact ext.nw hqa1
  have t4 : stp ([] : List (Nat × Nat)) [o1] (o1 :: R) S S2 := by rw [← hS2]; exact t0.nwA hqa1 (by decide)
  refine W.widen (k := 1) (n := 20) (Nat.le_of_ble_eq_true rfl) (Nat.le_of_ble_eq_true rfl) ?_
  have aqa1 : isA S2 qa1 19 := by rw [← hS2]; exact nw_A (by decide)
  have nqa1 : S2.n qa1 = 20 := by rw [← hS2]; exact nw_n
  obtain ⟨k5, gk5, hk5⟩ := wGt (cy := cy) X S2 (xe3.A h_o1).1 (xe3.A h_o1).2.1
  refine va_putF (D := D) (ci := 13) (v := .ref qa1) (ty := (tyX9 0)) (C := RX9) (T := TX9) (N := 11) hx hb hts hi_X9_init_X9 tyX9 tyX9_ok nmX9 hown hK hP hD hS k5 hk5 rfl 0 (by decide) (hts (.fieldLink RX9 11 "Hobhouse" "gears" "[LHobhouse$Gear;") (by decide +kernel)) (fun _ h9 => h9) rfl hin rfl (by decide +kernel) (rfl) (rfl) (Nat.le_of_ble_eq_true rfl) dX9_init_10 (fun H locs hP2 hD2 hS => ?_)
  have e9 := wPuF (cy := cy) (j := 0) (v := (some qa1)) hD (xe3.A h_o1).1 (xe3.A h_o1).2.1 gk5 rfl
  obtain ⟨S6, hS6⟩ : ∃ z, S2.sF o1 0 (some qa1) = z := ⟨_, rfl⟩
  have hP : va_P D vwCl (X ++ PL cy S6) H := by rw [← hS6, ← e9]; exact hP2
  have hD : va_D A (X ++ PL cy S6) := by rw [← hS6, ← e9]; exact hD2
  have xe7 : ext S2 S6 := by rw [← hS6]; exact ext.sF (by rw [← hS2, nw_Fo hqa1 h_o1.1]; exact hF0 0)
  have t8 : stp ([] : List (Nat × Nat)) [o1] (o1 :: R) S S6 := by rw [← hS6]; exact t4.F 0 qa1 List.mem_cons_self (Or.inl List.mem_cons_self) (by rw [← hS2, nw_Fo hqa1 h_o1.1]; exact hF0 0)
  have F9 : S6.F o1 0 = some qa1 := by rw [← hS6]; exact sF_eq
  refine lv_aload_n hx hb dX9_init_13 rfl (lv_at hl 0 rfl) ?_
  refine lv_bipush (v := 8) hx hb dX9_init_14 (by decide +kernel) ?_
  refine va_newq (C := "Hobhouse$Hob") hx hb hown (hts (.classLink RX9 15 "Hobhouse$Hob") (by decide +kernel)) (hN (.arrayOver (.object "Hobhouse$Hob")) (by decide +kernel)) hK hP hD hS hA (N' := 8) (by decide) (by decide) (by decide) (Nat.le_of_ble_eq_true rfl) (Nat.le_of_ble_eq_true rfl) dX9_init_16 (fun qa10 cqa10 H hK2 hP2 hD2 hS => ?_)
  obtain rfl : cqa10 = cy 5 := cls_20 hK hK2
  have hqa10 : qa10 ∉ S6.L := nw_q hD2
  have e9 := wNw (cy := cy) (X := X) (S := S6) (a := qa10) (k := 20) (z := 8) (f := fun _ => 0) (g := fun _ => none) hqa10 rfl
  obtain ⟨S11, hS11⟩ : ∃ z, S6.nw qa10 20 8 (fun _ => 0) (fun _ => none) = z := ⟨_, rfl⟩
  have hP : va_P D vwCl (X ++ PL cy S11) H := by rw [← hS11, ← e9]; exact hP2
  have hD : va_D A (X ++ PL cy S11) := by rw [← hS11, ← e9]; exact hD2
  have xe12 : ext S6 S11 := by rw [← hS11]; exact ext.nw hqa10
  have t13 : stp ([] : List (Nat × Nat)) [o1] (o1 :: R) S S11 := by rw [← hS11]; exact t8.nwA hqa10 (by decide)
  refine W.widen (k := 2) (n := 28) (Nat.le_of_ble_eq_true rfl) (Nat.le_of_ble_eq_true rfl) ?_
  have aqa10 : isA S11 qa10 20 := by rw [← hS11]; exact nw_A (by decide)
  have nqa10 : S11.n qa10 = 8 := by rw [← hS11]; exact nw_n
  obtain ⟨k14, gk14, hk14⟩ := wGt (cy := cy) X S11 ((xe7.tr xe12).A (xe3.A h_o1)).1 ((xe7.tr xe12).A (xe3.A h_o1)).2.1
  refine va_putF (D := D) (ci := 13) (v := .ref qa10) (ty := (tyX9 2)) (C := RX9) (T := TX9) (N := 11) hx hb hts hi_X9_init_X9 tyX9 tyX9_ok nmX9 hown hK hP hD hS k14 hk14 rfl 2 (by decide) (hts (.fieldLink RX9 17 "Hobhouse" "hobs" "[LHobhouse$Hob;") (by decide +kernel)) (fun _ h9 => h9) rfl hin rfl (by decide +kernel) (rfl) (rfl) (Nat.le_of_ble_eq_true rfl) dX9_init_19 (fun H locs hP2 hD2 hS => ?_)
  have e9 := wPuF (cy := cy) (j := 2) (v := (some qa10)) hD ((xe7.tr xe12).A (xe3.A h_o1)).1 ((xe7.tr xe12).A (xe3.A h_o1)).2.1 gk14 rfl
  obtain ⟨S15, hS15⟩ : ∃ z, S11.sF o1 2 (some qa10) = z := ⟨_, rfl⟩
  have hP : va_P D vwCl (X ++ PL cy S15) H := by rw [← hS15, ← e9]; exact hP2
  have hD : va_D A (X ++ PL cy S15) := by rw [← hS15, ← e9]; exact hD2
  have xe16 : ext S11 S15 := by rw [← hS15]; exact ext.sF (by rw [← hS11, nw_Fo hqa10 ((xe3.tr xe7).A h_o1).1]; rw [← hS6, sF_ne (fun q9 => absurd q9.2 (by decide))]; rw [← hS2, nw_Fo hqa1 h_o1.1]; exact hF0 2)
  have t17 : stp ([] : List (Nat × Nat)) [o1] (o1 :: R) S S15 := by rw [← hS15]; exact t13.F 2 qa10 List.mem_cons_self (Or.inl List.mem_cons_self) (by rw [← hS11, nw_Fo hqa10 ((xe3.tr xe7).A h_o1).1]; rw [← hS6, sF_ne (fun q9 => absurd q9.2 (by decide))]; rw [← hS2, nw_Fo hqa1 h_o1.1]; exact hF0 2)
  have F18 : S15.F o1 2 = some qa10 := by rw [← hS15]; exact sF_eq
  refine lv_aload_n hx hb dX9_init_22 rfl (lv_at hl 0 rfl) ?_
  refine lv_bipush (v := 6) hx hb dX9_init_23 (by decide +kernel) ?_
  refine va_newq (C := "Hobhouse$Station") hx hb hown (hts (.classLink RX9 21 "Hobhouse$Station") (by decide +kernel)) (hN (.arrayOver (.object "Hobhouse$Station")) (by decide +kernel)) hK hP hD hS hA (N' := 6) (by decide) (by decide) (by decide) (Nat.le_of_ble_eq_true rfl) (Nat.le_of_ble_eq_true rfl) dX9_init_25 (fun qa19 cqa19 H hK2 hP2 hD2 hS => ?_)
  obtain rfl : cqa19 = cy 6 := cls_21 hK hK2
  have hqa19 : qa19 ∉ S15.L := nw_q hD2
  have e9 := wNw (cy := cy) (X := X) (S := S15) (a := qa19) (k := 21) (z := 6) (f := fun _ => 0) (g := fun _ => none) hqa19 rfl
  obtain ⟨S20, hS20⟩ : ∃ z, S15.nw qa19 21 6 (fun _ => 0) (fun _ => none) = z := ⟨_, rfl⟩
  have hP : va_P D vwCl (X ++ PL cy S20) H := by rw [← hS20, ← e9]; exact hP2
  have hD : va_D A (X ++ PL cy S20) := by rw [← hS20, ← e9]; exact hD2
  have xe21 : ext S15 S20 := by rw [← hS20]; exact ext.nw hqa19
  have t22 : stp ([] : List (Nat × Nat)) [o1] (o1 :: R) S S20 := by rw [← hS20]; exact t17.nwA hqa19 (by decide)
  refine W.widen (k := 3) (n := 34) (Nat.le_of_ble_eq_true rfl) (Nat.le_of_ble_eq_true rfl) ?_
  have aqa19 : isA S20 qa19 21 := by rw [← hS20]; exact nw_A (by decide)
  have nqa19 : S20.n qa19 = 6 := by rw [← hS20]; exact nw_n
  obtain ⟨k23, gk23, hk23⟩ := wGt (cy := cy) X S20 ((xe16.tr xe21).A ((xe7.tr xe12).A (xe3.A h_o1))).1 ((xe16.tr xe21).A ((xe7.tr xe12).A (xe3.A h_o1))).2.1
  refine va_putF (D := D) (ci := 13) (v := .ref qa19) (ty := (tyX9 4)) (C := RX9) (T := TX9) (N := 11) hx hb hts hi_X9_init_X9 tyX9 tyX9_ok nmX9 hown hK hP hD hS k23 hk23 rfl 4 (by decide) (hts (.fieldLink RX9 23 "Hobhouse" "stations" "[LHobhouse$Station;") (by decide +kernel)) (fun _ h9 => h9) rfl hin rfl (by decide +kernel) (rfl) (rfl) (Nat.le_of_ble_eq_true rfl) dX9_init_28 (fun H locs hP2 hD2 hS => ?_)
  have e9 := wPuF (cy := cy) (j := 4) (v := (some qa19)) hD ((xe16.tr xe21).A ((xe7.tr xe12).A (xe3.A h_o1))).1 ((xe16.tr xe21).A ((xe7.tr xe12).A (xe3.A h_o1))).2.1 gk23 rfl
  obtain ⟨S24, hS24⟩ : ∃ z, S20.sF o1 4 (some qa19) = z := ⟨_, rfl⟩
  have hP : va_P D vwCl (X ++ PL cy S24) H := by rw [← hS24, ← e9]; exact hP2
  have hD : va_D A (X ++ PL cy S24) := by rw [← hS24, ← e9]; exact hD2
  have xe25 : ext S20 S24 := by rw [← hS24]; exact ext.sF (by rw [← hS20, nw_Fo hqa19 ((xe3.tr (xe7.tr (xe12.tr xe16))).A h_o1).1]; rw [← hS15, sF_ne (fun q9 => absurd q9.2 (by decide))]; rw [← hS11, nw_Fo hqa10 ((xe3.tr xe7).A h_o1).1]; rw [← hS6, sF_ne (fun q9 => absurd q9.2 (by decide))]; rw [← hS2, nw_Fo hqa1 h_o1.1]; exact hF0 4)
  have t26 : stp ([] : List (Nat × Nat)) [o1] (o1 :: R) S S24 := by rw [← hS24]; exact t22.F 4 qa19 List.mem_cons_self (Or.inl List.mem_cons_self) (by rw [← hS20, nw_Fo hqa19 ((xe3.tr (xe7.tr (xe12.tr xe16))).A h_o1).1]; rw [← hS15, sF_ne (fun q9 => absurd q9.2 (by decide))]; rw [← hS11, nw_Fo hqa10 ((xe3.tr xe7).A h_o1).1]; rw [← hS6, sF_ne (fun q9 => absurd q9.2 (by decide))]; rw [← hS2, nw_Fo hqa1 h_o1.1]; exact hF0 4)
  have F27 : S24.F o1 4 = some qa19 := by rw [← hS24]; exact sF_eq
  refine lv_aload_n hx hb dX9_init_31 rfl (lv_at hl 0 rfl) ?_
  refine va_new (ci := 4) (fs := [.null, .null, .int 0, .long 0, .long 0, .long 0, .long 0]) (C := RX0) (T := TX0) (N := 7) hx hb hts hi_X9_init_X0 tyX0 tyX0_ok hown (hts (.classLink RX9 27 RX0) (by decide +kernel)) (hts (.instantiable RX0 7) (by decide +kernel)) (hts (.initialized RX0) (by decide +kernel)) hK hP hD hS hA rfl (fun j hj => by rcases (show j = 0 ∨ j = 1 ∨ j = 2 ∨ j = 3 ∨ j = 4 ∨ j = 5 ∨ j = 6 by omega) with rfl | rfl | rfl | rfl | rfl | rfl | rfl <;> rfl) (Nat.le_of_ble_eq_true rfl) (Nat.le_of_ble_eq_true rfl) dX9_init_32 (fun qa28 H hP2 hD2 hS => ?_)
  have hqa28 : qa28 ∉ S24.L := nw_q hD2
  have e9 := wNw (cy := cy) (X := X) (S := S24) (a := qa28) (k := 0) (z := 0) (f := fun _ => 0) (g := fun _ => none) hqa28 rfl
  obtain ⟨S29, hS29⟩ : ∃ z, S24.nw qa28 0 0 (fun _ => 0) (fun _ => none) = z := ⟨_, rfl⟩
  have hP : va_P D vwCl (X ++ PL cy S29) H := by rw [← hS29, ← e9]; exact hP2
  have hD : va_D A (X ++ PL cy S29) := by rw [← hS29, ← e9]; exact hD2
  have xe30 : ext S24 S29 := by rw [← hS29]; exact ext.nw hqa28
  have t31 : stp ([] : List (Nat × Nat)) [o1] (qa28 :: (o1 :: R)) S S29 := by rw [← hS29]; exact t26.nw hqa28 (Or.inl (by decide))
  refine W.widen (k := 4) (n := 41) (Nat.le_of_ble_eq_true rfl) (Nat.le_of_ble_eq_true rfl) ?_
  have aqa28 : isA S29 qa28 0 := by rw [← hS29]; exact nw_A (by decide)
  have fqa28 : ∀ j, S29.F qa28 j = none := by rw [← hS29]; exact nw_F
  have iqa28 : ∀ j, S29.I qa28 j = 0 := by rw [← hS29]; exact nw_I
  have bqa28 : qa28 ∉ S.L := fun e => hqa28 ((xe3.tr (xe7.tr (xe12.tr (xe16.tr (xe21.tr xe25))))) _ e).1
  refine lv_dup hx hb dX9_init_35 rfl ?_
  have hFc := free_all hD hS hA
  refine va_callv (va_runIN (As := []) (rest := [.ref qa28, .ref o1]) ⟨hx, hb, hml, hown, hts⟩ (c_X0_init l (cy := cy) (X := X) (D := D) S29 _ qa28 aqa28 (o1 :: R) (t31.w) fqa28 iqa28) ⟨va_cnB 0 hts gX9_init_X0_init_n29 rfl rfl rfl (hN (.methodLinkNest RX9 29 yX0_init RX9) (by decide +kernel)) (hts (.initialized RX0) (by decide +kernel)) (by decide +kernel) ⟨Nat.le_of_ble_eq_true rfl, Nat.le_of_ble_eq_true rfl⟩, rfl, hts (.instanceMethod yX0_init) (by decide +kernel)⟩ (pS hP hK hD hN) rfl rfl hl.1 rfl (lv_room (Nat.le_of_ble_eq_true rfl)) dX9_init_36 ⟨Nat.le_of_ble_eq_true rfl, Nat.le_of_ble_eq_true rfl⟩) hS (fun q _ h => hFc q h) hFc (fun u t H1 locs ht hvm hw hB hz1 hk1 hS => ?_)
  obtain ⟨w33, y34, y35⟩ := hw
  obtain ⟨hP, hD⟩ := wd_post hFc ht hB
  generalize H1 = H at hP hS ⊢
  obtain ⟨S36, rfl⟩ : ∃ z, z = u := ⟨_, rfl⟩
  have t37 : stp ([] : List (Nat × Nat)) [o1] (o1 :: R) S S36 := t31.tr w33 (by decide) (fun z q => by rw [List.mem_singleton.mp q]; exact (Or.inr bqa28))
  have xe38 : ext S29 S36 := w33.x
  have o40 : isA S36 o1 9 := ((xe25.tr (xe30.tr xe38)).A ((xe16.tr xe21).A ((xe7.tr xe12).A (xe3.A h_o1))))
  obtain ⟨k39, gk39, hk39⟩ := wGt (cy := cy) X S36 o40.1 o40.2.1
  refine va_putF (D := D) (ci := 13) (v := .ref qa28) (ty := (tyX9 6)) (C := RX9) (T := TX9) (N := 11) hx hb hts hi_X9_init_X9 tyX9 tyX9_ok nmX9 hown hK hP hD hS k39 hk39 rfl 6 (by decide) (hts (.fieldLink RX9 30 "Hobhouse" "box" "LHobhouse$Box;") (by decide +kernel)) (fun _ h9 => h9) rfl hin rfl (by decide +kernel) (rfl) (rfl) (Nat.le_of_ble_eq_true rfl) dX9_init_39 (fun H locs hP2 hD2 hS => ?_)
  have e9 := wPuF (cy := cy) (j := 6) (v := (some qa28)) hD o40.1 o40.2.1 gk39 rfl
  obtain ⟨S41, hS41⟩ : ∃ z, S36.sF o1 6 (some qa28) = z := ⟨_, rfl⟩
  have hP : va_P D vwCl (X ++ PL cy S41) H := by rw [← hS41, ← e9]; exact hP2
  have hD : va_D A (X ++ PL cy S41) := by rw [← hS41, ← e9]; exact hD2
  have xe42 : ext S36 S41 := by rw [← hS41]; exact ext.sF (by rw [(w33.fR o1 ((xe3.tr (xe7.tr (xe12.tr (xe16.tr (xe21.tr (xe25.tr xe30)))))).A h_o1).1 (by rw [List.mem_singleton]; exact fun e => hqa28 (e ▸ ((xe3.tr (xe7.tr (xe12.tr (xe16.tr (xe21.tr xe25))))).A h_o1).1))).2.2.2.resolve_left (by rw [((xe3.tr (xe7.tr (xe12.tr (xe16.tr (xe21.tr (xe25.tr xe30)))))).A h_o1).2.1]; decide)]; rw [← hS29, nw_Fo hqa28 ((xe3.tr (xe7.tr (xe12.tr (xe16.tr (xe21.tr xe25))))).A h_o1).1]; rw [← hS24, sF_ne (fun q9 => absurd q9.2 (by decide))]; rw [← hS20, nw_Fo hqa19 ((xe3.tr (xe7.tr (xe12.tr xe16))).A h_o1).1]; rw [← hS15, sF_ne (fun q9 => absurd q9.2 (by decide))]; rw [← hS11, nw_Fo hqa10 ((xe3.tr xe7).A h_o1).1]; rw [← hS6, sF_ne (fun q9 => absurd q9.2 (by decide))]; rw [← hS2, nw_Fo hqa1 h_o1.1]; exact hF0 6)
  have t43 : stp ([] : List (Nat × Nat)) [o1] (o1 :: R) S S41 := by rw [← hS41]; exact t37.F 6 qa28 List.mem_cons_self (Or.inl List.mem_cons_self) (by rw [(w33.fR o1 ((xe3.tr (xe7.tr (xe12.tr (xe16.tr (xe21.tr (xe25.tr xe30)))))).A h_o1).1 (by rw [List.mem_singleton]; exact fun e => hqa28 (e ▸ ((xe3.tr (xe7.tr (xe12.tr (xe16.tr (xe21.tr xe25))))).A h_o1).1))).2.2.2.resolve_left (by rw [((xe3.tr (xe7.tr (xe12.tr (xe16.tr (xe21.tr (xe25.tr xe30)))))).A h_o1).2.1]; decide)]; rw [← hS29, nw_Fo hqa28 ((xe3.tr (xe7.tr (xe12.tr (xe16.tr (xe21.tr xe25))))).A h_o1).1]; rw [← hS24, sF_ne (fun q9 => absurd q9.2 (by decide))]; rw [← hS20, nw_Fo hqa19 ((xe3.tr (xe7.tr (xe12.tr xe16))).A h_o1).1]; rw [← hS15, sF_ne (fun q9 => absurd q9.2 (by decide))]; rw [← hS11, nw_Fo hqa10 ((xe3.tr xe7).A h_o1).1]; rw [← hS6, sF_ne (fun q9 => absurd q9.2 (by decide))]; rw [← hS2, nw_Fo hqa1 h_o1.1]; exact hF0 6)
  have F44 : S41.F o1 6 = some qa28 := by rw [← hS41]; exact sF_eq
  refine lv_aload_n hx hb dX9_init_42 rfl (lv_at hl 0 rfl) ?_
  refine va_new (ci := 10) (fs := [.null, .null, .null, .null, .int 0]) (C := RX6) (T := TX6) (N := 5) hx hb hts hi_X9_init_X6 tyX6 tyX6_ok hown (hts (.classLink RX9 34 RX6) (by decide +kernel)) (hts (.instantiable RX6 5) (by decide +kernel)) (hts (.initialized RX6) (by decide +kernel)) hK hP hD hS hA rfl (fun j hj => by rcases (show j = 0 ∨ j = 1 ∨ j = 2 ∨ j = 3 ∨ j = 4 by omega) with rfl | rfl | rfl | rfl | rfl <;> rfl) (Nat.le_of_ble_eq_true rfl) (Nat.le_of_ble_eq_true rfl) dX9_init_43 (fun qa45 H hP2 hD2 hS => ?_)
  have hqa45 : qa45 ∉ S41.L := nw_q hD2
  have e9 := wNw (cy := cy) (X := X) (S := S41) (a := qa45) (k := 6) (z := 0) (f := fun _ => 0) (g := fun _ => none) hqa45 rfl
  obtain ⟨S46, hS46⟩ : ∃ z, S41.nw qa45 6 0 (fun _ => 0) (fun _ => none) = z := ⟨_, rfl⟩
  have hP : va_P D vwCl (X ++ PL cy S46) H := by rw [← hS46, ← e9]; exact hP2
  have hD : va_D A (X ++ PL cy S46) := by rw [← hS46, ← e9]; exact hD2
  have xe47 : ext S41 S46 := by rw [← hS46]; exact ext.nw hqa45
  have t48 : stp ([] : List (Nat × Nat)) [o1] (qa45 :: (o1 :: R)) S S46 := by rw [← hS46]; exact t43.nw hqa45 (Or.inl (by decide))
  refine W.widen (k := 7) (n := 66) (Nat.le_of_ble_eq_true rfl) (Nat.le_of_ble_eq_true rfl) ?_
  have aqa45 : isA S46 qa45 6 := by rw [← hS46]; exact nw_A (by decide)
  have fqa45 : ∀ j, S46.F qa45 j = none := by rw [← hS46]; exact nw_F
  have iqa45 : ∀ j, S46.I qa45 j = 0 := by rw [← hS46]; exact nw_I
  have bqa45 : qa45 ∉ S.L := fun e => hqa45 ((xe3.tr (xe7.tr (xe12.tr (xe16.tr (xe21.tr (xe25.tr (xe30.tr (xe38.tr xe42)))))))) _ e).1
  refine lv_dup hx hb dX9_init_46 rfl ?_
  have hFc := free_all hD hS hA
  refine va_callv (va_runIN (As := []) (rest := [.ref qa45, .ref o1]) ⟨hx, hb, hml, hown, hts⟩ (c_X6_init l (cy := cy) (X := X) (D := D) S46 _ qa45 aqa45 (o1 :: R) (t48.w) fqa45 iqa45) ⟨va_cnB 0 hts gX9_init_X6_init_n36 rfl rfl rfl (hN (.methodLinkNest RX9 36 yX6_init RX9) (by decide +kernel)) (hts (.initialized RX6) (by decide +kernel)) (by decide +kernel) ⟨Nat.le_of_ble_eq_true rfl, Nat.le_of_ble_eq_true rfl⟩, rfl, hts (.instanceMethod yX6_init) (by decide +kernel)⟩ (pS hP hK hD hN) rfl rfl hl.1 rfl (lv_room (Nat.le_of_ble_eq_true rfl)) dX9_init_47 ⟨Nat.le_of_ble_eq_true rfl, Nat.le_of_ble_eq_true rfl⟩) hS (fun q _ h => hFc q h) hFc (fun u t H1 locs ht hvm hw hB hz1 hk1 hS => ?_)
  obtain ⟨w50, y51, y52⟩ := hw
  obtain ⟨hP, hD⟩ := wd_post hFc ht hB
  generalize H1 = H at hP hS ⊢
  obtain ⟨S53, rfl⟩ : ∃ z, z = u := ⟨_, rfl⟩
  have t54 : stp ([] : List (Nat × Nat)) [o1] (o1 :: R) S S53 := t48.tr w50 (by decide) (fun z q => by rw [List.mem_singleton.mp q]; exact (Or.inr bqa45))
  have xe55 : ext S46 S53 := w50.x
  obtain ⟨k56, gk56, hk56⟩ := wGt (cy := cy) X S53 ((xe42.tr (xe47.tr xe55)).A o40).1 ((xe42.tr (xe47.tr xe55)).A o40).2.1
  refine va_putF (D := D) (ci := 13) (v := .ref qa45) (ty := (tyX9 7)) (C := RX9) (T := TX9) (N := 11) hx hb hts hi_X9_init_X9 tyX9 tyX9_ok nmX9 hown hK hP hD hS k56 hk56 rfl 7 (by decide) (hts (.fieldLink RX9 37 "Hobhouse" "rolling" "LHobhouse$Rolling;") (by decide +kernel)) (fun _ h9 => h9) rfl hin rfl (by decide +kernel) (rfl) (rfl) (Nat.le_of_ble_eq_true rfl) dX9_init_50 (fun H locs hP2 hD2 hS => ?_)
  have e9 := wPuF (cy := cy) (j := 7) (v := (some qa45)) hD ((xe42.tr (xe47.tr xe55)).A o40).1 ((xe42.tr (xe47.tr xe55)).A o40).2.1 gk56 rfl
  obtain ⟨S57, hS57⟩ : ∃ z, S53.sF o1 7 (some qa45) = z := ⟨_, rfl⟩
  have hP : va_P D vwCl (X ++ PL cy S57) H := by rw [← hS57, ← e9]; exact hP2
  have hD : va_D A (X ++ PL cy S57) := by rw [← hS57, ← e9]; exact hD2
  have xe58 : ext S53 S57 := by rw [← hS57]; exact ext.sF (by rw [(w50.fR o1 ((xe3.tr (xe7.tr (xe12.tr (xe16.tr (xe21.tr (xe25.tr (xe30.tr (xe38.tr (xe42.tr xe47))))))))).A h_o1).1 (by rw [List.mem_singleton]; exact fun e => hqa45 (e ▸ ((xe3.tr (xe7.tr (xe12.tr (xe16.tr (xe21.tr (xe25.tr (xe30.tr (xe38.tr xe42)))))))).A h_o1).1))).2.2.2.resolve_left (by rw [((xe3.tr (xe7.tr (xe12.tr (xe16.tr (xe21.tr (xe25.tr (xe30.tr (xe38.tr (xe42.tr xe47))))))))).A h_o1).2.1]; decide)]; rw [← hS46, nw_Fo hqa45 ((xe3.tr (xe7.tr (xe12.tr (xe16.tr (xe21.tr (xe25.tr (xe30.tr (xe38.tr xe42)))))))).A h_o1).1]; rw [← hS41, sF_ne (fun q9 => absurd q9.2 (by decide))]; rw [(w33.fR o1 ((xe3.tr (xe7.tr (xe12.tr (xe16.tr (xe21.tr (xe25.tr xe30)))))).A h_o1).1 (by rw [List.mem_singleton]; exact fun e => hqa28 (e ▸ ((xe3.tr (xe7.tr (xe12.tr (xe16.tr (xe21.tr xe25))))).A h_o1).1))).2.2.2.resolve_left (by rw [((xe3.tr (xe7.tr (xe12.tr (xe16.tr (xe21.tr (xe25.tr xe30)))))).A h_o1).2.1]; decide)]; rw [← hS29, nw_Fo hqa28 ((xe3.tr (xe7.tr (xe12.tr (xe16.tr (xe21.tr xe25))))).A h_o1).1]; rw [← hS24, sF_ne (fun q9 => absurd q9.2 (by decide))]; rw [← hS20, nw_Fo hqa19 ((xe3.tr (xe7.tr (xe12.tr xe16))).A h_o1).1]; rw [← hS15, sF_ne (fun q9 => absurd q9.2 (by decide))]; rw [← hS11, nw_Fo hqa10 ((xe3.tr xe7).A h_o1).1]; rw [← hS6, sF_ne (fun q9 => absurd q9.2 (by decide))]; rw [← hS2, nw_Fo hqa1 h_o1.1]; exact hF0 7)
  have t59 : stp ([] : List (Nat × Nat)) [o1] (o1 :: R) S S57 := by rw [← hS57]; exact t54.F 7 qa45 List.mem_cons_self (Or.inl List.mem_cons_self) (by rw [(w50.fR o1 ((xe3.tr (xe7.tr (xe12.tr (xe16.tr (xe21.tr (xe25.tr (xe30.tr (xe38.tr (xe42.tr xe47))))))))).A h_o1).1 (by rw [List.mem_singleton]; exact fun e => hqa45 (e ▸ ((xe3.tr (xe7.tr (xe12.tr (xe16.tr (xe21.tr (xe25.tr (xe30.tr (xe38.tr xe42)))))))).A h_o1).1))).2.2.2.resolve_left (by rw [((xe3.tr (xe7.tr (xe12.tr (xe16.tr (xe21.tr (xe25.tr (xe30.tr (xe38.tr (xe42.tr xe47))))))))).A h_o1).2.1]; decide)]; rw [← hS46, nw_Fo hqa45 ((xe3.tr (xe7.tr (xe12.tr (xe16.tr (xe21.tr (xe25.tr (xe30.tr (xe38.tr xe42)))))))).A h_o1).1]; rw [← hS41, sF_ne (fun q9 => absurd q9.2 (by decide))]; rw [(w33.fR o1 ((xe3.tr (xe7.tr (xe12.tr (xe16.tr (xe21.tr (xe25.tr xe30)))))).A h_o1).1 (by rw [List.mem_singleton]; exact fun e => hqa28 (e ▸ ((xe3.tr (xe7.tr (xe12.tr (xe16.tr (xe21.tr xe25))))).A h_o1).1))).2.2.2.resolve_left (by rw [((xe3.tr (xe7.tr (xe12.tr (xe16.tr (xe21.tr (xe25.tr xe30)))))).A h_o1).2.1]; decide)]; rw [← hS29, nw_Fo hqa28 ((xe3.tr (xe7.tr (xe12.tr (xe16.tr (xe21.tr xe25))))).A h_o1).1]; rw [← hS24, sF_ne (fun q9 => absurd q9.2 (by decide))]; rw [← hS20, nw_Fo hqa19 ((xe3.tr (xe7.tr (xe12.tr xe16))).A h_o1).1]; rw [← hS15, sF_ne (fun q9 => absurd q9.2 (by decide))]; rw [← hS11, nw_Fo hqa10 ((xe3.tr xe7).A h_o1).1]; rw [← hS6, sF_ne (fun q9 => absurd q9.2 (by decide))]; rw [← hS2, nw_Fo hqa1 h_o1.1]; exact hF0 7)
  have F60 : S57.F o1 7 = some qa45 := by rw [← hS57]; exact sF_eq
  refine lv_aload_n hx hb dX9_init_53 rfl (lv_at hl 0 rfl) ?_
  refine va_new (ci := 8) (fs := [.null, .null, .null, .null, .null, .null, .int 0, .int 0, .int 0]) (C := RX4) (T := TX4) (N := 9) hx hb hts hi_X9_init_X4 tyX4 tyX4_ok hown (hts (.classLink RX9 41 RX4) (by decide +kernel)) (hts (.instantiable RX4 9) (by decide +kernel)) (hts (.initialized RX4) (by decide +kernel)) hK hP hD hS hA rfl (fun j hj => by rcases (show j = 0 ∨ j = 1 ∨ j = 2 ∨ j = 3 ∨ j = 4 ∨ j = 5 ∨ j = 6 ∨ j = 7 ∨ j = 8 by omega) with rfl | rfl | rfl | rfl | rfl | rfl | rfl | rfl | rfl <;> rfl) (Nat.le_of_ble_eq_true rfl) (Nat.le_of_ble_eq_true rfl) dX9_init_54 (fun qa61 H hP2 hD2 hS => ?_)
  have hqa61 : qa61 ∉ S57.L := nw_q hD2
  have e9 := wNw (cy := cy) (X := X) (S := S57) (a := qa61) (k := 4) (z := 0) (f := fun _ => 0) (g := fun _ => none) hqa61 rfl
  obtain ⟨S62, hS62⟩ : ∃ z, S57.nw qa61 4 0 (fun _ => 0) (fun _ => none) = z := ⟨_, rfl⟩
  have hP : va_P D vwCl (X ++ PL cy S62) H := by rw [← hS62, ← e9]; exact hP2
  have hD : va_D A (X ++ PL cy S62) := by rw [← hS62, ← e9]; exact hD2
  have xe63 : ext S57 S62 := by rw [← hS62]; exact ext.nw hqa61
  have t64 : stp ([] : List (Nat × Nat)) [o1] (qa61 :: (o1 :: R)) S S62 := by rw [← hS62]; exact t59.nw hqa61 (Or.inl (by decide))
  refine W.widen (k := 12) (n := 875) (Nat.le_of_ble_eq_true rfl) (Nat.le_of_ble_eq_true rfl) ?_
  have aqa61 : isA S62 qa61 4 := by rw [← hS62]; exact nw_A (by decide)
  have fqa61 : ∀ j, S62.F qa61 j = none := by rw [← hS62]; exact nw_F
  have iqa61 : ∀ j, S62.I qa61 j = 0 := by rw [← hS62]; exact nw_I
  have bqa61 : qa61 ∉ S.L := fun e => hqa61 ((xe3.tr (xe7.tr (xe12.tr (xe16.tr (xe21.tr (xe25.tr (xe30.tr (xe38.tr (xe42.tr (xe47.tr (xe55.tr xe58))))))))))) _ e).1
  refine lv_dup hx hb dX9_init_57 rfl ?_
  have hFc := free_all hD hS hA
  refine va_callv (va_runIN (As := []) (rest := [.ref qa61, .ref o1]) ⟨hx, hb, hml, hown, hts⟩ (c_X4_init l (cy := cy) (X := X) (D := D) S62 _ qa61 aqa61 (o1 :: R) (t64.w) fqa61 iqa61) ⟨va_cnB 0 hts gX9_init_X4_init_n43 rfl rfl rfl (hN (.methodLinkNest RX9 43 yX4_init RX9) (by decide +kernel)) (hts (.initialized RX4) (by decide +kernel)) (by decide +kernel) ⟨Nat.le_of_ble_eq_true rfl, Nat.le_of_ble_eq_true rfl⟩, rfl, hts (.instanceMethod yX4_init) (by decide +kernel)⟩ (pS hP hK hD hN) rfl rfl hl.1 rfl (lv_room (Nat.le_of_ble_eq_true rfl)) dX9_init_58 ⟨Nat.le_of_ble_eq_true rfl, Nat.le_of_ble_eq_true rfl⟩) hS (fun q _ h => hFc q h) hFc (fun u t H1 locs ht hvm hw hB hz1 hk1 hS => ?_)
  obtain ⟨w66, y67, y68, y69, y70⟩ := hw
  obtain ⟨hP, hD⟩ := wd_post hFc ht hB
  generalize H1 = H at hP hS ⊢
  obtain ⟨S71, rfl⟩ : ∃ z, z = u := ⟨_, rfl⟩
  have t72 : stp ([] : List (Nat × Nat)) [o1] (o1 :: R) S S71 := t64.tr w66 (by decide) (fun z q => by rw [List.mem_singleton.mp q]; exact (Or.inr bqa61))
  have xe73 : ext S62 S71 := w66.x
  have o75 : isA S71 o1 9 := ((xe58.tr (xe63.tr xe73)).A ((xe42.tr (xe47.tr xe55)).A o40))
  obtain ⟨k74, gk74, hk74⟩ := wGt (cy := cy) X S71 o75.1 o75.2.1
  refine va_putF (D := D) (ci := 13) (v := .ref qa61) (ty := (tyX9 8)) (C := RX9) (T := TX9) (N := 11) hx hb hts hi_X9_init_X9 tyX9 tyX9_ok nmX9 hown hK hP hD hS k74 hk74 rfl 8 (by decide) (hts (.fieldLink RX9 44 "Hobhouse" "matching" "LHobhouse$Matching;") (by decide +kernel)) (fun _ h9 => h9) rfl hin rfl (by decide +kernel) (rfl) (rfl) (Nat.le_of_ble_eq_true rfl) dX9_init_61 (fun H locs hP2 hD2 hS => ?_)
  have e9 := wPuF (cy := cy) (j := 8) (v := (some qa61)) hD o75.1 o75.2.1 gk74 rfl
  obtain ⟨S76, hS76⟩ : ∃ z, S71.sF o1 8 (some qa61) = z := ⟨_, rfl⟩
  have hP : va_P D vwCl (X ++ PL cy S76) H := by rw [← hS76, ← e9]; exact hP2
  have hD : va_D A (X ++ PL cy S76) := by rw [← hS76, ← e9]; exact hD2
  have xe77 : ext S71 S76 := by rw [← hS76]; exact ext.sF (by rw [(w66.fR o1 ((xe3.tr (xe7.tr (xe12.tr (xe16.tr (xe21.tr (xe25.tr (xe30.tr (xe38.tr (xe42.tr (xe47.tr (xe55.tr (xe58.tr xe63)))))))))))).A h_o1).1 (by rw [List.mem_singleton]; exact fun e => hqa61 (e ▸ ((xe3.tr (xe7.tr (xe12.tr (xe16.tr (xe21.tr (xe25.tr (xe30.tr (xe38.tr (xe42.tr (xe47.tr (xe55.tr xe58))))))))))).A h_o1).1))).2.2.2.resolve_left (by rw [((xe3.tr (xe7.tr (xe12.tr (xe16.tr (xe21.tr (xe25.tr (xe30.tr (xe38.tr (xe42.tr (xe47.tr (xe55.tr (xe58.tr xe63)))))))))))).A h_o1).2.1]; decide)]; rw [← hS62, nw_Fo hqa61 ((xe3.tr (xe7.tr (xe12.tr (xe16.tr (xe21.tr (xe25.tr (xe30.tr (xe38.tr (xe42.tr (xe47.tr (xe55.tr xe58))))))))))).A h_o1).1]; rw [← hS57, sF_ne (fun q9 => absurd q9.2 (by decide))]; rw [(w50.fR o1 ((xe3.tr (xe7.tr (xe12.tr (xe16.tr (xe21.tr (xe25.tr (xe30.tr (xe38.tr (xe42.tr xe47))))))))).A h_o1).1 (by rw [List.mem_singleton]; exact fun e => hqa45 (e ▸ ((xe3.tr (xe7.tr (xe12.tr (xe16.tr (xe21.tr (xe25.tr (xe30.tr (xe38.tr xe42)))))))).A h_o1).1))).2.2.2.resolve_left (by rw [((xe3.tr (xe7.tr (xe12.tr (xe16.tr (xe21.tr (xe25.tr (xe30.tr (xe38.tr (xe42.tr xe47))))))))).A h_o1).2.1]; decide)]; rw [← hS46, nw_Fo hqa45 ((xe3.tr (xe7.tr (xe12.tr (xe16.tr (xe21.tr (xe25.tr (xe30.tr (xe38.tr xe42)))))))).A h_o1).1]; rw [← hS41, sF_ne (fun q9 => absurd q9.2 (by decide))]; rw [(w33.fR o1 ((xe3.tr (xe7.tr (xe12.tr (xe16.tr (xe21.tr (xe25.tr xe30)))))).A h_o1).1 (by rw [List.mem_singleton]; exact fun e => hqa28 (e ▸ ((xe3.tr (xe7.tr (xe12.tr (xe16.tr (xe21.tr xe25))))).A h_o1).1))).2.2.2.resolve_left (by rw [((xe3.tr (xe7.tr (xe12.tr (xe16.tr (xe21.tr (xe25.tr xe30)))))).A h_o1).2.1]; decide)]; rw [← hS29, nw_Fo hqa28 ((xe3.tr (xe7.tr (xe12.tr (xe16.tr (xe21.tr xe25))))).A h_o1).1]; rw [← hS24, sF_ne (fun q9 => absurd q9.2 (by decide))]; rw [← hS20, nw_Fo hqa19 ((xe3.tr (xe7.tr (xe12.tr xe16))).A h_o1).1]; rw [← hS15, sF_ne (fun q9 => absurd q9.2 (by decide))]; rw [← hS11, nw_Fo hqa10 ((xe3.tr xe7).A h_o1).1]; rw [← hS6, sF_ne (fun q9 => absurd q9.2 (by decide))]; rw [← hS2, nw_Fo hqa1 h_o1.1]; exact hF0 8)
  have t78 : stp ([] : List (Nat × Nat)) [o1] (o1 :: R) S S76 := by rw [← hS76]; exact t72.F 8 qa61 List.mem_cons_self (Or.inl List.mem_cons_self) (by rw [(w66.fR o1 ((xe3.tr (xe7.tr (xe12.tr (xe16.tr (xe21.tr (xe25.tr (xe30.tr (xe38.tr (xe42.tr (xe47.tr (xe55.tr (xe58.tr xe63)))))))))))).A h_o1).1 (by rw [List.mem_singleton]; exact fun e => hqa61 (e ▸ ((xe3.tr (xe7.tr (xe12.tr (xe16.tr (xe21.tr (xe25.tr (xe30.tr (xe38.tr (xe42.tr (xe47.tr (xe55.tr xe58))))))))))).A h_o1).1))).2.2.2.resolve_left (by rw [((xe3.tr (xe7.tr (xe12.tr (xe16.tr (xe21.tr (xe25.tr (xe30.tr (xe38.tr (xe42.tr (xe47.tr (xe55.tr (xe58.tr xe63)))))))))))).A h_o1).2.1]; decide)]; rw [← hS62, nw_Fo hqa61 ((xe3.tr (xe7.tr (xe12.tr (xe16.tr (xe21.tr (xe25.tr (xe30.tr (xe38.tr (xe42.tr (xe47.tr (xe55.tr xe58))))))))))).A h_o1).1]; rw [← hS57, sF_ne (fun q9 => absurd q9.2 (by decide))]; rw [(w50.fR o1 ((xe3.tr (xe7.tr (xe12.tr (xe16.tr (xe21.tr (xe25.tr (xe30.tr (xe38.tr (xe42.tr xe47))))))))).A h_o1).1 (by rw [List.mem_singleton]; exact fun e => hqa45 (e ▸ ((xe3.tr (xe7.tr (xe12.tr (xe16.tr (xe21.tr (xe25.tr (xe30.tr (xe38.tr xe42)))))))).A h_o1).1))).2.2.2.resolve_left (by rw [((xe3.tr (xe7.tr (xe12.tr (xe16.tr (xe21.tr (xe25.tr (xe30.tr (xe38.tr (xe42.tr xe47))))))))).A h_o1).2.1]; decide)]; rw [← hS46, nw_Fo hqa45 ((xe3.tr (xe7.tr (xe12.tr (xe16.tr (xe21.tr (xe25.tr (xe30.tr (xe38.tr xe42)))))))).A h_o1).1]; rw [← hS41, sF_ne (fun q9 => absurd q9.2 (by decide))]; rw [(w33.fR o1 ((xe3.tr (xe7.tr (xe12.tr (xe16.tr (xe21.tr (xe25.tr xe30)))))).A h_o1).1 (by rw [List.mem_singleton]; exact fun e => hqa28 (e ▸ ((xe3.tr (xe7.tr (xe12.tr (xe16.tr (xe21.tr xe25))))).A h_o1).1))).2.2.2.resolve_left (by rw [((xe3.tr (xe7.tr (xe12.tr (xe16.tr (xe21.tr (xe25.tr xe30)))))).A h_o1).2.1]; decide)]; rw [← hS29, nw_Fo hqa28 ((xe3.tr (xe7.tr (xe12.tr (xe16.tr (xe21.tr xe25))))).A h_o1).1]; rw [← hS24, sF_ne (fun q9 => absurd q9.2 (by decide))]; rw [← hS20, nw_Fo hqa19 ((xe3.tr (xe7.tr (xe12.tr xe16))).A h_o1).1]; rw [← hS15, sF_ne (fun q9 => absurd q9.2 (by decide))]; rw [← hS11, nw_Fo hqa10 ((xe3.tr xe7).A h_o1).1]; rw [← hS6, sF_ne (fun q9 => absurd q9.2 (by decide))]; rw [← hS2, nw_Fo hqa1 h_o1.1]; exact hF0 8)
  have F79 : S76.F o1 8 = some qa61 := by rw [← hS76]; exact sF_eq
  refine lv_aload_n hx hb dX9_init_64 rfl (lv_at hl 0 rfl) ?_
  refine lv_bipush (v := 24) hx hb dX9_init_65 (by decide +kernel) ?_
  obtain ⟨k80, gk80, hk80⟩ := wGt (cy := cy) X S76 (xe77.A o75).1 (xe77.A o75).2.1
  refine va_put (D := D) (ci := 13) (v := .int (24 : Int32)) (ty := .int) (C := RX9) (T := TX9) (N := 11) hx hb hts hi_X9_init_X9 tyX9 tyX9_ok nmX9 hown hK hP hD hS k80 hk80 rfl 9 (by decide) (hts (.fieldLink RX9 48 "Hobhouse" "constant" "I") (by decide +kernel)) (fun _ h9 => h9) rfl (by decide +kernel) (rfl) (rfl) (Nat.le_of_ble_eq_true rfl) dX9_init_67 (fun H locs hP2 hD2 hS => ?_)
  have e9 := wPuI (cy := cy) (j := 9) (v := (24 : Int32)) hD (xe77.A o75).1 (xe77.A o75).2.1 gk80 rfl
  obtain ⟨S81, hS81⟩ : ∃ z, S76.sI o1 9 (24 : Int32) = z := ⟨_, rfl⟩
  have hP : va_P D vwCl (X ++ PL cy S81) H := by rw [← hS81, ← e9]; exact hP2
  have hD : va_D A (X ++ PL cy S81) := by rw [← hS81, ← e9]; exact hD2
  have xe82 : ext S76 S81 := by rw [← hS81]; exact ext.sI _ _ _ _
  have t83 : stp ([] : List (Nat × Nat)) [o1] (o1 :: R) S S81 := by rw [← hS81]; exact t78.Ir 9 (24 : Int32) List.mem_cons_self (Or.inl List.mem_cons_self)
  refine lv_aload_n hx hb dX9_init_70 rfl (lv_at hl 0 rfl) ?_
  refine lv_bipush (v := 60) hx hb dX9_init_71 (by decide +kernel) ?_
  obtain ⟨k84, gk84, hk84⟩ := wGt (cy := cy) X S81 (xe82.A (xe77.A o75)).1 (xe82.A (xe77.A o75)).2.1
  refine va_put (D := D) (ci := 13) (v := .int (60 : Int32)) (ty := .int) (C := RX9) (T := TX9) (N := 11) hx hb hts hi_X9_init_X9 tyX9 tyX9_ok nmX9 hown hK hP hD hS k84 hk84 rfl 10 (by decide) (hts (.fieldLink RX9 52 "Hobhouse" "ownTeeth" "I") (by decide +kernel)) (fun _ h9 => h9) rfl (by decide +kernel) (rfl) (rfl) (Nat.le_of_ble_eq_true rfl) dX9_init_73 (fun H locs hP2 hD2 hS => ?_)
  have e9 := wPuI (cy := cy) (j := 10) (v := (60 : Int32)) hD (xe82.A (xe77.A o75)).1 (xe82.A (xe77.A o75)).2.1 gk84 rfl
  obtain ⟨S85, hS85⟩ : ∃ z, S81.sI o1 10 (60 : Int32) = z := ⟨_, rfl⟩
  have hP : va_P D vwCl (X ++ PL cy S85) H := by rw [← hS85, ← e9]; exact hP2
  have hD : va_D A (X ++ PL cy S85) := by rw [← hS85, ← e9]; exact hD2
  have xe86 : ext S81 S85 := by rw [← hS85]; exact ext.sI _ _ _ _
  have t87 : stp ([] : List (Nat × Nat)) [o1] (o1 :: R) S S85 := by rw [← hS85]; exact t83.Ir 10 (60 : Int32) List.mem_cons_self (Or.inl List.mem_cons_self)
  have oo : isA S85 o1 9 := (xe86.A (xe82.A (xe77.A o75)))
  have I1 : S85.I o1 1 = (0 : Int32) := (by rw [← hS85, sI_I (by rintro ⟨e1, e2⟩; exact absurd e2 (by decide))]; rw [← hS81, sI_I (by rintro ⟨e1, e2⟩; exact absurd e2 (by decide))]; rw [← hS76]; show S71.I o1 1 = _; rw [((w66.fR o1 ((xe3.tr (xe7.tr (xe12.tr (xe16.tr (xe21.tr (xe25.tr (xe30.tr (xe38.tr (xe42.tr (xe47.tr (xe55.tr (xe58.tr xe63)))))))))))).A h_o1).1 (by rw [List.mem_singleton]; exact fun e => hqa61 (e ▸ ((xe3.tr (xe7.tr (xe12.tr (xe16.tr (xe21.tr (xe25.tr (xe30.tr (xe38.tr (xe42.tr (xe47.tr (xe55.tr xe58))))))))))).A h_o1).1))).1 1 (by rw [((xe3.tr (xe7.tr (xe12.tr (xe16.tr (xe21.tr (xe25.tr (xe30.tr (xe38.tr (xe42.tr (xe47.tr (xe55.tr (xe58.tr xe63)))))))))))).A h_o1).2.1]; decide)).1]; rw [← hS62, nw_Io hqa61 ((xe3.tr (xe7.tr (xe12.tr (xe16.tr (xe21.tr (xe25.tr (xe30.tr (xe38.tr (xe42.tr (xe47.tr (xe55.tr xe58))))))))))).A h_o1).1]; rw [← hS57]; show S53.I o1 1 = _; rw [((w50.fR o1 ((xe3.tr (xe7.tr (xe12.tr (xe16.tr (xe21.tr (xe25.tr (xe30.tr (xe38.tr (xe42.tr xe47))))))))).A h_o1).1 (by rw [List.mem_singleton]; exact fun e => hqa45 (e ▸ ((xe3.tr (xe7.tr (xe12.tr (xe16.tr (xe21.tr (xe25.tr (xe30.tr (xe38.tr xe42)))))))).A h_o1).1))).1 1 (by rw [((xe3.tr (xe7.tr (xe12.tr (xe16.tr (xe21.tr (xe25.tr (xe30.tr (xe38.tr (xe42.tr xe47))))))))).A h_o1).2.1]; decide)).1]; rw [← hS46, nw_Io hqa45 ((xe3.tr (xe7.tr (xe12.tr (xe16.tr (xe21.tr (xe25.tr (xe30.tr (xe38.tr xe42)))))))).A h_o1).1]; rw [← hS41]; show S36.I o1 1 = _; rw [((w33.fR o1 ((xe3.tr (xe7.tr (xe12.tr (xe16.tr (xe21.tr (xe25.tr xe30)))))).A h_o1).1 (by rw [List.mem_singleton]; exact fun e => hqa28 (e ▸ ((xe3.tr (xe7.tr (xe12.tr (xe16.tr (xe21.tr xe25))))).A h_o1).1))).1 1 (by rw [((xe3.tr (xe7.tr (xe12.tr (xe16.tr (xe21.tr (xe25.tr xe30)))))).A h_o1).2.1]; decide)).1]; rw [← hS29, nw_Io hqa28 ((xe3.tr (xe7.tr (xe12.tr (xe16.tr (xe21.tr xe25))))).A h_o1).1]; rw [← hS24]; show S20.I o1 1 = _; rw [← hS20, nw_Io hqa19 ((xe3.tr (xe7.tr (xe12.tr xe16))).A h_o1).1]; rw [← hS15]; show S11.I o1 1 = _; rw [← hS11, nw_Io hqa10 ((xe3.tr xe7).A h_o1).1]; rw [← hS6]; show S2.I o1 1 = _; rw [← hS2, nw_Io hqa1 h_o1.1]; exact hI0 1)
  have I3 : S85.I o1 3 = (0 : Int32) := (by rw [← hS85, sI_I (by rintro ⟨e1, e2⟩; exact absurd e2 (by decide))]; rw [← hS81, sI_I (by rintro ⟨e1, e2⟩; exact absurd e2 (by decide))]; rw [← hS76]; show S71.I o1 3 = _; rw [((w66.fR o1 ((xe3.tr (xe7.tr (xe12.tr (xe16.tr (xe21.tr (xe25.tr (xe30.tr (xe38.tr (xe42.tr (xe47.tr (xe55.tr (xe58.tr xe63)))))))))))).A h_o1).1 (by rw [List.mem_singleton]; exact fun e => hqa61 (e ▸ ((xe3.tr (xe7.tr (xe12.tr (xe16.tr (xe21.tr (xe25.tr (xe30.tr (xe38.tr (xe42.tr (xe47.tr (xe55.tr xe58))))))))))).A h_o1).1))).1 3 (by rw [((xe3.tr (xe7.tr (xe12.tr (xe16.tr (xe21.tr (xe25.tr (xe30.tr (xe38.tr (xe42.tr (xe47.tr (xe55.tr (xe58.tr xe63)))))))))))).A h_o1).2.1]; decide)).1]; rw [← hS62, nw_Io hqa61 ((xe3.tr (xe7.tr (xe12.tr (xe16.tr (xe21.tr (xe25.tr (xe30.tr (xe38.tr (xe42.tr (xe47.tr (xe55.tr xe58))))))))))).A h_o1).1]; rw [← hS57]; show S53.I o1 3 = _; rw [((w50.fR o1 ((xe3.tr (xe7.tr (xe12.tr (xe16.tr (xe21.tr (xe25.tr (xe30.tr (xe38.tr (xe42.tr xe47))))))))).A h_o1).1 (by rw [List.mem_singleton]; exact fun e => hqa45 (e ▸ ((xe3.tr (xe7.tr (xe12.tr (xe16.tr (xe21.tr (xe25.tr (xe30.tr (xe38.tr xe42)))))))).A h_o1).1))).1 3 (by rw [((xe3.tr (xe7.tr (xe12.tr (xe16.tr (xe21.tr (xe25.tr (xe30.tr (xe38.tr (xe42.tr xe47))))))))).A h_o1).2.1]; decide)).1]; rw [← hS46, nw_Io hqa45 ((xe3.tr (xe7.tr (xe12.tr (xe16.tr (xe21.tr (xe25.tr (xe30.tr (xe38.tr xe42)))))))).A h_o1).1]; rw [← hS41]; show S36.I o1 3 = _; rw [((w33.fR o1 ((xe3.tr (xe7.tr (xe12.tr (xe16.tr (xe21.tr (xe25.tr xe30)))))).A h_o1).1 (by rw [List.mem_singleton]; exact fun e => hqa28 (e ▸ ((xe3.tr (xe7.tr (xe12.tr (xe16.tr (xe21.tr xe25))))).A h_o1).1))).1 3 (by rw [((xe3.tr (xe7.tr (xe12.tr (xe16.tr (xe21.tr (xe25.tr xe30)))))).A h_o1).2.1]; decide)).1]; rw [← hS29, nw_Io hqa28 ((xe3.tr (xe7.tr (xe12.tr (xe16.tr (xe21.tr xe25))))).A h_o1).1]; rw [← hS24]; show S20.I o1 3 = _; rw [← hS20, nw_Io hqa19 ((xe3.tr (xe7.tr (xe12.tr xe16))).A h_o1).1]; rw [← hS15]; show S11.I o1 3 = _; rw [← hS11, nw_Io hqa10 ((xe3.tr xe7).A h_o1).1]; rw [← hS6]; show S2.I o1 3 = _; rw [← hS2, nw_Io hqa1 h_o1.1]; exact hI0 3)
  have I5 : S85.I o1 5 = (0 : Int32) := (by rw [← hS85, sI_I (by rintro ⟨e1, e2⟩; exact absurd e2 (by decide))]; rw [← hS81, sI_I (by rintro ⟨e1, e2⟩; exact absurd e2 (by decide))]; rw [← hS76]; show S71.I o1 5 = _; rw [((w66.fR o1 ((xe3.tr (xe7.tr (xe12.tr (xe16.tr (xe21.tr (xe25.tr (xe30.tr (xe38.tr (xe42.tr (xe47.tr (xe55.tr (xe58.tr xe63)))))))))))).A h_o1).1 (by rw [List.mem_singleton]; exact fun e => hqa61 (e ▸ ((xe3.tr (xe7.tr (xe12.tr (xe16.tr (xe21.tr (xe25.tr (xe30.tr (xe38.tr (xe42.tr (xe47.tr (xe55.tr xe58))))))))))).A h_o1).1))).1 5 (by rw [((xe3.tr (xe7.tr (xe12.tr (xe16.tr (xe21.tr (xe25.tr (xe30.tr (xe38.tr (xe42.tr (xe47.tr (xe55.tr (xe58.tr xe63)))))))))))).A h_o1).2.1]; decide)).1]; rw [← hS62, nw_Io hqa61 ((xe3.tr (xe7.tr (xe12.tr (xe16.tr (xe21.tr (xe25.tr (xe30.tr (xe38.tr (xe42.tr (xe47.tr (xe55.tr xe58))))))))))).A h_o1).1]; rw [← hS57]; show S53.I o1 5 = _; rw [((w50.fR o1 ((xe3.tr (xe7.tr (xe12.tr (xe16.tr (xe21.tr (xe25.tr (xe30.tr (xe38.tr (xe42.tr xe47))))))))).A h_o1).1 (by rw [List.mem_singleton]; exact fun e => hqa45 (e ▸ ((xe3.tr (xe7.tr (xe12.tr (xe16.tr (xe21.tr (xe25.tr (xe30.tr (xe38.tr xe42)))))))).A h_o1).1))).1 5 (by rw [((xe3.tr (xe7.tr (xe12.tr (xe16.tr (xe21.tr (xe25.tr (xe30.tr (xe38.tr (xe42.tr xe47))))))))).A h_o1).2.1]; decide)).1]; rw [← hS46, nw_Io hqa45 ((xe3.tr (xe7.tr (xe12.tr (xe16.tr (xe21.tr (xe25.tr (xe30.tr (xe38.tr xe42)))))))).A h_o1).1]; rw [← hS41]; show S36.I o1 5 = _; rw [((w33.fR o1 ((xe3.tr (xe7.tr (xe12.tr (xe16.tr (xe21.tr (xe25.tr xe30)))))).A h_o1).1 (by rw [List.mem_singleton]; exact fun e => hqa28 (e ▸ ((xe3.tr (xe7.tr (xe12.tr (xe16.tr (xe21.tr xe25))))).A h_o1).1))).1 5 (by rw [((xe3.tr (xe7.tr (xe12.tr (xe16.tr (xe21.tr (xe25.tr xe30)))))).A h_o1).2.1]; decide)).1]; rw [← hS29, nw_Io hqa28 ((xe3.tr (xe7.tr (xe12.tr (xe16.tr (xe21.tr xe25))))).A h_o1).1]; rw [← hS24]; show S20.I o1 5 = _; rw [← hS20, nw_Io hqa19 ((xe3.tr (xe7.tr (xe12.tr xe16))).A h_o1).1]; rw [← hS15]; show S11.I o1 5 = _; rw [← hS11, nw_Io hqa10 ((xe3.tr xe7).A h_o1).1]; rw [← hS6]; show S2.I o1 5 = _; rw [← hS2, nw_Io hqa1 h_o1.1]; exact hI0 5)
  have I9 : S85.I o1 9 = (24 : Int32) := (by rw [← hS85, sI_I (by rintro ⟨e1, e2⟩; exact absurd e2 (by decide))]; rw [← hS81, sI_eq])
  have I10 : S85.I o1 10 = (60 : Int32) := (by rw [← hS85, sI_eq])
  have tt : stp ([] : List (Nat × Nat)) [o1] R S S85 := t87.un (okAt.of_9 oo.2.1 ⟨(by rw [f_of ((xe12.tr (xe16.tr (xe21.tr (xe25.tr (xe30.tr (xe38.tr (xe42.tr (xe47.tr (xe55.tr (xe58.tr (xe63.tr (xe73.tr (xe77.tr (xe82.tr xe86)))))))))))))).F ((xe3.tr xe7).A h_o1) (by decide) F9)]; exact ⟨((xe12.tr (xe16.tr (xe21.tr (xe25.tr (xe30.tr (xe38.tr (xe42.tr (xe47.tr (xe55.tr (xe58.tr (xe63.tr (xe73.tr (xe77.tr (xe82.tr xe86)))))))))))))).F ((xe3.tr xe7).A h_o1) (by decide) F9), ((xe7.tr (xe12.tr (xe16.tr (xe21.tr (xe25.tr (xe30.tr (xe38.tr (xe42.tr (xe47.tr (xe55.tr (xe58.tr (xe63.tr (xe73.tr (xe77.tr (xe82.tr xe86))))))))))))))).A aqa1), (((xe7.tr (xe12.tr (xe16.tr (xe21.tr (xe25.tr (xe30.tr (xe38.tr (xe42.tr (xe47.tr (xe55.tr (xe58.tr (xe63.tr (xe73.tr (xe77.tr (xe82.tr xe86))))))))))))))).n aqa1).trans nqa1)⟩), (by rw [f_of ((xe21.tr (xe25.tr (xe30.tr (xe38.tr (xe42.tr (xe47.tr (xe55.tr (xe58.tr (xe63.tr (xe73.tr (xe77.tr (xe82.tr xe86)))))))))))).F ((xe3.tr (xe7.tr (xe12.tr xe16))).A h_o1) (by decide) F18)]; exact ⟨((xe21.tr (xe25.tr (xe30.tr (xe38.tr (xe42.tr (xe47.tr (xe55.tr (xe58.tr (xe63.tr (xe73.tr (xe77.tr (xe82.tr xe86)))))))))))).F ((xe3.tr (xe7.tr (xe12.tr xe16))).A h_o1) (by decide) F18), ((xe16.tr (xe21.tr (xe25.tr (xe30.tr (xe38.tr (xe42.tr (xe47.tr (xe55.tr (xe58.tr (xe63.tr (xe73.tr (xe77.tr (xe82.tr xe86))))))))))))).A aqa10), (((xe16.tr (xe21.tr (xe25.tr (xe30.tr (xe38.tr (xe42.tr (xe47.tr (xe55.tr (xe58.tr (xe63.tr (xe73.tr (xe77.tr (xe82.tr xe86))))))))))))).n aqa10).trans nqa10)⟩), (by rw [f_of ((xe30.tr (xe38.tr (xe42.tr (xe47.tr (xe55.tr (xe58.tr (xe63.tr (xe73.tr (xe77.tr (xe82.tr xe86)))))))))).F ((xe3.tr (xe7.tr (xe12.tr (xe16.tr (xe21.tr xe25))))).A h_o1) (by decide) F27)]; exact ⟨((xe30.tr (xe38.tr (xe42.tr (xe47.tr (xe55.tr (xe58.tr (xe63.tr (xe73.tr (xe77.tr (xe82.tr xe86)))))))))).F ((xe3.tr (xe7.tr (xe12.tr (xe16.tr (xe21.tr xe25))))).A h_o1) (by decide) F27), ((xe25.tr (xe30.tr (xe38.tr (xe42.tr (xe47.tr (xe55.tr (xe58.tr (xe63.tr (xe73.tr (xe77.tr (xe82.tr xe86))))))))))).A aqa19), (((xe25.tr (xe30.tr (xe38.tr (xe42.tr (xe47.tr (xe55.tr (xe58.tr (xe63.tr (xe73.tr (xe77.tr (xe82.tr xe86))))))))))).n aqa19).trans nqa19)⟩), (by rw [f_of ((xe47.tr (xe55.tr (xe58.tr (xe63.tr (xe73.tr (xe77.tr (xe82.tr xe86))))))).F ((xe3.tr (xe7.tr (xe12.tr (xe16.tr (xe21.tr (xe25.tr (xe30.tr (xe38.tr xe42)))))))).A h_o1) (by decide) F44)]; exact ⟨((xe47.tr (xe55.tr (xe58.tr (xe63.tr (xe73.tr (xe77.tr (xe82.tr xe86))))))).F ((xe3.tr (xe7.tr (xe12.tr (xe16.tr (xe21.tr (xe25.tr (xe30.tr (xe38.tr xe42)))))))).A h_o1) (by decide) F44), ((xe42.tr (xe47.tr (xe55.tr (xe58.tr (xe63.tr (xe73.tr (xe77.tr (xe82.tr xe86)))))))).A (xe38.A aqa28))⟩), (by rw [f_of ((xe63.tr (xe73.tr (xe77.tr (xe82.tr xe86)))).F ((xe3.tr (xe7.tr (xe12.tr (xe16.tr (xe21.tr (xe25.tr (xe30.tr (xe38.tr (xe42.tr (xe47.tr (xe55.tr xe58))))))))))).A h_o1) (by decide) F60)]; exact ⟨((xe63.tr (xe73.tr (xe77.tr (xe82.tr xe86)))).F ((xe3.tr (xe7.tr (xe12.tr (xe16.tr (xe21.tr (xe25.tr (xe30.tr (xe38.tr (xe42.tr (xe47.tr (xe55.tr xe58))))))))))).A h_o1) (by decide) F60), ((xe58.tr (xe63.tr (xe73.tr (xe77.tr (xe82.tr xe86))))).A (xe55.A aqa45))⟩), (by rw [f_of ((xe82.tr xe86).F ((xe3.tr (xe7.tr (xe12.tr (xe16.tr (xe21.tr (xe25.tr (xe30.tr (xe38.tr (xe42.tr (xe47.tr (xe55.tr (xe58.tr (xe63.tr (xe73.tr xe77)))))))))))))).A h_o1) (by decide) F79)]; exact ⟨((xe82.tr xe86).F ((xe3.tr (xe7.tr (xe12.tr (xe16.tr (xe21.tr (xe25.tr (xe30.tr (xe38.tr (xe42.tr (xe47.tr (xe55.tr (xe58.tr (xe63.tr (xe73.tr xe77)))))))))))))).A h_o1) (by decide) F79), ((xe77.tr (xe82.tr xe86)).A (xe73.A aqa61))⟩), (by rw [I1]; exact ⟨by decide, by decide⟩), (by rw [I3]; exact ⟨by decide, by decide⟩), (by rw [I5]; exact ⟨by decide, by decide⟩), (fun i hi => absurd hi (by rw [I1]; exact not0 i)), (fun i hi => absurd hi (by rw [I3]; exact not0 i)), (fun i hi => absurd hi (by rw [I5]; exact not0 i))⟩)
  refine W.widen (k := 18) (n := 925) (Nat.le_of_ble_eq_true rfl) (Nat.le_of_ble_eq_true rfl) ?_
  exact W.vret hx hb hr (fun t ht hW9 => ⟨⟨S85, rfl, ⟨tt, oo, I1, I3, I5, I9, I10, (by rw [f_of (((xe47.tr (xe55.tr (xe58.tr (xe63.tr (xe73.tr (xe77.tr (xe82.tr xe86))))))).F ((xe3.tr (xe7.tr (xe12.tr (xe16.tr (xe21.tr (xe25.tr (xe30.tr (xe38.tr xe42)))))))).A h_o1) (by decide) F44))]; exact (by rw [← hS85, sI_no (fun e1 : qa28 = o1 => hqa28 (by rw [e1]; exact ((xe3.tr (xe7.tr (xe12.tr (xe16.tr (xe21.tr xe25))))).A h_o1).1))]; rw [← hS81, sI_no (fun e1 : qa28 = o1 => hqa28 (by rw [e1]; exact ((xe3.tr (xe7.tr (xe12.tr (xe16.tr (xe21.tr xe25))))).A h_o1).1))]; rw [← hS76]; show S71.I qa28 2 = _; rw [((w66.fR qa28 ((xe42.tr (xe47.tr (xe55.tr (xe58.tr xe63)))).A (xe38.A aqa28)).1 (by rw [List.mem_singleton]; exact fun e => hqa61 (e ▸ ((xe42.tr (xe47.tr (xe55.tr xe58))).A (xe38.A aqa28)).1))).1 2 (by rw [((xe42.tr (xe47.tr (xe55.tr (xe58.tr xe63)))).A (xe38.A aqa28)).2.1]; decide)).1]; rw [← hS62, nw_Io hqa61 ((xe42.tr (xe47.tr (xe55.tr xe58))).A (xe38.A aqa28)).1]; rw [← hS57]; show S53.I qa28 2 = _; rw [((w50.fR qa28 ((xe42.tr xe47).A (xe38.A aqa28)).1 (by rw [List.mem_singleton]; exact fun e => hqa45 (e ▸ (xe42.A (xe38.A aqa28)).1))).1 2 (by rw [((xe42.tr xe47).A (xe38.A aqa28)).2.1]; decide)).1]; rw [← hS46, nw_Io hqa45 (xe42.A (xe38.A aqa28)).1]; rw [← hS41]; show S36.I qa28 2 = _; exact y35))⟩, wd_end hP hK hD ht hW9.alike⟩, hS.F ht⟩) hS.2.2 dX9_init_76 hlocks
def f_X9_route (S : wPS) (o1 : Nat) (x1 : Int32) (x2 : Int32) : Except String (Int32 × wPS) := eB (f_X9_gearAt S o1 x1) (fun r2 => eB (f_X9_needKind x2) (fun _ => if (f_J4_length_8abf5 S (S.f r2 6)) < (8 : Int32) then l2 (f_J4_append_cf468 S (S.f r2 6) x2) (fun r19 S24 => .ok (f_J4_length_8abf5 S24 (S.f r2 6), S24)) else .error "java/lang/IllegalStateException"))
set_option maxRecDepth 20000 in
theorem s_X9_route_ISE : ∀ w ∈ (vx_atS RX9 71 "java/lang/IllegalStateException" ["java/lang/RuntimeException", "java/lang/Exception"]).filter goodWord, w ∈ wsX9_route := fun w h => List.mem_cons_of_mem _ (List.mem_append_left _ (List.mem_append_left _ (List.mem_append_right _ h)))
theorem hi_X9_route_X2 : ∀ w ∈ u_ws RX2 TX2 20, w ∈ wsX9_route := by decide +kernel
theorem hd_X9_route : yX9_route.cls = RX9 ∧ yX9_route.cls ≠ "java/lang/invoke/MethodHandle" ∧ yX9_route.cls ≠ "java/lang/invoke/VarHandle" ∧ (parseMethodDescriptor yX9_route.desc).map (fun d => d.parameters.length) = some 2 := by decide +kernel
set_option maxHeartbeats 4000000 in
set_option maxRecDepth 100000 in
theorem c_X9_route (l : Launch) (hst : l.stackTraces = false) {e0 mi : Nat} {D : va_G} {cy : Nat → ClassId} {X : va_W} (S : wPS) (sz : Nat) (o1 : Nat) (h_o1 : isA S o1 9) (x1 : Int32) (x2 : Int32) (hW : wtB S [])  : vx_Met l yX9_route wsX9_route ({ frames := 7, cells := 3, slots := 18, locals := 103 }) (va_Pc [.ref o1, .int x1, .int x2] (fun U => U.heap.size = sz ∧ WD D cy X (fun _ => True) S U ∧ NW U ∧ TH (va_A (X ++ PL cy S) sz) U ∧ OU e0 mi (va_A (X ++ PL cy S) sz) U U.heap)) (va_Qi (fun r (u : wPS) => f_X9_route S o1 x1 x2 = .ok (r, u) ∧ stp [(13, 3), (15, 100)] [] [] S u) (fun u t => WD D cy X (va_A (X ++ PL cy S) sz) u t) (va_A (X ++ PL cy S) sz)) (vx_X (fun (u : wPS) => stp [(13, 3), (15, 100)] [] [] S u) (fun E u t => f_X9_route S o1 x1 x2 = .error E ∧ E ∈ ["java/lang/IllegalArgumentException", "java/lang/IllegalStateException", "java/lang/IndexOutOfBoundsException"] ∧ u = S ∧ WD D cy X (va_A (X ++ PL cy S) sz) u t) (va_A (X ++ PL cy S) sz)) 3 18 (va_A (X ++ PL cy S) sz) := by
  refine vx_ofW (cc := cX9_route) (maxL := 4) (ret := (some .int)) (by decide) rfl ?_
  intro p e s m args below meth c s₁ B hml hno hv
  obtain ⟨rfl, hsz, ⟨hP, hK, hD0⟩, hN, hTH, hOU⟩ := hv
  have hx := B.exec
  have hb := B.bytes
  have hr := B.returns
  have hts := atoms_spec (ws := wsX9_route) B.pre
  have hown : s.vm.findClass RX9 = some m.cls := findClass_of_methodNamed (x := yX9_route) B.named
  have hlocks := B.notSynchronized
  subst hsz
  have hD := hD0.self (sz := s.heap.size)
  generalize hAe : va_A (X ++ PL cy S) s.heap.size = A at hD hTH hOU ⊢
  have hA : ∀ q : Nat, s.heap.size ≤ q → A q := fun q h => by rw [← hAe]; exact Or.inr h
  have hS : va_S A s.heap s.heap [] := va_S.rf
  have hl := lv_entry ([.ref o1, .int x1, .int x2]) (n := 4) (Nat.le_of_ble_eq_true rfl)
  rw [lg_entry_eq]
  generalize (lg_sl ([.ref o1, .int x1, .int x2]) ++ List.replicate (4 - (lg_sl ([.ref o1, .int x1, .int x2])).length) Slot.unset).toArray = ls at hl ⊢
  have hl : lv_has ls 4 [(0, .ref o1), (1, .int x1), (2, .int x2)] := hl
  obtain ⟨⟨ga, gZ, gX, gl, gA⟩, ⟨sa9, sZ, sX, sl9, sA⟩, cZ, eZ, eX, el, eA, hMi, hDc, ⟨pf, pZ⟩⟩ := id hOU
  have t0 : stp [(13, 3), (15, 100)] [] [] S S := stp.rf hW
  refine lv_aload_n hx hb dX9_route_0 rfl (lv_at hl 0 rfl) ?_
  refine lv_iload_n hx hb dX9_route_1 rfl (lv_at hl 1 rfl) ?_
  have hFc := free_all hD hS hA
  obtain ⟨k1, gk1, hk1⟩ := wGt (cy := cy) X S h_o1.1 h_o1.2.1
  refine vx_callq (vx_runV (As := [.int x1]) (rest := []) ⟨hx, hb, hml, hown, hts⟩ (c_X9_gearAt l hst (cy := cy) (X := X) (D := D) S _ o1 h_o1 x1 (hW)) (cwV 1 hts gX9_route_X9_gearAt rfl rfl rfl hd_X9_gearAt ⟨Nat.le_of_ble_eq_true rfl, Nat.le_of_ble_eq_true rfl⟩) (pVt (va_recv hK hP (q := (RX9, TX9, 11)) (ci := 13) (q0 := k1) rfl hk1) hP hK hD hN hTH hS hFc) rfl rfl hl.1 rfl (lv_room (Nat.le_of_ble_eq_true rfl)) dX9_route_2 ⟨Nat.le_of_ble_eq_true rfl, Nat.le_of_ble_eq_true rfl⟩) hS (fun q _ h => hFc q h) hFc (fun q _ h => hFc q h) (fun E ce q9 u t H1 locs ht hvm hw hB hz1 hk1 hS hq9 hce hcl => ?_) (fun r2 u t H1 locs ht hvm hw hB hz1 hk1 hS => ?_)
  · obtain ⟨c3, hEc3, hB2⟩ := hB
    obtain ⟨hP, hD⟩ := wd_post hFc ht hB2
    exact vx_out (fun x h => (hno x h).elim) hlocks hq9 hce hcl (fun t2 ht2 hA2 => ⟨S, t0, ⟨(by show f_X9_route S o1 x1 x2 = .error E; unfold f_X9_route; rw [eB_er c3]), (el_in (by decide) hEc3), rfl, wd_end hP hK hD ht2 hA2⟩, hS.F ht2⟩) hS.2.2 (Nat.le_of_ble_eq_true rfl) (Nat.le_of_ble_eq_true rfl)
  · obtain ⟨r2, rfl, c4, o5⟩ := hw
    obtain ⟨hP, hD⟩ := wd_post hFc ht hB
    generalize H1 = H at hP hS ⊢
    refine W.eq (g2 := F0 m 5 ls [.ref r2]) rfl ?_
    refine lv_astore_n (lv' := [(3, .ref r2), (0, .ref o1), (1, .int x1), (2, .int x2)]) hx hb dX9_route_5 rfl hl (by decide) rfl (fun ls hl => ?_)
    refine lv_iload_n hx hb dX9_route_6 rfl (lv_at hl 3 rfl) ?_
    have hFc := free_all hD hS hA
    refine vx_callv (vx_runS (As := [.int x2]) (rest := []) ⟨hx, hb, hml, hown, hts⟩ (c_X9_needKind l hst (cy := cy) (X := X) (D := D) S _ x2) (cwS 1 hts gX9_route_X9_needKind rfl rfl rfl hd_X9_needKind ⟨Nat.le_of_ble_eq_true rfl, Nat.le_of_ble_eq_true rfl⟩) (pSt hP hK hD hN hTH hS hFc) rfl rfl hl.1 rfl (lv_room (Nat.le_of_ble_eq_true rfl)) dX9_route_7 ⟨Nat.le_of_ble_eq_true rfl, Nat.le_of_ble_eq_true rfl⟩) hS (fun q _ h => hFc q h) hFc (fun q _ h => hFc q h) (fun E ce q9 u t H1 locs ht hvm hw hB hz1 hk1 hS hq9 hce hcl => ?_) (fun u t H1 locs ht hvm hw hB hz1 hk1 hS => ?_)
    · obtain ⟨c7, hEc7, hB2⟩ := hB
      obtain ⟨hP, hD⟩ := wd_post hFc ht hB2
      exact vx_out (fun x h => (hno x h).elim) hlocks hq9 hce hcl (fun t2 ht2 hA2 => ⟨S, t0, ⟨(by show f_X9_route S o1 x1 x2 = .error E; unfold f_X9_route; rw [eB_ok c4, eB_er c7]), (el_in (by decide) hEc7), rfl, wd_end hP hK hD ht2 hA2⟩, hS.F ht2⟩) hS.2.2 (Nat.le_of_ble_eq_true rfl) (Nat.le_of_ble_eq_true rfl)
    · have c8 := hw
      obtain ⟨hP, hD⟩ := wd_post hFc ht hB
      generalize H1 = H at hP hS ⊢
      refine lv_aload_n hx hb dX9_route_10 rfl (lv_at hl 0 rfl) ?_
      have F9 := ((hW.at o5 List.not_mem_nil).to_2 o5.2.1).F6
      obtain ⟨k10, gk10, hk10⟩ := wGt (cy := cy) X S o5.1 o5.2.1
      simp only [kE, F9.1] at hk10
      refine va_get (D := D) (ci := 6) (v := .ref (S.f r2 6)) (C := RX2) (T := TX2) (N := 20) hx hb hts hi_X9_route_X2 hown hK hP k10 hk10 rfl 6 (by decide) (hts (.fieldLink RX9 439 "Hobhouse$Gear" "way" "Ljava/lang/StringBuilder;") (by decide +kernel)) (fun _ h9 => h9) rfl dX9_route_11 ?_
      have hFc := free_all hD hS hA
      obtain ⟨k11, gk11, hk11⟩ := wGt (cy := cy) X S F9.2.1 F9.2.2.1
      refine va_calli (va_runV (As := []) (rest := []) ⟨hx, hb, hml, hown, hts⟩ (c_J4_length_8abf5 l (cy := cy) (X := X) (D := D) S _ (S.f r2 6) F9.2) (cwV 0 hts gX9_route_J4_length_8abf5 rfl rfl rfl hd_J4_length_8abf5 ⟨Nat.le_of_ble_eq_true rfl, Nat.le_of_ble_eq_true rfl⟩) (pV (va_recv hK hP (q := (RJ4, TJ4, 4)) (ci := 1) (q0 := k11) rfl hk11) hP hK hD hN) rfl rfl hl.1 rfl (lv_room (Nat.le_of_ble_eq_true rfl)) dX9_route_14 ⟨Nat.le_of_ble_eq_true rfl, Nat.le_of_ble_eq_true rfl⟩) hS (fun q _ h => hFc q h) hFc (fun r12 u t H1 locs ht hvm hw hB hz1 hk1 hS => ?_)
      have c13 := hw
      obtain ⟨hP, hD⟩ := wd_post hFc ht hB
      generalize H1 = H at hP hS ⊢
      obtain rfl : f_J4_length_8abf5 S (S.f r2 6) = r12 := c13.symm
      have i14 : (f_J4_length_8abf5 S (S.f r2 6)).toInt = (S.I (S.f r2 6) 3).toInt := rfl
      have i15 := ((hW.at F9.2 List.not_mem_nil).to_13 F9.2.2.1).R3
      refine lv_bipush (v := 8) hx hb dX9_route_17 (by decide +kernel) ?_
      refine lv_icmp_lt (tgt := 33) hx hb dX9_route_19 (by decide) (fun c16 => ?_) (fun c16 => ?_)
      · have c16i : (f_J4_length_8abf5 S (S.f r2 6)).toInt < 8 := lt_v rfl rfl c16
        refine lv_aload_n hx hb dX9_route_33 rfl (lv_at hl 0 rfl) ?_
        obtain ⟨k17, gk17, hk17⟩ := wGt (cy := cy) X S o5.1 o5.2.1
        simp only [kE, F9.1] at hk17
        refine va_get (D := D) (ci := 6) (v := .ref (S.f r2 6)) (C := RX2) (T := TX2) (N := 20) hx hb hts hi_X9_route_X2 hown hK hP k17 hk17 rfl 6 (by decide) (hts (.fieldLink RX9 439 "Hobhouse$Gear" "way" "Ljava/lang/StringBuilder;") (by decide +kernel)) (fun _ h9 => h9) rfl dX9_route_34 ?_
        refine lv_iload_n hx hb dX9_route_37 rfl (lv_at hl 3 rfl) ?_
        have hk9 := nk_rng c8
        have hFc := free_all hD hS hA
        obtain ⟨k18, gk18, hk18⟩ := wGt (cy := cy) X S F9.2.1 F9.2.2.1
        refine va_callq (va_runV (As := [.int x2]) (rest := []) ⟨hx, hb, hml, hown, hts⟩ (c_J4_append_cf468 l (e0 := e0) (mi := mi) (cy := cy) (X := X) (D := D) S _ (S.f r2 6) F9.2 x2 (hW) (by omega) (by omega)) (cwV 1 hts gX9_route_J4_append_cf468 rfl rfl rfl hd_J4_append_cf468 ⟨Nat.le_of_ble_eq_true rfl, Nat.le_of_ble_eq_true rfl⟩) (pVo (va_recv hK hP (q := (RJ4, TJ4, 4)) (ci := 1) (q0 := k18) rfl hk18) hP hK hD hN hOU hS hFc) rfl rfl hl.1 rfl (lv_room (Nat.le_of_ble_eq_true rfl)) dX9_route_38 ⟨Nat.le_of_ble_eq_true rfl, Nat.le_of_ble_eq_true rfl⟩) hS (fun q _ h => hFc q h) hFc (fun r19 u t H1 locs ht hvm hw hB hz1 hk1 hS => ?_)
        obtain ⟨r19, rfl, c20, w21, y22, o23⟩ := hw
        obtain ⟨hP, hD⟩ := wd_post hFc ht hB
        generalize H1 = H at hP hS ⊢
        obtain ⟨S24, rfl⟩ : ∃ z, z = u := ⟨_, rfl⟩
        have t25 : stp [(13, 3), (15, 100)] [] [] S S24 := t0.tr w21 (by decide) (fun _ q => absurd q List.not_mem_nil)
        have xe26 : ext S S24 := w21.x
        refine W.eq (g2 := F0 m 41 ls [.ref r19]) rfl ?_
        refine lv_pop hx hb dX9_route_41 rfl ?_
        refine lv_aload_n hx hb dX9_route_42 rfl (lv_at hl 0 rfl) ?_
        obtain ⟨k27, gk27, hk27⟩ := wGt (cy := cy) X S24 (xe26.A o5).1 (xe26.A o5).2.1
        simp only [kE, (xe26.F o5 (by decide) F9.1)] at hk27
        refine va_get (D := D) (ci := 6) (v := .ref (S.f r2 6)) (C := RX2) (T := TX2) (N := 20) hx hb hts hi_X9_route_X2 hown hK hP k27 hk27 rfl 6 (by decide) (hts (.fieldLink RX9 439 "Hobhouse$Gear" "way" "Ljava/lang/StringBuilder;") (by decide +kernel)) (fun _ h9 => h9) rfl dX9_route_43 ?_
        have hFc := free_all hD hS hA
        obtain ⟨k28, gk28, hk28⟩ := wGt (cy := cy) X S24 (xe26.A F9.2).1 (xe26.A F9.2).2.1
        refine va_calli (va_runV (As := []) (rest := []) ⟨hx, hb, hml, hown, hts⟩ (c_J4_length_8abf5 l (cy := cy) (X := X) (D := D) S24 _ (S.f r2 6) (xe26.A F9.2)) (cwV 0 hts gX9_route_J4_length_8abf5 rfl rfl rfl hd_J4_length_8abf5 ⟨Nat.le_of_ble_eq_true rfl, Nat.le_of_ble_eq_true rfl⟩) (pV (va_recv hK hP (q := (RJ4, TJ4, 4)) (ci := 1) (q0 := k28) rfl hk28) hP hK hD hN) rfl rfl hl.1 rfl (lv_room (Nat.le_of_ble_eq_true rfl)) dX9_route_46 ⟨Nat.le_of_ble_eq_true rfl, Nat.le_of_ble_eq_true rfl⟩) hS (fun q _ h => hFc q h) hFc (fun r29 u t H1 locs ht hvm hw hB hz1 hk1 hS => ?_)
        have c30 := hw
        obtain ⟨hP, hD⟩ := wd_post hFc ht hB
        generalize H1 = H at hP hS ⊢
        obtain rfl : f_J4_length_8abf5 S24 (S.f r2 6) = r29 := c30.symm
        have i31 : (f_J4_length_8abf5 S24 (S.f r2 6)).toInt = (S24.I (S.f r2 6) 3).toInt := rfl
        have i32 := ((t25.w.at (xe26.A F9.2) List.not_mem_nil).to_13 (xe26.A F9.2).2.1).R3
        refine vx_ret ?_
        refine W.widen (k := 3) (n := 18) (Nat.le_of_ble_eq_true rfl) (Nat.le_of_ble_eq_true rfl) ?_
        exact W.iret (v := f_J4_length_8abf5 S24 (S.f r2 6)) hx hb hr (fun t ht hW9 => ⟨⟨f_J4_length_8abf5 S24 (S.f r2 6), S24, rfl, ⟨(by show f_X9_route S o1 x1 x2 = .ok (f_J4_length_8abf5 S24 (S.f r2 6), S24); unfold f_X9_route; rw [eB_ok c4, eB_ok c8, if_pos c16, l2_eq c20.symm]), t25⟩, wd_end hP hK hD ht hW9.alike⟩, hS.F ht⟩) hS.2.2 dX9_route_49 hlocks
      · have c16i : 8 ≤ (f_J4_length_8abf5 S (S.f r2 6)).toInt := nlt_v rfl rfl c16
        obtain ⟨sa, hsa⟩ := hTH.2.2 (RX9, 448, "the route has 8 kinds") (by decide +kernel)
        exact vx_throwSW hx hb hst (names := ["java/lang/RuntimeException", "java/lang/Exception"]) hown (by decide +kernel) (by decide +kernel) (hts (.classLink RX9 67 "java/lang/IllegalStateException") (by decide +kernel)) (hts (.initialized "java/lang/IllegalStateException") (by decide +kernel)) hsa (th_at (B := exW_X9_ISE) (fun w h => hts w (s_X9_route_ISE w h)) rfl (by simp only [exW, List.mem_append]; intro w h; simp [h]) hTH.2.1) (List.forall_mem_cons.mpr ⟨by decide +kernel, List.forall_mem_cons.mpr ⟨by decide +kernel, exW_X9_ISE_ok⟩⟩) hTH.1.1 hTH.1.2 hS (hl.1.trans hml.symm) dX9_route_22 dX9_route_25 dX9_route_26 dX9_route_29 dX9_route_32 (fun x h => (hno x h).elim) (Nat.le_of_ble_eq_true rfl) (Nat.le_of_ble_eq_true rfl) (Nat.le_of_ble_eq_true rfl) (Nat.le_of_ble_eq_true rfl) hlocks (fun t hA2 h1 h2 => ⟨S, t0, ⟨(by show f_X9_route S o1 x1 x2 = .error "java/lang/IllegalStateException"; unfold f_X9_route; rw [eB_ok c4, eB_ok c8, if_neg c16]), (by decide), rfl, wd_exc hP hK hD hA2 h2⟩, exc_F hS h1 h2⟩) hS.2.2 (Nat.le_of_ble_eq_true rfl) (Nat.le_of_ble_eq_true rfl)
