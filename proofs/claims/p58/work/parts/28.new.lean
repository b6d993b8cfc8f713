theorem fl_q {S U : wPS} {o : Nat} {n r : Int32} (h : (r, U) = f_X12_fails S o n) : r.toInt = 0 ∧ (U.I o 15).toInt = n.toInt := by
  obtain ⟨rfl, rfl⟩ := Prod.mk.inj h
  exact ⟨rfl, congrArg Int32.toInt sI_eq⟩
theorem aw_q {S U : wPS} {o : Nat} {x r : Int32} (h : (r, U) = f_X12_answer S o x) : r.toInt = x.toInt ∧ (U.I o 15).toInt = 0 := by
  obtain ⟨rfl, rfl⟩ := Prod.mk.inj h
  exact ⟨rfl, congrArg Int32.toInt sI_eq⟩
theorem al_new {S S1 S2 S3 : wPS} {q l k z : Nat} {f : Nat → Int32} {g : Nat → Option Nat} {W : List (Nat × Nat)} {R : List Nat} (hq : q ∉ S.L) (e1 : S.nw q k z f g = S1) (w : stp W [q] R S1 S2) (hl : isA S l 14) (hn : S.n l = k) (hw1 : (114, k) ∉ W) (hw2 : (122, k) ∉ W) (hok : ok_14 S l) (A : ∃ a : Nat, S3.F l 1 = some a ∧ isA S3 a 22 ∧ S3.r a (S2.I l 2).toNatClampNeg = some q ∧ ∀ i : Nat, (i : Int) < (S2.I l 2).toInt → S3.r a i = S2.r (S2.f l 1) i) : ∃ a : Nat, S3.F l 1 = some a ∧ isA S3 a 22 ∧ S3.r a (S.I l 2).toNatClampNeg = some q ∧ ∀ i : Nat, (i : Int) < (S.I l 2).toInt → S3.r a i = S.r (S.f l 1) i := by
  subst e1
  have hlq : l ≠ q := fun e => hq (e ▸ hl.1)
  have hl1 : isA (S.nw q k z f g) l 14 := (ext.nw hq).A hl
  have nl := w.2.2.2.2.2 l hl1.1 (by rw [List.mem_singleton]; exact hlq)
  have n2 : (S.nw q k z f g).n l = k := ((ext.nw hq).n hl).trans hn
  rcases (nl.1 hl1.2.1).2 with w9 | ⟨i2, f2⟩
  · rw [n2] at w9; exact absurd w9 hw1
  · have I2 : S2.I l 2 = S.I l 2 := i2.trans (nw_Io hq hl.1)
    have F2 : S2.F l 1 = S.F l 1 := (congrFun f2 1).trans (nw_Fo hq hl.1)
    have f1 : S2.f l 1 = S.f l 1 := by unfold wPS.f; rw [F2]
    obtain ⟨a, a1, a0, a2, a3⟩ := A
    rw [I2] at a2 a3
    refine ⟨a, a1, a0, a2, fun i hi => (a3 i hi).trans ?_⟩
    rw [f1]
    rcases hok with ⟨-, z9⟩ | ⟨b1, b2, -, b4, -, -, -⟩
    · omega
    · have hrq : S.f l 1 ≠ q := fun e => hq (e ▸ b2.1)
      have b5 : isA (S.nw q k z f g) (S.f l 1) 22 := (ext.nw hq).A b2
      have b6 : (S.nw q k z f g).F (S.f l 1) 0 = some k := by rw [nw_Fo hq b2.1, b4, hn]
      rcases (w.2.2.2.2.2 _ b5.1 (by rw [List.mem_singleton]; exact hrq)).2 b5.2.1 k b6 with w9 | w9
      · exact absurd w9 hw2
      · exact (congrFun w9 i).trans (congrFun (up_nq (f := S.r) hrq) i)
theorem hi_X10_init_X10 : ∀ w ∈ u_ws RX10 TX10 23, w ∈ wsX10_init := by decide +kernel
set_option maxHeartbeats 4000000 in
set_option maxRecDepth 100000 in
theorem c_X10_init (l : Launch) {D : va_G} {cy : Nat → ClassId} {X : va_W} (S : wPS) (sz : Nat) (o1 : Nat) (h_o1 : isA S o1 10) (x1 : Int32) (x2 : Int32) (x3 : Int32) (x4 : Int32) (x5 : Int32) (R : List Nat) (hW : wtB S (o1 :: R)) (hF0 : ∀ j, S.F o1 j = none) (hI0 : ∀ j, S.I o1 j = 0) (hr : (6 ≤ x2.toInt ∧ x2.toInt ≤ 200) ∧ (500 ≤ x3.toInt ∧ x3.toInt ≤ 10000) ∧ (-500 ≤ x4.toInt ∧ x4.toInt ≤ 500) ∧ 1000 ≤ x5.toInt ∧ x5.toInt ≤ 99999) : Met l yX10_init wsX10_init ({ frames := 1, cells := 2, slots := 208, locals := 12 }) (va_Pc [.ref o1, .int x1, .int x2, .int x3, .int x4, .int x5] (fun U => U.heap.size = sz ∧ WD D cy X (fun _ => True) S U ∧ NW U)) (va_Qv (fun (u : wPS) => stp ([] : List (Nat × Nat)) [o1] R S u ∧ isA u o1 10 ∧ u.I o1 0 = x1 ∧ u.I o1 1 = x2 ∧ u.I o1 2 = x3 ∧ u.I o1 3 = x4 ∧ u.I o1 4 = x5 ∧ u.I o1 7 = (0 : Int32) ∧ u.I o1 8 = (-1 : Int32) ∧ u.I o1 9 = (0 : Int32) ∧ u.I o1 10 = (0 : Int32) ∧ u.I o1 11 = (0 : Int32) ∧ u.I o1 12 = (0 : Int32) ∧ u.I o1 13 = (0 : Int32) ∧ u.I o1 14 = (0 : Int32) ∧ u.I o1 15 = (0 : Int32) ∧ u.I o1 16 = (-1 : Int32) ∧ u.I o1 17 = (0 : Int32) ∧ u.I o1 18 = (0 : Int32) ∧ u.I o1 19 = (0 : Int32) ∧ u.I o1 20 = (0 : Int32) ∧ u.I o1 21 = (0 : Int32) ∧ u.f o1 6 ∉ S.L ∧ (∀ i : Nat, u.i (u.f o1 6) i = 0)) (fun u t => WD D cy X (va_A (X ++ PL cy S) sz) u t) (va_A (X ++ PL cy S) sz)) 2 208 (va_A (X ++ PL cy S) sz) := by
  refine Met.ofW (cc := cX10_init) (maxL := 6) (ret := none) (by decide) rfl ?_
  intro p e s m args below meth c s₁ B hml hv
  obtain ⟨rfl, hsz, ⟨hP, hK, hD0⟩, hN⟩ := hv
  have hx := B.exec
  have hb := B.bytes
  have hr := B.returns
  have hts := atoms_spec (ws := wsX10_init) B.pre
  have hown : s.vm.findClass RX10 = some m.cls := findClass_of_methodNamed (x := yX10_init) B.named
  have hlocks := B.notSynchronized
  have hin : meth.name = "<init>" := (name_of_methodNamed B.named B.method).1
  subst hsz
  have hD := hD0.self (sz := s.heap.size)
  generalize hAe : va_A (X ++ PL cy S) s.heap.size = A at hD ⊢
  have hA : ∀ q : Nat, s.heap.size ≤ q → A q := fun q h => by rw [← hAe]; exact Or.inr h
  have hS : va_S A s.heap s.heap [] := va_S.rf
  have hl := lv_entry ([.ref o1, .int x1, .int x2, .int x3, .int x4, .int x5]) (n := 6) (Nat.le_of_ble_eq_true rfl)
  rw [lg_entry_eq]
  generalize (lg_sl ([.ref o1, .int x1, .int x2, .int x3, .int x4, .int x5]) ++ List.replicate (6 - (lg_sl ([.ref o1, .int x1, .int x2, .int x3, .int x4, .int x5])).length) Slot.unset).toArray = ls at hl ⊢
  have hl : lv_has ls 6 [(0, .ref o1), (1, .int x1), (2, .int x2), (3, .int x3), (4, .int x4), (5, .int x5)] := hl
  have t0 : stp ([] : List (Nat × Nat)) [o1] (o1 :: R) S S := stp.rf hW
  refine lv_aload_n hx hb dX10_init_0 rfl (lv_at hl 0 rfl) ?_
  refine W.objInit hx hb hown (hts (.methodLink RX10 3 objectInit) (by decide +kernel)) (hts (.instanceMethod objectInit) (by decide +kernel)) (hts (.code objectInit ⟨#[0xb1]⟩ 1 none) (by decide +kernel)) rfl (by rw [hml]; exact hl.1) rfl dX10_init_1 (Nat.le_of_ble_eq_true rfl) (Nat.le_of_ble_eq_true rfl) ?_
  refine W.eq (g2 := F0 m 4 ls []) rfl ?_
  refine lv_aload_n hx hb dX10_init_4 rfl (lv_at hl 0 rfl) ?_
  refine lv_sipush (v := 200) hx hb dX10_init_5 (by decide +kernel) ?_
  refine va_newa (atype := .int) hx hb (hts (.arrayClass .int) (by decide +kernel)) (ty := .int) rfl hK hP hD hS hA (N' := 200) (a0 := (200, .inl (fun _ => 0))) (fun _ => rfl) (by decide) (by decide) (by decide) (Nat.le_of_ble_eq_true rfl) (Nat.le_of_ble_eq_true rfl) dX10_init_8 (fun qa1 cqa1 H hK2 hP2 hD2 hS => ?_)
  obtain rfl : cqa1 = cy 2 := cls_int hK hK2
  have hqa1 : qa1 ∉ S.L := nw_q hD2
  have e9 := wNw (cy := cy) (X := X) (S := S) (a := qa1) (k := 29) (z := 200) (f := fun _ => 0) (g := fun _ => none) hqa1 rfl
  obtain ⟨S2, hS2⟩ : ∃ z, S.nw qa1 29 200 (fun _ => 0) (fun _ => none) = z := ⟨_, rfl⟩
  have hP : va_P D vwCl (X ++ PL cy S2) H := by rw [← hS2, ← e9]; exact hP2
  have hD : va_D A (X ++ PL cy S2) := by rw [← hS2, ← e9]; exact hD2
  have xe3 : ext S S2 := by rw [← hS2]; exact ext.nw hqa1
  have t4 : stp ([] : List (Nat × Nat)) [o1] (o1 :: R) S S2 := by rw [← hS2]; exact t0.nwA hqa1 (by decide)
  refine W.widen (k := 1) (n := 200) (Nat.le_of_ble_eq_true rfl) (Nat.le_of_ble_eq_true rfl) ?_
  have aqa1 : isA S2 qa1 29 := by rw [← hS2]; exact nw_A (by decide)
  have nqa1 : S2.n qa1 = 200 := by rw [← hS2]; exact nw_n
  obtain ⟨k5, gk5, hk5⟩ := wGt (cy := cy) X S2 (xe3.A h_o1).1 (xe3.A h_o1).2.1
  refine va_putF (D := D) (ci := 14) (v := .ref qa1) (ty := (tyX10 5)) (C := RX10) (T := TX10) (N := 23) hx hb hts hi_X10_init_X10 tyX10 tyX10_ok nmX10 hown hK hP hD hS k5 hk5 rfl 5 (by decide) (hts (.fieldLink RX10 9 "HobhouseModel$Gear" "errors" "[I") (by decide +kernel)) (fun _ h9 => h9) rfl hin rfl (by decide +kernel) (rfl) (rfl) (Nat.le_of_ble_eq_true rfl) dX10_init_10 (fun H locs hP2 hD2 hS => ?_)
  have e9 := wPuF (cy := cy) (j := 5) (v := (some qa1)) hD (xe3.A h_o1).1 (xe3.A h_o1).2.1 gk5 rfl
  obtain ⟨S6, hS6⟩ : ∃ z, S2.sF o1 5 (some qa1) = z := ⟨_, rfl⟩
  have hP : va_P D vwCl (X ++ PL cy S6) H := by rw [← hS6, ← e9]; exact hP2
  have hD : va_D A (X ++ PL cy S6) := by rw [← hS6, ← e9]; exact hD2
  have xe7 : ext S2 S6 := by rw [← hS6]; exact ext.sF (by rw [← hS2, nw_Fo hqa1 h_o1.1]; exact hF0 5)
  have t8 : stp ([] : List (Nat × Nat)) [o1] (o1 :: R) S S6 := by rw [← hS6]; exact t4.F 5 qa1 List.mem_cons_self (Or.inl List.mem_cons_self) (by rw [← hS2, nw_Fo hqa1 h_o1.1]; exact hF0 5)
  have F9 : S6.F o1 5 = some qa1 := by rw [← hS6]; exact sF_eq
  refine lv_aload_n hx hb dX10_init_13 rfl (lv_at hl 0 rfl) ?_
  refine lv_bipush (v := 8) hx hb dX10_init_14 (by decide +kernel) ?_
  refine va_newa (atype := .char) hx hb (hts (.arrayClass .char) (by decide +kernel)) (ty := .char) rfl hK hP hD hS hA (N' := 8) (a0 := (8, .inl (fun _ => 0))) (fun _ => rfl) (by decide) (by decide) (by decide) (Nat.le_of_ble_eq_true rfl) (Nat.le_of_ble_eq_true rfl) dX10_init_16 (fun qa10 cqa10 H hK2 hP2 hD2 hS => ?_)
  obtain rfl : cqa10 = cy 1 := cls_char hK hK2
  have hqa10 : qa10 ∉ S6.L := nw_q hD2
  have e9 := wNw (cy := cy) (X := X) (S := S6) (a := qa10) (k := 37) (z := 8) (f := fun _ => 0) (g := fun _ => none) hqa10 rfl
  obtain ⟨S11, hS11⟩ : ∃ z, S6.nw qa10 37 8 (fun _ => 0) (fun _ => none) = z := ⟨_, rfl⟩
  have hP : va_P D vwCl (X ++ PL cy S11) H := by rw [← hS11, ← e9]; exact hP2
  have hD : va_D A (X ++ PL cy S11) := by rw [← hS11, ← e9]; exact hD2
  have xe12 : ext S6 S11 := by rw [← hS11]; exact ext.nw hqa10
  have t13 : stp ([] : List (Nat × Nat)) [o1] (o1 :: R) S S11 := by rw [← hS11]; exact t8.nwA hqa10 (by decide)
  refine W.widen (k := 2) (n := 208) (Nat.le_of_ble_eq_true rfl) (Nat.le_of_ble_eq_true rfl) ?_
  have aqa10 : isA S11 qa10 37 := by rw [← hS11]; exact nw_A (by decide)
  have nqa10 : S11.n qa10 = 8 := by rw [← hS11]; exact nw_n
  have zqa10 : ∀ j9, S11.i qa10 j9 = 0 := by rw [← hS11]; exact fun j9 => congrFun (up_qq (f := S6.i)) j9
  obtain ⟨k14, gk14, hk14⟩ := wGt (cy := cy) X S11 ((xe7.tr xe12).A (xe3.A h_o1)).1 ((xe7.tr xe12).A (xe3.A h_o1)).2.1
  refine va_putF (D := D) (ci := 14) (v := .ref qa10) (ty := (tyX10 6)) (C := RX10) (T := TX10) (N := 23) hx hb hts hi_X10_init_X10 tyX10 tyX10_ok nmX10 hown hK hP hD hS k14 hk14 rfl 6 (by decide) (hts (.fieldLink RX10 15 "HobhouseModel$Gear" "route" "[C") (by decide +kernel)) (fun _ h9 => h9) rfl hin rfl (by decide +kernel) (rfl) (rfl) (Nat.le_of_ble_eq_true rfl) dX10_init_18 (fun H locs hP2 hD2 hS => ?_)
  have e9 := wPuF (cy := cy) (j := 6) (v := (some qa10)) hD ((xe7.tr xe12).A (xe3.A h_o1)).1 ((xe7.tr xe12).A (xe3.A h_o1)).2.1 gk14 rfl
  obtain ⟨S15, hS15⟩ : ∃ z, S11.sF o1 6 (some qa10) = z := ⟨_, rfl⟩
  have hP : va_P D vwCl (X ++ PL cy S15) H := by rw [← hS15, ← e9]; exact hP2
  have hD : va_D A (X ++ PL cy S15) := by rw [← hS15, ← e9]; exact hD2
  have xe16 : ext S11 S15 := by rw [← hS15]; exact ext.sF (by rw [← hS11, nw_Fo hqa10 ((xe3.tr xe7).A h_o1).1]; rw [← hS6, sF_ne (fun q9 => absurd q9.2 (by decide))]; rw [← hS2, nw_Fo hqa1 h_o1.1]; exact hF0 6)
  have t17 : stp ([] : List (Nat × Nat)) [o1] (o1 :: R) S S15 := by rw [← hS15]; exact t13.F 6 qa10 List.mem_cons_self (Or.inl List.mem_cons_self) (by rw [← hS11, nw_Fo hqa10 ((xe3.tr xe7).A h_o1).1]; rw [← hS6, sF_ne (fun q9 => absurd q9.2 (by decide))]; rw [← hS2, nw_Fo hqa1 h_o1.1]; exact hF0 6)
  have z18 : ∀ j9, S15.i qa10 j9 = 0 := by rw [← hS15]; exact zqa10
  have F19 : S15.F o1 6 = some qa10 := by rw [← hS15]; exact sF_eq
  refine lv_aload_n hx hb dX10_init_21 rfl (lv_at hl 0 rfl) ?_
  refine lv_iconst (v := -1) hx hb dX10_init_22 (by decide) ?_
  obtain ⟨k20, gk20, hk20⟩ := wGt (cy := cy) X S15 (xe16.A ((xe7.tr xe12).A (xe3.A h_o1))).1 (xe16.A ((xe7.tr xe12).A (xe3.A h_o1))).2.1
  refine va_put (D := D) (ci := 14) (v := .int (-1 : Int32)) (ty := .int) (C := RX10) (T := TX10) (N := 23) hx hb hts hi_X10_init_X10 tyX10 tyX10_ok nmX10 hown hK hP hD hS k20 hk20 rfl 8 (by decide) (hts (.fieldLink RX10 19 "HobhouseModel$Gear" "room" "I") (by decide +kernel)) (fun _ h9 => h9) rfl (by decide +kernel) (rfl) (rfl) (Nat.le_of_ble_eq_true rfl) dX10_init_23 (fun H locs hP2 hD2 hS => ?_)
  have e9 := wPuI (cy := cy) (j := 8) (v := (-1 : Int32)) hD (xe16.A ((xe7.tr xe12).A (xe3.A h_o1))).1 (xe16.A ((xe7.tr xe12).A (xe3.A h_o1))).2.1 gk20 rfl
  obtain ⟨S21, hS21⟩ : ∃ z, S15.sI o1 8 (-1 : Int32) = z := ⟨_, rfl⟩
  have hP : va_P D vwCl (X ++ PL cy S21) H := by rw [← hS21, ← e9]; exact hP2
  have hD : va_D A (X ++ PL cy S21) := by rw [← hS21, ← e9]; exact hD2
  have xe22 : ext S15 S21 := by rw [← hS21]; exact ext.sI _ _ _ _
  have t23 : stp ([] : List (Nat × Nat)) [o1] (o1 :: R) S S21 := by rw [← hS21]; exact t17.Ir 8 (-1 : Int32) List.mem_cons_self (Or.inl List.mem_cons_self)
  have z24 : ∀ j9, S21.i qa10 j9 = 0 := by rw [← hS21]; exact z18
  refine lv_aload_n hx hb dX10_init_26 rfl (lv_at hl 0 rfl) ?_
  refine lv_iconst (v := -1) hx hb dX10_init_27 (by decide) ?_
  obtain ⟨k25, gk25, hk25⟩ := wGt (cy := cy) X S21 (xe22.A (xe16.A ((xe7.tr xe12).A (xe3.A h_o1)))).1 (xe22.A (xe16.A ((xe7.tr xe12).A (xe3.A h_o1)))).2.1
  refine va_put (D := D) (ci := 14) (v := .int (-1 : Int32)) (ty := .int) (C := RX10) (T := TX10) (N := 23) hx hb hts hi_X10_init_X10 tyX10 tyX10_ok nmX10 hown hK hP hD hS k25 hk25 rfl 16 (by decide) (hts (.fieldLink RX10 23 "HobhouseModel$Gear" "mate" "I") (by decide +kernel)) (fun _ h9 => h9) rfl (by decide +kernel) (rfl) (rfl) (Nat.le_of_ble_eq_true rfl) dX10_init_28 (fun H locs hP2 hD2 hS => ?_)
  have e9 := wPuI (cy := cy) (j := 16) (v := (-1 : Int32)) hD (xe22.A (xe16.A ((xe7.tr xe12).A (xe3.A h_o1)))).1 (xe22.A (xe16.A ((xe7.tr xe12).A (xe3.A h_o1)))).2.1 gk25 rfl
  obtain ⟨S26, hS26⟩ : ∃ z, S21.sI o1 16 (-1 : Int32) = z := ⟨_, rfl⟩
  have hP : va_P D vwCl (X ++ PL cy S26) H := by rw [← hS26, ← e9]; exact hP2
  have hD : va_D A (X ++ PL cy S26) := by rw [← hS26, ← e9]; exact hD2
  have xe27 : ext S21 S26 := by rw [← hS26]; exact ext.sI _ _ _ _
  have t28 : stp ([] : List (Nat × Nat)) [o1] (o1 :: R) S S26 := by rw [← hS26]; exact t23.Ir 16 (-1 : Int32) List.mem_cons_self (Or.inl List.mem_cons_self)
  have z29 : ∀ j9, S26.i qa10 j9 = 0 := by rw [← hS26]; exact z24
  refine lv_aload_n hx hb dX10_init_31 rfl (lv_at hl 0 rfl) ?_
  refine lv_iload_n hx hb dX10_init_32 rfl (lv_at hl 1 rfl) ?_
  obtain ⟨k30, gk30, hk30⟩ := wGt (cy := cy) X S26 (xe27.A (xe22.A (xe16.A ((xe7.tr xe12).A (xe3.A h_o1))))).1 (xe27.A (xe22.A (xe16.A ((xe7.tr xe12).A (xe3.A h_o1))))).2.1
  refine va_putF (D := D) (ci := 14) (v := .int x1) (ty := .int) (C := RX10) (T := TX10) (N := 23) hx hb hts hi_X10_init_X10 tyX10 tyX10_ok nmX10 hown hK hP hD hS k30 hk30 rfl 0 (by decide) (hts (.fieldLink RX10 26 "HobhouseModel$Gear" "number" "I") (by decide +kernel)) (fun _ h9 => h9) rfl hin rfl (by decide +kernel) (rfl) (rfl) (Nat.le_of_ble_eq_true rfl) dX10_init_33 (fun H locs hP2 hD2 hS => ?_)
  have e9 := wPuI (cy := cy) (j := 0) (v := x1) hD (xe27.A (xe22.A (xe16.A ((xe7.tr xe12).A (xe3.A h_o1))))).1 (xe27.A (xe22.A (xe16.A ((xe7.tr xe12).A (xe3.A h_o1))))).2.1 gk30 rfl
  obtain ⟨S31, hS31⟩ : ∃ z, S26.sI o1 0 x1 = z := ⟨_, rfl⟩
  have hP : va_P D vwCl (X ++ PL cy S31) H := by rw [← hS31, ← e9]; exact hP2
  have hD : va_D A (X ++ PL cy S31) := by rw [← hS31, ← e9]; exact hD2
  have xe32 : ext S26 S31 := by rw [← hS31]; exact ext.sI _ _ _ _
  have t33 : stp ([] : List (Nat × Nat)) [o1] (o1 :: R) S S31 := by rw [← hS31]; exact t28.Ir 0 x1 List.mem_cons_self (Or.inl List.mem_cons_self)
  have z34 : ∀ j9, S31.i qa10 j9 = 0 := by rw [← hS31]; exact z29
  refine lv_aload_n hx hb dX10_init_36 rfl (lv_at hl 0 rfl) ?_
  refine lv_iload_n hx hb dX10_init_37 rfl (lv_at hl 2 rfl) ?_
  have o36 : isA S31 o1 10 := (xe32.A (xe27.A (xe22.A (xe16.A ((xe7.tr xe12).A (xe3.A h_o1))))))
  obtain ⟨k35, gk35, hk35⟩ := wGt (cy := cy) X S31 o36.1 o36.2.1
  refine va_putF (D := D) (ci := 14) (v := .int x2) (ty := .int) (C := RX10) (T := TX10) (N := 23) hx hb hts hi_X10_init_X10 tyX10 tyX10_ok nmX10 hown hK hP hD hS k35 hk35 rfl 1 (by decide) (hts (.fieldLink RX10 29 "HobhouseModel$Gear" "teeth" "I") (by decide +kernel)) (fun _ h9 => h9) rfl hin rfl (by decide +kernel) (rfl) (rfl) (Nat.le_of_ble_eq_true rfl) dX10_init_38 (fun H locs hP2 hD2 hS => ?_)
  have e9 := wPuI (cy := cy) (j := 1) (v := x2) hD o36.1 o36.2.1 gk35 rfl
  obtain ⟨S37, hS37⟩ : ∃ z, S31.sI o1 1 x2 = z := ⟨_, rfl⟩
  have hP : va_P D vwCl (X ++ PL cy S37) H := by rw [← hS37, ← e9]; exact hP2
  have hD : va_D A (X ++ PL cy S37) := by rw [← hS37, ← e9]; exact hD2
  have xe38 : ext S31 S37 := by rw [← hS37]; exact ext.sI _ _ _ _
  have t39 : stp ([] : List (Nat × Nat)) [o1] (o1 :: R) S S37 := by rw [← hS37]; exact t33.Ir 1 x2 List.mem_cons_self (Or.inl List.mem_cons_self)
  have z40 : ∀ j9, S37.i qa10 j9 = 0 := by rw [← hS37]; exact z34
  refine lv_aload_n hx hb dX10_init_41 rfl (lv_at hl 0 rfl) ?_
  refine lv_iload_n hx hb dX10_init_42 rfl (lv_at hl 3 rfl) ?_
  obtain ⟨k41, gk41, hk41⟩ := wGt (cy := cy) X S37 (xe38.A o36).1 (xe38.A o36).2.1
  refine va_putF (D := D) (ci := 14) (v := .int x3) (ty := .int) (C := RX10) (T := TX10) (N := 23) hx hb hts hi_X10_init_X10 tyX10 tyX10_ok nmX10 hown hK hP hD hS k41 hk41 rfl 2 (by decide) (hts (.fieldLink RX10 32 "HobhouseModel$Gear" "module" "I") (by decide +kernel)) (fun _ h9 => h9) rfl hin rfl (by decide +kernel) (rfl) (rfl) (Nat.le_of_ble_eq_true rfl) dX10_init_43 (fun H locs hP2 hD2 hS => ?_)
  have e9 := wPuI (cy := cy) (j := 2) (v := x3) hD (xe38.A o36).1 (xe38.A o36).2.1 gk41 rfl
  obtain ⟨S42, hS42⟩ : ∃ z, S37.sI o1 2 x3 = z := ⟨_, rfl⟩
  have hP : va_P D vwCl (X ++ PL cy S42) H := by rw [← hS42, ← e9]; exact hP2
  have hD : va_D A (X ++ PL cy S42) := by rw [← hS42, ← e9]; exact hD2
  have xe43 : ext S37 S42 := by rw [← hS42]; exact ext.sI _ _ _ _
  have t44 : stp ([] : List (Nat × Nat)) [o1] (o1 :: R) S S42 := by rw [← hS42]; exact t39.Ir 2 x3 List.mem_cons_self (Or.inl List.mem_cons_self)
  have z45 : ∀ j9, S42.i qa10 j9 = 0 := by rw [← hS42]; exact z40
  refine lv_aload_n hx hb dX10_init_46 rfl (lv_at hl 0 rfl) ?_
  refine lv_iload hx hb dX10_init_47 (lv_at hl 4 rfl) ?_
  obtain ⟨k46, gk46, hk46⟩ := wGt (cy := cy) X S42 (xe43.A (xe38.A o36)).1 (xe43.A (xe38.A o36)).2.1
  refine va_putF (D := D) (ci := 14) (v := .int x4) (ty := .int) (C := RX10) (T := TX10) (N := 23) hx hb hts hi_X10_init_X10 tyX10 tyX10_ok nmX10 hown hK hP hD hS k46 hk46 rfl 3 (by decide) (hts (.fieldLink RX10 35 "HobhouseModel$Gear" "helix" "I") (by decide +kernel)) (fun _ h9 => h9) rfl hin rfl (by decide +kernel) (rfl) (rfl) (Nat.le_of_ble_eq_true rfl) dX10_init_49 (fun H locs hP2 hD2 hS => ?_)
  have e9 := wPuI (cy := cy) (j := 3) (v := x4) hD (xe43.A (xe38.A o36)).1 (xe43.A (xe38.A o36)).2.1 gk46 rfl
  obtain ⟨S47, hS47⟩ : ∃ z, S42.sI o1 3 x4 = z := ⟨_, rfl⟩
  have hP : va_P D vwCl (X ++ PL cy S47) H := by rw [← hS47, ← e9]; exact hP2
  have hD : va_D A (X ++ PL cy S47) := by rw [← hS47, ← e9]; exact hD2
  have xe48 : ext S42 S47 := by rw [← hS47]; exact ext.sI _ _ _ _
  have t49 : stp ([] : List (Nat × Nat)) [o1] (o1 :: R) S S47 := by rw [← hS47]; exact t44.Ir 3 x4 List.mem_cons_self (Or.inl List.mem_cons_self)
  have z50 : ∀ j9, S47.i qa10 j9 = 0 := by rw [← hS47]; exact z45
  refine lv_aload_n hx hb dX10_init_52 rfl (lv_at hl 0 rfl) ?_
  refine lv_iload hx hb dX10_init_53 (lv_at hl 5 rfl) ?_
  obtain ⟨k51, gk51, hk51⟩ := wGt (cy := cy) X S47 (xe48.A (xe43.A (xe38.A o36))).1 (xe48.A (xe43.A (xe38.A o36))).2.1
  refine va_putF (D := D) (ci := 14) (v := .int x5) (ty := .int) (C := RX10) (T := TX10) (N := 23) hx hb hts hi_X10_init_X10 tyX10 tyX10_ok nmX10 hown hK hP hD hS k51 hk51 rfl 4 (by decide) (hts (.fieldLink RX10 38 "HobhouseModel$Gear" "width" "I") (by decide +kernel)) (fun _ h9 => h9) rfl hin rfl (by decide +kernel) (rfl) (rfl) (Nat.le_of_ble_eq_true rfl) dX10_init_55 (fun H locs hP2 hD2 hS => ?_)
  have e9 := wPuI (cy := cy) (j := 4) (v := x5) hD (xe48.A (xe43.A (xe38.A o36))).1 (xe48.A (xe43.A (xe38.A o36))).2.1 gk51 rfl
  obtain ⟨S52, hS52⟩ : ∃ z, S47.sI o1 4 x5 = z := ⟨_, rfl⟩
  have hP : va_P D vwCl (X ++ PL cy S52) H := by rw [← hS52, ← e9]; exact hP2
  have hD : va_D A (X ++ PL cy S52) := by rw [← hS52, ← e9]; exact hD2
  have xe53 : ext S47 S52 := by rw [← hS52]; exact ext.sI _ _ _ _
  have t54 : stp ([] : List (Nat × Nat)) [o1] (o1 :: R) S S52 := by rw [← hS52]; exact t49.Ir 4 x5 List.mem_cons_self (Or.inl List.mem_cons_self)
  have z55 : ∀ j9, S52.i qa10 j9 = 0 := by rw [← hS52]; exact z50
  have oo : isA S52 o1 10 := (xe53.A (xe48.A (xe43.A (xe38.A o36))))
  have I0 : S52.I o1 0 = x1 := (by rw [← hS52, sI_I (by rintro ⟨e1, e2⟩; exact absurd e2 (by decide))]; rw [← hS47, sI_I (by rintro ⟨e1, e2⟩; exact absurd e2 (by decide))]; rw [← hS42, sI_I (by rintro ⟨e1, e2⟩; exact absurd e2 (by decide))]; rw [← hS37, sI_I (by rintro ⟨e1, e2⟩; exact absurd e2 (by decide))]; rw [← hS31, sI_eq])
  have I1 : S52.I o1 1 = x2 := (by rw [← hS52, sI_I (by rintro ⟨e1, e2⟩; exact absurd e2 (by decide))]; rw [← hS47, sI_I (by rintro ⟨e1, e2⟩; exact absurd e2 (by decide))]; rw [← hS42, sI_I (by rintro ⟨e1, e2⟩; exact absurd e2 (by decide))]; rw [← hS37, sI_eq])
  have I2 : S52.I o1 2 = x3 := (by rw [← hS52, sI_I (by rintro ⟨e1, e2⟩; exact absurd e2 (by decide))]; rw [← hS47, sI_I (by rintro ⟨e1, e2⟩; exact absurd e2 (by decide))]; rw [← hS42, sI_eq])
  have I3 : S52.I o1 3 = x4 := (by rw [← hS52, sI_I (by rintro ⟨e1, e2⟩; exact absurd e2 (by decide))]; rw [← hS47, sI_eq])
  have I4 : S52.I o1 4 = x5 := (by rw [← hS52, sI_eq])
  have I7 : S52.I o1 7 = (0 : Int32) := (by rw [← hS52, sI_I (by rintro ⟨e1, e2⟩; exact absurd e2 (by decide))]; rw [← hS47, sI_I (by rintro ⟨e1, e2⟩; exact absurd e2 (by decide))]; rw [← hS42, sI_I (by rintro ⟨e1, e2⟩; exact absurd e2 (by decide))]; rw [← hS37, sI_I (by rintro ⟨e1, e2⟩; exact absurd e2 (by decide))]; rw [← hS31, sI_I (by rintro ⟨e1, e2⟩; exact absurd e2 (by decide))]; rw [← hS26, sI_I (by rintro ⟨e1, e2⟩; exact absurd e2 (by decide))]; rw [← hS21, sI_I (by rintro ⟨e1, e2⟩; exact absurd e2 (by decide))]; rw [← hS15]; show S11.I o1 7 = _; rw [← hS11, nw_Io hqa10 ((xe3.tr xe7).A h_o1).1]; rw [← hS6]; show S2.I o1 7 = _; rw [← hS2, nw_Io hqa1 h_o1.1]; exact hI0 7)
  have I8 : S52.I o1 8 = (-1 : Int32) := (by rw [← hS52, sI_I (by rintro ⟨e1, e2⟩; exact absurd e2 (by decide))]; rw [← hS47, sI_I (by rintro ⟨e1, e2⟩; exact absurd e2 (by decide))]; rw [← hS42, sI_I (by rintro ⟨e1, e2⟩; exact absurd e2 (by decide))]; rw [← hS37, sI_I (by rintro ⟨e1, e2⟩; exact absurd e2 (by decide))]; rw [← hS31, sI_I (by rintro ⟨e1, e2⟩; exact absurd e2 (by decide))]; rw [← hS26, sI_I (by rintro ⟨e1, e2⟩; exact absurd e2 (by decide))]; rw [← hS21, sI_eq])
  have I9 : S52.I o1 9 = (0 : Int32) := (by rw [← hS52, sI_I (by rintro ⟨e1, e2⟩; exact absurd e2 (by decide))]; rw [← hS47, sI_I (by rintro ⟨e1, e2⟩; exact absurd e2 (by decide))]; rw [← hS42, sI_I (by rintro ⟨e1, e2⟩; exact absurd e2 (by decide))]; rw [← hS37, sI_I (by rintro ⟨e1, e2⟩; exact absurd e2 (by decide))]; rw [← hS31, sI_I (by rintro ⟨e1, e2⟩; exact absurd e2 (by decide))]; rw [← hS26, sI_I (by rintro ⟨e1, e2⟩; exact absurd e2 (by decide))]; rw [← hS21, sI_I (by rintro ⟨e1, e2⟩; exact absurd e2 (by decide))]; rw [← hS15]; show S11.I o1 9 = _; rw [← hS11, nw_Io hqa10 ((xe3.tr xe7).A h_o1).1]; rw [← hS6]; show S2.I o1 9 = _; rw [← hS2, nw_Io hqa1 h_o1.1]; exact hI0 9)
  have I10 : S52.I o1 10 = (0 : Int32) := (by rw [← hS52, sI_I (by rintro ⟨e1, e2⟩; exact absurd e2 (by decide))]; rw [← hS47, sI_I (by rintro ⟨e1, e2⟩; exact absurd e2 (by decide))]; rw [← hS42, sI_I (by rintro ⟨e1, e2⟩; exact absurd e2 (by decide))]; rw [← hS37, sI_I (by rintro ⟨e1, e2⟩; exact absurd e2 (by decide))]; rw [← hS31, sI_I (by rintro ⟨e1, e2⟩; exact absurd e2 (by decide))]; rw [← hS26, sI_I (by rintro ⟨e1, e2⟩; exact absurd e2 (by decide))]; rw [← hS21, sI_I (by rintro ⟨e1, e2⟩; exact absurd e2 (by decide))]; rw [← hS15]; show S11.I o1 10 = _; rw [← hS11, nw_Io hqa10 ((xe3.tr xe7).A h_o1).1]; rw [← hS6]; show S2.I o1 10 = _; rw [← hS2, nw_Io hqa1 h_o1.1]; exact hI0 10)
  have I11 : S52.I o1 11 = (0 : Int32) := (by rw [← hS52, sI_I (by rintro ⟨e1, e2⟩; exact absurd e2 (by decide))]; rw [← hS47, sI_I (by rintro ⟨e1, e2⟩; exact absurd e2 (by decide))]; rw [← hS42, sI_I (by rintro ⟨e1, e2⟩; exact absurd e2 (by decide))]; rw [← hS37, sI_I (by rintro ⟨e1, e2⟩; exact absurd e2 (by decide))]; rw [← hS31, sI_I (by rintro ⟨e1, e2⟩; exact absurd e2 (by decide))]; rw [← hS26, sI_I (by rintro ⟨e1, e2⟩; exact absurd e2 (by decide))]; rw [← hS21, sI_I (by rintro ⟨e1, e2⟩; exact absurd e2 (by decide))]; rw [← hS15]; show S11.I o1 11 = _; rw [← hS11, nw_Io hqa10 ((xe3.tr xe7).A h_o1).1]; rw [← hS6]; show S2.I o1 11 = _; rw [← hS2, nw_Io hqa1 h_o1.1]; exact hI0 11)
  have I12 : S52.I o1 12 = (0 : Int32) := (by rw [← hS52, sI_I (by rintro ⟨e1, e2⟩; exact absurd e2 (by decide))]; rw [← hS47, sI_I (by rintro ⟨e1, e2⟩; exact absurd e2 (by decide))]; rw [← hS42, sI_I (by rintro ⟨e1, e2⟩; exact absurd e2 (by decide))]; rw [← hS37, sI_I (by rintro ⟨e1, e2⟩; exact absurd e2 (by decide))]; rw [← hS31, sI_I (by rintro ⟨e1, e2⟩; exact absurd e2 (by decide))]; rw [← hS26, sI_I (by rintro ⟨e1, e2⟩; exact absurd e2 (by decide))]; rw [← hS21, sI_I (by rintro ⟨e1, e2⟩; exact absurd e2 (by decide))]; rw [← hS15]; show S11.I o1 12 = _; rw [← hS11, nw_Io hqa10 ((xe3.tr xe7).A h_o1).1]; rw [← hS6]; show S2.I o1 12 = _; rw [← hS2, nw_Io hqa1 h_o1.1]; exact hI0 12)
  have I13 : S52.I o1 13 = (0 : Int32) := (by rw [← hS52, sI_I (by rintro ⟨e1, e2⟩; exact absurd e2 (by decide))]; rw [← hS47, sI_I (by rintro ⟨e1, e2⟩; exact absurd e2 (by decide))]; rw [← hS42, sI_I (by rintro ⟨e1, e2⟩; exact absurd e2 (by decide))]; rw [← hS37, sI_I (by rintro ⟨e1, e2⟩; exact absurd e2 (by decide))]; rw [← hS31, sI_I (by rintro ⟨e1, e2⟩; exact absurd e2 (by decide))]; rw [← hS26, sI_I (by rintro ⟨e1, e2⟩; exact absurd e2 (by decide))]; rw [← hS21, sI_I (by rintro ⟨e1, e2⟩; exact absurd e2 (by decide))]; rw [← hS15]; show S11.I o1 13 = _; rw [← hS11, nw_Io hqa10 ((xe3.tr xe7).A h_o1).1]; rw [← hS6]; show S2.I o1 13 = _; rw [← hS2, nw_Io hqa1 h_o1.1]; exact hI0 13)
  have I14 : S52.I o1 14 = (0 : Int32) := (by rw [← hS52, sI_I (by rintro ⟨e1, e2⟩; exact absurd e2 (by decide))]; rw [← hS47, sI_I (by rintro ⟨e1, e2⟩; exact absurd e2 (by decide))]; rw [← hS42, sI_I (by rintro ⟨e1, e2⟩; exact absurd e2 (by decide))]; rw [← hS37, sI_I (by rintro ⟨e1, e2⟩; exact absurd e2 (by decide))]; rw [← hS31, sI_I (by rintro ⟨e1, e2⟩; exact absurd e2 (by decide))]; rw [← hS26, sI_I (by rintro ⟨e1, e2⟩; exact absurd e2 (by decide))]; rw [← hS21, sI_I (by rintro ⟨e1, e2⟩; exact absurd e2 (by decide))]; rw [← hS15]; show S11.I o1 14 = _; rw [← hS11, nw_Io hqa10 ((xe3.tr xe7).A h_o1).1]; rw [← hS6]; show S2.I o1 14 = _; rw [← hS2, nw_Io hqa1 h_o1.1]; exact hI0 14)
  have I15 : S52.I o1 15 = (0 : Int32) := (by rw [← hS52, sI_I (by rintro ⟨e1, e2⟩; exact absurd e2 (by decide))]; rw [← hS47, sI_I (by rintro ⟨e1, e2⟩; exact absurd e2 (by decide))]; rw [← hS42, sI_I (by rintro ⟨e1, e2⟩; exact absurd e2 (by decide))]; rw [← hS37, sI_I (by rintro ⟨e1, e2⟩; exact absurd e2 (by decide))]; rw [← hS31, sI_I (by rintro ⟨e1, e2⟩; exact absurd e2 (by decide))]; rw [← hS26, sI_I (by rintro ⟨e1, e2⟩; exact absurd e2 (by decide))]; rw [← hS21, sI_I (by rintro ⟨e1, e2⟩; exact absurd e2 (by decide))]; rw [← hS15]; show S11.I o1 15 = _; rw [← hS11, nw_Io hqa10 ((xe3.tr xe7).A h_o1).1]; rw [← hS6]; show S2.I o1 15 = _; rw [← hS2, nw_Io hqa1 h_o1.1]; exact hI0 15)
  have I16 : S52.I o1 16 = (-1 : Int32) := (by rw [← hS52, sI_I (by rintro ⟨e1, e2⟩; exact absurd e2 (by decide))]; rw [← hS47, sI_I (by rintro ⟨e1, e2⟩; exact absurd e2 (by decide))]; rw [← hS42, sI_I (by rintro ⟨e1, e2⟩; exact absurd e2 (by decide))]; rw [← hS37, sI_I (by rintro ⟨e1, e2⟩; exact absurd e2 (by decide))]; rw [← hS31, sI_I (by rintro ⟨e1, e2⟩; exact absurd e2 (by decide))]; rw [← hS26, sI_eq])
  have I17 : S52.I o1 17 = (0 : Int32) := (by rw [← hS52, sI_I (by rintro ⟨e1, e2⟩; exact absurd e2 (by decide))]; rw [← hS47, sI_I (by rintro ⟨e1, e2⟩; exact absurd e2 (by decide))]; rw [← hS42, sI_I (by rintro ⟨e1, e2⟩; exact absurd e2 (by decide))]; rw [← hS37, sI_I (by rintro ⟨e1, e2⟩; exact absurd e2 (by decide))]; rw [← hS31, sI_I (by rintro ⟨e1, e2⟩; exact absurd e2 (by decide))]; rw [← hS26, sI_I (by rintro ⟨e1, e2⟩; exact absurd e2 (by decide))]; rw [← hS21, sI_I (by rintro ⟨e1, e2⟩; exact absurd e2 (by decide))]; rw [← hS15]; show S11.I o1 17 = _; rw [← hS11, nw_Io hqa10 ((xe3.tr xe7).A h_o1).1]; rw [← hS6]; show S2.I o1 17 = _; rw [← hS2, nw_Io hqa1 h_o1.1]; exact hI0 17)
  have I18 : S52.I o1 18 = (0 : Int32) := (by rw [← hS52, sI_I (by rintro ⟨e1, e2⟩; exact absurd e2 (by decide))]; rw [← hS47, sI_I (by rintro ⟨e1, e2⟩; exact absurd e2 (by decide))]; rw [← hS42, sI_I (by rintro ⟨e1, e2⟩; exact absurd e2 (by decide))]; rw [← hS37, sI_I (by rintro ⟨e1, e2⟩; exact absurd e2 (by decide))]; rw [← hS31, sI_I (by rintro ⟨e1, e2⟩; exact absurd e2 (by decide))]; rw [← hS26, sI_I (by rintro ⟨e1, e2⟩; exact absurd e2 (by decide))]; rw [← hS21, sI_I (by rintro ⟨e1, e2⟩; exact absurd e2 (by decide))]; rw [← hS15]; show S11.I o1 18 = _; rw [← hS11, nw_Io hqa10 ((xe3.tr xe7).A h_o1).1]; rw [← hS6]; show S2.I o1 18 = _; rw [← hS2, nw_Io hqa1 h_o1.1]; exact hI0 18)
  have I19 : S52.I o1 19 = (0 : Int32) := (by rw [← hS52, sI_I (by rintro ⟨e1, e2⟩; exact absurd e2 (by decide))]; rw [← hS47, sI_I (by rintro ⟨e1, e2⟩; exact absurd e2 (by decide))]; rw [← hS42, sI_I (by rintro ⟨e1, e2⟩; exact absurd e2 (by decide))]; rw [← hS37, sI_I (by rintro ⟨e1, e2⟩; exact absurd e2 (by decide))]; rw [← hS31, sI_I (by rintro ⟨e1, e2⟩; exact absurd e2 (by decide))]; rw [← hS26, sI_I (by rintro ⟨e1, e2⟩; exact absurd e2 (by decide))]; rw [← hS21, sI_I (by rintro ⟨e1, e2⟩; exact absurd e2 (by decide))]; rw [← hS15]; show S11.I o1 19 = _; rw [← hS11, nw_Io hqa10 ((xe3.tr xe7).A h_o1).1]; rw [← hS6]; show S2.I o1 19 = _; rw [← hS2, nw_Io hqa1 h_o1.1]; exact hI0 19)
  have I20 : S52.I o1 20 = (0 : Int32) := (by rw [← hS52, sI_I (by rintro ⟨e1, e2⟩; exact absurd e2 (by decide))]; rw [← hS47, sI_I (by rintro ⟨e1, e2⟩; exact absurd e2 (by decide))]; rw [← hS42, sI_I (by rintro ⟨e1, e2⟩; exact absurd e2 (by decide))]; rw [← hS37, sI_I (by rintro ⟨e1, e2⟩; exact absurd e2 (by decide))]; rw [← hS31, sI_I (by rintro ⟨e1, e2⟩; exact absurd e2 (by decide))]; rw [← hS26, sI_I (by rintro ⟨e1, e2⟩; exact absurd e2 (by decide))]; rw [← hS21, sI_I (by rintro ⟨e1, e2⟩; exact absurd e2 (by decide))]; rw [← hS15]; show S11.I o1 20 = _; rw [← hS11, nw_Io hqa10 ((xe3.tr xe7).A h_o1).1]; rw [← hS6]; show S2.I o1 20 = _; rw [← hS2, nw_Io hqa1 h_o1.1]; exact hI0 20)
  have I21 : S52.I o1 21 = (0 : Int32) := (by rw [← hS52, sI_I (by rintro ⟨e1, e2⟩; exact absurd e2 (by decide))]; rw [← hS47, sI_I (by rintro ⟨e1, e2⟩; exact absurd e2 (by decide))]; rw [← hS42, sI_I (by rintro ⟨e1, e2⟩; exact absurd e2 (by decide))]; rw [← hS37, sI_I (by rintro ⟨e1, e2⟩; exact absurd e2 (by decide))]; rw [← hS31, sI_I (by rintro ⟨e1, e2⟩; exact absurd e2 (by decide))]; rw [← hS26, sI_I (by rintro ⟨e1, e2⟩; exact absurd e2 (by decide))]; rw [← hS21, sI_I (by rintro ⟨e1, e2⟩; exact absurd e2 (by decide))]; rw [← hS15]; show S11.I o1 21 = _; rw [← hS11, nw_Io hqa10 ((xe3.tr xe7).A h_o1).1]; rw [← hS6]; show S2.I o1 21 = _; rw [← hS2, nw_Io hqa1 h_o1.1]; exact hI0 21)
  have tt : stp ([] : List (Nat × Nat)) [o1] R S S52 := t54.un (okAt.of_10 oo.2.1 ⟨(by rw [f_of ((xe12.tr (xe16.tr (xe22.tr (xe27.tr (xe32.tr (xe38.tr (xe43.tr (xe48.tr xe53)))))))).F ((xe3.tr xe7).A h_o1) (by decide) F9)]; exact ⟨((xe12.tr (xe16.tr (xe22.tr (xe27.tr (xe32.tr (xe38.tr (xe43.tr (xe48.tr xe53)))))))).F ((xe3.tr xe7).A h_o1) (by decide) F9), ((xe7.tr (xe12.tr (xe16.tr (xe22.tr (xe27.tr (xe32.tr (xe38.tr (xe43.tr (xe48.tr xe53))))))))).A aqa1), (((xe7.tr (xe12.tr (xe16.tr (xe22.tr (xe27.tr (xe32.tr (xe38.tr (xe43.tr (xe48.tr xe53))))))))).n aqa1).trans nqa1)⟩), (by rw [f_of ((xe22.tr (xe27.tr (xe32.tr (xe38.tr (xe43.tr (xe48.tr xe53)))))).F ((xe3.tr (xe7.tr (xe12.tr xe16))).A h_o1) (by decide) F19)]; exact ⟨((xe22.tr (xe27.tr (xe32.tr (xe38.tr (xe43.tr (xe48.tr xe53)))))).F ((xe3.tr (xe7.tr (xe12.tr xe16))).A h_o1) (by decide) F19), ((xe16.tr (xe22.tr (xe27.tr (xe32.tr (xe38.tr (xe43.tr (xe48.tr xe53))))))).A aqa10), (((xe16.tr (xe22.tr (xe27.tr (xe32.tr (xe38.tr (xe43.tr (xe48.tr xe53))))))).n aqa10).trans nqa10)⟩), (by rw [I1]; exact ⟨by omega, by omega⟩), (by rw [I2]; exact ⟨by omega, by omega⟩), (by rw [I3]; exact ⟨by omega, by omega⟩), (by rw [I4]; exact ⟨by omega, by omega⟩), (by rw [I17]; exact ⟨by decide, by decide⟩), (by rw [I18]; exact ⟨by decide, by decide⟩), (by rw [I19]; exact ⟨by decide, by decide⟩), (by rw [I20]; exact ⟨by decide, by decide⟩), (by rw [I21]; exact ⟨by decide, by decide⟩)⟩)
  refine W.widen (k := 2) (n := 208) (Nat.le_of_ble_eq_true rfl) (Nat.le_of_ble_eq_true rfl) ?_
  exact W.vret hx hb hr (fun t ht hW9 => ⟨⟨S52, rfl, ⟨tt, oo, I0, I1, I2, I3, I4, I7, I8, I9, I10, I11, I12, I13, I14, I15, I16, I17, I18, I19, I20, I21, (by rw [f_of ((xe22.tr (xe27.tr (xe32.tr (xe38.tr (xe43.tr (xe48.tr xe53)))))).F ((xe3.tr (xe7.tr (xe12.tr xe16))).A h_o1) (by decide) F19)]; exact fun e9 => hqa10 ((xe3.tr xe7) _ e9).1), (by rw [f_of ((xe22.tr (xe27.tr (xe32.tr (xe38.tr (xe43.tr (xe48.tr xe53)))))).F ((xe3.tr (xe7.tr (xe12.tr xe16))).A h_o1) (by decide) F19)]; exact z55)⟩, wd_end hP hK hD ht hW9.alike⟩, hS.F ht⟩) hS.2.2 dX10_init_58 hlocks
theorem hi_X11_init_X11 : ∀ w ∈ u_ws RX11 TX11 7, w ∈ wsX11_init := by decide +kernel
set_option maxHeartbeats 4000000 in
set_option maxRecDepth 100000 in
theorem c_X11_init (l : Launch) {D : va_G} {cy : Nat → ClassId} {X : va_W} (S : wPS) (sz : Nat) (o1 : Nat) (h_o1 : isA S o1 11) (x1 : Int32) (x2 : Int32) (x3 : Int32) (x4 : Int32) (R : List Nat) (hW : wtB S (o1 :: R)) (hF0 : ∀ j, S.F o1 j = none) (hI0 : ∀ j, S.I o1 j = 0) (hr : (1 ≤ x2.toInt ∧ x2.toInt ≤ 4) ∧ 1 ≤ x4.toInt ∧ x4.toInt ≤ 20) : Met l yX11_init wsX11_init ({ frames := 1, cells := 1, slots := 20, locals := 12 }) (va_Pc [.ref o1, .int x1, .int x2, .int x3, .int x4] (fun U => U.heap.size = sz ∧ WD D cy X (fun _ => True) S U ∧ NW U)) (va_Qv (fun (u : wPS) => stp ([] : List (Nat × Nat)) [o1] R S u ∧ isA u o1 11 ∧ u.I o1 0 = x1 ∧ u.I o1 1 = x2 ∧ u.I o1 3 = x4 ∧ u.I o1 4 = x3 ∧ u.I o1 5 = (0 : Int32) ∧ u.I o1 6 = (0 : Int32)) (fun u t => WD D cy X (va_A (X ++ PL cy S) sz) u t) (va_A (X ++ PL cy S) sz)) 1 20 (va_A (X ++ PL cy S) sz) := by
  refine Met.ofW (cc := cX11_init) (maxL := 5) (ret := none) (by decide) rfl ?_
  intro p e s m args below meth c s₁ B hml hv
  obtain ⟨rfl, hsz, ⟨hP, hK, hD0⟩, hN⟩ := hv
  have hx := B.exec
  have hb := B.bytes
  have hr := B.returns
  have hts := atoms_spec (ws := wsX11_init) B.pre
  have hown : s.vm.findClass RX11 = some m.cls := findClass_of_methodNamed (x := yX11_init) B.named
  have hlocks := B.notSynchronized
  have hin : meth.name = "<init>" := (name_of_methodNamed B.named B.method).1
  subst hsz
  have hD := hD0.self (sz := s.heap.size)
  generalize hAe : va_A (X ++ PL cy S) s.heap.size = A at hD ⊢
  have hA : ∀ q : Nat, s.heap.size ≤ q → A q := fun q h => by rw [← hAe]; exact Or.inr h
  have hS : va_S A s.heap s.heap [] := va_S.rf
  have hl := lv_entry ([.ref o1, .int x1, .int x2, .int x3, .int x4]) (n := 5) (Nat.le_of_ble_eq_true rfl)
  rw [lg_entry_eq]
  generalize (lg_sl ([.ref o1, .int x1, .int x2, .int x3, .int x4]) ++ List.replicate (5 - (lg_sl ([.ref o1, .int x1, .int x2, .int x3, .int x4])).length) Slot.unset).toArray = ls at hl ⊢
  have hl : lv_has ls 5 [(0, .ref o1), (1, .int x1), (2, .int x2), (3, .int x3), (4, .int x4)] := hl
  have t0 : stp ([] : List (Nat × Nat)) [o1] (o1 :: R) S S := stp.rf hW
  refine lv_aload_n hx hb dX11_init_0 rfl (lv_at hl 0 rfl) ?_
  refine W.objInit hx hb hown (hts (.methodLink RX11 3 objectInit) (by decide +kernel)) (hts (.instanceMethod objectInit) (by decide +kernel)) (hts (.code objectInit ⟨#[0xb1]⟩ 1 none) (by decide +kernel)) rfl (by rw [hml]; exact hl.1) rfl dX11_init_1 (Nat.le_of_ble_eq_true rfl) (Nat.le_of_ble_eq_true rfl) ?_
  refine W.eq (g2 := F0 m 4 ls []) rfl ?_
  refine lv_aload_n hx hb dX11_init_4 rfl (lv_at hl 0 rfl) ?_
  refine lv_bipush (v := 20) hx hb dX11_init_5 (by decide +kernel) ?_
  refine va_newa (atype := .int) hx hb (hts (.arrayClass .int) (by decide +kernel)) (ty := .int) rfl hK hP hD hS hA (N' := 20) (a0 := (20, .inl (fun _ => 0))) (fun _ => rfl) (by decide) (by decide) (by decide) (Nat.le_of_ble_eq_true rfl) (Nat.le_of_ble_eq_true rfl) dX11_init_7 (fun qa1 cqa1 H hK2 hP2 hD2 hS => ?_)
  obtain rfl : cqa1 = cy 2 := cls_int hK hK2
  have hqa1 : qa1 ∉ S.L := nw_q hD2
  have e9 := wNw (cy := cy) (X := X) (S := S) (a := qa1) (k := 30) (z := 20) (f := fun _ => 0) (g := fun _ => none) hqa1 rfl
  obtain ⟨S2, hS2⟩ : ∃ z, S.nw qa1 30 20 (fun _ => 0) (fun _ => none) = z := ⟨_, rfl⟩
  have hP : va_P D vwCl (X ++ PL cy S2) H := by rw [← hS2, ← e9]; exact hP2
  have hD : va_D A (X ++ PL cy S2) := by rw [← hS2, ← e9]; exact hD2
  have xe3 : ext S S2 := by rw [← hS2]; exact ext.nw hqa1
  have t4 : stp ([] : List (Nat × Nat)) [o1] (o1 :: R) S S2 := by rw [← hS2]; exact t0.nwA hqa1 (by decide)
  refine W.widen (k := 1) (n := 20) (Nat.le_of_ble_eq_true rfl) (Nat.le_of_ble_eq_true rfl) ?_
  have aqa1 : isA S2 qa1 30 := by rw [← hS2]; exact nw_A (by decide)
  have nqa1 : S2.n qa1 = 20 := by rw [← hS2]; exact nw_n
  obtain ⟨k5, gk5, hk5⟩ := wGt (cy := cy) X S2 (xe3.A h_o1).1 (xe3.A h_o1).2.1
  refine va_putF (D := D) (ci := 15) (v := .ref qa1) (ty := (tyX11 2)) (C := RX11) (T := TX11) (N := 7) hx hb hts hi_X11_init_X11 tyX11 tyX11_ok nmX11 hown hK hP hD hS k5 hk5 rfl 2 (by decide) (hts (.fieldLink RX11 9 "HobhouseModel$Hob" "wear" "[I") (by decide +kernel)) (fun _ h9 => h9) rfl hin rfl (by decide +kernel) (rfl) (rfl) (Nat.le_of_ble_eq_true rfl) dX11_init_9 (fun H locs hP2 hD2 hS => ?_)
  have e9 := wPuF (cy := cy) (j := 2) (v := (some qa1)) hD (xe3.A h_o1).1 (xe3.A h_o1).2.1 gk5 rfl
  obtain ⟨S6, hS6⟩ : ∃ z, S2.sF o1 2 (some qa1) = z := ⟨_, rfl⟩
  have hP : va_P D vwCl (X ++ PL cy S6) H := by rw [← hS6, ← e9]; exact hP2
  have hD : va_D A (X ++ PL cy S6) := by rw [← hS6, ← e9]; exact hD2
  have xe7 : ext S2 S6 := by rw [← hS6]; exact ext.sF (by rw [← hS2, nw_Fo hqa1 h_o1.1]; exact hF0 2)
  have t8 : stp ([] : List (Nat × Nat)) [o1] (o1 :: R) S S6 := by rw [← hS6]; exact t4.F 2 qa1 List.mem_cons_self (Or.inl List.mem_cons_self) (by rw [← hS2, nw_Fo hqa1 h_o1.1]; exact hF0 2)
  have F9 : S6.F o1 2 = some qa1 := by rw [← hS6]; exact sF_eq
  refine lv_aload_n hx hb dX11_init_12 rfl (lv_at hl 0 rfl) ?_
  refine lv_iload_n hx hb dX11_init_13 rfl (lv_at hl 1 rfl) ?_
  obtain ⟨k10, gk10, hk10⟩ := wGt (cy := cy) X S6 (xe7.A (xe3.A h_o1)).1 (xe7.A (xe3.A h_o1)).2.1
  refine va_putF (D := D) (ci := 15) (v := .int x1) (ty := .int) (C := RX11) (T := TX11) (N := 7) hx hb hts hi_X11_init_X11 tyX11 tyX11_ok nmX11 hown hK hP hD hS k10 hk10 rfl 0 (by decide) (hts (.fieldLink RX11 15 "HobhouseModel$Hob" "module" "I") (by decide +kernel)) (fun _ h9 => h9) rfl hin rfl (by decide +kernel) (rfl) (rfl) (Nat.le_of_ble_eq_true rfl) dX11_init_14 (fun H locs hP2 hD2 hS => ?_)
  have e9 := wPuI (cy := cy) (j := 0) (v := x1) hD (xe7.A (xe3.A h_o1)).1 (xe7.A (xe3.A h_o1)).2.1 gk10 rfl
  obtain ⟨S11, hS11⟩ : ∃ z, S6.sI o1 0 x1 = z := ⟨_, rfl⟩
  have hP : va_P D vwCl (X ++ PL cy S11) H := by rw [← hS11, ← e9]; exact hP2
  have hD : va_D A (X ++ PL cy S11) := by rw [← hS11, ← e9]; exact hD2
  have xe12 : ext S6 S11 := by rw [← hS11]; exact ext.sI _ _ _ _
  have t13 : stp ([] : List (Nat × Nat)) [o1] (o1 :: R) S S11 := by rw [← hS11]; exact t8.Ir 0 x1 List.mem_cons_self (Or.inl List.mem_cons_self)
  refine lv_aload_n hx hb dX11_init_17 rfl (lv_at hl 0 rfl) ?_
  refine lv_iload_n hx hb dX11_init_18 rfl (lv_at hl 2 rfl) ?_
  obtain ⟨k14, gk14, hk14⟩ := wGt (cy := cy) X S11 (xe12.A (xe7.A (xe3.A h_o1))).1 (xe12.A (xe7.A (xe3.A h_o1))).2.1
  refine va_putF (D := D) (ci := 15) (v := .int x2) (ty := .int) (C := RX11) (T := TX11) (N := 7) hx hb hts hi_X11_init_X11 tyX11 tyX11_ok nmX11 hown hK hP hD hS k14 hk14 rfl 1 (by decide) (hts (.fieldLink RX11 19 "HobhouseModel$Hob" "starts" "I") (by decide +kernel)) (fun _ h9 => h9) rfl hin rfl (by decide +kernel) (rfl) (rfl) (Nat.le_of_ble_eq_true rfl) dX11_init_19 (fun H locs hP2 hD2 hS => ?_)
  have e9 := wPuI (cy := cy) (j := 1) (v := x2) hD (xe12.A (xe7.A (xe3.A h_o1))).1 (xe12.A (xe7.A (xe3.A h_o1))).2.1 gk14 rfl
  obtain ⟨S15, hS15⟩ : ∃ z, S11.sI o1 1 x2 = z := ⟨_, rfl⟩
  have hP : va_P D vwCl (X ++ PL cy S15) H := by rw [← hS15, ← e9]; exact hP2
  have hD : va_D A (X ++ PL cy S15) := by rw [← hS15, ← e9]; exact hD2
  have xe16 : ext S11 S15 := by rw [← hS15]; exact ext.sI _ _ _ _
  have t17 : stp ([] : List (Nat × Nat)) [o1] (o1 :: R) S S15 := by rw [← hS15]; exact t13.Ir 1 x2 List.mem_cons_self (Or.inl List.mem_cons_self)
  refine lv_aload_n hx hb dX11_init_22 rfl (lv_at hl 0 rfl) ?_
  refine lv_iload_n hx hb dX11_init_23 rfl (lv_at hl 3 rfl) ?_
  obtain ⟨k18, gk18, hk18⟩ := wGt (cy := cy) X S15 (xe16.A (xe12.A (xe7.A (xe3.A h_o1)))).1 (xe16.A (xe12.A (xe7.A (xe3.A h_o1)))).2.1
  refine va_put (D := D) (ci := 15) (v := .int x3) (ty := .int) (C := RX11) (T := TX11) (N := 7) hx hb hts hi_X11_init_X11 tyX11 tyX11_ok nmX11 hown hK hP hD hS k18 hk18 rfl 4 (by decide) (hts (.fieldLink RX11 22 "HobhouseModel$Hob" "diameter" "I") (by decide +kernel)) (fun _ h9 => h9) rfl (by decide +kernel) (rfl) (rfl) (Nat.le_of_ble_eq_true rfl) dX11_init_24 (fun H locs hP2 hD2 hS => ?_)
  have e9 := wPuI (cy := cy) (j := 4) (v := x3) hD (xe16.A (xe12.A (xe7.A (xe3.A h_o1)))).1 (xe16.A (xe12.A (xe7.A (xe3.A h_o1)))).2.1 gk18 rfl
  obtain ⟨S19, hS19⟩ : ∃ z, S15.sI o1 4 x3 = z := ⟨_, rfl⟩
  have hP : va_P D vwCl (X ++ PL cy S19) H := by rw [← hS19, ← e9]; exact hP2
  have hD : va_D A (X ++ PL cy S19) := by rw [← hS19, ← e9]; exact hD2
  have xe20 : ext S15 S19 := by rw [← hS19]; exact ext.sI _ _ _ _
  have t21 : stp ([] : List (Nat × Nat)) [o1] (o1 :: R) S S19 := by rw [← hS19]; exact t17.Ir 4 x3 List.mem_cons_self (Or.inl List.mem_cons_self)
  refine lv_aload_n hx hb dX11_init_27 rfl (lv_at hl 0 rfl) ?_
  refine lv_iload hx hb dX11_init_28 (lv_at hl 4 rfl) ?_
  obtain ⟨k22, gk22, hk22⟩ := wGt (cy := cy) X S19 (xe20.A (xe16.A (xe12.A (xe7.A (xe3.A h_o1))))).1 (xe20.A (xe16.A (xe12.A (xe7.A (xe3.A h_o1))))).2.1
  refine va_putF (D := D) (ci := 15) (v := .int x4) (ty := .int) (C := RX11) (T := TX11) (N := 7) hx hb hts hi_X11_init_X11 tyX11 tyX11_ok nmX11 hown hK hP hD hS k22 hk22 rfl 3 (by decide) (hts (.fieldLink RX11 25 "HobhouseModel$Hob" "places" "I") (by decide +kernel)) (fun _ h9 => h9) rfl hin rfl (by decide +kernel) (rfl) (rfl) (Nat.le_of_ble_eq_true rfl) dX11_init_30 (fun H locs hP2 hD2 hS => ?_)
  have e9 := wPuI (cy := cy) (j := 3) (v := x4) hD (xe20.A (xe16.A (xe12.A (xe7.A (xe3.A h_o1))))).1 (xe20.A (xe16.A (xe12.A (xe7.A (xe3.A h_o1))))).2.1 gk22 rfl
  obtain ⟨S23, hS23⟩ : ∃ z, S19.sI o1 3 x4 = z := ⟨_, rfl⟩
  have hP : va_P D vwCl (X ++ PL cy S23) H := by rw [← hS23, ← e9]; exact hP2
  have hD : va_D A (X ++ PL cy S23) := by rw [← hS23, ← e9]; exact hD2
  have xe24 : ext S19 S23 := by rw [← hS23]; exact ext.sI _ _ _ _
  have t25 : stp ([] : List (Nat × Nat)) [o1] (o1 :: R) S S23 := by rw [← hS23]; exact t21.Ir 3 x4 List.mem_cons_self (Or.inl List.mem_cons_self)
  have oo : isA S23 o1 11 := (xe24.A (xe20.A (xe16.A (xe12.A (xe7.A (xe3.A h_o1))))))
  have I0 : S23.I o1 0 = x1 := (by rw [← hS23, sI_I (by rintro ⟨e1, e2⟩; exact absurd e2 (by decide))]; rw [← hS19, sI_I (by rintro ⟨e1, e2⟩; exact absurd e2 (by decide))]; rw [← hS15, sI_I (by rintro ⟨e1, e2⟩; exact absurd e2 (by decide))]; rw [← hS11, sI_eq])
  have I1 : S23.I o1 1 = x2 := (by rw [← hS23, sI_I (by rintro ⟨e1, e2⟩; exact absurd e2 (by decide))]; rw [← hS19, sI_I (by rintro ⟨e1, e2⟩; exact absurd e2 (by decide))]; rw [← hS15, sI_eq])
  have I3 : S23.I o1 3 = x4 := (by rw [← hS23, sI_eq])
  have I4 : S23.I o1 4 = x3 := (by rw [← hS23, sI_I (by rintro ⟨e1, e2⟩; exact absurd e2 (by decide))]; rw [← hS19, sI_eq])
  have I5 : S23.I o1 5 = (0 : Int32) := (by rw [← hS23, sI_I (by rintro ⟨e1, e2⟩; exact absurd e2 (by decide))]; rw [← hS19, sI_I (by rintro ⟨e1, e2⟩; exact absurd e2 (by decide))]; rw [← hS15, sI_I (by rintro ⟨e1, e2⟩; exact absurd e2 (by decide))]; rw [← hS11, sI_I (by rintro ⟨e1, e2⟩; exact absurd e2 (by decide))]; rw [← hS6]; show S2.I o1 5 = _; rw [← hS2, nw_Io hqa1 h_o1.1]; exact hI0 5)
  have I6 : S23.I o1 6 = (0 : Int32) := (by rw [← hS23, sI_I (by rintro ⟨e1, e2⟩; exact absurd e2 (by decide))]; rw [← hS19, sI_I (by rintro ⟨e1, e2⟩; exact absurd e2 (by decide))]; rw [← hS15, sI_I (by rintro ⟨e1, e2⟩; exact absurd e2 (by decide))]; rw [← hS11, sI_I (by rintro ⟨e1, e2⟩; exact absurd e2 (by decide))]; rw [← hS6]; show S2.I o1 6 = _; rw [← hS2, nw_Io hqa1 h_o1.1]; exact hI0 6)
  have tt : stp ([] : List (Nat × Nat)) [o1] R S S23 := t25.un (okAt.of_11 oo.2.1 ⟨(by rw [f_of ((xe12.tr (xe16.tr (xe20.tr xe24))).F ((xe3.tr xe7).A h_o1) (by decide) F9)]; exact ⟨((xe12.tr (xe16.tr (xe20.tr xe24))).F ((xe3.tr xe7).A h_o1) (by decide) F9), ((xe7.tr (xe12.tr (xe16.tr (xe20.tr xe24)))).A aqa1), (((xe7.tr (xe12.tr (xe16.tr (xe20.tr xe24)))).n aqa1).trans nqa1)⟩), (by rw [I1]; exact ⟨by omega, by omega⟩), (by rw [I3]; exact ⟨by omega, by omega⟩), (by rw [I5]; exact ⟨by decide, by decide⟩)⟩)
  refine W.widen (k := 1) (n := 20) (Nat.le_of_ble_eq_true rfl) (Nat.le_of_ble_eq_true rfl) ?_
  exact W.vret hx hb hr (fun t ht hW9 => ⟨⟨S23, rfl, ⟨tt, oo, I0, I1, I3, I4, I5, I6⟩, wd_end hP hK hD ht hW9.alike⟩, hS.F ht⟩) hS.2.2 dX11_init_33 hlocks
theorem hi_X12_init_Jx4a65c : ∀ w ∈ u_ws RJx4a65c TJx4a65c 3, w ∈ wsX12_init := by decide +kernel
theorem hi_X12_init_X12 : ∀ w ∈ u_ws RX12 TX12 34, w ∈ wsX12_init := by decide +kernel
set_option maxHeartbeats 4000000 in
set_option maxRecDepth 100000 in
theorem c_X12_init (l : Launch) {e0 mi : Nat} {D : va_G} {cy : Nat → ClassId} {X : va_W} (S : wPS) (sz : Nat) (o1 : Nat) (h_o1 : isA S o1 12) (R : List Nat) (hW : wtB S (o1 :: R)) (hF0 : ∀ j, S.F o1 j = none) (hI0 : ∀ j, S.I o1 j = 0)  : Met l yX12_init wsX12_init ({ frames := 4, cells := 20, slots := 905, locals := 72 }) (va_Pc [.ref o1] (fun U => U.heap.size = sz ∧ WD D cy X (fun _ => True) S U ∧ NW U ∧ OU e0 mi (va_A (X ++ PL cy S) sz) U U.heap)) (va_Qv (fun (u : wPS) => stp ([] : List (Nat × Nat)) [o1] R S u ∧ isA u o1 12 ∧ u.I o1 15 = (0 : Int32) ∧ u.I o1 16 = (0 : Int32) ∧ u.I o1 17 = (24 : Int32) ∧ u.I o1 18 = (60 : Int32) ∧ u.I o1 19 = (0 : Int32) ∧ u.I o1 20 = (0 : Int32) ∧ u.I o1 21 = (0 : Int32) ∧ u.I o1 22 = (0 : Int32) ∧ u.I o1 23 = (0 : Int32) ∧ u.I o1 24 = (0 : Int32) ∧ u.I o1 25 = (0 : Int32) ∧ u.I o1 26 = (0 : Int32) ∧ u.F o1 77 = some e0 ∧ u.I (u.f o1 0) 2 = 0 ∧ u.I (u.f o1 1) 2 = 0 ∧ (∀ i : Nat, u.i (u.f o1 9) i = 0) ∧ (∀ i : Nat, u.i (u.f o1 10) i = 0) ∧ (∀ i : Nat, u.i (u.f o1 11) i = 0) ∧ (∀ i : Nat, u.i (u.f o1 12) i = 0) ∧ (∀ i : Nat, u.i (u.f o1 13) i = 0) ∧ (∀ i : Nat, u.i (u.f o1 14) i = 0) ∧ (∀ i : Nat, u.i (u.f o1 7) i = 0)) (fun u t => WD D cy X (va_A (X ++ PL cy S) sz) u t) (va_A (X ++ PL cy S) sz)) 20 905 (va_A (X ++ PL cy S) sz) := by
  refine Met.ofW (cc := cX12_init) (maxL := 1) (ret := none) (by decide) rfl ?_
  intro p e s m args below meth c s₁ B hml hv
  obtain ⟨rfl, hsz, ⟨hP, hK, hD0⟩, hN, hOU⟩ := hv
  have hx := B.exec
  have hb := B.bytes
  have hr := B.returns
  have hts := atoms_spec (ws := wsX12_init) B.pre
  have hown : s.vm.findClass RX12 = some m.cls := findClass_of_methodNamed (x := yX12_init) B.named
  have hlocks := B.notSynchronized
  have hin : meth.name = "<init>" := (name_of_methodNamed B.named B.method).1
  subst hsz
  have hD := hD0.self (sz := s.heap.size)
  generalize hAe : va_A (X ++ PL cy S) s.heap.size = A at hD hOU ⊢
  have hA : ∀ q : Nat, s.heap.size ≤ q → A q := fun q h => by rw [← hAe]; exact Or.inr h
  have hS : va_S A s.heap s.heap [] := va_S.rf
  have hl := lv_entry ([.ref o1]) (n := 1) (Nat.le_of_ble_eq_true rfl)
  rw [lg_entry_eq]
  generalize (lg_sl ([.ref o1]) ++ List.replicate (1 - (lg_sl ([.ref o1])).length) Slot.unset).toArray = ls at hl ⊢
  have hl : lv_has ls 1 [(0, .ref o1)] := hl
  obtain ⟨⟨ga, gZ, gX, gl, gA⟩, ⟨sa9, sZ, sX, sl9, sA⟩, cZ, eZ, eX, el, eA, hMi, hDc, ⟨pf, pZ⟩⟩ := id hOU
  have t0 : stp ([] : List (Nat × Nat)) [o1] (o1 :: R) S S := stp.rf hW
  refine lv_aload_n hx hb dX12_init_0 rfl (lv_at hl 0 rfl) ?_
  refine W.objInit hx hb hown (hts (.methodLink RX12 15 objectInit) (by decide +kernel)) (hts (.instanceMethod objectInit) (by decide +kernel)) (hts (.code objectInit ⟨#[0xb1]⟩ 1 none) (by decide +kernel)) rfl (by rw [hml]; exact hl.1) rfl dX12_init_1 (Nat.le_of_ble_eq_true rfl) (Nat.le_of_ble_eq_true rfl) ?_
  refine W.eq (g2 := F0 m 4 ls []) rfl ?_
  have e9 := gh_PL (cy := cy) (X := X) (j := 77) (v := some e0) h_o1.2.1 (by decide)
  have hP2 := hP
  have hD2 := hD
  rw [e9] at hP2 hD2
  replace e9 := Eq.refl (X ++ PL cy (S.sF o1 77 (some e0)))
  have N0 : ∀ j9, j9 ∉ ([] : List Nat) → S.F o1 j9 = none := fun j9 _ => hF0 j9
  have Z0 : ∀ j9, j9 ∉ ([] : List Nat) → S.I o1 j9 = 0 := fun j9 _ => hI0 j9
  obtain ⟨S1, hS1⟩ : ∃ z, S.sF o1 77 (some e0) = z := ⟨_, rfl⟩
  replace hP : va_P D vwCl (X ++ PL cy S1) s.heap := by rw [← hS1, ← e9]; exact hP2
  replace hD : va_D A (X ++ PL cy S1) := by rw [← hS1, ← e9]; exact hD2
  clear hP2 hD2 e9
  have xe2 : ext S S1 := by rw [← hS1]; exact ext.sF (N0 77 (by decide))
  have t3 : stp ([] : List (Nat × Nat)) [o1] (o1 :: R) S S1 := by rw [← hS1]; exact t0.F 77 e0 List.mem_cons_self (Or.inl List.mem_cons_self) (N0 77 (by decide))
  have F4 : S1.F o1 77 = some e0 := by rw [← hS1]; exact sF_eq
  refine lv_aload_n hx hb dX12_init_4 rfl (lv_at hl 0 rfl) ?_
  refine va_new (ci := 3) (fs := [.int 0, .null, .int 0]) (C := RJx4a65c) (T := TJx4a65c) (N := 3) hx hb hts hi_X12_init_Jx4a65c tyJx4a65c tyJx4a65c_ok hown (hts (.classLink RX12 21 RJx4a65c) (by decide +kernel)) (hts (.instantiable RJx4a65c 3) (by decide +kernel)) (hts (.initialized RJx4a65c) (by decide +kernel)) hK hP hD hS hA rfl (fun j hj => by rcases (show j = 0 ∨ j = 1 ∨ j = 2 by omega) with rfl | rfl | rfl <;> rfl) (Nat.le_of_ble_eq_true rfl) (Nat.le_of_ble_eq_true rfl) dX12_init_5 (fun qa5 H hP2 hD2 hS => ?_)
  have hqa5 : qa5 ∉ S1.L := nw_q hD2
  have e9 := wNw (cy := cy) (X := X) (S := S1) (a := qa5) (k := 14) (z := 10) (f := fun _ => 0) (g := fun _ => none) hqa5 rfl
  obtain ⟨S6, hS6⟩ : ∃ z, S1.nw qa5 14 10 (fun _ => 0) (fun _ => none) = z := ⟨_, rfl⟩
  replace hP : va_P D vwCl (X ++ PL cy S6) H := by rw [← hS6, ← e9]; exact hP2
  replace hD : va_D A (X ++ PL cy S6) := by rw [← hS6, ← e9]; exact hD2
  clear hP2 hD2 e9
  have xe7 : ext S1 S6 := by rw [← hS6]; exact ext.nw hqa5
  have t8 : stp ([] : List (Nat × Nat)) [o1] (qa5 :: (o1 :: R)) S S6 := by rw [← hS6]; exact t3.nw hqa5 (Or.inl (by decide))
  refine W.widen (k := 1) (n := 3) (Nat.le_of_ble_eq_true rfl) (Nat.le_of_ble_eq_true rfl) ?_
  have aqa5 : isA S6 qa5 14 := by rw [← hS6]; exact nw_A (by decide)
  have fqa5 : ∀ j, S6.F qa5 j = none := by rw [← hS6]; exact nw_F
  have iqa5 : ∀ j, S6.I qa5 j = 0 := by rw [← hS6]; exact nw_I
  have bqa5 : qa5 ∉ S.L := fun e => hqa5 (xe2 _ e).1
  have nqa5 : S6.n qa5 = 10 := by rw [← hS6]; exact nw_n
  refine lv_dup hx hb dX12_init_8 rfl ?_
  have hFc := free_all hD hS hA
  refine va_callv (va_runI (As := []) (rest := [.ref qa5, .ref o1]) ⟨hx, hb, hml, hown, hts⟩ (c_Jx4a65c_init_da8c8 l (e0 := e0) (mi := mi) (cy := cy) (X := X) (D := D) S6 _ qa5 aqa5 (o1 :: R) (t8.w) fqa5 iqa5) (cwI 0 hts gX12_init_Jx4a65c_init_da8c8 rfl rfl rfl (hts (.initialized RJx4a65c) (by decide +kernel)) (hts (.methodLink RX12 23 yJx4a65c_init_da8c8) (by decide +kernel)) (hts (.instanceMethod yJx4a65c_init_da8c8) (by decide +kernel)) rfl (by decide +kernel) ⟨Nat.le_of_ble_eq_true rfl, Nat.le_of_ble_eq_true rfl⟩) (pSo hP hK hD hN hOU hS hFc) rfl rfl hl.1 rfl (lv_room (Nat.le_of_ble_eq_true rfl)) dX12_init_9 ⟨Nat.le_of_ble_eq_true rfl, Nat.le_of_ble_eq_true rfl⟩) hS (fun q _ h => hFc q h) hFc (fun u t H1 locs ht hvm hw hB hz1 hk1 hS => ?_)
  obtain ⟨w10, y11, y12, y13, y14⟩ := hw
  obtain ⟨hP, hD⟩ := wd_post hFc ht hB
  generalize H1 = H at hP hS ⊢
  obtain ⟨S15, rfl⟩ : ∃ z, z = u := ⟨_, rfl⟩
  have t16 : stp ([] : List (Nat × Nat)) [o1] (o1 :: R) S S15 := t8.tr w10 (by decide) (fun z q => by rw [List.mem_singleton.mp q]; exact (Or.inr bqa5))
  have xe17 : ext S6 S15 := w10.x
  have xm18 : ext S S6 := xe2.tr xe7
  have xm19 : ext S S15 := xm18.tr xe17
  have am20 : isA S15 o1 12 := xm19.A h_o1
  obtain ⟨k21, gk21, hk21⟩ := wGt (cy := cy) X S15 am20.1 am20.2.1
  refine va_putF (D := D) (ci := 16) (v := .ref qa5) (ty := (tyX12 0)) (C := RX12) (T := TX12) (N := 34) hx hb hts hi_X12_init_X12 tyX12 tyX12_ok nmX12 hown hK hP hD hS k21 hk21 rfl 0 (by decide) (hts (.fieldLink RX12 24 "HobhouseModel" "gears" "Ljava/util/ArrayList;") (by decide +kernel)) (fun _ h9 => h9) rfl hin rfl (by decide +kernel) (rfl) (rfl) (Nat.le_of_ble_eq_true rfl) dX12_init_12 (fun H locs hP2 hD2 hS => ?_)
  have e9 := wPuF (cy := cy) (j := 0) (v := (some qa5)) hD am20.1 am20.2.1 gk21 rfl
  have N22 : ∀ j9, j9 ∉ (77 :: [] : List Nat) → S1.F o1 j9 = none := by rw [← hS1]; exact fun j9 h9 => (sF_ne (fun q9 => h9 (by rw [q9.2]; exact List.mem_cons_self))).trans (N0 j9 (fun q9 => h9 (List.mem_cons_of_mem _ q9)))
  have Z23 : ∀ j9, j9 ∉ ([] : List Nat) → S1.I o1 j9 = 0 := by rw [← hS1]; exact Z0
  have am26 : isA S1 o1 12 := xe2.A h_o1
  have N24 : ∀ j9, j9 ∉ (77 :: [] : List Nat) → S6.F o1 j9 = none := by rw [← hS6]; exact fun j9 h9 => (nw_Fo hqa5 am26.1).trans (N22 j9 h9)
  have Z25 : ∀ j9, j9 ∉ ([] : List Nat) → S6.I o1 j9 = 0 := by rw [← hS6]; exact fun j9 h9 => (nw_Io hqa5 am26.1).trans (Z23 j9 h9)
  have am29 : isA S6 o1 12 := xm18.A h_o1
  have N27 : ∀ j9, j9 ∉ (77 :: [] : List Nat) → S15.F o1 j9 = none := fun j9 h9 => by rw [(w10.fR o1 am29.1 (by rw [List.mem_singleton]; exact fun e => hqa5 (e ▸ am26.1))).2.2.2.resolve_left (by rw [am29.2.1]; decide)]; exact N24 j9 h9
  have Z28 : ∀ j9, j9 ∉ ([] : List Nat) → S15.I o1 j9 = 0 := fun j9 h9 => by rw [((w10.fR o1 am29.1 (by rw [List.mem_singleton]; exact fun e => hqa5 (e ▸ am26.1))).1 j9 (by rw [am29.2.1]; intro q9; simp at q9)).1]; exact Z25 j9 h9
  obtain ⟨S30, hS30⟩ : ∃ z, S15.sF o1 0 (some qa5) = z := ⟨_, rfl⟩
  replace hP : va_P D vwCl (X ++ PL cy S30) H := by rw [← hS30, ← e9]; exact hP2
  replace hD : va_D A (X ++ PL cy S30) := by rw [← hS30, ← e9]; exact hD2
  clear hP2 hD2 e9
  have xe31 : ext S15 S30 := by rw [← hS30]; exact ext.sF (N27 0 (by decide))
  have t32 : stp ([] : List (Nat × Nat)) [o1] (o1 :: R) S S30 := by rw [← hS30]; exact t16.F 0 qa5 List.mem_cons_self (Or.inl List.mem_cons_self) (N27 0 (by decide))
  have z33 : S30.I qa5 2 = 0 := by rw [← hS30]; exact y13
  have F34 : S30.F o1 0 = some qa5 := by rw [← hS30]; exact sF_eq
  refine lv_aload_n hx hb dX12_init_15 rfl (lv_at hl 0 rfl) ?_
  refine va_new (ci := 3) (fs := [.int 0, .null, .int 0]) (C := RJx4a65c) (T := TJx4a65c) (N := 3) hx hb hts hi_X12_init_Jx4a65c tyJx4a65c tyJx4a65c_ok hown (hts (.classLink RX12 21 RJx4a65c) (by decide +kernel)) (hts (.instantiable RJx4a65c 3) (by decide +kernel)) (hts (.initialized RJx4a65c) (by decide +kernel)) hK hP hD hS hA rfl (fun j hj => by rcases (show j = 0 ∨ j = 1 ∨ j = 2 by omega) with rfl | rfl | rfl <;> rfl) (Nat.le_of_ble_eq_true rfl) (Nat.le_of_ble_eq_true rfl) dX12_init_16 (fun qa35 H hP2 hD2 hS => ?_)
  have hqa35 : qa35 ∉ S30.L := nw_q hD2
  have e9 := wNw (cy := cy) (X := X) (S := S30) (a := qa35) (k := 14) (z := 11) (f := fun _ => 0) (g := fun _ => none) hqa35 rfl
  obtain ⟨S36, hS36⟩ : ∃ z, S30.nw qa35 14 11 (fun _ => 0) (fun _ => none) = z := ⟨_, rfl⟩
  replace hP : va_P D vwCl (X ++ PL cy S36) H := by rw [← hS36, ← e9]; exact hP2
  replace hD : va_D A (X ++ PL cy S36) := by rw [← hS36, ← e9]; exact hD2
  clear hP2 hD2 e9
  have xe37 : ext S30 S36 := by rw [← hS36]; exact ext.nw hqa35
  have t38 : stp ([] : List (Nat × Nat)) [o1] (qa35 :: (o1 :: R)) S S36 := by rw [← hS36]; exact t32.nw hqa35 (Or.inl (by decide))
  have am40 : isA S30 qa5 14 := xe31.A (xe17.A aqa5)
  have z39 : S36.I qa5 2 = 0 := by rw [← hS36]; exact (nw_Io hqa35 am40.1).trans z33
  refine W.widen (k := 2) (n := 6) (Nat.le_of_ble_eq_true rfl) (Nat.le_of_ble_eq_true rfl) ?_
  have aqa35 : isA S36 qa35 14 := by rw [← hS36]; exact nw_A (by decide)
  have fqa35 : ∀ j, S36.F qa35 j = none := by rw [← hS36]; exact nw_F
  have iqa35 : ∀ j, S36.I qa35 j = 0 := by rw [← hS36]; exact nw_I
  have xm41 : ext S S30 := xm19.tr xe31
  have bqa35 : qa35 ∉ S.L := fun e => hqa35 (xm41 _ e).1
  have nqa35 : S36.n qa35 = 11 := by rw [← hS36]; exact nw_n
  refine lv_dup hx hb dX12_init_19 rfl ?_
  have hFc := free_all hD hS hA
  refine va_callv (va_runI (As := []) (rest := [.ref qa35, .ref o1]) ⟨hx, hb, hml, hown, hts⟩ (c_Jx4a65c_init_da8c8 l (e0 := e0) (mi := mi) (cy := cy) (X := X) (D := D) S36 _ qa35 aqa35 (o1 :: R) (t38.w) fqa35 iqa35) (cwI 0 hts gX12_init_Jx4a65c_init_da8c8 rfl rfl rfl (hts (.initialized RJx4a65c) (by decide +kernel)) (hts (.methodLink RX12 23 yJx4a65c_init_da8c8) (by decide +kernel)) (hts (.instanceMethod yJx4a65c_init_da8c8) (by decide +kernel)) rfl (by decide +kernel) ⟨Nat.le_of_ble_eq_true rfl, Nat.le_of_ble_eq_true rfl⟩) (pSo hP hK hD hN hOU hS hFc) rfl rfl hl.1 rfl (lv_room (Nat.le_of_ble_eq_true rfl)) dX12_init_20 ⟨Nat.le_of_ble_eq_true rfl, Nat.le_of_ble_eq_true rfl⟩) hS (fun q _ h => hFc q h) hFc (fun u t H1 locs ht hvm hw hB hz1 hk1 hS => ?_)
  obtain ⟨w43, y44, y45, y46, y47⟩ := hw
  obtain ⟨hP, hD⟩ := wd_post hFc ht hB
  generalize H1 = H at hP hS ⊢
  obtain ⟨S48, rfl⟩ : ∃ z, z = u := ⟨_, rfl⟩
  have t49 : stp ([] : List (Nat × Nat)) [o1] (o1 :: R) S S48 := t38.tr w43 (by decide) (fun z q => by rw [List.mem_singleton.mp q]; exact (Or.inr bqa35))
  have xe50 : ext S36 S48 := w43.x
  have xm52 : ext S15 S36 := xe31.tr xe37
  have am53 : isA S36 qa5 14 := xm52.A (xe17.A aqa5)
  have z51 : S48.I qa5 2 = 0 := by rw [(w43.fR qa5 am53.1 (by rw [List.mem_singleton]; exact fun e => hqa35 (e ▸ am40.1))).1 2 (by rw [am53.2.1]; decide) |>.1]; exact z39
  have xm54 : ext S S36 := xm41.tr xe37
  have xm55 : ext S S48 := xm54.tr xe50
  have am56 : isA S48 o1 12 := xm55.A h_o1
  obtain ⟨k57, gk57, hk57⟩ := wGt (cy := cy) X S48 am56.1 am56.2.1
  refine va_putF (D := D) (ci := 16) (v := .ref qa35) (ty := (tyX12 1)) (C := RX12) (T := TX12) (N := 34) hx hb hts hi_X12_init_X12 tyX12 tyX12_ok nmX12 hown hK hP hD hS k57 hk57 rfl 1 (by decide) (hts (.fieldLink RX12 28 "HobhouseModel" "hobs" "Ljava/util/ArrayList;") (by decide +kernel)) (fun _ h9 => h9) rfl hin rfl (by decide +kernel) (rfl) (rfl) (Nat.le_of_ble_eq_true rfl) dX12_init_23 (fun H locs hP2 hD2 hS => ?_)
  have e9 := wPuF (cy := cy) (j := 1) (v := (some qa35)) hD am56.1 am56.2.1 gk57 rfl
  have N58 : ∀ j9, j9 ∉ (0 :: 77 :: [] : List Nat) → S30.F o1 j9 = none := by rw [← hS30]; exact fun j9 h9 => (sF_ne (fun q9 => h9 (by rw [q9.2]; exact List.mem_cons_self))).trans (N27 j9 (fun q9 => h9 (List.mem_cons_of_mem _ q9)))
  have Z59 : ∀ j9, j9 ∉ ([] : List Nat) → S30.I o1 j9 = 0 := by rw [← hS30]; exact Z28
  have am62 : isA S30 o1 12 := xm41.A h_o1
  have N60 : ∀ j9, j9 ∉ (0 :: 77 :: [] : List Nat) → S36.F o1 j9 = none := by rw [← hS36]; exact fun j9 h9 => (nw_Fo hqa35 am62.1).trans (N58 j9 h9)
  have Z61 : ∀ j9, j9 ∉ ([] : List Nat) → S36.I o1 j9 = 0 := by rw [← hS36]; exact fun j9 h9 => (nw_Io hqa35 am62.1).trans (Z59 j9 h9)
  have am65 : isA S36 o1 12 := xm54.A h_o1
  have N63 : ∀ j9, j9 ∉ (0 :: 77 :: [] : List Nat) → S48.F o1 j9 = none := fun j9 h9 => by rw [(w43.fR o1 am65.1 (by rw [List.mem_singleton]; exact fun e => hqa35 (e ▸ am62.1))).2.2.2.resolve_left (by rw [am65.2.1]; decide)]; exact N60 j9 h9
  have Z64 : ∀ j9, j9 ∉ ([] : List Nat) → S48.I o1 j9 = 0 := fun j9 h9 => by rw [((w43.fR o1 am65.1 (by rw [List.mem_singleton]; exact fun e => hqa35 (e ▸ am62.1))).1 j9 (by rw [am65.2.1]; intro q9; simp at q9)).1]; exact Z61 j9 h9
  obtain ⟨S66, hS66⟩ : ∃ z, S48.sF o1 1 (some qa35) = z := ⟨_, rfl⟩
  replace hP : va_P D vwCl (X ++ PL cy S66) H := by rw [← hS66, ← e9]; exact hP2
  replace hD : va_D A (X ++ PL cy S66) := by rw [← hS66, ← e9]; exact hD2
  clear hP2 hD2 e9
  have xe67 : ext S48 S66 := by rw [← hS66]; exact ext.sF (N63 1 (by decide))
  have t68 : stp ([] : List (Nat × Nat)) [o1] (o1 :: R) S S66 := by rw [← hS66]; exact t49.F 1 qa35 List.mem_cons_self (Or.inl List.mem_cons_self) (N63 1 (by decide))
  have z69 : S66.I qa5 2 = 0 := by rw [← hS66]; exact z51
  have z70 : S66.I qa35 2 = 0 := by rw [← hS66]; exact y46
  have F71 : S66.F o1 1 = some qa35 := by rw [← hS66]; exact sF_eq
  refine lv_aload_n hx hb dX12_init_26 rfl (lv_at hl 0 rfl) ?_
  refine lv_bipush (v := 16) hx hb dX12_init_27 (by decide +kernel) ?_
  refine va_newa (atype := .int) hx hb (hts (.arrayClass .int) (by decide +kernel)) (ty := .int) rfl hK hP hD hS hA (N' := 16) (a0 := (16, .inl (fun _ => 0))) (fun _ => rfl) (by decide) (by decide) (by decide) (Nat.le_of_ble_eq_true rfl) (Nat.le_of_ble_eq_true rfl) dX12_init_29 (fun qa72 cqa72 H hK2 hP2 hD2 hS => ?_)
  obtain rfl : cqa72 = cy 2 := cls_int hK hK2
  have hqa72 : qa72 ∉ S66.L := nw_q hD2
  have e9 := wNw (cy := cy) (X := X) (S := S66) (a := qa72) (k := 31) (z := 16) (f := fun _ => 0) (g := fun _ => none) hqa72 rfl
  obtain ⟨S73, hS73⟩ : ∃ z, S66.nw qa72 31 16 (fun _ => 0) (fun _ => none) = z := ⟨_, rfl⟩
  replace hP : va_P D vwCl (X ++ PL cy S73) H := by rw [← hS73, ← e9]; exact hP2
  replace hD : va_D A (X ++ PL cy S73) := by rw [← hS73, ← e9]; exact hD2
  clear hP2 hD2 e9
  have xe74 : ext S66 S73 := by rw [← hS73]; exact ext.nw hqa72
  have t75 : stp ([] : List (Nat × Nat)) [o1] (o1 :: R) S S73 := by rw [← hS73]; exact t68.nwA hqa72 (by decide)
  have xm77 : ext S15 S48 := xm52.tr xe50
  have xm78 : ext S15 S66 := xm77.tr xe67
  have am79 : isA S66 qa5 14 := xm78.A (xe17.A aqa5)
  have z76 : S73.I qa5 2 = 0 := by rw [← hS73]; exact (nw_Io hqa72 am79.1).trans z69
  have am81 : isA S66 qa35 14 := xe67.A (xe50.A aqa35)
  have z80 : S73.I qa35 2 = 0 := by rw [← hS73]; exact (nw_Io hqa72 am81.1).trans z70
  refine W.widen (k := 3) (n := 22) (Nat.le_of_ble_eq_true rfl) (Nat.le_of_ble_eq_true rfl) ?_
  have aqa72 : isA S73 qa72 31 := by rw [← hS73]; exact nw_A (by decide)
  have nqa72 : S73.n qa72 = 16 := by rw [← hS73]; exact nw_n
  have xm82 : ext S S66 := xm55.tr xe67
  have xm83 : ext S S73 := xm82.tr xe74
  have am84 : isA S73 o1 12 := xm83.A h_o1
  obtain ⟨k85, gk85, hk85⟩ := wGt (cy := cy) X S73 am84.1 am84.2.1
  refine va_putF (D := D) (ci := 16) (v := .ref qa72) (ty := (tyX12 2)) (C := RX12) (T := TX12) (N := 34) hx hb hts hi_X12_init_X12 tyX12 tyX12_ok nmX12 hown hK hP hD hS k85 hk85 rfl 2 (by decide) (hts (.fieldLink RX12 31 "HobhouseModel" "wheels" "[I") (by decide +kernel)) (fun _ h9 => h9) rfl hin rfl (by decide +kernel) (rfl) (rfl) (Nat.le_of_ble_eq_true rfl) dX12_init_31 (fun H locs hP2 hD2 hS => ?_)
  have e9 := wPuF (cy := cy) (j := 2) (v := (some qa72)) hD am84.1 am84.2.1 gk85 rfl
  have N86 : ∀ j9, j9 ∉ (1 :: 0 :: 77 :: [] : List Nat) → S66.F o1 j9 = none := by rw [← hS66]; exact fun j9 h9 => (sF_ne (fun q9 => h9 (by rw [q9.2]; exact List.mem_cons_self))).trans (N63 j9 (fun q9 => h9 (List.mem_cons_of_mem _ q9)))
  have Z87 : ∀ j9, j9 ∉ ([] : List Nat) → S66.I o1 j9 = 0 := by rw [← hS66]; exact Z64
  have am90 : isA S66 o1 12 := xm82.A h_o1
  have N88 : ∀ j9, j9 ∉ (1 :: 0 :: 77 :: [] : List Nat) → S73.F o1 j9 = none := by rw [← hS73]; exact fun j9 h9 => (nw_Fo hqa72 am90.1).trans (N86 j9 h9)
  have Z89 : ∀ j9, j9 ∉ ([] : List Nat) → S73.I o1 j9 = 0 := by rw [← hS73]; exact fun j9 h9 => (nw_Io hqa72 am90.1).trans (Z87 j9 h9)
  obtain ⟨S91, hS91⟩ : ∃ z, S73.sF o1 2 (some qa72) = z := ⟨_, rfl⟩
  replace hP : va_P D vwCl (X ++ PL cy S91) H := by rw [← hS91, ← e9]; exact hP2
  replace hD : va_D A (X ++ PL cy S91) := by rw [← hS91, ← e9]; exact hD2
  clear hP2 hD2 e9
  have xe92 : ext S73 S91 := by rw [← hS91]; exact ext.sF (N88 2 (by decide))
  have t93 : stp ([] : List (Nat × Nat)) [o1] (o1 :: R) S S91 := by rw [← hS91]; exact t75.F 2 qa72 List.mem_cons_self (Or.inl List.mem_cons_self) (N88 2 (by decide))
  have z94 : S91.I qa5 2 = 0 := by rw [← hS91]; exact z76
  have z95 : S91.I qa35 2 = 0 := by rw [← hS91]; exact z80
  have F96 : S91.F o1 2 = some qa72 := by rw [← hS91]; exact sF_eq
  refine lv_aload_n hx hb dX12_init_34 rfl (lv_at hl 0 rfl) ?_
  refine lv_iconst (v := 4) hx hb dX12_init_35 (by decide) ?_
  refine va_newa (atype := .int) hx hb (hts (.arrayClass .int) (by decide +kernel)) (ty := .int) rfl hK hP hD hS hA (N' := 4) (a0 := (4, .inl (fun _ => 0))) (fun _ => rfl) (by decide) (by decide) (by decide) (Nat.le_of_ble_eq_true rfl) (Nat.le_of_ble_eq_true rfl) dX12_init_36 (fun qa97 cqa97 H hK2 hP2 hD2 hS => ?_)
  obtain rfl : cqa97 = cy 2 := cls_int hK hK2
  have hqa97 : qa97 ∉ S91.L := nw_q hD2
  have e9 := wNw (cy := cy) (X := X) (S := S91) (a := qa97) (k := 17) (z := 4) (f := fun _ => 0) (g := fun _ => none) hqa97 rfl
  obtain ⟨S98, hS98⟩ : ∃ z, S91.nw qa97 17 4 (fun _ => 0) (fun _ => none) = z := ⟨_, rfl⟩
  replace hP : va_P D vwCl (X ++ PL cy S98) H := by rw [← hS98, ← e9]; exact hP2
  replace hD : va_D A (X ++ PL cy S98) := by rw [← hS98, ← e9]; exact hD2
  clear hP2 hD2 e9
  have xe99 : ext S91 S98 := by rw [← hS98]; exact ext.nw hqa97
  have t100 : stp ([] : List (Nat × Nat)) [o1] (o1 :: R) S S98 := by rw [← hS98]; exact t93.nwA hqa97 (by decide)
  have xm102 : ext S15 S73 := xm78.tr xe74
  have xm103 : ext S15 S91 := xm102.tr xe92
  have am104 : isA S91 qa5 14 := xm103.A (xe17.A aqa5)
  have z101 : S98.I qa5 2 = 0 := by rw [← hS98]; exact (nw_Io hqa97 am104.1).trans z94
  have xm106 : ext S48 S73 := xe67.tr xe74
  have xm107 : ext S48 S91 := xm106.tr xe92
  have am108 : isA S91 qa35 14 := xm107.A (xe50.A aqa35)
  have z105 : S98.I qa35 2 = 0 := by rw [← hS98]; exact (nw_Io hqa97 am108.1).trans z95
  refine W.widen (k := 4) (n := 26) (Nat.le_of_ble_eq_true rfl) (Nat.le_of_ble_eq_true rfl) ?_
  have aqa97 : isA S98 qa97 17 := by rw [← hS98]; exact nw_A (by decide)
  have nqa97 : S98.n qa97 = 4 := by rw [← hS98]; exact nw_n
  have xm109 : ext S S91 := xm83.tr xe92
  have xm110 : ext S S98 := xm109.tr xe99
  have am111 : isA S98 o1 12 := xm110.A h_o1
  obtain ⟨k112, gk112, hk112⟩ := wGt (cy := cy) X S98 am111.1 am111.2.1
  refine va_putF (D := D) (ci := 16) (v := .ref qa97) (ty := (tyX12 3)) (C := RX12) (T := TX12) (N := 34) hx hb hts hi_X12_init_X12 tyX12 tyX12_ok nmX12 hown hK hP hD hS k112 hk112 rfl 3 (by decide) (hts (.fieldLink RX12 35 "HobhouseModel" "four" "[I") (by decide +kernel)) (fun _ h9 => h9) rfl hin rfl (by decide +kernel) (rfl) (rfl) (Nat.le_of_ble_eq_true rfl) dX12_init_38 (fun H locs hP2 hD2 hS => ?_)
  have e9 := wPuF (cy := cy) (j := 3) (v := (some qa97)) hD am111.1 am111.2.1 gk112 rfl
  have N113 : ∀ j9, j9 ∉ (2 :: 1 :: 0 :: 77 :: [] : List Nat) → S91.F o1 j9 = none := by rw [← hS91]; exact fun j9 h9 => (sF_ne (fun q9 => h9 (by rw [q9.2]; exact List.mem_cons_self))).trans (N88 j9 (fun q9 => h9 (List.mem_cons_of_mem _ q9)))
  have Z114 : ∀ j9, j9 ∉ ([] : List Nat) → S91.I o1 j9 = 0 := by rw [← hS91]; exact Z89
  have am117 : isA S91 o1 12 := xm109.A h_o1
  have N115 : ∀ j9, j9 ∉ (2 :: 1 :: 0 :: 77 :: [] : List Nat) → S98.F o1 j9 = none := by rw [← hS98]; exact fun j9 h9 => (nw_Fo hqa97 am117.1).trans (N113 j9 h9)
  have Z116 : ∀ j9, j9 ∉ ([] : List Nat) → S98.I o1 j9 = 0 := by rw [← hS98]; exact fun j9 h9 => (nw_Io hqa97 am117.1).trans (Z114 j9 h9)
  obtain ⟨S118, hS118⟩ : ∃ z, S98.sF o1 3 (some qa97) = z := ⟨_, rfl⟩
  replace hP : va_P D vwCl (X ++ PL cy S118) H := by rw [← hS118, ← e9]; exact hP2
  replace hD : va_D A (X ++ PL cy S118) := by rw [← hS118, ← e9]; exact hD2
  clear hP2 hD2 e9
  have xe119 : ext S98 S118 := by rw [← hS118]; exact ext.sF (N115 3 (by decide))
  have t120 : stp ([] : List (Nat × Nat)) [o1] (o1 :: R) S S118 := by rw [← hS118]; exact t100.F 3 qa97 List.mem_cons_self (Or.inl List.mem_cons_self) (N115 3 (by decide))
  have z121 : S118.I qa5 2 = 0 := by rw [← hS118]; exact z101
  have z122 : S118.I qa35 2 = 0 := by rw [← hS118]; exact z105
  have F123 : S118.F o1 3 = some qa97 := by rw [← hS118]; exact sF_eq
  refine lv_aload_n hx hb dX12_init_41 rfl (lv_at hl 0 rfl) ?_
  refine lv_iconst (v := 4) hx hb dX12_init_42 (by decide) ?_
  refine va_newa (atype := .int) hx hb (hts (.arrayClass .int) (by decide +kernel)) (ty := .int) rfl hK hP hD hS hA (N' := 4) (a0 := (4, .inl (fun _ => 0))) (fun _ => rfl) (by decide) (by decide) (by decide) (Nat.le_of_ble_eq_true rfl) (Nat.le_of_ble_eq_true rfl) dX12_init_43 (fun qa124 cqa124 H hK2 hP2 hD2 hS => ?_)
  obtain rfl : cqa124 = cy 2 := cls_int hK hK2
  have hqa124 : qa124 ∉ S118.L := nw_q hD2
  have e9 := wNw (cy := cy) (X := X) (S := S118) (a := qa124) (k := 17) (z := 4) (f := fun _ => 0) (g := fun _ => none) hqa124 rfl
  obtain ⟨S125, hS125⟩ : ∃ z, S118.nw qa124 17 4 (fun _ => 0) (fun _ => none) = z := ⟨_, rfl⟩
  replace hP : va_P D vwCl (X ++ PL cy S125) H := by rw [← hS125, ← e9]; exact hP2
  replace hD : va_D A (X ++ PL cy S125) := by rw [← hS125, ← e9]; exact hD2
  clear hP2 hD2 e9
  have xe126 : ext S118 S125 := by rw [← hS125]; exact ext.nw hqa124
  have t127 : stp ([] : List (Nat × Nat)) [o1] (o1 :: R) S S125 := by rw [← hS125]; exact t120.nwA hqa124 (by decide)
  have xm129 : ext S15 S98 := xm103.tr xe99
  have xm130 : ext S15 S118 := xm129.tr xe119
  have am131 : isA S118 qa5 14 := xm130.A (xe17.A aqa5)
  have z128 : S125.I qa5 2 = 0 := by rw [← hS125]; exact (nw_Io hqa124 am131.1).trans z121
  have xm133 : ext S48 S98 := xm107.tr xe99
  have xm134 : ext S48 S118 := xm133.tr xe119
  have am135 : isA S118 qa35 14 := xm134.A (xe50.A aqa35)
  have z132 : S125.I qa35 2 = 0 := by rw [← hS125]; exact (nw_Io hqa124 am135.1).trans z122
  refine W.widen (k := 5) (n := 30) (Nat.le_of_ble_eq_true rfl) (Nat.le_of_ble_eq_true rfl) ?_
  have aqa124 : isA S125 qa124 17 := by rw [← hS125]; exact nw_A (by decide)
  have nqa124 : S125.n qa124 = 4 := by rw [← hS125]; exact nw_n
  have xm136 : ext S S118 := xm110.tr xe119
  have xm137 : ext S S125 := xm136.tr xe126
  have am138 : isA S125 o1 12 := xm137.A h_o1
  obtain ⟨k139, gk139, hk139⟩ := wGt (cy := cy) X S125 am138.1 am138.2.1
  refine va_putF (D := D) (ci := 16) (v := .ref qa124) (ty := (tyX12 4)) (C := RX12) (T := TX12) (N := 34) hx hb hts hi_X12_init_X12 tyX12 tyX12_ok nmX12 hown hK hP hD hS k139 hk139 rfl 4 (by decide) (hts (.fieldLink RX12 38 "HobhouseModel" "trial" "[I") (by decide +kernel)) (fun _ h9 => h9) rfl hin rfl (by decide +kernel) (rfl) (rfl) (Nat.le_of_ble_eq_true rfl) dX12_init_45 (fun H locs hP2 hD2 hS => ?_)
  have e9 := wPuF (cy := cy) (j := 4) (v := (some qa124)) hD am138.1 am138.2.1 gk139 rfl
  have N140 : ∀ j9, j9 ∉ (3 :: 2 :: 1 :: 0 :: 77 :: [] : List Nat) → S118.F o1 j9 = none := by rw [← hS118]; exact fun j9 h9 => (sF_ne (fun q9 => h9 (by rw [q9.2]; exact List.mem_cons_self))).trans (N115 j9 (fun q9 => h9 (List.mem_cons_of_mem _ q9)))
  have Z141 : ∀ j9, j9 ∉ ([] : List Nat) → S118.I o1 j9 = 0 := by rw [← hS118]; exact Z116
  have am144 : isA S118 o1 12 := xm136.A h_o1
  have N142 : ∀ j9, j9 ∉ (3 :: 2 :: 1 :: 0 :: 77 :: [] : List Nat) → S125.F o1 j9 = none := by rw [← hS125]; exact fun j9 h9 => (nw_Fo hqa124 am144.1).trans (N140 j9 h9)
  have Z143 : ∀ j9, j9 ∉ ([] : List Nat) → S125.I o1 j9 = 0 := by rw [← hS125]; exact fun j9 h9 => (nw_Io hqa124 am144.1).trans (Z141 j9 h9)
  obtain ⟨S145, hS145⟩ : ∃ z, S125.sF o1 4 (some qa124) = z := ⟨_, rfl⟩
  replace hP : va_P D vwCl (X ++ PL cy S145) H := by rw [← hS145, ← e9]; exact hP2
  replace hD : va_D A (X ++ PL cy S145) := by rw [← hS145, ← e9]; exact hD2
  clear hP2 hD2 e9
  have xe146 : ext S125 S145 := by rw [← hS145]; exact ext.sF (N142 4 (by decide))
  have t147 : stp ([] : List (Nat × Nat)) [o1] (o1 :: R) S S145 := by rw [← hS145]; exact t127.F 4 qa124 List.mem_cons_self (Or.inl List.mem_cons_self) (N142 4 (by decide))
  have z148 : S145.I qa5 2 = 0 := by rw [← hS145]; exact z128
  have z149 : S145.I qa35 2 = 0 := by rw [← hS145]; exact z132
  have F150 : S145.F o1 4 = some qa124 := by rw [← hS145]; exact sF_eq
  refine lv_aload_n hx hb dX12_init_48 rfl (lv_at hl 0 rfl) ?_
  refine lv_bipush (v := 6) hx hb dX12_init_49 (by decide +kernel) ?_
  refine va_newa (atype := .char) hx hb (hts (.arrayClass .char) (by decide +kernel)) (ty := .char) rfl hK hP hD hS hA (N' := 6) (a0 := (6, .inl (fun _ => 0))) (fun _ => rfl) (by decide) (by decide) (by decide) (Nat.le_of_ble_eq_true rfl) (Nat.le_of_ble_eq_true rfl) dX12_init_51 (fun qa151 cqa151 H hK2 hP2 hD2 hS => ?_)
  obtain rfl : cqa151 = cy 1 := cls_char hK hK2
  have hqa151 : qa151 ∉ S145.L := nw_q hD2
  have e9 := wNw (cy := cy) (X := X) (S := S145) (a := qa151) (k := 38) (z := 6) (f := fun _ => 0) (g := fun _ => none) hqa151 rfl
  obtain ⟨S152, hS152⟩ : ∃ z, S145.nw qa151 38 6 (fun _ => 0) (fun _ => none) = z := ⟨_, rfl⟩
  replace hP : va_P D vwCl (X ++ PL cy S152) H := by rw [← hS152, ← e9]; exact hP2
  replace hD : va_D A (X ++ PL cy S152) := by rw [← hS152, ← e9]; exact hD2
  clear hP2 hD2 e9
  have xe153 : ext S145 S152 := by rw [← hS152]; exact ext.nw hqa151
  have t154 : stp ([] : List (Nat × Nat)) [o1] (o1 :: R) S S152 := by rw [← hS152]; exact t147.nwA hqa151 (by decide)
  have xm156 : ext S15 S125 := xm130.tr xe126
  have xm157 : ext S15 S145 := xm156.tr xe146
  have am158 : isA S145 qa5 14 := xm157.A (xe17.A aqa5)
  have z155 : S152.I qa5 2 = 0 := by rw [← hS152]; exact (nw_Io hqa151 am158.1).trans z148
  have xm160 : ext S48 S125 := xm134.tr xe126
  have xm161 : ext S48 S145 := xm160.tr xe146
  have am162 : isA S145 qa35 14 := xm161.A (xe50.A aqa35)
  have z159 : S152.I qa35 2 = 0 := by rw [← hS152]; exact (nw_Io hqa151 am162.1).trans z149
  refine W.widen (k := 6) (n := 36) (Nat.le_of_ble_eq_true rfl) (Nat.le_of_ble_eq_true rfl) ?_
  have aqa151 : isA S152 qa151 38 := by rw [← hS152]; exact nw_A (by decide)
  have nqa151 : S152.n qa151 = 6 := by rw [← hS152]; exact nw_n
  have xm163 : ext S S145 := xm137.tr xe146
  have xm164 : ext S S152 := xm163.tr xe153
  have am165 : isA S152 o1 12 := xm164.A h_o1
  obtain ⟨k166, gk166, hk166⟩ := wGt (cy := cy) X S152 am165.1 am165.2.1
  refine va_putF (D := D) (ci := 16) (v := .ref qa151) (ty := (tyX12 5)) (C := RX12) (T := TX12) (N := 34) hx hb hts hi_X12_init_X12 tyX12 tyX12_ok nmX12 hown hK hP hD hS k166 hk166 rfl 5 (by decide) (hts (.fieldLink RX12 41 "HobhouseModel" "kinds" "[C") (by decide +kernel)) (fun _ h9 => h9) rfl hin rfl (by decide +kernel) (rfl) (rfl) (Nat.le_of_ble_eq_true rfl) dX12_init_53 (fun H locs hP2 hD2 hS => ?_)
  have e9 := wPuF (cy := cy) (j := 5) (v := (some qa151)) hD am165.1 am165.2.1 gk166 rfl
  have N167 : ∀ j9, j9 ∉ (4 :: 3 :: 2 :: 1 :: 0 :: 77 :: [] : List Nat) → S145.F o1 j9 = none := by rw [← hS145]; exact fun j9 h9 => (sF_ne (fun q9 => h9 (by rw [q9.2]; exact List.mem_cons_self))).trans (N142 j9 (fun q9 => h9 (List.mem_cons_of_mem _ q9)))
  have Z168 : ∀ j9, j9 ∉ ([] : List Nat) → S145.I o1 j9 = 0 := by rw [← hS145]; exact Z143
  have am171 : isA S145 o1 12 := xm163.A h_o1
  have N169 : ∀ j9, j9 ∉ (4 :: 3 :: 2 :: 1 :: 0 :: 77 :: [] : List Nat) → S152.F o1 j9 = none := by rw [← hS152]; exact fun j9 h9 => (nw_Fo hqa151 am171.1).trans (N167 j9 h9)
  have Z170 : ∀ j9, j9 ∉ ([] : List Nat) → S152.I o1 j9 = 0 := by rw [← hS152]; exact fun j9 h9 => (nw_Io hqa151 am171.1).trans (Z168 j9 h9)
  obtain ⟨S172, hS172⟩ : ∃ z, S152.sF o1 5 (some qa151) = z := ⟨_, rfl⟩
  replace hP : va_P D vwCl (X ++ PL cy S172) H := by rw [← hS172, ← e9]; exact hP2
  replace hD : va_D A (X ++ PL cy S172) := by rw [← hS172, ← e9]; exact hD2
  clear hP2 hD2 e9
  have xe173 : ext S152 S172 := by rw [← hS172]; exact ext.sF (N169 5 (by decide))
  have t174 : stp ([] : List (Nat × Nat)) [o1] (o1 :: R) S S172 := by rw [← hS172]; exact t154.F 5 qa151 List.mem_cons_self (Or.inl List.mem_cons_self) (N169 5 (by decide))
  have z175 : S172.I qa5 2 = 0 := by rw [← hS172]; exact z155
  have z176 : S172.I qa35 2 = 0 := by rw [← hS172]; exact z159
  have F177 : S172.F o1 5 = some qa151 := by rw [← hS172]; exact sF_eq
  refine lv_aload_n hx hb dX12_init_56 rfl (lv_at hl 0 rfl) ?_
  refine lv_bipush (v := 6) hx hb dX12_init_57 (by decide +kernel) ?_
  refine va_newa (atype := .int) hx hb (hts (.arrayClass .int) (by decide +kernel)) (ty := .int) rfl hK hP hD hS hA (N' := 6) (a0 := (6, .inl (fun _ => 0))) (fun _ => rfl) (by decide) (by decide) (by decide) (Nat.le_of_ble_eq_true rfl) (Nat.le_of_ble_eq_true rfl) dX12_init_59 (fun qa178 cqa178 H hK2 hP2 hD2 hS => ?_)
  obtain rfl : cqa178 = cy 2 := cls_int hK hK2
  have hqa178 : qa178 ∉ S172.L := nw_q hD2
  have e9 := wNw (cy := cy) (X := X) (S := S172) (a := qa178) (k := 34) (z := 6) (f := fun _ => 0) (g := fun _ => none) hqa178 rfl
  obtain ⟨S179, hS179⟩ : ∃ z, S172.nw qa178 34 6 (fun _ => 0) (fun _ => none) = z := ⟨_, rfl⟩
  replace hP : va_P D vwCl (X ++ PL cy S179) H := by rw [← hS179, ← e9]; exact hP2
  replace hD : va_D A (X ++ PL cy S179) := by rw [← hS179, ← e9]; exact hD2
  clear hP2 hD2 e9
  have xe180 : ext S172 S179 := by rw [← hS179]; exact ext.nw hqa178
  have t181 : stp ([] : List (Nat × Nat)) [o1] (o1 :: R) S S179 := by rw [← hS179]; exact t174.nwA hqa178 (by decide)
  have xm183 : ext S15 S152 := xm157.tr xe153
  have xm184 : ext S15 S172 := xm183.tr xe173
  have am185 : isA S172 qa5 14 := xm184.A (xe17.A aqa5)
  have z182 : S179.I qa5 2 = 0 := by rw [← hS179]; exact (nw_Io hqa178 am185.1).trans z175
  have xm187 : ext S48 S152 := xm161.tr xe153
  have xm188 : ext S48 S172 := xm187.tr xe173
  have am189 : isA S172 qa35 14 := xm188.A (xe50.A aqa35)
  have z186 : S179.I qa35 2 = 0 := by rw [← hS179]; exact (nw_Io hqa178 am189.1).trans z176
  refine W.widen (k := 7) (n := 42) (Nat.le_of_ble_eq_true rfl) (Nat.le_of_ble_eq_true rfl) ?_
  have aqa178 : isA S179 qa178 34 := by rw [← hS179]; exact nw_A (by decide)
  have nqa178 : S179.n qa178 = 6 := by rw [← hS179]; exact nw_n
  have xm190 : ext S S172 := xm164.tr xe173
  have xm191 : ext S S179 := xm190.tr xe180
  have am192 : isA S179 o1 12 := xm191.A h_o1
  obtain ⟨k193, gk193, hk193⟩ := wGt (cy := cy) X S179 am192.1 am192.2.1
  refine va_putF (D := D) (ci := 16) (v := .ref qa178) (ty := (tyX12 6)) (C := RX12) (T := TX12) (N := 34) hx hb hts hi_X12_init_X12 tyX12 tyX12_ok nmX12 hown hK hP hD hS k193 hk193 rfl 6 (by decide) (hts (.fieldLink RX12 45 "HobhouseModel" "times" "[I") (by decide +kernel)) (fun _ h9 => h9) rfl hin rfl (by decide +kernel) (rfl) (rfl) (Nat.le_of_ble_eq_true rfl) dX12_init_61 (fun H locs hP2 hD2 hS => ?_)
  have e9 := wPuF (cy := cy) (j := 6) (v := (some qa178)) hD am192.1 am192.2.1 gk193 rfl
  have N194 : ∀ j9, j9 ∉ (5 :: 4 :: 3 :: 2 :: 1 :: 0 :: 77 :: [] : List Nat) → S172.F o1 j9 = none := by rw [← hS172]; exact fun j9 h9 => (sF_ne (fun q9 => h9 (by rw [q9.2]; exact List.mem_cons_self))).trans (N169 j9 (fun q9 => h9 (List.mem_cons_of_mem _ q9)))
  have Z195 : ∀ j9, j9 ∉ ([] : List Nat) → S172.I o1 j9 = 0 := by rw [← hS172]; exact Z170
  have am198 : isA S172 o1 12 := xm190.A h_o1
  have N196 : ∀ j9, j9 ∉ (5 :: 4 :: 3 :: 2 :: 1 :: 0 :: 77 :: [] : List Nat) → S179.F o1 j9 = none := by rw [← hS179]; exact fun j9 h9 => (nw_Fo hqa178 am198.1).trans (N194 j9 h9)
  have Z197 : ∀ j9, j9 ∉ ([] : List Nat) → S179.I o1 j9 = 0 := by rw [← hS179]; exact fun j9 h9 => (nw_Io hqa178 am198.1).trans (Z195 j9 h9)
  obtain ⟨S199, hS199⟩ : ∃ z, S179.sF o1 6 (some qa178) = z := ⟨_, rfl⟩
  replace hP : va_P D vwCl (X ++ PL cy S199) H := by rw [← hS199, ← e9]; exact hP2
  replace hD : va_D A (X ++ PL cy S199) := by rw [← hS199, ← e9]; exact hD2
  clear hP2 hD2 e9
  have xe200 : ext S179 S199 := by rw [← hS199]; exact ext.sF (N196 6 (by decide))
  have t201 : stp ([] : List (Nat × Nat)) [o1] (o1 :: R) S S199 := by rw [← hS199]; exact t181.F 6 qa178 List.mem_cons_self (Or.inl List.mem_cons_self) (N196 6 (by decide))
  have z202 : S199.I qa5 2 = 0 := by rw [← hS199]; exact z182
  have z203 : S199.I qa35 2 = 0 := by rw [← hS199]; exact z186
  have F204 : S199.F o1 6 = some qa178 := by rw [← hS199]; exact sF_eq
  refine lv_aload_n hx hb dX12_init_64 rfl (lv_at hl 0 rfl) ?_
  refine lv_bipush (v := 6) hx hb dX12_init_65 (by decide +kernel) ?_
  refine va_newa (atype := .int) hx hb (hts (.arrayClass .int) (by decide +kernel)) (ty := .int) rfl hK hP hD hS hA (N' := 6) (a0 := (6, .inl (fun _ => 0))) (fun _ => rfl) (by decide) (by decide) (by decide) (Nat.le_of_ble_eq_true rfl) (Nat.le_of_ble_eq_true rfl) dX12_init_67 (fun qa205 cqa205 H hK2 hP2 hD2 hS => ?_)
  obtain rfl : cqa205 = cy 2 := cls_int hK hK2
  have hqa205 : qa205 ∉ S199.L := nw_q hD2
  have e9 := wNw (cy := cy) (X := X) (S := S199) (a := qa205) (k := 35) (z := 6) (f := fun _ => 0) (g := fun _ => none) hqa205 rfl
  obtain ⟨S206, hS206⟩ : ∃ z, S199.nw qa205 35 6 (fun _ => 0) (fun _ => none) = z := ⟨_, rfl⟩
  replace hP : va_P D vwCl (X ++ PL cy S206) H := by rw [← hS206, ← e9]; exact hP2
  replace hD : va_D A (X ++ PL cy S206) := by rw [← hS206, ← e9]; exact hD2
  clear hP2 hD2 e9
  have xe207 : ext S199 S206 := by rw [← hS206]; exact ext.nw hqa205
  have t208 : stp ([] : List (Nat × Nat)) [o1] (o1 :: R) S S206 := by rw [← hS206]; exact t201.nwA hqa205 (by decide)
  have xm210 : ext S15 S179 := xm184.tr xe180
  have xm211 : ext S15 S199 := xm210.tr xe200
  have am212 : isA S199 qa5 14 := xm211.A (xe17.A aqa5)
  have z209 : S206.I qa5 2 = 0 := by rw [← hS206]; exact (nw_Io hqa205 am212.1).trans z202
  have xm214 : ext S48 S179 := xm188.tr xe180
  have xm215 : ext S48 S199 := xm214.tr xe200
  have am216 : isA S199 qa35 14 := xm215.A (xe50.A aqa35)
  have z213 : S206.I qa35 2 = 0 := by rw [← hS206]; exact (nw_Io hqa205 am216.1).trans z203
  refine W.widen (k := 8) (n := 48) (Nat.le_of_ble_eq_true rfl) (Nat.le_of_ble_eq_true rfl) ?_
  have aqa205 : isA S206 qa205 35 := by rw [← hS206]; exact nw_A (by decide)
  have nqa205 : S206.n qa205 = 6 := by rw [← hS206]; exact nw_n
  have zqa205 : ∀ j9, S206.i qa205 j9 = 0 := by rw [← hS206]; exact fun j9 => congrFun (up_qq (f := S199.i)) j9
  have xm217 : ext S S199 := xm191.tr xe200
  have xm218 : ext S S206 := xm217.tr xe207
  have am219 : isA S206 o1 12 := xm218.A h_o1
  obtain ⟨k220, gk220, hk220⟩ := wGt (cy := cy) X S206 am219.1 am219.2.1
  refine va_putF (D := D) (ci := 16) (v := .ref qa205) (ty := (tyX12 7)) (C := RX12) (T := TX12) (N := 34) hx hb hts hi_X12_init_X12 tyX12 tyX12_ok nmX12 hown hK hP hD hS k220 hk220 rfl 7 (by decide) (hts (.fieldLink RX12 48 "HobhouseModel" "tools" "[I") (by decide +kernel)) (fun _ h9 => h9) rfl hin rfl (by decide +kernel) (rfl) (rfl) (Nat.le_of_ble_eq_true rfl) dX12_init_69 (fun H locs hP2 hD2 hS => ?_)
  have e9 := wPuF (cy := cy) (j := 7) (v := (some qa205)) hD am219.1 am219.2.1 gk220 rfl
  have N221 : ∀ j9, j9 ∉ (6 :: 5 :: 4 :: 3 :: 2 :: 1 :: 0 :: 77 :: [] : List Nat) → S199.F o1 j9 = none := by rw [← hS199]; exact fun j9 h9 => (sF_ne (fun q9 => h9 (by rw [q9.2]; exact List.mem_cons_self))).trans (N196 j9 (fun q9 => h9 (List.mem_cons_of_mem _ q9)))
  have Z222 : ∀ j9, j9 ∉ ([] : List Nat) → S199.I o1 j9 = 0 := by rw [← hS199]; exact Z197
  have am225 : isA S199 o1 12 := xm217.A h_o1
  have N223 : ∀ j9, j9 ∉ (6 :: 5 :: 4 :: 3 :: 2 :: 1 :: 0 :: 77 :: [] : List Nat) → S206.F o1 j9 = none := by rw [← hS206]; exact fun j9 h9 => (nw_Fo hqa205 am225.1).trans (N221 j9 h9)
  have Z224 : ∀ j9, j9 ∉ ([] : List Nat) → S206.I o1 j9 = 0 := by rw [← hS206]; exact fun j9 h9 => (nw_Io hqa205 am225.1).trans (Z222 j9 h9)
  obtain ⟨S226, hS226⟩ : ∃ z, S206.sF o1 7 (some qa205) = z := ⟨_, rfl⟩
  replace hP : va_P D vwCl (X ++ PL cy S226) H := by rw [← hS226, ← e9]; exact hP2
  replace hD : va_D A (X ++ PL cy S226) := by rw [← hS226, ← e9]; exact hD2
  clear hP2 hD2 e9
  have xe227 : ext S206 S226 := by rw [← hS226]; exact ext.sF (N223 7 (by decide))
  have t228 : stp ([] : List (Nat × Nat)) [o1] (o1 :: R) S S226 := by rw [← hS226]; exact t208.F 7 qa205 List.mem_cons_self (Or.inl List.mem_cons_self) (N223 7 (by decide))
  have z229 : ∀ j9, S226.i qa205 j9 = 0 := by rw [← hS226]; exact zqa205
  have z230 : S226.I qa5 2 = 0 := by rw [← hS226]; exact z209
  have z231 : S226.I qa35 2 = 0 := by rw [← hS226]; exact z213
  have F232 : S226.F o1 7 = some qa205 := by rw [← hS226]; exact sF_eq
  refine lv_aload_n hx hb dX12_init_72 rfl (lv_at hl 0 rfl) ?_
  refine lv_bipush (v := 6) hx hb dX12_init_73 (by decide +kernel) ?_
  refine va_newa (atype := .int) hx hb (hts (.arrayClass .int) (by decide +kernel)) (ty := .int) rfl hK hP hD hS hA (N' := 6) (a0 := (6, .inl (fun _ => 0))) (fun _ => rfl) (by decide) (by decide) (by decide) (Nat.le_of_ble_eq_true rfl) (Nat.le_of_ble_eq_true rfl) dX12_init_75 (fun qa233 cqa233 H hK2 hP2 hD2 hS => ?_)
  obtain rfl : cqa233 = cy 2 := cls_int hK hK2
  have hqa233 : qa233 ∉ S226.L := nw_q hD2
  have e9 := wNw (cy := cy) (X := X) (S := S226) (a := qa233) (k := 36) (z := 6) (f := fun _ => 0) (g := fun _ => none) hqa233 rfl
  obtain ⟨S234, hS234⟩ : ∃ z, S226.nw qa233 36 6 (fun _ => 0) (fun _ => none) = z := ⟨_, rfl⟩
  replace hP : va_P D vwCl (X ++ PL cy S234) H := by rw [← hS234, ← e9]; exact hP2
  replace hD : va_D A (X ++ PL cy S234) := by rw [← hS234, ← e9]; exact hD2
  clear hP2 hD2 e9
  have xe235 : ext S226 S234 := by rw [← hS234]; exact ext.nw hqa233
  have t236 : stp ([] : List (Nat × Nat)) [o1] (o1 :: R) S S234 := by rw [← hS234]; exact t228.nwA hqa233 (by decide)
  have am238 : isA S226 qa205 35 := xe227.A aqa205
  have z237 : ∀ j9, S234.i qa205 j9 = 0 := by rw [← hS234]; exact fun j9 => (congrFun (up_nq (f := S226.i) (fun e9 : qa205 = qa233 => hqa233 (e9 ▸ am238.1))) j9).trans (z229 j9)
  have xm240 : ext S15 S206 := xm211.tr xe207
  have xm241 : ext S15 S226 := xm240.tr xe227
  have am242 : isA S226 qa5 14 := xm241.A (xe17.A aqa5)
  have z239 : S234.I qa5 2 = 0 := by rw [← hS234]; exact (nw_Io hqa233 am242.1).trans z230
  have xm244 : ext S48 S206 := xm215.tr xe207
  have xm245 : ext S48 S226 := xm244.tr xe227
  have am246 : isA S226 qa35 14 := xm245.A (xe50.A aqa35)
  have z243 : S234.I qa35 2 = 0 := by rw [← hS234]; exact (nw_Io hqa233 am246.1).trans z231
  refine W.widen (k := 9) (n := 54) (Nat.le_of_ble_eq_true rfl) (Nat.le_of_ble_eq_true rfl) ?_
  have aqa233 : isA S234 qa233 36 := by rw [← hS234]; exact nw_A (by decide)
  have nqa233 : S234.n qa233 = 6 := by rw [← hS234]; exact nw_n
  have xm247 : ext S S226 := xm218.tr xe227
  have xm248 : ext S S234 := xm247.tr xe235
  have am249 : isA S234 o1 12 := xm248.A h_o1
  obtain ⟨k250, gk250, hk250⟩ := wGt (cy := cy) X S234 am249.1 am249.2.1
  refine va_putF (D := D) (ci := 16) (v := .ref qa233) (ty := (tyX12 8)) (C := RX12) (T := TX12) (N := 34) hx hb hts hi_X12_init_X12 tyX12 tyX12_ok nmX12 hown hK hP hD hS k250 hk250 rfl 8 (by decide) (hts (.fieldLink RX12 51 "HobhouseModel" "frees" "[I") (by decide +kernel)) (fun _ h9 => h9) rfl hin rfl (by decide +kernel) (rfl) (rfl) (Nat.le_of_ble_eq_true rfl) dX12_init_77 (fun H locs hP2 hD2 hS => ?_)
  have e9 := wPuF (cy := cy) (j := 8) (v := (some qa233)) hD am249.1 am249.2.1 gk250 rfl
  have N251 : ∀ j9, j9 ∉ (7 :: 6 :: 5 :: 4 :: 3 :: 2 :: 1 :: 0 :: 77 :: [] : List Nat) → S226.F o1 j9 = none := by rw [← hS226]; exact fun j9 h9 => (sF_ne (fun q9 => h9 (by rw [q9.2]; exact List.mem_cons_self))).trans (N223 j9 (fun q9 => h9 (List.mem_cons_of_mem _ q9)))
  have Z252 : ∀ j9, j9 ∉ ([] : List Nat) → S226.I o1 j9 = 0 := by rw [← hS226]; exact Z224
  have am255 : isA S226 o1 12 := xm247.A h_o1
  have N253 : ∀ j9, j9 ∉ (7 :: 6 :: 5 :: 4 :: 3 :: 2 :: 1 :: 0 :: 77 :: [] : List Nat) → S234.F o1 j9 = none := by rw [← hS234]; exact fun j9 h9 => (nw_Fo hqa233 am255.1).trans (N251 j9 h9)
  have Z254 : ∀ j9, j9 ∉ ([] : List Nat) → S234.I o1 j9 = 0 := by rw [← hS234]; exact fun j9 h9 => (nw_Io hqa233 am255.1).trans (Z252 j9 h9)
  obtain ⟨S256, hS256⟩ : ∃ z, S234.sF o1 8 (some qa233) = z := ⟨_, rfl⟩
  replace hP : va_P D vwCl (X ++ PL cy S256) H := by rw [← hS256, ← e9]; exact hP2
  replace hD : va_D A (X ++ PL cy S256) := by rw [← hS256, ← e9]; exact hD2
  clear hP2 hD2 e9
  have xe257 : ext S234 S256 := by rw [← hS256]; exact ext.sF (N253 8 (by decide))
  have t258 : stp ([] : List (Nat × Nat)) [o1] (o1 :: R) S S256 := by rw [← hS256]; exact t236.F 8 qa233 List.mem_cons_self (Or.inl List.mem_cons_self) (N253 8 (by decide))
  have z259 : ∀ j9, S256.i qa205 j9 = 0 := by rw [← hS256]; exact z237
  have z260 : S256.I qa5 2 = 0 := by rw [← hS256]; exact z239
  have z261 : S256.I qa35 2 = 0 := by rw [← hS256]; exact z243
  have F262 : S256.F o1 8 = some qa233 := by rw [← hS256]; exact sF_eq
  refine lv_aload_n hx hb dX12_init_80 rfl (lv_at hl 0 rfl) ?_
  refine lv_iconst (v := 4) hx hb dX12_init_81 (by decide) ?_
  refine va_newa (atype := .int) hx hb (hts (.arrayClass .int) (by decide +kernel)) (ty := .int) rfl hK hP hD hS hA (N' := 4) (a0 := (4, .inl (fun _ => 0))) (fun _ => rfl) (by decide) (by decide) (by decide) (Nat.le_of_ble_eq_true rfl) (Nat.le_of_ble_eq_true rfl) dX12_init_82 (fun qa263 cqa263 H hK2 hP2 hD2 hS => ?_)
  obtain rfl : cqa263 = cy 2 := cls_int hK hK2
  have hqa263 : qa263 ∉ S256.L := nw_q hD2
  have e9 := wNw (cy := cy) (X := X) (S := S256) (a := qa263) (k := 23) (z := 4) (f := fun _ => 0) (g := fun _ => none) hqa263 rfl
  obtain ⟨S264, hS264⟩ : ∃ z, S256.nw qa263 23 4 (fun _ => 0) (fun _ => none) = z := ⟨_, rfl⟩
  replace hP : va_P D vwCl (X ++ PL cy S264) H := by rw [← hS264, ← e9]; exact hP2
  replace hD : va_D A (X ++ PL cy S264) := by rw [← hS264, ← e9]; exact hD2
  clear hP2 hD2 e9
  have xe265 : ext S256 S264 := by rw [← hS264]; exact ext.nw hqa263
  have t266 : stp ([] : List (Nat × Nat)) [o1] (o1 :: R) S S264 := by rw [← hS264]; exact t258.nwA hqa263 (by decide)
  have xm268 : ext S206 S234 := xe227.tr xe235
  have xm269 : ext S206 S256 := xm268.tr xe257
  have am270 : isA S256 qa205 35 := xm269.A aqa205
  have z267 : ∀ j9, S264.i qa205 j9 = 0 := by rw [← hS264]; exact fun j9 => (congrFun (up_nq (f := S256.i) (fun e9 : qa205 = qa263 => hqa263 (e9 ▸ am270.1))) j9).trans (z259 j9)
  have xm272 : ext S15 S234 := xm241.tr xe235
  have xm273 : ext S15 S256 := xm272.tr xe257
  have am274 : isA S256 qa5 14 := xm273.A (xe17.A aqa5)
  have z271 : S264.I qa5 2 = 0 := by rw [← hS264]; exact (nw_Io hqa263 am274.1).trans z260
  have xm276 : ext S48 S234 := xm245.tr xe235
  have xm277 : ext S48 S256 := xm276.tr xe257
  have am278 : isA S256 qa35 14 := xm277.A (xe50.A aqa35)
  have z275 : S264.I qa35 2 = 0 := by rw [← hS264]; exact (nw_Io hqa263 am278.1).trans z261
  refine W.widen (k := 10) (n := 58) (Nat.le_of_ble_eq_true rfl) (Nat.le_of_ble_eq_true rfl) ?_
  have aqa263 : isA S264 qa263 23 := by rw [← hS264]; exact nw_A (by decide)
  have nqa263 : S264.n qa263 = 4 := by rw [← hS264]; exact nw_n
  have zqa263 : ∀ j9, S264.i qa263 j9 = 0 := by rw [← hS264]; exact fun j9 => congrFun (up_qq (f := S256.i)) j9
  have xm279 : ext S S256 := xm248.tr xe257
  have xm280 : ext S S264 := xm279.tr xe265
  have am281 : isA S264 o1 12 := xm280.A h_o1
  obtain ⟨k282, gk282, hk282⟩ := wGt (cy := cy) X S264 am281.1 am281.2.1
  refine va_putF (D := D) (ci := 16) (v := .ref qa263) (ty := (tyX12 9)) (C := RX12) (T := TX12) (N := 34) hx hb hts hi_X12_init_X12 tyX12 tyX12_ok nmX12 hown hK hP hD hS k282 hk282 rfl 9 (by decide) (hts (.fieldLink RX12 54 "HobhouseModel" "pairFirst" "[I") (by decide +kernel)) (fun _ h9 => h9) rfl hin rfl (by decide +kernel) (rfl) (rfl) (Nat.le_of_ble_eq_true rfl) dX12_init_84 (fun H locs hP2 hD2 hS => ?_)
  have e9 := wPuF (cy := cy) (j := 9) (v := (some qa263)) hD am281.1 am281.2.1 gk282 rfl
  have N283 : ∀ j9, j9 ∉ (8 :: 7 :: 6 :: 5 :: 4 :: 3 :: 2 :: 1 :: 0 :: 77 :: [] : List Nat) → S256.F o1 j9 = none := by rw [← hS256]; exact fun j9 h9 => (sF_ne (fun q9 => h9 (by rw [q9.2]; exact List.mem_cons_self))).trans (N253 j9 (fun q9 => h9 (List.mem_cons_of_mem _ q9)))
  have Z284 : ∀ j9, j9 ∉ ([] : List Nat) → S256.I o1 j9 = 0 := by rw [← hS256]; exact Z254
  have am287 : isA S256 o1 12 := xm279.A h_o1
  have N285 : ∀ j9, j9 ∉ (8 :: 7 :: 6 :: 5 :: 4 :: 3 :: 2 :: 1 :: 0 :: 77 :: [] : List Nat) → S264.F o1 j9 = none := by rw [← hS264]; exact fun j9 h9 => (nw_Fo hqa263 am287.1).trans (N283 j9 h9)
  have Z286 : ∀ j9, j9 ∉ ([] : List Nat) → S264.I o1 j9 = 0 := by rw [← hS264]; exact fun j9 h9 => (nw_Io hqa263 am287.1).trans (Z284 j9 h9)
  obtain ⟨S288, hS288⟩ : ∃ z, S264.sF o1 9 (some qa263) = z := ⟨_, rfl⟩
  replace hP : va_P D vwCl (X ++ PL cy S288) H := by rw [← hS288, ← e9]; exact hP2
  replace hD : va_D A (X ++ PL cy S288) := by rw [← hS288, ← e9]; exact hD2
  clear hP2 hD2 e9
  have xe289 : ext S264 S288 := by rw [← hS288]; exact ext.sF (N285 9 (by decide))
  have t290 : stp ([] : List (Nat × Nat)) [o1] (o1 :: R) S S288 := by rw [← hS288]; exact t266.F 9 qa263 List.mem_cons_self (Or.inl List.mem_cons_self) (N285 9 (by decide))
  have z291 : ∀ j9, S288.i qa205 j9 = 0 := by rw [← hS288]; exact z267
  have z292 : ∀ j9, S288.i qa263 j9 = 0 := by rw [← hS288]; exact zqa263
  have z293 : S288.I qa5 2 = 0 := by rw [← hS288]; exact z271
  have z294 : S288.I qa35 2 = 0 := by rw [← hS288]; exact z275
  have F295 : S288.F o1 9 = some qa263 := by rw [← hS288]; exact sF_eq
  refine lv_aload_n hx hb dX12_init_87 rfl (lv_at hl 0 rfl) ?_
  refine lv_iconst (v := 4) hx hb dX12_init_88 (by decide) ?_
  refine va_newa (atype := .int) hx hb (hts (.arrayClass .int) (by decide +kernel)) (ty := .int) rfl hK hP hD hS hA (N' := 4) (a0 := (4, .inl (fun _ => 0))) (fun _ => rfl) (by decide) (by decide) (by decide) (Nat.le_of_ble_eq_true rfl) (Nat.le_of_ble_eq_true rfl) dX12_init_89 (fun qa296 cqa296 H hK2 hP2 hD2 hS => ?_)
  obtain rfl : cqa296 = cy 2 := cls_int hK hK2
  have hqa296 : qa296 ∉ S288.L := nw_q hD2
  have e9 := wNw (cy := cy) (X := X) (S := S288) (a := qa296) (k := 23) (z := 4) (f := fun _ => 0) (g := fun _ => none) hqa296 rfl
  obtain ⟨S297, hS297⟩ : ∃ z, S288.nw qa296 23 4 (fun _ => 0) (fun _ => none) = z := ⟨_, rfl⟩
  replace hP : va_P D vwCl (X ++ PL cy S297) H := by rw [← hS297, ← e9]; exact hP2
  replace hD : va_D A (X ++ PL cy S297) := by rw [← hS297, ← e9]; exact hD2
  clear hP2 hD2 e9
  have xe298 : ext S288 S297 := by rw [← hS297]; exact ext.nw hqa296
  have t299 : stp ([] : List (Nat × Nat)) [o1] (o1 :: R) S S297 := by rw [← hS297]; exact t290.nwA hqa296 (by decide)
  have xm301 : ext S206 S264 := xm269.tr xe265
  have xm302 : ext S206 S288 := xm301.tr xe289
  have am303 : isA S288 qa205 35 := xm302.A aqa205
  have z300 : ∀ j9, S297.i qa205 j9 = 0 := by rw [← hS297]; exact fun j9 => (congrFun (up_nq (f := S288.i) (fun e9 : qa205 = qa296 => hqa296 (e9 ▸ am303.1))) j9).trans (z291 j9)
  have am305 : isA S288 qa263 23 := xe289.A aqa263
  have z304 : ∀ j9, S297.i qa263 j9 = 0 := by rw [← hS297]; exact fun j9 => (congrFun (up_nq (f := S288.i) (fun e9 : qa263 = qa296 => hqa296 (e9 ▸ am305.1))) j9).trans (z292 j9)
  have xm307 : ext S15 S264 := xm273.tr xe265
  have xm308 : ext S15 S288 := xm307.tr xe289
  have am309 : isA S288 qa5 14 := xm308.A (xe17.A aqa5)
  have z306 : S297.I qa5 2 = 0 := by rw [← hS297]; exact (nw_Io hqa296 am309.1).trans z293
  have xm311 : ext S48 S264 := xm277.tr xe265
  have xm312 : ext S48 S288 := xm311.tr xe289
  have am313 : isA S288 qa35 14 := xm312.A (xe50.A aqa35)
  have z310 : S297.I qa35 2 = 0 := by rw [← hS297]; exact (nw_Io hqa296 am313.1).trans z294
  refine W.widen (k := 11) (n := 62) (Nat.le_of_ble_eq_true rfl) (Nat.le_of_ble_eq_true rfl) ?_
  have aqa296 : isA S297 qa296 23 := by rw [← hS297]; exact nw_A (by decide)
  have nqa296 : S297.n qa296 = 4 := by rw [← hS297]; exact nw_n
  have zqa296 : ∀ j9, S297.i qa296 j9 = 0 := by rw [← hS297]; exact fun j9 => congrFun (up_qq (f := S288.i)) j9
  have xm314 : ext S S288 := xm280.tr xe289
  have xm315 : ext S S297 := xm314.tr xe298
  have am316 : isA S297 o1 12 := xm315.A h_o1
  obtain ⟨k317, gk317, hk317⟩ := wGt (cy := cy) X S297 am316.1 am316.2.1
  refine va_putF (D := D) (ci := 16) (v := .ref qa296) (ty := (tyX12 10)) (C := RX12) (T := TX12) (N := 34) hx hb hts hi_X12_init_X12 tyX12 tyX12_ok nmX12 hown hK hP hD hS k317 hk317 rfl 10 (by decide) (hts (.fieldLink RX12 57 "HobhouseModel" "pairSecond" "[I") (by decide +kernel)) (fun _ h9 => h9) rfl hin rfl (by decide +kernel) (rfl) (rfl) (Nat.le_of_ble_eq_true rfl) dX12_init_91 (fun H locs hP2 hD2 hS => ?_)
  have e9 := wPuF (cy := cy) (j := 10) (v := (some qa296)) hD am316.1 am316.2.1 gk317 rfl
  have N318 : ∀ j9, j9 ∉ (9 :: 8 :: 7 :: 6 :: 5 :: 4 :: 3 :: 2 :: 1 :: 0 :: 77 :: [] : List Nat) → S288.F o1 j9 = none := by rw [← hS288]; exact fun j9 h9 => (sF_ne (fun q9 => h9 (by rw [q9.2]; exact List.mem_cons_self))).trans (N285 j9 (fun q9 => h9 (List.mem_cons_of_mem _ q9)))
  have Z319 : ∀ j9, j9 ∉ ([] : List Nat) → S288.I o1 j9 = 0 := by rw [← hS288]; exact Z286
  have am322 : isA S288 o1 12 := xm314.A h_o1
  have N320 : ∀ j9, j9 ∉ (9 :: 8 :: 7 :: 6 :: 5 :: 4 :: 3 :: 2 :: 1 :: 0 :: 77 :: [] : List Nat) → S297.F o1 j9 = none := by rw [← hS297]; exact fun j9 h9 => (nw_Fo hqa296 am322.1).trans (N318 j9 h9)
  have Z321 : ∀ j9, j9 ∉ ([] : List Nat) → S297.I o1 j9 = 0 := by rw [← hS297]; exact fun j9 h9 => (nw_Io hqa296 am322.1).trans (Z319 j9 h9)
  obtain ⟨S323, hS323⟩ : ∃ z, S297.sF o1 10 (some qa296) = z := ⟨_, rfl⟩
  replace hP : va_P D vwCl (X ++ PL cy S323) H := by rw [← hS323, ← e9]; exact hP2
  replace hD : va_D A (X ++ PL cy S323) := by rw [← hS323, ← e9]; exact hD2
  clear hP2 hD2 e9
  have xe324 : ext S297 S323 := by rw [← hS323]; exact ext.sF (N320 10 (by decide))
  have t325 : stp ([] : List (Nat × Nat)) [o1] (o1 :: R) S S323 := by rw [← hS323]; exact t299.F 10 qa296 List.mem_cons_self (Or.inl List.mem_cons_self) (N320 10 (by decide))
  have z326 : ∀ j9, S323.i qa205 j9 = 0 := by rw [← hS323]; exact z300
  have z327 : ∀ j9, S323.i qa263 j9 = 0 := by rw [← hS323]; exact z304
  have z328 : ∀ j9, S323.i qa296 j9 = 0 := by rw [← hS323]; exact zqa296
  have z329 : S323.I qa5 2 = 0 := by rw [← hS323]; exact z306
  have z330 : S323.I qa35 2 = 0 := by rw [← hS323]; exact z310
  have F331 : S323.F o1 10 = some qa296 := by rw [← hS323]; exact sF_eq
  refine lv_aload_n hx hb dX12_init_94 rfl (lv_at hl 0 rfl) ?_
  refine lv_iconst (v := 4) hx hb dX12_init_95 (by decide) ?_
  refine va_newa (atype := .int) hx hb (hts (.arrayClass .int) (by decide +kernel)) (ty := .int) rfl hK hP hD hS hA (N' := 4) (a0 := (4, .inl (fun _ => 0))) (fun _ => rfl) (by decide) (by decide) (by decide) (Nat.le_of_ble_eq_true rfl) (Nat.le_of_ble_eq_true rfl) dX12_init_96 (fun qa332 cqa332 H hK2 hP2 hD2 hS => ?_)
  obtain rfl : cqa332 = cy 2 := cls_int hK hK2
  have hqa332 : qa332 ∉ S323.L := nw_q hD2
  have e9 := wNw (cy := cy) (X := X) (S := S323) (a := qa332) (k := 23) (z := 4) (f := fun _ => 0) (g := fun _ => none) hqa332 rfl
  obtain ⟨S333, hS333⟩ : ∃ z, S323.nw qa332 23 4 (fun _ => 0) (fun _ => none) = z := ⟨_, rfl⟩
  replace hP : va_P D vwCl (X ++ PL cy S333) H := by rw [← hS333, ← e9]; exact hP2
  replace hD : va_D A (X ++ PL cy S333) := by rw [← hS333, ← e9]; exact hD2
  clear hP2 hD2 e9
  have xe334 : ext S323 S333 := by rw [← hS333]; exact ext.nw hqa332
  have t335 : stp ([] : List (Nat × Nat)) [o1] (o1 :: R) S S333 := by rw [← hS333]; exact t325.nwA hqa332 (by decide)
  have xm337 : ext S206 S297 := xm302.tr xe298
  have xm338 : ext S206 S323 := xm337.tr xe324
  have am339 : isA S323 qa205 35 := xm338.A aqa205
  have z336 : ∀ j9, S333.i qa205 j9 = 0 := by rw [← hS333]; exact fun j9 => (congrFun (up_nq (f := S323.i) (fun e9 : qa205 = qa332 => hqa332 (e9 ▸ am339.1))) j9).trans (z326 j9)
  have xm341 : ext S264 S297 := xe289.tr xe298
  have xm342 : ext S264 S323 := xm341.tr xe324
  have am343 : isA S323 qa263 23 := xm342.A aqa263
  have z340 : ∀ j9, S333.i qa263 j9 = 0 := by rw [← hS333]; exact fun j9 => (congrFun (up_nq (f := S323.i) (fun e9 : qa263 = qa332 => hqa332 (e9 ▸ am343.1))) j9).trans (z327 j9)
  have am345 : isA S323 qa296 23 := xe324.A aqa296
  have z344 : ∀ j9, S333.i qa296 j9 = 0 := by rw [← hS333]; exact fun j9 => (congrFun (up_nq (f := S323.i) (fun e9 : qa296 = qa332 => hqa332 (e9 ▸ am345.1))) j9).trans (z328 j9)
  have xm347 : ext S15 S297 := xm308.tr xe298
  have xm348 : ext S15 S323 := xm347.tr xe324
  have am349 : isA S323 qa5 14 := xm348.A (xe17.A aqa5)
  have z346 : S333.I qa5 2 = 0 := by rw [← hS333]; exact (nw_Io hqa332 am349.1).trans z329
  have xm351 : ext S48 S297 := xm312.tr xe298
  have xm352 : ext S48 S323 := xm351.tr xe324
  have am353 : isA S323 qa35 14 := xm352.A (xe50.A aqa35)
  have z350 : S333.I qa35 2 = 0 := by rw [← hS333]; exact (nw_Io hqa332 am353.1).trans z330
  refine W.widen (k := 12) (n := 66) (Nat.le_of_ble_eq_true rfl) (Nat.le_of_ble_eq_true rfl) ?_
  have aqa332 : isA S333 qa332 23 := by rw [← hS333]; exact nw_A (by decide)
  have nqa332 : S333.n qa332 = 4 := by rw [← hS333]; exact nw_n
  have zqa332 : ∀ j9, S333.i qa332 j9 = 0 := by rw [← hS333]; exact fun j9 => congrFun (up_qq (f := S323.i)) j9
  have xm354 : ext S S323 := xm315.tr xe324
  have xm355 : ext S S333 := xm354.tr xe334
  have am356 : isA S333 o1 12 := xm355.A h_o1
  obtain ⟨k357, gk357, hk357⟩ := wGt (cy := cy) X S333 am356.1 am356.2.1
  refine va_putF (D := D) (ci := 16) (v := .ref qa332) (ty := (tyX12 11)) (C := RX12) (T := TX12) (N := 34) hx hb hts hi_X12_init_X12 tyX12 tyX12_ok nmX12 hown hK hP hD hS k357 hk357 rfl 11 (by decide) (hts (.fieldLink RX12 60 "HobhouseModel" "bestFirst" "[I") (by decide +kernel)) (fun _ h9 => h9) rfl hin rfl (by decide +kernel) (rfl) (rfl) (Nat.le_of_ble_eq_true rfl) dX12_init_98 (fun H locs hP2 hD2 hS => ?_)
  have e9 := wPuF (cy := cy) (j := 11) (v := (some qa332)) hD am356.1 am356.2.1 gk357 rfl
  have N358 : ∀ j9, j9 ∉ (10 :: 9 :: 8 :: 7 :: 6 :: 5 :: 4 :: 3 :: 2 :: 1 :: 0 :: 77 :: [] : List Nat) → S323.F o1 j9 = none := by rw [← hS323]; exact fun j9 h9 => (sF_ne (fun q9 => h9 (by rw [q9.2]; exact List.mem_cons_self))).trans (N320 j9 (fun q9 => h9 (List.mem_cons_of_mem _ q9)))
  have Z359 : ∀ j9, j9 ∉ ([] : List Nat) → S323.I o1 j9 = 0 := by rw [← hS323]; exact Z321
  have am362 : isA S323 o1 12 := xm354.A h_o1
  have N360 : ∀ j9, j9 ∉ (10 :: 9 :: 8 :: 7 :: 6 :: 5 :: 4 :: 3 :: 2 :: 1 :: 0 :: 77 :: [] : List Nat) → S333.F o1 j9 = none := by rw [← hS333]; exact fun j9 h9 => (nw_Fo hqa332 am362.1).trans (N358 j9 h9)
  have Z361 : ∀ j9, j9 ∉ ([] : List Nat) → S333.I o1 j9 = 0 := by rw [← hS333]; exact fun j9 h9 => (nw_Io hqa332 am362.1).trans (Z359 j9 h9)
  obtain ⟨S363, hS363⟩ : ∃ z, S333.sF o1 11 (some qa332) = z := ⟨_, rfl⟩
  replace hP : va_P D vwCl (X ++ PL cy S363) H := by rw [← hS363, ← e9]; exact hP2
  replace hD : va_D A (X ++ PL cy S363) := by rw [← hS363, ← e9]; exact hD2
  clear hP2 hD2 e9
  have xe364 : ext S333 S363 := by rw [← hS363]; exact ext.sF (N360 11 (by decide))
  have t365 : stp ([] : List (Nat × Nat)) [o1] (o1 :: R) S S363 := by rw [← hS363]; exact t335.F 11 qa332 List.mem_cons_self (Or.inl List.mem_cons_self) (N360 11 (by decide))
  have z366 : ∀ j9, S363.i qa205 j9 = 0 := by rw [← hS363]; exact z336
  have z367 : ∀ j9, S363.i qa263 j9 = 0 := by rw [← hS363]; exact z340
  have z368 : ∀ j9, S363.i qa296 j9 = 0 := by rw [← hS363]; exact z344
  have z369 : ∀ j9, S363.i qa332 j9 = 0 := by rw [← hS363]; exact zqa332
  have z370 : S363.I qa5 2 = 0 := by rw [← hS363]; exact z346
  have z371 : S363.I qa35 2 = 0 := by rw [← hS363]; exact z350
  have F372 : S363.F o1 11 = some qa332 := by rw [← hS363]; exact sF_eq
  refine lv_aload_n hx hb dX12_init_101 rfl (lv_at hl 0 rfl) ?_
  refine lv_iconst (v := 4) hx hb dX12_init_102 (by decide) ?_
  refine va_newa (atype := .int) hx hb (hts (.arrayClass .int) (by decide +kernel)) (ty := .int) rfl hK hP hD hS hA (N' := 4) (a0 := (4, .inl (fun _ => 0))) (fun _ => rfl) (by decide) (by decide) (by decide) (Nat.le_of_ble_eq_true rfl) (Nat.le_of_ble_eq_true rfl) dX12_init_103 (fun qa373 cqa373 H hK2 hP2 hD2 hS => ?_)
  obtain rfl : cqa373 = cy 2 := cls_int hK hK2
  have hqa373 : qa373 ∉ S363.L := nw_q hD2
  have e9 := wNw (cy := cy) (X := X) (S := S363) (a := qa373) (k := 23) (z := 4) (f := fun _ => 0) (g := fun _ => none) hqa373 rfl
  obtain ⟨S374, hS374⟩ : ∃ z, S363.nw qa373 23 4 (fun _ => 0) (fun _ => none) = z := ⟨_, rfl⟩
  replace hP : va_P D vwCl (X ++ PL cy S374) H := by rw [← hS374, ← e9]; exact hP2
  replace hD : va_D A (X ++ PL cy S374) := by rw [← hS374, ← e9]; exact hD2
  clear hP2 hD2 e9
  have xe375 : ext S363 S374 := by rw [← hS374]; exact ext.nw hqa373
  have t376 : stp ([] : List (Nat × Nat)) [o1] (o1 :: R) S S374 := by rw [← hS374]; exact t365.nwA hqa373 (by decide)
  have xm378 : ext S206 S333 := xm338.tr xe334
  have xm379 : ext S206 S363 := xm378.tr xe364
  have am380 : isA S363 qa205 35 := xm379.A aqa205
  have z377 : ∀ j9, S374.i qa205 j9 = 0 := by rw [← hS374]; exact fun j9 => (congrFun (up_nq (f := S363.i) (fun e9 : qa205 = qa373 => hqa373 (e9 ▸ am380.1))) j9).trans (z366 j9)
  have xm382 : ext S264 S333 := xm342.tr xe334
  have xm383 : ext S264 S363 := xm382.tr xe364
  have am384 : isA S363 qa263 23 := xm383.A aqa263
  have z381 : ∀ j9, S374.i qa263 j9 = 0 := by rw [← hS374]; exact fun j9 => (congrFun (up_nq (f := S363.i) (fun e9 : qa263 = qa373 => hqa373 (e9 ▸ am384.1))) j9).trans (z367 j9)
  have xm386 : ext S297 S333 := xe324.tr xe334
  have xm387 : ext S297 S363 := xm386.tr xe364
  have am388 : isA S363 qa296 23 := xm387.A aqa296
  have z385 : ∀ j9, S374.i qa296 j9 = 0 := by rw [← hS374]; exact fun j9 => (congrFun (up_nq (f := S363.i) (fun e9 : qa296 = qa373 => hqa373 (e9 ▸ am388.1))) j9).trans (z368 j9)
  have am390 : isA S363 qa332 23 := xe364.A aqa332
  have z389 : ∀ j9, S374.i qa332 j9 = 0 := by rw [← hS374]; exact fun j9 => (congrFun (up_nq (f := S363.i) (fun e9 : qa332 = qa373 => hqa373 (e9 ▸ am390.1))) j9).trans (z369 j9)
  have xm392 : ext S15 S333 := xm348.tr xe334
  have xm393 : ext S15 S363 := xm392.tr xe364
  have am394 : isA S363 qa5 14 := xm393.A (xe17.A aqa5)
  have z391 : S374.I qa5 2 = 0 := by rw [← hS374]; exact (nw_Io hqa373 am394.1).trans z370
  have xm396 : ext S48 S333 := xm352.tr xe334
  have xm397 : ext S48 S363 := xm396.tr xe364
  have am398 : isA S363 qa35 14 := xm397.A (xe50.A aqa35)
  have z395 : S374.I qa35 2 = 0 := by rw [← hS374]; exact (nw_Io hqa373 am398.1).trans z371
  refine W.widen (k := 13) (n := 70) (Nat.le_of_ble_eq_true rfl) (Nat.le_of_ble_eq_true rfl) ?_
  have aqa373 : isA S374 qa373 23 := by rw [← hS374]; exact nw_A (by decide)
  have nqa373 : S374.n qa373 = 4 := by rw [← hS374]; exact nw_n
  have zqa373 : ∀ j9, S374.i qa373 j9 = 0 := by rw [← hS374]; exact fun j9 => congrFun (up_qq (f := S363.i)) j9
  have xm399 : ext S S363 := xm355.tr xe364
  have xm400 : ext S S374 := xm399.tr xe375
  have am401 : isA S374 o1 12 := xm400.A h_o1
  obtain ⟨k402, gk402, hk402⟩ := wGt (cy := cy) X S374 am401.1 am401.2.1
  refine va_putF (D := D) (ci := 16) (v := .ref qa373) (ty := (tyX12 12)) (C := RX12) (T := TX12) (N := 34) hx hb hts hi_X12_init_X12 tyX12 tyX12_ok nmX12 hown hK hP hD hS k402 hk402 rfl 12 (by decide) (hts (.fieldLink RX12 63 "HobhouseModel" "bestSecond" "[I") (by decide +kernel)) (fun _ h9 => h9) rfl hin rfl (by decide +kernel) (rfl) (rfl) (Nat.le_of_ble_eq_true rfl) dX12_init_105 (fun H locs hP2 hD2 hS => ?_)
  have e9 := wPuF (cy := cy) (j := 12) (v := (some qa373)) hD am401.1 am401.2.1 gk402 rfl
  have N403 : ∀ j9, j9 ∉ (11 :: 10 :: 9 :: 8 :: 7 :: 6 :: 5 :: 4 :: 3 :: 2 :: 1 :: 0 :: 77 :: [] : List Nat) → S363.F o1 j9 = none := by rw [← hS363]; exact fun j9 h9 => (sF_ne (fun q9 => h9 (by rw [q9.2]; exact List.mem_cons_self))).trans (N360 j9 (fun q9 => h9 (List.mem_cons_of_mem _ q9)))
  have Z404 : ∀ j9, j9 ∉ ([] : List Nat) → S363.I o1 j9 = 0 := by rw [← hS363]; exact Z361
  have am407 : isA S363 o1 12 := xm399.A h_o1
  have N405 : ∀ j9, j9 ∉ (11 :: 10 :: 9 :: 8 :: 7 :: 6 :: 5 :: 4 :: 3 :: 2 :: 1 :: 0 :: 77 :: [] : List Nat) → S374.F o1 j9 = none := by rw [← hS374]; exact fun j9 h9 => (nw_Fo hqa373 am407.1).trans (N403 j9 h9)
  have Z406 : ∀ j9, j9 ∉ ([] : List Nat) → S374.I o1 j9 = 0 := by rw [← hS374]; exact fun j9 h9 => (nw_Io hqa373 am407.1).trans (Z404 j9 h9)
  obtain ⟨S408, hS408⟩ : ∃ z, S374.sF o1 12 (some qa373) = z := ⟨_, rfl⟩
  replace hP : va_P D vwCl (X ++ PL cy S408) H := by rw [← hS408, ← e9]; exact hP2
  replace hD : va_D A (X ++ PL cy S408) := by rw [← hS408, ← e9]; exact hD2
  clear hP2 hD2 e9
  have xe409 : ext S374 S408 := by rw [← hS408]; exact ext.sF (N405 12 (by decide))
  have t410 : stp ([] : List (Nat × Nat)) [o1] (o1 :: R) S S408 := by rw [← hS408]; exact t376.F 12 qa373 List.mem_cons_self (Or.inl List.mem_cons_self) (N405 12 (by decide))
  have z411 : ∀ j9, S408.i qa205 j9 = 0 := by rw [← hS408]; exact z377
  have z412 : ∀ j9, S408.i qa263 j9 = 0 := by rw [← hS408]; exact z381
  have z413 : ∀ j9, S408.i qa296 j9 = 0 := by rw [← hS408]; exact z385
  have z414 : ∀ j9, S408.i qa332 j9 = 0 := by rw [← hS408]; exact z389
  have z415 : ∀ j9, S408.i qa373 j9 = 0 := by rw [← hS408]; exact zqa373
  have z416 : S408.I qa5 2 = 0 := by rw [← hS408]; exact z391
  have z417 : S408.I qa35 2 = 0 := by rw [← hS408]; exact z395
  have F418 : S408.F o1 12 = some qa373 := by rw [← hS408]; exact sF_eq
  refine lv_aload_n hx hb dX12_init_108 rfl (lv_at hl 0 rfl) ?_
  refine lv_iconst (v := 5) hx hb dX12_init_109 (by decide) ?_
  refine va_newa (atype := .int) hx hb (hts (.arrayClass .int) (by decide +kernel)) (ty := .int) rfl hK hP hD hS hA (N' := 5) (a0 := (5, .inl (fun _ => 0))) (fun _ => rfl) (by decide) (by decide) (by decide) (Nat.le_of_ble_eq_true rfl) (Nat.le_of_ble_eq_true rfl) dX12_init_110 (fun qa419 cqa419 H hK2 hP2 hD2 hS => ?_)
  obtain rfl : cqa419 = cy 2 := cls_int hK hK2
  have hqa419 : qa419 ∉ S408.L := nw_q hD2
  have e9 := wNw (cy := cy) (X := X) (S := S408) (a := qa419) (k := 23) (z := 5) (f := fun _ => 0) (g := fun _ => none) hqa419 rfl
  obtain ⟨S420, hS420⟩ : ∃ z, S408.nw qa419 23 5 (fun _ => 0) (fun _ => none) = z := ⟨_, rfl⟩
  replace hP : va_P D vwCl (X ++ PL cy S420) H := by rw [← hS420, ← e9]; exact hP2
  replace hD : va_D A (X ++ PL cy S420) := by rw [← hS420, ← e9]; exact hD2
  clear hP2 hD2 e9
  have xe421 : ext S408 S420 := by rw [← hS420]; exact ext.nw hqa419
  have t422 : stp ([] : List (Nat × Nat)) [o1] (o1 :: R) S S420 := by rw [← hS420]; exact t410.nwA hqa419 (by decide)
  have xm424 : ext S206 S374 := xm379.tr xe375
  have xm425 : ext S206 S408 := xm424.tr xe409
  have am426 : isA S408 qa205 35 := xm425.A aqa205
  have z423 : ∀ j9, S420.i qa205 j9 = 0 := by rw [← hS420]; exact fun j9 => (congrFun (up_nq (f := S408.i) (fun e9 : qa205 = qa419 => hqa419 (e9 ▸ am426.1))) j9).trans (z411 j9)
  have xm428 : ext S264 S374 := xm383.tr xe375
  have xm429 : ext S264 S408 := xm428.tr xe409
  have am430 : isA S408 qa263 23 := xm429.A aqa263
  have z427 : ∀ j9, S420.i qa263 j9 = 0 := by rw [← hS420]; exact fun j9 => (congrFun (up_nq (f := S408.i) (fun e9 : qa263 = qa419 => hqa419 (e9 ▸ am430.1))) j9).trans (z412 j9)
  have xm432 : ext S297 S374 := xm387.tr xe375
  have xm433 : ext S297 S408 := xm432.tr xe409
  have am434 : isA S408 qa296 23 := xm433.A aqa296
  have z431 : ∀ j9, S420.i qa296 j9 = 0 := by rw [← hS420]; exact fun j9 => (congrFun (up_nq (f := S408.i) (fun e9 : qa296 = qa419 => hqa419 (e9 ▸ am434.1))) j9).trans (z413 j9)
  have xm436 : ext S333 S374 := xe364.tr xe375
  have xm437 : ext S333 S408 := xm436.tr xe409
  have am438 : isA S408 qa332 23 := xm437.A aqa332
  have z435 : ∀ j9, S420.i qa332 j9 = 0 := by rw [← hS420]; exact fun j9 => (congrFun (up_nq (f := S408.i) (fun e9 : qa332 = qa419 => hqa419 (e9 ▸ am438.1))) j9).trans (z414 j9)
  have am440 : isA S408 qa373 23 := xe409.A aqa373
  have z439 : ∀ j9, S420.i qa373 j9 = 0 := by rw [← hS420]; exact fun j9 => (congrFun (up_nq (f := S408.i) (fun e9 : qa373 = qa419 => hqa419 (e9 ▸ am440.1))) j9).trans (z415 j9)
  have xm442 : ext S15 S374 := xm393.tr xe375
  have xm443 : ext S15 S408 := xm442.tr xe409
  have am444 : isA S408 qa5 14 := xm443.A (xe17.A aqa5)
  have z441 : S420.I qa5 2 = 0 := by rw [← hS420]; exact (nw_Io hqa419 am444.1).trans z416
  have xm446 : ext S48 S374 := xm397.tr xe375
  have xm447 : ext S48 S408 := xm446.tr xe409
  have am448 : isA S408 qa35 14 := xm447.A (xe50.A aqa35)
  have z445 : S420.I qa35 2 = 0 := by rw [← hS420]; exact (nw_Io hqa419 am448.1).trans z417
  refine W.widen (k := 14) (n := 75) (Nat.le_of_ble_eq_true rfl) (Nat.le_of_ble_eq_true rfl) ?_
  have aqa419 : isA S420 qa419 23 := by rw [← hS420]; exact nw_A (by decide)
  have nqa419 : S420.n qa419 = 5 := by rw [← hS420]; exact nw_n
  have zqa419 : ∀ j9, S420.i qa419 j9 = 0 := by rw [← hS420]; exact fun j9 => congrFun (up_qq (f := S408.i)) j9
  have xm449 : ext S S408 := xm400.tr xe409
  have xm450 : ext S S420 := xm449.tr xe421
  have am451 : isA S420 o1 12 := xm450.A h_o1
  obtain ⟨k452, gk452, hk452⟩ := wGt (cy := cy) X S420 am451.1 am451.2.1
  refine va_putF (D := D) (ci := 16) (v := .ref qa419) (ty := (tyX12 13)) (C := RX12) (T := TX12) (N := 34) hx hb hts hi_X12_init_X12 tyX12 tyX12_ok nmX12 hown hK hP hD hS k452 hk452 rfl 13 (by decide) (hts (.fieldLink RX12 66 "HobhouseModel" "firsts" "[I") (by decide +kernel)) (fun _ h9 => h9) rfl hin rfl (by decide +kernel) (rfl) (rfl) (Nat.le_of_ble_eq_true rfl) dX12_init_112 (fun H locs hP2 hD2 hS => ?_)
  have e9 := wPuF (cy := cy) (j := 13) (v := (some qa419)) hD am451.1 am451.2.1 gk452 rfl
  have N453 : ∀ j9, j9 ∉ (12 :: 11 :: 10 :: 9 :: 8 :: 7 :: 6 :: 5 :: 4 :: 3 :: 2 :: 1 :: 0 :: 77 :: [] : List Nat) → S408.F o1 j9 = none := by rw [← hS408]; exact fun j9 h9 => (sF_ne (fun q9 => h9 (by rw [q9.2]; exact List.mem_cons_self))).trans (N405 j9 (fun q9 => h9 (List.mem_cons_of_mem _ q9)))
  have Z454 : ∀ j9, j9 ∉ ([] : List Nat) → S408.I o1 j9 = 0 := by rw [← hS408]; exact Z406
  have am457 : isA S408 o1 12 := xm449.A h_o1
  have N455 : ∀ j9, j9 ∉ (12 :: 11 :: 10 :: 9 :: 8 :: 7 :: 6 :: 5 :: 4 :: 3 :: 2 :: 1 :: 0 :: 77 :: [] : List Nat) → S420.F o1 j9 = none := by rw [← hS420]; exact fun j9 h9 => (nw_Fo hqa419 am457.1).trans (N453 j9 h9)
  have Z456 : ∀ j9, j9 ∉ ([] : List Nat) → S420.I o1 j9 = 0 := by rw [← hS420]; exact fun j9 h9 => (nw_Io hqa419 am457.1).trans (Z454 j9 h9)
  obtain ⟨S458, hS458⟩ : ∃ z, S420.sF o1 13 (some qa419) = z := ⟨_, rfl⟩
  replace hP : va_P D vwCl (X ++ PL cy S458) H := by rw [← hS458, ← e9]; exact hP2
  replace hD : va_D A (X ++ PL cy S458) := by rw [← hS458, ← e9]; exact hD2
  clear hP2 hD2 e9
  have xe459 : ext S420 S458 := by rw [← hS458]; exact ext.sF (N455 13 (by decide))
  have t460 : stp ([] : List (Nat × Nat)) [o1] (o1 :: R) S S458 := by rw [← hS458]; exact t422.F 13 qa419 List.mem_cons_self (Or.inl List.mem_cons_self) (N455 13 (by decide))
  have z461 : ∀ j9, S458.i qa205 j9 = 0 := by rw [← hS458]; exact z423
  have z462 : ∀ j9, S458.i qa263 j9 = 0 := by rw [← hS458]; exact z427
  have z463 : ∀ j9, S458.i qa296 j9 = 0 := by rw [← hS458]; exact z431
  have z464 : ∀ j9, S458.i qa332 j9 = 0 := by rw [← hS458]; exact z435
  have z465 : ∀ j9, S458.i qa373 j9 = 0 := by rw [← hS458]; exact z439
  have z466 : ∀ j9, S458.i qa419 j9 = 0 := by rw [← hS458]; exact zqa419
  have z467 : S458.I qa5 2 = 0 := by rw [← hS458]; exact z441
  have z468 : S458.I qa35 2 = 0 := by rw [← hS458]; exact z445
  have F469 : S458.F o1 13 = some qa419 := by rw [← hS458]; exact sF_eq
  refine lv_aload_n hx hb dX12_init_115 rfl (lv_at hl 0 rfl) ?_
  refine lv_iconst (v := 5) hx hb dX12_init_116 (by decide) ?_
  refine va_newa (atype := .int) hx hb (hts (.arrayClass .int) (by decide +kernel)) (ty := .int) rfl hK hP hD hS hA (N' := 5) (a0 := (5, .inl (fun _ => 0))) (fun _ => rfl) (by decide) (by decide) (by decide) (Nat.le_of_ble_eq_true rfl) (Nat.le_of_ble_eq_true rfl) dX12_init_117 (fun qa470 cqa470 H hK2 hP2 hD2 hS => ?_)
  obtain rfl : cqa470 = cy 2 := cls_int hK hK2
  have hqa470 : qa470 ∉ S458.L := nw_q hD2
  have e9 := wNw (cy := cy) (X := X) (S := S458) (a := qa470) (k := 23) (z := 5) (f := fun _ => 0) (g := fun _ => none) hqa470 rfl
  obtain ⟨S471, hS471⟩ : ∃ z, S458.nw qa470 23 5 (fun _ => 0) (fun _ => none) = z := ⟨_, rfl⟩
  replace hP : va_P D vwCl (X ++ PL cy S471) H := by rw [← hS471, ← e9]; exact hP2
  replace hD : va_D A (X ++ PL cy S471) := by rw [← hS471, ← e9]; exact hD2
  clear hP2 hD2 e9
  have xe472 : ext S458 S471 := by rw [← hS471]; exact ext.nw hqa470
  have t473 : stp ([] : List (Nat × Nat)) [o1] (o1 :: R) S S471 := by rw [← hS471]; exact t460.nwA hqa470 (by decide)
  have xm475 : ext S206 S420 := xm425.tr xe421
  have xm476 : ext S206 S458 := xm475.tr xe459
  have am477 : isA S458 qa205 35 := xm476.A aqa205
  have z474 : ∀ j9, S471.i qa205 j9 = 0 := by rw [← hS471]; exact fun j9 => (congrFun (up_nq (f := S458.i) (fun e9 : qa205 = qa470 => hqa470 (e9 ▸ am477.1))) j9).trans (z461 j9)
  have xm479 : ext S264 S420 := xm429.tr xe421
  have xm480 : ext S264 S458 := xm479.tr xe459
  have am481 : isA S458 qa263 23 := xm480.A aqa263
  have z478 : ∀ j9, S471.i qa263 j9 = 0 := by rw [← hS471]; exact fun j9 => (congrFun (up_nq (f := S458.i) (fun e9 : qa263 = qa470 => hqa470 (e9 ▸ am481.1))) j9).trans (z462 j9)
  have xm483 : ext S297 S420 := xm433.tr xe421
  have xm484 : ext S297 S458 := xm483.tr xe459
  have am485 : isA S458 qa296 23 := xm484.A aqa296
  have z482 : ∀ j9, S471.i qa296 j9 = 0 := by rw [← hS471]; exact fun j9 => (congrFun (up_nq (f := S458.i) (fun e9 : qa296 = qa470 => hqa470 (e9 ▸ am485.1))) j9).trans (z463 j9)
  have xm487 : ext S333 S420 := xm437.tr xe421
  have xm488 : ext S333 S458 := xm487.tr xe459
  have am489 : isA S458 qa332 23 := xm488.A aqa332
  have z486 : ∀ j9, S471.i qa332 j9 = 0 := by rw [← hS471]; exact fun j9 => (congrFun (up_nq (f := S458.i) (fun e9 : qa332 = qa470 => hqa470 (e9 ▸ am489.1))) j9).trans (z464 j9)
  have xm491 : ext S374 S420 := xe409.tr xe421
  have xm492 : ext S374 S458 := xm491.tr xe459
  have am493 : isA S458 qa373 23 := xm492.A aqa373
  have z490 : ∀ j9, S471.i qa373 j9 = 0 := by rw [← hS471]; exact fun j9 => (congrFun (up_nq (f := S458.i) (fun e9 : qa373 = qa470 => hqa470 (e9 ▸ am493.1))) j9).trans (z465 j9)
  have am495 : isA S458 qa419 23 := xe459.A aqa419
  have z494 : ∀ j9, S471.i qa419 j9 = 0 := by rw [← hS471]; exact fun j9 => (congrFun (up_nq (f := S458.i) (fun e9 : qa419 = qa470 => hqa470 (e9 ▸ am495.1))) j9).trans (z466 j9)
  have xm497 : ext S15 S420 := xm443.tr xe421
  have xm498 : ext S15 S458 := xm497.tr xe459
  have am499 : isA S458 qa5 14 := xm498.A (xe17.A aqa5)
  have z496 : S471.I qa5 2 = 0 := by rw [← hS471]; exact (nw_Io hqa470 am499.1).trans z467
  have xm501 : ext S48 S420 := xm447.tr xe421
  have xm502 : ext S48 S458 := xm501.tr xe459
  have am503 : isA S458 qa35 14 := xm502.A (xe50.A aqa35)
  have z500 : S471.I qa35 2 = 0 := by rw [← hS471]; exact (nw_Io hqa470 am503.1).trans z468
  refine W.widen (k := 15) (n := 80) (Nat.le_of_ble_eq_true rfl) (Nat.le_of_ble_eq_true rfl) ?_
  have aqa470 : isA S471 qa470 23 := by rw [← hS471]; exact nw_A (by decide)
  have nqa470 : S471.n qa470 = 5 := by rw [← hS471]; exact nw_n
  have zqa470 : ∀ j9, S471.i qa470 j9 = 0 := by rw [← hS471]; exact fun j9 => congrFun (up_qq (f := S458.i)) j9
  have xm504 : ext S S458 := xm450.tr xe459
  have xm505 : ext S S471 := xm504.tr xe472
  have am506 : isA S471 o1 12 := xm505.A h_o1
  obtain ⟨k507, gk507, hk507⟩ := wGt (cy := cy) X S471 am506.1 am506.2.1
  refine va_putF (D := D) (ci := 16) (v := .ref qa470) (ty := (tyX12 14)) (C := RX12) (T := TX12) (N := 34) hx hb hts hi_X12_init_X12 tyX12 tyX12_ok nmX12 hown hK hP hD hS k507 hk507 rfl 14 (by decide) (hts (.fieldLink RX12 69 "HobhouseModel" "seconds" "[I") (by decide +kernel)) (fun _ h9 => h9) rfl hin rfl (by decide +kernel) (rfl) (rfl) (Nat.le_of_ble_eq_true rfl) dX12_init_119 (fun H locs hP2 hD2 hS => ?_)
  have e9 := wPuF (cy := cy) (j := 14) (v := (some qa470)) hD am506.1 am506.2.1 gk507 rfl
  have N508 : ∀ j9, j9 ∉ (13 :: 12 :: 11 :: 10 :: 9 :: 8 :: 7 :: 6 :: 5 :: 4 :: 3 :: 2 :: 1 :: 0 :: 77 :: [] : List Nat) → S458.F o1 j9 = none := by rw [← hS458]; exact fun j9 h9 => (sF_ne (fun q9 => h9 (by rw [q9.2]; exact List.mem_cons_self))).trans (N455 j9 (fun q9 => h9 (List.mem_cons_of_mem _ q9)))
  have Z509 : ∀ j9, j9 ∉ ([] : List Nat) → S458.I o1 j9 = 0 := by rw [← hS458]; exact Z456
  have am512 : isA S458 o1 12 := xm504.A h_o1
  have N510 : ∀ j9, j9 ∉ (13 :: 12 :: 11 :: 10 :: 9 :: 8 :: 7 :: 6 :: 5 :: 4 :: 3 :: 2 :: 1 :: 0 :: 77 :: [] : List Nat) → S471.F o1 j9 = none := by rw [← hS471]; exact fun j9 h9 => (nw_Fo hqa470 am512.1).trans (N508 j9 h9)
  have Z511 : ∀ j9, j9 ∉ ([] : List Nat) → S471.I o1 j9 = 0 := by rw [← hS471]; exact fun j9 h9 => (nw_Io hqa470 am512.1).trans (Z509 j9 h9)
  obtain ⟨S513, hS513⟩ : ∃ z, S471.sF o1 14 (some qa470) = z := ⟨_, rfl⟩
  replace hP : va_P D vwCl (X ++ PL cy S513) H := by rw [← hS513, ← e9]; exact hP2
  replace hD : va_D A (X ++ PL cy S513) := by rw [← hS513, ← e9]; exact hD2
  clear hP2 hD2 e9
  have xe514 : ext S471 S513 := by rw [← hS513]; exact ext.sF (N510 14 (by decide))
  have t515 : stp ([] : List (Nat × Nat)) [o1] (o1 :: R) S S513 := by rw [← hS513]; exact t473.F 14 qa470 List.mem_cons_self (Or.inl List.mem_cons_self) (N510 14 (by decide))
  have z516 : ∀ j9, S513.i qa205 j9 = 0 := by rw [← hS513]; exact z474
  have z517 : ∀ j9, S513.i qa263 j9 = 0 := by rw [← hS513]; exact z478
  have z518 : ∀ j9, S513.i qa296 j9 = 0 := by rw [← hS513]; exact z482
  have z519 : ∀ j9, S513.i qa332 j9 = 0 := by rw [← hS513]; exact z486
  have z520 : ∀ j9, S513.i qa373 j9 = 0 := by rw [← hS513]; exact z490
  have z521 : ∀ j9, S513.i qa419 j9 = 0 := by rw [← hS513]; exact z494
  have z522 : ∀ j9, S513.i qa470 j9 = 0 := by rw [← hS513]; exact zqa470
  have z523 : S513.I qa5 2 = 0 := by rw [← hS513]; exact z496
  have z524 : S513.I qa35 2 = 0 := by rw [← hS513]; exact z500
  have F525 : S513.F o1 14 = some qa470 := by rw [← hS513]; exact sF_eq
  refine lv_aload_n hx hb dX12_init_122 rfl (lv_at hl 0 rfl) ?_
  refine lv_bipush (v := 24) hx hb dX12_init_123 (by decide +kernel) ?_
  have xm526 : ext S S513 := xm505.tr xe514
  have am527 : isA S513 o1 12 := xm526.A h_o1
  obtain ⟨k528, gk528, hk528⟩ := wGt (cy := cy) X S513 am527.1 am527.2.1
  refine va_put (D := D) (ci := 16) (v := .int (24 : Int32)) (ty := .int) (C := RX12) (T := TX12) (N := 34) hx hb hts hi_X12_init_X12 tyX12 tyX12_ok nmX12 hown hK hP hD hS k528 hk528 rfl 17 (by decide) (hts (.fieldLink RX12 72 "HobhouseModel" "constant" "I") (by decide +kernel)) (fun _ h9 => h9) rfl (by decide +kernel) (rfl) (rfl) (Nat.le_of_ble_eq_true rfl) dX12_init_125 (fun H locs hP2 hD2 hS => ?_)
  have e9 := wPuI (cy := cy) (j := 17) (v := (24 : Int32)) hD am527.1 am527.2.1 gk528 rfl
  obtain ⟨S529, hS529⟩ : ∃ z, S513.sI o1 17 (24 : Int32) = z := ⟨_, rfl⟩
  replace hP : va_P D vwCl (X ++ PL cy S529) H := by rw [← hS529, ← e9]; exact hP2
  replace hD : va_D A (X ++ PL cy S529) := by rw [← hS529, ← e9]; exact hD2
  clear hP2 hD2 e9
  have xe530 : ext S513 S529 := by rw [← hS529]; exact ext.sI _ _ _ _
  have t531 : stp ([] : List (Nat × Nat)) [o1] (o1 :: R) S S529 := by rw [← hS529]; exact t515.Ir 17 (24 : Int32) List.mem_cons_self (Or.inl List.mem_cons_self)
  have z532 : ∀ j9, S529.i qa205 j9 = 0 := by rw [← hS529]; exact z516
  have z533 : ∀ j9, S529.i qa263 j9 = 0 := by rw [← hS529]; exact z517
  have z534 : ∀ j9, S529.i qa296 j9 = 0 := by rw [← hS529]; exact z518
  have z535 : ∀ j9, S529.i qa332 j9 = 0 := by rw [← hS529]; exact z519
  have z536 : ∀ j9, S529.i qa373 j9 = 0 := by rw [← hS529]; exact z520
  have z537 : ∀ j9, S529.i qa419 j9 = 0 := by rw [← hS529]; exact z521
  have z538 : ∀ j9, S529.i qa470 j9 = 0 := by rw [← hS529]; exact z522
  have xm540 : ext S15 S471 := xm498.tr xe472
  have xm541 : ext S15 S513 := xm540.tr xe514
  have am542 : isA S513 qa5 14 := xm541.A (xe17.A aqa5)
  have z539 : S529.I qa5 2 = 0 := by rw [← hS529]; exact (congrFun (sI_no (fun e9 : qa5 = o1 => absurd (am542.2.1.symm.trans ((congrArg S513.K e9).trans am527.2.1)) (by decide))) 2).trans z523
  have xm544 : ext S48 S471 := xm502.tr xe472
  have xm545 : ext S48 S513 := xm544.tr xe514
  have am546 : isA S513 qa35 14 := xm545.A (xe50.A aqa35)
  have z543 : S529.I qa35 2 = 0 := by rw [← hS529]; exact (congrFun (sI_no (fun e9 : qa35 = o1 => absurd (am546.2.1.symm.trans ((congrArg S513.K e9).trans am527.2.1)) (by decide))) 2).trans z524
  refine lv_aload_n hx hb dX12_init_128 rfl (lv_at hl 0 rfl) ?_
  refine lv_bipush (v := 60) hx hb dX12_init_129 (by decide +kernel) ?_
  have xm547 : ext S S529 := xm526.tr xe530
  have am548 : isA S529 o1 12 := xm547.A h_o1
  obtain ⟨k549, gk549, hk549⟩ := wGt (cy := cy) X S529 am548.1 am548.2.1
  refine va_put (D := D) (ci := 16) (v := .int (60 : Int32)) (ty := .int) (C := RX12) (T := TX12) (N := 34) hx hb hts hi_X12_init_X12 tyX12 tyX12_ok nmX12 hown hK hP hD hS k549 hk549 rfl 18 (by decide) (hts (.fieldLink RX12 76 "HobhouseModel" "wheelTeeth" "I") (by decide +kernel)) (fun _ h9 => h9) rfl (by decide +kernel) (rfl) (rfl) (Nat.le_of_ble_eq_true rfl) dX12_init_131 (fun H locs hP2 hD2 hS => ?_)
  have e9 := wPuI (cy := cy) (j := 18) (v := (60 : Int32)) hD am548.1 am548.2.1 gk549 rfl
  obtain ⟨S550, hS550⟩ : ∃ z, S529.sI o1 18 (60 : Int32) = z := ⟨_, rfl⟩
  replace hP : va_P D vwCl (X ++ PL cy S550) H := by rw [← hS550, ← e9]; exact hP2
  replace hD : va_D A (X ++ PL cy S550) := by rw [← hS550, ← e9]; exact hD2
  clear hP2 hD2 e9
  have xe551 : ext S529 S550 := by rw [← hS550]; exact ext.sI _ _ _ _
  have t552 : stp ([] : List (Nat × Nat)) [o1] (o1 :: R) S S550 := by rw [← hS550]; exact t531.Ir 18 (60 : Int32) List.mem_cons_self (Or.inl List.mem_cons_self)
  have z553 : ∀ j9, S550.i qa205 j9 = 0 := by rw [← hS550]; exact z532
  have z554 : ∀ j9, S550.i qa263 j9 = 0 := by rw [← hS550]; exact z533
  have z555 : ∀ j9, S550.i qa296 j9 = 0 := by rw [← hS550]; exact z534
  have z556 : ∀ j9, S550.i qa332 j9 = 0 := by rw [← hS550]; exact z535
  have z557 : ∀ j9, S550.i qa373 j9 = 0 := by rw [← hS550]; exact z536
  have z558 : ∀ j9, S550.i qa419 j9 = 0 := by rw [← hS550]; exact z537
  have z559 : ∀ j9, S550.i qa470 j9 = 0 := by rw [← hS550]; exact z538
  have xm561 : ext S15 S529 := xm541.tr xe530
  have am562 : isA S529 qa5 14 := xm561.A (xe17.A aqa5)
  have z560 : S550.I qa5 2 = 0 := by rw [← hS550]; exact (congrFun (sI_no (fun e9 : qa5 = o1 => absurd (am562.2.1.symm.trans ((congrArg S529.K e9).trans am548.2.1)) (by decide))) 2).trans z539
  have xm564 : ext S48 S529 := xm545.tr xe530
  have am565 : isA S529 qa35 14 := xm564.A (xe50.A aqa35)
  have z563 : S550.I qa35 2 = 0 := by rw [← hS550]; exact (congrFun (sI_no (fun e9 : qa35 = o1 => absurd (am565.2.1.symm.trans ((congrArg S529.K e9).trans am548.2.1)) (by decide))) 2).trans z543
  refine lv_aload_n hx hb dX12_init_134 rfl (lv_at hl 0 rfl) ?_
  refine lv_sipush (v := 200) hx hb dX12_init_135 (by decide +kernel) ?_
  refine va_newa (atype := .int) hx hb (hts (.arrayClass .int) (by decide +kernel)) (ty := .int) rfl hK hP hD hS hA (N' := 200) (a0 := (200, .inl (fun _ => 0))) (fun _ => rfl) (by decide) (by decide) (by decide) (Nat.le_of_ble_eq_true rfl) (Nat.le_of_ble_eq_true rfl) dX12_init_138 (fun qa566 cqa566 H hK2 hP2 hD2 hS => ?_)
  obtain rfl : cqa566 = cy 2 := cls_int hK hK2
  have hqa566 : qa566 ∉ S550.L := nw_q hD2
  have e9 := wNw (cy := cy) (X := X) (S := S550) (a := qa566) (k := 17) (z := 200) (f := fun _ => 0) (g := fun _ => none) hqa566 rfl
  obtain ⟨S567, hS567⟩ : ∃ z, S550.nw qa566 17 200 (fun _ => 0) (fun _ => none) = z := ⟨_, rfl⟩
  replace hP : va_P D vwCl (X ++ PL cy S567) H := by rw [← hS567, ← e9]; exact hP2
  replace hD : va_D A (X ++ PL cy S567) := by rw [← hS567, ← e9]; exact hD2
  clear hP2 hD2 e9
  have xe568 : ext S550 S567 := by rw [← hS567]; exact ext.nw hqa566
  have t569 : stp ([] : List (Nat × Nat)) [o1] (o1 :: R) S S567 := by rw [← hS567]; exact t552.nwA hqa566 (by decide)
  have xm571 : ext S206 S471 := xm476.tr xe472
  have xm572 : ext S206 S513 := xm571.tr xe514
  have xm573 : ext S206 S529 := xm572.tr xe530
  have xm574 : ext S206 S550 := xm573.tr xe551
  have am575 : isA S550 qa205 35 := xm574.A aqa205
  have z570 : ∀ j9, S567.i qa205 j9 = 0 := by rw [← hS567]; exact fun j9 => (congrFun (up_nq (f := S550.i) (fun e9 : qa205 = qa566 => hqa566 (e9 ▸ am575.1))) j9).trans (z553 j9)
  have xm577 : ext S264 S471 := xm480.tr xe472
  have xm578 : ext S264 S513 := xm577.tr xe514
  have xm579 : ext S264 S529 := xm578.tr xe530
  have xm580 : ext S264 S550 := xm579.tr xe551
  have am581 : isA S550 qa263 23 := xm580.A aqa263
  have z576 : ∀ j9, S567.i qa263 j9 = 0 := by rw [← hS567]; exact fun j9 => (congrFun (up_nq (f := S550.i) (fun e9 : qa263 = qa566 => hqa566 (e9 ▸ am581.1))) j9).trans (z554 j9)
  have xm583 : ext S297 S471 := xm484.tr xe472
  have xm584 : ext S297 S513 := xm583.tr xe514
  have xm585 : ext S297 S529 := xm584.tr xe530
  have xm586 : ext S297 S550 := xm585.tr xe551
  have am587 : isA S550 qa296 23 := xm586.A aqa296
  have z582 : ∀ j9, S567.i qa296 j9 = 0 := by rw [← hS567]; exact fun j9 => (congrFun (up_nq (f := S550.i) (fun e9 : qa296 = qa566 => hqa566 (e9 ▸ am587.1))) j9).trans (z555 j9)
  have xm589 : ext S333 S471 := xm488.tr xe472
  have xm590 : ext S333 S513 := xm589.tr xe514
  have xm591 : ext S333 S529 := xm590.tr xe530
  have xm592 : ext S333 S550 := xm591.tr xe551
  have am593 : isA S550 qa332 23 := xm592.A aqa332
  have z588 : ∀ j9, S567.i qa332 j9 = 0 := by rw [← hS567]; exact fun j9 => (congrFun (up_nq (f := S550.i) (fun e9 : qa332 = qa566 => hqa566 (e9 ▸ am593.1))) j9).trans (z556 j9)
  have xm595 : ext S374 S471 := xm492.tr xe472
  have xm596 : ext S374 S513 := xm595.tr xe514
  have xm597 : ext S374 S529 := xm596.tr xe530
  have xm598 : ext S374 S550 := xm597.tr xe551
  have am599 : isA S550 qa373 23 := xm598.A aqa373
  have z594 : ∀ j9, S567.i qa373 j9 = 0 := by rw [← hS567]; exact fun j9 => (congrFun (up_nq (f := S550.i) (fun e9 : qa373 = qa566 => hqa566 (e9 ▸ am599.1))) j9).trans (z557 j9)
  have xm601 : ext S420 S471 := xe459.tr xe472
  have xm602 : ext S420 S513 := xm601.tr xe514
  have xm603 : ext S420 S529 := xm602.tr xe530
  have xm604 : ext S420 S550 := xm603.tr xe551
  have am605 : isA S550 qa419 23 := xm604.A aqa419
  have z600 : ∀ j9, S567.i qa419 j9 = 0 := by rw [← hS567]; exact fun j9 => (congrFun (up_nq (f := S550.i) (fun e9 : qa419 = qa566 => hqa566 (e9 ▸ am605.1))) j9).trans (z558 j9)
  have xm607 : ext S471 S529 := xe514.tr xe530
  have xm608 : ext S471 S550 := xm607.tr xe551
  have am609 : isA S550 qa470 23 := xm608.A aqa470
  have z606 : ∀ j9, S567.i qa470 j9 = 0 := by rw [← hS567]; exact fun j9 => (congrFun (up_nq (f := S550.i) (fun e9 : qa470 = qa566 => hqa566 (e9 ▸ am609.1))) j9).trans (z559 j9)
  have xm611 : ext S15 S550 := xm561.tr xe551
  have am612 : isA S550 qa5 14 := xm611.A (xe17.A aqa5)
  have z610 : S567.I qa5 2 = 0 := by rw [← hS567]; exact (nw_Io hqa566 am612.1).trans z560
  have xm614 : ext S48 S550 := xm564.tr xe551
  have am615 : isA S550 qa35 14 := xm614.A (xe50.A aqa35)
  have z613 : S567.I qa35 2 = 0 := by rw [← hS567]; exact (nw_Io hqa566 am615.1).trans z563
  refine W.widen (k := 16) (n := 280) (Nat.le_of_ble_eq_true rfl) (Nat.le_of_ble_eq_true rfl) ?_
  have aqa566 : isA S567 qa566 17 := by rw [← hS567]; exact nw_A (by decide)
  have nqa566 : S567.n qa566 = 200 := by rw [← hS567]; exact nw_n
  have xm616 : ext S S550 := xm547.tr xe551
  have xm617 : ext S S567 := xm616.tr xe568
  have am618 : isA S567 o1 12 := xm617.A h_o1
  obtain ⟨k619, gk619, hk619⟩ := wGt (cy := cy) X S567 am618.1 am618.2.1
  refine va_putF (D := D) (ci := 16) (v := .ref qa566) (ty := (tyX12 29)) (C := RX12) (T := TX12) (N := 34) hx hb hts hi_X12_init_X12 tyX12 tyX12_ok nmX12 hown hK hP hD hS k619 hk619 rfl 29 (by decide) (hts (.fieldLink RX12 79 "HobhouseModel" "highOne" "[I") (by decide +kernel)) (fun _ h9 => h9) rfl hin rfl (by decide +kernel) (rfl) (rfl) (Nat.le_of_ble_eq_true rfl) dX12_init_140 (fun H locs hP2 hD2 hS => ?_)
  have e9 := wPuF (cy := cy) (j := 29) (v := (some qa566)) hD am618.1 am618.2.1 gk619 rfl
  have N620 : ∀ j9, j9 ∉ (14 :: 13 :: 12 :: 11 :: 10 :: 9 :: 8 :: 7 :: 6 :: 5 :: 4 :: 3 :: 2 :: 1 :: 0 :: 77 :: [] : List Nat) → S513.F o1 j9 = none := by rw [← hS513]; exact fun j9 h9 => (sF_ne (fun q9 => h9 (by rw [q9.2]; exact List.mem_cons_self))).trans (N510 j9 (fun q9 => h9 (List.mem_cons_of_mem _ q9)))
  have Z621 : ∀ j9, j9 ∉ ([] : List Nat) → S513.I o1 j9 = 0 := by rw [← hS513]; exact Z511
  have N622 : ∀ j9, j9 ∉ (14 :: 13 :: 12 :: 11 :: 10 :: 9 :: 8 :: 7 :: 6 :: 5 :: 4 :: 3 :: 2 :: 1 :: 0 :: 77 :: [] : List Nat) → S529.F o1 j9 = none := by rw [← hS529]; exact N620
  have Z623 : ∀ j9, j9 ∉ (17 :: [] : List Nat) → S529.I o1 j9 = 0 := by rw [← hS529]; exact fun j9 h9 => (sI_I (fun q9 => h9 (by rw [q9.2]; exact List.mem_cons_self))).trans (Z621 j9 (fun q9 => h9 (List.mem_cons_of_mem _ q9)))
  have N624 : ∀ j9, j9 ∉ (14 :: 13 :: 12 :: 11 :: 10 :: 9 :: 8 :: 7 :: 6 :: 5 :: 4 :: 3 :: 2 :: 1 :: 0 :: 77 :: [] : List Nat) → S550.F o1 j9 = none := by rw [← hS550]; exact N622
  have Z625 : ∀ j9, j9 ∉ (18 :: 17 :: [] : List Nat) → S550.I o1 j9 = 0 := by rw [← hS550]; exact fun j9 h9 => (sI_I (fun q9 => h9 (by rw [q9.2]; exact List.mem_cons_self))).trans (Z623 j9 (fun q9 => h9 (List.mem_cons_of_mem _ q9)))
  have am628 : isA S550 o1 12 := xm616.A h_o1
  have N626 : ∀ j9, j9 ∉ (14 :: 13 :: 12 :: 11 :: 10 :: 9 :: 8 :: 7 :: 6 :: 5 :: 4 :: 3 :: 2 :: 1 :: 0 :: 77 :: [] : List Nat) → S567.F o1 j9 = none := by rw [← hS567]; exact fun j9 h9 => (nw_Fo hqa566 am628.1).trans (N624 j9 h9)
  have Z627 : ∀ j9, j9 ∉ (18 :: 17 :: [] : List Nat) → S567.I o1 j9 = 0 := by rw [← hS567]; exact fun j9 h9 => (nw_Io hqa566 am628.1).trans (Z625 j9 h9)
  obtain ⟨S629, hS629⟩ : ∃ z, S567.sF o1 29 (some qa566) = z := ⟨_, rfl⟩
  replace hP : va_P D vwCl (X ++ PL cy S629) H := by rw [← hS629, ← e9]; exact hP2
  replace hD : va_D A (X ++ PL cy S629) := by rw [← hS629, ← e9]; exact hD2
  clear hP2 hD2 e9
  have xe630 : ext S567 S629 := by rw [← hS629]; exact ext.sF (N626 29 (by decide))
  have t631 : stp ([] : List (Nat × Nat)) [o1] (o1 :: R) S S629 := by rw [← hS629]; exact t569.F 29 qa566 List.mem_cons_self (Or.inl List.mem_cons_self) (N626 29 (by decide))
  have z632 : ∀ j9, S629.i qa205 j9 = 0 := by rw [← hS629]; exact z570
  have z633 : ∀ j9, S629.i qa263 j9 = 0 := by rw [← hS629]; exact z576
  have z634 : ∀ j9, S629.i qa296 j9 = 0 := by rw [← hS629]; exact z582
  have z635 : ∀ j9, S629.i qa332 j9 = 0 := by rw [← hS629]; exact z588
  have z636 : ∀ j9, S629.i qa373 j9 = 0 := by rw [← hS629]; exact z594
  have z637 : ∀ j9, S629.i qa419 j9 = 0 := by rw [← hS629]; exact z600
  have z638 : ∀ j9, S629.i qa470 j9 = 0 := by rw [← hS629]; exact z606
  have z639 : S629.I qa5 2 = 0 := by rw [← hS629]; exact z610
  have z640 : S629.I qa35 2 = 0 := by rw [← hS629]; exact z613
  have F641 : S629.F o1 29 = some qa566 := by rw [← hS629]; exact sF_eq
  refine lv_aload_n hx hb dX12_init_143 rfl (lv_at hl 0 rfl) ?_
  refine lv_sipush (v := 200) hx hb dX12_init_144 (by decide +kernel) ?_
  refine va_newa (atype := .int) hx hb (hts (.arrayClass .int) (by decide +kernel)) (ty := .int) rfl hK hP hD hS hA (N' := 200) (a0 := (200, .inl (fun _ => 0))) (fun _ => rfl) (by decide) (by decide) (by decide) (Nat.le_of_ble_eq_true rfl) (Nat.le_of_ble_eq_true rfl) dX12_init_147 (fun qa642 cqa642 H hK2 hP2 hD2 hS => ?_)
  obtain rfl : cqa642 = cy 2 := cls_int hK hK2
  have hqa642 : qa642 ∉ S629.L := nw_q hD2
  have e9 := wNw (cy := cy) (X := X) (S := S629) (a := qa642) (k := 17) (z := 200) (f := fun _ => 0) (g := fun _ => none) hqa642 rfl
  obtain ⟨S643, hS643⟩ : ∃ z, S629.nw qa642 17 200 (fun _ => 0) (fun _ => none) = z := ⟨_, rfl⟩
  replace hP : va_P D vwCl (X ++ PL cy S643) H := by rw [← hS643, ← e9]; exact hP2
  replace hD : va_D A (X ++ PL cy S643) := by rw [← hS643, ← e9]; exact hD2
  clear hP2 hD2 e9
  have xe644 : ext S629 S643 := by rw [← hS643]; exact ext.nw hqa642
  have t645 : stp ([] : List (Nat × Nat)) [o1] (o1 :: R) S S643 := by rw [← hS643]; exact t631.nwA hqa642 (by decide)
  have xm647 : ext S206 S567 := xm574.tr xe568
  have xm648 : ext S206 S629 := xm647.tr xe630
  have am649 : isA S629 qa205 35 := xm648.A aqa205
  have z646 : ∀ j9, S643.i qa205 j9 = 0 := by rw [← hS643]; exact fun j9 => (congrFun (up_nq (f := S629.i) (fun e9 : qa205 = qa642 => hqa642 (e9 ▸ am649.1))) j9).trans (z632 j9)
  have xm651 : ext S264 S567 := xm580.tr xe568
  have xm652 : ext S264 S629 := xm651.tr xe630
  have am653 : isA S629 qa263 23 := xm652.A aqa263
  have z650 : ∀ j9, S643.i qa263 j9 = 0 := by rw [← hS643]; exact fun j9 => (congrFun (up_nq (f := S629.i) (fun e9 : qa263 = qa642 => hqa642 (e9 ▸ am653.1))) j9).trans (z633 j9)
  have xm655 : ext S297 S567 := xm586.tr xe568
  have xm656 : ext S297 S629 := xm655.tr xe630
  have am657 : isA S629 qa296 23 := xm656.A aqa296
  have z654 : ∀ j9, S643.i qa296 j9 = 0 := by rw [← hS643]; exact fun j9 => (congrFun (up_nq (f := S629.i) (fun e9 : qa296 = qa642 => hqa642 (e9 ▸ am657.1))) j9).trans (z634 j9)
  have xm659 : ext S333 S567 := xm592.tr xe568
  have xm660 : ext S333 S629 := xm659.tr xe630
  have am661 : isA S629 qa332 23 := xm660.A aqa332
  have z658 : ∀ j9, S643.i qa332 j9 = 0 := by rw [← hS643]; exact fun j9 => (congrFun (up_nq (f := S629.i) (fun e9 : qa332 = qa642 => hqa642 (e9 ▸ am661.1))) j9).trans (z635 j9)
  have xm663 : ext S374 S567 := xm598.tr xe568
  have xm664 : ext S374 S629 := xm663.tr xe630
  have am665 : isA S629 qa373 23 := xm664.A aqa373
  have z662 : ∀ j9, S643.i qa373 j9 = 0 := by rw [← hS643]; exact fun j9 => (congrFun (up_nq (f := S629.i) (fun e9 : qa373 = qa642 => hqa642 (e9 ▸ am665.1))) j9).trans (z636 j9)
  have xm667 : ext S420 S567 := xm604.tr xe568
  have xm668 : ext S420 S629 := xm667.tr xe630
  have am669 : isA S629 qa419 23 := xm668.A aqa419
  have z666 : ∀ j9, S643.i qa419 j9 = 0 := by rw [← hS643]; exact fun j9 => (congrFun (up_nq (f := S629.i) (fun e9 : qa419 = qa642 => hqa642 (e9 ▸ am669.1))) j9).trans (z637 j9)
  have xm671 : ext S471 S567 := xm608.tr xe568
  have xm672 : ext S471 S629 := xm671.tr xe630
  have am673 : isA S629 qa470 23 := xm672.A aqa470
  have z670 : ∀ j9, S643.i qa470 j9 = 0 := by rw [← hS643]; exact fun j9 => (congrFun (up_nq (f := S629.i) (fun e9 : qa470 = qa642 => hqa642 (e9 ▸ am673.1))) j9).trans (z638 j9)
  have xm675 : ext S15 S567 := xm611.tr xe568
  have xm676 : ext S15 S629 := xm675.tr xe630
  have am677 : isA S629 qa5 14 := xm676.A (xe17.A aqa5)
  have z674 : S643.I qa5 2 = 0 := by rw [← hS643]; exact (nw_Io hqa642 am677.1).trans z639
  have xm679 : ext S48 S567 := xm614.tr xe568
  have xm680 : ext S48 S629 := xm679.tr xe630
  have am681 : isA S629 qa35 14 := xm680.A (xe50.A aqa35)
  have z678 : S643.I qa35 2 = 0 := by rw [← hS643]; exact (nw_Io hqa642 am681.1).trans z640
  refine W.widen (k := 17) (n := 480) (Nat.le_of_ble_eq_true rfl) (Nat.le_of_ble_eq_true rfl) ?_
  have aqa642 : isA S643 qa642 17 := by rw [← hS643]; exact nw_A (by decide)
  have nqa642 : S643.n qa642 = 200 := by rw [← hS643]; exact nw_n
  have xm682 : ext S S629 := xm617.tr xe630
  have xm683 : ext S S643 := xm682.tr xe644
  have am684 : isA S643 o1 12 := xm683.A h_o1
  obtain ⟨k685, gk685, hk685⟩ := wGt (cy := cy) X S643 am684.1 am684.2.1
  refine va_putF (D := D) (ci := 16) (v := .ref qa642) (ty := (tyX12 30)) (C := RX12) (T := TX12) (N := 34) hx hb hts hi_X12_init_X12 tyX12 tyX12_ok nmX12 hown hK hP hD hS k685 hk685 rfl 30 (by decide) (hts (.fieldLink RX12 82 "HobhouseModel" "lowOne" "[I") (by decide +kernel)) (fun _ h9 => h9) rfl hin rfl (by decide +kernel) (rfl) (rfl) (Nat.le_of_ble_eq_true rfl) dX12_init_149 (fun H locs hP2 hD2 hS => ?_)
  have e9 := wPuF (cy := cy) (j := 30) (v := (some qa642)) hD am684.1 am684.2.1 gk685 rfl
  have N686 : ∀ j9, j9 ∉ (29 :: 14 :: 13 :: 12 :: 11 :: 10 :: 9 :: 8 :: 7 :: 6 :: 5 :: 4 :: 3 :: 2 :: 1 :: 0 :: 77 :: [] : List Nat) → S629.F o1 j9 = none := by rw [← hS629]; exact fun j9 h9 => (sF_ne (fun q9 => h9 (by rw [q9.2]; exact List.mem_cons_self))).trans (N626 j9 (fun q9 => h9 (List.mem_cons_of_mem _ q9)))
  have Z687 : ∀ j9, j9 ∉ (18 :: 17 :: [] : List Nat) → S629.I o1 j9 = 0 := by rw [← hS629]; exact Z627
  have am690 : isA S629 o1 12 := xm682.A h_o1
  have N688 : ∀ j9, j9 ∉ (29 :: 14 :: 13 :: 12 :: 11 :: 10 :: 9 :: 8 :: 7 :: 6 :: 5 :: 4 :: 3 :: 2 :: 1 :: 0 :: 77 :: [] : List Nat) → S643.F o1 j9 = none := by rw [← hS643]; exact fun j9 h9 => (nw_Fo hqa642 am690.1).trans (N686 j9 h9)
  have Z689 : ∀ j9, j9 ∉ (18 :: 17 :: [] : List Nat) → S643.I o1 j9 = 0 := by rw [← hS643]; exact fun j9 h9 => (nw_Io hqa642 am690.1).trans (Z687 j9 h9)
  obtain ⟨S691, hS691⟩ : ∃ z, S643.sF o1 30 (some qa642) = z := ⟨_, rfl⟩
  replace hP : va_P D vwCl (X ++ PL cy S691) H := by rw [← hS691, ← e9]; exact hP2
  replace hD : va_D A (X ++ PL cy S691) := by rw [← hS691, ← e9]; exact hD2
  clear hP2 hD2 e9
  have xe692 : ext S643 S691 := by rw [← hS691]; exact ext.sF (N688 30 (by decide))
  have t693 : stp ([] : List (Nat × Nat)) [o1] (o1 :: R) S S691 := by rw [← hS691]; exact t645.F 30 qa642 List.mem_cons_self (Or.inl List.mem_cons_self) (N688 30 (by decide))
  have z694 : ∀ j9, S691.i qa205 j9 = 0 := by rw [← hS691]; exact z646
  have z695 : ∀ j9, S691.i qa263 j9 = 0 := by rw [← hS691]; exact z650
  have z696 : ∀ j9, S691.i qa296 j9 = 0 := by rw [← hS691]; exact z654
  have z697 : ∀ j9, S691.i qa332 j9 = 0 := by rw [← hS691]; exact z658
  have z698 : ∀ j9, S691.i qa373 j9 = 0 := by rw [← hS691]; exact z662
  have z699 : ∀ j9, S691.i qa419 j9 = 0 := by rw [← hS691]; exact z666
  have z700 : ∀ j9, S691.i qa470 j9 = 0 := by rw [← hS691]; exact z670
  have z701 : S691.I qa5 2 = 0 := by rw [← hS691]; exact z674
  have z702 : S691.I qa35 2 = 0 := by rw [← hS691]; exact z678
  have F703 : S691.F o1 30 = some qa642 := by rw [← hS691]; exact sF_eq
  refine lv_aload_n hx hb dX12_init_152 rfl (lv_at hl 0 rfl) ?_
  refine lv_sipush (v := 200) hx hb dX12_init_153 (by decide +kernel) ?_
  refine va_newa (atype := .int) hx hb (hts (.arrayClass .int) (by decide +kernel)) (ty := .int) rfl hK hP hD hS hA (N' := 200) (a0 := (200, .inl (fun _ => 0))) (fun _ => rfl) (by decide) (by decide) (by decide) (Nat.le_of_ble_eq_true rfl) (Nat.le_of_ble_eq_true rfl) dX12_init_156 (fun qa704 cqa704 H hK2 hP2 hD2 hS => ?_)
  obtain rfl : cqa704 = cy 2 := cls_int hK hK2
  have hqa704 : qa704 ∉ S691.L := nw_q hD2
  have e9 := wNw (cy := cy) (X := X) (S := S691) (a := qa704) (k := 17) (z := 200) (f := fun _ => 0) (g := fun _ => none) hqa704 rfl
  obtain ⟨S705, hS705⟩ : ∃ z, S691.nw qa704 17 200 (fun _ => 0) (fun _ => none) = z := ⟨_, rfl⟩
  replace hP : va_P D vwCl (X ++ PL cy S705) H := by rw [← hS705, ← e9]; exact hP2
  replace hD : va_D A (X ++ PL cy S705) := by rw [← hS705, ← e9]; exact hD2
  clear hP2 hD2 e9
  have xe706 : ext S691 S705 := by rw [← hS705]; exact ext.nw hqa704
  have t707 : stp ([] : List (Nat × Nat)) [o1] (o1 :: R) S S705 := by rw [← hS705]; exact t693.nwA hqa704 (by decide)
  have xm709 : ext S206 S643 := xm648.tr xe644
  have xm710 : ext S206 S691 := xm709.tr xe692
  have am711 : isA S691 qa205 35 := xm710.A aqa205
  have z708 : ∀ j9, S705.i qa205 j9 = 0 := by rw [← hS705]; exact fun j9 => (congrFun (up_nq (f := S691.i) (fun e9 : qa205 = qa704 => hqa704 (e9 ▸ am711.1))) j9).trans (z694 j9)
  have xm713 : ext S264 S643 := xm652.tr xe644
  have xm714 : ext S264 S691 := xm713.tr xe692
  have am715 : isA S691 qa263 23 := xm714.A aqa263
  have z712 : ∀ j9, S705.i qa263 j9 = 0 := by rw [← hS705]; exact fun j9 => (congrFun (up_nq (f := S691.i) (fun e9 : qa263 = qa704 => hqa704 (e9 ▸ am715.1))) j9).trans (z695 j9)
  have xm717 : ext S297 S643 := xm656.tr xe644
  have xm718 : ext S297 S691 := xm717.tr xe692
  have am719 : isA S691 qa296 23 := xm718.A aqa296
  have z716 : ∀ j9, S705.i qa296 j9 = 0 := by rw [← hS705]; exact fun j9 => (congrFun (up_nq (f := S691.i) (fun e9 : qa296 = qa704 => hqa704 (e9 ▸ am719.1))) j9).trans (z696 j9)
  have xm721 : ext S333 S643 := xm660.tr xe644
  have xm722 : ext S333 S691 := xm721.tr xe692
  have am723 : isA S691 qa332 23 := xm722.A aqa332
  have z720 : ∀ j9, S705.i qa332 j9 = 0 := by rw [← hS705]; exact fun j9 => (congrFun (up_nq (f := S691.i) (fun e9 : qa332 = qa704 => hqa704 (e9 ▸ am723.1))) j9).trans (z697 j9)
  have xm725 : ext S374 S643 := xm664.tr xe644
  have xm726 : ext S374 S691 := xm725.tr xe692
  have am727 : isA S691 qa373 23 := xm726.A aqa373
  have z724 : ∀ j9, S705.i qa373 j9 = 0 := by rw [← hS705]; exact fun j9 => (congrFun (up_nq (f := S691.i) (fun e9 : qa373 = qa704 => hqa704 (e9 ▸ am727.1))) j9).trans (z698 j9)
  have xm729 : ext S420 S643 := xm668.tr xe644
  have xm730 : ext S420 S691 := xm729.tr xe692
  have am731 : isA S691 qa419 23 := xm730.A aqa419
  have z728 : ∀ j9, S705.i qa419 j9 = 0 := by rw [← hS705]; exact fun j9 => (congrFun (up_nq (f := S691.i) (fun e9 : qa419 = qa704 => hqa704 (e9 ▸ am731.1))) j9).trans (z699 j9)
  have xm733 : ext S471 S643 := xm672.tr xe644
  have xm734 : ext S471 S691 := xm733.tr xe692
  have am735 : isA S691 qa470 23 := xm734.A aqa470
  have z732 : ∀ j9, S705.i qa470 j9 = 0 := by rw [← hS705]; exact fun j9 => (congrFun (up_nq (f := S691.i) (fun e9 : qa470 = qa704 => hqa704 (e9 ▸ am735.1))) j9).trans (z700 j9)
  have xm737 : ext S15 S643 := xm676.tr xe644
  have xm738 : ext S15 S691 := xm737.tr xe692
  have am739 : isA S691 qa5 14 := xm738.A (xe17.A aqa5)
  have z736 : S705.I qa5 2 = 0 := by rw [← hS705]; exact (nw_Io hqa704 am739.1).trans z701
  have xm741 : ext S48 S643 := xm680.tr xe644
  have xm742 : ext S48 S691 := xm741.tr xe692
  have am743 : isA S691 qa35 14 := xm742.A (xe50.A aqa35)
  have z740 : S705.I qa35 2 = 0 := by rw [← hS705]; exact (nw_Io hqa704 am743.1).trans z702
  refine W.widen (k := 18) (n := 680) (Nat.le_of_ble_eq_true rfl) (Nat.le_of_ble_eq_true rfl) ?_
  have aqa704 : isA S705 qa704 17 := by rw [← hS705]; exact nw_A (by decide)
  have nqa704 : S705.n qa704 = 200 := by rw [← hS705]; exact nw_n
  have xm744 : ext S S691 := xm683.tr xe692
  have xm745 : ext S S705 := xm744.tr xe706
  have am746 : isA S705 o1 12 := xm745.A h_o1
  obtain ⟨k747, gk747, hk747⟩ := wGt (cy := cy) X S705 am746.1 am746.2.1
  refine va_putF (D := D) (ci := 16) (v := .ref qa704) (ty := (tyX12 31)) (C := RX12) (T := TX12) (N := 34) hx hb hts hi_X12_init_X12 tyX12 tyX12_ok nmX12 hown hK hP hD hS k747 hk747 rfl 31 (by decide) (hts (.fieldLink RX12 85 "HobhouseModel" "highOther" "[I") (by decide +kernel)) (fun _ h9 => h9) rfl hin rfl (by decide +kernel) (rfl) (rfl) (Nat.le_of_ble_eq_true rfl) dX12_init_158 (fun H locs hP2 hD2 hS => ?_)
  have e9 := wPuF (cy := cy) (j := 31) (v := (some qa704)) hD am746.1 am746.2.1 gk747 rfl
  have N748 : ∀ j9, j9 ∉ (30 :: 29 :: 14 :: 13 :: 12 :: 11 :: 10 :: 9 :: 8 :: 7 :: 6 :: 5 :: 4 :: 3 :: 2 :: 1 :: 0 :: 77 :: [] : List Nat) → S691.F o1 j9 = none := by rw [← hS691]; exact fun j9 h9 => (sF_ne (fun q9 => h9 (by rw [q9.2]; exact List.mem_cons_self))).trans (N688 j9 (fun q9 => h9 (List.mem_cons_of_mem _ q9)))
  have Z749 : ∀ j9, j9 ∉ (18 :: 17 :: [] : List Nat) → S691.I o1 j9 = 0 := by rw [← hS691]; exact Z689
  have am752 : isA S691 o1 12 := xm744.A h_o1
  have N750 : ∀ j9, j9 ∉ (30 :: 29 :: 14 :: 13 :: 12 :: 11 :: 10 :: 9 :: 8 :: 7 :: 6 :: 5 :: 4 :: 3 :: 2 :: 1 :: 0 :: 77 :: [] : List Nat) → S705.F o1 j9 = none := by rw [← hS705]; exact fun j9 h9 => (nw_Fo hqa704 am752.1).trans (N748 j9 h9)
  have Z751 : ∀ j9, j9 ∉ (18 :: 17 :: [] : List Nat) → S705.I o1 j9 = 0 := by rw [← hS705]; exact fun j9 h9 => (nw_Io hqa704 am752.1).trans (Z749 j9 h9)
  obtain ⟨S753, hS753⟩ : ∃ z, S705.sF o1 31 (some qa704) = z := ⟨_, rfl⟩
  replace hP : va_P D vwCl (X ++ PL cy S753) H := by rw [← hS753, ← e9]; exact hP2
  replace hD : va_D A (X ++ PL cy S753) := by rw [← hS753, ← e9]; exact hD2
  clear hP2 hD2 e9
  have xe754 : ext S705 S753 := by rw [← hS753]; exact ext.sF (N750 31 (by decide))
  have t755 : stp ([] : List (Nat × Nat)) [o1] (o1 :: R) S S753 := by rw [← hS753]; exact t707.F 31 qa704 List.mem_cons_self (Or.inl List.mem_cons_self) (N750 31 (by decide))
  have z756 : ∀ j9, S753.i qa205 j9 = 0 := by rw [← hS753]; exact z708
  have z757 : ∀ j9, S753.i qa263 j9 = 0 := by rw [← hS753]; exact z712
  have z758 : ∀ j9, S753.i qa296 j9 = 0 := by rw [← hS753]; exact z716
  have z759 : ∀ j9, S753.i qa332 j9 = 0 := by rw [← hS753]; exact z720
  have z760 : ∀ j9, S753.i qa373 j9 = 0 := by rw [← hS753]; exact z724
  have z761 : ∀ j9, S753.i qa419 j9 = 0 := by rw [← hS753]; exact z728
  have z762 : ∀ j9, S753.i qa470 j9 = 0 := by rw [← hS753]; exact z732
  have z763 : S753.I qa5 2 = 0 := by rw [← hS753]; exact z736
  have z764 : S753.I qa35 2 = 0 := by rw [← hS753]; exact z740
  have F765 : S753.F o1 31 = some qa704 := by rw [← hS753]; exact sF_eq
  refine lv_aload_n hx hb dX12_init_161 rfl (lv_at hl 0 rfl) ?_
  refine lv_sipush (v := 200) hx hb dX12_init_162 (by decide +kernel) ?_
  refine va_newa (atype := .int) hx hb (hts (.arrayClass .int) (by decide +kernel)) (ty := .int) rfl hK hP hD hS hA (N' := 200) (a0 := (200, .inl (fun _ => 0))) (fun _ => rfl) (by decide) (by decide) (by decide) (Nat.le_of_ble_eq_true rfl) (Nat.le_of_ble_eq_true rfl) dX12_init_165 (fun qa766 cqa766 H hK2 hP2 hD2 hS => ?_)
  obtain rfl : cqa766 = cy 2 := cls_int hK hK2
  have hqa766 : qa766 ∉ S753.L := nw_q hD2
  have e9 := wNw (cy := cy) (X := X) (S := S753) (a := qa766) (k := 17) (z := 200) (f := fun _ => 0) (g := fun _ => none) hqa766 rfl
  obtain ⟨S767, hS767⟩ : ∃ z, S753.nw qa766 17 200 (fun _ => 0) (fun _ => none) = z := ⟨_, rfl⟩
  replace hP : va_P D vwCl (X ++ PL cy S767) H := by rw [← hS767, ← e9]; exact hP2
  replace hD : va_D A (X ++ PL cy S767) := by rw [← hS767, ← e9]; exact hD2
  clear hP2 hD2 e9
  have xe768 : ext S753 S767 := by rw [← hS767]; exact ext.nw hqa766
  have t769 : stp ([] : List (Nat × Nat)) [o1] (o1 :: R) S S767 := by rw [← hS767]; exact t755.nwA hqa766 (by decide)
  have xm771 : ext S206 S705 := xm710.tr xe706
  have xm772 : ext S206 S753 := xm771.tr xe754
  have am773 : isA S753 qa205 35 := xm772.A aqa205
  have z770 : ∀ j9, S767.i qa205 j9 = 0 := by rw [← hS767]; exact fun j9 => (congrFun (up_nq (f := S753.i) (fun e9 : qa205 = qa766 => hqa766 (e9 ▸ am773.1))) j9).trans (z756 j9)
  have xm775 : ext S264 S705 := xm714.tr xe706
  have xm776 : ext S264 S753 := xm775.tr xe754
  have am777 : isA S753 qa263 23 := xm776.A aqa263
  have z774 : ∀ j9, S767.i qa263 j9 = 0 := by rw [← hS767]; exact fun j9 => (congrFun (up_nq (f := S753.i) (fun e9 : qa263 = qa766 => hqa766 (e9 ▸ am777.1))) j9).trans (z757 j9)
  have xm779 : ext S297 S705 := xm718.tr xe706
  have xm780 : ext S297 S753 := xm779.tr xe754
  have am781 : isA S753 qa296 23 := xm780.A aqa296
  have z778 : ∀ j9, S767.i qa296 j9 = 0 := by rw [← hS767]; exact fun j9 => (congrFun (up_nq (f := S753.i) (fun e9 : qa296 = qa766 => hqa766 (e9 ▸ am781.1))) j9).trans (z758 j9)
  have xm783 : ext S333 S705 := xm722.tr xe706
  have xm784 : ext S333 S753 := xm783.tr xe754
  have am785 : isA S753 qa332 23 := xm784.A aqa332
  have z782 : ∀ j9, S767.i qa332 j9 = 0 := by rw [← hS767]; exact fun j9 => (congrFun (up_nq (f := S753.i) (fun e9 : qa332 = qa766 => hqa766 (e9 ▸ am785.1))) j9).trans (z759 j9)
  have xm787 : ext S374 S705 := xm726.tr xe706
  have xm788 : ext S374 S753 := xm787.tr xe754
  have am789 : isA S753 qa373 23 := xm788.A aqa373
  have z786 : ∀ j9, S767.i qa373 j9 = 0 := by rw [← hS767]; exact fun j9 => (congrFun (up_nq (f := S753.i) (fun e9 : qa373 = qa766 => hqa766 (e9 ▸ am789.1))) j9).trans (z760 j9)
  have xm791 : ext S420 S705 := xm730.tr xe706
  have xm792 : ext S420 S753 := xm791.tr xe754
  have am793 : isA S753 qa419 23 := xm792.A aqa419
  have z790 : ∀ j9, S767.i qa419 j9 = 0 := by rw [← hS767]; exact fun j9 => (congrFun (up_nq (f := S753.i) (fun e9 : qa419 = qa766 => hqa766 (e9 ▸ am793.1))) j9).trans (z761 j9)
  have xm795 : ext S471 S705 := xm734.tr xe706
  have xm796 : ext S471 S753 := xm795.tr xe754
  have am797 : isA S753 qa470 23 := xm796.A aqa470
  have z794 : ∀ j9, S767.i qa470 j9 = 0 := by rw [← hS767]; exact fun j9 => (congrFun (up_nq (f := S753.i) (fun e9 : qa470 = qa766 => hqa766 (e9 ▸ am797.1))) j9).trans (z762 j9)
  have xm799 : ext S15 S705 := xm738.tr xe706
  have xm800 : ext S15 S753 := xm799.tr xe754
  have am801 : isA S753 qa5 14 := xm800.A (xe17.A aqa5)
  have z798 : S767.I qa5 2 = 0 := by rw [← hS767]; exact (nw_Io hqa766 am801.1).trans z763
  have xm803 : ext S48 S705 := xm742.tr xe706
  have xm804 : ext S48 S753 := xm803.tr xe754
  have am805 : isA S753 qa35 14 := xm804.A (xe50.A aqa35)
  have z802 : S767.I qa35 2 = 0 := by rw [← hS767]; exact (nw_Io hqa766 am805.1).trans z764
  refine W.widen (k := 19) (n := 880) (Nat.le_of_ble_eq_true rfl) (Nat.le_of_ble_eq_true rfl) ?_
  have aqa766 : isA S767 qa766 17 := by rw [← hS767]; exact nw_A (by decide)
  have nqa766 : S767.n qa766 = 200 := by rw [← hS767]; exact nw_n
  have xm806 : ext S S753 := xm745.tr xe754
  have xm807 : ext S S767 := xm806.tr xe768
  have am808 : isA S767 o1 12 := xm807.A h_o1
  obtain ⟨k809, gk809, hk809⟩ := wGt (cy := cy) X S767 am808.1 am808.2.1
  refine va_putF (D := D) (ci := 16) (v := .ref qa766) (ty := (tyX12 32)) (C := RX12) (T := TX12) (N := 34) hx hb hts hi_X12_init_X12 tyX12 tyX12_ok nmX12 hown hK hP hD hS k809 hk809 rfl 32 (by decide) (hts (.fieldLink RX12 88 "HobhouseModel" "lowOther" "[I") (by decide +kernel)) (fun _ h9 => h9) rfl hin rfl (by decide +kernel) (rfl) (rfl) (Nat.le_of_ble_eq_true rfl) dX12_init_167 (fun H locs hP2 hD2 hS => ?_)
  have e9 := wPuF (cy := cy) (j := 32) (v := (some qa766)) hD am808.1 am808.2.1 gk809 rfl
  have N810 : ∀ j9, j9 ∉ (31 :: 30 :: 29 :: 14 :: 13 :: 12 :: 11 :: 10 :: 9 :: 8 :: 7 :: 6 :: 5 :: 4 :: 3 :: 2 :: 1 :: 0 :: 77 :: [] : List Nat) → S753.F o1 j9 = none := by rw [← hS753]; exact fun j9 h9 => (sF_ne (fun q9 => h9 (by rw [q9.2]; exact List.mem_cons_self))).trans (N750 j9 (fun q9 => h9 (List.mem_cons_of_mem _ q9)))
  have Z811 : ∀ j9, j9 ∉ (18 :: 17 :: [] : List Nat) → S753.I o1 j9 = 0 := by rw [← hS753]; exact Z751
  have am814 : isA S753 o1 12 := xm806.A h_o1
  have N812 : ∀ j9, j9 ∉ (31 :: 30 :: 29 :: 14 :: 13 :: 12 :: 11 :: 10 :: 9 :: 8 :: 7 :: 6 :: 5 :: 4 :: 3 :: 2 :: 1 :: 0 :: 77 :: [] : List Nat) → S767.F o1 j9 = none := by rw [← hS767]; exact fun j9 h9 => (nw_Fo hqa766 am814.1).trans (N810 j9 h9)
  have Z813 : ∀ j9, j9 ∉ (18 :: 17 :: [] : List Nat) → S767.I o1 j9 = 0 := by rw [← hS767]; exact fun j9 h9 => (nw_Io hqa766 am814.1).trans (Z811 j9 h9)
  obtain ⟨S815, hS815⟩ : ∃ z, S767.sF o1 32 (some qa766) = z := ⟨_, rfl⟩
  replace hP : va_P D vwCl (X ++ PL cy S815) H := by rw [← hS815, ← e9]; exact hP2
  replace hD : va_D A (X ++ PL cy S815) := by rw [← hS815, ← e9]; exact hD2
  clear hP2 hD2 e9
  have xe816 : ext S767 S815 := by rw [← hS815]; exact ext.sF (N812 32 (by decide))
  have t817 : stp ([] : List (Nat × Nat)) [o1] (o1 :: R) S S815 := by rw [← hS815]; exact t769.F 32 qa766 List.mem_cons_self (Or.inl List.mem_cons_self) (N812 32 (by decide))
  have z818 : ∀ j9, S815.i qa205 j9 = 0 := by rw [← hS815]; exact z770
  have z819 : ∀ j9, S815.i qa263 j9 = 0 := by rw [← hS815]; exact z774
  have z820 : ∀ j9, S815.i qa296 j9 = 0 := by rw [← hS815]; exact z778
  have z821 : ∀ j9, S815.i qa332 j9 = 0 := by rw [← hS815]; exact z782
  have z822 : ∀ j9, S815.i qa373 j9 = 0 := by rw [← hS815]; exact z786
  have z823 : ∀ j9, S815.i qa419 j9 = 0 := by rw [← hS815]; exact z790
  have z824 : ∀ j9, S815.i qa470 j9 = 0 := by rw [← hS815]; exact z794
  have z825 : S815.I qa5 2 = 0 := by rw [← hS815]; exact z798
  have z826 : S815.I qa35 2 = 0 := by rw [← hS815]; exact z802
  have F827 : S815.F o1 32 = some qa766 := by rw [← hS815]; exact sF_eq
  refine lv_aload_n hx hb dX12_init_170 rfl (lv_at hl 0 rfl) ?_
  refine lv_bipush (v := 25) hx hb dX12_init_171 (by decide +kernel) ?_
  refine va_newa (atype := .int) hx hb (hts (.arrayClass .int) (by decide +kernel)) (ty := .int) rfl hK hP hD hS hA (N' := 25) (a0 := (25, .inl (fun _ => 0))) (fun _ => rfl) (by decide) (by decide) (by decide) (Nat.le_of_ble_eq_true rfl) (Nat.le_of_ble_eq_true rfl) dX12_init_173 (fun qa828 cqa828 H hK2 hP2 hD2 hS => ?_)
  obtain rfl : cqa828 = cy 2 := cls_int hK hK2
  have hqa828 : qa828 ∉ S815.L := nw_q hD2
  have e9 := wNw (cy := cy) (X := X) (S := S815) (a := qa828) (k := 17) (z := 25) (f := fun _ => 0) (g := fun _ => none) hqa828 rfl
  obtain ⟨S829, hS829⟩ : ∃ z, S815.nw qa828 17 25 (fun _ => 0) (fun _ => none) = z := ⟨_, rfl⟩
  replace hP : va_P D vwCl (X ++ PL cy S829) H := by rw [← hS829, ← e9]; exact hP2
  replace hD : va_D A (X ++ PL cy S829) := by rw [← hS829, ← e9]; exact hD2
  clear hP2 hD2 e9
  have xe830 : ext S815 S829 := by rw [← hS829]; exact ext.nw hqa828
  have t831 : stp ([] : List (Nat × Nat)) [o1] (o1 :: R) S S829 := by rw [← hS829]; exact t817.nwA hqa828 (by decide)
  have xm833 : ext S206 S767 := xm772.tr xe768
  have xm834 : ext S206 S815 := xm833.tr xe816
  have am835 : isA S815 qa205 35 := xm834.A aqa205
  have z832 : ∀ j9, S829.i qa205 j9 = 0 := by rw [← hS829]; exact fun j9 => (congrFun (up_nq (f := S815.i) (fun e9 : qa205 = qa828 => hqa828 (e9 ▸ am835.1))) j9).trans (z818 j9)
  have xm837 : ext S264 S767 := xm776.tr xe768
  have xm838 : ext S264 S815 := xm837.tr xe816
  have am839 : isA S815 qa263 23 := xm838.A aqa263
  have z836 : ∀ j9, S829.i qa263 j9 = 0 := by rw [← hS829]; exact fun j9 => (congrFun (up_nq (f := S815.i) (fun e9 : qa263 = qa828 => hqa828 (e9 ▸ am839.1))) j9).trans (z819 j9)
  have xm841 : ext S297 S767 := xm780.tr xe768
  have xm842 : ext S297 S815 := xm841.tr xe816
  have am843 : isA S815 qa296 23 := xm842.A aqa296
  have z840 : ∀ j9, S829.i qa296 j9 = 0 := by rw [← hS829]; exact fun j9 => (congrFun (up_nq (f := S815.i) (fun e9 : qa296 = qa828 => hqa828 (e9 ▸ am843.1))) j9).trans (z820 j9)
  have xm845 : ext S333 S767 := xm784.tr xe768
  have xm846 : ext S333 S815 := xm845.tr xe816
  have am847 : isA S815 qa332 23 := xm846.A aqa332
  have z844 : ∀ j9, S829.i qa332 j9 = 0 := by rw [← hS829]; exact fun j9 => (congrFun (up_nq (f := S815.i) (fun e9 : qa332 = qa828 => hqa828 (e9 ▸ am847.1))) j9).trans (z821 j9)
  have xm849 : ext S374 S767 := xm788.tr xe768
  have xm850 : ext S374 S815 := xm849.tr xe816
  have am851 : isA S815 qa373 23 := xm850.A aqa373
  have z848 : ∀ j9, S829.i qa373 j9 = 0 := by rw [← hS829]; exact fun j9 => (congrFun (up_nq (f := S815.i) (fun e9 : qa373 = qa828 => hqa828 (e9 ▸ am851.1))) j9).trans (z822 j9)
  have xm853 : ext S420 S767 := xm792.tr xe768
  have xm854 : ext S420 S815 := xm853.tr xe816
  have am855 : isA S815 qa419 23 := xm854.A aqa419
  have z852 : ∀ j9, S829.i qa419 j9 = 0 := by rw [← hS829]; exact fun j9 => (congrFun (up_nq (f := S815.i) (fun e9 : qa419 = qa828 => hqa828 (e9 ▸ am855.1))) j9).trans (z823 j9)
  have xm857 : ext S471 S767 := xm796.tr xe768
  have xm858 : ext S471 S815 := xm857.tr xe816
  have am859 : isA S815 qa470 23 := xm858.A aqa470
  have z856 : ∀ j9, S829.i qa470 j9 = 0 := by rw [← hS829]; exact fun j9 => (congrFun (up_nq (f := S815.i) (fun e9 : qa470 = qa828 => hqa828 (e9 ▸ am859.1))) j9).trans (z824 j9)
  have xm861 : ext S15 S767 := xm800.tr xe768
  have xm862 : ext S15 S815 := xm861.tr xe816
  have am863 : isA S815 qa5 14 := xm862.A (xe17.A aqa5)
  have z860 : S829.I qa5 2 = 0 := by rw [← hS829]; exact (nw_Io hqa828 am863.1).trans z825
  have xm865 : ext S48 S767 := xm804.tr xe768
  have xm866 : ext S48 S815 := xm865.tr xe816
  have am867 : isA S815 qa35 14 := xm866.A (xe50.A aqa35)
  have z864 : S829.I qa35 2 = 0 := by rw [← hS829]; exact (nw_Io hqa828 am867.1).trans z826
  refine W.widen (k := 20) (n := 905) (Nat.le_of_ble_eq_true rfl) (Nat.le_of_ble_eq_true rfl) ?_
  have aqa828 : isA S829 qa828 17 := by rw [← hS829]; exact nw_A (by decide)
  have nqa828 : S829.n qa828 = 25 := by rw [← hS829]; exact nw_n
  have xm868 : ext S S815 := xm807.tr xe816
  have xm869 : ext S S829 := xm868.tr xe830
  have am870 : isA S829 o1 12 := xm869.A h_o1
  obtain ⟨k871, gk871, hk871⟩ := wGt (cy := cy) X S829 am870.1 am870.2.1
  refine va_putF (D := D) (ci := 16) (v := .ref qa828) (ty := (tyX12 33)) (C := RX12) (T := TX12) (N := 34) hx hb hts hi_X12_init_X12 tyX12 tyX12_ok nmX12 hown hK hP hD hS k871 hk871 rfl 33 (by decide) (hts (.fieldLink RX12 91 "HobhouseModel" "peaks" "[I") (by decide +kernel)) (fun _ h9 => h9) rfl hin rfl (by decide +kernel) (rfl) (rfl) (Nat.le_of_ble_eq_true rfl) dX12_init_175 (fun H locs hP2 hD2 hS => ?_)
  have e9 := wPuF (cy := cy) (j := 33) (v := (some qa828)) hD am870.1 am870.2.1 gk871 rfl
  have N872 : ∀ j9, j9 ∉ (32 :: 31 :: 30 :: 29 :: 14 :: 13 :: 12 :: 11 :: 10 :: 9 :: 8 :: 7 :: 6 :: 5 :: 4 :: 3 :: 2 :: 1 :: 0 :: 77 :: [] : List Nat) → S815.F o1 j9 = none := by rw [← hS815]; exact fun j9 h9 => (sF_ne (fun q9 => h9 (by rw [q9.2]; exact List.mem_cons_self))).trans (N812 j9 (fun q9 => h9 (List.mem_cons_of_mem _ q9)))
  have Z873 : ∀ j9, j9 ∉ (18 :: 17 :: [] : List Nat) → S815.I o1 j9 = 0 := by rw [← hS815]; exact Z813
  have am876 : isA S815 o1 12 := xm868.A h_o1
  have N874 : ∀ j9, j9 ∉ (32 :: 31 :: 30 :: 29 :: 14 :: 13 :: 12 :: 11 :: 10 :: 9 :: 8 :: 7 :: 6 :: 5 :: 4 :: 3 :: 2 :: 1 :: 0 :: 77 :: [] : List Nat) → S829.F o1 j9 = none := by rw [← hS829]; exact fun j9 h9 => (nw_Fo hqa828 am876.1).trans (N872 j9 h9)
  have Z875 : ∀ j9, j9 ∉ (18 :: 17 :: [] : List Nat) → S829.I o1 j9 = 0 := by rw [← hS829]; exact fun j9 h9 => (nw_Io hqa828 am876.1).trans (Z873 j9 h9)
  obtain ⟨S877, hS877⟩ : ∃ z, S829.sF o1 33 (some qa828) = z := ⟨_, rfl⟩
  replace hP : va_P D vwCl (X ++ PL cy S877) H := by rw [← hS877, ← e9]; exact hP2
  replace hD : va_D A (X ++ PL cy S877) := by rw [← hS877, ← e9]; exact hD2
  clear hP2 hD2 e9
  have xe878 : ext S829 S877 := by rw [← hS877]; exact ext.sF (N874 33 (by decide))
  have t879 : stp ([] : List (Nat × Nat)) [o1] (o1 :: R) S S877 := by rw [← hS877]; exact t831.F 33 qa828 List.mem_cons_self (Or.inl List.mem_cons_self) (N874 33 (by decide))
  have z880 : ∀ j9, S877.i qa205 j9 = 0 := by rw [← hS877]; exact z832
  have z881 : ∀ j9, S877.i qa263 j9 = 0 := by rw [← hS877]; exact z836
  have z882 : ∀ j9, S877.i qa296 j9 = 0 := by rw [← hS877]; exact z840
  have z883 : ∀ j9, S877.i qa332 j9 = 0 := by rw [← hS877]; exact z844
  have z884 : ∀ j9, S877.i qa373 j9 = 0 := by rw [← hS877]; exact z848
  have z885 : ∀ j9, S877.i qa419 j9 = 0 := by rw [← hS877]; exact z852
  have z886 : ∀ j9, S877.i qa470 j9 = 0 := by rw [← hS877]; exact z856
  have z887 : S877.I qa5 2 = 0 := by rw [← hS877]; exact z860
  have z888 : S877.I qa35 2 = 0 := by rw [← hS877]; exact z864
  have F889 : S877.F o1 33 = some qa828 := by rw [← hS877]; exact sF_eq
  have xm890 : ext S S877 := xm869.tr xe878
  have am891 : isA S877 o1 12 := xm890.A h_o1
  have oo : isA S877 o1 12 := am891
  have N892 : ∀ j9, j9 ∉ (33 :: 32 :: 31 :: 30 :: 29 :: 14 :: 13 :: 12 :: 11 :: 10 :: 9 :: 8 :: 7 :: 6 :: 5 :: 4 :: 3 :: 2 :: 1 :: 0 :: 77 :: [] : List Nat) → S877.F o1 j9 = none := by rw [← hS877]; exact fun j9 h9 => (sF_ne (fun q9 => h9 (by rw [q9.2]; exact List.mem_cons_self))).trans (N874 j9 (fun q9 => h9 (List.mem_cons_of_mem _ q9)))
  have Z893 : ∀ j9, j9 ∉ (18 :: 17 :: [] : List Nat) → S877.I o1 j9 = 0 := by rw [← hS877]; exact Z875
  have I15 : S877.I o1 15 = (0 : Int32) := (Z893 15 (by decide))
  have I16 : S877.I o1 16 = (0 : Int32) := (Z893 16 (by decide))
  have I17 : S877.I o1 17 = (24 : Int32) := (by rw [← hS877]; show S829.I o1 17 = _; rw [← hS829, nw_Io hqa828 am876.1]; rw [← hS815]; show S767.I o1 17 = _; rw [← hS767, nw_Io hqa766 am814.1]; rw [← hS753]; show S705.I o1 17 = _; rw [← hS705, nw_Io hqa704 am752.1]; rw [← hS691]; show S643.I o1 17 = _; rw [← hS643, nw_Io hqa642 am690.1]; rw [← hS629]; show S567.I o1 17 = _; rw [← hS567, nw_Io hqa566 am628.1]; rw [← hS550, sI_I (by rintro ⟨e1, e2⟩; exact absurd e2 (by decide))]; rw [← hS529, sI_eq])
  have I18 : S877.I o1 18 = (60 : Int32) := (by rw [← hS877]; show S829.I o1 18 = _; rw [← hS829, nw_Io hqa828 am876.1]; rw [← hS815]; show S767.I o1 18 = _; rw [← hS767, nw_Io hqa766 am814.1]; rw [← hS753]; show S705.I o1 18 = _; rw [← hS705, nw_Io hqa704 am752.1]; rw [← hS691]; show S643.I o1 18 = _; rw [← hS643, nw_Io hqa642 am690.1]; rw [← hS629]; show S567.I o1 18 = _; rw [← hS567, nw_Io hqa566 am628.1]; rw [← hS550, sI_eq])
  have I19 : S877.I o1 19 = (0 : Int32) := (Z893 19 (by decide))
  have I20 : S877.I o1 20 = (0 : Int32) := (Z893 20 (by decide))
  have I21 : S877.I o1 21 = (0 : Int32) := (Z893 21 (by decide))
  have I22 : S877.I o1 22 = (0 : Int32) := (Z893 22 (by decide))
  have I23 : S877.I o1 23 = (0 : Int32) := (Z893 23 (by decide))
  have I24 : S877.I o1 24 = (0 : Int32) := (Z893 24 (by decide))
  have I25 : S877.I o1 25 = (0 : Int32) := (Z893 25 (by decide))
  have I26 : S877.I o1 26 = (0 : Int32) := (Z893 26 (by decide))
  have xm894 : ext S30 S48 := xe37.tr xe50
  have xm895 : ext S30 S66 := xm894.tr xe67
  have xm896 : ext S30 S73 := xm895.tr xe74
  have xm897 : ext S30 S91 := xm896.tr xe92
  have xm898 : ext S30 S98 := xm897.tr xe99
  have xm899 : ext S30 S118 := xm898.tr xe119
  have xm900 : ext S30 S125 := xm899.tr xe126
  have xm901 : ext S30 S145 := xm900.tr xe146
  have xm902 : ext S30 S152 := xm901.tr xe153
  have xm903 : ext S30 S172 := xm902.tr xe173
  have xm904 : ext S30 S179 := xm903.tr xe180
  have xm905 : ext S30 S199 := xm904.tr xe200
  have xm906 : ext S30 S206 := xm905.tr xe207
  have xm907 : ext S30 S226 := xm906.tr xe227
  have xm908 : ext S30 S234 := xm907.tr xe235
  have xm909 : ext S30 S256 := xm908.tr xe257
  have xm910 : ext S30 S264 := xm909.tr xe265
  have xm911 : ext S30 S288 := xm910.tr xe289
  have xm912 : ext S30 S297 := xm911.tr xe298
  have xm913 : ext S30 S323 := xm912.tr xe324
  have xm914 : ext S30 S333 := xm913.tr xe334
  have xm915 : ext S30 S363 := xm914.tr xe364
  have xm916 : ext S30 S374 := xm915.tr xe375
  have xm917 : ext S30 S408 := xm916.tr xe409
  have xm918 : ext S30 S420 := xm917.tr xe421
  have xm919 : ext S30 S458 := xm918.tr xe459
  have xm920 : ext S30 S471 := xm919.tr xe472
  have xm921 : ext S30 S513 := xm920.tr xe514
  have xm922 : ext S30 S529 := xm921.tr xe530
  have xm923 : ext S30 S550 := xm922.tr xe551
  have xm924 : ext S30 S567 := xm923.tr xe568
  have xm925 : ext S30 S629 := xm924.tr xe630
  have xm926 : ext S30 S643 := xm925.tr xe644
  have xm927 : ext S30 S691 := xm926.tr xe692
  have xm928 : ext S30 S705 := xm927.tr xe706
  have xm929 : ext S30 S753 := xm928.tr xe754
  have xm930 : ext S30 S767 := xm929.tr xe768
  have xm931 : ext S30 S815 := xm930.tr xe816
  have xm932 : ext S30 S829 := xm931.tr xe830
  have xm933 : ext S30 S877 := xm932.tr xe878
  have xm934 : ext S15 S829 := xm862.tr xe830
  have xm935 : ext S15 S877 := xm934.tr xe878
  have am936 : isA S877 qa5 14 := xm935.A (xe17.A aqa5)
  have xm937 : ext S6 S30 := xe17.tr xe31
  have xm938 : ext S6 S36 := xm937.tr xe37
  have xm939 : ext S6 S48 := xm938.tr xe50
  have xm940 : ext S6 S66 := xm939.tr xe67
  have xm941 : ext S6 S73 := xm940.tr xe74
  have xm942 : ext S6 S91 := xm941.tr xe92
  have xm943 : ext S6 S98 := xm942.tr xe99
  have xm944 : ext S6 S118 := xm943.tr xe119
  have xm945 : ext S6 S125 := xm944.tr xe126
  have xm946 : ext S6 S145 := xm945.tr xe146
  have xm947 : ext S6 S152 := xm946.tr xe153
  have xm948 : ext S6 S172 := xm947.tr xe173
  have xm949 : ext S6 S179 := xm948.tr xe180
  have xm950 : ext S6 S199 := xm949.tr xe200
  have xm951 : ext S6 S206 := xm950.tr xe207
  have xm952 : ext S6 S226 := xm951.tr xe227
  have xm953 : ext S6 S234 := xm952.tr xe235
  have xm954 : ext S6 S256 := xm953.tr xe257
  have xm955 : ext S6 S264 := xm954.tr xe265
  have xm956 : ext S6 S288 := xm955.tr xe289
  have xm957 : ext S6 S297 := xm956.tr xe298
  have xm958 : ext S6 S323 := xm957.tr xe324
  have xm959 : ext S6 S333 := xm958.tr xe334
  have xm960 : ext S6 S363 := xm959.tr xe364
  have xm961 : ext S6 S374 := xm960.tr xe375
  have xm962 : ext S6 S408 := xm961.tr xe409
  have xm963 : ext S6 S420 := xm962.tr xe421
  have xm964 : ext S6 S458 := xm963.tr xe459
  have xm965 : ext S6 S471 := xm964.tr xe472
  have xm966 : ext S6 S513 := xm965.tr xe514
  have xm967 : ext S6 S529 := xm966.tr xe530
  have xm968 : ext S6 S550 := xm967.tr xe551
  have xm969 : ext S6 S567 := xm968.tr xe568
  have xm970 : ext S6 S629 := xm969.tr xe630
  have xm971 : ext S6 S643 := xm970.tr xe644
  have xm972 : ext S6 S691 := xm971.tr xe692
  have xm973 : ext S6 S705 := xm972.tr xe706
  have xm974 : ext S6 S753 := xm973.tr xe754
  have xm975 : ext S6 S767 := xm974.tr xe768
  have xm976 : ext S6 S815 := xm975.tr xe816
  have xm977 : ext S6 S829 := xm976.tr xe830
  have xm978 : ext S6 S877 := xm977.tr xe878
  have xm979 : ext S66 S91 := xe74.tr xe92
  have xm980 : ext S66 S98 := xm979.tr xe99
  have xm981 : ext S66 S118 := xm980.tr xe119
  have xm982 : ext S66 S125 := xm981.tr xe126
  have xm983 : ext S66 S145 := xm982.tr xe146
  have xm984 : ext S66 S152 := xm983.tr xe153
  have xm985 : ext S66 S172 := xm984.tr xe173
  have xm986 : ext S66 S179 := xm985.tr xe180
  have xm987 : ext S66 S199 := xm986.tr xe200
  have xm988 : ext S66 S206 := xm987.tr xe207
  have xm989 : ext S66 S226 := xm988.tr xe227
  have xm990 : ext S66 S234 := xm989.tr xe235
  have xm991 : ext S66 S256 := xm990.tr xe257
  have xm992 : ext S66 S264 := xm991.tr xe265
  have xm993 : ext S66 S288 := xm992.tr xe289
  have xm994 : ext S66 S297 := xm993.tr xe298
  have xm995 : ext S66 S323 := xm994.tr xe324
  have xm996 : ext S66 S333 := xm995.tr xe334
  have xm997 : ext S66 S363 := xm996.tr xe364
  have xm998 : ext S66 S374 := xm997.tr xe375
  have xm999 : ext S66 S408 := xm998.tr xe409
  have xm1000 : ext S66 S420 := xm999.tr xe421
  have xm1001 : ext S66 S458 := xm1000.tr xe459
  have xm1002 : ext S66 S471 := xm1001.tr xe472
  have xm1003 : ext S66 S513 := xm1002.tr xe514
  have xm1004 : ext S66 S529 := xm1003.tr xe530
  have xm1005 : ext S66 S550 := xm1004.tr xe551
  have xm1006 : ext S66 S567 := xm1005.tr xe568
  have xm1007 : ext S66 S629 := xm1006.tr xe630
  have xm1008 : ext S66 S643 := xm1007.tr xe644
  have xm1009 : ext S66 S691 := xm1008.tr xe692
  have xm1010 : ext S66 S705 := xm1009.tr xe706
  have xm1011 : ext S66 S753 := xm1010.tr xe754
  have xm1012 : ext S66 S767 := xm1011.tr xe768
  have xm1013 : ext S66 S815 := xm1012.tr xe816
  have xm1014 : ext S66 S829 := xm1013.tr xe830
  have xm1015 : ext S66 S877 := xm1014.tr xe878
  have xm1016 : ext S48 S829 := xm866.tr xe830
  have xm1017 : ext S48 S877 := xm1016.tr xe878
  have am1018 : isA S877 qa35 14 := xm1017.A (xe50.A aqa35)
  have xm1019 : ext S36 S66 := xe50.tr xe67
  have xm1020 : ext S36 S73 := xm1019.tr xe74
  have xm1021 : ext S36 S91 := xm1020.tr xe92
  have xm1022 : ext S36 S98 := xm1021.tr xe99
  have xm1023 : ext S36 S118 := xm1022.tr xe119
  have xm1024 : ext S36 S125 := xm1023.tr xe126
  have xm1025 : ext S36 S145 := xm1024.tr xe146
  have xm1026 : ext S36 S152 := xm1025.tr xe153
  have xm1027 : ext S36 S172 := xm1026.tr xe173
  have xm1028 : ext S36 S179 := xm1027.tr xe180
  have xm1029 : ext S36 S199 := xm1028.tr xe200
  have xm1030 : ext S36 S206 := xm1029.tr xe207
  have xm1031 : ext S36 S226 := xm1030.tr xe227
  have xm1032 : ext S36 S234 := xm1031.tr xe235
  have xm1033 : ext S36 S256 := xm1032.tr xe257
  have xm1034 : ext S36 S264 := xm1033.tr xe265
  have xm1035 : ext S36 S288 := xm1034.tr xe289
  have xm1036 : ext S36 S297 := xm1035.tr xe298
  have xm1037 : ext S36 S323 := xm1036.tr xe324
  have xm1038 : ext S36 S333 := xm1037.tr xe334
  have xm1039 : ext S36 S363 := xm1038.tr xe364
  have xm1040 : ext S36 S374 := xm1039.tr xe375
  have xm1041 : ext S36 S408 := xm1040.tr xe409
  have xm1042 : ext S36 S420 := xm1041.tr xe421
  have xm1043 : ext S36 S458 := xm1042.tr xe459
  have xm1044 : ext S36 S471 := xm1043.tr xe472
  have xm1045 : ext S36 S513 := xm1044.tr xe514
  have xm1046 : ext S36 S529 := xm1045.tr xe530
  have xm1047 : ext S36 S550 := xm1046.tr xe551
  have xm1048 : ext S36 S567 := xm1047.tr xe568
  have xm1049 : ext S36 S629 := xm1048.tr xe630
  have xm1050 : ext S36 S643 := xm1049.tr xe644
  have xm1051 : ext S36 S691 := xm1050.tr xe692
  have xm1052 : ext S36 S705 := xm1051.tr xe706
  have xm1053 : ext S36 S753 := xm1052.tr xe754
  have xm1054 : ext S36 S767 := xm1053.tr xe768
  have xm1055 : ext S36 S815 := xm1054.tr xe816
  have xm1056 : ext S36 S829 := xm1055.tr xe830
  have xm1057 : ext S36 S877 := xm1056.tr xe878
  have xm1058 : ext S91 S118 := xe99.tr xe119
  have xm1059 : ext S91 S125 := xm1058.tr xe126
  have xm1060 : ext S91 S145 := xm1059.tr xe146
  have xm1061 : ext S91 S152 := xm1060.tr xe153
  have xm1062 : ext S91 S172 := xm1061.tr xe173
  have xm1063 : ext S91 S179 := xm1062.tr xe180
  have xm1064 : ext S91 S199 := xm1063.tr xe200
  have xm1065 : ext S91 S206 := xm1064.tr xe207
  have xm1066 : ext S91 S226 := xm1065.tr xe227
  have xm1067 : ext S91 S234 := xm1066.tr xe235
  have xm1068 : ext S91 S256 := xm1067.tr xe257
  have xm1069 : ext S91 S264 := xm1068.tr xe265
  have xm1070 : ext S91 S288 := xm1069.tr xe289
  have xm1071 : ext S91 S297 := xm1070.tr xe298
  have xm1072 : ext S91 S323 := xm1071.tr xe324
  have xm1073 : ext S91 S333 := xm1072.tr xe334
  have xm1074 : ext S91 S363 := xm1073.tr xe364
  have xm1075 : ext S91 S374 := xm1074.tr xe375
  have xm1076 : ext S91 S408 := xm1075.tr xe409
  have xm1077 : ext S91 S420 := xm1076.tr xe421
  have xm1078 : ext S91 S458 := xm1077.tr xe459
  have xm1079 : ext S91 S471 := xm1078.tr xe472
  have xm1080 : ext S91 S513 := xm1079.tr xe514
  have xm1081 : ext S91 S529 := xm1080.tr xe530
  have xm1082 : ext S91 S550 := xm1081.tr xe551
  have xm1083 : ext S91 S567 := xm1082.tr xe568
  have xm1084 : ext S91 S629 := xm1083.tr xe630
  have xm1085 : ext S91 S643 := xm1084.tr xe644
  have xm1086 : ext S91 S691 := xm1085.tr xe692
  have xm1087 : ext S91 S705 := xm1086.tr xe706
  have xm1088 : ext S91 S753 := xm1087.tr xe754
  have xm1089 : ext S91 S767 := xm1088.tr xe768
  have xm1090 : ext S91 S815 := xm1089.tr xe816
  have xm1091 : ext S91 S829 := xm1090.tr xe830
  have xm1092 : ext S91 S877 := xm1091.tr xe878
  have xm1093 : ext S73 S98 := xe92.tr xe99
  have xm1094 : ext S73 S118 := xm1093.tr xe119
  have xm1095 : ext S73 S125 := xm1094.tr xe126
  have xm1096 : ext S73 S145 := xm1095.tr xe146
  have xm1097 : ext S73 S152 := xm1096.tr xe153
  have xm1098 : ext S73 S172 := xm1097.tr xe173
  have xm1099 : ext S73 S179 := xm1098.tr xe180
  have xm1100 : ext S73 S199 := xm1099.tr xe200
  have xm1101 : ext S73 S206 := xm1100.tr xe207
  have xm1102 : ext S73 S226 := xm1101.tr xe227
  have xm1103 : ext S73 S234 := xm1102.tr xe235
  have xm1104 : ext S73 S256 := xm1103.tr xe257
  have xm1105 : ext S73 S264 := xm1104.tr xe265
  have xm1106 : ext S73 S288 := xm1105.tr xe289
  have xm1107 : ext S73 S297 := xm1106.tr xe298
  have xm1108 : ext S73 S323 := xm1107.tr xe324
  have xm1109 : ext S73 S333 := xm1108.tr xe334
  have xm1110 : ext S73 S363 := xm1109.tr xe364
  have xm1111 : ext S73 S374 := xm1110.tr xe375
  have xm1112 : ext S73 S408 := xm1111.tr xe409
  have xm1113 : ext S73 S420 := xm1112.tr xe421
  have xm1114 : ext S73 S458 := xm1113.tr xe459
  have xm1115 : ext S73 S471 := xm1114.tr xe472
  have xm1116 : ext S73 S513 := xm1115.tr xe514
  have xm1117 : ext S73 S529 := xm1116.tr xe530
  have xm1118 : ext S73 S550 := xm1117.tr xe551
  have xm1119 : ext S73 S567 := xm1118.tr xe568
  have xm1120 : ext S73 S629 := xm1119.tr xe630
  have xm1121 : ext S73 S643 := xm1120.tr xe644
  have xm1122 : ext S73 S691 := xm1121.tr xe692
  have xm1123 : ext S73 S705 := xm1122.tr xe706
  have xm1124 : ext S73 S753 := xm1123.tr xe754
  have xm1125 : ext S73 S767 := xm1124.tr xe768
  have xm1126 : ext S73 S815 := xm1125.tr xe816
  have xm1127 : ext S73 S829 := xm1126.tr xe830
  have xm1128 : ext S73 S877 := xm1127.tr xe878
  have am1129 : isA S877 qa72 31 := xm1128.A aqa72
  have xm1130 : ext S118 S145 := xe126.tr xe146
  have xm1131 : ext S118 S152 := xm1130.tr xe153
  have xm1132 : ext S118 S172 := xm1131.tr xe173
  have xm1133 : ext S118 S179 := xm1132.tr xe180
  have xm1134 : ext S118 S199 := xm1133.tr xe200
  have xm1135 : ext S118 S206 := xm1134.tr xe207
  have xm1136 : ext S118 S226 := xm1135.tr xe227
  have xm1137 : ext S118 S234 := xm1136.tr xe235
  have xm1138 : ext S118 S256 := xm1137.tr xe257
  have xm1139 : ext S118 S264 := xm1138.tr xe265
  have xm1140 : ext S118 S288 := xm1139.tr xe289
  have xm1141 : ext S118 S297 := xm1140.tr xe298
  have xm1142 : ext S118 S323 := xm1141.tr xe324
  have xm1143 : ext S118 S333 := xm1142.tr xe334
  have xm1144 : ext S118 S363 := xm1143.tr xe364
  have xm1145 : ext S118 S374 := xm1144.tr xe375
  have xm1146 : ext S118 S408 := xm1145.tr xe409
  have xm1147 : ext S118 S420 := xm1146.tr xe421
  have xm1148 : ext S118 S458 := xm1147.tr xe459
  have xm1149 : ext S118 S471 := xm1148.tr xe472
  have xm1150 : ext S118 S513 := xm1149.tr xe514
  have xm1151 : ext S118 S529 := xm1150.tr xe530
  have xm1152 : ext S118 S550 := xm1151.tr xe551
  have xm1153 : ext S118 S567 := xm1152.tr xe568
  have xm1154 : ext S118 S629 := xm1153.tr xe630
  have xm1155 : ext S118 S643 := xm1154.tr xe644
  have xm1156 : ext S118 S691 := xm1155.tr xe692
  have xm1157 : ext S118 S705 := xm1156.tr xe706
  have xm1158 : ext S118 S753 := xm1157.tr xe754
  have xm1159 : ext S118 S767 := xm1158.tr xe768
  have xm1160 : ext S118 S815 := xm1159.tr xe816
  have xm1161 : ext S118 S829 := xm1160.tr xe830
  have xm1162 : ext S118 S877 := xm1161.tr xe878
  have xm1163 : ext S98 S125 := xe119.tr xe126
  have xm1164 : ext S98 S145 := xm1163.tr xe146
  have xm1165 : ext S98 S152 := xm1164.tr xe153
  have xm1166 : ext S98 S172 := xm1165.tr xe173
  have xm1167 : ext S98 S179 := xm1166.tr xe180
  have xm1168 : ext S98 S199 := xm1167.tr xe200
  have xm1169 : ext S98 S206 := xm1168.tr xe207
  have xm1170 : ext S98 S226 := xm1169.tr xe227
  have xm1171 : ext S98 S234 := xm1170.tr xe235
  have xm1172 : ext S98 S256 := xm1171.tr xe257
  have xm1173 : ext S98 S264 := xm1172.tr xe265
  have xm1174 : ext S98 S288 := xm1173.tr xe289
  have xm1175 : ext S98 S297 := xm1174.tr xe298
  have xm1176 : ext S98 S323 := xm1175.tr xe324
  have xm1177 : ext S98 S333 := xm1176.tr xe334
  have xm1178 : ext S98 S363 := xm1177.tr xe364
  have xm1179 : ext S98 S374 := xm1178.tr xe375
  have xm1180 : ext S98 S408 := xm1179.tr xe409
  have xm1181 : ext S98 S420 := xm1180.tr xe421
  have xm1182 : ext S98 S458 := xm1181.tr xe459
  have xm1183 : ext S98 S471 := xm1182.tr xe472
  have xm1184 : ext S98 S513 := xm1183.tr xe514
  have xm1185 : ext S98 S529 := xm1184.tr xe530
  have xm1186 : ext S98 S550 := xm1185.tr xe551
  have xm1187 : ext S98 S567 := xm1186.tr xe568
  have xm1188 : ext S98 S629 := xm1187.tr xe630
  have xm1189 : ext S98 S643 := xm1188.tr xe644
  have xm1190 : ext S98 S691 := xm1189.tr xe692
  have xm1191 : ext S98 S705 := xm1190.tr xe706
  have xm1192 : ext S98 S753 := xm1191.tr xe754
  have xm1193 : ext S98 S767 := xm1192.tr xe768
  have xm1194 : ext S98 S815 := xm1193.tr xe816
  have xm1195 : ext S98 S829 := xm1194.tr xe830
  have xm1196 : ext S98 S877 := xm1195.tr xe878
  have am1197 : isA S877 qa97 17 := xm1196.A aqa97
  have xm1198 : ext S145 S172 := xe153.tr xe173
  have xm1199 : ext S145 S179 := xm1198.tr xe180
  have xm1200 : ext S145 S199 := xm1199.tr xe200
  have xm1201 : ext S145 S206 := xm1200.tr xe207
  have xm1202 : ext S145 S226 := xm1201.tr xe227
  have xm1203 : ext S145 S234 := xm1202.tr xe235
  have xm1204 : ext S145 S256 := xm1203.tr xe257
  have xm1205 : ext S145 S264 := xm1204.tr xe265
  have xm1206 : ext S145 S288 := xm1205.tr xe289
  have xm1207 : ext S145 S297 := xm1206.tr xe298
  have xm1208 : ext S145 S323 := xm1207.tr xe324
  have xm1209 : ext S145 S333 := xm1208.tr xe334
  have xm1210 : ext S145 S363 := xm1209.tr xe364
  have xm1211 : ext S145 S374 := xm1210.tr xe375
  have xm1212 : ext S145 S408 := xm1211.tr xe409
  have xm1213 : ext S145 S420 := xm1212.tr xe421
  have xm1214 : ext S145 S458 := xm1213.tr xe459
  have xm1215 : ext S145 S471 := xm1214.tr xe472
  have xm1216 : ext S145 S513 := xm1215.tr xe514
  have xm1217 : ext S145 S529 := xm1216.tr xe530
  have xm1218 : ext S145 S550 := xm1217.tr xe551
  have xm1219 : ext S145 S567 := xm1218.tr xe568
  have xm1220 : ext S145 S629 := xm1219.tr xe630
  have xm1221 : ext S145 S643 := xm1220.tr xe644
  have xm1222 : ext S145 S691 := xm1221.tr xe692
  have xm1223 : ext S145 S705 := xm1222.tr xe706
  have xm1224 : ext S145 S753 := xm1223.tr xe754
  have xm1225 : ext S145 S767 := xm1224.tr xe768
  have xm1226 : ext S145 S815 := xm1225.tr xe816
  have xm1227 : ext S145 S829 := xm1226.tr xe830
  have xm1228 : ext S145 S877 := xm1227.tr xe878
  have xm1229 : ext S125 S152 := xe146.tr xe153
  have xm1230 : ext S125 S172 := xm1229.tr xe173
  have xm1231 : ext S125 S179 := xm1230.tr xe180
  have xm1232 : ext S125 S199 := xm1231.tr xe200
  have xm1233 : ext S125 S206 := xm1232.tr xe207
  have xm1234 : ext S125 S226 := xm1233.tr xe227
  have xm1235 : ext S125 S234 := xm1234.tr xe235
  have xm1236 : ext S125 S256 := xm1235.tr xe257
  have xm1237 : ext S125 S264 := xm1236.tr xe265
  have xm1238 : ext S125 S288 := xm1237.tr xe289
  have xm1239 : ext S125 S297 := xm1238.tr xe298
  have xm1240 : ext S125 S323 := xm1239.tr xe324
  have xm1241 : ext S125 S333 := xm1240.tr xe334
  have xm1242 : ext S125 S363 := xm1241.tr xe364
  have xm1243 : ext S125 S374 := xm1242.tr xe375
  have xm1244 : ext S125 S408 := xm1243.tr xe409
  have xm1245 : ext S125 S420 := xm1244.tr xe421
  have xm1246 : ext S125 S458 := xm1245.tr xe459
  have xm1247 : ext S125 S471 := xm1246.tr xe472
  have xm1248 : ext S125 S513 := xm1247.tr xe514
  have xm1249 : ext S125 S529 := xm1248.tr xe530
  have xm1250 : ext S125 S550 := xm1249.tr xe551
  have xm1251 : ext S125 S567 := xm1250.tr xe568
  have xm1252 : ext S125 S629 := xm1251.tr xe630
  have xm1253 : ext S125 S643 := xm1252.tr xe644
  have xm1254 : ext S125 S691 := xm1253.tr xe692
  have xm1255 : ext S125 S705 := xm1254.tr xe706
  have xm1256 : ext S125 S753 := xm1255.tr xe754
  have xm1257 : ext S125 S767 := xm1256.tr xe768
  have xm1258 : ext S125 S815 := xm1257.tr xe816
  have xm1259 : ext S125 S829 := xm1258.tr xe830
  have xm1260 : ext S125 S877 := xm1259.tr xe878
  have am1261 : isA S877 qa124 17 := xm1260.A aqa124
  have xm1262 : ext S172 S199 := xe180.tr xe200
  have xm1263 : ext S172 S206 := xm1262.tr xe207
  have xm1264 : ext S172 S226 := xm1263.tr xe227
  have xm1265 : ext S172 S234 := xm1264.tr xe235
  have xm1266 : ext S172 S256 := xm1265.tr xe257
  have xm1267 : ext S172 S264 := xm1266.tr xe265
  have xm1268 : ext S172 S288 := xm1267.tr xe289
  have xm1269 : ext S172 S297 := xm1268.tr xe298
  have xm1270 : ext S172 S323 := xm1269.tr xe324
  have xm1271 : ext S172 S333 := xm1270.tr xe334
  have xm1272 : ext S172 S363 := xm1271.tr xe364
  have xm1273 : ext S172 S374 := xm1272.tr xe375
  have xm1274 : ext S172 S408 := xm1273.tr xe409
  have xm1275 : ext S172 S420 := xm1274.tr xe421
  have xm1276 : ext S172 S458 := xm1275.tr xe459
  have xm1277 : ext S172 S471 := xm1276.tr xe472
  have xm1278 : ext S172 S513 := xm1277.tr xe514
  have xm1279 : ext S172 S529 := xm1278.tr xe530
  have xm1280 : ext S172 S550 := xm1279.tr xe551
  have xm1281 : ext S172 S567 := xm1280.tr xe568
  have xm1282 : ext S172 S629 := xm1281.tr xe630
  have xm1283 : ext S172 S643 := xm1282.tr xe644
  have xm1284 : ext S172 S691 := xm1283.tr xe692
  have xm1285 : ext S172 S705 := xm1284.tr xe706
  have xm1286 : ext S172 S753 := xm1285.tr xe754
  have xm1287 : ext S172 S767 := xm1286.tr xe768
  have xm1288 : ext S172 S815 := xm1287.tr xe816
  have xm1289 : ext S172 S829 := xm1288.tr xe830
  have xm1290 : ext S172 S877 := xm1289.tr xe878
  have xm1291 : ext S152 S179 := xe173.tr xe180
  have xm1292 : ext S152 S199 := xm1291.tr xe200
  have xm1293 : ext S152 S206 := xm1292.tr xe207
  have xm1294 : ext S152 S226 := xm1293.tr xe227
  have xm1295 : ext S152 S234 := xm1294.tr xe235
  have xm1296 : ext S152 S256 := xm1295.tr xe257
  have xm1297 : ext S152 S264 := xm1296.tr xe265
  have xm1298 : ext S152 S288 := xm1297.tr xe289
  have xm1299 : ext S152 S297 := xm1298.tr xe298
  have xm1300 : ext S152 S323 := xm1299.tr xe324
  have xm1301 : ext S152 S333 := xm1300.tr xe334
  have xm1302 : ext S152 S363 := xm1301.tr xe364
  have xm1303 : ext S152 S374 := xm1302.tr xe375
  have xm1304 : ext S152 S408 := xm1303.tr xe409
  have xm1305 : ext S152 S420 := xm1304.tr xe421
  have xm1306 : ext S152 S458 := xm1305.tr xe459
  have xm1307 : ext S152 S471 := xm1306.tr xe472
  have xm1308 : ext S152 S513 := xm1307.tr xe514
  have xm1309 : ext S152 S529 := xm1308.tr xe530
  have xm1310 : ext S152 S550 := xm1309.tr xe551
  have xm1311 : ext S152 S567 := xm1310.tr xe568
  have xm1312 : ext S152 S629 := xm1311.tr xe630
  have xm1313 : ext S152 S643 := xm1312.tr xe644
  have xm1314 : ext S152 S691 := xm1313.tr xe692
  have xm1315 : ext S152 S705 := xm1314.tr xe706
  have xm1316 : ext S152 S753 := xm1315.tr xe754
  have xm1317 : ext S152 S767 := xm1316.tr xe768
  have xm1318 : ext S152 S815 := xm1317.tr xe816
  have xm1319 : ext S152 S829 := xm1318.tr xe830
  have xm1320 : ext S152 S877 := xm1319.tr xe878
  have am1321 : isA S877 qa151 38 := xm1320.A aqa151
  have xm1322 : ext S199 S226 := xe207.tr xe227
  have xm1323 : ext S199 S234 := xm1322.tr xe235
  have xm1324 : ext S199 S256 := xm1323.tr xe257
  have xm1325 : ext S199 S264 := xm1324.tr xe265
  have xm1326 : ext S199 S288 := xm1325.tr xe289
  have xm1327 : ext S199 S297 := xm1326.tr xe298
  have xm1328 : ext S199 S323 := xm1327.tr xe324
  have xm1329 : ext S199 S333 := xm1328.tr xe334
  have xm1330 : ext S199 S363 := xm1329.tr xe364
  have xm1331 : ext S199 S374 := xm1330.tr xe375
  have xm1332 : ext S199 S408 := xm1331.tr xe409
  have xm1333 : ext S199 S420 := xm1332.tr xe421
  have xm1334 : ext S199 S458 := xm1333.tr xe459
  have xm1335 : ext S199 S471 := xm1334.tr xe472
  have xm1336 : ext S199 S513 := xm1335.tr xe514
  have xm1337 : ext S199 S529 := xm1336.tr xe530
  have xm1338 : ext S199 S550 := xm1337.tr xe551
  have xm1339 : ext S199 S567 := xm1338.tr xe568
  have xm1340 : ext S199 S629 := xm1339.tr xe630
  have xm1341 : ext S199 S643 := xm1340.tr xe644
  have xm1342 : ext S199 S691 := xm1341.tr xe692
  have xm1343 : ext S199 S705 := xm1342.tr xe706
  have xm1344 : ext S199 S753 := xm1343.tr xe754
  have xm1345 : ext S199 S767 := xm1344.tr xe768
  have xm1346 : ext S199 S815 := xm1345.tr xe816
  have xm1347 : ext S199 S829 := xm1346.tr xe830
  have xm1348 : ext S199 S877 := xm1347.tr xe878
  have xm1349 : ext S179 S206 := xe200.tr xe207
  have xm1350 : ext S179 S226 := xm1349.tr xe227
  have xm1351 : ext S179 S234 := xm1350.tr xe235
  have xm1352 : ext S179 S256 := xm1351.tr xe257
  have xm1353 : ext S179 S264 := xm1352.tr xe265
  have xm1354 : ext S179 S288 := xm1353.tr xe289
  have xm1355 : ext S179 S297 := xm1354.tr xe298
  have xm1356 : ext S179 S323 := xm1355.tr xe324
  have xm1357 : ext S179 S333 := xm1356.tr xe334
  have xm1358 : ext S179 S363 := xm1357.tr xe364
  have xm1359 : ext S179 S374 := xm1358.tr xe375
  have xm1360 : ext S179 S408 := xm1359.tr xe409
  have xm1361 : ext S179 S420 := xm1360.tr xe421
  have xm1362 : ext S179 S458 := xm1361.tr xe459
  have xm1363 : ext S179 S471 := xm1362.tr xe472
  have xm1364 : ext S179 S513 := xm1363.tr xe514
  have xm1365 : ext S179 S529 := xm1364.tr xe530
  have xm1366 : ext S179 S550 := xm1365.tr xe551
  have xm1367 : ext S179 S567 := xm1366.tr xe568
  have xm1368 : ext S179 S629 := xm1367.tr xe630
  have xm1369 : ext S179 S643 := xm1368.tr xe644
  have xm1370 : ext S179 S691 := xm1369.tr xe692
  have xm1371 : ext S179 S705 := xm1370.tr xe706
  have xm1372 : ext S179 S753 := xm1371.tr xe754
  have xm1373 : ext S179 S767 := xm1372.tr xe768
  have xm1374 : ext S179 S815 := xm1373.tr xe816
  have xm1375 : ext S179 S829 := xm1374.tr xe830
  have xm1376 : ext S179 S877 := xm1375.tr xe878
  have am1377 : isA S877 qa178 34 := xm1376.A aqa178
  have xm1378 : ext S226 S256 := xe235.tr xe257
  have xm1379 : ext S226 S264 := xm1378.tr xe265
  have xm1380 : ext S226 S288 := xm1379.tr xe289
  have xm1381 : ext S226 S297 := xm1380.tr xe298
  have xm1382 : ext S226 S323 := xm1381.tr xe324
  have xm1383 : ext S226 S333 := xm1382.tr xe334
  have xm1384 : ext S226 S363 := xm1383.tr xe364
  have xm1385 : ext S226 S374 := xm1384.tr xe375
  have xm1386 : ext S226 S408 := xm1385.tr xe409
  have xm1387 : ext S226 S420 := xm1386.tr xe421
  have xm1388 : ext S226 S458 := xm1387.tr xe459
  have xm1389 : ext S226 S471 := xm1388.tr xe472
  have xm1390 : ext S226 S513 := xm1389.tr xe514
  have xm1391 : ext S226 S529 := xm1390.tr xe530
  have xm1392 : ext S226 S550 := xm1391.tr xe551
  have xm1393 : ext S226 S567 := xm1392.tr xe568
  have xm1394 : ext S226 S629 := xm1393.tr xe630
  have xm1395 : ext S226 S643 := xm1394.tr xe644
  have xm1396 : ext S226 S691 := xm1395.tr xe692
  have xm1397 : ext S226 S705 := xm1396.tr xe706
  have xm1398 : ext S226 S753 := xm1397.tr xe754
  have xm1399 : ext S226 S767 := xm1398.tr xe768
  have xm1400 : ext S226 S815 := xm1399.tr xe816
  have xm1401 : ext S226 S829 := xm1400.tr xe830
  have xm1402 : ext S226 S877 := xm1401.tr xe878
  have xm1403 : ext S206 S829 := xm834.tr xe830
  have xm1404 : ext S206 S877 := xm1403.tr xe878
  have am1405 : isA S877 qa205 35 := xm1404.A aqa205
  have xm1406 : ext S256 S288 := xe265.tr xe289
  have xm1407 : ext S256 S297 := xm1406.tr xe298
  have xm1408 : ext S256 S323 := xm1407.tr xe324
  have xm1409 : ext S256 S333 := xm1408.tr xe334
  have xm1410 : ext S256 S363 := xm1409.tr xe364
  have xm1411 : ext S256 S374 := xm1410.tr xe375
  have xm1412 : ext S256 S408 := xm1411.tr xe409
  have xm1413 : ext S256 S420 := xm1412.tr xe421
  have xm1414 : ext S256 S458 := xm1413.tr xe459
  have xm1415 : ext S256 S471 := xm1414.tr xe472
  have xm1416 : ext S256 S513 := xm1415.tr xe514
  have xm1417 : ext S256 S529 := xm1416.tr xe530
  have xm1418 : ext S256 S550 := xm1417.tr xe551
  have xm1419 : ext S256 S567 := xm1418.tr xe568
  have xm1420 : ext S256 S629 := xm1419.tr xe630
  have xm1421 : ext S256 S643 := xm1420.tr xe644
  have xm1422 : ext S256 S691 := xm1421.tr xe692
  have xm1423 : ext S256 S705 := xm1422.tr xe706
  have xm1424 : ext S256 S753 := xm1423.tr xe754
  have xm1425 : ext S256 S767 := xm1424.tr xe768
  have xm1426 : ext S256 S815 := xm1425.tr xe816
  have xm1427 : ext S256 S829 := xm1426.tr xe830
  have xm1428 : ext S256 S877 := xm1427.tr xe878
  have xm1429 : ext S234 S264 := xe257.tr xe265
  have xm1430 : ext S234 S288 := xm1429.tr xe289
  have xm1431 : ext S234 S297 := xm1430.tr xe298
  have xm1432 : ext S234 S323 := xm1431.tr xe324
  have xm1433 : ext S234 S333 := xm1432.tr xe334
  have xm1434 : ext S234 S363 := xm1433.tr xe364
  have xm1435 : ext S234 S374 := xm1434.tr xe375
  have xm1436 : ext S234 S408 := xm1435.tr xe409
  have xm1437 : ext S234 S420 := xm1436.tr xe421
  have xm1438 : ext S234 S458 := xm1437.tr xe459
  have xm1439 : ext S234 S471 := xm1438.tr xe472
  have xm1440 : ext S234 S513 := xm1439.tr xe514
  have xm1441 : ext S234 S529 := xm1440.tr xe530
  have xm1442 : ext S234 S550 := xm1441.tr xe551
  have xm1443 : ext S234 S567 := xm1442.tr xe568
  have xm1444 : ext S234 S629 := xm1443.tr xe630
  have xm1445 : ext S234 S643 := xm1444.tr xe644
  have xm1446 : ext S234 S691 := xm1445.tr xe692
  have xm1447 : ext S234 S705 := xm1446.tr xe706
  have xm1448 : ext S234 S753 := xm1447.tr xe754
  have xm1449 : ext S234 S767 := xm1448.tr xe768
  have xm1450 : ext S234 S815 := xm1449.tr xe816
  have xm1451 : ext S234 S829 := xm1450.tr xe830
  have xm1452 : ext S234 S877 := xm1451.tr xe878
  have am1453 : isA S877 qa233 36 := xm1452.A aqa233
  have xm1454 : ext S629 S691 := xe644.tr xe692
  have xm1455 : ext S629 S705 := xm1454.tr xe706
  have xm1456 : ext S629 S753 := xm1455.tr xe754
  have xm1457 : ext S629 S767 := xm1456.tr xe768
  have xm1458 : ext S629 S815 := xm1457.tr xe816
  have xm1459 : ext S629 S829 := xm1458.tr xe830
  have xm1460 : ext S629 S877 := xm1459.tr xe878
  have xm1461 : ext S567 S643 := xe630.tr xe644
  have xm1462 : ext S567 S691 := xm1461.tr xe692
  have xm1463 : ext S567 S705 := xm1462.tr xe706
  have xm1464 : ext S567 S753 := xm1463.tr xe754
  have xm1465 : ext S567 S767 := xm1464.tr xe768
  have xm1466 : ext S567 S815 := xm1465.tr xe816
  have xm1467 : ext S567 S829 := xm1466.tr xe830
  have xm1468 : ext S567 S877 := xm1467.tr xe878
  have am1469 : isA S877 qa566 17 := xm1468.A aqa566
  have xm1470 : ext S691 S753 := xe706.tr xe754
  have xm1471 : ext S691 S767 := xm1470.tr xe768
  have xm1472 : ext S691 S815 := xm1471.tr xe816
  have xm1473 : ext S691 S829 := xm1472.tr xe830
  have xm1474 : ext S691 S877 := xm1473.tr xe878
  have xm1475 : ext S643 S705 := xe692.tr xe706
  have xm1476 : ext S643 S753 := xm1475.tr xe754
  have xm1477 : ext S643 S767 := xm1476.tr xe768
  have xm1478 : ext S643 S815 := xm1477.tr xe816
  have xm1479 : ext S643 S829 := xm1478.tr xe830
  have xm1480 : ext S643 S877 := xm1479.tr xe878
  have am1481 : isA S877 qa642 17 := xm1480.A aqa642
  have xm1482 : ext S753 S815 := xe768.tr xe816
  have xm1483 : ext S753 S829 := xm1482.tr xe830
  have xm1484 : ext S753 S877 := xm1483.tr xe878
  have xm1485 : ext S705 S767 := xe754.tr xe768
  have xm1486 : ext S705 S815 := xm1485.tr xe816
  have xm1487 : ext S705 S829 := xm1486.tr xe830
  have xm1488 : ext S705 S877 := xm1487.tr xe878
  have am1489 : isA S877 qa704 17 := xm1488.A aqa704
  have xm1490 : ext S815 S877 := xe830.tr xe878
  have xm1491 : ext S767 S829 := xe816.tr xe830
  have xm1492 : ext S767 S877 := xm1491.tr xe878
  have am1493 : isA S877 qa766 17 := xm1492.A aqa766
  have am1494 : isA S877 qa828 17 := xe878.A aqa828
  have xm1495 : ext S288 S323 := xe298.tr xe324
  have xm1496 : ext S288 S333 := xm1495.tr xe334
  have xm1497 : ext S288 S363 := xm1496.tr xe364
  have xm1498 : ext S288 S374 := xm1497.tr xe375
  have xm1499 : ext S288 S408 := xm1498.tr xe409
  have xm1500 : ext S288 S420 := xm1499.tr xe421
  have xm1501 : ext S288 S458 := xm1500.tr xe459
  have xm1502 : ext S288 S471 := xm1501.tr xe472
  have xm1503 : ext S288 S513 := xm1502.tr xe514
  have xm1504 : ext S288 S529 := xm1503.tr xe530
  have xm1505 : ext S288 S550 := xm1504.tr xe551
  have xm1506 : ext S288 S567 := xm1505.tr xe568
  have xm1507 : ext S288 S629 := xm1506.tr xe630
  have xm1508 : ext S288 S643 := xm1507.tr xe644
  have xm1509 : ext S288 S691 := xm1508.tr xe692
  have xm1510 : ext S288 S705 := xm1509.tr xe706
  have xm1511 : ext S288 S753 := xm1510.tr xe754
  have xm1512 : ext S288 S767 := xm1511.tr xe768
  have xm1513 : ext S288 S815 := xm1512.tr xe816
  have xm1514 : ext S288 S829 := xm1513.tr xe830
  have xm1515 : ext S288 S877 := xm1514.tr xe878
  have xm1516 : ext S264 S829 := xm838.tr xe830
  have xm1517 : ext S264 S877 := xm1516.tr xe878
  have am1518 : isA S877 qa263 23 := xm1517.A aqa263
  have xm1519 : ext S323 S363 := xe334.tr xe364
  have xm1520 : ext S323 S374 := xm1519.tr xe375
  have xm1521 : ext S323 S408 := xm1520.tr xe409
  have xm1522 : ext S323 S420 := xm1521.tr xe421
  have xm1523 : ext S323 S458 := xm1522.tr xe459
  have xm1524 : ext S323 S471 := xm1523.tr xe472
  have xm1525 : ext S323 S513 := xm1524.tr xe514
  have xm1526 : ext S323 S529 := xm1525.tr xe530
  have xm1527 : ext S323 S550 := xm1526.tr xe551
  have xm1528 : ext S323 S567 := xm1527.tr xe568
  have xm1529 : ext S323 S629 := xm1528.tr xe630
  have xm1530 : ext S323 S643 := xm1529.tr xe644
  have xm1531 : ext S323 S691 := xm1530.tr xe692
  have xm1532 : ext S323 S705 := xm1531.tr xe706
  have xm1533 : ext S323 S753 := xm1532.tr xe754
  have xm1534 : ext S323 S767 := xm1533.tr xe768
  have xm1535 : ext S323 S815 := xm1534.tr xe816
  have xm1536 : ext S323 S829 := xm1535.tr xe830
  have xm1537 : ext S323 S877 := xm1536.tr xe878
  have xm1538 : ext S297 S829 := xm842.tr xe830
  have xm1539 : ext S297 S877 := xm1538.tr xe878
  have am1540 : isA S877 qa296 23 := xm1539.A aqa296
  have xm1541 : ext S363 S408 := xe375.tr xe409
  have xm1542 : ext S363 S420 := xm1541.tr xe421
  have xm1543 : ext S363 S458 := xm1542.tr xe459
  have xm1544 : ext S363 S471 := xm1543.tr xe472
  have xm1545 : ext S363 S513 := xm1544.tr xe514
  have xm1546 : ext S363 S529 := xm1545.tr xe530
  have xm1547 : ext S363 S550 := xm1546.tr xe551
  have xm1548 : ext S363 S567 := xm1547.tr xe568
  have xm1549 : ext S363 S629 := xm1548.tr xe630
  have xm1550 : ext S363 S643 := xm1549.tr xe644
  have xm1551 : ext S363 S691 := xm1550.tr xe692
  have xm1552 : ext S363 S705 := xm1551.tr xe706
  have xm1553 : ext S363 S753 := xm1552.tr xe754
  have xm1554 : ext S363 S767 := xm1553.tr xe768
  have xm1555 : ext S363 S815 := xm1554.tr xe816
  have xm1556 : ext S363 S829 := xm1555.tr xe830
  have xm1557 : ext S363 S877 := xm1556.tr xe878
  have xm1558 : ext S333 S829 := xm846.tr xe830
  have xm1559 : ext S333 S877 := xm1558.tr xe878
  have am1560 : isA S877 qa332 23 := xm1559.A aqa332
  have xm1561 : ext S408 S458 := xe421.tr xe459
  have xm1562 : ext S408 S471 := xm1561.tr xe472
  have xm1563 : ext S408 S513 := xm1562.tr xe514
  have xm1564 : ext S408 S529 := xm1563.tr xe530
  have xm1565 : ext S408 S550 := xm1564.tr xe551
  have xm1566 : ext S408 S567 := xm1565.tr xe568
  have xm1567 : ext S408 S629 := xm1566.tr xe630
  have xm1568 : ext S408 S643 := xm1567.tr xe644
  have xm1569 : ext S408 S691 := xm1568.tr xe692
  have xm1570 : ext S408 S705 := xm1569.tr xe706
  have xm1571 : ext S408 S753 := xm1570.tr xe754
  have xm1572 : ext S408 S767 := xm1571.tr xe768
  have xm1573 : ext S408 S815 := xm1572.tr xe816
  have xm1574 : ext S408 S829 := xm1573.tr xe830
  have xm1575 : ext S408 S877 := xm1574.tr xe878
  have xm1576 : ext S374 S829 := xm850.tr xe830
  have xm1577 : ext S374 S877 := xm1576.tr xe878
  have am1578 : isA S877 qa373 23 := xm1577.A aqa373
  have xm1579 : ext S458 S513 := xe472.tr xe514
  have xm1580 : ext S458 S529 := xm1579.tr xe530
  have xm1581 : ext S458 S550 := xm1580.tr xe551
  have xm1582 : ext S458 S567 := xm1581.tr xe568
  have xm1583 : ext S458 S629 := xm1582.tr xe630
  have xm1584 : ext S458 S643 := xm1583.tr xe644
  have xm1585 : ext S458 S691 := xm1584.tr xe692
  have xm1586 : ext S458 S705 := xm1585.tr xe706
  have xm1587 : ext S458 S753 := xm1586.tr xe754
  have xm1588 : ext S458 S767 := xm1587.tr xe768
  have xm1589 : ext S458 S815 := xm1588.tr xe816
  have xm1590 : ext S458 S829 := xm1589.tr xe830
  have xm1591 : ext S458 S877 := xm1590.tr xe878
  have xm1592 : ext S420 S829 := xm854.tr xe830
  have xm1593 : ext S420 S877 := xm1592.tr xe878
  have am1594 : isA S877 qa419 23 := xm1593.A aqa419
  have xm1595 : ext S513 S550 := xe530.tr xe551
  have xm1596 : ext S513 S567 := xm1595.tr xe568
  have xm1597 : ext S513 S629 := xm1596.tr xe630
  have xm1598 : ext S513 S643 := xm1597.tr xe644
  have xm1599 : ext S513 S691 := xm1598.tr xe692
  have xm1600 : ext S513 S705 := xm1599.tr xe706
  have xm1601 : ext S513 S753 := xm1600.tr xe754
  have xm1602 : ext S513 S767 := xm1601.tr xe768
  have xm1603 : ext S513 S815 := xm1602.tr xe816
  have xm1604 : ext S513 S829 := xm1603.tr xe830
  have xm1605 : ext S513 S877 := xm1604.tr xe878
  have xm1606 : ext S471 S829 := xm858.tr xe830
  have xm1607 : ext S471 S877 := xm1606.tr xe878
  have am1608 : isA S877 qa470 23 := xm1607.A aqa470
  have xm1609 : ext S1 S15 := xe7.tr xe17
  have xm1610 : ext S1 S30 := xm1609.tr xe31
  have xm1611 : ext S1 S36 := xm1610.tr xe37
  have xm1612 : ext S1 S48 := xm1611.tr xe50
  have xm1613 : ext S1 S66 := xm1612.tr xe67
  have xm1614 : ext S1 S73 := xm1613.tr xe74
  have xm1615 : ext S1 S91 := xm1614.tr xe92
  have xm1616 : ext S1 S98 := xm1615.tr xe99
  have xm1617 : ext S1 S118 := xm1616.tr xe119
  have xm1618 : ext S1 S125 := xm1617.tr xe126
  have xm1619 : ext S1 S145 := xm1618.tr xe146
  have xm1620 : ext S1 S152 := xm1619.tr xe153
  have xm1621 : ext S1 S172 := xm1620.tr xe173
  have xm1622 : ext S1 S179 := xm1621.tr xe180
  have xm1623 : ext S1 S199 := xm1622.tr xe200
  have xm1624 : ext S1 S206 := xm1623.tr xe207
  have xm1625 : ext S1 S226 := xm1624.tr xe227
  have xm1626 : ext S1 S234 := xm1625.tr xe235
  have xm1627 : ext S1 S256 := xm1626.tr xe257
  have xm1628 : ext S1 S264 := xm1627.tr xe265
  have xm1629 : ext S1 S288 := xm1628.tr xe289
  have xm1630 : ext S1 S297 := xm1629.tr xe298
  have xm1631 : ext S1 S323 := xm1630.tr xe324
  have xm1632 : ext S1 S333 := xm1631.tr xe334
  have xm1633 : ext S1 S363 := xm1632.tr xe364
  have xm1634 : ext S1 S374 := xm1633.tr xe375
  have xm1635 : ext S1 S408 := xm1634.tr xe409
  have xm1636 : ext S1 S420 := xm1635.tr xe421
  have xm1637 : ext S1 S458 := xm1636.tr xe459
  have xm1638 : ext S1 S471 := xm1637.tr xe472
  have xm1639 : ext S1 S513 := xm1638.tr xe514
  have xm1640 : ext S1 S529 := xm1639.tr xe530
  have xm1641 : ext S1 S550 := xm1640.tr xe551
  have xm1642 : ext S1 S567 := xm1641.tr xe568
  have xm1643 : ext S1 S629 := xm1642.tr xe630
  have xm1644 : ext S1 S643 := xm1643.tr xe644
  have xm1645 : ext S1 S691 := xm1644.tr xe692
  have xm1646 : ext S1 S705 := xm1645.tr xe706
  have xm1647 : ext S1 S753 := xm1646.tr xe754
  have xm1648 : ext S1 S767 := xm1647.tr xe768
  have xm1649 : ext S1 S815 := xm1648.tr xe816
  have xm1650 : ext S1 S829 := xm1649.tr xe830
  have xm1651 : ext S1 S877 := xm1650.tr xe878
  have tt : stp ([] : List (Nat × Nat)) [o1] R S S877 := t879.un (okAt.of_12 oo.2.1 ⟨(by rw [f_of (xm933.F (xm41.A h_o1) (by decide) F34)]; exact ⟨(xm933.F (xm41.A h_o1) (by decide) F34), am936, ((xm978.n aqa5).trans nqa5)⟩), (by rw [f_of (xm1015.F (xm82.A h_o1) (by decide) F71)]; exact ⟨(xm1015.F (xm82.A h_o1) (by decide) F71), am1018, ((xm1057.n aqa35).trans nqa35)⟩), (by rw [f_of (xm1092.F (xm109.A h_o1) (by decide) F96)]; exact ⟨(xm1092.F (xm109.A h_o1) (by decide) F96), am1129, ((xm1128.n aqa72).trans nqa72)⟩), (by rw [f_of (xm1162.F (xm136.A h_o1) (by decide) F123)]; exact ⟨(xm1162.F (xm136.A h_o1) (by decide) F123), am1197, ((xm1196.n aqa97).trans nqa97)⟩), (by rw [f_of (xm1228.F (xm163.A h_o1) (by decide) F150)]; exact ⟨(xm1228.F (xm163.A h_o1) (by decide) F150), am1261, ((xm1260.n aqa124).trans nqa124)⟩), (by rw [f_of (xm1290.F (xm190.A h_o1) (by decide) F177)]; exact ⟨(xm1290.F (xm190.A h_o1) (by decide) F177), am1321, ((xm1320.n aqa151).trans nqa151)⟩), (by rw [f_of (xm1348.F (xm217.A h_o1) (by decide) F204)]; exact ⟨(xm1348.F (xm217.A h_o1) (by decide) F204), am1377, ((xm1376.n aqa178).trans nqa178)⟩), (by rw [f_of (xm1402.F (xm247.A h_o1) (by decide) F232)]; exact ⟨(xm1402.F (xm247.A h_o1) (by decide) F232), am1405, ((xm1404.n aqa205).trans nqa205)⟩), (by rw [f_of (xm1428.F (xm279.A h_o1) (by decide) F262)]; exact ⟨(xm1428.F (xm279.A h_o1) (by decide) F262), am1453, ((xm1452.n aqa233).trans nqa233)⟩), (by rw [f_of (xm1460.F (xm682.A h_o1) (by decide) F641)]; exact ⟨(xm1460.F (xm682.A h_o1) (by decide) F641), am1469, ((xm1468.n aqa566).trans nqa566)⟩), (by rw [f_of (xm1474.F (xm744.A h_o1) (by decide) F703)]; exact ⟨(xm1474.F (xm744.A h_o1) (by decide) F703), am1481, ((xm1480.n aqa642).trans nqa642)⟩), (by rw [f_of (xm1484.F (xm806.A h_o1) (by decide) F765)]; exact ⟨(xm1484.F (xm806.A h_o1) (by decide) F765), am1489, ((xm1488.n aqa704).trans nqa704)⟩), (by rw [f_of (xm1490.F (xm868.A h_o1) (by decide) F827)]; exact ⟨(xm1490.F (xm868.A h_o1) (by decide) F827), am1493, ((xm1492.n aqa766).trans nqa766)⟩), (by rw [f_of F889]; exact ⟨F889, am1494, ((xe878.n aqa828).trans nqa828)⟩), (by rw [f_of (xm1515.F (xm314.A h_o1) (by decide) F295)]; exact ⟨(xm1515.F (xm314.A h_o1) (by decide) F295), am1518, ((xm1517.n aqa263).trans nqa263)⟩), (by rw [f_of (xm1537.F (xm354.A h_o1) (by decide) F331)]; exact ⟨(xm1537.F (xm354.A h_o1) (by decide) F331), am1540, ((xm1539.n aqa296).trans nqa296)⟩), (by rw [f_of (xm1557.F (xm399.A h_o1) (by decide) F372)]; exact ⟨(xm1557.F (xm399.A h_o1) (by decide) F372), am1560, ((xm1559.n aqa332).trans nqa332)⟩), (by rw [f_of (xm1575.F (xm449.A h_o1) (by decide) F418)]; exact ⟨(xm1575.F (xm449.A h_o1) (by decide) F418), am1578, ((xm1577.n aqa373).trans nqa373)⟩), (by rw [f_of (xm1591.F (xm504.A h_o1) (by decide) F469)]; exact ⟨(xm1591.F (xm504.A h_o1) (by decide) F469), am1594, ((xm1593.n aqa419).trans nqa419)⟩), (by rw [f_of (xm1605.F (xm526.A h_o1) (by decide) F525)]; exact ⟨(xm1605.F (xm526.A h_o1) (by decide) F525), am1608, ((xm1607.n aqa470).trans nqa470)⟩), (by rw [I16]; exact ⟨by decide, by decide⟩), (by rw [I18]; exact ⟨by decide, by decide⟩), (by rw [I19]; exact ⟨by decide, by decide⟩), (by rw [I20]; exact ⟨by decide, by decide⟩), (by rw [I21]; exact ⟨by decide, by decide⟩), (by rw [I24]; exact ⟨by decide, by decide⟩), (by rw [I25]; exact ⟨by decide, by decide⟩), (by rw [I26]; exact ⟨by decide, by decide⟩), (by rw [f_of (xm1651.F (xe2.A h_o1) (by decide) F4)]; exact (xm1651.F (xe2.A h_o1) (by decide) F4)), (by rw [f_of (xm933.F (xm41.A h_o1) (by decide) F34), f_of (xm1651.F (xe2.A h_o1) (by decide) F4)]; exact (xm935.F (xe17.A aqa5) (by decide) y14)), (by rw [f_of (xm1015.F (xm82.A h_o1) (by decide) F71), f_of (xm1651.F (xe2.A h_o1) (by decide) F4)]; exact (xm1017.F (xe50.A aqa35) (by decide) y47))⟩)
  refine W.widen (k := 20) (n := 905) (Nat.le_of_ble_eq_true rfl) (Nat.le_of_ble_eq_true rfl) ?_
  exact W.vret hx hb hr (fun t ht hW9 => ⟨⟨S877, rfl, ⟨tt, oo, I15, I16, I17, I18, I19, I20, I21, I22, I23, I24, I25, I26, ((xm1651.F (xe2.A h_o1) (by decide) F4)), (by rw [f_of ((xm933.F (xm41.A h_o1) (by decide) F34))]; exact z887), (by rw [f_of ((xm1015.F (xm82.A h_o1) (by decide) F71))]; exact z888), (by rw [f_of ((xm1515.F (xm314.A h_o1) (by decide) F295))]; exact z881), (by rw [f_of ((xm1537.F (xm354.A h_o1) (by decide) F331))]; exact z882), (by rw [f_of ((xm1557.F (xm399.A h_o1) (by decide) F372))]; exact z883), (by rw [f_of ((xm1575.F (xm449.A h_o1) (by decide) F418))]; exact z884), (by rw [f_of ((xm1591.F (xm504.A h_o1) (by decide) F469))]; exact z885), (by rw [f_of ((xm1605.F (xm526.A h_o1) (by decide) F525))]; exact z886), (by rw [f_of ((xm1402.F (xm247.A h_o1) (by decide) F232))]; exact z880)⟩, wd_end hP hK hD ht hW9.alike⟩, hS.F ht⟩) hS.2.2 dX12_init_178 hlocks
theorem hi_X12_gear_X10 : ∀ w ∈ u_ws RX10 TX10 23, w ∈ wsX12_gear := by decide +kernel
theorem hi_X12_gear_X12 : ∀ w ∈ u_ws RX12 TX12 34, w ∈ wsX12_gear := by decide +kernel
theorem hd_X12_gear : yX12_gear.cls = RX12 ∧ yX12_gear.cls ≠ "java/lang/invoke/MethodHandle" ∧ yX12_gear.cls ≠ "java/lang/invoke/VarHandle" ∧ (parseMethodDescriptor yX12_gear.desc).map (fun d => d.parameters.length) = some 4 := by decide +kernel
set_option maxHeartbeats 4000000 in
set_option maxRecDepth 100000 in
theorem c_X12_gear (l : Launch) {e0 mi : Nat} {D : va_G} {cy : Nat → ClassId} {X : va_W} (S : wPS) (sz : Nat) (o1 : Nat) (h_o1 : isA S o1 12) (x1 : Int32) (x2 : Int32) (x3 : Int32) (x4 : Int32) (hW : wtB S []) (he : S.F o1 77 = some e0) : Met l yX12_gear wsX12_gear ({ frames := 7, cells := 4, slots := 271, locals := 171 }) (va_Pc [.ref o1, .int x1, .int x2, .int x3, .int x4] (fun U => U.heap.size = sz ∧ WD D cy X (fun _ => True) S U ∧ NW U ∧ OU e0 mi (va_A (X ++ PL cy S) sz) U U.heap)) (va_Qi (fun r (u : wPS) => stp [(12, 15), (14, 0), (14, 1), (14, 2), (22, 101), (110, 10), (114, 10), (122, 10)] [] [] S u ∧ GN S u o1 ∧ ((((f_X12_in x1.toInt64 (6 : Int64) (200 : Int64)).toInt = 0 ∨ (f_X12_in x2.toInt64 (500 : Int64) (10000 : Int64)).toInt = 0 ∨ (f_X12_in x3.toInt64 (-500 : Int64) (500 : Int64)).toInt = 0 ∨ (f_X12_in x4.toInt64 (1000 : Int64) (99999 : Int64)).toInt = 0) ∧ r.toInt = 0 ∧ (u.I o1 15).toInt = 1 ∧ (u.I (S.f o1 0) 2).toInt = (S.I (S.f o1 0) 2).toInt) ∨ ((¬ (f_X12_in x1.toInt64 (6 : Int64) (200 : Int64)).toInt = 0 ∧ ¬ (f_X12_in x2.toInt64 (500 : Int64) (10000 : Int64)).toInt = 0 ∧ ¬ (f_X12_in x3.toInt64 (-500 : Int64) (500 : Int64)).toInt = 0 ∧ ¬ (f_X12_in x4.toInt64 (1000 : Int64) (99999 : Int64)).toInt = 0) ∧ (S.I (S.f o1 0) 2).toInt = 20 ∧ r.toInt = 0 ∧ (u.I o1 15).toInt = 2 ∧ (u.I (S.f o1 0) 2).toInt = (S.I (S.f o1 0) 2).toInt) ∨ ((¬ (f_X12_in x1.toInt64 (6 : Int64) (200 : Int64)).toInt = 0 ∧ ¬ (f_X12_in x2.toInt64 (500 : Int64) (10000 : Int64)).toInt = 0 ∧ ¬ (f_X12_in x3.toInt64 (-500 : Int64) (500 : Int64)).toInt = 0 ∧ ¬ (f_X12_in x4.toInt64 (1000 : Int64) (99999 : Int64)).toInt = 0) ∧ ¬ (S.I (S.f o1 0) 2).toInt = 20 ∧ r.toInt = (S.I (S.f o1 0) 2).toInt ∧ (u.I o1 15).toInt = 0 ∧ (u.I (S.f o1 0) 2).toInt = (S.I (S.f o1 0) 2).toInt + 1)) ∧ ((u.I (S.f o1 0) 2).toInt = (S.I (S.f o1 0) 2).toInt → ∃ t : Int32, u = S.sI o1 15 t) ∧ ((u.I (S.f o1 0) 2).toInt = (S.I (S.f o1 0) 2).toInt + 1 → ∃ g a : Nat, g ∉ S.L ∧ isA u g 10 ∧ u.F (S.f o1 0) 1 = some a ∧ isA u a 22 ∧ u.r a (S.I (S.f o1 0) 2).toNatClampNeg = some g ∧ (∀ i : Nat, (i : Int) < (S.I (S.f o1 0) 2).toInt → u.r a i = S.r (S.f (S.f o1 0) 1) i) ∧ u.I g 1 = x1 ∧ u.I g 2 = x2 ∧ u.I g 3 = x3 ∧ u.I g 4 = x4 ∧ u.I g 7 = (0 : Int32) ∧ u.I g 8 = (-1 : Int32) ∧ u.I g 10 = (0 : Int32) ∧ u.I g 11 = (0 : Int32) ∧ u.I g 18 = (0 : Int32) ∧ u.I g 17 = (0 : Int32) ∧ u.f g 6 ∉ S.L ∧ ∀ j : Nat, u.i (u.f g 6) j = 0)) (fun u t => WD D cy X (va_A (X ++ PL cy S) sz) u t) (va_A (X ++ PL cy S) sz)) 4 271 (va_A (X ++ PL cy S) sz) := by
  refine Met.ofW (cc := cX12_gear) (maxL := 5) (ret := (some .int)) (by decide) rfl ?_
  intro p e s m args below meth c s₁ B hml hv
  obtain ⟨rfl, hsz, ⟨hP, hK, hD0⟩, hN, hOU⟩ := hv
  have hx := B.exec
  have hb := B.bytes
  have hr := B.returns
  have hts := atoms_spec (ws := wsX12_gear) B.pre
  have hown : s.vm.findClass RX12 = some m.cls := findClass_of_methodNamed (x := yX12_gear) B.named
  have hlocks := B.notSynchronized
  subst hsz
  have hD := hD0.self (sz := s.heap.size)
  generalize hAe : va_A (X ++ PL cy S) s.heap.size = A at hD hOU ⊢
  have hA : ∀ q : Nat, s.heap.size ≤ q → A q := fun q h => by rw [← hAe]; exact Or.inr h
  have hS : va_S A s.heap s.heap [] := va_S.rf
  have hl := lv_entry ([.ref o1, .int x1, .int x2, .int x3, .int x4]) (n := 5) (Nat.le_of_ble_eq_true rfl)
  rw [lg_entry_eq]
  generalize (lg_sl ([.ref o1, .int x1, .int x2, .int x3, .int x4]) ++ List.replicate (5 - (lg_sl ([.ref o1, .int x1, .int x2, .int x3, .int x4])).length) Slot.unset).toArray = ls at hl ⊢
  have hl : lv_has ls 5 [(0, .ref o1), (1, .int x1), (2, .int x2), (3, .int x3), (4, .int x4)] := hl
  obtain ⟨⟨ga, gZ, gX, gl, gA⟩, ⟨sa9, sZ, sX, sl9, sA⟩, cZ, eZ, eX, el, eA, hMi, hDc, ⟨pf, pZ⟩⟩ := id hOU
  have t0 : stp [(12, 15), (14, 0), (14, 1), (14, 2), (22, 101), (110, 10), (114, 10), (122, 10)] [] [] S S := stp.rf hW
  have F1 := ((hW.at h_o1 List.not_mem_nil).to_12 h_o1.2.1).F0
  refine lv_iload_n hx hb dX12_gear_0 rfl (lv_at hl 1 rfl) ?_
  refine lv_i2l hx hb dX12_gear_1 rfl ?_
  refine lv_ldc2 (own := RX12) (v := 6) hx hb hown (hts (.constantLong RX12 129 (6)) (by decide +kernel)) dX12_gear_2 ?_
  refine lv_ldc2 (own := RX12) (v := 200) hx hb hown (hts (.constantLong RX12 131 (200)) (by decide +kernel)) dX12_gear_5 ?_
  have hFc := free_all hD hS hA
  refine va_calli (va_runS (As := [.long x1.toInt64, .long (6 : Int64), .long (200 : Int64)]) (rest := []) ⟨hx, hb, hml, hown, hts⟩ (c_X12_in l (cy := cy) (X := X) (D := D) S _ x1.toInt64 (6 : Int64) (200 : Int64)) (cwS 3 hts gX12_gear_X12_in rfl rfl rfl hd_X12_in ⟨Nat.le_of_ble_eq_true rfl, Nat.le_of_ble_eq_true rfl⟩) (pS hP hK hD hN) rfl rfl hl.1 rfl (lv_room (Nat.le_of_ble_eq_true rfl)) dX12_gear_8 ⟨(Nat.zero_le _), (Nat.zero_le _)⟩) hS (fun q _ h => hFc q h) hFc (fun r2 u t H1 locs ht hvm hw hB hz1 hk1 hS => ?_)
  have c3 := hw
  obtain ⟨hP, hD⟩ := wd_post hFc ht hB
  generalize H1 = H at hP hS ⊢
  obtain rfl : f_X12_in x1.toInt64 (6 : Int64) (200 : Int64) = r2 := c3.symm
  have i4 := i64_i x1
  have l64_6 : (6 : Int64).toInt = 6 := rfl
  have l64_200 : (200 : Int64).toInt = 200 := rfl
  have i5 := in_rng x1.toInt64 (6 : Int64) (200 : Int64)
  refine lv_if_eq (tgt := 57) hx hb dX12_gear_11 (by decide) (fun c6 => ?_) (fun c6 => ?_)
  · have c6i : (f_X12_in x1.toInt64 (6 : Int64) (200 : Int64)).toInt = 0 := eq_v rfl rfl c6
    refine lv_aload_n hx hb dX12_gear_57 rfl (lv_at hl 0 rfl) ?_
    refine lv_iconst (v := 1) hx hb dX12_gear_58 (by decide) ?_
    have l32_1 : (1 : Int32).toInt = 1 := rfl
    have hFc := free_all hD hS hA
    obtain ⟨k7, gk7, hk7⟩ := wGt (cy := cy) X S h_o1.1 h_o1.2.1
    refine va_calli (va_runV (As := [.int (1 : Int32)]) (rest := []) ⟨hx, hb, hml, hown, hts⟩ (c_X12_fails l (cy := cy) (X := X) (D := D) S _ o1 h_o1 (1 : Int32) (hW)) (cwV 1 hts gX12_gear_X12_fails rfl rfl rfl hd_X12_fails ⟨Nat.le_of_ble_eq_true rfl, Nat.le_of_ble_eq_true rfl⟩) (pV (va_recv hK hP (q := (RX12, TX12, 34)) (ci := 16) (q0 := k7) rfl hk7) hP hK hD hN) rfl rfl hl.1 rfl (lv_room (Nat.le_of_ble_eq_true rfl)) dX12_gear_59 ⟨(Nat.zero_le _), (Nat.zero_le _)⟩) hS (fun q _ h => hFc q h) hFc (fun r8 u t H1 locs ht hvm hw hB hz1 hk1 hS => ?_)
    obtain ⟨c9, w10⟩ := hw
    obtain ⟨hP, hD⟩ := wd_post hFc ht hB
    generalize H1 = H at hP hS ⊢
    obtain ⟨S11, rfl⟩ : ∃ z, z = u := ⟨_, rfl⟩
    have t12 : stp [(12, 15), (14, 0), (14, 1), (14, 2), (22, 101), (110, 10), (114, 10), (122, 10)] [] [] S S11 := t0.tr w10 (by decide) (fun _ q => absurd q List.not_mem_nil)
    have v13 : (GN S) S11 o1 := GN.keep w10 hW h_o1 (by decide) (by decide) GN.rf
    have xe14 : ext S S11 := w10.x
    have k15 : (S11.I (S.f o1 0) 2).toInt = (S.I (S.f o1 0) 2).toInt := by rw [(w10.fR (S.f o1 0) F1.2.1.1 List.not_mem_nil).1 2 (by rw [F1.2.1.2.1]; decide) |>.1]
    have q9 := fl_q c9
    refine W.widen (k := 4) (n := 271) (Nat.le_of_ble_eq_true rfl) (Nat.le_of_ble_eq_true rfl) ?_
    exact W.iret (v := r8) hx hb hr (fun t ht hW9 => ⟨⟨r8, S11, rfl, ⟨t12, (v13), (by omega), ((fun _ => ⟨_, (Prod.mk.inj c9).2⟩)), ((fun h9 => absurd h9 (by omega)))⟩, wd_end hP hK hD ht hW9.alike⟩, hS.F ht⟩) hS.2.2 dX12_gear_62 hlocks
  · have c6i : ¬ (f_X12_in x1.toInt64 (6 : Int64) (200 : Int64)).toInt = 0 := neq_v rfl rfl c6
    refine lv_iload_n hx hb dX12_gear_14 rfl (lv_at hl 2 rfl) ?_
    refine lv_i2l hx hb dX12_gear_15 rfl ?_
    refine lv_ldc2 (own := RX12) (v := 500) hx hb hown (hts (.constantLong RX12 133 (500)) (by decide +kernel)) dX12_gear_16 ?_
    refine lv_ldc2 (own := RX12) (v := 10000) hx hb hown (hts (.constantLong RX12 135 (10000)) (by decide +kernel)) dX12_gear_19 ?_
    have hFc := free_all hD hS hA
    refine va_calli (va_runS (As := [.long x2.toInt64, .long (500 : Int64), .long (10000 : Int64)]) (rest := []) ⟨hx, hb, hml, hown, hts⟩ (c_X12_in l (cy := cy) (X := X) (D := D) S _ x2.toInt64 (500 : Int64) (10000 : Int64)) (cwS 3 hts gX12_gear_X12_in rfl rfl rfl hd_X12_in ⟨Nat.le_of_ble_eq_true rfl, Nat.le_of_ble_eq_true rfl⟩) (pS hP hK hD hN) rfl rfl hl.1 rfl (lv_room (Nat.le_of_ble_eq_true rfl)) dX12_gear_22 ⟨(Nat.zero_le _), (Nat.zero_le _)⟩) hS (fun q _ h => hFc q h) hFc (fun r16 u t H1 locs ht hvm hw hB hz1 hk1 hS => ?_)
    have c17 := hw
    obtain ⟨hP, hD⟩ := wd_post hFc ht hB
    generalize H1 = H at hP hS ⊢
    obtain rfl : f_X12_in x2.toInt64 (500 : Int64) (10000 : Int64) = r16 := c17.symm
    have i18 := i64_i x2
    have l64_500 : (500 : Int64).toInt = 500 := rfl
    have l64_10000 : (10000 : Int64).toInt = 10000 := rfl
    have i19 := in_rng x2.toInt64 (500 : Int64) (10000 : Int64)
    refine lv_if_eq (tgt := 57) hx hb dX12_gear_25 (by decide) (fun c20 => ?_) (fun c20 => ?_)
    · have c20i : (f_X12_in x2.toInt64 (500 : Int64) (10000 : Int64)).toInt = 0 := eq_v rfl rfl c20
      refine lv_aload_n hx hb dX12_gear_57 rfl (lv_at hl 0 rfl) ?_
      refine lv_iconst (v := 1) hx hb dX12_gear_58 (by decide) ?_
      have l32_1 : (1 : Int32).toInt = 1 := rfl
      have hFc := free_all hD hS hA
      obtain ⟨k21, gk21, hk21⟩ := wGt (cy := cy) X S h_o1.1 h_o1.2.1
      refine va_calli (va_runV (As := [.int (1 : Int32)]) (rest := []) ⟨hx, hb, hml, hown, hts⟩ (c_X12_fails l (cy := cy) (X := X) (D := D) S _ o1 h_o1 (1 : Int32) (hW)) (cwV 1 hts gX12_gear_X12_fails rfl rfl rfl hd_X12_fails ⟨Nat.le_of_ble_eq_true rfl, Nat.le_of_ble_eq_true rfl⟩) (pV (va_recv hK hP (q := (RX12, TX12, 34)) (ci := 16) (q0 := k21) rfl hk21) hP hK hD hN) rfl rfl hl.1 rfl (lv_room (Nat.le_of_ble_eq_true rfl)) dX12_gear_59 ⟨(Nat.zero_le _), (Nat.zero_le _)⟩) hS (fun q _ h => hFc q h) hFc (fun r22 u t H1 locs ht hvm hw hB hz1 hk1 hS => ?_)
      obtain ⟨c23, w24⟩ := hw
      obtain ⟨hP, hD⟩ := wd_post hFc ht hB
      generalize H1 = H at hP hS ⊢
      obtain ⟨S25, rfl⟩ : ∃ z, z = u := ⟨_, rfl⟩
      have t26 : stp [(12, 15), (14, 0), (14, 1), (14, 2), (22, 101), (110, 10), (114, 10), (122, 10)] [] [] S S25 := t0.tr w24 (by decide) (fun _ q => absurd q List.not_mem_nil)
      have v27 : (GN S) S25 o1 := GN.keep w24 hW h_o1 (by decide) (by decide) GN.rf
      have xe28 : ext S S25 := w24.x
      have k29 : (S25.I (S.f o1 0) 2).toInt = (S.I (S.f o1 0) 2).toInt := by rw [(w24.fR (S.f o1 0) F1.2.1.1 List.not_mem_nil).1 2 (by rw [F1.2.1.2.1]; decide) |>.1]
      have q9 := fl_q c23
      refine W.widen (k := 4) (n := 271) (Nat.le_of_ble_eq_true rfl) (Nat.le_of_ble_eq_true rfl) ?_
      exact W.iret (v := r22) hx hb hr (fun t ht hW9 => ⟨⟨r22, S25, rfl, ⟨t26, (v27), (by omega), ((fun _ => ⟨_, (Prod.mk.inj c23).2⟩)), ((fun h9 => absurd h9 (by omega)))⟩, wd_end hP hK hD ht hW9.alike⟩, hS.F ht⟩) hS.2.2 dX12_gear_62 hlocks
    · have c20i : ¬ (f_X12_in x2.toInt64 (500 : Int64) (10000 : Int64)).toInt = 0 := neq_v rfl rfl c20
      refine lv_iload_n hx hb dX12_gear_28 rfl (lv_at hl 3 rfl) ?_
      refine lv_i2l hx hb dX12_gear_29 rfl ?_
      refine lv_ldc2 (own := RX12) (v := -500) hx hb hown (hts (.constantLong RX12 137 (-500)) (by decide +kernel)) dX12_gear_30 ?_
      refine lv_ldc2 (own := RX12) (v := 500) hx hb hown (hts (.constantLong RX12 133 (500)) (by decide +kernel)) dX12_gear_33 ?_
      have hFc := free_all hD hS hA
      refine va_calli (va_runS (As := [.long x3.toInt64, .long (-500 : Int64), .long (500 : Int64)]) (rest := []) ⟨hx, hb, hml, hown, hts⟩ (c_X12_in l (cy := cy) (X := X) (D := D) S _ x3.toInt64 (-500 : Int64) (500 : Int64)) (cwS 3 hts gX12_gear_X12_in rfl rfl rfl hd_X12_in ⟨Nat.le_of_ble_eq_true rfl, Nat.le_of_ble_eq_true rfl⟩) (pS hP hK hD hN) rfl rfl hl.1 rfl (lv_room (Nat.le_of_ble_eq_true rfl)) dX12_gear_36 ⟨(Nat.zero_le _), (Nat.zero_le _)⟩) hS (fun q _ h => hFc q h) hFc (fun r30 u t H1 locs ht hvm hw hB hz1 hk1 hS => ?_)
      have c31 := hw
      obtain ⟨hP, hD⟩ := wd_post hFc ht hB
      generalize H1 = H at hP hS ⊢
      obtain rfl : f_X12_in x3.toInt64 (-500 : Int64) (500 : Int64) = r30 := c31.symm
      have i32 := i64_i x3
      have i33 : (-500 : Int64).toInt = -500 := rfl
      have i34 := in_rng x3.toInt64 (-500 : Int64) (500 : Int64)
      refine lv_if_eq (tgt := 57) hx hb dX12_gear_39 (by decide) (fun c35 => ?_) (fun c35 => ?_)
      · have c35i : (f_X12_in x3.toInt64 (-500 : Int64) (500 : Int64)).toInt = 0 := eq_v rfl rfl c35
        refine lv_aload_n hx hb dX12_gear_57 rfl (lv_at hl 0 rfl) ?_
        refine lv_iconst (v := 1) hx hb dX12_gear_58 (by decide) ?_
        have l32_1 : (1 : Int32).toInt = 1 := rfl
        have hFc := free_all hD hS hA
        obtain ⟨k36, gk36, hk36⟩ := wGt (cy := cy) X S h_o1.1 h_o1.2.1
        refine va_calli (va_runV (As := [.int (1 : Int32)]) (rest := []) ⟨hx, hb, hml, hown, hts⟩ (c_X12_fails l (cy := cy) (X := X) (D := D) S _ o1 h_o1 (1 : Int32) (hW)) (cwV 1 hts gX12_gear_X12_fails rfl rfl rfl hd_X12_fails ⟨Nat.le_of_ble_eq_true rfl, Nat.le_of_ble_eq_true rfl⟩) (pV (va_recv hK hP (q := (RX12, TX12, 34)) (ci := 16) (q0 := k36) rfl hk36) hP hK hD hN) rfl rfl hl.1 rfl (lv_room (Nat.le_of_ble_eq_true rfl)) dX12_gear_59 ⟨(Nat.zero_le _), (Nat.zero_le _)⟩) hS (fun q _ h => hFc q h) hFc (fun r37 u t H1 locs ht hvm hw hB hz1 hk1 hS => ?_)
        obtain ⟨c38, w39⟩ := hw
        obtain ⟨hP, hD⟩ := wd_post hFc ht hB
        generalize H1 = H at hP hS ⊢
        obtain ⟨S40, rfl⟩ : ∃ z, z = u := ⟨_, rfl⟩
        have t41 : stp [(12, 15), (14, 0), (14, 1), (14, 2), (22, 101), (110, 10), (114, 10), (122, 10)] [] [] S S40 := t0.tr w39 (by decide) (fun _ q => absurd q List.not_mem_nil)
        have v42 : (GN S) S40 o1 := GN.keep w39 hW h_o1 (by decide) (by decide) GN.rf
        have xe43 : ext S S40 := w39.x
        have k44 : (S40.I (S.f o1 0) 2).toInt = (S.I (S.f o1 0) 2).toInt := by rw [(w39.fR (S.f o1 0) F1.2.1.1 List.not_mem_nil).1 2 (by rw [F1.2.1.2.1]; decide) |>.1]
        have q9 := fl_q c38
        refine W.widen (k := 4) (n := 271) (Nat.le_of_ble_eq_true rfl) (Nat.le_of_ble_eq_true rfl) ?_
        exact W.iret (v := r37) hx hb hr (fun t ht hW9 => ⟨⟨r37, S40, rfl, ⟨t41, (v42), (by omega), ((fun _ => ⟨_, (Prod.mk.inj c38).2⟩)), ((fun h9 => absurd h9 (by omega)))⟩, wd_end hP hK hD ht hW9.alike⟩, hS.F ht⟩) hS.2.2 dX12_gear_62 hlocks
      · have c35i : ¬ (f_X12_in x3.toInt64 (-500 : Int64) (500 : Int64)).toInt = 0 := neq_v rfl rfl c35
        refine lv_iload hx hb dX12_gear_42 (lv_at hl 4 rfl) ?_
        refine lv_i2l hx hb dX12_gear_44 rfl ?_
        refine lv_ldc2 (own := RX12) (v := 1000) hx hb hown (hts (.constantLong RX12 139 (1000)) (by decide +kernel)) dX12_gear_45 ?_
        refine lv_ldc2 (own := RX12) (v := 99999) hx hb hown (hts (.constantLong RX12 141 (99999)) (by decide +kernel)) dX12_gear_48 ?_
        have hFc := free_all hD hS hA
        refine va_calli (va_runS (As := [.long x4.toInt64, .long (1000 : Int64), .long (99999 : Int64)]) (rest := []) ⟨hx, hb, hml, hown, hts⟩ (c_X12_in l (cy := cy) (X := X) (D := D) S _ x4.toInt64 (1000 : Int64) (99999 : Int64)) (cwS 3 hts gX12_gear_X12_in rfl rfl rfl hd_X12_in ⟨Nat.le_of_ble_eq_true rfl, Nat.le_of_ble_eq_true rfl⟩) (pS hP hK hD hN) rfl rfl hl.1 rfl (lv_room (Nat.le_of_ble_eq_true rfl)) dX12_gear_51 ⟨(Nat.zero_le _), (Nat.zero_le _)⟩) hS (fun q _ h => hFc q h) hFc (fun r45 u t H1 locs ht hvm hw hB hz1 hk1 hS => ?_)
        have c46 := hw
        obtain ⟨hP, hD⟩ := wd_post hFc ht hB
        generalize H1 = H at hP hS ⊢
        obtain rfl : f_X12_in x4.toInt64 (1000 : Int64) (99999 : Int64) = r45 := c46.symm
        have i47 := i64_i x4
        have l64_1000 : (1000 : Int64).toInt = 1000 := rfl
        have l64_99999 : (99999 : Int64).toInt = 99999 := rfl
        have i48 := in_rng x4.toInt64 (1000 : Int64) (99999 : Int64)
        refine lv_if_ne (tgt := 63) hx hb dX12_gear_54 (by decide) (fun c49 => ?_) (fun c49 => ?_)
        · have c49i : ¬ (f_X12_in x4.toInt64 (1000 : Int64) (99999 : Int64)).toInt = 0 := neq_v rfl rfl c49
          refine lv_aload_n hx hb dX12_gear_63 rfl (lv_at hl 0 rfl) ?_
          obtain ⟨k50, gk50, hk50⟩ := wGt (cy := cy) X S h_o1.1 h_o1.2.1
          simp only [kE, F1.1] at hk50
          refine va_get (D := D) (ci := 16) (v := .ref (S.f o1 0)) (C := RX12) (T := TX12) (N := 34) hx hb hts hi_X12_gear_X12 hown hK hP k50 hk50 rfl 0 (by decide) (hts (.fieldLink RX12 24 "HobhouseModel" "gears" "Ljava/util/ArrayList;") (by decide +kernel)) (fun _ h9 => h9) rfl dX12_gear_64 ?_
          have hFc := free_all hD hS hA
          obtain ⟨k51, gk51, hk51⟩ := wGt (cy := cy) X S F1.2.1.1 F1.2.1.2.1
          refine va_calli (va_runV (As := []) (rest := []) ⟨hx, hb, hml, hown, hts⟩ (c_Jx4a65c_size_8abf5 l (cy := cy) (X := X) (D := D) S _ (S.f o1 0) F1.2.1) (cwV 0 hts gX12_gear_Jx4a65c_size_8abf5 rfl rfl rfl hd_Jx4a65c_size_8abf5 ⟨Nat.le_of_ble_eq_true rfl, Nat.le_of_ble_eq_true rfl⟩) (pV (va_recv hK hP (q := (RJx4a65c, TJx4a65c, 3)) (ci := 3) (q0 := k51) rfl hk51) hP hK hD hN) rfl rfl hl.1 rfl (lv_room (Nat.le_of_ble_eq_true rfl)) dX12_gear_67 ⟨(Nat.zero_le _), (Nat.zero_le _)⟩) hS (fun q _ h => hFc q h) hFc (fun r52 u t H1 locs ht hvm hw hB hz1 hk1 hS => ?_)
          have c53 := hw
          obtain ⟨hP, hD⟩ := wd_post hFc ht hB
          generalize H1 = H at hP hS ⊢
          obtain rfl : f_Jx4a65c_size_8abf5 S (S.f o1 0) = r52 := c53.symm
          have i54 := al_sz ((hW.at F1.2.1 List.not_mem_nil).to_14 F1.2.1.2.1)
          have i55 : (f_Jx4a65c_size_8abf5 S (S.f o1 0)).toInt = (S.I (S.f o1 0) 2).toInt := rfl
          refine lv_bipush (v := 20) hx hb dX12_gear_70 (by decide +kernel) ?_
          refine lv_icmp_ne (tgt := 81) hx hb dX12_gear_72 (by decide) (fun c56 => ?_) (fun c56 => ?_)
          · have c56i : ¬ (f_Jx4a65c_size_8abf5 S (S.f o1 0)).toInt = 20 := neq_v rfl rfl c56
            refine lv_aload_n hx hb dX12_gear_81 rfl (lv_at hl 0 rfl) ?_
            obtain ⟨k57, gk57, hk57⟩ := wGt (cy := cy) X S h_o1.1 h_o1.2.1
            simp only [kE, F1.1] at hk57
            refine va_get (D := D) (ci := 16) (v := .ref (S.f o1 0)) (C := RX12) (T := TX12) (N := 34) hx hb hts hi_X12_gear_X12 hown hK hP k57 hk57 rfl 0 (by decide) (hts (.fieldLink RX12 24 "HobhouseModel" "gears" "Ljava/util/ArrayList;") (by decide +kernel)) (fun _ h9 => h9) rfl dX12_gear_82 ?_
            refine va_new (ci := 14) (fs := [.int 0, .int 0, .int 0, .int 0, .int 0, .null, .null, .int 0, .int 0, .int 0, .int 0, .int 0, .int 0, .int 0, .int 0, .int 0, .int 0, .int 0, .int 0, .int 0, .int 0, .int 0, .long 0]) (C := RX10) (T := TX10) (N := 23) hx hb hts hi_X12_gear_X10 tyX10 tyX10_ok hown (hts (.classLink RX12 109 RX10) (by decide +kernel)) (hts (.instantiable RX10 23) (by decide +kernel)) (hts (.initialized RX10) (by decide +kernel)) hK hP hD hS hA rfl (fun j hj => by rcases (show j = 0 ∨ j = 1 ∨ j = 2 ∨ j = 3 ∨ j = 4 ∨ j = 5 ∨ j = 6 ∨ j = 7 ∨ j = 8 ∨ j = 9 ∨ j = 10 ∨ j = 11 ∨ j = 12 ∨ j = 13 ∨ j = 14 ∨ j = 15 ∨ j = 16 ∨ j = 17 ∨ j = 18 ∨ j = 19 ∨ j = 20 ∨ j = 21 ∨ j = 22 by omega) with rfl | rfl | rfl | rfl | rfl | rfl | rfl | rfl | rfl | rfl | rfl | rfl | rfl | rfl | rfl | rfl | rfl | rfl | rfl | rfl | rfl | rfl | rfl <;> rfl) (Nat.le_of_ble_eq_true rfl) (Nat.le_of_ble_eq_true rfl) dX12_gear_85 (fun qa58 H hP2 hD2 hS => ?_)
            have hqa58 : qa58 ∉ S.L := nw_q hD2
            have e9 := wNw (cy := cy) (X := X) (S := S) (a := qa58) (k := 10) (z := 0) (f := fun _ => 0) (g := fun _ => none) hqa58 rfl
            obtain ⟨S59, hS59⟩ : ∃ z, S.nw qa58 10 0 (fun _ => 0) (fun _ => none) = z := ⟨_, rfl⟩
            have v60 : (GR S qa58) S59 o1 := by rw [← hS59]; exact GN.nw GN.rf hqa58
            have hP : va_P D vwCl (X ++ PL cy S59) H := by rw [← hS59, ← e9]; exact hP2
            have hD : va_D A (X ++ PL cy S59) := by rw [← hS59, ← e9]; exact hD2
            have xe61 : ext S S59 := by rw [← hS59]; exact ext.nw hqa58
            have t62 : stp [(12, 15), (14, 0), (14, 1), (14, 2), (22, 101), (110, 10), (114, 10), (122, 10)] [] (qa58 :: []) S S59 := by rw [← hS59]; exact t0.nw hqa58 (Or.inr (by decide))
            have k63 : (S59.I (S.f o1 0) 2).toInt = (S.I (S.f o1 0) 2).toInt := by rw [← hS59]; exact congrArg Int32.toInt (nw_Io hqa58 F1.2.1.1)
            refine W.widen (k := 1) (n := 23) (Nat.le_of_ble_eq_true rfl) (Nat.le_of_ble_eq_true rfl) ?_
            have aqa58 : isA S59 qa58 10 := by rw [← hS59]; exact nw_A (by decide)
            have fqa58 : ∀ j, S59.F qa58 j = none := by rw [← hS59]; exact nw_F
            have iqa58 : ∀ j, S59.I qa58 j = 0 := by rw [← hS59]; exact nw_I
            have bqa58 : qa58 ∉ S.L := fun e => hqa58 e
            refine lv_dup hx hb dX12_gear_88 rfl ?_
            refine lv_aload_n hx hb dX12_gear_89 rfl (lv_at hl 0 rfl) ?_
            obtain ⟨k64, gk64, hk64⟩ := wGt (cy := cy) X S59 (xe61.A h_o1).1 (xe61.A h_o1).2.1
            simp only [kE, (xe61.F h_o1 (by decide) F1.1)] at hk64
            refine va_get (D := D) (ci := 16) (v := .ref (S.f o1 0)) (C := RX12) (T := TX12) (N := 34) hx hb hts hi_X12_gear_X12 hown hK hP k64 hk64 rfl 0 (by decide) (hts (.fieldLink RX12 24 "HobhouseModel" "gears" "Ljava/util/ArrayList;") (by decide +kernel)) (fun _ h9 => h9) rfl dX12_gear_90 ?_
            have hFc := free_all hD hS hA
            obtain ⟨k65, gk65, hk65⟩ := wGt (cy := cy) X S59 (xe61.A F1.2.1).1 (xe61.A F1.2.1).2.1
            refine va_calli (va_runV (As := []) (rest := [.ref qa58, .ref qa58, .ref (S.f o1 0)]) ⟨hx, hb, hml, hown, hts⟩ (c_Jx4a65c_size_8abf5 l (cy := cy) (X := X) (D := D) S59 _ (S.f o1 0) (xe61.A F1.2.1)) (cwV 0 hts gX12_gear_Jx4a65c_size_8abf5 rfl rfl rfl hd_Jx4a65c_size_8abf5 ⟨Nat.le_of_ble_eq_true rfl, Nat.le_of_ble_eq_true rfl⟩) (pV (va_recv hK hP (q := (RJx4a65c, TJx4a65c, 3)) (ci := 3) (q0 := k65) rfl hk65) hP hK hD hN) rfl rfl hl.1 rfl (lv_room (Nat.le_of_ble_eq_true rfl)) dX12_gear_93 ⟨Nat.le_of_ble_eq_true rfl, Nat.le_of_ble_eq_true rfl⟩) hS (fun q _ h => hFc q h) hFc (fun r66 u t H1 locs ht hvm hw hB hz1 hk1 hS => ?_)
            have c67 := hw
            obtain ⟨hP, hD⟩ := wd_post hFc ht hB
            generalize H1 = H at hP hS ⊢
            obtain rfl : f_Jx4a65c_size_8abf5 S59 (S.f o1 0) = r66 := c67.symm
            refine lv_iload_n hx hb dX12_gear_96 rfl (lv_at hl 1 rfl) ?_
            refine lv_iload_n hx hb dX12_gear_97 rfl (lv_at hl 2 rfl) ?_
            refine lv_iload_n hx hb dX12_gear_98 rfl (lv_at hl 3 rfl) ?_
            refine lv_iload hx hb dX12_gear_99 (lv_at hl 4 rfl) ?_
            have hFc := free_all hD hS hA
            refine va_callv (va_runI (As := [.int (f_Jx4a65c_size_8abf5 S59 (S.f o1 0)), .int x1, .int x2, .int x3, .int x4]) (rest := [.ref qa58, .ref (S.f o1 0)]) ⟨hx, hb, hml, hown, hts⟩ (c_X10_init l (cy := cy) (X := X) (D := D) S59 _ qa58 aqa58 (f_Jx4a65c_size_8abf5 S59 (S.f o1 0)) x1 x2 x3 x4 [] (t62.w) fqa58 iqa58 (by omega)) (cwI 5 hts gX12_gear_X10_init rfl rfl rfl (hts (.initialized RX10) (by decide +kernel)) (hts (.methodLink RX12 146 yX10_init) (by decide +kernel)) (hts (.instanceMethod yX10_init) (by decide +kernel)) rfl (by decide +kernel) ⟨Nat.le_of_ble_eq_true rfl, Nat.le_of_ble_eq_true rfl⟩) (pS hP hK hD hN) rfl rfl hl.1 rfl (lv_room (Nat.le_of_ble_eq_true rfl)) dX12_gear_101 ⟨Nat.le_of_ble_eq_true rfl, Nat.le_of_ble_eq_true rfl⟩) hS (fun q _ h => hFc q h) hFc (fun u t H1 locs ht hvm hw hB hz1 hk1 hS => ?_)
            obtain ⟨w69, y70, y71, y72, y73, y74, y75, y76, y77, y78, y79, y80, y81, y82, y83, y84, y85, y86, y87, y88, y89, y90, y91, y92⟩ := hw
            obtain ⟨hP, hD⟩ := wd_post hFc ht hB
            generalize H1 = H at hP hS ⊢
            obtain ⟨S93, rfl⟩ : ∃ z, z = u := ⟨_, rfl⟩
            have t94 : stp [(12, 15), (14, 0), (14, 1), (14, 2), (22, 101), (110, 10), (114, 10), (122, 10)] [] [] S S93 := t62.tr w69 (by decide) (fun z q => by rw [List.mem_singleton.mp q]; exact (Or.inr bqa58))
            have v95 : GN S S93 o1 := GR.un w69 (fun _ h => List.mem_singleton.mp h) (by decide) (by decide) y85 v60
            have xe96 : ext S59 S93 := w69.x
            have k97 : (S93.I (S.f o1 0) 2).toInt = (S59.I (S.f o1 0) 2).toInt := by rw [(w69.fR (S.f o1 0) (xe61.A F1.2.1).1 (by rw [List.mem_singleton]; exact fun e => hqa58 (e ▸ F1.2.1.1))).1 2 (by rw [(xe61.A F1.2.1).2.1]; decide) |>.1]
            have hFc := free_all hD hS hA
            obtain ⟨k98, gk98, hk98⟩ := wGt (cy := cy) X S93 (xe96.A (xe61.A F1.2.1)).1 (xe96.A (xe61.A F1.2.1)).2.1
            refine va_calli (va_runV (As := [.ref qa58]) (rest := []) ⟨hx, hb, hml, hown, hts⟩ (c_Jx4a65c_add_9ea2d_g l (e0 := e0) (mi := mi) (cy := cy) (X := X) (D := D) S93 _ (S.f o1 0) (xe96.A (xe61.A F1.2.1)) qa58 (xe96.A aqa58) (t94.w) (by have h9 := ((t94.w.at (xe96.A (xe61.A h_o1)) List.not_mem_nil).to_12 (xe96.A (xe61.A h_o1)).2.1).X1; rw [f_of ((xe61.tr xe96).F h_o1 (by decide) F1.1), f_of (t94.x.F h_o1 (by decide) he)] at h9; exact h9) (by omega) (((xe61.tr xe96).n F1.2.1).trans F1.2.2)) (cwV 1 hts gX12_gear_Jx4a65c_add_9ea2d rfl rfl rfl hd_Jx4a65c_add_9ea2d ⟨Nat.le_of_ble_eq_true rfl, Nat.le_of_ble_eq_true rfl⟩) (pVo (va_recv hK hP (q := (RJx4a65c, TJx4a65c, 3)) (ci := 3) (q0 := k98) rfl hk98) hP hK hD hN hOU hS hFc) rfl rfl hl.1 rfl (lv_room (Nat.le_of_ble_eq_true rfl)) dX12_gear_104 ⟨Nat.le_of_ble_eq_true rfl, Nat.le_of_ble_eq_true rfl⟩) hS (fun q _ h => hFc q h) hFc (fun r99 u t H1 locs ht hvm hw hB hz1 hk1 hS => ?_)
            obtain ⟨w100, y101, y102⟩ := hw
            obtain ⟨hP, hD⟩ := wd_post hFc ht hB
            generalize H1 = H at hP hS ⊢
            obtain ⟨S103, rfl⟩ : ∃ z, z = u := ⟨_, rfl⟩
            have t104 : stp [(12, 15), (14, 0), (14, 1), (14, 2), (22, 101), (110, 10), (114, 10), (122, 10)] [] [] S S103 := t94.tr w100 (by decide) (fun _ q => absurd q List.not_mem_nil)
            have v105 : (GN S) S103 o1 := GN.keep w100 t94.w (xe96.A (xe61.A h_o1)) (by decide) (by decide) v95
            have xe106 : ext S93 S103 := w100.x
            refine lv_pop hx hb dX12_gear_107 rfl ?_
            refine lv_aload_n hx hb dX12_gear_108 rfl (lv_at hl 0 rfl) ?_
            refine lv_aload_n hx hb dX12_gear_109 rfl (lv_at hl 0 rfl) ?_
            obtain ⟨k107, gk107, hk107⟩ := wGt (cy := cy) X S103 (xe106.A (xe96.A (xe61.A h_o1))).1 (xe106.A (xe96.A (xe61.A h_o1))).2.1
            simp only [kE, ((xe61.tr (xe96.tr xe106)).F h_o1 (by decide) F1.1)] at hk107
            refine va_get (D := D) (ci := 16) (v := .ref (S.f o1 0)) (C := RX12) (T := TX12) (N := 34) hx hb hts hi_X12_gear_X12 hown hK hP k107 hk107 rfl 0 (by decide) (hts (.fieldLink RX12 24 "HobhouseModel" "gears" "Ljava/util/ArrayList;") (by decide +kernel)) (fun _ h9 => h9) rfl dX12_gear_110 ?_
            have hFc := free_all hD hS hA
            obtain ⟨k108, gk108, hk108⟩ := wGt (cy := cy) X S103 (xe106.A (xe96.A (xe61.A F1.2.1))).1 (xe106.A (xe96.A (xe61.A F1.2.1))).2.1
            refine va_calli (va_runV (As := []) (rest := [.ref o1]) ⟨hx, hb, hml, hown, hts⟩ (c_Jx4a65c_size_8abf5 l (cy := cy) (X := X) (D := D) S103 _ (S.f o1 0) (xe106.A (xe96.A (xe61.A F1.2.1)))) (cwV 0 hts gX12_gear_Jx4a65c_size_8abf5 rfl rfl rfl hd_Jx4a65c_size_8abf5 ⟨Nat.le_of_ble_eq_true rfl, Nat.le_of_ble_eq_true rfl⟩) (pV (va_recv hK hP (q := (RJx4a65c, TJx4a65c, 3)) (ci := 3) (q0 := k108) rfl hk108) hP hK hD hN) rfl rfl hl.1 rfl (lv_room (Nat.le_of_ble_eq_true rfl)) dX12_gear_113 ⟨Nat.le_of_ble_eq_true rfl, Nat.le_of_ble_eq_true rfl⟩) hS (fun q _ h => hFc q h) hFc (fun r109 u t H1 locs ht hvm hw hB hz1 hk1 hS => ?_)
            have c110 := hw
            obtain ⟨hP, hD⟩ := wd_post hFc ht hB
            generalize H1 = H at hP hS ⊢
            obtain rfl : f_Jx4a65c_size_8abf5 S103 (S.f o1 0) = r109 := c110.symm
            have i111 := al_sz ((t104.w.at (xe106.A (xe96.A (xe61.A F1.2.1))) List.not_mem_nil).to_14 (xe106.A (xe96.A (xe61.A F1.2.1))).2.1)
            have i112 : (f_Jx4a65c_size_8abf5 S103 (S.f o1 0)).toInt = (S103.I (S.f o1 0) 2).toInt := rfl
            refine lv_iconst (v := 1) hx hb dX12_gear_116 (by decide) ?_
            refine lv_isub hx hb dX12_gear_117 ?_
            have l32_1 : (1 : Int32).toInt = 1 := rfl
            have i113 : ((f_Jx4a65c_size_8abf5 S103 (S.f o1 0)) - (1 : Int32)).toInt = (f_Jx4a65c_size_8abf5 S103 (S.f o1 0)).toInt - 1 := t_subr (n := 1) rfl (by omega)
            have hFc := free_all hD hS hA
            obtain ⟨k114, gk114, hk114⟩ := wGt (cy := cy) X S103 (xe106.A (xe96.A (xe61.A h_o1))).1 (xe106.A (xe96.A (xe61.A h_o1))).2.1
            refine va_calli (va_runV (As := [.int ((f_Jx4a65c_size_8abf5 S103 (S.f o1 0)) - (1 : Int32))]) (rest := []) ⟨hx, hb, hml, hown, hts⟩ (c_X12_answer l (cy := cy) (X := X) (D := D) S103 _ o1 (xe106.A (xe96.A (xe61.A h_o1))) ((f_Jx4a65c_size_8abf5 S103 (S.f o1 0)) - (1 : Int32)) (t104.w)) (cwV 1 hts gX12_gear_X12_answer rfl rfl rfl hd_X12_answer ⟨Nat.le_of_ble_eq_true rfl, Nat.le_of_ble_eq_true rfl⟩) (pV (va_recv hK hP (q := (RX12, TX12, 34)) (ci := 16) (q0 := k114) rfl hk114) hP hK hD hN) rfl rfl hl.1 rfl (lv_room (Nat.le_of_ble_eq_true rfl)) dX12_gear_118 ⟨Nat.le_of_ble_eq_true rfl, Nat.le_of_ble_eq_true rfl⟩) hS (fun q _ h => hFc q h) hFc (fun r115 u t H1 locs ht hvm hw hB hz1 hk1 hS => ?_)
            obtain ⟨c116, w117⟩ := hw
            obtain ⟨hP, hD⟩ := wd_post hFc ht hB
            generalize H1 = H at hP hS ⊢
            obtain ⟨S118, rfl⟩ : ∃ z, z = u := ⟨_, rfl⟩
            have t119 : stp [(12, 15), (14, 0), (14, 1), (14, 2), (22, 101), (110, 10), (114, 10), (122, 10)] [] [] S S118 := t104.tr w117 (by decide) (fun _ q => absurd q List.not_mem_nil)
            have v120 : (GN S) S118 o1 := GN.keep w117 t104.w (xe106.A (xe96.A (xe61.A h_o1))) (by decide) (by decide) v105
            have xe121 : ext S103 S118 := w117.x
            have k122 : (S118.I (S.f o1 0) 2).toInt = (S103.I (S.f o1 0) 2).toInt := by rw [(w117.fR (S.f o1 0) ((xe61.tr (xe96.tr xe106)).A F1.2.1).1 List.not_mem_nil).1 2 (by rw [((xe61.tr (xe96.tr xe106)).A F1.2.1).2.1]; decide) |>.1]
            have q9 := aw_q c116
            have F123 := ((t94.w.at (xe96.A aqa58) List.not_mem_nil).to_10 (xe96.A aqa58).2.1).F6
            refine W.widen (k := 4) (n := 271) (Nat.le_of_ble_eq_true rfl) (Nat.le_of_ble_eq_true rfl) ?_
            exact W.iret (v := r115) hx hb hr (fun t ht hW9 => ⟨⟨r115, S118, rfl, ⟨t119, (v120), (by omega), ((fun h9 => absurd h9 (by omega))), ((fun _ => by obtain ⟨a9, b0, b00, b1, b2⟩ := al_new hqa58 hS59 w69 F1.2.1 ((hW.at h_o1 List.not_mem_nil).to_12 h_o1.2.1).F0.2.2 (by decide) (by decide) ((hW.at F1.2.1 List.not_mem_nil).to_14 F1.2.1.2.1) y102; have e9 := (Prod.mk.inj c116).2; exact ⟨qa58, a9, bqa58, ((xe106.tr xe121).A (xe96.A aqa58)), (by rw [e9]; exact b0), (by rw [e9]; exact b00), (by rw [e9]; exact b1), (fun i hi => by rw [e9]; exact b2 i hi), (by rw [((w117.fR qa58 (xe106.A (xe96.A aqa58)).1 List.not_mem_nil).1 1 (by rw [(xe106.A (xe96.A aqa58)).2.1]; decide)).1]; rw [((w100.fR qa58 (xe96.A aqa58).1 List.not_mem_nil).1 1 (by rw [(xe96.A aqa58).2.1]; decide)).1]; exact y72), (by rw [((w117.fR qa58 (xe106.A (xe96.A aqa58)).1 List.not_mem_nil).1 2 (by rw [(xe106.A (xe96.A aqa58)).2.1]; decide)).1]; rw [((w100.fR qa58 (xe96.A aqa58).1 List.not_mem_nil).1 2 (by rw [(xe96.A aqa58).2.1]; decide)).1]; exact y73), (by rw [((w117.fR qa58 (xe106.A (xe96.A aqa58)).1 List.not_mem_nil).1 3 (by rw [(xe106.A (xe96.A aqa58)).2.1]; decide)).1]; rw [((w100.fR qa58 (xe96.A aqa58).1 List.not_mem_nil).1 3 (by rw [(xe96.A aqa58).2.1]; decide)).1]; exact y74), (by rw [((w117.fR qa58 (xe106.A (xe96.A aqa58)).1 List.not_mem_nil).1 4 (by rw [(xe106.A (xe96.A aqa58)).2.1]; decide)).1]; rw [((w100.fR qa58 (xe96.A aqa58).1 List.not_mem_nil).1 4 (by rw [(xe96.A aqa58).2.1]; decide)).1]; exact y75), (by rw [((w117.fR qa58 (xe106.A (xe96.A aqa58)).1 List.not_mem_nil).1 7 (by rw [(xe106.A (xe96.A aqa58)).2.1]; decide)).1]; rw [((w100.fR qa58 (xe96.A aqa58).1 List.not_mem_nil).1 7 (by rw [(xe96.A aqa58).2.1]; decide)).1]; exact y76), (by rw [((w117.fR qa58 (xe106.A (xe96.A aqa58)).1 List.not_mem_nil).1 8 (by rw [(xe106.A (xe96.A aqa58)).2.1]; decide)).1]; rw [((w100.fR qa58 (xe96.A aqa58).1 List.not_mem_nil).1 8 (by rw [(xe96.A aqa58).2.1]; decide)).1]; exact y77), (by rw [((w117.fR qa58 (xe106.A (xe96.A aqa58)).1 List.not_mem_nil).1 10 (by rw [(xe106.A (xe96.A aqa58)).2.1]; decide)).1]; rw [((w100.fR qa58 (xe96.A aqa58).1 List.not_mem_nil).1 10 (by rw [(xe96.A aqa58).2.1]; decide)).1]; exact y79), (by rw [((w117.fR qa58 (xe106.A (xe96.A aqa58)).1 List.not_mem_nil).1 11 (by rw [(xe106.A (xe96.A aqa58)).2.1]; decide)).1]; rw [((w100.fR qa58 (xe96.A aqa58).1 List.not_mem_nil).1 11 (by rw [(xe96.A aqa58).2.1]; decide)).1]; exact y80), (by rw [((w117.fR qa58 (xe106.A (xe96.A aqa58)).1 List.not_mem_nil).1 18 (by rw [(xe106.A (xe96.A aqa58)).2.1]; decide)).1]; rw [((w100.fR qa58 (xe96.A aqa58).1 List.not_mem_nil).1 18 (by rw [(xe96.A aqa58).2.1]; decide)).1]; exact y87), (by rw [((w117.fR qa58 (xe106.A (xe96.A aqa58)).1 List.not_mem_nil).1 17 (by rw [(xe106.A (xe96.A aqa58)).2.1]; decide)).1]; rw [((w100.fR qa58 (xe96.A aqa58).1 List.not_mem_nil).1 17 (by rw [(xe96.A aqa58).2.1]; decide)).1]; exact y86), (by rw [f_of ((xe106.tr xe121).F (xe96.A aqa58) (by decide) F123.1)]; exact fun e9 => y91 (xe61 _ e9).1), (by rw [f_of ((xe106.tr xe121).F (xe96.A aqa58) (by decide) F123.1)]; exact fun i9 => (congrFun ((show S118.i (S93.f qa58 6) = S103.i (S93.f qa58 6) from ((w117.fR (S93.f qa58 6) (xe106.A F123.2.1).1 List.not_mem_nil).2.1 (by rw [(xe106.A F123.2.1).2.1]; decide))).trans (show S103.i (S93.f qa58 6) = S93.i (S93.f qa58 6) from ((w100.fR (S93.f qa58 6) F123.2.1.1 List.not_mem_nil).2.1 (by rw [F123.2.1.2.1]; decide)))) i9).trans (y92 i9))⟩))⟩, wd_end hP hK hD ht hW9.alike⟩, hS.F ht⟩) hS.2.2 dX12_gear_121 hlocks
          · have c56i : (f_Jx4a65c_size_8abf5 S (S.f o1 0)).toInt = 20 := eq_v rfl rfl c56
            refine lv_aload_n hx hb dX12_gear_75 rfl (lv_at hl 0 rfl) ?_
            refine lv_iconst (v := 2) hx hb dX12_gear_76 (by decide) ?_
            have l32_2 : (2 : Int32).toInt = 2 := rfl
            have hFc := free_all hD hS hA
            obtain ⟨k124, gk124, hk124⟩ := wGt (cy := cy) X S h_o1.1 h_o1.2.1
            refine va_calli (va_runV (As := [.int (2 : Int32)]) (rest := []) ⟨hx, hb, hml, hown, hts⟩ (c_X12_fails l (cy := cy) (X := X) (D := D) S _ o1 h_o1 (2 : Int32) (hW)) (cwV 1 hts gX12_gear_X12_fails rfl rfl rfl hd_X12_fails ⟨Nat.le_of_ble_eq_true rfl, Nat.le_of_ble_eq_true rfl⟩) (pV (va_recv hK hP (q := (RX12, TX12, 34)) (ci := 16) (q0 := k124) rfl hk124) hP hK hD hN) rfl rfl hl.1 rfl (lv_room (Nat.le_of_ble_eq_true rfl)) dX12_gear_77 ⟨(Nat.zero_le _), (Nat.zero_le _)⟩) hS (fun q _ h => hFc q h) hFc (fun r125 u t H1 locs ht hvm hw hB hz1 hk1 hS => ?_)
            obtain ⟨c126, w127⟩ := hw
            obtain ⟨hP, hD⟩ := wd_post hFc ht hB
            generalize H1 = H at hP hS ⊢
            obtain ⟨S128, rfl⟩ : ∃ z, z = u := ⟨_, rfl⟩
            have t129 : stp [(12, 15), (14, 0), (14, 1), (14, 2), (22, 101), (110, 10), (114, 10), (122, 10)] [] [] S S128 := t0.tr w127 (by decide) (fun _ q => absurd q List.not_mem_nil)
            have v130 : (GN S) S128 o1 := GN.keep w127 hW h_o1 (by decide) (by decide) GN.rf
            have xe131 : ext S S128 := w127.x
            have k132 : (S128.I (S.f o1 0) 2).toInt = (S.I (S.f o1 0) 2).toInt := by rw [(w127.fR (S.f o1 0) F1.2.1.1 List.not_mem_nil).1 2 (by rw [F1.2.1.2.1]; decide) |>.1]
            have q9 := fl_q c126
            refine W.widen (k := 4) (n := 271) (Nat.le_of_ble_eq_true rfl) (Nat.le_of_ble_eq_true rfl) ?_
            exact W.iret (v := r125) hx hb hr (fun t ht hW9 => ⟨⟨r125, S128, rfl, ⟨t129, (v130), (by omega), ((fun _ => ⟨_, (Prod.mk.inj c126).2⟩)), ((fun h9 => absurd h9 (by omega)))⟩, wd_end hP hK hD ht hW9.alike⟩, hS.F ht⟩) hS.2.2 dX12_gear_80 hlocks
        · have c49i : (f_X12_in x4.toInt64 (1000 : Int64) (99999 : Int64)).toInt = 0 := eq_v rfl rfl c49
          refine lv_aload_n hx hb dX12_gear_57 rfl (lv_at hl 0 rfl) ?_
          refine lv_iconst (v := 1) hx hb dX12_gear_58 (by decide) ?_
          have l32_1 : (1 : Int32).toInt = 1 := rfl
          have hFc := free_all hD hS hA
          obtain ⟨k133, gk133, hk133⟩ := wGt (cy := cy) X S h_o1.1 h_o1.2.1
          refine va_calli (va_runV (As := [.int (1 : Int32)]) (rest := []) ⟨hx, hb, hml, hown, hts⟩ (c_X12_fails l (cy := cy) (X := X) (D := D) S _ o1 h_o1 (1 : Int32) (hW)) (cwV 1 hts gX12_gear_X12_fails rfl rfl rfl hd_X12_fails ⟨Nat.le_of_ble_eq_true rfl, Nat.le_of_ble_eq_true rfl⟩) (pV (va_recv hK hP (q := (RX12, TX12, 34)) (ci := 16) (q0 := k133) rfl hk133) hP hK hD hN) rfl rfl hl.1 rfl (lv_room (Nat.le_of_ble_eq_true rfl)) dX12_gear_59 ⟨(Nat.zero_le _), (Nat.zero_le _)⟩) hS (fun q _ h => hFc q h) hFc (fun r134 u t H1 locs ht hvm hw hB hz1 hk1 hS => ?_)
          obtain ⟨c135, w136⟩ := hw
          obtain ⟨hP, hD⟩ := wd_post hFc ht hB
          generalize H1 = H at hP hS ⊢
          obtain ⟨S137, rfl⟩ : ∃ z, z = u := ⟨_, rfl⟩
          have t138 : stp [(12, 15), (14, 0), (14, 1), (14, 2), (22, 101), (110, 10), (114, 10), (122, 10)] [] [] S S137 := t0.tr w136 (by decide) (fun _ q => absurd q List.not_mem_nil)
          have v139 : (GN S) S137 o1 := GN.keep w136 hW h_o1 (by decide) (by decide) GN.rf
          have xe140 : ext S S137 := w136.x
          have k141 : (S137.I (S.f o1 0) 2).toInt = (S.I (S.f o1 0) 2).toInt := by rw [(w136.fR (S.f o1 0) F1.2.1.1 List.not_mem_nil).1 2 (by rw [F1.2.1.2.1]; decide) |>.1]
          have q9 := fl_q c135
          refine W.widen (k := 4) (n := 271) (Nat.le_of_ble_eq_true rfl) (Nat.le_of_ble_eq_true rfl) ?_
          exact W.iret (v := r134) hx hb hr (fun t ht hW9 => ⟨⟨r134, S137, rfl, ⟨t138, (v139), (by omega), ((fun _ => ⟨_, (Prod.mk.inj c135).2⟩)), ((fun h9 => absurd h9 (by omega)))⟩, wd_end hP hK hD ht hW9.alike⟩, hS.F ht⟩) hS.2.2 dX12_gear_62 hlocks
theorem hi_X12_hob_X11 : ∀ w ∈ u_ws RX11 TX11 7, w ∈ wsX12_hob := by decide +kernel
theorem hi_X12_hob_X12 : ∀ w ∈ u_ws RX12 TX12 34, w ∈ wsX12_hob := by decide +kernel
theorem hd_X12_hob : yX12_hob.cls = RX12 ∧ yX12_hob.cls ≠ "java/lang/invoke/MethodHandle" ∧ yX12_hob.cls ≠ "java/lang/invoke/VarHandle" ∧ (parseMethodDescriptor yX12_hob.desc).map (fun d => d.parameters.length) = some 4 := by decide +kernel
set_option maxHeartbeats 4000000 in
set_option maxRecDepth 100000 in
theorem c_X12_hob (l : Launch) {e0 mi : Nat} {D : va_G} {cy : Nat → ClassId} {X : va_W} (S : wPS) (sz : Nat) (o1 : Nat) (h_o1 : isA S o1 12) (x1 : Int32) (x2 : Int32) (x3 : Int32) (x4 : Int32) (hW : wtB S []) (he : S.F o1 77 = some e0) : Met l yX12_hob wsX12_hob ({ frames := 7, cells := 3, slots := 67, locals := 171 }) (va_Pc [.ref o1, .int x1, .int x2, .int x3, .int x4] (fun U => U.heap.size = sz ∧ WD D cy X (fun _ => True) S U ∧ NW U ∧ OU e0 mi (va_A (X ++ PL cy S) sz) U U.heap)) (va_Qi (fun r (u : wPS) => stp [(12, 15), (14, 0), (14, 1), (14, 2), (22, 101), (114, 11), (122, 11)] [] [] S u ∧ ((((f_X12_in x1.toInt64 (500 : Int64) (10000 : Int64)).toInt = 0 ∨ (f_X12_in x2.toInt64 (1 : Int64) (4 : Int64)).toInt = 0 ∨ (f_X12_in x3.toInt64 (20000 : Int64) (200000 : Int64)).toInt = 0 ∨ (f_X12_in x4.toInt64 (1 : Int64) (20 : Int64)).toInt = 0) ∧ r.toInt = 0 ∧ (u.I o1 15).toInt = 1 ∧ (u.I (S.f o1 1) 2).toInt = (S.I (S.f o1 1) 2).toInt) ∨ ((¬ (f_X12_in x1.toInt64 (500 : Int64) (10000 : Int64)).toInt = 0 ∧ ¬ (f_X12_in x2.toInt64 (1 : Int64) (4 : Int64)).toInt = 0 ∧ ¬ (f_X12_in x3.toInt64 (20000 : Int64) (200000 : Int64)).toInt = 0 ∧ ¬ (f_X12_in x4.toInt64 (1 : Int64) (20 : Int64)).toInt = 0) ∧ (S.I (S.f o1 1) 2).toInt = 8 ∧ r.toInt = 0 ∧ (u.I o1 15).toInt = 2 ∧ (u.I (S.f o1 1) 2).toInt = (S.I (S.f o1 1) 2).toInt) ∨ ((¬ (f_X12_in x1.toInt64 (500 : Int64) (10000 : Int64)).toInt = 0 ∧ ¬ (f_X12_in x2.toInt64 (1 : Int64) (4 : Int64)).toInt = 0 ∧ ¬ (f_X12_in x3.toInt64 (20000 : Int64) (200000 : Int64)).toInt = 0 ∧ ¬ (f_X12_in x4.toInt64 (1 : Int64) (20 : Int64)).toInt = 0) ∧ ¬ (S.I (S.f o1 1) 2).toInt = 8 ∧ r.toInt = (S.I (S.f o1 1) 2).toInt ∧ (u.I o1 15).toInt = 0 ∧ (u.I (S.f o1 1) 2).toInt = (S.I (S.f o1 1) 2).toInt + 1)) ∧ ((u.I (S.f o1 1) 2).toInt = (S.I (S.f o1 1) 2).toInt → ∃ t : Int32, u = S.sI o1 15 t) ∧ ((u.I (S.f o1 1) 2).toInt = (S.I (S.f o1 1) 2).toInt + 1 → ∃ g a : Nat, g ∉ S.L ∧ isA u g 11 ∧ u.F (S.f o1 1) 1 = some a ∧ isA u a 22 ∧ u.r a (S.I (S.f o1 1) 2).toNatClampNeg = some g ∧ (∀ i : Nat, (i : Int) < (S.I (S.f o1 1) 2).toInt → u.r a i = S.r (S.f (S.f o1 1) 1) i) ∧ u.I g 0 = x1 ∧ u.I g 1 = x2 ∧ u.I g 4 = x3 ∧ u.I g 3 = x4 ∧ u.I g 5 = (0 : Int32) ∧ u.I g 6 = (0 : Int32))) (fun u t => WD D cy X (va_A (X ++ PL cy S) sz) u t) (va_A (X ++ PL cy S) sz)) 3 67 (va_A (X ++ PL cy S) sz) := by
  refine Met.ofW (cc := cX12_hob) (maxL := 5) (ret := (some .int)) (by decide) rfl ?_
  intro p e s m args below meth c s₁ B hml hv
  obtain ⟨rfl, hsz, ⟨hP, hK, hD0⟩, hN, hOU⟩ := hv
  have hx := B.exec
  have hb := B.bytes
  have hr := B.returns
  have hts := atoms_spec (ws := wsX12_hob) B.pre
  have hown : s.vm.findClass RX12 = some m.cls := findClass_of_methodNamed (x := yX12_hob) B.named
  have hlocks := B.notSynchronized
  subst hsz
  have hD := hD0.self (sz := s.heap.size)
  generalize hAe : va_A (X ++ PL cy S) s.heap.size = A at hD hOU ⊢
  have hA : ∀ q : Nat, s.heap.size ≤ q → A q := fun q h => by rw [← hAe]; exact Or.inr h
  have hS : va_S A s.heap s.heap [] := va_S.rf
  have hl := lv_entry ([.ref o1, .int x1, .int x2, .int x3, .int x4]) (n := 5) (Nat.le_of_ble_eq_true rfl)
  rw [lg_entry_eq]
  generalize (lg_sl ([.ref o1, .int x1, .int x2, .int x3, .int x4]) ++ List.replicate (5 - (lg_sl ([.ref o1, .int x1, .int x2, .int x3, .int x4])).length) Slot.unset).toArray = ls at hl ⊢
  have hl : lv_has ls 5 [(0, .ref o1), (1, .int x1), (2, .int x2), (3, .int x3), (4, .int x4)] := hl
  obtain ⟨⟨ga, gZ, gX, gl, gA⟩, ⟨sa9, sZ, sX, sl9, sA⟩, cZ, eZ, eX, el, eA, hMi, hDc, ⟨pf, pZ⟩⟩ := id hOU
  have t0 : stp [(12, 15), (14, 0), (14, 1), (14, 2), (22, 101), (114, 11), (122, 11)] [] [] S S := stp.rf hW
  have F1 := ((hW.at h_o1 List.not_mem_nil).to_12 h_o1.2.1).F1
  refine lv_iload_n hx hb dX12_hob_0 rfl (lv_at hl 1 rfl) ?_
  refine lv_i2l hx hb dX12_hob_1 rfl ?_
  refine lv_ldc2 (own := RX12) (v := 500) hx hb hown (hts (.constantLong RX12 133 (500)) (by decide +kernel)) dX12_hob_2 ?_
  refine lv_ldc2 (own := RX12) (v := 10000) hx hb hown (hts (.constantLong RX12 135 (10000)) (by decide +kernel)) dX12_hob_5 ?_
  have hFc := free_all hD hS hA
  refine va_calli (va_runS (As := [.long x1.toInt64, .long (500 : Int64), .long (10000 : Int64)]) (rest := []) ⟨hx, hb, hml, hown, hts⟩ (c_X12_in l (cy := cy) (X := X) (D := D) S _ x1.toInt64 (500 : Int64) (10000 : Int64)) (cwS 3 hts gX12_hob_X12_in rfl rfl rfl hd_X12_in ⟨Nat.le_of_ble_eq_true rfl, Nat.le_of_ble_eq_true rfl⟩) (pS hP hK hD hN) rfl rfl hl.1 rfl (lv_room (Nat.le_of_ble_eq_true rfl)) dX12_hob_8 ⟨(Nat.zero_le _), (Nat.zero_le _)⟩) hS (fun q _ h => hFc q h) hFc (fun r2 u t H1 locs ht hvm hw hB hz1 hk1 hS => ?_)
  have c3 := hw
  obtain ⟨hP, hD⟩ := wd_post hFc ht hB
  generalize H1 = H at hP hS ⊢
  obtain rfl : f_X12_in x1.toInt64 (500 : Int64) (10000 : Int64) = r2 := c3.symm
  have i4 := i64_i x1
  have l64_500 : (500 : Int64).toInt = 500 := rfl
  have l64_10000 : (10000 : Int64).toInt = 10000 := rfl
  have i5 := in_rng x1.toInt64 (500 : Int64) (10000 : Int64)
  refine lv_if_eq (tgt := 53) hx hb dX12_hob_11 (by decide) (fun c6 => ?_) (fun c6 => ?_)
  · have c6i : (f_X12_in x1.toInt64 (500 : Int64) (10000 : Int64)).toInt = 0 := eq_v rfl rfl c6
    refine lv_aload_n hx hb dX12_hob_53 rfl (lv_at hl 0 rfl) ?_
    refine lv_iconst (v := 1) hx hb dX12_hob_54 (by decide) ?_
    have l32_1 : (1 : Int32).toInt = 1 := rfl
    have hFc := free_all hD hS hA
    obtain ⟨k7, gk7, hk7⟩ := wGt (cy := cy) X S h_o1.1 h_o1.2.1
    refine va_calli (va_runV (As := [.int (1 : Int32)]) (rest := []) ⟨hx, hb, hml, hown, hts⟩ (c_X12_fails l (cy := cy) (X := X) (D := D) S _ o1 h_o1 (1 : Int32) (hW)) (cwV 1 hts gX12_hob_X12_fails rfl rfl rfl hd_X12_fails ⟨Nat.le_of_ble_eq_true rfl, Nat.le_of_ble_eq_true rfl⟩) (pV (va_recv hK hP (q := (RX12, TX12, 34)) (ci := 16) (q0 := k7) rfl hk7) hP hK hD hN) rfl rfl hl.1 rfl (lv_room (Nat.le_of_ble_eq_true rfl)) dX12_hob_55 ⟨(Nat.zero_le _), (Nat.zero_le _)⟩) hS (fun q _ h => hFc q h) hFc (fun r8 u t H1 locs ht hvm hw hB hz1 hk1 hS => ?_)
    obtain ⟨c9, w10⟩ := hw
    obtain ⟨hP, hD⟩ := wd_post hFc ht hB
    generalize H1 = H at hP hS ⊢
    obtain ⟨S11, rfl⟩ : ∃ z, z = u := ⟨_, rfl⟩
    have t12 : stp [(12, 15), (14, 0), (14, 1), (14, 2), (22, 101), (114, 11), (122, 11)] [] [] S S11 := t0.tr w10 (by decide) (fun _ q => absurd q List.not_mem_nil)
    have xe13 : ext S S11 := w10.x
    have k14 : (S11.I (S.f o1 1) 2).toInt = (S.I (S.f o1 1) 2).toInt := by rw [(w10.fR (S.f o1 1) F1.2.1.1 List.not_mem_nil).1 2 (by rw [F1.2.1.2.1]; decide) |>.1]
    have q9 := fl_q c9
    refine W.widen (k := 3) (n := 67) (Nat.le_of_ble_eq_true rfl) (Nat.le_of_ble_eq_true rfl) ?_
    exact W.iret (v := r8) hx hb hr (fun t ht hW9 => ⟨⟨r8, S11, rfl, ⟨t12, (by omega), ((fun _ => ⟨_, (Prod.mk.inj c9).2⟩)), ((fun h9 => absurd h9 (by omega)))⟩, wd_end hP hK hD ht hW9.alike⟩, hS.F ht⟩) hS.2.2 dX12_hob_58 hlocks
  · have c6i : ¬ (f_X12_in x1.toInt64 (500 : Int64) (10000 : Int64)).toInt = 0 := neq_v rfl rfl c6
    refine lv_iload_n hx hb dX12_hob_14 rfl (lv_at hl 2 rfl) ?_
    refine lv_i2l hx hb dX12_hob_15 rfl ?_
    refine lv_lconst (v := 1) hx hb dX12_hob_16 (by decide) ?_
    refine lv_ldc2 (own := RX12) (v := 4) hx hb hown (hts (.constantLong RX12 314 (4)) (by decide +kernel)) dX12_hob_17 ?_
    have hFc := free_all hD hS hA
    refine va_calli (va_runS (As := [.long x2.toInt64, .long (1 : Int64), .long (4 : Int64)]) (rest := []) ⟨hx, hb, hml, hown, hts⟩ (c_X12_in l (cy := cy) (X := X) (D := D) S _ x2.toInt64 (1 : Int64) (4 : Int64)) (cwS 3 hts gX12_hob_X12_in rfl rfl rfl hd_X12_in ⟨Nat.le_of_ble_eq_true rfl, Nat.le_of_ble_eq_true rfl⟩) (pS hP hK hD hN) rfl rfl hl.1 rfl (lv_room (Nat.le_of_ble_eq_true rfl)) dX12_hob_20 ⟨(Nat.zero_le _), (Nat.zero_le _)⟩) hS (fun q _ h => hFc q h) hFc (fun r15 u t H1 locs ht hvm hw hB hz1 hk1 hS => ?_)
    have c16 := hw
    obtain ⟨hP, hD⟩ := wd_post hFc ht hB
    generalize H1 = H at hP hS ⊢
    obtain rfl : f_X12_in x2.toInt64 (1 : Int64) (4 : Int64) = r15 := c16.symm
    have i17 := i64_i x2
    have l64_1 : (1 : Int64).toInt = 1 := rfl
    have l64_4 : (4 : Int64).toInt = 4 := rfl
    have i18 := in_rng x2.toInt64 (1 : Int64) (4 : Int64)
    refine lv_if_eq (tgt := 53) hx hb dX12_hob_23 (by decide) (fun c19 => ?_) (fun c19 => ?_)
    · have c19i : (f_X12_in x2.toInt64 (1 : Int64) (4 : Int64)).toInt = 0 := eq_v rfl rfl c19
      refine lv_aload_n hx hb dX12_hob_53 rfl (lv_at hl 0 rfl) ?_
      refine lv_iconst (v := 1) hx hb dX12_hob_54 (by decide) ?_
      have l32_1 : (1 : Int32).toInt = 1 := rfl
      have hFc := free_all hD hS hA
      obtain ⟨k20, gk20, hk20⟩ := wGt (cy := cy) X S h_o1.1 h_o1.2.1
      refine va_calli (va_runV (As := [.int (1 : Int32)]) (rest := []) ⟨hx, hb, hml, hown, hts⟩ (c_X12_fails l (cy := cy) (X := X) (D := D) S _ o1 h_o1 (1 : Int32) (hW)) (cwV 1 hts gX12_hob_X12_fails rfl rfl rfl hd_X12_fails ⟨Nat.le_of_ble_eq_true rfl, Nat.le_of_ble_eq_true rfl⟩) (pV (va_recv hK hP (q := (RX12, TX12, 34)) (ci := 16) (q0 := k20) rfl hk20) hP hK hD hN) rfl rfl hl.1 rfl (lv_room (Nat.le_of_ble_eq_true rfl)) dX12_hob_55 ⟨(Nat.zero_le _), (Nat.zero_le _)⟩) hS (fun q _ h => hFc q h) hFc (fun r21 u t H1 locs ht hvm hw hB hz1 hk1 hS => ?_)
      obtain ⟨c22, w23⟩ := hw
      obtain ⟨hP, hD⟩ := wd_post hFc ht hB
      generalize H1 = H at hP hS ⊢
      obtain ⟨S24, rfl⟩ : ∃ z, z = u := ⟨_, rfl⟩
      have t25 : stp [(12, 15), (14, 0), (14, 1), (14, 2), (22, 101), (114, 11), (122, 11)] [] [] S S24 := t0.tr w23 (by decide) (fun _ q => absurd q List.not_mem_nil)
      have xe26 : ext S S24 := w23.x
      have k27 : (S24.I (S.f o1 1) 2).toInt = (S.I (S.f o1 1) 2).toInt := by rw [(w23.fR (S.f o1 1) F1.2.1.1 List.not_mem_nil).1 2 (by rw [F1.2.1.2.1]; decide) |>.1]
      have q9 := fl_q c22
      refine W.widen (k := 3) (n := 67) (Nat.le_of_ble_eq_true rfl) (Nat.le_of_ble_eq_true rfl) ?_
      exact W.iret (v := r21) hx hb hr (fun t ht hW9 => ⟨⟨r21, S24, rfl, ⟨t25, (by omega), ((fun _ => ⟨_, (Prod.mk.inj c22).2⟩)), ((fun h9 => absurd h9 (by omega)))⟩, wd_end hP hK hD ht hW9.alike⟩, hS.F ht⟩) hS.2.2 dX12_hob_58 hlocks
    · have c19i : ¬ (f_X12_in x2.toInt64 (1 : Int64) (4 : Int64)).toInt = 0 := neq_v rfl rfl c19
      refine lv_iload_n hx hb dX12_hob_26 rfl (lv_at hl 3 rfl) ?_
      refine lv_i2l hx hb dX12_hob_27 rfl ?_
      refine lv_ldc2 (own := RX12) (v := 20000) hx hb hown (hts (.constantLong RX12 316 (20000)) (by decide +kernel)) dX12_hob_28 ?_
      refine lv_ldc2 (own := RX12) (v := 200000) hx hb hown (hts (.constantLong RX12 318 (200000)) (by decide +kernel)) dX12_hob_31 ?_
      have hFc := free_all hD hS hA
      refine va_calli (va_runS (As := [.long x3.toInt64, .long (20000 : Int64), .long (200000 : Int64)]) (rest := []) ⟨hx, hb, hml, hown, hts⟩ (c_X12_in l (cy := cy) (X := X) (D := D) S _ x3.toInt64 (20000 : Int64) (200000 : Int64)) (cwS 3 hts gX12_hob_X12_in rfl rfl rfl hd_X12_in ⟨Nat.le_of_ble_eq_true rfl, Nat.le_of_ble_eq_true rfl⟩) (pS hP hK hD hN) rfl rfl hl.1 rfl (lv_room (Nat.le_of_ble_eq_true rfl)) dX12_hob_34 ⟨(Nat.zero_le _), (Nat.zero_le _)⟩) hS (fun q _ h => hFc q h) hFc (fun r28 u t H1 locs ht hvm hw hB hz1 hk1 hS => ?_)
      have c29 := hw
      obtain ⟨hP, hD⟩ := wd_post hFc ht hB
      generalize H1 = H at hP hS ⊢
      obtain rfl : f_X12_in x3.toInt64 (20000 : Int64) (200000 : Int64) = r28 := c29.symm
      have i30 := i64_i x3
      have l64_20000 : (20000 : Int64).toInt = 20000 := rfl
      have l64_200000 : (200000 : Int64).toInt = 200000 := rfl
      have i31 := in_rng x3.toInt64 (20000 : Int64) (200000 : Int64)
      refine lv_if_eq (tgt := 53) hx hb dX12_hob_37 (by decide) (fun c32 => ?_) (fun c32 => ?_)
      · have c32i : (f_X12_in x3.toInt64 (20000 : Int64) (200000 : Int64)).toInt = 0 := eq_v rfl rfl c32
        refine lv_aload_n hx hb dX12_hob_53 rfl (lv_at hl 0 rfl) ?_
        refine lv_iconst (v := 1) hx hb dX12_hob_54 (by decide) ?_
        have l32_1 : (1 : Int32).toInt = 1 := rfl
        have hFc := free_all hD hS hA
        obtain ⟨k33, gk33, hk33⟩ := wGt (cy := cy) X S h_o1.1 h_o1.2.1
        refine va_calli (va_runV (As := [.int (1 : Int32)]) (rest := []) ⟨hx, hb, hml, hown, hts⟩ (c_X12_fails l (cy := cy) (X := X) (D := D) S _ o1 h_o1 (1 : Int32) (hW)) (cwV 1 hts gX12_hob_X12_fails rfl rfl rfl hd_X12_fails ⟨Nat.le_of_ble_eq_true rfl, Nat.le_of_ble_eq_true rfl⟩) (pV (va_recv hK hP (q := (RX12, TX12, 34)) (ci := 16) (q0 := k33) rfl hk33) hP hK hD hN) rfl rfl hl.1 rfl (lv_room (Nat.le_of_ble_eq_true rfl)) dX12_hob_55 ⟨(Nat.zero_le _), (Nat.zero_le _)⟩) hS (fun q _ h => hFc q h) hFc (fun r34 u t H1 locs ht hvm hw hB hz1 hk1 hS => ?_)
        obtain ⟨c35, w36⟩ := hw
        obtain ⟨hP, hD⟩ := wd_post hFc ht hB
        generalize H1 = H at hP hS ⊢
        obtain ⟨S37, rfl⟩ : ∃ z, z = u := ⟨_, rfl⟩
        have t38 : stp [(12, 15), (14, 0), (14, 1), (14, 2), (22, 101), (114, 11), (122, 11)] [] [] S S37 := t0.tr w36 (by decide) (fun _ q => absurd q List.not_mem_nil)
        have xe39 : ext S S37 := w36.x
        have k40 : (S37.I (S.f o1 1) 2).toInt = (S.I (S.f o1 1) 2).toInt := by rw [(w36.fR (S.f o1 1) F1.2.1.1 List.not_mem_nil).1 2 (by rw [F1.2.1.2.1]; decide) |>.1]
        have q9 := fl_q c35
        refine W.widen (k := 3) (n := 67) (Nat.le_of_ble_eq_true rfl) (Nat.le_of_ble_eq_true rfl) ?_
        exact W.iret (v := r34) hx hb hr (fun t ht hW9 => ⟨⟨r34, S37, rfl, ⟨t38, (by omega), ((fun _ => ⟨_, (Prod.mk.inj c35).2⟩)), ((fun h9 => absurd h9 (by omega)))⟩, wd_end hP hK hD ht hW9.alike⟩, hS.F ht⟩) hS.2.2 dX12_hob_58 hlocks
      · have c32i : ¬ (f_X12_in x3.toInt64 (20000 : Int64) (200000 : Int64)).toInt = 0 := neq_v rfl rfl c32
        refine lv_iload hx hb dX12_hob_40 (lv_at hl 4 rfl) ?_
        refine lv_i2l hx hb dX12_hob_42 rfl ?_
        refine lv_lconst (v := 1) hx hb dX12_hob_43 (by decide) ?_
        refine lv_ldc2 (own := RX12) (v := 20) hx hb hown (hts (.constantLong RX12 320 (20)) (by decide +kernel)) dX12_hob_44 ?_
        have hFc := free_all hD hS hA
        refine va_calli (va_runS (As := [.long x4.toInt64, .long (1 : Int64), .long (20 : Int64)]) (rest := []) ⟨hx, hb, hml, hown, hts⟩ (c_X12_in l (cy := cy) (X := X) (D := D) S _ x4.toInt64 (1 : Int64) (20 : Int64)) (cwS 3 hts gX12_hob_X12_in rfl rfl rfl hd_X12_in ⟨Nat.le_of_ble_eq_true rfl, Nat.le_of_ble_eq_true rfl⟩) (pS hP hK hD hN) rfl rfl hl.1 rfl (lv_room (Nat.le_of_ble_eq_true rfl)) dX12_hob_47 ⟨(Nat.zero_le _), (Nat.zero_le _)⟩) hS (fun q _ h => hFc q h) hFc (fun r41 u t H1 locs ht hvm hw hB hz1 hk1 hS => ?_)
        have c42 := hw
        obtain ⟨hP, hD⟩ := wd_post hFc ht hB
        generalize H1 = H at hP hS ⊢
        obtain rfl : f_X12_in x4.toInt64 (1 : Int64) (20 : Int64) = r41 := c42.symm
        have i43 := i64_i x4
        have l64_20 : (20 : Int64).toInt = 20 := rfl
        have i44 := in_rng x4.toInt64 (1 : Int64) (20 : Int64)
        refine lv_if_ne (tgt := 59) hx hb dX12_hob_50 (by decide) (fun c45 => ?_) (fun c45 => ?_)
        · have c45i : ¬ (f_X12_in x4.toInt64 (1 : Int64) (20 : Int64)).toInt = 0 := neq_v rfl rfl c45
          refine lv_aload_n hx hb dX12_hob_59 rfl (lv_at hl 0 rfl) ?_
          obtain ⟨k46, gk46, hk46⟩ := wGt (cy := cy) X S h_o1.1 h_o1.2.1
          simp only [kE, F1.1] at hk46
          refine va_get (D := D) (ci := 16) (v := .ref (S.f o1 1)) (C := RX12) (T := TX12) (N := 34) hx hb hts hi_X12_hob_X12 hown hK hP k46 hk46 rfl 1 (by decide) (hts (.fieldLink RX12 28 "HobhouseModel" "hobs" "Ljava/util/ArrayList;") (by decide +kernel)) (fun _ h9 => h9) rfl dX12_hob_60 ?_
          have hFc := free_all hD hS hA
          obtain ⟨k47, gk47, hk47⟩ := wGt (cy := cy) X S F1.2.1.1 F1.2.1.2.1
          refine va_calli (va_runV (As := []) (rest := []) ⟨hx, hb, hml, hown, hts⟩ (c_Jx4a65c_size_8abf5 l (cy := cy) (X := X) (D := D) S _ (S.f o1 1) F1.2.1) (cwV 0 hts gX12_hob_Jx4a65c_size_8abf5 rfl rfl rfl hd_Jx4a65c_size_8abf5 ⟨Nat.le_of_ble_eq_true rfl, Nat.le_of_ble_eq_true rfl⟩) (pV (va_recv hK hP (q := (RJx4a65c, TJx4a65c, 3)) (ci := 3) (q0 := k47) rfl hk47) hP hK hD hN) rfl rfl hl.1 rfl (lv_room (Nat.le_of_ble_eq_true rfl)) dX12_hob_63 ⟨(Nat.zero_le _), (Nat.zero_le _)⟩) hS (fun q _ h => hFc q h) hFc (fun r48 u t H1 locs ht hvm hw hB hz1 hk1 hS => ?_)
          have c49 := hw
          obtain ⟨hP, hD⟩ := wd_post hFc ht hB
          generalize H1 = H at hP hS ⊢
          obtain rfl : f_Jx4a65c_size_8abf5 S (S.f o1 1) = r48 := c49.symm
          have i50 := al_sz ((hW.at F1.2.1 List.not_mem_nil).to_14 F1.2.1.2.1)
          have i51 : (f_Jx4a65c_size_8abf5 S (S.f o1 1)).toInt = (S.I (S.f o1 1) 2).toInt := rfl
          refine lv_bipush (v := 8) hx hb dX12_hob_66 (by decide +kernel) ?_
          refine lv_icmp_ne (tgt := 77) hx hb dX12_hob_68 (by decide) (fun c52 => ?_) (fun c52 => ?_)
          · have c52i : ¬ (f_Jx4a65c_size_8abf5 S (S.f o1 1)).toInt = 8 := neq_v rfl rfl c52
            refine lv_aload_n hx hb dX12_hob_77 rfl (lv_at hl 0 rfl) ?_
            obtain ⟨k53, gk53, hk53⟩ := wGt (cy := cy) X S h_o1.1 h_o1.2.1
            simp only [kE, F1.1] at hk53
            refine va_get (D := D) (ci := 16) (v := .ref (S.f o1 1)) (C := RX12) (T := TX12) (N := 34) hx hb hts hi_X12_hob_X12 hown hK hP k53 hk53 rfl 1 (by decide) (hts (.fieldLink RX12 28 "HobhouseModel" "hobs" "Ljava/util/ArrayList;") (by decide +kernel)) (fun _ h9 => h9) rfl dX12_hob_78 ?_
            refine va_new (ci := 15) (fs := [.int 0, .int 0, .null, .int 0, .int 0, .int 0, .int 0]) (C := RX11) (T := TX11) (N := 7) hx hb hts hi_X12_hob_X11 tyX11 tyX11_ok hown (hts (.classLink RX12 322 RX11) (by decide +kernel)) (hts (.instantiable RX11 7) (by decide +kernel)) (hts (.initialized RX11) (by decide +kernel)) hK hP hD hS hA rfl (fun j hj => by rcases (show j = 0 ∨ j = 1 ∨ j = 2 ∨ j = 3 ∨ j = 4 ∨ j = 5 ∨ j = 6 by omega) with rfl | rfl | rfl | rfl | rfl | rfl | rfl <;> rfl) (Nat.le_of_ble_eq_true rfl) (Nat.le_of_ble_eq_true rfl) dX12_hob_81 (fun qa54 H hP2 hD2 hS => ?_)
            have hqa54 : qa54 ∉ S.L := nw_q hD2
            have e9 := wNw (cy := cy) (X := X) (S := S) (a := qa54) (k := 11) (z := 0) (f := fun _ => 0) (g := fun _ => none) hqa54 rfl
            obtain ⟨S55, hS55⟩ : ∃ z, S.nw qa54 11 0 (fun _ => 0) (fun _ => none) = z := ⟨_, rfl⟩
            have hP : va_P D vwCl (X ++ PL cy S55) H := by rw [← hS55, ← e9]; exact hP2
            have hD : va_D A (X ++ PL cy S55) := by rw [← hS55, ← e9]; exact hD2
            have xe56 : ext S S55 := by rw [← hS55]; exact ext.nw hqa54
            have t57 : stp [(12, 15), (14, 0), (14, 1), (14, 2), (22, 101), (114, 11), (122, 11)] [] (qa54 :: []) S S55 := by rw [← hS55]; exact t0.nw hqa54 (Or.inl (by decide))
            have k58 : (S55.I (S.f o1 1) 2).toInt = (S.I (S.f o1 1) 2).toInt := by rw [← hS55]; exact congrArg Int32.toInt (nw_Io hqa54 F1.2.1.1)
            refine W.widen (k := 1) (n := 7) (Nat.le_of_ble_eq_true rfl) (Nat.le_of_ble_eq_true rfl) ?_
            have aqa54 : isA S55 qa54 11 := by rw [← hS55]; exact nw_A (by decide)
            have fqa54 : ∀ j, S55.F qa54 j = none := by rw [← hS55]; exact nw_F
            have iqa54 : ∀ j, S55.I qa54 j = 0 := by rw [← hS55]; exact nw_I
            have bqa54 : qa54 ∉ S.L := fun e => hqa54 e
            refine lv_dup hx hb dX12_hob_84 rfl ?_
            refine lv_iload_n hx hb dX12_hob_85 rfl (lv_at hl 1 rfl) ?_
            refine lv_iload_n hx hb dX12_hob_86 rfl (lv_at hl 2 rfl) ?_
            refine lv_iload_n hx hb dX12_hob_87 rfl (lv_at hl 3 rfl) ?_
            refine lv_iload hx hb dX12_hob_88 (lv_at hl 4 rfl) ?_
            have hFc := free_all hD hS hA
            refine va_callv (va_runI (As := [.int x1, .int x2, .int x3, .int x4]) (rest := [.ref qa54, .ref (S.f o1 1)]) ⟨hx, hb, hml, hown, hts⟩ (c_X11_init l (cy := cy) (X := X) (D := D) S55 _ qa54 aqa54 x1 x2 x3 x4 [] (t57.w) fqa54 iqa54 (by omega)) (cwI 4 hts gX12_hob_X11_init rfl rfl rfl (hts (.initialized RX11) (by decide +kernel)) (hts (.methodLink RX12 324 yX11_init) (by decide +kernel)) (hts (.instanceMethod yX11_init) (by decide +kernel)) rfl (by decide +kernel) ⟨Nat.le_of_ble_eq_true rfl, Nat.le_of_ble_eq_true rfl⟩) (pS hP hK hD hN) rfl rfl hl.1 rfl (lv_room (Nat.le_of_ble_eq_true rfl)) dX12_hob_90 ⟨Nat.le_of_ble_eq_true rfl, Nat.le_of_ble_eq_true rfl⟩) hS (fun q _ h => hFc q h) hFc (fun u t H1 locs ht hvm hw hB hz1 hk1 hS => ?_)
            obtain ⟨w60, y61, y62, y63, y64, y65, y66, y67⟩ := hw
            obtain ⟨hP, hD⟩ := wd_post hFc ht hB
            generalize H1 = H at hP hS ⊢
            obtain ⟨S68, rfl⟩ : ∃ z, z = u := ⟨_, rfl⟩
            have t69 : stp [(12, 15), (14, 0), (14, 1), (14, 2), (22, 101), (114, 11), (122, 11)] [] [] S S68 := t57.tr w60 (by decide) (fun z q => by rw [List.mem_singleton.mp q]; exact (Or.inr bqa54))
            have xe70 : ext S55 S68 := w60.x
            have k71 : (S68.I (S.f o1 1) 2).toInt = (S55.I (S.f o1 1) 2).toInt := by rw [(w60.fR (S.f o1 1) (xe56.A F1.2.1).1 (by rw [List.mem_singleton]; exact fun e => hqa54 (e ▸ F1.2.1.1))).1 2 (by rw [(xe56.A F1.2.1).2.1]; decide) |>.1]
            have hFc := free_all hD hS hA
            obtain ⟨k72, gk72, hk72⟩ := wGt (cy := cy) X S68 ((xe56.tr xe70).A F1.2.1).1 ((xe56.tr xe70).A F1.2.1).2.1
            refine va_calli (va_runV (As := [.ref qa54]) (rest := []) ⟨hx, hb, hml, hown, hts⟩ (c_Jx4a65c_add_9ea2d_h l (e0 := e0) (mi := mi) (cy := cy) (X := X) (D := D) S68 _ (S.f o1 1) ((xe56.tr xe70).A F1.2.1) qa54 (xe70.A aqa54) (t69.w) (by have h9 := ((t69.w.at ((xe56.tr xe70).A h_o1) List.not_mem_nil).to_12 ((xe56.tr xe70).A h_o1).2.1).X2; rw [f_of ((xe56.tr xe70).F h_o1 (by decide) F1.1), f_of (t69.x.F h_o1 (by decide) he)] at h9; exact h9) (by have q9 := al_sz8 ((t69.w.at ((xe56.tr xe70).A F1.2.1) List.not_mem_nil).to_14 ((xe56.tr xe70).A F1.2.1).2.1) (((xe56.tr xe70).n F1.2.1).trans F1.2.2); omega) (((xe56.tr xe70).n F1.2.1).trans F1.2.2)) (cwV 1 hts gX12_hob_Jx4a65c_add_9ea2d rfl rfl rfl hd_Jx4a65c_add_9ea2d ⟨Nat.le_of_ble_eq_true rfl, Nat.le_of_ble_eq_true rfl⟩) (pVo (va_recv hK hP (q := (RJx4a65c, TJx4a65c, 3)) (ci := 3) (q0 := k72) rfl hk72) hP hK hD hN hOU hS hFc) rfl rfl hl.1 rfl (lv_room (Nat.le_of_ble_eq_true rfl)) dX12_hob_93 ⟨Nat.le_of_ble_eq_true rfl, Nat.le_of_ble_eq_true rfl⟩) hS (fun q _ h => hFc q h) hFc (fun r73 u t H1 locs ht hvm hw hB hz1 hk1 hS => ?_)
            obtain ⟨w74, y75, y76⟩ := hw
            obtain ⟨hP, hD⟩ := wd_post hFc ht hB
            generalize H1 = H at hP hS ⊢
            obtain ⟨S77, rfl⟩ : ∃ z, z = u := ⟨_, rfl⟩
            have t78 : stp [(12, 15), (14, 0), (14, 1), (14, 2), (22, 101), (114, 11), (122, 11)] [] [] S S77 := t69.tr w74 (by decide) (fun _ q => absurd q List.not_mem_nil)
            have xe79 : ext S68 S77 := w74.x
            refine lv_pop hx hb dX12_hob_96 rfl ?_
            refine lv_aload_n hx hb dX12_hob_97 rfl (lv_at hl 0 rfl) ?_
            refine lv_aload_n hx hb dX12_hob_98 rfl (lv_at hl 0 rfl) ?_
            obtain ⟨k80, gk80, hk80⟩ := wGt (cy := cy) X S77 (xe79.A ((xe56.tr xe70).A h_o1)).1 (xe79.A ((xe56.tr xe70).A h_o1)).2.1
            simp only [kE, ((xe56.tr (xe70.tr xe79)).F h_o1 (by decide) F1.1)] at hk80
            refine va_get (D := D) (ci := 16) (v := .ref (S.f o1 1)) (C := RX12) (T := TX12) (N := 34) hx hb hts hi_X12_hob_X12 hown hK hP k80 hk80 rfl 1 (by decide) (hts (.fieldLink RX12 28 "HobhouseModel" "hobs" "Ljava/util/ArrayList;") (by decide +kernel)) (fun _ h9 => h9) rfl dX12_hob_99 ?_
            have hFc := free_all hD hS hA
            obtain ⟨k81, gk81, hk81⟩ := wGt (cy := cy) X S77 (xe79.A ((xe56.tr xe70).A F1.2.1)).1 (xe79.A ((xe56.tr xe70).A F1.2.1)).2.1
            refine va_calli (va_runV (As := []) (rest := [.ref o1]) ⟨hx, hb, hml, hown, hts⟩ (c_Jx4a65c_size_8abf5 l (cy := cy) (X := X) (D := D) S77 _ (S.f o1 1) (xe79.A ((xe56.tr xe70).A F1.2.1))) (cwV 0 hts gX12_hob_Jx4a65c_size_8abf5 rfl rfl rfl hd_Jx4a65c_size_8abf5 ⟨Nat.le_of_ble_eq_true rfl, Nat.le_of_ble_eq_true rfl⟩) (pV (va_recv hK hP (q := (RJx4a65c, TJx4a65c, 3)) (ci := 3) (q0 := k81) rfl hk81) hP hK hD hN) rfl rfl hl.1 rfl (lv_room (Nat.le_of_ble_eq_true rfl)) dX12_hob_102 ⟨Nat.le_of_ble_eq_true rfl, Nat.le_of_ble_eq_true rfl⟩) hS (fun q _ h => hFc q h) hFc (fun r82 u t H1 locs ht hvm hw hB hz1 hk1 hS => ?_)
            have c83 := hw
            obtain ⟨hP, hD⟩ := wd_post hFc ht hB
            generalize H1 = H at hP hS ⊢
            obtain rfl : f_Jx4a65c_size_8abf5 S77 (S.f o1 1) = r82 := c83.symm
            have i84 := al_sz ((t78.w.at (xe79.A ((xe56.tr xe70).A F1.2.1)) List.not_mem_nil).to_14 (xe79.A ((xe56.tr xe70).A F1.2.1)).2.1)
            have i85 : (f_Jx4a65c_size_8abf5 S77 (S.f o1 1)).toInt = (S77.I (S.f o1 1) 2).toInt := rfl
            refine lv_iconst (v := 1) hx hb dX12_hob_105 (by decide) ?_
            refine lv_isub hx hb dX12_hob_106 ?_
            have l32_1 : (1 : Int32).toInt = 1 := rfl
            have i86 : ((f_Jx4a65c_size_8abf5 S77 (S.f o1 1)) - (1 : Int32)).toInt = (f_Jx4a65c_size_8abf5 S77 (S.f o1 1)).toInt - 1 := t_subr (n := 1) rfl (by omega)
            have hFc := free_all hD hS hA
            obtain ⟨k87, gk87, hk87⟩ := wGt (cy := cy) X S77 (xe79.A ((xe56.tr xe70).A h_o1)).1 (xe79.A ((xe56.tr xe70).A h_o1)).2.1
            refine va_calli (va_runV (As := [.int ((f_Jx4a65c_size_8abf5 S77 (S.f o1 1)) - (1 : Int32))]) (rest := []) ⟨hx, hb, hml, hown, hts⟩ (c_X12_answer l (cy := cy) (X := X) (D := D) S77 _ o1 (xe79.A ((xe56.tr xe70).A h_o1)) ((f_Jx4a65c_size_8abf5 S77 (S.f o1 1)) - (1 : Int32)) (t78.w)) (cwV 1 hts gX12_hob_X12_answer rfl rfl rfl hd_X12_answer ⟨Nat.le_of_ble_eq_true rfl, Nat.le_of_ble_eq_true rfl⟩) (pV (va_recv hK hP (q := (RX12, TX12, 34)) (ci := 16) (q0 := k87) rfl hk87) hP hK hD hN) rfl rfl hl.1 rfl (lv_room (Nat.le_of_ble_eq_true rfl)) dX12_hob_107 ⟨Nat.le_of_ble_eq_true rfl, Nat.le_of_ble_eq_true rfl⟩) hS (fun q _ h => hFc q h) hFc (fun r88 u t H1 locs ht hvm hw hB hz1 hk1 hS => ?_)
            obtain ⟨c89, w90⟩ := hw
            obtain ⟨hP, hD⟩ := wd_post hFc ht hB
            generalize H1 = H at hP hS ⊢
            obtain ⟨S91, rfl⟩ : ∃ z, z = u := ⟨_, rfl⟩
            have t92 : stp [(12, 15), (14, 0), (14, 1), (14, 2), (22, 101), (114, 11), (122, 11)] [] [] S S91 := t78.tr w90 (by decide) (fun _ q => absurd q List.not_mem_nil)
            have xe93 : ext S77 S91 := w90.x
            have k94 : (S91.I (S.f o1 1) 2).toInt = (S77.I (S.f o1 1) 2).toInt := by rw [(w90.fR (S.f o1 1) ((xe56.tr (xe70.tr xe79)).A F1.2.1).1 List.not_mem_nil).1 2 (by rw [((xe56.tr (xe70.tr xe79)).A F1.2.1).2.1]; decide) |>.1]
            have q9 := aw_q c89
            refine W.widen (k := 3) (n := 67) (Nat.le_of_ble_eq_true rfl) (Nat.le_of_ble_eq_true rfl) ?_
            exact W.iret (v := r88) hx hb hr (fun t ht hW9 => ⟨⟨r88, S91, rfl, ⟨t92, (by omega), ((fun h9 => absurd h9 (by omega))), ((fun _ => by obtain ⟨a9, b0, b00, b1, b2⟩ := al_new hqa54 hS55 w60 F1.2.1 ((hW.at h_o1 List.not_mem_nil).to_12 h_o1.2.1).F1.2.2 (by decide) (by decide) ((hW.at F1.2.1 List.not_mem_nil).to_14 F1.2.1.2.1) y76; have e9 := (Prod.mk.inj c89).2; exact ⟨qa54, a9, bqa54, ((xe79.tr xe93).A (xe70.A aqa54)), (by rw [e9]; exact b0), (by rw [e9]; exact b00), (by rw [e9]; exact b1), (fun i hi => by rw [e9]; exact b2 i hi), (by rw [((w90.fR qa54 (xe79.A (xe70.A aqa54)).1 List.not_mem_nil).1 0 (by rw [(xe79.A (xe70.A aqa54)).2.1]; decide)).1]; rw [((w74.fR qa54 (xe70.A aqa54).1 List.not_mem_nil).1 0 (by rw [(xe70.A aqa54).2.1]; decide)).1]; exact y62), (by rw [((w90.fR qa54 (xe79.A (xe70.A aqa54)).1 List.not_mem_nil).1 1 (by rw [(xe79.A (xe70.A aqa54)).2.1]; decide)).1]; rw [((w74.fR qa54 (xe70.A aqa54).1 List.not_mem_nil).1 1 (by rw [(xe70.A aqa54).2.1]; decide)).1]; exact y63), (by rw [((w90.fR qa54 (xe79.A (xe70.A aqa54)).1 List.not_mem_nil).1 4 (by rw [(xe79.A (xe70.A aqa54)).2.1]; decide)).1]; rw [((w74.fR qa54 (xe70.A aqa54).1 List.not_mem_nil).1 4 (by rw [(xe70.A aqa54).2.1]; decide)).1]; exact y65), (by rw [((w90.fR qa54 (xe79.A (xe70.A aqa54)).1 List.not_mem_nil).1 3 (by rw [(xe79.A (xe70.A aqa54)).2.1]; decide)).1]; rw [((w74.fR qa54 (xe70.A aqa54).1 List.not_mem_nil).1 3 (by rw [(xe70.A aqa54).2.1]; decide)).1]; exact y64), (by rw [((w90.fR qa54 (xe79.A (xe70.A aqa54)).1 List.not_mem_nil).1 5 (by rw [(xe79.A (xe70.A aqa54)).2.1]; decide)).1]; rw [((w74.fR qa54 (xe70.A aqa54).1 List.not_mem_nil).1 5 (by rw [(xe70.A aqa54).2.1]; decide)).1]; exact y66), (by rw [((w90.fR qa54 (xe79.A (xe70.A aqa54)).1 List.not_mem_nil).1 6 (by rw [(xe79.A (xe70.A aqa54)).2.1]; decide)).1]; rw [((w74.fR qa54 (xe70.A aqa54).1 List.not_mem_nil).1 6 (by rw [(xe70.A aqa54).2.1]; decide)).1]; exact y67)⟩))⟩, wd_end hP hK hD ht hW9.alike⟩, hS.F ht⟩) hS.2.2 dX12_hob_110 hlocks
          · have c52i : (f_Jx4a65c_size_8abf5 S (S.f o1 1)).toInt = 8 := eq_v rfl rfl c52
            refine lv_aload_n hx hb dX12_hob_71 rfl (lv_at hl 0 rfl) ?_
            refine lv_iconst (v := 2) hx hb dX12_hob_72 (by decide) ?_
            have l32_2 : (2 : Int32).toInt = 2 := rfl
            have hFc := free_all hD hS hA
            obtain ⟨k95, gk95, hk95⟩ := wGt (cy := cy) X S h_o1.1 h_o1.2.1
            refine va_calli (va_runV (As := [.int (2 : Int32)]) (rest := []) ⟨hx, hb, hml, hown, hts⟩ (c_X12_fails l (cy := cy) (X := X) (D := D) S _ o1 h_o1 (2 : Int32) (hW)) (cwV 1 hts gX12_hob_X12_fails rfl rfl rfl hd_X12_fails ⟨Nat.le_of_ble_eq_true rfl, Nat.le_of_ble_eq_true rfl⟩) (pV (va_recv hK hP (q := (RX12, TX12, 34)) (ci := 16) (q0 := k95) rfl hk95) hP hK hD hN) rfl rfl hl.1 rfl (lv_room (Nat.le_of_ble_eq_true rfl)) dX12_hob_73 ⟨(Nat.zero_le _), (Nat.zero_le _)⟩) hS (fun q _ h => hFc q h) hFc (fun r96 u t H1 locs ht hvm hw hB hz1 hk1 hS => ?_)
            obtain ⟨c97, w98⟩ := hw
            obtain ⟨hP, hD⟩ := wd_post hFc ht hB
            generalize H1 = H at hP hS ⊢
            obtain ⟨S99, rfl⟩ : ∃ z, z = u := ⟨_, rfl⟩
            have t100 : stp [(12, 15), (14, 0), (14, 1), (14, 2), (22, 101), (114, 11), (122, 11)] [] [] S S99 := t0.tr w98 (by decide) (fun _ q => absurd q List.not_mem_nil)
            have xe101 : ext S S99 := w98.x
            have k102 : (S99.I (S.f o1 1) 2).toInt = (S.I (S.f o1 1) 2).toInt := by rw [(w98.fR (S.f o1 1) F1.2.1.1 List.not_mem_nil).1 2 (by rw [F1.2.1.2.1]; decide) |>.1]
            have q9 := fl_q c97
            refine W.widen (k := 3) (n := 67) (Nat.le_of_ble_eq_true rfl) (Nat.le_of_ble_eq_true rfl) ?_
            exact W.iret (v := r96) hx hb hr (fun t ht hW9 => ⟨⟨r96, S99, rfl, ⟨t100, (by omega), ((fun _ => ⟨_, (Prod.mk.inj c97).2⟩)), ((fun h9 => absurd h9 (by omega)))⟩, wd_end hP hK hD ht hW9.alike⟩, hS.F ht⟩) hS.2.2 dX12_hob_76 hlocks
        · have c45i : (f_X12_in x4.toInt64 (1 : Int64) (20 : Int64)).toInt = 0 := eq_v rfl rfl c45
          refine lv_aload_n hx hb dX12_hob_53 rfl (lv_at hl 0 rfl) ?_
          refine lv_iconst (v := 1) hx hb dX12_hob_54 (by decide) ?_
          have l32_1 : (1 : Int32).toInt = 1 := rfl
          have hFc := free_all hD hS hA
          obtain ⟨k103, gk103, hk103⟩ := wGt (cy := cy) X S h_o1.1 h_o1.2.1
          refine va_calli (va_runV (As := [.int (1 : Int32)]) (rest := []) ⟨hx, hb, hml, hown, hts⟩ (c_X12_fails l (cy := cy) (X := X) (D := D) S _ o1 h_o1 (1 : Int32) (hW)) (cwV 1 hts gX12_hob_X12_fails rfl rfl rfl hd_X12_fails ⟨Nat.le_of_ble_eq_true rfl, Nat.le_of_ble_eq_true rfl⟩) (pV (va_recv hK hP (q := (RX12, TX12, 34)) (ci := 16) (q0 := k103) rfl hk103) hP hK hD hN) rfl rfl hl.1 rfl (lv_room (Nat.le_of_ble_eq_true rfl)) dX12_hob_55 ⟨(Nat.zero_le _), (Nat.zero_le _)⟩) hS (fun q _ h => hFc q h) hFc (fun r104 u t H1 locs ht hvm hw hB hz1 hk1 hS => ?_)
          obtain ⟨c105, w106⟩ := hw
          obtain ⟨hP, hD⟩ := wd_post hFc ht hB
          generalize H1 = H at hP hS ⊢
          obtain ⟨S107, rfl⟩ : ∃ z, z = u := ⟨_, rfl⟩
          have t108 : stp [(12, 15), (14, 0), (14, 1), (14, 2), (22, 101), (114, 11), (122, 11)] [] [] S S107 := t0.tr w106 (by decide) (fun _ q => absurd q List.not_mem_nil)
          have xe109 : ext S S107 := w106.x
          have k110 : (S107.I (S.f o1 1) 2).toInt = (S.I (S.f o1 1) 2).toInt := by rw [(w106.fR (S.f o1 1) F1.2.1.1 List.not_mem_nil).1 2 (by rw [F1.2.1.2.1]; decide) |>.1]
          have q9 := fl_q c105
          refine W.widen (k := 3) (n := 67) (Nat.le_of_ble_eq_true rfl) (Nat.le_of_ble_eq_true rfl) ?_
          exact W.iret (v := r104) hx hb hr (fun t ht hW9 => ⟨⟨r104, S107, rfl, ⟨t108, (by omega), ((fun _ => ⟨_, (Prod.mk.inj c105).2⟩)), ((fun h9 => absurd h9 (by omega)))⟩, wd_end hP hK hD ht hW9.alike⟩, hS.F ht⟩) hS.2.2 dX12_hob_58 hlocks
