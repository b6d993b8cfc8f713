theorem fl_q {S U : wPS} {o : Nat} {n r : Int32} (h : (r, U) = f_X12_fails S o n) : r.toInt = 0 ∧ (U.I o 15).toInt = n.toInt := by
  obtain ⟨rfl, rfl⟩ := Prod.mk.inj h
  exact ⟨rfl, congrArg Int32.toInt sI_eq⟩
theorem aw_q {S U : wPS} {o : Nat} {x r : Int32} (h : (r, U) = f_X12_answer S o x) : r.toInt = x.toInt ∧ (U.I o 15).toInt = 0 := by
  obtain ⟨rfl, rfl⟩ := Prod.mk.inj h
  exact ⟨rfl, congrArg Int32.toInt sI_eq⟩
theorem al_new {S S1 S2 S3 : wPS} {q l k z : Nat} {f : Nat → Int32} {g : Nat → Option Nat} {W : List (Nat × Nat)} {R : List Nat} (hq : q ∉ S.L) (e1 : S.nw q k z f g = S1) (w : stp W [q] R S1 S2) (hl : isA S l 14) (hn : S.n l = k) (hw1 : (114, k) ∉ W) (hw2 : (122, k) ∉ W) (hok : ok_14 S l) (A : ∃ a : Nat, S3.F l 1 = some a ∧ isA S3 a 22 ∧ S3.r a (S2.I l 2).toNatClampNeg = some q ∧ ∀ i : Nat, (i : Int) < (S2.I l 2).toInt → S3.r a i = S2.r (S2.f l 1) i) : ∃ a : Nat, S3.F l 1 = some a ∧ isA S3 a 22 ∧ S3.r a (S.I l 2).toNatClampNeg = some q ∧ ∀ i : Nat, (i : Int) < (S.I l 2).toInt → S3.r a i = S.r (S.f l 1) i := by
  subst e1
  have hlq : l ≠ q := fun e => hq (e ▸ hl.1)
  have hl1 : isA (S.nw q k z f g) l 14 := (ext.nw hq).A hl
  have nl := w.2.2.2.2.2 l hl1.1 (by rw [List.mem_singleton]; exact hlq)
  have n2 : (S.nw q k z f g).n l = k := ((ext.nw hq).n hl).trans hn
  rcases (nl.1 hl1.2.1).2 with w9 | ⟨i2, f2⟩
  · rw [n2] at w9; exact absurd w9 hw1
  · have I2 : S2.I l 2 = S.I l 2 := i2.trans (nw_Io hq hl.1)
    have F2 : S2.F l 1 = S.F l 1 := (congrFun f2 1).trans (nw_Fo hq hl.1)
    have f1 : S2.f l 1 = S.f l 1 := by unfold wPS.f; rw [F2]
    obtain ⟨a, a1, a0, a2, a3⟩ := A
    rw [I2] at a2 a3
    refine ⟨a, a1, a0, a2, fun i hi => (a3 i hi).trans ?_⟩
    rw [f1]
    rcases hok with ⟨-, z9⟩ | ⟨b1, b2, -, b4, -, -, -⟩
    · omega
    · have hrq : S.f l 1 ≠ q := fun e => hq (e ▸ b2.1)
      have b5 : isA (S.nw q k z f g) (S.f l 1) 22 := (ext.nw hq).A b2
      have b6 : (S.nw q k z f g).F (S.f l 1) 0 = some k := by rw [nw_Fo hq b2.1, b4, hn]
      rcases (w.2.2.2.2.2 _ b5.1 (by rw [List.mem_singleton]; exact hrq)).2 b5.2.1 k b6 with w9 | w9
      · exact absurd w9 hw2
      · exact (congrFun w9 i).trans (congrFun (up_nq (f := S.r) hrq) i)
theorem hi_X10_init_X10 : ∀ w ∈ u_ws RX10 TX10 23, w ∈ wsX10_init := by decide +kernel
set_option maxHeartbeats 4000000 in
set_option maxRecDepth 100000 in
theorem c_X10_init (l : Launch) {D : va_G} {cy : Nat → ClassId} {X : va_W} (S : wPS) (sz : Nat) (o1 : Nat) (h_o1 : isA S o1 10) (x1 : Int32) (x2 : Int32) (x3 : Int32) (x4 : Int32) (x5 : Int32) (R : List Nat) (hW : wtB S (o1 :: R)) (hF0 : ∀ j, S.F o1 j = none) (hI0 : ∀ j, S.I o1 j = 0) (hr : (6 ≤ x2.toInt ∧ x2.toInt ≤ 200) ∧ (500 ≤ x3.toInt ∧ x3.toInt ≤ 10000) ∧ (-500 ≤ x4.toInt ∧ x4.toInt ≤ 500) ∧ 1000 ≤ x5.toInt ∧ x5.toInt ≤ 99999) : Met l yX10_init wsX10_init ({ frames := 1, cells := 2, slots := 208, locals := 12 }) (va_Pc [.ref o1, .int x1, .int x2, .int x3, .int x4, .int x5] (fun U => U.heap.size = sz ∧ WD D cy X (fun _ => True) S U ∧ NW U)) (va_Qv (fun (u : wPS) => stp ([] : List (Nat × Nat)) [o1] R S u ∧ isA u o1 10 ∧ u.I o1 0 = x1 ∧ u.I o1 1 = x2 ∧ u.I o1 2 = x3 ∧ u.I o1 3 = x4 ∧ u.I o1 4 = x5 ∧ u.I o1 7 = (0 : Int32) ∧ u.I o1 8 = (-1 : Int32) ∧ u.I o1 9 = (0 : Int32) ∧ u.I o1 10 = (0 : Int32) ∧ u.I o1 11 = (0 : Int32) ∧ u.I o1 12 = (0 : Int32) ∧ u.I o1 13 = (0 : Int32) ∧ u.I o1 14 = (0 : Int32) ∧ u.I o1 15 = (0 : Int32) ∧ u.I o1 16 = (-1 : Int32) ∧ u.I o1 17 = (0 : Int32) ∧ u.I o1 18 = (0 : Int32) ∧ u.I o1 19 = (0 : Int32) ∧ u.I o1 20 = (0 : Int32) ∧ u.I o1 21 = (0 : Int32) ∧ u.f o1 5 ∉ S.L ∧ (∀ i : Nat, u.i (u.f o1 5) i = 0)) (fun u t => WD D cy X (va_A (X ++ PL cy S) sz) u t) (va_A (X ++ PL cy S) sz)) 2 208 (va_A (X ++ PL cy S) sz) := by
  refine Met.ofW (cc := cX10_init) (maxL := 6) (ret := none) (by decide) rfl ?_
  intro p e s m args below meth c s₁ B hml hv
  obtain ⟨rfl, hsz, ⟨hP, hK, hD0⟩, hN⟩ := hv
  have hx := B.exec
  have hb := B.bytes
  have hr := B.returns
  have hts := atoms_spec (ws := wsX10_init) B.pre
  have hown : s.vm.findClass RX10 = some m.cls := findClass_of_methodNamed (x := yX10_init) B.named
  have hlocks := B.notSynchronized
  have hin : meth.name = "<init>" := (name_of_methodNamed B.named B.method).1
  subst hsz
  have hD := hD0.self (sz := s.heap.size)
  generalize hAe : va_A (X ++ PL cy S) s.heap.size = A at hD ⊢
  have hA : ∀ q : Nat, s.heap.size ≤ q → A q := fun q h => by rw [← hAe]; exact Or.inr h
  have hS : va_S A s.heap s.heap [] := va_S.rf
  have hl := lv_entry ([.ref o1, .int x1, .int x2, .int x3, .int x4, .int x5]) (n := 6) (Nat.le_of_ble_eq_true rfl)
  rw [lg_entry_eq]
  generalize (lg_sl ([.ref o1, .int x1, .int x2, .int x3, .int x4, .int x5]) ++ List.replicate (6 - (lg_sl ([.ref o1, .int x1, .int x2, .int x3, .int x4, .int x5])).length) Slot.unset).toArray = ls at hl ⊢
  have hl : lv_has ls 6 [(0, .ref o1), (1, .int x1), (2, .int x2), (3, .int x3), (4, .int x4), (5, .int x5)] := hl
  have t0 : stp ([] : List (Nat × Nat)) [o1] (o1 :: R) S S := stp.rf hW
  refine lv_aload_n hx hb dX10_init_0 rfl (lv_at hl 0 rfl) ?_
  refine W.objInit hx hb hown (hts (.methodLink RX10 3 objectInit) (by decide +kernel)) (hts (.instanceMethod objectInit) (by decide +kernel)) (hts (.code objectInit ⟨#[0xb1]⟩ 1 none) (by decide +kernel)) rfl (by rw [hml]; exact hl.1) rfl dX10_init_1 (Nat.le_of_ble_eq_true rfl) (Nat.le_of_ble_eq_true rfl) ?_
  refine W.eq (g2 := F0 m 4 ls []) rfl ?_
  refine lv_aload_n hx hb dX10_init_4 rfl (lv_at hl 0 rfl) ?_
  refine lv_sipush (v := 200) hx hb dX10_init_5 (by decide +kernel) ?_
  refine va_newa (atype := .int) hx hb (hts (.arrayClass .int) (by decide +kernel)) (ty := .int) rfl hK hP hD hS hA (N' := 200) (a0 := (200, .inl (fun _ => 0))) (fun _ => rfl) (by decide) (by decide) (by decide) (Nat.le_of_ble_eq_true rfl) (Nat.le_of_ble_eq_true rfl) dX10_init_8 (fun qa1 cqa1 H hK2 hP2 hD2 hS => ?_)
  obtain rfl : cqa1 = cy 2 := cls_int hK hK2
  have hqa1 : qa1 ∉ S.L := nw_q hD2
  have e9 := wNw (cy := cy) (X := X) (S := S) (a := qa1) (k := 29) (z := 200) (f := fun _ => 0) (g := fun _ => none) hqa1 rfl
  obtain ⟨S2, hS2⟩ : ∃ z, S.nw qa1 29 200 (fun _ => 0) (fun _ => none) = z := ⟨_, rfl⟩
  have hP : va_P D vwCl (X ++ PL cy S2) H := by rw [← hS2, ← e9]; exact hP2
  have hD : va_D A (X ++ PL cy S2) := by rw [← hS2, ← e9]; exact hD2
  have xe3 : ext S S2 := by rw [← hS2]; exact ext.nw hqa1
  have t4 : stp ([] : List (Nat × Nat)) [o1] (o1 :: R) S S2 := by rw [← hS2]; exact t0.nwA hqa1 (by decide)
  refine W.widen (k := 1) (n := 200) (Nat.le_of_ble_eq_true rfl) (Nat.le_of_ble_eq_true rfl) ?_
  have aqa1 : isA S2 qa1 29 := by rw [← hS2]; exact nw_A (by decide)
  have nqa1 : S2.n qa1 = 200 := by rw [← hS2]; exact nw_n
  have zqa1 : ∀ j9, S2.i qa1 j9 = 0 := by rw [← hS2]; exact fun j9 => congrFun (up_qq (f := S.i)) j9
  obtain ⟨k5, gk5, hk5⟩ := wGt (cy := cy) X S2 (xe3.A h_o1).1 (xe3.A h_o1).2.1
  refine va_putF (D := D) (ci := 14) (v := .ref qa1) (ty := (tyX10 5)) (C := RX10) (T := TX10) (N := 23) hx hb hts hi_X10_init_X10 tyX10 tyX10_ok nmX10 hown hK hP hD hS k5 hk5 rfl 5 (by decide) (hts (.fieldLink RX10 9 "HobhouseModel$Gear" "errors" "[I") (by decide +kernel)) (fun _ h9 => h9) rfl hin rfl (by decide +kernel) (rfl) (rfl) (Nat.le_of_ble_eq_true rfl) dX10_init_10 (fun H locs hP2 hD2 hS => ?_)
  have e9 := wPuF (cy := cy) (j := 5) (v := (some qa1)) hD (xe3.A h_o1).1 (xe3.A h_o1).2.1 gk5 rfl
  obtain ⟨S6, hS6⟩ : ∃ z, S2.sF o1 5 (some qa1) = z := ⟨_, rfl⟩
  have hP : va_P D vwCl (X ++ PL cy S6) H := by rw [← hS6, ← e9]; exact hP2
  have hD : va_D A (X ++ PL cy S6) := by rw [← hS6, ← e9]; exact hD2
  have xe7 : ext S2 S6 := by rw [← hS6]; exact ext.sF (by rw [← hS2, nw_Fo hqa1 h_o1.1]; exact hF0 5)
  have t8 : stp ([] : List (Nat × Nat)) [o1] (o1 :: R) S S6 := by rw [← hS6]; exact t4.F 5 qa1 List.mem_cons_self (Or.inl List.mem_cons_self) (by rw [← hS2, nw_Fo hqa1 h_o1.1]; exact hF0 5)
  have z9 : ∀ j9, S6.i qa1 j9 = 0 := by rw [← hS6]; exact zqa1
  have F10 : S6.F o1 5 = some qa1 := by rw [← hS6]; exact sF_eq
  refine lv_aload_n hx hb dX10_init_13 rfl (lv_at hl 0 rfl) ?_
  refine lv_bipush (v := 8) hx hb dX10_init_14 (by decide +kernel) ?_
  refine va_newa (atype := .char) hx hb (hts (.arrayClass .char) (by decide +kernel)) (ty := .char) rfl hK hP hD hS hA (N' := 8) (a0 := (8, .inl (fun _ => 0))) (fun _ => rfl) (by decide) (by decide) (by decide) (Nat.le_of_ble_eq_true rfl) (Nat.le_of_ble_eq_true rfl) dX10_init_16 (fun qa11 cqa11 H hK2 hP2 hD2 hS => ?_)
  obtain rfl : cqa11 = cy 1 := cls_char hK hK2
  have hqa11 : qa11 ∉ S6.L := nw_q hD2
  have e9 := wNw (cy := cy) (X := X) (S := S6) (a := qa11) (k := 37) (z := 8) (f := fun _ => 0) (g := fun _ => none) hqa11 rfl
  obtain ⟨S12, hS12⟩ : ∃ z, S6.nw qa11 37 8 (fun _ => 0) (fun _ => none) = z := ⟨_, rfl⟩
  have hP : va_P D vwCl (X ++ PL cy S12) H := by rw [← hS12, ← e9]; exact hP2
  have hD : va_D A (X ++ PL cy S12) := by rw [← hS12, ← e9]; exact hD2
  have xe13 : ext S6 S12 := by rw [← hS12]; exact ext.nw hqa11
  have t14 : stp ([] : List (Nat × Nat)) [o1] (o1 :: R) S S12 := by rw [← hS12]; exact t8.nwA hqa11 (by decide)
  have z15 : ∀ j9, S12.i qa1 j9 = 0 := by rw [← hS12]; exact fun j9 => (congrFun (up_nq (f := S6.i) (fun e9 : qa1 = qa11 => hqa11 (e9 ▸ (xe7.A aqa1).1))) j9).trans (z9 j9)
  refine W.widen (k := 2) (n := 208) (Nat.le_of_ble_eq_true rfl) (Nat.le_of_ble_eq_true rfl) ?_
  have aqa11 : isA S12 qa11 37 := by rw [← hS12]; exact nw_A (by decide)
  have nqa11 : S12.n qa11 = 8 := by rw [← hS12]; exact nw_n
  obtain ⟨k16, gk16, hk16⟩ := wGt (cy := cy) X S12 ((xe7.tr xe13).A (xe3.A h_o1)).1 ((xe7.tr xe13).A (xe3.A h_o1)).2.1
  refine va_putF (D := D) (ci := 14) (v := .ref qa11) (ty := (tyX10 6)) (C := RX10) (T := TX10) (N := 23) hx hb hts hi_X10_init_X10 tyX10 tyX10_ok nmX10 hown hK hP hD hS k16 hk16 rfl 6 (by decide) (hts (.fieldLink RX10 15 "HobhouseModel$Gear" "route" "[C") (by decide +kernel)) (fun _ h9 => h9) rfl hin rfl (by decide +kernel) (rfl) (rfl) (Nat.le_of_ble_eq_true rfl) dX10_init_18 (fun H locs hP2 hD2 hS => ?_)
  have e9 := wPuF (cy := cy) (j := 6) (v := (some qa11)) hD ((xe7.tr xe13).A (xe3.A h_o1)).1 ((xe7.tr xe13).A (xe3.A h_o1)).2.1 gk16 rfl
  obtain ⟨S17, hS17⟩ : ∃ z, S12.sF o1 6 (some qa11) = z := ⟨_, rfl⟩
  have hP : va_P D vwCl (X ++ PL cy S17) H := by rw [← hS17, ← e9]; exact hP2
  have hD : va_D A (X ++ PL cy S17) := by rw [← hS17, ← e9]; exact hD2
  have xe18 : ext S12 S17 := by rw [← hS17]; exact ext.sF (by rw [← hS12, nw_Fo hqa11 ((xe3.tr xe7).A h_o1).1]; rw [← hS6, sF_ne (fun q9 => absurd q9.2 (by decide))]; rw [← hS2, nw_Fo hqa1 h_o1.1]; exact hF0 6)
  have t19 : stp ([] : List (Nat × Nat)) [o1] (o1 :: R) S S17 := by rw [← hS17]; exact t14.F 6 qa11 List.mem_cons_self (Or.inl List.mem_cons_self) (by rw [← hS12, nw_Fo hqa11 ((xe3.tr xe7).A h_o1).1]; rw [← hS6, sF_ne (fun q9 => absurd q9.2 (by decide))]; rw [← hS2, nw_Fo hqa1 h_o1.1]; exact hF0 6)
  have z20 : ∀ j9, S17.i qa1 j9 = 0 := by rw [← hS17]; exact z15
  have F21 : S17.F o1 6 = some qa11 := by rw [← hS17]; exact sF_eq
  refine lv_aload_n hx hb dX10_init_21 rfl (lv_at hl 0 rfl) ?_
  refine lv_iconst (v := -1) hx hb dX10_init_22 (by decide) ?_
  obtain ⟨k22, gk22, hk22⟩ := wGt (cy := cy) X S17 (xe18.A ((xe7.tr xe13).A (xe3.A h_o1))).1 (xe18.A ((xe7.tr xe13).A (xe3.A h_o1))).2.1
  refine va_put (D := D) (ci := 14) (v := .int (-1 : Int32)) (ty := .int) (C := RX10) (T := TX10) (N := 23) hx hb hts hi_X10_init_X10 tyX10 tyX10_ok nmX10 hown hK hP hD hS k22 hk22 rfl 8 (by decide) (hts (.fieldLink RX10 19 "HobhouseModel$Gear" "room" "I") (by decide +kernel)) (fun _ h9 => h9) rfl (by decide +kernel) (rfl) (rfl) (Nat.le_of_ble_eq_true rfl) dX10_init_23 (fun H locs hP2 hD2 hS => ?_)
  have e9 := wPuI (cy := cy) (j := 8) (v := (-1 : Int32)) hD (xe18.A ((xe7.tr xe13).A (xe3.A h_o1))).1 (xe18.A ((xe7.tr xe13).A (xe3.A h_o1))).2.1 gk22 rfl
  obtain ⟨S23, hS23⟩ : ∃ z, S17.sI o1 8 (-1 : Int32) = z := ⟨_, rfl⟩
  have hP : va_P D vwCl (X ++ PL cy S23) H := by rw [← hS23, ← e9]; exact hP2
  have hD : va_D A (X ++ PL cy S23) := by rw [← hS23, ← e9]; exact hD2
  have xe24 : ext S17 S23 := by rw [← hS23]; exact ext.sI _ _ _ _
  have t25 : stp ([] : List (Nat × Nat)) [o1] (o1 :: R) S S23 := by rw [← hS23]; exact t19.Ir 8 (-1 : Int32) List.mem_cons_self (Or.inl List.mem_cons_self)
  have z26 : ∀ j9, S23.i qa1 j9 = 0 := by rw [← hS23]; exact z20
  refine lv_aload_n hx hb dX10_init_26 rfl (lv_at hl 0 rfl) ?_
  refine lv_iconst (v := -1) hx hb dX10_init_27 (by decide) ?_
  obtain ⟨k27, gk27, hk27⟩ := wGt (cy := cy) X S23 (xe24.A (xe18.A ((xe7.tr xe13).A (xe3.A h_o1)))).1 (xe24.A (xe18.A ((xe7.tr xe13).A (xe3.A h_o1)))).2.1
  refine va_put (D := D) (ci := 14) (v := .int (-1 : Int32)) (ty := .int) (C := RX10) (T := TX10) (N := 23) hx hb hts hi_X10_init_X10 tyX10 tyX10_ok nmX10 hown hK hP hD hS k27 hk27 rfl 16 (by decide) (hts (.fieldLink RX10 23 "HobhouseModel$Gear" "mate" "I") (by decide +kernel)) (fun _ h9 => h9) rfl (by decide +kernel) (rfl) (rfl) (Nat.le_of_ble_eq_true rfl) dX10_init_28 (fun H locs hP2 hD2 hS => ?_)
  have e9 := wPuI (cy := cy) (j := 16) (v := (-1 : Int32)) hD (xe24.A (xe18.A ((xe7.tr xe13).A (xe3.A h_o1)))).1 (xe24.A (xe18.A ((xe7.tr xe13).A (xe3.A h_o1)))).2.1 gk27 rfl
  obtain ⟨S28, hS28⟩ : ∃ z, S23.sI o1 16 (-1 : Int32) = z := ⟨_, rfl⟩
  have hP : va_P D vwCl (X ++ PL cy S28) H := by rw [← hS28, ← e9]; exact hP2
  have hD : va_D A (X ++ PL cy S28) := by rw [← hS28, ← e9]; exact hD2
  have xe29 : ext S23 S28 := by rw [← hS28]; exact ext.sI _ _ _ _
  have t30 : stp ([] : List (Nat × Nat)) [o1] (o1 :: R) S S28 := by rw [← hS28]; exact t25.Ir 16 (-1 : Int32) List.mem_cons_self (Or.inl List.mem_cons_self)
  have z31 : ∀ j9, S28.i qa1 j9 = 0 := by rw [← hS28]; exact z26
  refine lv_aload_n hx hb dX10_init_31 rfl (lv_at hl 0 rfl) ?_
  refine lv_iload_n hx hb dX10_init_32 rfl (lv_at hl 1 rfl) ?_
  obtain ⟨k32, gk32, hk32⟩ := wGt (cy := cy) X S28 (xe29.A (xe24.A (xe18.A ((xe7.tr xe13).A (xe3.A h_o1))))).1 (xe29.A (xe24.A (xe18.A ((xe7.tr xe13).A (xe3.A h_o1))))).2.1
  refine va_putF (D := D) (ci := 14) (v := .int x1) (ty := .int) (C := RX10) (T := TX10) (N := 23) hx hb hts hi_X10_init_X10 tyX10 tyX10_ok nmX10 hown hK hP hD hS k32 hk32 rfl 0 (by decide) (hts (.fieldLink RX10 26 "HobhouseModel$Gear" "number" "I") (by decide +kernel)) (fun _ h9 => h9) rfl hin rfl (by decide +kernel) (rfl) (rfl) (Nat.le_of_ble_eq_true rfl) dX10_init_33 (fun H locs hP2 hD2 hS => ?_)
  have e9 := wPuI (cy := cy) (j := 0) (v := x1) hD (xe29.A (xe24.A (xe18.A ((xe7.tr xe13).A (xe3.A h_o1))))).1 (xe29.A (xe24.A (xe18.A ((xe7.tr xe13).A (xe3.A h_o1))))).2.1 gk32 rfl
  obtain ⟨S33, hS33⟩ : ∃ z, S28.sI o1 0 x1 = z := ⟨_, rfl⟩
  have hP : va_P D vwCl (X ++ PL cy S33) H := by rw [← hS33, ← e9]; exact hP2
  have hD : va_D A (X ++ PL cy S33) := by rw [← hS33, ← e9]; exact hD2
  have xe34 : ext S28 S33 := by rw [← hS33]; exact ext.sI _ _ _ _
  have t35 : stp ([] : List (Nat × Nat)) [o1] (o1 :: R) S S33 := by rw [← hS33]; exact t30.Ir 0 x1 List.mem_cons_self (Or.inl List.mem_cons_self)
  have z36 : ∀ j9, S33.i qa1 j9 = 0 := by rw [← hS33]; exact z31
  refine lv_aload_n hx hb dX10_init_36 rfl (lv_at hl 0 rfl) ?_
  refine lv_iload_n hx hb dX10_init_37 rfl (lv_at hl 2 rfl) ?_
  have o38 : isA S33 o1 10 := (xe34.A (xe29.A (xe24.A (xe18.A ((xe7.tr xe13).A (xe3.A h_o1))))))
  obtain ⟨k37, gk37, hk37⟩ := wGt (cy := cy) X S33 o38.1 o38.2.1
  refine va_putF (D := D) (ci := 14) (v := .int x2) (ty := .int) (C := RX10) (T := TX10) (N := 23) hx hb hts hi_X10_init_X10 tyX10 tyX10_ok nmX10 hown hK hP hD hS k37 hk37 rfl 1 (by decide) (hts (.fieldLink RX10 29 "HobhouseModel$Gear" "teeth" "I") (by decide +kernel)) (fun _ h9 => h9) rfl hin rfl (by decide +kernel) (rfl) (rfl) (Nat.le_of_ble_eq_true rfl) dX10_init_38 (fun H locs hP2 hD2 hS => ?_)
  have e9 := wPuI (cy := cy) (j := 1) (v := x2) hD o38.1 o38.2.1 gk37 rfl
  obtain ⟨S39, hS39⟩ : ∃ z, S33.sI o1 1 x2 = z := ⟨_, rfl⟩
  have hP : va_P D vwCl (X ++ PL cy S39) H := by rw [← hS39, ← e9]; exact hP2
  have hD : va_D A (X ++ PL cy S39) := by rw [← hS39, ← e9]; exact hD2
  have xe40 : ext S33 S39 := by rw [← hS39]; exact ext.sI _ _ _ _
  have t41 : stp ([] : List (Nat × Nat)) [o1] (o1 :: R) S S39 := by rw [← hS39]; exact t35.Ir 1 x2 List.mem_cons_self (Or.inl List.mem_cons_self)
  have z42 : ∀ j9, S39.i qa1 j9 = 0 := by rw [← hS39]; exact z36
  refine lv_aload_n hx hb dX10_init_41 rfl (lv_at hl 0 rfl) ?_
  refine lv_iload_n hx hb dX10_init_42 rfl (lv_at hl 3 rfl) ?_
  obtain ⟨k43, gk43, hk43⟩ := wGt (cy := cy) X S39 (xe40.A o38).1 (xe40.A o38).2.1
  refine va_putF (D := D) (ci := 14) (v := .int x3) (ty := .int) (C := RX10) (T := TX10) (N := 23) hx hb hts hi_X10_init_X10 tyX10 tyX10_ok nmX10 hown hK hP hD hS k43 hk43 rfl 2 (by decide) (hts (.fieldLink RX10 32 "HobhouseModel$Gear" "module" "I") (by decide +kernel)) (fun _ h9 => h9) rfl hin rfl (by decide +kernel) (rfl) (rfl) (Nat.le_of_ble_eq_true rfl) dX10_init_43 (fun H locs hP2 hD2 hS => ?_)
  have e9 := wPuI (cy := cy) (j := 2) (v := x3) hD (xe40.A o38).1 (xe40.A o38).2.1 gk43 rfl
  obtain ⟨S44, hS44⟩ : ∃ z, S39.sI o1 2 x3 = z := ⟨_, rfl⟩
  have hP : va_P D vwCl (X ++ PL cy S44) H := by rw [← hS44, ← e9]; exact hP2
  have hD : va_D A (X ++ PL cy S44) := by rw [← hS44, ← e9]; exact hD2
  have xe45 : ext S39 S44 := by rw [← hS44]; exact ext.sI _ _ _ _
  have t46 : stp ([] : List (Nat × Nat)) [o1] (o1 :: R) S S44 := by rw [← hS44]; exact t41.Ir 2 x3 List.mem_cons_self (Or.inl List.mem_cons_self)
  have z47 : ∀ j9, S44.i qa1 j9 = 0 := by rw [← hS44]; exact z42
  refine lv_aload_n hx hb dX10_init_46 rfl (lv_at hl 0 rfl) ?_
  refine lv_iload hx hb dX10_init_47 (lv_at hl 4 rfl) ?_
  obtain ⟨k48, gk48, hk48⟩ := wGt (cy := cy) X S44 (xe45.A (xe40.A o38)).1 (xe45.A (xe40.A o38)).2.1
  refine va_putF (D := D) (ci := 14) (v := .int x4) (ty := .int) (C := RX10) (T := TX10) (N := 23) hx hb hts hi_X10_init_X10 tyX10 tyX10_ok nmX10 hown hK hP hD hS k48 hk48 rfl 3 (by decide) (hts (.fieldLink RX10 35 "HobhouseModel$Gear" "helix" "I") (by decide +kernel)) (fun _ h9 => h9) rfl hin rfl (by decide +kernel) (rfl) (rfl) (Nat.le_of_ble_eq_true rfl) dX10_init_49 (fun H locs hP2 hD2 hS => ?_)
  have e9 := wPuI (cy := cy) (j := 3) (v := x4) hD (xe45.A (xe40.A o38)).1 (xe45.A (xe40.A o38)).2.1 gk48 rfl
  obtain ⟨S49, hS49⟩ : ∃ z, S44.sI o1 3 x4 = z := ⟨_, rfl⟩
  have hP : va_P D vwCl (X ++ PL cy S49) H := by rw [← hS49, ← e9]; exact hP2
  have hD : va_D A (X ++ PL cy S49) := by rw [← hS49, ← e9]; exact hD2
  have xe50 : ext S44 S49 := by rw [← hS49]; exact ext.sI _ _ _ _
  have t51 : stp ([] : List (Nat × Nat)) [o1] (o1 :: R) S S49 := by rw [← hS49]; exact t46.Ir 3 x4 List.mem_cons_self (Or.inl List.mem_cons_self)
  have z52 : ∀ j9, S49.i qa1 j9 = 0 := by rw [← hS49]; exact z47
  refine lv_aload_n hx hb dX10_init_52 rfl (lv_at hl 0 rfl) ?_
  refine lv_iload hx hb dX10_init_53 (lv_at hl 5 rfl) ?_
  obtain ⟨k53, gk53, hk53⟩ := wGt (cy := cy) X S49 (xe50.A (xe45.A (xe40.A o38))).1 (xe50.A (xe45.A (xe40.A o38))).2.1
  refine va_putF (D := D) (ci := 14) (v := .int x5) (ty := .int) (C := RX10) (T := TX10) (N := 23) hx hb hts hi_X10_init_X10 tyX10 tyX10_ok nmX10 hown hK hP hD hS k53 hk53 rfl 4 (by decide) (hts (.fieldLink RX10 38 "HobhouseModel$Gear" "width" "I") (by decide +kernel)) (fun _ h9 => h9) rfl hin rfl (by decide +kernel) (rfl) (rfl) (Nat.le_of_ble_eq_true rfl) dX10_init_55 (fun H locs hP2 hD2 hS => ?_)
  have e9 := wPuI (cy := cy) (j := 4) (v := x5) hD (xe50.A (xe45.A (xe40.A o38))).1 (xe50.A (xe45.A (xe40.A o38))).2.1 gk53 rfl
  obtain ⟨S54, hS54⟩ : ∃ z, S49.sI o1 4 x5 = z := ⟨_, rfl⟩
  have hP : va_P D vwCl (X ++ PL cy S54) H := by rw [← hS54, ← e9]; exact hP2
  have hD : va_D A (X ++ PL cy S54) := by rw [← hS54, ← e9]; exact hD2
  have xe55 : ext S49 S54 := by rw [← hS54]; exact ext.sI _ _ _ _
  have t56 : stp ([] : List (Nat × Nat)) [o1] (o1 :: R) S S54 := by rw [← hS54]; exact t51.Ir 4 x5 List.mem_cons_self (Or.inl List.mem_cons_self)
  have z57 : ∀ j9, S54.i qa1 j9 = 0 := by rw [← hS54]; exact z52
  have oo : isA S54 o1 10 := (xe55.A (xe50.A (xe45.A (xe40.A o38))))
  have I0 : S54.I o1 0 = x1 := (by rw [← hS54, sI_I (by rintro ⟨e1, e2⟩; exact absurd e2 (by decide))]; rw [← hS49, sI_I (by rintro ⟨e1, e2⟩; exact absurd e2 (by decide))]; rw [← hS44, sI_I (by rintro ⟨e1, e2⟩; exact absurd e2 (by decide))]; rw [← hS39, sI_I (by rintro ⟨e1, e2⟩; exact absurd e2 (by decide))]; rw [← hS33, sI_eq])
  have I1 : S54.I o1 1 = x2 := (by rw [← hS54, sI_I (by rintro ⟨e1, e2⟩; exact absurd e2 (by decide))]; rw [← hS49, sI_I (by rintro ⟨e1, e2⟩; exact absurd e2 (by decide))]; rw [← hS44, sI_I (by rintro ⟨e1, e2⟩; exact absurd e2 (by decide))]; rw [← hS39, sI_eq])
  have I2 : S54.I o1 2 = x3 := (by rw [← hS54, sI_I (by rintro ⟨e1, e2⟩; exact absurd e2 (by decide))]; rw [← hS49, sI_I (by rintro ⟨e1, e2⟩; exact absurd e2 (by decide))]; rw [← hS44, sI_eq])
  have I3 : S54.I o1 3 = x4 := (by rw [← hS54, sI_I (by rintro ⟨e1, e2⟩; exact absurd e2 (by decide))]; rw [← hS49, sI_eq])
  have I4 : S54.I o1 4 = x5 := (by rw [← hS54, sI_eq])
  have I7 : S54.I o1 7 = (0 : Int32) := (by rw [← hS54, sI_I (by rintro ⟨e1, e2⟩; exact absurd e2 (by decide))]; rw [← hS49, sI_I (by rintro ⟨e1, e2⟩; exact absurd e2 (by decide))]; rw [← hS44, sI_I (by rintro ⟨e1, e2⟩; exact absurd e2 (by decide))]; rw [← hS39, sI_I (by rintro ⟨e1, e2⟩; exact absurd e2 (by decide))]; rw [← hS33, sI_I (by rintro ⟨e1, e2⟩; exact absurd e2 (by decide))]; rw [← hS28, sI_I (by rintro ⟨e1, e2⟩; exact absurd e2 (by decide))]; rw [← hS23, sI_I (by rintro ⟨e1, e2⟩; exact absurd e2 (by decide))]; rw [← hS17]; show S12.I o1 7 = _; rw [← hS12, nw_Io hqa11 ((xe3.tr xe7).A h_o1).1]; rw [← hS6]; show S2.I o1 7 = _; rw [← hS2, nw_Io hqa1 h_o1.1]; exact hI0 7)
  have I8 : S54.I o1 8 = (-1 : Int32) := (by rw [← hS54, sI_I (by rintro ⟨e1, e2⟩; exact absurd e2 (by decide))]; rw [← hS49, sI_I (by rintro ⟨e1, e2⟩; exact absurd e2 (by decide))]; rw [← hS44, sI_I (by rintro ⟨e1, e2⟩; exact absurd e2 (by decide))]; rw [← hS39, sI_I (by rintro ⟨e1, e2⟩; exact absurd e2 (by decide))]; rw [← hS33, sI_I (by rintro ⟨e1, e2⟩; exact absurd e2 (by decide))]; rw [← hS28, sI_I (by rintro ⟨e1, e2⟩; exact absurd e2 (by decide))]; rw [← hS23, sI_eq])
  have I9 : S54.I o1 9 = (0 : Int32) := (by rw [← hS54, sI_I (by rintro ⟨e1, e2⟩; exact absurd e2 (by decide))]; rw [← hS49, sI_I (by rintro ⟨e1, e2⟩; exact absurd e2 (by decide))]; rw [← hS44, sI_I (by rintro ⟨e1, e2⟩; exact absurd e2 (by decide))]; rw [← hS39, sI_I (by rintro ⟨e1, e2⟩; exact absurd e2 (by decide))]; rw [← hS33, sI_I (by rintro ⟨e1, e2⟩; exact absurd e2 (by decide))]; rw [← hS28, sI_I (by rintro ⟨e1, e2⟩; exact absurd e2 (by decide))]; rw [← hS23, sI_I (by rintro ⟨e1, e2⟩; exact absurd e2 (by decide))]; rw [← hS17]; show S12.I o1 9 = _; rw [← hS12, nw_Io hqa11 ((xe3.tr xe7).A h_o1).1]; rw [← hS6]; show S2.I o1 9 = _; rw [← hS2, nw_Io hqa1 h_o1.1]; exact hI0 9)
  have I10 : S54.I o1 10 = (0 : Int32) := (by rw [← hS54, sI_I (by rintro ⟨e1, e2⟩; exact absurd e2 (by decide))]; rw [← hS49, sI_I (by rintro ⟨e1, e2⟩; exact absurd e2 (by decide))]; rw [← hS44, sI_I (by rintro ⟨e1, e2⟩; exact absurd e2 (by decide))]; rw [← hS39, sI_I (by rintro ⟨e1, e2⟩; exact absurd e2 (by decide))]; rw [← hS33, sI_I (by rintro ⟨e1, e2⟩; exact absurd e2 (by decide))]; rw [← hS28, sI_I (by rintro ⟨e1, e2⟩; exact absurd e2 (by decide))]; rw [← hS23, sI_I (by rintro ⟨e1, e2⟩; exact absurd e2 (by decide))]; rw [← hS17]; show S12.I o1 10 = _; rw [← hS12, nw_Io hqa11 ((xe3.tr xe7).A h_o1).1]; rw [← hS6]; show S2.I o1 10 = _; rw [← hS2, nw_Io hqa1 h_o1.1]; exact hI0 10)
  have I11 : S54.I o1 11 = (0 : Int32) := (by rw [← hS54, sI_I (by rintro ⟨e1, e2⟩; exact absurd e2 (by decide))]; rw [← hS49, sI_I (by rintro ⟨e1, e2⟩; exact absurd e2 (by decide))]; rw [← hS44, sI_I (by rintro ⟨e1, e2⟩; exact absurd e2 (by decide))]; rw [← hS39, sI_I (by rintro ⟨e1, e2⟩; exact absurd e2 (by decide))]; rw [← hS33, sI_I (by rintro ⟨e1, e2⟩; exact absurd e2 (by decide))]; rw [← hS28, sI_I (by rintro ⟨e1, e2⟩; exact absurd e2 (by decide))]; rw [← hS23, sI_I (by rintro ⟨e1, e2⟩; exact absurd e2 (by decide))]; rw [← hS17]; show S12.I o1 11 = _; rw [← hS12, nw_Io hqa11 ((xe3.tr xe7).A h_o1).1]; rw [← hS6]; show S2.I o1 11 = _; rw [← hS2, nw_Io hqa1 h_o1.1]; exact hI0 11)
  have I12 : S54.I o1 12 = (0 : Int32) := (by rw [← hS54, sI_I (by rintro ⟨e1, e2⟩; exact absurd e2 (by decide))]; rw [← hS49, sI_I (by rintro ⟨e1, e2⟩; exact absurd e2 (by decide))]; rw [← hS44, sI_I (by rintro ⟨e1, e2⟩; exact absurd e2 (by decide))]; rw [← hS39, sI_I (by rintro ⟨e1, e2⟩; exact absurd e2 (by decide))]; rw [← hS33, sI_I (by rintro ⟨e1, e2⟩; exact absurd e2 (by decide))]; rw [← hS28, sI_I (by rintro ⟨e1, e2⟩; exact absurd e2 (by decide))]; rw [← hS23, sI_I (by rintro ⟨e1, e2⟩; exact absurd e2 (by decide))]; rw [← hS17]; show S12.I o1 12 = _; rw [← hS12, nw_Io hqa11 ((xe3.tr xe7).A h_o1).1]; rw [← hS6]; show S2.I o1 12 = _; rw [← hS2, nw_Io hqa1 h_o1.1]; exact hI0 12)
  have I13 : S54.I o1 13 = (0 : Int32) := (by rw [← hS54, sI_I (by rintro ⟨e1, e2⟩; exact absurd e2 (by decide))]; rw [← hS49, sI_I (by rintro ⟨e1, e2⟩; exact absurd e2 (by decide))]; rw [← hS44, sI_I (by rintro ⟨e1, e2⟩; exact absurd e2 (by decide))]; rw [← hS39, sI_I (by rintro ⟨e1, e2⟩; exact absurd e2 (by decide))]; rw [← hS33, sI_I (by rintro ⟨e1, e2⟩; exact absurd e2 (by decide))]; rw [← hS28, sI_I (by rintro ⟨e1, e2⟩; exact absurd e2 (by decide))]; rw [← hS23, sI_I (by rintro ⟨e1, e2⟩; exact absurd e2 (by decide))]; rw [← hS17]; show S12.I o1 13 = _; rw [← hS12, nw_Io hqa11 ((xe3.tr xe7).A h_o1).1]; rw [← hS6]; show S2.I o1 13 = _; rw [← hS2, nw_Io hqa1 h_o1.1]; exact hI0 13)
  have I14 : S54.I o1 14 = (0 : Int32) := (by rw [← hS54, sI_I (by rintro ⟨e1, e2⟩; exact absurd e2 (by decide))]; rw [← hS49, sI_I (by rintro ⟨e1, e2⟩; exact absurd e2 (by decide))]; rw [← hS44, sI_I (by rintro ⟨e1, e2⟩; exact absurd e2 (by decide))]; rw [← hS39, sI_I (by rintro ⟨e1, e2⟩; exact absurd e2 (by decide))]; rw [← hS33, sI_I (by rintro ⟨e1, e2⟩; exact absurd e2 (by decide))]; rw [← hS28, sI_I (by rintro ⟨e1, e2⟩; exact absurd e2 (by decide))]; rw [← hS23, sI_I (by rintro ⟨e1, e2⟩; exact absurd e2 (by decide))]; rw [← hS17]; show S12.I o1 14 = _; rw [← hS12, nw_Io hqa11 ((xe3.tr xe7).A h_o1).1]; rw [← hS6]; show S2.I o1 14 = _; rw [← hS2, nw_Io hqa1 h_o1.1]; exact hI0 14)
  have I15 : S54.I o1 15 = (0 : Int32) := (by rw [← hS54, sI_I (by rintro ⟨e1, e2⟩; exact absurd e2 (by decide))]; rw [← hS49, sI_I (by rintro ⟨e1, e2⟩; exact absurd e2 (by decide))]; rw [← hS44, sI_I (by rintro ⟨e1, e2⟩; exact absurd e2 (by decide))]; rw [← hS39, sI_I (by rintro ⟨e1, e2⟩; exact absurd e2 (by decide))]; rw [← hS33, sI_I (by rintro ⟨e1, e2⟩; exact absurd e2 (by decide))]; rw [← hS28, sI_I (by rintro ⟨e1, e2⟩; exact absurd e2 (by decide))]; rw [← hS23, sI_I (by rintro ⟨e1, e2⟩; exact absurd e2 (by decide))]; rw [← hS17]; show S12.I o1 15 = _; rw [← hS12, nw_Io hqa11 ((xe3.tr xe7).A h_o1).1]; rw [← hS6]; show S2.I o1 15 = _; rw [← hS2, nw_Io hqa1 h_o1.1]; exact hI0 15)
  have I16 : S54.I o1 16 = (-1 : Int32) := (by rw [← hS54, sI_I (by rintro ⟨e1, e2⟩; exact absurd e2 (by decide))]; rw [← hS49, sI_I (by rintro ⟨e1, e2⟩; exact absurd e2 (by decide))]; rw [← hS44, sI_I (by rintro ⟨e1, e2⟩; exact absurd e2 (by decide))]; rw [← hS39, sI_I (by rintro ⟨e1, e2⟩; exact absurd e2 (by decide))]; rw [← hS33, sI_I (by rintro ⟨e1, e2⟩; exact absurd e2 (by decide))]; rw [← hS28, sI_eq])
  have I17 : S54.I o1 17 = (0 : Int32) := (by rw [← hS54, sI_I (by rintro ⟨e1, e2⟩; exact absurd e2 (by decide))]; rw [← hS49, sI_I (by rintro ⟨e1, e2⟩; exact absurd e2 (by decide))]; rw [← hS44, sI_I (by rintro ⟨e1, e2⟩; exact absurd e2 (by decide))]; rw [← hS39, sI_I (by rintro ⟨e1, e2⟩; exact absurd e2 (by decide))]; rw [← hS33, sI_I (by rintro ⟨e1, e2⟩; exact absurd e2 (by decide))]; rw [← hS28, sI_I (by rintro ⟨e1, e2⟩; exact absurd e2 (by decide))]; rw [← hS23, sI_I (by rintro ⟨e1, e2⟩; exact absurd e2 (by decide))]; rw [← hS17]; show S12.I o1 17 = _; rw [← hS12, nw_Io hqa11 ((xe3.tr xe7).A h_o1).1]; rw [← hS6]; show S2.I o1 17 = _; rw [← hS2, nw_Io hqa1 h_o1.1]; exact hI0 17)
  have I18 : S54.I o1 18 = (0 : Int32) := (by rw [← hS54, sI_I (by rintro ⟨e1, e2⟩; exact absurd e2 (by decide))]; rw [← hS49, sI_I (by rintro ⟨e1, e2⟩; exact absurd e2 (by decide))]; rw [← hS44, sI_I (by rintro ⟨e1, e2⟩; exact absurd e2 (by decide))]; rw [← hS39, sI_I (by rintro ⟨e1, e2⟩; exact absurd e2 (by decide))]; rw [← hS33, sI_I (by rintro ⟨e1, e2⟩; exact absurd e2 (by decide))]; rw [← hS28, sI_I (by rintro ⟨e1, e2⟩; exact absurd e2 (by decide))]; rw [← hS23, sI_I (by rintro ⟨e1, e2⟩; exact absurd e2 (by decide))]; rw [← hS17]; show S12.I o1 18 = _; rw [← hS12, nw_Io hqa11 ((xe3.tr xe7).A h_o1).1]; rw [← hS6]; show S2.I o1 18 = _; rw [← hS2, nw_Io hqa1 h_o1.1]; exact hI0 18)
  have I19 : S54.I o1 19 = (0 : Int32) := (by rw [← hS54, sI_I (by rintro ⟨e1, e2⟩; exact absurd e2 (by decide))]; rw [← hS49, sI_I (by rintro ⟨e1, e2⟩; exact absurd e2 (by decide))]; rw [← hS44, sI_I (by rintro ⟨e1, e2⟩; exact absurd e2 (by decide))]; rw [← hS39, sI_I (by rintro ⟨e1, e2⟩; exact absurd e2 (by decide))]; rw [← hS33, sI_I (by rintro ⟨e1, e2⟩; exact absurd e2 (by decide))]; rw [← hS28, sI_I (by rintro ⟨e1, e2⟩; exact absurd e2 (by decide))]; rw [← hS23, sI_I (by rintro ⟨e1, e2⟩; exact absurd e2 (by decide))]; rw [← hS17]; show S12.I o1 19 = _; rw [← hS12, nw_Io hqa11 ((xe3.tr xe7).A h_o1).1]; rw [← hS6]; show S2.I o1 19 = _; rw [← hS2, nw_Io hqa1 h_o1.1]; exact hI0 19)
  have I20 : S54.I o1 20 = (0 : Int32) := (by rw [← hS54, sI_I (by rintro ⟨e1, e2⟩; exact absurd e2 (by decide))]; rw [← hS49, sI_I (by rintro ⟨e1, e2⟩; exact absurd e2 (by decide))]; rw [← hS44, sI_I (by rintro ⟨e1, e2⟩; exact absurd e2 (by decide))]; rw [← hS39, sI_I (by rintro ⟨e1, e2⟩; exact absurd e2 (by decide))]; rw [← hS33, sI_I (by rintro ⟨e1, e2⟩; exact absurd e2 (by decide))]; rw [← hS28, sI_I (by rintro ⟨e1, e2⟩; exact absurd e2 (by decide))]; rw [← hS23, sI_I (by rintro ⟨e1, e2⟩; exact absurd e2 (by decide))]; rw [← hS17]; show S12.I o1 20 = _; rw [← hS12, nw_Io hqa11 ((xe3.tr xe7).A h_o1).1]; rw [← hS6]; show S2.I o1 20 = _; rw [← hS2, nw_Io hqa1 h_o1.1]; exact hI0 20)
  have I21 : S54.I o1 21 = (0 : Int32) := (by rw [← hS54, sI_I (by rintro ⟨e1, e2⟩; exact absurd e2 (by decide))]; rw [← hS49, sI_I (by rintro ⟨e1, e2⟩; exact absurd e2 (by decide))]; rw [← hS44, sI_I (by rintro ⟨e1, e2⟩; exact absurd e2 (by decide))]; rw [← hS39, sI_I (by rintro ⟨e1, e2⟩; exact absurd e2 (by decide))]; rw [← hS33, sI_I (by rintro ⟨e1, e2⟩; exact absurd e2 (by decide))]; rw [← hS28, sI_I (by rintro ⟨e1, e2⟩; exact absurd e2 (by decide))]; rw [← hS23, sI_I (by rintro ⟨e1, e2⟩; exact absurd e2 (by decide))]; rw [← hS17]; show S12.I o1 21 = _; rw [← hS12, nw_Io hqa11 ((xe3.tr xe7).A h_o1).1]; rw [← hS6]; show S2.I o1 21 = _; rw [← hS2, nw_Io hqa1 h_o1.1]; exact hI0 21)
  have tt : stp ([] : List (Nat × Nat)) [o1] R S S54 := t56.un (okAt.of_10 oo.2.1 ⟨(by rw [f_of ((xe13.tr (xe18.tr (xe24.tr (xe29.tr (xe34.tr (xe40.tr (xe45.tr (xe50.tr xe55)))))))).F ((xe3.tr xe7).A h_o1) (by decide) F10)]; exact ⟨((xe13.tr (xe18.tr (xe24.tr (xe29.tr (xe34.tr (xe40.tr (xe45.tr (xe50.tr xe55)))))))).F ((xe3.tr xe7).A h_o1) (by decide) F10), ((xe7.tr (xe13.tr (xe18.tr (xe24.tr (xe29.tr (xe34.tr (xe40.tr (xe45.tr (xe50.tr xe55))))))))).A aqa1), (((xe7.tr (xe13.tr (xe18.tr (xe24.tr (xe29.tr (xe34.tr (xe40.tr (xe45.tr (xe50.tr xe55))))))))).n aqa1).trans nqa1)⟩), (by rw [f_of ((xe24.tr (xe29.tr (xe34.tr (xe40.tr (xe45.tr (xe50.tr xe55)))))).F ((xe3.tr (xe7.tr (xe13.tr xe18))).A h_o1) (by decide) F21)]; exact ⟨((xe24.tr (xe29.tr (xe34.tr (xe40.tr (xe45.tr (xe50.tr xe55)))))).F ((xe3.tr (xe7.tr (xe13.tr xe18))).A h_o1) (by decide) F21), ((xe18.tr (xe24.tr (xe29.tr (xe34.tr (xe40.tr (xe45.tr (xe50.tr xe55))))))).A aqa11), (((xe18.tr (xe24.tr (xe29.tr (xe34.tr (xe40.tr (xe45.tr (xe50.tr xe55))))))).n aqa11).trans nqa11)⟩), (by rw [I1]; exact ⟨by omega, by omega⟩), (by rw [I2]; exact ⟨by omega, by omega⟩), (by rw [I3]; exact ⟨by omega, by omega⟩), (by rw [I4]; exact ⟨by omega, by omega⟩), (by rw [I17]; exact ⟨by decide, by decide⟩), (by rw [I18]; exact ⟨by decide, by decide⟩), (by rw [I19]; exact ⟨by decide, by decide⟩), (by rw [I20]; exact ⟨by decide, by decide⟩), (by rw [I21]; exact ⟨by decide, by decide⟩)⟩)
  refine W.widen (k := 2) (n := 208) (Nat.le_of_ble_eq_true rfl) (Nat.le_of_ble_eq_true rfl) ?_
  exact W.vret hx hb hr (fun t ht hW9 => ⟨⟨S54, rfl, ⟨tt, oo, I0, I1, I2, I3, I4, I7, I8, I9, I10, I11, I12, I13, I14, I15, I16, I17, I18, I19, I20, I21, (by rw [f_of ((xe13.tr (xe18.tr (xe24.tr (xe29.tr (xe34.tr (xe40.tr (xe45.tr (xe50.tr xe55)))))))).F ((xe3.tr xe7).A h_o1) (by decide) F10)]; exact hqa1), (by rw [f_of ((xe13.tr (xe18.tr (xe24.tr (xe29.tr (xe34.tr (xe40.tr (xe45.tr (xe50.tr xe55)))))))).F ((xe3.tr xe7).A h_o1) (by decide) F10)]; exact z57)⟩, wd_end hP hK hD ht hW9.alike⟩, hS.F ht⟩) hS.2.2 dX10_init_58 hlocks
theorem hi_X11_init_X11 : ∀ w ∈ u_ws RX11 TX11 7, w ∈ wsX11_init := by decide +kernel
set_option maxHeartbeats 4000000 in
set_option maxRecDepth 100000 in
theorem c_X11_init (l : Launch) {D : va_G} {cy : Nat → ClassId} {X : va_W} (S : wPS) (sz : Nat) (o1 : Nat) (h_o1 : isA S o1 11) (x1 : Int32) (x2 : Int32) (x3 : Int32) (x4 : Int32) (R : List Nat) (hW : wtB S (o1 :: R)) (hF0 : ∀ j, S.F o1 j = none) (hI0 : ∀ j, S.I o1 j = 0) (hr : (1 ≤ x2.toInt ∧ x2.toInt ≤ 4) ∧ 1 ≤ x4.toInt ∧ x4.toInt ≤ 20) : Met l yX11_init wsX11_init ({ frames := 1, cells := 1, slots := 20, locals := 12 }) (va_Pc [.ref o1, .int x1, .int x2, .int x3, .int x4] (fun U => U.heap.size = sz ∧ WD D cy X (fun _ => True) S U ∧ NW U)) (va_Qv (fun (u : wPS) => stp ([] : List (Nat × Nat)) [o1] R S u ∧ isA u o1 11 ∧ u.I o1 0 = x1 ∧ u.I o1 1 = x2 ∧ u.I o1 3 = x4 ∧ u.I o1 4 = x3 ∧ u.I o1 5 = (0 : Int32) ∧ u.I o1 6 = (0 : Int32)) (fun u t => WD D cy X (va_A (X ++ PL cy S) sz) u t) (va_A (X ++ PL cy S) sz)) 1 20 (va_A (X ++ PL cy S) sz) := by
  refine Met.ofW (cc := cX11_init) (maxL := 5) (ret := none) (by decide) rfl ?_
  intro p e s m args below meth c s₁ B hml hv
  obtain ⟨rfl, hsz, ⟨hP, hK, hD0⟩, hN⟩ := hv
  have hx := B.exec
  have hb := B.bytes
  have hr := B.returns
  have hts := atoms_spec (ws := wsX11_init) B.pre
  have hown : s.vm.findClass RX11 = some m.cls := findClass_of_methodNamed (x := yX11_init) B.named
  have hlocks := B.notSynchronized
  have hin : meth.name = "<init>" := (name_of_methodNamed B.named B.method).1
  subst hsz
  have hD := hD0.self (sz := s.heap.size)
  generalize hAe : va_A (X ++ PL cy S) s.heap.size = A at hD ⊢
  have hA : ∀ q : Nat, s.heap.size ≤ q → A q := fun q h => by rw [← hAe]; exact Or.inr h
  have hS : va_S A s.heap s.heap [] := va_S.rf
  have hl := lv_entry ([.ref o1, .int x1, .int x2, .int x3, .int x4]) (n := 5) (Nat.le_of_ble_eq_true rfl)
  rw [lg_entry_eq]
  generalize (lg_sl ([.ref o1, .int x1, .int x2, .int x3, .int x4]) ++ List.replicate (5 - (lg_sl ([.ref o1, .int x1, .int x2, .int x3, .int x4])).length) Slot.unset).toArray = ls at hl ⊢
  have hl : lv_has ls 5 [(0, .ref o1), (1, .int x1), (2, .int x2), (3, .int x3), (4, .int x4)] := hl
  have t0 : stp ([] : List (Nat × Nat)) [o1] (o1 :: R) S S := stp.rf hW
  refine lv_aload_n hx hb dX11_init_0 rfl (lv_at hl 0 rfl) ?_
  refine W.objInit hx hb hown (hts (.methodLink RX11 3 objectInit) (by decide +kernel)) (hts (.instanceMethod objectInit) (by decide +kernel)) (hts (.code objectInit ⟨#[0xb1]⟩ 1 none) (by decide +kernel)) rfl (by rw [hml]; exact hl.1) rfl dX11_init_1 (Nat.le_of_ble_eq_true rfl) (Nat.le_of_ble_eq_true rfl) ?_
  refine W.eq (g2 := F0 m 4 ls []) rfl ?_
  refine lv_aload_n hx hb dX11_init_4 rfl (lv_at hl 0 rfl) ?_
  refine lv_bipush (v := 20) hx hb dX11_init_5 (by decide +kernel) ?_
  refine va_newa (atype := .int) hx hb (hts (.arrayClass .int) (by decide +kernel)) (ty := .int) rfl hK hP hD hS hA (N' := 20) (a0 := (20, .inl (fun _ => 0))) (fun _ => rfl) (by decide) (by decide) (by decide) (Nat.le_of_ble_eq_true rfl) (Nat.le_of_ble_eq_true rfl) dX11_init_7 (fun qa1 cqa1 H hK2 hP2 hD2 hS => ?_)
  obtain rfl : cqa1 = cy 2 := cls_int hK hK2
  have hqa1 : qa1 ∉ S.L := nw_q hD2
  have e9 := wNw (cy := cy) (X := X) (S := S) (a := qa1) (k := 30) (z := 20) (f := fun _ => 0) (g := fun _ => none) hqa1 rfl
  obtain ⟨S2, hS2⟩ : ∃ z, S.nw qa1 30 20 (fun _ => 0) (fun _ => none) = z := ⟨_, rfl⟩
  have hP : va_P D vwCl (X ++ PL cy S2) H := by rw [← hS2, ← e9]; exact hP2
  have hD : va_D A (X ++ PL cy S2) := by rw [← hS2, ← e9]; exact hD2
  have xe3 : ext S S2 := by rw [← hS2]; exact ext.nw hqa1
  have t4 : stp ([] : List (Nat × Nat)) [o1] (o1 :: R) S S2 := by rw [← hS2]; exact t0.nwA hqa1 (by decide)
  refine W.widen (k := 1) (n := 20) (Nat.le_of_ble_eq_true rfl) (Nat.le_of_ble_eq_true rfl) ?_
  have aqa1 : isA S2 qa1 30 := by rw [← hS2]; exact nw_A (by decide)
  have nqa1 : S2.n qa1 = 20 := by rw [← hS2]; exact nw_n
  obtain ⟨k5, gk5, hk5⟩ := wGt (cy := cy) X S2 (xe3.A h_o1).1 (xe3.A h_o1).2.1
  refine va_putF (D := D) (ci := 15) (v := .ref qa1) (ty := (tyX11 2)) (C := RX11) (T := TX11) (N := 7) hx hb hts hi_X11_init_X11 tyX11 tyX11_ok nmX11 hown hK hP hD hS k5 hk5 rfl 2 (by decide) (hts (.fieldLink RX11 9 "HobhouseModel$Hob" "wear" "[I") (by decide +kernel)) (fun _ h9 => h9) rfl hin rfl (by decide +kernel) (rfl) (rfl) (Nat.le_of_ble_eq_true rfl) dX11_init_9 (fun H locs hP2 hD2 hS => ?_)
  have e9 := wPuF (cy := cy) (j := 2) (v := (some qa1)) hD (xe3.A h_o1).1 (xe3.A h_o1).2.1 gk5 rfl
  obtain ⟨S6, hS6⟩ : ∃ z, S2.sF o1 2 (some qa1) = z := ⟨_, rfl⟩
  have hP : va_P D vwCl (X ++ PL cy S6) H := by rw [← hS6, ← e9]; exact hP2
  have hD : va_D A (X ++ PL cy S6) := by rw [← hS6, ← e9]; exact hD2
  have xe7 : ext S2 S6 := by rw [← hS6]; exact ext.sF (by rw [← hS2, nw_Fo hqa1 h_o1.1]; exact hF0 2)
  have t8 : stp ([] : List (Nat × Nat)) [o1] (o1 :: R) S S6 := by rw [← hS6]; exact t4.F 2 qa1 List.mem_cons_self (Or.inl List.mem_cons_self) (by rw [← hS2, nw_Fo hqa1 h_o1.1]; exact hF0 2)
  have F9 : S6.F o1 2 = some qa1 := by rw [← hS6]; exact sF_eq
  refine lv_aload_n hx hb dX11_init_12 rfl (lv_at hl 0 rfl) ?_
  refine lv_iload_n hx hb dX11_init_13 rfl (lv_at hl 1 rfl) ?_
  obtain ⟨k10, gk10, hk10⟩ := wGt (cy := cy) X S6 (xe7.A (xe3.A h_o1)).1 (xe7.A (xe3.A h_o1)).2.1
  refine va_putF (D := D) (ci := 15) (v := .int x1) (ty := .int) (C := RX11) (T := TX11) (N := 7) hx hb hts hi_X11_init_X11 tyX11 tyX11_ok nmX11 hown hK hP hD hS k10 hk10 rfl 0 (by decide) (hts (.fieldLink RX11 15 "HobhouseModel$Hob" "module" "I") (by decide +kernel)) (fun _ h9 => h9) rfl hin rfl (by decide +kernel) (rfl) (rfl) (Nat.le_of_ble_eq_true rfl) dX11_init_14 (fun H locs hP2 hD2 hS => ?_)
  have e9 := wPuI (cy := cy) (j := 0) (v := x1) hD (xe7.A (xe3.A h_o1)).1 (xe7.A (xe3.A h_o1)).2.1 gk10 rfl
  obtain ⟨S11, hS11⟩ : ∃ z, S6.sI o1 0 x1 = z := ⟨_, rfl⟩
  have hP : va_P D vwCl (X ++ PL cy S11) H := by rw [← hS11, ← e9]; exact hP2
  have hD : va_D A (X ++ PL cy S11) := by rw [← hS11, ← e9]; exact hD2
  have xe12 : ext S6 S11 := by rw [← hS11]; exact ext.sI _ _ _ _
  have t13 : stp ([] : List (Nat × Nat)) [o1] (o1 :: R) S S11 := by rw [← hS11]; exact t8.Ir 0 x1 List.mem_cons_self (Or.inl List.mem_cons_self)
  refine lv_aload_n hx hb dX11_init_17 rfl (lv_at hl 0 rfl) ?_
  refine lv_iload_n hx hb dX11_init_18 rfl (lv_at hl 2 rfl) ?_
  obtain ⟨k14, gk14, hk14⟩ := wGt (cy := cy) X S11 (xe12.A (xe7.A (xe3.A h_o1))).1 (xe12.A (xe7.A (xe3.A h_o1))).2.1
  refine va_putF (D := D) (ci := 15) (v := .int x2) (ty := .int) (C := RX11) (T := TX11) (N := 7) hx hb hts hi_X11_init_X11 tyX11 tyX11_ok nmX11 hown hK hP hD hS k14 hk14 rfl 1 (by decide) (hts (.fieldLink RX11 19 "HobhouseModel$Hob" "starts" "I") (by decide +kernel)) (fun _ h9 => h9) rfl hin rfl (by decide +kernel) (rfl) (rfl) (Nat.le_of_ble_eq_true rfl) dX11_init_19 (fun H locs hP2 hD2 hS => ?_)
  have e9 := wPuI (cy := cy) (j := 1) (v := x2) hD (xe12.A (xe7.A (xe3.A h_o1))).1 (xe12.A (xe7.A (xe3.A h_o1))).2.1 gk14 rfl
  obtain ⟨S15, hS15⟩ : ∃ z, S11.sI o1 1 x2 = z := ⟨_, rfl⟩
  have hP : va_P D vwCl (X ++ PL cy S15) H := by rw [← hS15, ← e9]; exact hP2
  have hD : va_D A (X ++ PL cy S15) := by rw [← hS15, ← e9]; exact hD2
  have xe16 : ext S11 S15 := by rw [← hS15]; exact ext.sI _ _ _ _
  have t17 : stp ([] : List (Nat × Nat)) [o1] (o1 :: R) S S15 := by rw [← hS15]; exact t13.Ir 1 x2 List.mem_cons_self (Or.inl List.mem_cons_self)
  refine lv_aload_n hx hb dX11_init_22 rfl (lv_at hl 0 rfl) ?_
  refine lv_iload_n hx hb dX11_init_23 rfl (lv_at hl 3 rfl) ?_
  obtain ⟨k18, gk18, hk18⟩ := wGt (cy := cy) X S15 (xe16.A (xe12.A (xe7.A (xe3.A h_o1)))).1 (xe16.A (xe12.A (xe7.A (xe3.A h_o1)))).2.1
  refine va_put (D := D) (ci := 15) (v := .int x3) (ty := .int) (C := RX11) (T := TX11) (N := 7) hx hb hts hi_X11_init_X11 tyX11 tyX11_ok nmX11 hown hK hP hD hS k18 hk18 rfl 4 (by decide) (hts (.fieldLink RX11 22 "HobhouseModel$Hob" "diameter" "I") (by decide +kernel)) (fun _ h9 => h9) rfl (by decide +kernel) (rfl) (rfl) (Nat.le_of_ble_eq_true rfl) dX11_init_24 (fun H locs hP2 hD2 hS => ?_)
  have e9 := wPuI (cy := cy) (j := 4) (v := x3) hD (xe16.A (xe12.A (xe7.A (xe3.A h_o1)))).1 (xe16.A (xe12.A (xe7.A (xe3.A h_o1)))).2.1 gk18 rfl
  obtain ⟨S19, hS19⟩ : ∃ z, S15.sI o1 4 x3 = z := ⟨_, rfl⟩
  have hP : va_P D vwCl (X ++ PL cy S19) H := by rw [← hS19, ← e9]; exact hP2
  have hD : va_D A (X ++ PL cy S19) := by rw [← hS19, ← e9]; exact hD2
  have xe20 : ext S15 S19 := by rw [← hS19]; exact ext.sI _ _ _ _
  have t21 : stp ([] : List (Nat × Nat)) [o1] (o1 :: R) S S19 := by rw [← hS19]; exact t17.Ir 4 x3 List.mem_cons_self (Or.inl List.mem_cons_self)
  refine lv_aload_n hx hb dX11_init_27 rfl (lv_at hl 0 rfl) ?_
  refine lv_iload hx hb dX11_init_28 (lv_at hl 4 rfl) ?_
  obtain ⟨k22, gk22, hk22⟩ := wGt (cy := cy) X S19 (xe20.A (xe16.A (xe12.A (xe7.A (xe3.A h_o1))))).1 (xe20.A (xe16.A (xe12.A (xe7.A (xe3.A h_o1))))).2.1
  refine va_putF (D := D) (ci := 15) (v := .int x4) (ty := .int) (C := RX11) (T := TX11) (N := 7) hx hb hts hi_X11_init_X11 tyX11 tyX11_ok nmX11 hown hK hP hD hS k22 hk22 rfl 3 (by decide) (hts (.fieldLink RX11 25 "HobhouseModel$Hob" "places" "I") (by decide +kernel)) (fun _ h9 => h9) rfl hin rfl (by decide +kernel) (rfl) (rfl) (Nat.le_of_ble_eq_true rfl) dX11_init_30 (fun H locs hP2 hD2 hS => ?_)
  have e9 := wPuI (cy := cy) (j := 3) (v := x4) hD (xe20.A (xe16.A (xe12.A (xe7.A (xe3.A h_o1))))).1 (xe20.A (xe16.A (xe12.A (xe7.A (xe3.A h_o1))))).2.1 gk22 rfl
  obtain ⟨S23, hS23⟩ : ∃ z, S19.sI o1 3 x4 = z := ⟨_, rfl⟩
  have hP : va_P D vwCl (X ++ PL cy S23) H := by rw [← hS23, ← e9]; exact hP2
  have hD : va_D A (X ++ PL cy S23) := by rw [← hS23, ← e9]; exact hD2
  have xe24 : ext S19 S23 := by rw [← hS23]; exact ext.sI _ _ _ _
  have t25 : stp ([] : List (Nat × Nat)) [o1] (o1 :: R) S S23 := by rw [← hS23]; exact t21.Ir 3 x4 List.mem_cons_self (Or.inl List.mem_cons_self)
  have oo : isA S23 o1 11 := (xe24.A (xe20.A (xe16.A (xe12.A (xe7.A (xe3.A h_o1))))))
  have I0 : S23.I o1 0 = x1 := (by rw [← hS23, sI_I (by rintro ⟨e1, e2⟩; exact absurd e2 (by decide))]; rw [← hS19, sI_I (by rintro ⟨e1, e2⟩; exact absurd e2 (by decide))]; rw [← hS15, sI_I (by rintro ⟨e1, e2⟩; exact absurd e2 (by decide))]; rw [← hS11, sI_eq])
  have I1 : S23.I o1 1 = x2 := (by rw [← hS23, sI_I (by rintro ⟨e1, e2⟩; exact absurd e2 (by decide))]; rw [← hS19, sI_I (by rintro ⟨e1, e2⟩; exact absurd e2 (by decide))]; rw [← hS15, sI_eq])
  have I3 : S23.I o1 3 = x4 := (by rw [← hS23, sI_eq])
  have I4 : S23.I o1 4 = x3 := (by rw [← hS23, sI_I (by rintro ⟨e1, e2⟩; exact absurd e2 (by decide))]; rw [← hS19, sI_eq])
  have I5 : S23.I o1 5 = (0 : Int32) := (by rw [← hS23, sI_I (by rintro ⟨e1, e2⟩; exact absurd e2 (by decide))]; rw [← hS19, sI_I (by rintro ⟨e1, e2⟩; exact absurd e2 (by decide))]; rw [← hS15, sI_I (by rintro ⟨e1, e2⟩; exact absurd e2 (by decide))]; rw [← hS11, sI_I (by rintro ⟨e1, e2⟩; exact absurd e2 (by decide))]; rw [← hS6]; show S2.I o1 5 = _; rw [← hS2, nw_Io hqa1 h_o1.1]; exact hI0 5)
  have I6 : S23.I o1 6 = (0 : Int32) := (by rw [← hS23, sI_I (by rintro ⟨e1, e2⟩; exact absurd e2 (by decide))]; rw [← hS19, sI_I (by rintro ⟨e1, e2⟩; exact absurd e2 (by decide))]; rw [← hS15, sI_I (by rintro ⟨e1, e2⟩; exact absurd e2 (by decide))]; rw [← hS11, sI_I (by rintro ⟨e1, e2⟩; exact absurd e2 (by decide))]; rw [← hS6]; show S2.I o1 6 = _; rw [← hS2, nw_Io hqa1 h_o1.1]; exact hI0 6)
  have tt : stp ([] : List (Nat × Nat)) [o1] R S S23 := t25.un (okAt.of_11 oo.2.1 ⟨(by rw [f_of ((xe12.tr (xe16.tr (xe20.tr xe24))).F ((xe3.tr xe7).A h_o1) (by decide) F9)]; exact ⟨((xe12.tr (xe16.tr (xe20.tr xe24))).F ((xe3.tr xe7).A h_o1) (by decide) F9), ((xe7.tr (xe12.tr (xe16.tr (xe20.tr xe24)))).A aqa1), (((xe7.tr (xe12.tr (xe16.tr (xe20.tr xe24)))).n aqa1).trans nqa1)⟩), (by rw [I1]; exact ⟨by omega, by omega⟩), (by rw [I3]; exact ⟨by omega, by omega⟩), (by rw [I5]; exact ⟨by decide, by decide⟩)⟩)
  refine W.widen (k := 1) (n := 20) (Nat.le_of_ble_eq_true rfl) (Nat.le_of_ble_eq_true rfl) ?_
  exact W.vret hx hb hr (fun t ht hW9 => ⟨⟨S23, rfl, ⟨tt, oo, I0, I1, I3, I4, I5, I6⟩, wd_end hP hK hD ht hW9.alike⟩, hS.F ht⟩) hS.2.2 dX11_init_33 hlocks
theorem hi_X12_init_Jx4a65c : ∀ w ∈ u_ws RJx4a65c TJx4a65c 3, w ∈ wsX12_init := by decide +kernel
theorem hi_X12_init_X12 : ∀ w ∈ u_ws RX12 TX12 34, w ∈ wsX12_init := by decide +kernel
set_option maxHeartbeats 4000000 in
set_option maxRecDepth 100000 in
theorem c_X12_init (l : Launch) {e0 mi : Nat} {D : va_G} {cy : Nat → ClassId} {X : va_W} (S : wPS) (sz : Nat) (o1 : Nat) (h_o1 : isA S o1 12) (R : List Nat) (hW : wtB S (o1 :: R)) (hF0 : ∀ j, S.F o1 j = none) (hI0 : ∀ j, S.I o1 j = 0)  : Met l yX12_init wsX12_init ({ frames := 4, cells := 20, slots := 905, locals := 72 }) (va_Pc [.ref o1] (fun U => U.heap.size = sz ∧ WD D cy X (fun _ => True) S U ∧ NW U ∧ OU e0 mi (va_A (X ++ PL cy S) sz) U U.heap)) (va_Qv (fun (u : wPS) => stp ([] : List (Nat × Nat)) [o1] R S u ∧ isA u o1 12 ∧ u.I o1 15 = (0 : Int32) ∧ u.I o1 16 = (0 : Int32) ∧ u.I o1 17 = (24 : Int32) ∧ u.I o1 18 = (60 : Int32) ∧ u.I o1 19 = (0 : Int32) ∧ u.I o1 20 = (0 : Int32) ∧ u.I o1 21 = (0 : Int32) ∧ u.I o1 22 = (0 : Int32) ∧ u.I o1 23 = (0 : Int32) ∧ u.I o1 24 = (0 : Int32) ∧ u.I o1 25 = (0 : Int32) ∧ u.I o1 26 = (0 : Int32) ∧ u.F o1 77 = some e0 ∧ u.I (u.f o1 0) 2 = 0 ∧ u.I (u.f o1 1) 2 = 0 ∧ (∀ i : Nat, u.i (u.f o1 9) i = 0) ∧ (∀ i : Nat, u.i (u.f o1 10) i = 0) ∧ (∀ i : Nat, u.i (u.f o1 11) i = 0) ∧ (∀ i : Nat, u.i (u.f o1 12) i = 0) ∧ (∀ i : Nat, u.i (u.f o1 13) i = 0) ∧ (∀ i : Nat, u.i (u.f o1 14) i = 0) ∧ ¬ u.f o1 29 = u.f o1 30 ∧ ¬ u.f o1 29 = u.f o1 31 ∧ ¬ u.f o1 29 = u.f o1 32 ∧ ¬ u.f o1 30 = u.f o1 31 ∧ ¬ u.f o1 30 = u.f o1 32 ∧ ¬ u.f o1 31 = u.f o1 32) (fun u t => WD D cy X (va_A (X ++ PL cy S) sz) u t) (va_A (X ++ PL cy S) sz)) 20 905 (va_A (X ++ PL cy S) sz) := by
  refine Met.ofW (cc := cX12_init) (maxL := 1) (ret := none) (by decide) rfl ?_
  intro p e s m args below meth c s₁ B hml hv
  obtain ⟨rfl, hsz, ⟨hP, hK, hD0⟩, hN, hOU⟩ := hv
  have hx := B.exec
  have hb := B.bytes
  have hr := B.returns
  have hts := atoms_spec (ws := wsX12_init) B.pre
  have hown : s.vm.findClass RX12 = some m.cls := findClass_of_methodNamed (x := yX12_init) B.named
  have hlocks := B.notSynchronized
  have hin : meth.name = "<init>" := (name_of_methodNamed B.named B.method).1
  subst hsz
  have hD := hD0.self (sz := s.heap.size)
  generalize hAe : va_A (X ++ PL cy S) s.heap.size = A at hD hOU ⊢
  have hA : ∀ q : Nat, s.heap.size ≤ q → A q := fun q h => by rw [← hAe]; exact Or.inr h
  have hS : va_S A s.heap s.heap [] := va_S.rf
  have hl := lv_entry ([.ref o1]) (n := 1) (Nat.le_of_ble_eq_true rfl)
  rw [lg_entry_eq]
  generalize (lg_sl ([.ref o1]) ++ List.replicate (1 - (lg_sl ([.ref o1])).length) Slot.unset).toArray = ls at hl ⊢
  have hl : lv_has ls 1 [(0, .ref o1)] := hl
  obtain ⟨⟨ga, gZ, gX, gl, gA⟩, ⟨sa9, sZ, sX, sl9, sA⟩, cZ, eZ, eX, el, eA, hMi, hDc, ⟨pf, pZ⟩⟩ := id hOU
  have t0 : stp ([] : List (Nat × Nat)) [o1] (o1 :: R) S S := stp.rf hW
  refine lv_aload_n hx hb dX12_init_0 rfl (lv_at hl 0 rfl) ?_
  refine W.objInit hx hb hown (hts (.methodLink RX12 15 objectInit) (by decide +kernel)) (hts (.instanceMethod objectInit) (by decide +kernel)) (hts (.code objectInit ⟨#[0xb1]⟩ 1 none) (by decide +kernel)) rfl (by rw [hml]; exact hl.1) rfl dX12_init_1 (Nat.le_of_ble_eq_true rfl) (Nat.le_of_ble_eq_true rfl) ?_
  refine W.eq (g2 := F0 m 4 ls []) rfl ?_
  have e9 := gh_PL (cy := cy) (X := X) (j := 77) (v := some e0) h_o1.2.1 (by decide)
  have hP2 := hP
  have hD2 := hD
  rw [e9] at hP2 hD2
  replace e9 := Eq.refl (X ++ PL cy (S.sF o1 77 (some e0)))
  have N0 : ∀ j9, j9 ∉ ([] : List Nat) → S.F o1 j9 = none := fun j9 _ => hF0 j9
  have Z0 : ∀ j9, j9 ∉ ([] : List Nat) → S.I o1 j9 = 0 := fun j9 _ => hI0 j9
  obtain ⟨S1, hS1⟩ : ∃ z, S.sF o1 77 (some e0) = z := ⟨_, rfl⟩
  replace hP : va_P D vwCl (X ++ PL cy S1) s.heap := by rw [← hS1, ← e9]; exact hP2
  replace hD : va_D A (X ++ PL cy S1) := by rw [← hS1, ← e9]; exact hD2
  clear hP2 hD2 e9
  have xe2 : ext S S1 := by rw [← hS1]; exact ext.sF (N0 77 (by decide))
  have t3 : stp ([] : List (Nat × Nat)) [o1] (o1 :: R) S S1 := by rw [← hS1]; exact t0.F 77 e0 List.mem_cons_self (Or.inl List.mem_cons_self) (N0 77 (by decide))
  have F4 : S1.F o1 77 = some e0 := by rw [← hS1]; exact sF_eq
  refine lv_aload_n hx hb dX12_init_4 rfl (lv_at hl 0 rfl) ?_
  refine va_new (ci := 3) (fs := [.int 0, .null, .int 0]) (C := RJx4a65c) (T := TJx4a65c) (N := 3) hx hb hts hi_X12_init_Jx4a65c tyJx4a65c tyJx4a65c_ok hown (hts (.classLink RX12 21 RJx4a65c) (by decide +kernel)) (hts (.instantiable RJx4a65c 3) (by decide +kernel)) (hts (.initialized RJx4a65c) (by decide +kernel)) hK hP hD hS hA rfl (fun j hj => by rcases (show j = 0 ∨ j = 1 ∨ j = 2 by omega) with rfl | rfl | rfl <;> rfl) (Nat.le_of_ble_eq_true rfl) (Nat.le_of_ble_eq_true rfl) dX12_init_5 (fun qa5 H hP2 hD2 hS => ?_)
  have hqa5 : qa5 ∉ S1.L := nw_q hD2
  have e9 := wNw (cy := cy) (X := X) (S := S1) (a := qa5) (k := 14) (z := 10) (f := fun _ => 0) (g := fun _ => none) hqa5 rfl
  obtain ⟨S6, hS6⟩ : ∃ z, S1.nw qa5 14 10 (fun _ => 0) (fun _ => none) = z := ⟨_, rfl⟩
  replace hP : va_P D vwCl (X ++ PL cy S6) H := by rw [← hS6, ← e9]; exact hP2
  replace hD : va_D A (X ++ PL cy S6) := by rw [← hS6, ← e9]; exact hD2
  clear hP2 hD2 e9
  have xe7 : ext S1 S6 := by rw [← hS6]; exact ext.nw hqa5
  have t8 : stp ([] : List (Nat × Nat)) [o1] (qa5 :: (o1 :: R)) S S6 := by rw [← hS6]; exact t3.nw hqa5 (Or.inl (by decide))
  refine W.widen (k := 1) (n := 3) (Nat.le_of_ble_eq_true rfl) (Nat.le_of_ble_eq_true rfl) ?_
  have aqa5 : isA S6 qa5 14 := by rw [← hS6]; exact nw_A (by decide)
  have fqa5 : ∀ j, S6.F qa5 j = none := by rw [← hS6]; exact nw_F
  have iqa5 : ∀ j, S6.I qa5 j = 0 := by rw [← hS6]; exact nw_I
  have bqa5 : qa5 ∉ S.L := fun e => hqa5 (xe2 _ e).1
  have nqa5 : S6.n qa5 = 10 := by rw [← hS6]; exact nw_n
  refine lv_dup hx hb dX12_init_8 rfl ?_
  have hFc := free_all hD hS hA
  refine va_callv (va_runI (As := []) (rest := [.ref qa5, .ref o1]) ⟨hx, hb, hml, hown, hts⟩ (c_Jx4a65c_init_da8c8 l (e0 := e0) (mi := mi) (cy := cy) (X := X) (D := D) S6 _ qa5 aqa5 (o1 :: R) (t8.w) fqa5 iqa5) (cwI 0 hts gX12_init_Jx4a65c_init_da8c8 rfl rfl rfl (hts (.initialized RJx4a65c) (by decide +kernel)) (hts (.methodLink RX12 23 yJx4a65c_init_da8c8) (by decide +kernel)) (hts (.instanceMethod yJx4a65c_init_da8c8) (by decide +kernel)) rfl (by decide +kernel) ⟨Nat.le_of_ble_eq_true rfl, Nat.le_of_ble_eq_true rfl⟩) (pSo hP hK hD hN hOU hS hFc) rfl rfl hl.1 rfl (lv_room (Nat.le_of_ble_eq_true rfl)) dX12_init_9 ⟨Nat.le_of_ble_eq_true rfl, Nat.le_of_ble_eq_true rfl⟩) hS (fun q _ h => hFc q h) hFc (fun u t H1 locs ht hvm hw hB hz1 hk1 hS => ?_)
  obtain ⟨w10, y11, y12, y13, y14⟩ := hw
  obtain ⟨hP, hD⟩ := wd_post hFc ht hB
  generalize H1 = H at hP hS ⊢
  obtain ⟨S15, rfl⟩ : ∃ z, z = u := ⟨_, rfl⟩
  have t16 : stp ([] : List (Nat × Nat)) [o1] (o1 :: R) S S15 := t8.tr w10 (by decide) (fun z q => by rw [List.mem_singleton.mp q]; exact (Or.inr bqa5))
  have xe17 : ext S6 S15 := w10.x
  have xm18 : ext S S6 := xe2.tr xe7
  have xm19 : ext S S15 := xm18.tr xe17
  have am20 : isA S15 o1 12 := xm19.A h_o1
  obtain ⟨k21, gk21, hk21⟩ := wGt (cy := cy) X S15 am20.1 am20.2.1
  refine va_putF (D := D) (ci := 16) (v := .ref qa5) (ty := (tyX12 0)) (C := RX12) (T := TX12) (N := 34) hx hb hts hi_X12_init_X12 tyX12 tyX12_ok nmX12 hown hK hP hD hS k21 hk21 rfl 0 (by decide) (hts (.fieldLink RX12 24 "HobhouseModel" "gears" "Ljava/util/ArrayList;") (by decide +kernel)) (fun _ h9 => h9) rfl hin rfl (by decide +kernel) (rfl) (rfl) (Nat.le_of_ble_eq_true rfl) dX12_init_12 (fun H locs hP2 hD2 hS => ?_)
  have e9 := wPuF (cy := cy) (j := 0) (v := (some qa5)) hD am20.1 am20.2.1 gk21 rfl
  have N22 : ∀ j9, j9 ∉ (77 :: [] : List Nat) → S1.F o1 j9 = none := by rw [← hS1]; exact fun j9 h9 => (sF_ne (fun q9 => h9 (by rw [q9.2]; exact List.mem_cons_self))).trans (N0 j9 (fun q9 => h9 (List.mem_cons_of_mem _ q9)))
  have Z23 : ∀ j9, j9 ∉ ([] : List Nat) → S1.I o1 j9 = 0 := by rw [← hS1]; exact Z0
  have am26 : isA S1 o1 12 := xe2.A h_o1
  have N24 : ∀ j9, j9 ∉ (77 :: [] : List Nat) → S6.F o1 j9 = none := by rw [← hS6]; exact fun j9 h9 => (nw_Fo hqa5 am26.1).trans (N22 j9 h9)
  have Z25 : ∀ j9, j9 ∉ ([] : List Nat) → S6.I o1 j9 = 0 := by rw [← hS6]; exact fun j9 h9 => (nw_Io hqa5 am26.1).trans (Z23 j9 h9)
  have am29 : isA S6 o1 12 := xm18.A h_o1
  have N27 : ∀ j9, j9 ∉ (77 :: [] : List Nat) → S15.F o1 j9 = none := fun j9 h9 => by rw [(w10.fR o1 am29.1 (by rw [List.mem_singleton]; exact fun e => hqa5 (e ▸ am26.1))).2.2.2.resolve_left (by rw [am29.2.1]; decide)]; exact N24 j9 h9
  have Z28 : ∀ j9, j9 ∉ ([] : List Nat) → S15.I o1 j9 = 0 := fun j9 h9 => by rw [((w10.fR o1 am29.1 (by rw [List.mem_singleton]; exact fun e => hqa5 (e ▸ am26.1))).1 j9 (by rw [am29.2.1]; intro q9; simp at q9)).1]; exact Z25 j9 h9
  obtain ⟨S30, hS30⟩ : ∃ z, S15.sF o1 0 (some qa5) = z := ⟨_, rfl⟩
  replace hP : va_P D vwCl (X ++ PL cy S30) H := by rw [← hS30, ← e9]; exact hP2
  replace hD : va_D A (X ++ PL cy S30) := by rw [← hS30, ← e9]; exact hD2
  clear hP2 hD2 e9
  have xe31 : ext S15 S30 := by rw [← hS30]; exact ext.sF (N27 0 (by decide))
  have t32 : stp ([] : List (Nat × Nat)) [o1] (o1 :: R) S S30 := by rw [← hS30]; exact t16.F 0 qa5 List.mem_cons_self (Or.inl List.mem_cons_self) (N27 0 (by decide))
  have z33 : S30.I qa5 2 = 0 := by rw [← hS30]; exact y13
  have F34 : S30.F o1 0 = some qa5 := by rw [← hS30]; exact sF_eq
  refine lv_aload_n hx hb dX12_init_15 rfl (lv_at hl 0 rfl) ?_
  refine va_new (ci := 3) (fs := [.int 0, .null, .int 0]) (C := RJx4a65c) (T := TJx4a65c) (N := 3) hx hb hts hi_X12_init_Jx4a65c tyJx4a65c tyJx4a65c_ok hown (hts (.classLink RX12 21 RJx4a65c) (by decide +kernel)) (hts (.instantiable RJx4a65c 3) (by decide +kernel)) (hts (.initialized RJx4a65c) (by decide +kernel)) hK hP hD hS hA rfl (fun j hj => by rcases (show j = 0 ∨ j = 1 ∨ j = 2 by omega) with rfl | rfl | rfl <;> rfl) (Nat.le_of_ble_eq_true rfl) (Nat.le_of_ble_eq_true rfl) dX12_init_16 (fun qa35 H hP2 hD2 hS => ?_)
  have hqa35 : qa35 ∉ S30.L := nw_q hD2
  have e9 := wNw (cy := cy) (X := X) (S := S30) (a := qa35) (k := 14) (z := 11) (f := fun _ => 0) (g := fun _ => none) hqa35 rfl
  obtain ⟨S36, hS36⟩ : ∃ z, S30.nw qa35 14 11 (fun _ => 0) (fun _ => none) = z := ⟨_, rfl⟩
  replace hP : va_P D vwCl (X ++ PL cy S36) H := by rw [← hS36, ← e9]; exact hP2
  replace hD : va_D A (X ++ PL cy S36) := by rw [← hS36, ← e9]; exact hD2
  clear hP2 hD2 e9
  have xe37 : ext S30 S36 := by rw [← hS36]; exact ext.nw hqa35
  have t38 : stp ([] : List (Nat × Nat)) [o1] (qa35 :: (o1 :: R)) S S36 := by rw [← hS36]; exact t32.nw hqa35 (Or.inl (by decide))
  have am40 : isA S30 qa5 14 := xe31.A (xe17.A aqa5)
  have z39 : S36.I qa5 2 = 0 := by rw [← hS36]; exact (nw_Io hqa35 am40.1).trans z33
  refine W.widen (k := 2) (n := 6) (Nat.le_of_ble_eq_true rfl) (Nat.le_of_ble_eq_true rfl) ?_
  have aqa35 : isA S36 qa35 14 := by rw [← hS36]; exact nw_A (by decide)
  have fqa35 : ∀ j, S36.F qa35 j = none := by rw [← hS36]; exact nw_F
  have iqa35 : ∀ j, S36.I qa35 j = 0 := by rw [← hS36]; exact nw_I
  have xm41 : ext S S30 := xm19.tr xe31
  have bqa35 : qa35 ∉ S.L := fun e => hqa35 (xm41 _ e).1
  have nqa35 : S36.n qa35 = 11 := by rw [← hS36]; exact nw_n
  refine lv_dup hx hb dX12_init_19 rfl ?_
  have hFc := free_all hD hS hA
  refine va_callv (va_runI (As := []) (rest := [.ref qa35, .ref o1]) ⟨hx, hb, hml, hown, hts⟩ (c_Jx4a65c_init_da8c8 l (e0 := e0) (mi := mi) (cy := cy) (X := X) (D := D) S36 _ qa35 aqa35 (o1 :: R) (t38.w) fqa35 iqa35) (cwI 0 hts gX12_init_Jx4a65c_init_da8c8 rfl rfl rfl (hts (.initialized RJx4a65c) (by decide +kernel)) (hts (.methodLink RX12 23 yJx4a65c_init_da8c8) (by decide +kernel)) (hts (.instanceMethod yJx4a65c_init_da8c8) (by decide +kernel)) rfl (by decide +kernel) ⟨Nat.le_of_ble_eq_true rfl, Nat.le_of_ble_eq_true rfl⟩) (pSo hP hK hD hN hOU hS hFc) rfl rfl hl.1 rfl (lv_room (Nat.le_of_ble_eq_true rfl)) dX12_init_20 ⟨Nat.le_of_ble_eq_true rfl, Nat.le_of_ble_eq_true rfl⟩) hS (fun q _ h => hFc q h) hFc (fun u t H1 locs ht hvm hw hB hz1 hk1 hS => ?_)
  obtain ⟨w43, y44, y45, y46, y47⟩ := hw
  obtain ⟨hP, hD⟩ := wd_post hFc ht hB
  generalize H1 = H at hP hS ⊢
  obtain ⟨S48, rfl⟩ : ∃ z, z = u := ⟨_, rfl⟩
  have t49 : stp ([] : List (Nat × Nat)) [o1] (o1 :: R) S S48 := t38.tr w43 (by decide) (fun z q => by rw [List.mem_singleton.mp q]; exact (Or.inr bqa35))
  have xe50 : ext S36 S48 := w43.x
  have xm52 : ext S15 S36 := xe31.tr xe37
  have am53 : isA S36 qa5 14 := xm52.A (xe17.A aqa5)
  have z51 : S48.I qa5 2 = 0 := by rw [(w43.fR qa5 am53.1 (by rw [List.mem_singleton]; exact fun e => hqa35 (e ▸ am40.1))).1 2 (by rw [am53.2.1]; decide) |>.1]; exact z39
  have xm54 : ext S S36 := xm41.tr xe37
  have xm55 : ext S S48 := xm54.tr xe50
  have am56 : isA S48 o1 12 := xm55.A h_o1
  obtain ⟨k57, gk57, hk57⟩ := wGt (cy := cy) X S48 am56.1 am56.2.1
  refine va_putF (D := D) (ci := 16) (v := .ref qa35) (ty := (tyX12 1)) (C := RX12) (T := TX12) (N := 34) hx hb hts hi_X12_init_X12 tyX12 tyX12_ok nmX12 hown hK hP hD hS k57 hk57 rfl 1 (by decide) (hts (.fieldLink RX12 28 "HobhouseModel" "hobs" "Ljava/util/ArrayList;") (by decide +kernel)) (fun _ h9 => h9) rfl hin rfl (by decide +kernel) (rfl) (rfl) (Nat.le_of_ble_eq_true rfl) dX12_init_23 (fun H locs hP2 hD2 hS => ?_)
  have e9 := wPuF (cy := cy) (j := 1) (v := (some qa35)) hD am56.1 am56.2.1 gk57 rfl
  have N58 : ∀ j9, j9 ∉ (0 :: 77 :: [] : List Nat) → S30.F o1 j9 = none := by rw [← hS30]; exact fun j9 h9 => (sF_ne (fun q9 => h9 (by rw [q9.2]; exact List.mem_cons_self))).trans (N27 j9 (fun q9 => h9 (List.mem_cons_of_mem _ q9)))
  have Z59 : ∀ j9, j9 ∉ ([] : List Nat) → S30.I o1 j9 = 0 := by rw [← hS30]; exact Z28
  have am62 : isA S30 o1 12 := xm41.A h_o1
  have N60 : ∀ j9, j9 ∉ (0 :: 77 :: [] : List Nat) → S36.F o1 j9 = none := by rw [← hS36]; exact fun j9 h9 => (nw_Fo hqa35 am62.1).trans (N58 j9 h9)
  have Z61 : ∀ j9, j9 ∉ ([] : List Nat) → S36.I o1 j9 = 0 := by rw [← hS36]; exact fun j9 h9 => (nw_Io hqa35 am62.1).trans (Z59 j9 h9)
  have am65 : isA S36 o1 12 := xm54.A h_o1
  have N63 : ∀ j9, j9 ∉ (0 :: 77 :: [] : List Nat) → S48.F o1 j9 = none := fun j9 h9 => by rw [(w43.fR o1 am65.1 (by rw [List.mem_singleton]; exact fun e => hqa35 (e ▸ am62.1))).2.2.2.resolve_left (by rw [am65.2.1]; decide)]; exact N60 j9 h9
  have Z64 : ∀ j9, j9 ∉ ([] : List Nat) → S48.I o1 j9 = 0 := fun j9 h9 => by rw [((w43.fR o1 am65.1 (by rw [List.mem_singleton]; exact fun e => hqa35 (e ▸ am62.1))).1 j9 (by rw [am65.2.1]; intro q9; simp at q9)).1]; exact Z61 j9 h9
  obtain ⟨S66, hS66⟩ : ∃ z, S48.sF o1 1 (some qa35) = z := ⟨_, rfl⟩
  replace hP : va_P D vwCl (X ++ PL cy S66) H := by rw [← hS66, ← e9]; exact hP2
  replace hD : va_D A (X ++ PL cy S66) := by rw [← hS66, ← e9]; exact hD2
  clear hP2 hD2 e9
  have xe67 : ext S48 S66 := by rw [← hS66]; exact ext.sF (N63 1 (by decide))
  have t68 : stp ([] : List (Nat × Nat)) [o1] (o1 :: R) S S66 := by rw [← hS66]; exact t49.F 1 qa35 List.mem_cons_self (Or.inl List.mem_cons_self) (N63 1 (by decide))
  have z69 : S66.I qa5 2 = 0 := by rw [← hS66]; exact z51
  have z70 : S66.I qa35 2 = 0 := by rw [← hS66]; exact y46
  have F71 : S66.F o1 1 = some qa35 := by rw [← hS66]; exact sF_eq
  refine lv_aload_n hx hb dX12_init_26 rfl (lv_at hl 0 rfl) ?_
  refine lv_bipush (v := 16) hx hb dX12_init_27 (by decide +kernel) ?_
  refine va_newa (atype := .int) hx hb (hts (.arrayClass .int) (by decide +kernel)) (ty := .int) rfl hK hP hD hS hA (N' := 16) (a0 := (16, .inl (fun _ => 0))) (fun _ => rfl) (by decide) (by decide) (by decide) (Nat.le_of_ble_eq_true rfl) (Nat.le_of_ble_eq_true rfl) dX12_init_29 (fun qa72 cqa72 H hK2 hP2 hD2 hS => ?_)
  obtain rfl : cqa72 = cy 2 := cls_int hK hK2
  have hqa72 : qa72 ∉ S66.L := nw_q hD2
  have e9 := wNw (cy := cy) (X := X) (S := S66) (a := qa72) (k := 31) (z := 16) (f := fun _ => 0) (g := fun _ => none) hqa72 rfl
  obtain ⟨S73, hS73⟩ : ∃ z, S66.nw qa72 31 16 (fun _ => 0) (fun _ => none) = z := ⟨_, rfl⟩
  replace hP : va_P D vwCl (X ++ PL cy S73) H := by rw [← hS73, ← e9]; exact hP2
  replace hD : va_D A (X ++ PL cy S73) := by rw [← hS73, ← e9]; exact hD2
  clear hP2 hD2 e9
  have xe74 : ext S66 S73 := by rw [← hS73]; exact ext.nw hqa72
  have t75 : stp ([] : List (Nat × Nat)) [o1] (o1 :: R) S S73 := by rw [← hS73]; exact t68.nwA hqa72 (by decide)
  have xm77 : ext S15 S48 := xm52.tr xe50
  have xm78 : ext S15 S66 := xm77.tr xe67
  have am79 : isA S66 qa5 14 := xm78.A (xe17.A aqa5)
  have z76 : S73.I qa5 2 = 0 := by rw [← hS73]; exact (nw_Io hqa72 am79.1).trans z69
  have am81 : isA S66 qa35 14 := xe67.A (xe50.A aqa35)
  have z80 : S73.I qa35 2 = 0 := by rw [← hS73]; exact (nw_Io hqa72 am81.1).trans z70
  refine W.widen (k := 3) (n := 22) (Nat.le_of_ble_eq_true rfl) (Nat.le_of_ble_eq_true rfl) ?_
  have aqa72 : isA S73 qa72 31 := by rw [← hS73]; exact nw_A (by decide)
  have nqa72 : S73.n qa72 = 16 := by rw [← hS73]; exact nw_n
  have xm82 : ext S S66 := xm55.tr xe67
  have xm83 : ext S S73 := xm82.tr xe74
  have am84 : isA S73 o1 12 := xm83.A h_o1
  obtain ⟨k85, gk85, hk85⟩ := wGt (cy := cy) X S73 am84.1 am84.2.1
  refine va_putF (D := D) (ci := 16) (v := .ref qa72) (ty := (tyX12 2)) (C := RX12) (T := TX12) (N := 34) hx hb hts hi_X12_init_X12 tyX12 tyX12_ok nmX12 hown hK hP hD hS k85 hk85 rfl 2 (by decide) (hts (.fieldLink RX12 31 "HobhouseModel" "wheels" "[I") (by decide +kernel)) (fun _ h9 => h9) rfl hin rfl (by decide +kernel) (rfl) (rfl) (Nat.le_of_ble_eq_true rfl) dX12_init_31 (fun H locs hP2 hD2 hS => ?_)
  have e9 := wPuF (cy := cy) (j := 2) (v := (some qa72)) hD am84.1 am84.2.1 gk85 rfl
  have N86 : ∀ j9, j9 ∉ (1 :: 0 :: 77 :: [] : List Nat) → S66.F o1 j9 = none := by rw [← hS66]; exact fun j9 h9 => (sF_ne (fun q9 => h9 (by rw [q9.2]; exact List.mem_cons_self))).trans (N63 j9 (fun q9 => h9 (List.mem_cons_of_mem _ q9)))
  have Z87 : ∀ j9, j9 ∉ ([] : List Nat) → S66.I o1 j9 = 0 := by rw [← hS66]; exact Z64
  have am90 : isA S66 o1 12 := xm82.A h_o1
  have N88 : ∀ j9, j9 ∉ (1 :: 0 :: 77 :: [] : List Nat) → S73.F o1 j9 = none := by rw [← hS73]; exact fun j9 h9 => (nw_Fo hqa72 am90.1).trans (N86 j9 h9)
  have Z89 : ∀ j9, j9 ∉ ([] : List Nat) → S73.I o1 j9 = 0 := by rw [← hS73]; exact fun j9 h9 => (nw_Io hqa72 am90.1).trans (Z87 j9 h9)
  obtain ⟨S91, hS91⟩ : ∃ z, S73.sF o1 2 (some qa72) = z := ⟨_, rfl⟩
  replace hP : va_P D vwCl (X ++ PL cy S91) H := by rw [← hS91, ← e9]; exact hP2
  replace hD : va_D A (X ++ PL cy S91) := by rw [← hS91, ← e9]; exact hD2
  clear hP2 hD2 e9
  have xe92 : ext S73 S91 := by rw [← hS91]; exact ext.sF (N88 2 (by decide))
  have t93 : stp ([] : List (Nat × Nat)) [o1] (o1 :: R) S S91 := by rw [← hS91]; exact t75.F 2 qa72 List.mem_cons_self (Or.inl List.mem_cons_self) (N88 2 (by decide))
  have z94 : S91.I qa5 2 = 0 := by rw [← hS91]; exact z76
  have z95 : S91.I qa35 2 = 0 := by rw [← hS91]; exact z80
  have F96 : S91.F o1 2 = some qa72 := by rw [← hS91]; exact sF_eq
  refine lv_aload_n hx hb dX12_init_34 rfl (lv_at hl 0 rfl) ?_
  refine lv_iconst (v := 4) hx hb dX12_init_35 (by decide) ?_
  refine va_newa (atype := .int) hx hb (hts (.arrayClass .int) (by decide +kernel)) (ty := .int) rfl hK hP hD hS hA (N' := 4) (a0 := (4, .inl (fun _ => 0))) (fun _ => rfl) (by decide) (by decide) (by decide) (Nat.le_of_ble_eq_true rfl) (Nat.le_of_ble_eq_true rfl) dX12_init_36 (fun qa97 cqa97 H hK2 hP2 hD2 hS => ?_)
  obtain rfl : cqa97 = cy 2 := cls_int hK hK2
  have hqa97 : qa97 ∉ S91.L := nw_q hD2
  have e9 := wNw (cy := cy) (X := X) (S := S91) (a := qa97) (k := 17) (z := 4) (f := fun _ => 0) (g := fun _ => none) hqa97 rfl
  obtain ⟨S98, hS98⟩ : ∃ z, S91.nw qa97 17 4 (fun _ => 0) (fun _ => none) = z := ⟨_, rfl⟩
  replace hP : va_P D vwCl (X ++ PL cy S98) H := by rw [← hS98, ← e9]; exact hP2
  replace hD : va_D A (X ++ PL cy S98) := by rw [← hS98, ← e9]; exact hD2
  clear hP2 hD2 e9
  have xe99 : ext S91 S98 := by rw [← hS98]; exact ext.nw hqa97
  have t100 : stp ([] : List (Nat × Nat)) [o1] (o1 :: R) S S98 := by rw [← hS98]; exact t93.nwA hqa97 (by decide)
  have xm102 : ext S15 S73 := xm78.tr xe74
  have xm103 : ext S15 S91 := xm102.tr xe92
  have am104 : isA S91 qa5 14 := xm103.A (xe17.A aqa5)
  have z101 : S98.I qa5 2 = 0 := by rw [← hS98]; exact (nw_Io hqa97 am104.1).trans z94
  have xm106 : ext S48 S73 := xe67.tr xe74
  have xm107 : ext S48 S91 := xm106.tr xe92
  have am108 : isA S91 qa35 14 := xm107.A (xe50.A aqa35)
  have z105 : S98.I qa35 2 = 0 := by rw [← hS98]; exact (nw_Io hqa97 am108.1).trans z95
  refine W.widen (k := 4) (n := 26) (Nat.le_of_ble_eq_true rfl) (Nat.le_of_ble_eq_true rfl) ?_
  have aqa97 : isA S98 qa97 17 := by rw [← hS98]; exact nw_A (by decide)
  have nqa97 : S98.n qa97 = 4 := by rw [← hS98]; exact nw_n
  have xm109 : ext S S91 := xm83.tr xe92
  have xm110 : ext S S98 := xm109.tr xe99
  have am111 : isA S98 o1 12 := xm110.A h_o1
  obtain ⟨k112, gk112, hk112⟩ := wGt (cy := cy) X S98 am111.1 am111.2.1
  refine va_putF (D := D) (ci := 16) (v := .ref qa97) (ty := (tyX12 3)) (C := RX12) (T := TX12) (N := 34) hx hb hts hi_X12_init_X12 tyX12 tyX12_ok nmX12 hown hK hP hD hS k112 hk112 rfl 3 (by decide) (hts (.fieldLink RX12 35 "HobhouseModel" "four" "[I") (by decide +kernel)) (fun _ h9 => h9) rfl hin rfl (by decide +kernel) (rfl) (rfl) (Nat.le_of_ble_eq_true rfl) dX12_init_38 (fun H locs hP2 hD2 hS => ?_)
  have e9 := wPuF (cy := cy) (j := 3) (v := (some qa97)) hD am111.1 am111.2.1 gk112 rfl
  have N113 : ∀ j9, j9 ∉ (2 :: 1 :: 0 :: 77 :: [] : List Nat) → S91.F o1 j9 = none := by rw [← hS91]; exact fun j9 h9 => (sF_ne (fun q9 => h9 (by rw [q9.2]; exact List.mem_cons_self))).trans (N88 j9 (fun q9 => h9 (List.mem_cons_of_mem _ q9)))
  have Z114 : ∀ j9, j9 ∉ ([] : List Nat) → S91.I o1 j9 = 0 := by rw [← hS91]; exact Z89
  have am117 : isA S91 o1 12 := xm109.A h_o1
  have N115 : ∀ j9, j9 ∉ (2 :: 1 :: 0 :: 77 :: [] : List Nat) → S98.F o1 j9 = none := by rw [← hS98]; exact fun j9 h9 => (nw_Fo hqa97 am117.1).trans (N113 j9 h9)
  have Z116 : ∀ j9, j9 ∉ ([] : List Nat) → S98.I o1 j9 = 0 := by rw [← hS98]; exact fun j9 h9 => (nw_Io hqa97 am117.1).trans (Z114 j9 h9)
  obtain ⟨S118, hS118⟩ : ∃ z, S98.sF o1 3 (some qa97) = z := ⟨_, rfl⟩
  replace hP : va_P D vwCl (X ++ PL cy S118) H := by rw [← hS118, ← e9]; exact hP2
  replace hD : va_D A (X ++ PL cy S118) := by rw [← hS118, ← e9]; exact hD2
  clear hP2 hD2 e9
  have xe119 : ext S98 S118 := by rw [← hS118]; exact ext.sF (N115 3 (by decide))
  have t120 : stp ([] : List (Nat × Nat)) [o1] (o1 :: R) S S118 := by rw [← hS118]; exact t100.F 3 qa97 List.mem_cons_self (Or.inl List.mem_cons_self) (N115 3 (by decide))
  have z121 : S118.I qa5 2 = 0 := by rw [← hS118]; exact z101
  have z122 : S118.I qa35 2 = 0 := by rw [← hS118]; exact z105
  have F123 : S118.F o1 3 = some qa97 := by rw [← hS118]; exact sF_eq
  refine lv_aload_n hx hb dX12_init_41 rfl (lv_at hl 0 rfl) ?_
  refine lv_iconst (v := 4) hx hb dX12_init_42 (by decide) ?_
  refine va_newa (atype := .int) hx hb (hts (.arrayClass .int) (by decide +kernel)) (ty := .int) rfl hK hP hD hS hA (N' := 4) (a0 := (4, .inl (fun _ => 0))) (fun _ => rfl) (by decide) (by decide) (by decide) (Nat.le_of_ble_eq_true rfl) (Nat.le_of_ble_eq_true rfl) dX12_init_43 (fun qa124 cqa124 H hK2 hP2 hD2 hS => ?_)
  obtain rfl : cqa124 = cy 2 := cls_int hK hK2
  have hqa124 : qa124 ∉ S118.L := nw_q hD2
  have e9 := wNw (cy := cy) (X := X) (S := S118) (a := qa124) (k := 17) (z := 4) (f := fun _ => 0) (g := fun _ => none) hqa124 rfl
  obtain ⟨S125, hS125⟩ : ∃ z, S118.nw qa124 17 4 (fun _ => 0) (fun _ => none) = z := ⟨_, rfl⟩
  replace hP : va_P D vwCl (X ++ PL cy S125) H := by rw [← hS125, ← e9]; exact hP2
  replace hD : va_D A (X ++ PL cy S125) := by rw [← hS125, ← e9]; exact hD2
  clear hP2 hD2 e9
  have xe126 : ext S118 S125 := by rw [← hS125]; exact ext.nw hqa124
  have t127 : stp ([] : List (Nat × Nat)) [o1] (o1 :: R) S S125 := by rw [← hS125]; exact t120.nwA hqa124 (by decide)
  have xm129 : ext S15 S98 := xm103.tr xe99
  have xm130 : ext S15 S118 := xm129.tr xe119
  have am131 : isA S118 qa5 14 := xm130.A (xe17.A aqa5)
  have z128 : S125.I qa5 2 = 0 := by rw [← hS125]; exact (nw_Io hqa124 am131.1).trans z121
  have xm133 : ext S48 S98 := xm107.tr xe99
  have xm134 : ext S48 S118 := xm133.tr xe119
  have am135 : isA S118 qa35 14 := xm134.A (xe50.A aqa35)
  have z132 : S125.I qa35 2 = 0 := by rw [← hS125]; exact (nw_Io hqa124 am135.1).trans z122
  refine W.widen (k := 5) (n := 30) (Nat.le_of_ble_eq_true rfl) (Nat.le_of_ble_eq_true rfl) ?_
  have aqa124 : isA S125 qa124 17 := by rw [← hS125]; exact nw_A (by decide)
  have nqa124 : S125.n qa124 = 4 := by rw [← hS125]; exact nw_n
  have xm136 : ext S S118 := xm110.tr xe119
  have xm137 : ext S S125 := xm136.tr xe126
  have am138 : isA S125 o1 12 := xm137.A h_o1
  obtain ⟨k139, gk139, hk139⟩ := wGt (cy := cy) X S125 am138.1 am138.2.1
  refine va_putF (D := D) (ci := 16) (v := .ref qa124) (ty := (tyX12 4)) (C := RX12) (T := TX12) (N := 34) hx hb hts hi_X12_init_X12 tyX12 tyX12_ok nmX12 hown hK hP hD hS k139 hk139 rfl 4 (by decide) (hts (.fieldLink RX12 38 "HobhouseModel" "trial" "[I") (by decide +kernel)) (fun _ h9 => h9) rfl hin rfl (by decide +kernel) (rfl) (rfl) (Nat.le_of_ble_eq_true rfl) dX12_init_45 (fun H locs hP2 hD2 hS => ?_)
  have e9 := wPuF (cy := cy) (j := 4) (v := (some qa124)) hD am138.1 am138.2.1 gk139 rfl
  have N140 : ∀ j9, j9 ∉ (3 :: 2 :: 1 :: 0 :: 77 :: [] : List Nat) → S118.F o1 j9 = none := by rw [← hS118]; exact fun j9 h9 => (sF_ne (fun q9 => h9 (by rw [q9.2]; exact List.mem_cons_self))).trans (N115 j9 (fun q9 => h9 (List.mem_cons_of_mem _ q9)))
  have Z141 : ∀ j9, j9 ∉ ([] : List Nat) → S118.I o1 j9 = 0 := by rw [← hS118]; exact Z116
  have am144 : isA S118 o1 12 := xm136.A h_o1
  have N142 : ∀ j9, j9 ∉ (3 :: 2 :: 1 :: 0 :: 77 :: [] : List Nat) → S125.F o1 j9 = none := by rw [← hS125]; exact fun j9 h9 => (nw_Fo hqa124 am144.1).trans (N140 j9 h9)
  have Z143 : ∀ j9, j9 ∉ ([] : List Nat) → S125.I o1 j9 = 0 := by rw [← hS125]; exact fun j9 h9 => (nw_Io hqa124 am144.1).trans (Z141 j9 h9)
  obtain ⟨S145, hS145⟩ : ∃ z, S125.sF o1 4 (some qa124) = z := ⟨_, rfl⟩
  replace hP : va_P D vwCl (X ++ PL cy S145) H := by rw [← hS145, ← e9]; exact hP2
  replace hD : va_D A (X ++ PL cy S145) := by rw [← hS145, ← e9]; exact hD2
  clear hP2 hD2 e9
  have xe146 : ext S125 S145 := by rw [← hS145]; exact ext.sF (N142 4 (by decide))
  have t147 : stp ([] : List (Nat × Nat)) [o1] (o1 :: R) S S145 := by rw [← hS145]; exact t127.F 4 qa124 List.mem_cons_self (Or.inl List.mem_cons_self) (N142 4 (by decide))
  have z148 : S145.I qa5 2 = 0 := by rw [← hS145]; exact z128
  have z149 : S145.I qa35 2 = 0 := by rw [← hS145]; exact z132
  have F150 : S145.F o1 4 = some qa124 := by rw [← hS145]; exact sF_eq
  refine lv_aload_n hx hb dX12_init_48 rfl (lv_at hl 0 rfl) ?_
  refine lv_bipush (v := 6) hx hb dX12_init_49 (by decide +kernel) ?_
  refine va_newa (atype := .char) hx hb (hts (.arrayClass .char) (by decide +kernel)) (ty := .char) rfl hK hP hD hS hA (N' := 6) (a0 := (6, .inl (fun _ => 0))) (fun _ => rfl) (by decide) (by decide) (by decide) (Nat.le_of_ble_eq_true rfl) (Nat.le_of_ble_eq_true rfl) dX12_init_51 (fun qa151 cqa151 H hK2 hP2 hD2 hS => ?_)
  obtain rfl : cqa151 = cy 1 := cls_char hK hK2
  have hqa151 : qa151 ∉ S145.L := nw_q hD2
  have e9 := wNw (cy := cy) (X := X) (S := S145) (a := qa151) (k := 38) (z := 6) (f := fun _ => 0) (g := fun _ => none) hqa151 rfl
  obtain ⟨S152, hS152⟩ : ∃ z, S145.nw qa151 38 6 (fun _ => 0) (fun _ => none) = z := ⟨_, rfl⟩
  replace hP : va_P D vwCl (X ++ PL cy S152) H := by rw [← hS152, ← e9]; exact hP2
  replace hD : va_D A (X ++ PL cy S152) := by rw [← hS152, ← e9]; exact hD2
  clear hP2 hD2 e9
  have xe153 : ext S145 S152 := by rw [← hS152]; exact ext.nw hqa151
  have t154 : stp ([] : List (Nat × Nat)) [o1] (o1 :: R) S S152 := by rw [← hS152]; exact t147.nwA hqa151 (by decide)
  have xm156 : ext S15 S125 := xm130.tr xe126
  have xm157 : ext S15 S145 := xm156.tr xe146
  have am158 : isA S145 qa5 14 := xm157.A (xe17.A aqa5)
  have z155 : S152.I qa5 2 = 0 := by rw [← hS152]; exact (nw_Io hqa151 am158.1).trans z148
  have xm160 : ext S48 S125 := xm134.tr xe126
  have xm161 : ext S48 S145 := xm160.tr xe146
  have am162 : isA S145 qa35 14 := xm161.A (xe50.A aqa35)
  have z159 : S152.I qa35 2 = 0 := by rw [← hS152]; exact (nw_Io hqa151 am162.1).trans z149
  refine W.widen (k := 6) (n := 36) (Nat.le_of_ble_eq_true rfl) (Nat.le_of_ble_eq_true rfl) ?_
  have aqa151 : isA S152 qa151 38 := by rw [← hS152]; exact nw_A (by decide)
  have nqa151 : S152.n qa151 = 6 := by rw [← hS152]; exact nw_n
  have xm163 : ext S S145 := xm137.tr xe146
  have xm164 : ext S S152 := xm163.tr xe153
  have am165 : isA S152 o1 12 := xm164.A h_o1
  obtain ⟨k166, gk166, hk166⟩ := wGt (cy := cy) X S152 am165.1 am165.2.1
  refine va_putF (D := D) (ci := 16) (v := .ref qa151) (ty := (tyX12 5)) (C := RX12) (T := TX12) (N := 34) hx hb hts hi_X12_init_X12 tyX12 tyX12_ok nmX12 hown hK hP hD hS k166 hk166 rfl 5 (by decide) (hts (.fieldLink RX12 41 "HobhouseModel" "kinds" "[C") (by decide +kernel)) (fun _ h9 => h9) rfl hin rfl (by decide +kernel) (rfl) (rfl) (Nat.le_of_ble_eq_true rfl) dX12_init_53 (fun H locs hP2 hD2 hS => ?_)
  have e9 := wPuF (cy := cy) (j := 5) (v := (some qa151)) hD am165.1 am165.2.1 gk166 rfl
  have N167 : ∀ j9, j9 ∉ (4 :: 3 :: 2 :: 1 :: 0 :: 77 :: [] : List Nat) → S145.F o1 j9 = none := by rw [← hS145]; exact fun j9 h9 => (sF_ne (fun q9 => h9 (by rw [q9.2]; exact List.mem_cons_self))).trans (N142 j9 (fun q9 => h9 (List.mem_cons_of_mem _ q9)))
  have Z168 : ∀ j9, j9 ∉ ([] : List Nat) → S145.I o1 j9 = 0 := by rw [← hS145]; exact Z143
  have am171 : isA S145 o1 12 := xm163.A h_o1
  have N169 : ∀ j9, j9 ∉ (4 :: 3 :: 2 :: 1 :: 0 :: 77 :: [] : List Nat) → S152.F o1 j9 = none := by rw [← hS152]; exact fun j9 h9 => (nw_Fo hqa151 am171.1).trans (N167 j9 h9)
  have Z170 : ∀ j9, j9 ∉ ([] : List Nat) → S152.I o1 j9 = 0 := by rw [← hS152]; exact fun j9 h9 => (nw_Io hqa151 am171.1).trans (Z168 j9 h9)
  obtain ⟨S172, hS172⟩ : ∃ z, S152.sF o1 5 (some qa151) = z := ⟨_, rfl⟩
  replace hP : va_P D vwCl (X ++ PL cy S172) H := by rw [← hS172, ← e9]; exact hP2
  replace hD : va_D A (X ++ PL cy S172) := by rw [← hS172, ← e9]; exact hD2
  clear hP2 hD2 e9
  have xe173 : ext S152 S172 := by rw [← hS172]; exact ext.sF (N169 5 (by decide))
  have t174 : stp ([] : List (Nat × Nat)) [o1] (o1 :: R) S S172 := by rw [← hS172]; exact t154.F 5 qa151 List.mem_cons_self (Or.inl List.mem_cons_self) (N169 5 (by decide))
  have z175 : S172.I qa5 2 = 0 := by rw [← hS172]; exact z155
  have z176 : S172.I qa35 2 = 0 := by rw [← hS172]; exact z159
  have F177 : S172.F o1 5 = some qa151 := by rw [← hS172]; exact sF_eq
  refine lv_aload_n hx hb dX12_init_56 rfl (lv_at hl 0 rfl) ?_
  refine lv_bipush (v := 6) hx hb dX12_init_57 (by decide +kernel) ?_
  refine va_newa (atype := .int) hx hb (hts (.arrayClass .int) (by decide +kernel)) (ty := .int) rfl hK hP hD hS hA (N' := 6) (a0 := (6, .inl (fun _ => 0))) (fun _ => rfl) (by decide) (by decide) (by decide) (Nat.le_of_ble_eq_true rfl) (Nat.le_of_ble_eq_true rfl) dX12_init_59 (fun qa178 cqa178 H hK2 hP2 hD2 hS => ?_)
  obtain rfl : cqa178 = cy 2 := cls_int hK hK2
  have hqa178 : qa178 ∉ S172.L := nw_q hD2
  have e9 := wNw (cy := cy) (X := X) (S := S172) (a := qa178) (k := 34) (z := 6) (f := fun _ => 0) (g := fun _ => none) hqa178 rfl
  obtain ⟨S179, hS179⟩ : ∃ z, S172.nw qa178 34 6 (fun _ => 0) (fun _ => none) = z := ⟨_, rfl⟩
  replace hP : va_P D vwCl (X ++ PL cy S179) H := by rw [← hS179, ← e9]; exact hP2
  replace hD : va_D A (X ++ PL cy S179) := by rw [← hS179, ← e9]; exact hD2
  clear hP2 hD2 e9
  have xe180 : ext S172 S179 := by rw [← hS179]; exact ext.nw hqa178
  have t181 : stp ([] : List (Nat × Nat)) [o1] (o1 :: R) S S179 := by rw [← hS179]; exact t174.nwA hqa178 (by decide)
  have xm183 : ext S15 S152 := xm157.tr xe153
  have xm184 : ext S15 S172 := xm183.tr xe173
  have am185 : isA S172 qa5 14 := xm184.A (xe17.A aqa5)
  have z182 : S179.I qa5 2 = 0 := by rw [← hS179]; exact (nw_Io hqa178 am185.1).trans z175
  have xm187 : ext S48 S152 := xm161.tr xe153
  have xm188 : ext S48 S172 := xm187.tr xe173
  have am189 : isA S172 qa35 14 := xm188.A (xe50.A aqa35)
  have z186 : S179.I qa35 2 = 0 := by rw [← hS179]; exact (nw_Io hqa178 am189.1).trans z176
  refine W.widen (k := 7) (n := 42) (Nat.le_of_ble_eq_true rfl) (Nat.le_of_ble_eq_true rfl) ?_
  have aqa178 : isA S179 qa178 34 := by rw [← hS179]; exact nw_A (by decide)
  have nqa178 : S179.n qa178 = 6 := by rw [← hS179]; exact nw_n
  have xm190 : ext S S172 := xm164.tr xe173
  have xm191 : ext S S179 := xm190.tr xe180
  have am192 : isA S179 o1 12 := xm191.A h_o1
  obtain ⟨k193, gk193, hk193⟩ := wGt (cy := cy) X S179 am192.1 am192.2.1
  refine va_putF (D := D) (ci := 16) (v := .ref qa178) (ty := (tyX12 6)) (C := RX12) (T := TX12) (N := 34) hx hb hts hi_X12_init_X12 tyX12 tyX12_ok nmX12 hown hK hP hD hS k193 hk193 rfl 6 (by decide) (hts (.fieldLink RX12 45 "HobhouseModel" "times" "[I") (by decide +kernel)) (fun _ h9 => h9) rfl hin rfl (by decide +kernel) (rfl) (rfl) (Nat.le_of_ble_eq_true rfl) dX12_init_61 (fun H locs hP2 hD2 hS => ?_)
  have e9 := wPuF (cy := cy) (j := 6) (v := (some qa178)) hD am192.1 am192.2.1 gk193 rfl
  have N194 : ∀ j9, j9 ∉ (5 :: 4 :: 3 :: 2 :: 1 :: 0 :: 77 :: [] : List Nat) → S172.F o1 j9 = none := by rw [← hS172]; exact fun j9 h9 => (sF_ne (fun q9 => h9 (by rw [q9.2]; exact List.mem_cons_self))).trans (N169 j9 (fun q9 => h9 (List.mem_cons_of_mem _ q9)))
  have Z195 : ∀ j9, j9 ∉ ([] : List Nat) → S172.I o1 j9 = 0 := by rw [← hS172]; exact Z170
  have am198 : isA S172 o1 12 := xm190.A h_o1
  have N196 : ∀ j9, j9 ∉ (5 :: 4 :: 3 :: 2 :: 1 :: 0 :: 77 :: [] : List Nat) → S179.F o1 j9 = none := by rw [← hS179]; exact fun j9 h9 => (nw_Fo hqa178 am198.1).trans (N194 j9 h9)
  have Z197 : ∀ j9, j9 ∉ ([] : List Nat) → S179.I o1 j9 = 0 := by rw [← hS179]; exact fun j9 h9 => (nw_Io hqa178 am198.1).trans (Z195 j9 h9)
  obtain ⟨S199, hS199⟩ : ∃ z, S179.sF o1 6 (some qa178) = z := ⟨_, rfl⟩
  replace hP : va_P D vwCl (X ++ PL cy S199) H := by rw [← hS199, ← e9]; exact hP2
  replace hD : va_D A (X ++ PL cy S199) := by rw [← hS199, ← e9]; exact hD2
  clear hP2 hD2 e9
  have xe200 : ext S179 S199 := by rw [← hS199]; exact ext.sF (N196 6 (by decide))
  have t201 : stp ([] : List (Nat × Nat)) [o1] (o1 :: R) S S199 := by rw [← hS199]; exact t181.F 6 qa178 List.mem_cons_self (Or.inl List.mem_cons_self) (N196 6 (by decide))
  have z202 : S199.I qa5 2 = 0 := by rw [← hS199]; exact z182
  have z203 : S199.I qa35 2 = 0 := by rw [← hS199]; exact z186
  have F204 : S199.F o1 6 = some qa178 := by rw [← hS199]; exact sF_eq
  refine lv_aload_n hx hb dX12_init_64 rfl (lv_at hl 0 rfl) ?_
  refine lv_bipush (v := 6) hx hb dX12_init_65 (by decide +kernel) ?_
  refine va_newa (atype := .int) hx hb (hts (.arrayClass .int) (by decide +kernel)) (ty := .int) rfl hK hP hD hS hA (N' := 6) (a0 := (6, .inl (fun _ => 0))) (fun _ => rfl) (by decide) (by decide) (by decide) (Nat.le_of_ble_eq_true rfl) (Nat.le_of_ble_eq_true rfl) dX12_init_67 (fun qa205 cqa205 H hK2 hP2 hD2 hS => ?_)
  obtain rfl : cqa205 = cy 2 := cls_int hK hK2
  have hqa205 : qa205 ∉ S199.L := nw_q hD2
  have e9 := wNw (cy := cy) (X := X) (S := S199) (a := qa205) (k := 35) (z := 6) (f := fun _ => 0) (g := fun _ => none) hqa205 rfl
  obtain ⟨S206, hS206⟩ : ∃ z, S199.nw qa205 35 6 (fun _ => 0) (fun _ => none) = z := ⟨_, rfl⟩
  replace hP : va_P D vwCl (X ++ PL cy S206) H := by rw [← hS206, ← e9]; exact hP2
  replace hD : va_D A (X ++ PL cy S206) := by rw [← hS206, ← e9]; exact hD2
  clear hP2 hD2 e9
  have xe207 : ext S199 S206 := by rw [← hS206]; exact ext.nw hqa205
  have t208 : stp ([] : List (Nat × Nat)) [o1] (o1 :: R) S S206 := by rw [← hS206]; exact t201.nwA hqa205 (by decide)
  have xm210 : ext S15 S179 := xm184.tr xe180
  have xm211 : ext S15 S199 := xm210.tr xe200
  have am212 : isA S199 qa5 14 := xm211.A (xe17.A aqa5)
  have z209 : S206.I qa5 2 = 0 := by rw [← hS206]; exact (nw_Io hqa205 am212.1).trans z202
  have xm214 : ext S48 S179 := xm188.tr xe180
  have xm215 : ext S48 S199 := xm214.tr xe200
  have am216 : isA S199 qa35 14 := xm215.A (xe50.A aqa35)
  have z213 : S206.I qa35 2 = 0 := by rw [← hS206]; exact (nw_Io hqa205 am216.1).trans z203
  refine W.widen (k := 8) (n := 48) (Nat.le_of_ble_eq_true rfl) (Nat.le_of_ble_eq_true rfl) ?_
  have aqa205 : isA S206 qa205 35 := by rw [← hS206]; exact nw_A (by decide)
  have nqa205 : S206.n qa205 = 6 := by rw [← hS206]; exact nw_n
  have xm217 : ext S S199 := xm191.tr xe200
  have xm218 : ext S S206 := xm217.tr xe207
  have am219 : isA S206 o1 12 := xm218.A h_o1
  obtain ⟨k220, gk220, hk220⟩ := wGt (cy := cy) X S206 am219.1 am219.2.1
  refine va_putF (D := D) (ci := 16) (v := .ref qa205) (ty := (tyX12 7)) (C := RX12) (T := TX12) (N := 34) hx hb hts hi_X12_init_X12 tyX12 tyX12_ok nmX12 hown hK hP hD hS k220 hk220 rfl 7 (by decide) (hts (.fieldLink RX12 48 "HobhouseModel" "tools" "[I") (by decide +kernel)) (fun _ h9 => h9) rfl hin rfl (by decide +kernel) (rfl) (rfl) (Nat.le_of_ble_eq_true rfl) dX12_init_69 (fun H locs hP2 hD2 hS => ?_)
  have e9 := wPuF (cy := cy) (j := 7) (v := (some qa205)) hD am219.1 am219.2.1 gk220 rfl
  have N221 : ∀ j9, j9 ∉ (6 :: 5 :: 4 :: 3 :: 2 :: 1 :: 0 :: 77 :: [] : List Nat) → S199.F o1 j9 = none := by rw [← hS199]; exact fun j9 h9 => (sF_ne (fun q9 => h9 (by rw [q9.2]; exact List.mem_cons_self))).trans (N196 j9 (fun q9 => h9 (List.mem_cons_of_mem _ q9)))
  have Z222 : ∀ j9, j9 ∉ ([] : List Nat) → S199.I o1 j9 = 0 := by rw [← hS199]; exact Z197
  have am225 : isA S199 o1 12 := xm217.A h_o1
  have N223 : ∀ j9, j9 ∉ (6 :: 5 :: 4 :: 3 :: 2 :: 1 :: 0 :: 77 :: [] : List Nat) → S206.F o1 j9 = none := by rw [← hS206]; exact fun j9 h9 => (nw_Fo hqa205 am225.1).trans (N221 j9 h9)
  have Z224 : ∀ j9, j9 ∉ ([] : List Nat) → S206.I o1 j9 = 0 := by rw [← hS206]; exact fun j9 h9 => (nw_Io hqa205 am225.1).trans (Z222 j9 h9)
  obtain ⟨S226, hS226⟩ : ∃ z, S206.sF o1 7 (some qa205) = z := ⟨_, rfl⟩
  replace hP : va_P D vwCl (X ++ PL cy S226) H := by rw [← hS226, ← e9]; exact hP2
  replace hD : va_D A (X ++ PL cy S226) := by rw [← hS226, ← e9]; exact hD2
  clear hP2 hD2 e9
  have xe227 : ext S206 S226 := by rw [← hS226]; exact ext.sF (N223 7 (by decide))
  have t228 : stp ([] : List (Nat × Nat)) [o1] (o1 :: R) S S226 := by rw [← hS226]; exact t208.F 7 qa205 List.mem_cons_self (Or.inl List.mem_cons_self) (N223 7 (by decide))
  have z229 : S226.I qa5 2 = 0 := by rw [← hS226]; exact z209
  have z230 : S226.I qa35 2 = 0 := by rw [← hS226]; exact z213
  have F231 : S226.F o1 7 = some qa205 := by rw [← hS226]; exact sF_eq
  refine lv_aload_n hx hb dX12_init_72 rfl (lv_at hl 0 rfl) ?_
  refine lv_bipush (v := 6) hx hb dX12_init_73 (by decide +kernel) ?_
  refine va_newa (atype := .int) hx hb (hts (.arrayClass .int) (by decide +kernel)) (ty := .int) rfl hK hP hD hS hA (N' := 6) (a0 := (6, .inl (fun _ => 0))) (fun _ => rfl) (by decide) (by decide) (by decide) (Nat.le_of_ble_eq_true rfl) (Nat.le_of_ble_eq_true rfl) dX12_init_75 (fun qa232 cqa232 H hK2 hP2 hD2 hS => ?_)
  obtain rfl : cqa232 = cy 2 := cls_int hK hK2
  have hqa232 : qa232 ∉ S226.L := nw_q hD2
  have e9 := wNw (cy := cy) (X := X) (S := S226) (a := qa232) (k := 36) (z := 6) (f := fun _ => 0) (g := fun _ => none) hqa232 rfl
  obtain ⟨S233, hS233⟩ : ∃ z, S226.nw qa232 36 6 (fun _ => 0) (fun _ => none) = z := ⟨_, rfl⟩
  replace hP : va_P D vwCl (X ++ PL cy S233) H := by rw [← hS233, ← e9]; exact hP2
  replace hD : va_D A (X ++ PL cy S233) := by rw [← hS233, ← e9]; exact hD2
  clear hP2 hD2 e9
  have xe234 : ext S226 S233 := by rw [← hS233]; exact ext.nw hqa232
  have t235 : stp ([] : List (Nat × Nat)) [o1] (o1 :: R) S S233 := by rw [← hS233]; exact t228.nwA hqa232 (by decide)
  have xm237 : ext S15 S206 := xm211.tr xe207
  have xm238 : ext S15 S226 := xm237.tr xe227
  have am239 : isA S226 qa5 14 := xm238.A (xe17.A aqa5)
  have z236 : S233.I qa5 2 = 0 := by rw [← hS233]; exact (nw_Io hqa232 am239.1).trans z229
  have xm241 : ext S48 S206 := xm215.tr xe207
  have xm242 : ext S48 S226 := xm241.tr xe227
  have am243 : isA S226 qa35 14 := xm242.A (xe50.A aqa35)
  have z240 : S233.I qa35 2 = 0 := by rw [← hS233]; exact (nw_Io hqa232 am243.1).trans z230
  refine W.widen (k := 9) (n := 54) (Nat.le_of_ble_eq_true rfl) (Nat.le_of_ble_eq_true rfl) ?_
  have aqa232 : isA S233 qa232 36 := by rw [← hS233]; exact nw_A (by decide)
  have nqa232 : S233.n qa232 = 6 := by rw [← hS233]; exact nw_n
  have xm244 : ext S S226 := xm218.tr xe227
  have xm245 : ext S S233 := xm244.tr xe234
  have am246 : isA S233 o1 12 := xm245.A h_o1
  obtain ⟨k247, gk247, hk247⟩ := wGt (cy := cy) X S233 am246.1 am246.2.1
  refine va_putF (D := D) (ci := 16) (v := .ref qa232) (ty := (tyX12 8)) (C := RX12) (T := TX12) (N := 34) hx hb hts hi_X12_init_X12 tyX12 tyX12_ok nmX12 hown hK hP hD hS k247 hk247 rfl 8 (by decide) (hts (.fieldLink RX12 51 "HobhouseModel" "frees" "[I") (by decide +kernel)) (fun _ h9 => h9) rfl hin rfl (by decide +kernel) (rfl) (rfl) (Nat.le_of_ble_eq_true rfl) dX12_init_77 (fun H locs hP2 hD2 hS => ?_)
  have e9 := wPuF (cy := cy) (j := 8) (v := (some qa232)) hD am246.1 am246.2.1 gk247 rfl
  have N248 : ∀ j9, j9 ∉ (7 :: 6 :: 5 :: 4 :: 3 :: 2 :: 1 :: 0 :: 77 :: [] : List Nat) → S226.F o1 j9 = none := by rw [← hS226]; exact fun j9 h9 => (sF_ne (fun q9 => h9 (by rw [q9.2]; exact List.mem_cons_self))).trans (N223 j9 (fun q9 => h9 (List.mem_cons_of_mem _ q9)))
  have Z249 : ∀ j9, j9 ∉ ([] : List Nat) → S226.I o1 j9 = 0 := by rw [← hS226]; exact Z224
  have am252 : isA S226 o1 12 := xm244.A h_o1
  have N250 : ∀ j9, j9 ∉ (7 :: 6 :: 5 :: 4 :: 3 :: 2 :: 1 :: 0 :: 77 :: [] : List Nat) → S233.F o1 j9 = none := by rw [← hS233]; exact fun j9 h9 => (nw_Fo hqa232 am252.1).trans (N248 j9 h9)
  have Z251 : ∀ j9, j9 ∉ ([] : List Nat) → S233.I o1 j9 = 0 := by rw [← hS233]; exact fun j9 h9 => (nw_Io hqa232 am252.1).trans (Z249 j9 h9)
  obtain ⟨S253, hS253⟩ : ∃ z, S233.sF o1 8 (some qa232) = z := ⟨_, rfl⟩
  replace hP : va_P D vwCl (X ++ PL cy S253) H := by rw [← hS253, ← e9]; exact hP2
  replace hD : va_D A (X ++ PL cy S253) := by rw [← hS253, ← e9]; exact hD2
  clear hP2 hD2 e9
  have xe254 : ext S233 S253 := by rw [← hS253]; exact ext.sF (N250 8 (by decide))
  have t255 : stp ([] : List (Nat × Nat)) [o1] (o1 :: R) S S253 := by rw [← hS253]; exact t235.F 8 qa232 List.mem_cons_self (Or.inl List.mem_cons_self) (N250 8 (by decide))
  have z256 : S253.I qa5 2 = 0 := by rw [← hS253]; exact z236
  have z257 : S253.I qa35 2 = 0 := by rw [← hS253]; exact z240
  have F258 : S253.F o1 8 = some qa232 := by rw [← hS253]; exact sF_eq
  refine lv_aload_n hx hb dX12_init_80 rfl (lv_at hl 0 rfl) ?_
  refine lv_iconst (v := 4) hx hb dX12_init_81 (by decide) ?_
  refine va_newa (atype := .int) hx hb (hts (.arrayClass .int) (by decide +kernel)) (ty := .int) rfl hK hP hD hS hA (N' := 4) (a0 := (4, .inl (fun _ => 0))) (fun _ => rfl) (by decide) (by decide) (by decide) (Nat.le_of_ble_eq_true rfl) (Nat.le_of_ble_eq_true rfl) dX12_init_82 (fun qa259 cqa259 H hK2 hP2 hD2 hS => ?_)
  obtain rfl : cqa259 = cy 2 := cls_int hK hK2
  have hqa259 : qa259 ∉ S253.L := nw_q hD2
  have e9 := wNw (cy := cy) (X := X) (S := S253) (a := qa259) (k := 23) (z := 4) (f := fun _ => 0) (g := fun _ => none) hqa259 rfl
  obtain ⟨S260, hS260⟩ : ∃ z, S253.nw qa259 23 4 (fun _ => 0) (fun _ => none) = z := ⟨_, rfl⟩
  replace hP : va_P D vwCl (X ++ PL cy S260) H := by rw [← hS260, ← e9]; exact hP2
  replace hD : va_D A (X ++ PL cy S260) := by rw [← hS260, ← e9]; exact hD2
  clear hP2 hD2 e9
  have xe261 : ext S253 S260 := by rw [← hS260]; exact ext.nw hqa259
  have t262 : stp ([] : List (Nat × Nat)) [o1] (o1 :: R) S S260 := by rw [← hS260]; exact t255.nwA hqa259 (by decide)
  have xm264 : ext S15 S233 := xm238.tr xe234
  have xm265 : ext S15 S253 := xm264.tr xe254
  have am266 : isA S253 qa5 14 := xm265.A (xe17.A aqa5)
  have z263 : S260.I qa5 2 = 0 := by rw [← hS260]; exact (nw_Io hqa259 am266.1).trans z256
  have xm268 : ext S48 S233 := xm242.tr xe234
  have xm269 : ext S48 S253 := xm268.tr xe254
  have am270 : isA S253 qa35 14 := xm269.A (xe50.A aqa35)
  have z267 : S260.I qa35 2 = 0 := by rw [← hS260]; exact (nw_Io hqa259 am270.1).trans z257
  refine W.widen (k := 10) (n := 58) (Nat.le_of_ble_eq_true rfl) (Nat.le_of_ble_eq_true rfl) ?_
  have aqa259 : isA S260 qa259 23 := by rw [← hS260]; exact nw_A (by decide)
  have nqa259 : S260.n qa259 = 4 := by rw [← hS260]; exact nw_n
  have zqa259 : ∀ j9, S260.i qa259 j9 = 0 := by rw [← hS260]; exact fun j9 => congrFun (up_qq (f := S253.i)) j9
  have xm271 : ext S S253 := xm245.tr xe254
  have xm272 : ext S S260 := xm271.tr xe261
  have am273 : isA S260 o1 12 := xm272.A h_o1
  obtain ⟨k274, gk274, hk274⟩ := wGt (cy := cy) X S260 am273.1 am273.2.1
  refine va_putF (D := D) (ci := 16) (v := .ref qa259) (ty := (tyX12 9)) (C := RX12) (T := TX12) (N := 34) hx hb hts hi_X12_init_X12 tyX12 tyX12_ok nmX12 hown hK hP hD hS k274 hk274 rfl 9 (by decide) (hts (.fieldLink RX12 54 "HobhouseModel" "pairFirst" "[I") (by decide +kernel)) (fun _ h9 => h9) rfl hin rfl (by decide +kernel) (rfl) (rfl) (Nat.le_of_ble_eq_true rfl) dX12_init_84 (fun H locs hP2 hD2 hS => ?_)
  have e9 := wPuF (cy := cy) (j := 9) (v := (some qa259)) hD am273.1 am273.2.1 gk274 rfl
  have N275 : ∀ j9, j9 ∉ (8 :: 7 :: 6 :: 5 :: 4 :: 3 :: 2 :: 1 :: 0 :: 77 :: [] : List Nat) → S253.F o1 j9 = none := by rw [← hS253]; exact fun j9 h9 => (sF_ne (fun q9 => h9 (by rw [q9.2]; exact List.mem_cons_self))).trans (N250 j9 (fun q9 => h9 (List.mem_cons_of_mem _ q9)))
  have Z276 : ∀ j9, j9 ∉ ([] : List Nat) → S253.I o1 j9 = 0 := by rw [← hS253]; exact Z251
  have am279 : isA S253 o1 12 := xm271.A h_o1
  have N277 : ∀ j9, j9 ∉ (8 :: 7 :: 6 :: 5 :: 4 :: 3 :: 2 :: 1 :: 0 :: 77 :: [] : List Nat) → S260.F o1 j9 = none := by rw [← hS260]; exact fun j9 h9 => (nw_Fo hqa259 am279.1).trans (N275 j9 h9)
  have Z278 : ∀ j9, j9 ∉ ([] : List Nat) → S260.I o1 j9 = 0 := by rw [← hS260]; exact fun j9 h9 => (nw_Io hqa259 am279.1).trans (Z276 j9 h9)
  obtain ⟨S280, hS280⟩ : ∃ z, S260.sF o1 9 (some qa259) = z := ⟨_, rfl⟩
  replace hP : va_P D vwCl (X ++ PL cy S280) H := by rw [← hS280, ← e9]; exact hP2
  replace hD : va_D A (X ++ PL cy S280) := by rw [← hS280, ← e9]; exact hD2
  clear hP2 hD2 e9
  have xe281 : ext S260 S280 := by rw [← hS280]; exact ext.sF (N277 9 (by decide))
  have t282 : stp ([] : List (Nat × Nat)) [o1] (o1 :: R) S S280 := by rw [← hS280]; exact t262.F 9 qa259 List.mem_cons_self (Or.inl List.mem_cons_self) (N277 9 (by decide))
  have z283 : ∀ j9, S280.i qa259 j9 = 0 := by rw [← hS280]; exact zqa259
  have z284 : S280.I qa5 2 = 0 := by rw [← hS280]; exact z263
  have z285 : S280.I qa35 2 = 0 := by rw [← hS280]; exact z267
  have F286 : S280.F o1 9 = some qa259 := by rw [← hS280]; exact sF_eq
  refine lv_aload_n hx hb dX12_init_87 rfl (lv_at hl 0 rfl) ?_
  refine lv_iconst (v := 4) hx hb dX12_init_88 (by decide) ?_
  refine va_newa (atype := .int) hx hb (hts (.arrayClass .int) (by decide +kernel)) (ty := .int) rfl hK hP hD hS hA (N' := 4) (a0 := (4, .inl (fun _ => 0))) (fun _ => rfl) (by decide) (by decide) (by decide) (Nat.le_of_ble_eq_true rfl) (Nat.le_of_ble_eq_true rfl) dX12_init_89 (fun qa287 cqa287 H hK2 hP2 hD2 hS => ?_)
  obtain rfl : cqa287 = cy 2 := cls_int hK hK2
  have hqa287 : qa287 ∉ S280.L := nw_q hD2
  have e9 := wNw (cy := cy) (X := X) (S := S280) (a := qa287) (k := 23) (z := 4) (f := fun _ => 0) (g := fun _ => none) hqa287 rfl
  obtain ⟨S288, hS288⟩ : ∃ z, S280.nw qa287 23 4 (fun _ => 0) (fun _ => none) = z := ⟨_, rfl⟩
  replace hP : va_P D vwCl (X ++ PL cy S288) H := by rw [← hS288, ← e9]; exact hP2
  replace hD : va_D A (X ++ PL cy S288) := by rw [← hS288, ← e9]; exact hD2
  clear hP2 hD2 e9
  have xe289 : ext S280 S288 := by rw [← hS288]; exact ext.nw hqa287
  have t290 : stp ([] : List (Nat × Nat)) [o1] (o1 :: R) S S288 := by rw [← hS288]; exact t282.nwA hqa287 (by decide)
  have am292 : isA S280 qa259 23 := xe281.A aqa259
  have z291 : ∀ j9, S288.i qa259 j9 = 0 := by rw [← hS288]; exact fun j9 => (congrFun (up_nq (f := S280.i) (fun e9 : qa259 = qa287 => hqa287 (e9 ▸ am292.1))) j9).trans (z283 j9)
  have xm294 : ext S15 S260 := xm265.tr xe261
  have xm295 : ext S15 S280 := xm294.tr xe281
  have am296 : isA S280 qa5 14 := xm295.A (xe17.A aqa5)
  have z293 : S288.I qa5 2 = 0 := by rw [← hS288]; exact (nw_Io hqa287 am296.1).trans z284
  have xm298 : ext S48 S260 := xm269.tr xe261
  have xm299 : ext S48 S280 := xm298.tr xe281
  have am300 : isA S280 qa35 14 := xm299.A (xe50.A aqa35)
  have z297 : S288.I qa35 2 = 0 := by rw [← hS288]; exact (nw_Io hqa287 am300.1).trans z285
  refine W.widen (k := 11) (n := 62) (Nat.le_of_ble_eq_true rfl) (Nat.le_of_ble_eq_true rfl) ?_
  have aqa287 : isA S288 qa287 23 := by rw [← hS288]; exact nw_A (by decide)
  have nqa287 : S288.n qa287 = 4 := by rw [← hS288]; exact nw_n
  have zqa287 : ∀ j9, S288.i qa287 j9 = 0 := by rw [← hS288]; exact fun j9 => congrFun (up_qq (f := S280.i)) j9
  have xm301 : ext S S280 := xm272.tr xe281
  have xm302 : ext S S288 := xm301.tr xe289
  have am303 : isA S288 o1 12 := xm302.A h_o1
  obtain ⟨k304, gk304, hk304⟩ := wGt (cy := cy) X S288 am303.1 am303.2.1
  refine va_putF (D := D) (ci := 16) (v := .ref qa287) (ty := (tyX12 10)) (C := RX12) (T := TX12) (N := 34) hx hb hts hi_X12_init_X12 tyX12 tyX12_ok nmX12 hown hK hP hD hS k304 hk304 rfl 10 (by decide) (hts (.fieldLink RX12 57 "HobhouseModel" "pairSecond" "[I") (by decide +kernel)) (fun _ h9 => h9) rfl hin rfl (by decide +kernel) (rfl) (rfl) (Nat.le_of_ble_eq_true rfl) dX12_init_91 (fun H locs hP2 hD2 hS => ?_)
  have e9 := wPuF (cy := cy) (j := 10) (v := (some qa287)) hD am303.1 am303.2.1 gk304 rfl
  have N305 : ∀ j9, j9 ∉ (9 :: 8 :: 7 :: 6 :: 5 :: 4 :: 3 :: 2 :: 1 :: 0 :: 77 :: [] : List Nat) → S280.F o1 j9 = none := by rw [← hS280]; exact fun j9 h9 => (sF_ne (fun q9 => h9 (by rw [q9.2]; exact List.mem_cons_self))).trans (N277 j9 (fun q9 => h9 (List.mem_cons_of_mem _ q9)))
  have Z306 : ∀ j9, j9 ∉ ([] : List Nat) → S280.I o1 j9 = 0 := by rw [← hS280]; exact Z278
  have am309 : isA S280 o1 12 := xm301.A h_o1
  have N307 : ∀ j9, j9 ∉ (9 :: 8 :: 7 :: 6 :: 5 :: 4 :: 3 :: 2 :: 1 :: 0 :: 77 :: [] : List Nat) → S288.F o1 j9 = none := by rw [← hS288]; exact fun j9 h9 => (nw_Fo hqa287 am309.1).trans (N305 j9 h9)
  have Z308 : ∀ j9, j9 ∉ ([] : List Nat) → S288.I o1 j9 = 0 := by rw [← hS288]; exact fun j9 h9 => (nw_Io hqa287 am309.1).trans (Z306 j9 h9)
  obtain ⟨S310, hS310⟩ : ∃ z, S288.sF o1 10 (some qa287) = z := ⟨_, rfl⟩
  replace hP : va_P D vwCl (X ++ PL cy S310) H := by rw [← hS310, ← e9]; exact hP2
  replace hD : va_D A (X ++ PL cy S310) := by rw [← hS310, ← e9]; exact hD2
  clear hP2 hD2 e9
  have xe311 : ext S288 S310 := by rw [← hS310]; exact ext.sF (N307 10 (by decide))
  have t312 : stp ([] : List (Nat × Nat)) [o1] (o1 :: R) S S310 := by rw [← hS310]; exact t290.F 10 qa287 List.mem_cons_self (Or.inl List.mem_cons_self) (N307 10 (by decide))
  have z313 : ∀ j9, S310.i qa259 j9 = 0 := by rw [← hS310]; exact z291
  have z314 : ∀ j9, S310.i qa287 j9 = 0 := by rw [← hS310]; exact zqa287
  have z315 : S310.I qa5 2 = 0 := by rw [← hS310]; exact z293
  have z316 : S310.I qa35 2 = 0 := by rw [← hS310]; exact z297
  have F317 : S310.F o1 10 = some qa287 := by rw [← hS310]; exact sF_eq
  refine lv_aload_n hx hb dX12_init_94 rfl (lv_at hl 0 rfl) ?_
  refine lv_iconst (v := 4) hx hb dX12_init_95 (by decide) ?_
  refine va_newa (atype := .int) hx hb (hts (.arrayClass .int) (by decide +kernel)) (ty := .int) rfl hK hP hD hS hA (N' := 4) (a0 := (4, .inl (fun _ => 0))) (fun _ => rfl) (by decide) (by decide) (by decide) (Nat.le_of_ble_eq_true rfl) (Nat.le_of_ble_eq_true rfl) dX12_init_96 (fun qa318 cqa318 H hK2 hP2 hD2 hS => ?_)
  obtain rfl : cqa318 = cy 2 := cls_int hK hK2
  have hqa318 : qa318 ∉ S310.L := nw_q hD2
  have e9 := wNw (cy := cy) (X := X) (S := S310) (a := qa318) (k := 23) (z := 4) (f := fun _ => 0) (g := fun _ => none) hqa318 rfl
  obtain ⟨S319, hS319⟩ : ∃ z, S310.nw qa318 23 4 (fun _ => 0) (fun _ => none) = z := ⟨_, rfl⟩
  replace hP : va_P D vwCl (X ++ PL cy S319) H := by rw [← hS319, ← e9]; exact hP2
  replace hD : va_D A (X ++ PL cy S319) := by rw [← hS319, ← e9]; exact hD2
  clear hP2 hD2 e9
  have xe320 : ext S310 S319 := by rw [← hS319]; exact ext.nw hqa318
  have t321 : stp ([] : List (Nat × Nat)) [o1] (o1 :: R) S S319 := by rw [← hS319]; exact t312.nwA hqa318 (by decide)
  have xm323 : ext S260 S288 := xe281.tr xe289
  have xm324 : ext S260 S310 := xm323.tr xe311
  have am325 : isA S310 qa259 23 := xm324.A aqa259
  have z322 : ∀ j9, S319.i qa259 j9 = 0 := by rw [← hS319]; exact fun j9 => (congrFun (up_nq (f := S310.i) (fun e9 : qa259 = qa318 => hqa318 (e9 ▸ am325.1))) j9).trans (z313 j9)
  have am327 : isA S310 qa287 23 := xe311.A aqa287
  have z326 : ∀ j9, S319.i qa287 j9 = 0 := by rw [← hS319]; exact fun j9 => (congrFun (up_nq (f := S310.i) (fun e9 : qa287 = qa318 => hqa318 (e9 ▸ am327.1))) j9).trans (z314 j9)
  have xm329 : ext S15 S288 := xm295.tr xe289
  have xm330 : ext S15 S310 := xm329.tr xe311
  have am331 : isA S310 qa5 14 := xm330.A (xe17.A aqa5)
  have z328 : S319.I qa5 2 = 0 := by rw [← hS319]; exact (nw_Io hqa318 am331.1).trans z315
  have xm333 : ext S48 S288 := xm299.tr xe289
  have xm334 : ext S48 S310 := xm333.tr xe311
  have am335 : isA S310 qa35 14 := xm334.A (xe50.A aqa35)
  have z332 : S319.I qa35 2 = 0 := by rw [← hS319]; exact (nw_Io hqa318 am335.1).trans z316
  refine W.widen (k := 12) (n := 66) (Nat.le_of_ble_eq_true rfl) (Nat.le_of_ble_eq_true rfl) ?_
  have aqa318 : isA S319 qa318 23 := by rw [← hS319]; exact nw_A (by decide)
  have nqa318 : S319.n qa318 = 4 := by rw [← hS319]; exact nw_n
  have zqa318 : ∀ j9, S319.i qa318 j9 = 0 := by rw [← hS319]; exact fun j9 => congrFun (up_qq (f := S310.i)) j9
  have xm336 : ext S S310 := xm302.tr xe311
  have xm337 : ext S S319 := xm336.tr xe320
  have am338 : isA S319 o1 12 := xm337.A h_o1
  obtain ⟨k339, gk339, hk339⟩ := wGt (cy := cy) X S319 am338.1 am338.2.1
  refine va_putF (D := D) (ci := 16) (v := .ref qa318) (ty := (tyX12 11)) (C := RX12) (T := TX12) (N := 34) hx hb hts hi_X12_init_X12 tyX12 tyX12_ok nmX12 hown hK hP hD hS k339 hk339 rfl 11 (by decide) (hts (.fieldLink RX12 60 "HobhouseModel" "bestFirst" "[I") (by decide +kernel)) (fun _ h9 => h9) rfl hin rfl (by decide +kernel) (rfl) (rfl) (Nat.le_of_ble_eq_true rfl) dX12_init_98 (fun H locs hP2 hD2 hS => ?_)
  have e9 := wPuF (cy := cy) (j := 11) (v := (some qa318)) hD am338.1 am338.2.1 gk339 rfl
  have N340 : ∀ j9, j9 ∉ (10 :: 9 :: 8 :: 7 :: 6 :: 5 :: 4 :: 3 :: 2 :: 1 :: 0 :: 77 :: [] : List Nat) → S310.F o1 j9 = none := by rw [← hS310]; exact fun j9 h9 => (sF_ne (fun q9 => h9 (by rw [q9.2]; exact List.mem_cons_self))).trans (N307 j9 (fun q9 => h9 (List.mem_cons_of_mem _ q9)))
  have Z341 : ∀ j9, j9 ∉ ([] : List Nat) → S310.I o1 j9 = 0 := by rw [← hS310]; exact Z308
  have am344 : isA S310 o1 12 := xm336.A h_o1
  have N342 : ∀ j9, j9 ∉ (10 :: 9 :: 8 :: 7 :: 6 :: 5 :: 4 :: 3 :: 2 :: 1 :: 0 :: 77 :: [] : List Nat) → S319.F o1 j9 = none := by rw [← hS319]; exact fun j9 h9 => (nw_Fo hqa318 am344.1).trans (N340 j9 h9)
  have Z343 : ∀ j9, j9 ∉ ([] : List Nat) → S319.I o1 j9 = 0 := by rw [← hS319]; exact fun j9 h9 => (nw_Io hqa318 am344.1).trans (Z341 j9 h9)
  obtain ⟨S345, hS345⟩ : ∃ z, S319.sF o1 11 (some qa318) = z := ⟨_, rfl⟩
  replace hP : va_P D vwCl (X ++ PL cy S345) H := by rw [← hS345, ← e9]; exact hP2
  replace hD : va_D A (X ++ PL cy S345) := by rw [← hS345, ← e9]; exact hD2
  clear hP2 hD2 e9
  have xe346 : ext S319 S345 := by rw [← hS345]; exact ext.sF (N342 11 (by decide))
  have t347 : stp ([] : List (Nat × Nat)) [o1] (o1 :: R) S S345 := by rw [← hS345]; exact t321.F 11 qa318 List.mem_cons_self (Or.inl List.mem_cons_self) (N342 11 (by decide))
  have z348 : ∀ j9, S345.i qa259 j9 = 0 := by rw [← hS345]; exact z322
  have z349 : ∀ j9, S345.i qa287 j9 = 0 := by rw [← hS345]; exact z326
  have z350 : ∀ j9, S345.i qa318 j9 = 0 := by rw [← hS345]; exact zqa318
  have z351 : S345.I qa5 2 = 0 := by rw [← hS345]; exact z328
  have z352 : S345.I qa35 2 = 0 := by rw [← hS345]; exact z332
  have F353 : S345.F o1 11 = some qa318 := by rw [← hS345]; exact sF_eq
  refine lv_aload_n hx hb dX12_init_101 rfl (lv_at hl 0 rfl) ?_
  refine lv_iconst (v := 4) hx hb dX12_init_102 (by decide) ?_
  refine va_newa (atype := .int) hx hb (hts (.arrayClass .int) (by decide +kernel)) (ty := .int) rfl hK hP hD hS hA (N' := 4) (a0 := (4, .inl (fun _ => 0))) (fun _ => rfl) (by decide) (by decide) (by decide) (Nat.le_of_ble_eq_true rfl) (Nat.le_of_ble_eq_true rfl) dX12_init_103 (fun qa354 cqa354 H hK2 hP2 hD2 hS => ?_)
  obtain rfl : cqa354 = cy 2 := cls_int hK hK2
  have hqa354 : qa354 ∉ S345.L := nw_q hD2
  have e9 := wNw (cy := cy) (X := X) (S := S345) (a := qa354) (k := 23) (z := 4) (f := fun _ => 0) (g := fun _ => none) hqa354 rfl
  obtain ⟨S355, hS355⟩ : ∃ z, S345.nw qa354 23 4 (fun _ => 0) (fun _ => none) = z := ⟨_, rfl⟩
  replace hP : va_P D vwCl (X ++ PL cy S355) H := by rw [← hS355, ← e9]; exact hP2
  replace hD : va_D A (X ++ PL cy S355) := by rw [← hS355, ← e9]; exact hD2
  clear hP2 hD2 e9
  have xe356 : ext S345 S355 := by rw [← hS355]; exact ext.nw hqa354
  have t357 : stp ([] : List (Nat × Nat)) [o1] (o1 :: R) S S355 := by rw [← hS355]; exact t347.nwA hqa354 (by decide)
  have xm359 : ext S260 S319 := xm324.tr xe320
  have xm360 : ext S260 S345 := xm359.tr xe346
  have am361 : isA S345 qa259 23 := xm360.A aqa259
  have z358 : ∀ j9, S355.i qa259 j9 = 0 := by rw [← hS355]; exact fun j9 => (congrFun (up_nq (f := S345.i) (fun e9 : qa259 = qa354 => hqa354 (e9 ▸ am361.1))) j9).trans (z348 j9)
  have xm363 : ext S288 S319 := xe311.tr xe320
  have xm364 : ext S288 S345 := xm363.tr xe346
  have am365 : isA S345 qa287 23 := xm364.A aqa287
  have z362 : ∀ j9, S355.i qa287 j9 = 0 := by rw [← hS355]; exact fun j9 => (congrFun (up_nq (f := S345.i) (fun e9 : qa287 = qa354 => hqa354 (e9 ▸ am365.1))) j9).trans (z349 j9)
  have am367 : isA S345 qa318 23 := xe346.A aqa318
  have z366 : ∀ j9, S355.i qa318 j9 = 0 := by rw [← hS355]; exact fun j9 => (congrFun (up_nq (f := S345.i) (fun e9 : qa318 = qa354 => hqa354 (e9 ▸ am367.1))) j9).trans (z350 j9)
  have xm369 : ext S15 S319 := xm330.tr xe320
  have xm370 : ext S15 S345 := xm369.tr xe346
  have am371 : isA S345 qa5 14 := xm370.A (xe17.A aqa5)
  have z368 : S355.I qa5 2 = 0 := by rw [← hS355]; exact (nw_Io hqa354 am371.1).trans z351
  have xm373 : ext S48 S319 := xm334.tr xe320
  have xm374 : ext S48 S345 := xm373.tr xe346
  have am375 : isA S345 qa35 14 := xm374.A (xe50.A aqa35)
  have z372 : S355.I qa35 2 = 0 := by rw [← hS355]; exact (nw_Io hqa354 am375.1).trans z352
  refine W.widen (k := 13) (n := 70) (Nat.le_of_ble_eq_true rfl) (Nat.le_of_ble_eq_true rfl) ?_
  have aqa354 : isA S355 qa354 23 := by rw [← hS355]; exact nw_A (by decide)
  have nqa354 : S355.n qa354 = 4 := by rw [← hS355]; exact nw_n
  have zqa354 : ∀ j9, S355.i qa354 j9 = 0 := by rw [← hS355]; exact fun j9 => congrFun (up_qq (f := S345.i)) j9
  have xm376 : ext S S345 := xm337.tr xe346
  have xm377 : ext S S355 := xm376.tr xe356
  have am378 : isA S355 o1 12 := xm377.A h_o1
  obtain ⟨k379, gk379, hk379⟩ := wGt (cy := cy) X S355 am378.1 am378.2.1
  refine va_putF (D := D) (ci := 16) (v := .ref qa354) (ty := (tyX12 12)) (C := RX12) (T := TX12) (N := 34) hx hb hts hi_X12_init_X12 tyX12 tyX12_ok nmX12 hown hK hP hD hS k379 hk379 rfl 12 (by decide) (hts (.fieldLink RX12 63 "HobhouseModel" "bestSecond" "[I") (by decide +kernel)) (fun _ h9 => h9) rfl hin rfl (by decide +kernel) (rfl) (rfl) (Nat.le_of_ble_eq_true rfl) dX12_init_105 (fun H locs hP2 hD2 hS => ?_)
  have e9 := wPuF (cy := cy) (j := 12) (v := (some qa354)) hD am378.1 am378.2.1 gk379 rfl
  have N380 : ∀ j9, j9 ∉ (11 :: 10 :: 9 :: 8 :: 7 :: 6 :: 5 :: 4 :: 3 :: 2 :: 1 :: 0 :: 77 :: [] : List Nat) → S345.F o1 j9 = none := by rw [← hS345]; exact fun j9 h9 => (sF_ne (fun q9 => h9 (by rw [q9.2]; exact List.mem_cons_self))).trans (N342 j9 (fun q9 => h9 (List.mem_cons_of_mem _ q9)))
  have Z381 : ∀ j9, j9 ∉ ([] : List Nat) → S345.I o1 j9 = 0 := by rw [← hS345]; exact Z343
  have am384 : isA S345 o1 12 := xm376.A h_o1
  have N382 : ∀ j9, j9 ∉ (11 :: 10 :: 9 :: 8 :: 7 :: 6 :: 5 :: 4 :: 3 :: 2 :: 1 :: 0 :: 77 :: [] : List Nat) → S355.F o1 j9 = none := by rw [← hS355]; exact fun j9 h9 => (nw_Fo hqa354 am384.1).trans (N380 j9 h9)
  have Z383 : ∀ j9, j9 ∉ ([] : List Nat) → S355.I o1 j9 = 0 := by rw [← hS355]; exact fun j9 h9 => (nw_Io hqa354 am384.1).trans (Z381 j9 h9)
  obtain ⟨S385, hS385⟩ : ∃ z, S355.sF o1 12 (some qa354) = z := ⟨_, rfl⟩
  replace hP : va_P D vwCl (X ++ PL cy S385) H := by rw [← hS385, ← e9]; exact hP2
  replace hD : va_D A (X ++ PL cy S385) := by rw [← hS385, ← e9]; exact hD2
  clear hP2 hD2 e9
  have xe386 : ext S355 S385 := by rw [← hS385]; exact ext.sF (N382 12 (by decide))
  have t387 : stp ([] : List (Nat × Nat)) [o1] (o1 :: R) S S385 := by rw [← hS385]; exact t357.F 12 qa354 List.mem_cons_self (Or.inl List.mem_cons_self) (N382 12 (by decide))
  have z388 : ∀ j9, S385.i qa259 j9 = 0 := by rw [← hS385]; exact z358
  have z389 : ∀ j9, S385.i qa287 j9 = 0 := by rw [← hS385]; exact z362
  have z390 : ∀ j9, S385.i qa318 j9 = 0 := by rw [← hS385]; exact z366
  have z391 : ∀ j9, S385.i qa354 j9 = 0 := by rw [← hS385]; exact zqa354
  have z392 : S385.I qa5 2 = 0 := by rw [← hS385]; exact z368
  have z393 : S385.I qa35 2 = 0 := by rw [← hS385]; exact z372
  have F394 : S385.F o1 12 = some qa354 := by rw [← hS385]; exact sF_eq
  refine lv_aload_n hx hb dX12_init_108 rfl (lv_at hl 0 rfl) ?_
  refine lv_iconst (v := 5) hx hb dX12_init_109 (by decide) ?_
  refine va_newa (atype := .int) hx hb (hts (.arrayClass .int) (by decide +kernel)) (ty := .int) rfl hK hP hD hS hA (N' := 5) (a0 := (5, .inl (fun _ => 0))) (fun _ => rfl) (by decide) (by decide) (by decide) (Nat.le_of_ble_eq_true rfl) (Nat.le_of_ble_eq_true rfl) dX12_init_110 (fun qa395 cqa395 H hK2 hP2 hD2 hS => ?_)
  obtain rfl : cqa395 = cy 2 := cls_int hK hK2
  have hqa395 : qa395 ∉ S385.L := nw_q hD2
  have e9 := wNw (cy := cy) (X := X) (S := S385) (a := qa395) (k := 23) (z := 5) (f := fun _ => 0) (g := fun _ => none) hqa395 rfl
  obtain ⟨S396, hS396⟩ : ∃ z, S385.nw qa395 23 5 (fun _ => 0) (fun _ => none) = z := ⟨_, rfl⟩
  replace hP : va_P D vwCl (X ++ PL cy S396) H := by rw [← hS396, ← e9]; exact hP2
  replace hD : va_D A (X ++ PL cy S396) := by rw [← hS396, ← e9]; exact hD2
  clear hP2 hD2 e9
  have xe397 : ext S385 S396 := by rw [← hS396]; exact ext.nw hqa395
  have t398 : stp ([] : List (Nat × Nat)) [o1] (o1 :: R) S S396 := by rw [← hS396]; exact t387.nwA hqa395 (by decide)
  have xm400 : ext S260 S355 := xm360.tr xe356
  have xm401 : ext S260 S385 := xm400.tr xe386
  have am402 : isA S385 qa259 23 := xm401.A aqa259
  have z399 : ∀ j9, S396.i qa259 j9 = 0 := by rw [← hS396]; exact fun j9 => (congrFun (up_nq (f := S385.i) (fun e9 : qa259 = qa395 => hqa395 (e9 ▸ am402.1))) j9).trans (z388 j9)
  have xm404 : ext S288 S355 := xm364.tr xe356
  have xm405 : ext S288 S385 := xm404.tr xe386
  have am406 : isA S385 qa287 23 := xm405.A aqa287
  have z403 : ∀ j9, S396.i qa287 j9 = 0 := by rw [← hS396]; exact fun j9 => (congrFun (up_nq (f := S385.i) (fun e9 : qa287 = qa395 => hqa395 (e9 ▸ am406.1))) j9).trans (z389 j9)
  have xm408 : ext S319 S355 := xe346.tr xe356
  have xm409 : ext S319 S385 := xm408.tr xe386
  have am410 : isA S385 qa318 23 := xm409.A aqa318
  have z407 : ∀ j9, S396.i qa318 j9 = 0 := by rw [← hS396]; exact fun j9 => (congrFun (up_nq (f := S385.i) (fun e9 : qa318 = qa395 => hqa395 (e9 ▸ am410.1))) j9).trans (z390 j9)
  have am412 : isA S385 qa354 23 := xe386.A aqa354
  have z411 : ∀ j9, S396.i qa354 j9 = 0 := by rw [← hS396]; exact fun j9 => (congrFun (up_nq (f := S385.i) (fun e9 : qa354 = qa395 => hqa395 (e9 ▸ am412.1))) j9).trans (z391 j9)
  have xm414 : ext S15 S355 := xm370.tr xe356
  have xm415 : ext S15 S385 := xm414.tr xe386
  have am416 : isA S385 qa5 14 := xm415.A (xe17.A aqa5)
  have z413 : S396.I qa5 2 = 0 := by rw [← hS396]; exact (nw_Io hqa395 am416.1).trans z392
  have xm418 : ext S48 S355 := xm374.tr xe356
  have xm419 : ext S48 S385 := xm418.tr xe386
  have am420 : isA S385 qa35 14 := xm419.A (xe50.A aqa35)
  have z417 : S396.I qa35 2 = 0 := by rw [← hS396]; exact (nw_Io hqa395 am420.1).trans z393
  refine W.widen (k := 14) (n := 75) (Nat.le_of_ble_eq_true rfl) (Nat.le_of_ble_eq_true rfl) ?_
  have aqa395 : isA S396 qa395 23 := by rw [← hS396]; exact nw_A (by decide)
  have nqa395 : S396.n qa395 = 5 := by rw [← hS396]; exact nw_n
  have zqa395 : ∀ j9, S396.i qa395 j9 = 0 := by rw [← hS396]; exact fun j9 => congrFun (up_qq (f := S385.i)) j9
  have xm421 : ext S S385 := xm377.tr xe386
  have xm422 : ext S S396 := xm421.tr xe397
  have am423 : isA S396 o1 12 := xm422.A h_o1
  obtain ⟨k424, gk424, hk424⟩ := wGt (cy := cy) X S396 am423.1 am423.2.1
  refine va_putF (D := D) (ci := 16) (v := .ref qa395) (ty := (tyX12 13)) (C := RX12) (T := TX12) (N := 34) hx hb hts hi_X12_init_X12 tyX12 tyX12_ok nmX12 hown hK hP hD hS k424 hk424 rfl 13 (by decide) (hts (.fieldLink RX12 66 "HobhouseModel" "firsts" "[I") (by decide +kernel)) (fun _ h9 => h9) rfl hin rfl (by decide +kernel) (rfl) (rfl) (Nat.le_of_ble_eq_true rfl) dX12_init_112 (fun H locs hP2 hD2 hS => ?_)
  have e9 := wPuF (cy := cy) (j := 13) (v := (some qa395)) hD am423.1 am423.2.1 gk424 rfl
  have N425 : ∀ j9, j9 ∉ (12 :: 11 :: 10 :: 9 :: 8 :: 7 :: 6 :: 5 :: 4 :: 3 :: 2 :: 1 :: 0 :: 77 :: [] : List Nat) → S385.F o1 j9 = none := by rw [← hS385]; exact fun j9 h9 => (sF_ne (fun q9 => h9 (by rw [q9.2]; exact List.mem_cons_self))).trans (N382 j9 (fun q9 => h9 (List.mem_cons_of_mem _ q9)))
  have Z426 : ∀ j9, j9 ∉ ([] : List Nat) → S385.I o1 j9 = 0 := by rw [← hS385]; exact Z383
  have am429 : isA S385 o1 12 := xm421.A h_o1
  have N427 : ∀ j9, j9 ∉ (12 :: 11 :: 10 :: 9 :: 8 :: 7 :: 6 :: 5 :: 4 :: 3 :: 2 :: 1 :: 0 :: 77 :: [] : List Nat) → S396.F o1 j9 = none := by rw [← hS396]; exact fun j9 h9 => (nw_Fo hqa395 am429.1).trans (N425 j9 h9)
  have Z428 : ∀ j9, j9 ∉ ([] : List Nat) → S396.I o1 j9 = 0 := by rw [← hS396]; exact fun j9 h9 => (nw_Io hqa395 am429.1).trans (Z426 j9 h9)
  obtain ⟨S430, hS430⟩ : ∃ z, S396.sF o1 13 (some qa395) = z := ⟨_, rfl⟩
  replace hP : va_P D vwCl (X ++ PL cy S430) H := by rw [← hS430, ← e9]; exact hP2
  replace hD : va_D A (X ++ PL cy S430) := by rw [← hS430, ← e9]; exact hD2
  clear hP2 hD2 e9
  have xe431 : ext S396 S430 := by rw [← hS430]; exact ext.sF (N427 13 (by decide))
  have t432 : stp ([] : List (Nat × Nat)) [o1] (o1 :: R) S S430 := by rw [← hS430]; exact t398.F 13 qa395 List.mem_cons_self (Or.inl List.mem_cons_self) (N427 13 (by decide))
  have z433 : ∀ j9, S430.i qa259 j9 = 0 := by rw [← hS430]; exact z399
  have z434 : ∀ j9, S430.i qa287 j9 = 0 := by rw [← hS430]; exact z403
  have z435 : ∀ j9, S430.i qa318 j9 = 0 := by rw [← hS430]; exact z407
  have z436 : ∀ j9, S430.i qa354 j9 = 0 := by rw [← hS430]; exact z411
  have z437 : ∀ j9, S430.i qa395 j9 = 0 := by rw [← hS430]; exact zqa395
  have z438 : S430.I qa5 2 = 0 := by rw [← hS430]; exact z413
  have z439 : S430.I qa35 2 = 0 := by rw [← hS430]; exact z417
  have F440 : S430.F o1 13 = some qa395 := by rw [← hS430]; exact sF_eq
  refine lv_aload_n hx hb dX12_init_115 rfl (lv_at hl 0 rfl) ?_
  refine lv_iconst (v := 5) hx hb dX12_init_116 (by decide) ?_
  refine va_newa (atype := .int) hx hb (hts (.arrayClass .int) (by decide +kernel)) (ty := .int) rfl hK hP hD hS hA (N' := 5) (a0 := (5, .inl (fun _ => 0))) (fun _ => rfl) (by decide) (by decide) (by decide) (Nat.le_of_ble_eq_true rfl) (Nat.le_of_ble_eq_true rfl) dX12_init_117 (fun qa441 cqa441 H hK2 hP2 hD2 hS => ?_)
  obtain rfl : cqa441 = cy 2 := cls_int hK hK2
  have hqa441 : qa441 ∉ S430.L := nw_q hD2
  have e9 := wNw (cy := cy) (X := X) (S := S430) (a := qa441) (k := 23) (z := 5) (f := fun _ => 0) (g := fun _ => none) hqa441 rfl
  obtain ⟨S442, hS442⟩ : ∃ z, S430.nw qa441 23 5 (fun _ => 0) (fun _ => none) = z := ⟨_, rfl⟩
  replace hP : va_P D vwCl (X ++ PL cy S442) H := by rw [← hS442, ← e9]; exact hP2
  replace hD : va_D A (X ++ PL cy S442) := by rw [← hS442, ← e9]; exact hD2
  clear hP2 hD2 e9
  have xe443 : ext S430 S442 := by rw [← hS442]; exact ext.nw hqa441
  have t444 : stp ([] : List (Nat × Nat)) [o1] (o1 :: R) S S442 := by rw [← hS442]; exact t432.nwA hqa441 (by decide)
  have xm446 : ext S260 S396 := xm401.tr xe397
  have xm447 : ext S260 S430 := xm446.tr xe431
  have am448 : isA S430 qa259 23 := xm447.A aqa259
  have z445 : ∀ j9, S442.i qa259 j9 = 0 := by rw [← hS442]; exact fun j9 => (congrFun (up_nq (f := S430.i) (fun e9 : qa259 = qa441 => hqa441 (e9 ▸ am448.1))) j9).trans (z433 j9)
  have xm450 : ext S288 S396 := xm405.tr xe397
  have xm451 : ext S288 S430 := xm450.tr xe431
  have am452 : isA S430 qa287 23 := xm451.A aqa287
  have z449 : ∀ j9, S442.i qa287 j9 = 0 := by rw [← hS442]; exact fun j9 => (congrFun (up_nq (f := S430.i) (fun e9 : qa287 = qa441 => hqa441 (e9 ▸ am452.1))) j9).trans (z434 j9)
  have xm454 : ext S319 S396 := xm409.tr xe397
  have xm455 : ext S319 S430 := xm454.tr xe431
  have am456 : isA S430 qa318 23 := xm455.A aqa318
  have z453 : ∀ j9, S442.i qa318 j9 = 0 := by rw [← hS442]; exact fun j9 => (congrFun (up_nq (f := S430.i) (fun e9 : qa318 = qa441 => hqa441 (e9 ▸ am456.1))) j9).trans (z435 j9)
  have xm458 : ext S355 S396 := xe386.tr xe397
  have xm459 : ext S355 S430 := xm458.tr xe431
  have am460 : isA S430 qa354 23 := xm459.A aqa354
  have z457 : ∀ j9, S442.i qa354 j9 = 0 := by rw [← hS442]; exact fun j9 => (congrFun (up_nq (f := S430.i) (fun e9 : qa354 = qa441 => hqa441 (e9 ▸ am460.1))) j9).trans (z436 j9)
  have am462 : isA S430 qa395 23 := xe431.A aqa395
  have z461 : ∀ j9, S442.i qa395 j9 = 0 := by rw [← hS442]; exact fun j9 => (congrFun (up_nq (f := S430.i) (fun e9 : qa395 = qa441 => hqa441 (e9 ▸ am462.1))) j9).trans (z437 j9)
  have xm464 : ext S15 S396 := xm415.tr xe397
  have xm465 : ext S15 S430 := xm464.tr xe431
  have am466 : isA S430 qa5 14 := xm465.A (xe17.A aqa5)
  have z463 : S442.I qa5 2 = 0 := by rw [← hS442]; exact (nw_Io hqa441 am466.1).trans z438
  have xm468 : ext S48 S396 := xm419.tr xe397
  have xm469 : ext S48 S430 := xm468.tr xe431
  have am470 : isA S430 qa35 14 := xm469.A (xe50.A aqa35)
  have z467 : S442.I qa35 2 = 0 := by rw [← hS442]; exact (nw_Io hqa441 am470.1).trans z439
  refine W.widen (k := 15) (n := 80) (Nat.le_of_ble_eq_true rfl) (Nat.le_of_ble_eq_true rfl) ?_
  have aqa441 : isA S442 qa441 23 := by rw [← hS442]; exact nw_A (by decide)
  have nqa441 : S442.n qa441 = 5 := by rw [← hS442]; exact nw_n
  have zqa441 : ∀ j9, S442.i qa441 j9 = 0 := by rw [← hS442]; exact fun j9 => congrFun (up_qq (f := S430.i)) j9
  have xm471 : ext S S430 := xm422.tr xe431
  have xm472 : ext S S442 := xm471.tr xe443
  have am473 : isA S442 o1 12 := xm472.A h_o1
  obtain ⟨k474, gk474, hk474⟩ := wGt (cy := cy) X S442 am473.1 am473.2.1
  refine va_putF (D := D) (ci := 16) (v := .ref qa441) (ty := (tyX12 14)) (C := RX12) (T := TX12) (N := 34) hx hb hts hi_X12_init_X12 tyX12 tyX12_ok nmX12 hown hK hP hD hS k474 hk474 rfl 14 (by decide) (hts (.fieldLink RX12 69 "HobhouseModel" "seconds" "[I") (by decide +kernel)) (fun _ h9 => h9) rfl hin rfl (by decide +kernel) (rfl) (rfl) (Nat.le_of_ble_eq_true rfl) dX12_init_119 (fun H locs hP2 hD2 hS => ?_)
  have e9 := wPuF (cy := cy) (j := 14) (v := (some qa441)) hD am473.1 am473.2.1 gk474 rfl
  have N475 : ∀ j9, j9 ∉ (13 :: 12 :: 11 :: 10 :: 9 :: 8 :: 7 :: 6 :: 5 :: 4 :: 3 :: 2 :: 1 :: 0 :: 77 :: [] : List Nat) → S430.F o1 j9 = none := by rw [← hS430]; exact fun j9 h9 => (sF_ne (fun q9 => h9 (by rw [q9.2]; exact List.mem_cons_self))).trans (N427 j9 (fun q9 => h9 (List.mem_cons_of_mem _ q9)))
  have Z476 : ∀ j9, j9 ∉ ([] : List Nat) → S430.I o1 j9 = 0 := by rw [← hS430]; exact Z428
  have am479 : isA S430 o1 12 := xm471.A h_o1
  have N477 : ∀ j9, j9 ∉ (13 :: 12 :: 11 :: 10 :: 9 :: 8 :: 7 :: 6 :: 5 :: 4 :: 3 :: 2 :: 1 :: 0 :: 77 :: [] : List Nat) → S442.F o1 j9 = none := by rw [← hS442]; exact fun j9 h9 => (nw_Fo hqa441 am479.1).trans (N475 j9 h9)
  have Z478 : ∀ j9, j9 ∉ ([] : List Nat) → S442.I o1 j9 = 0 := by rw [← hS442]; exact fun j9 h9 => (nw_Io hqa441 am479.1).trans (Z476 j9 h9)
  obtain ⟨S480, hS480⟩ : ∃ z, S442.sF o1 14 (some qa441) = z := ⟨_, rfl⟩
  replace hP : va_P D vwCl (X ++ PL cy S480) H := by rw [← hS480, ← e9]; exact hP2
  replace hD : va_D A (X ++ PL cy S480) := by rw [← hS480, ← e9]; exact hD2
  clear hP2 hD2 e9
  have xe481 : ext S442 S480 := by rw [← hS480]; exact ext.sF (N477 14 (by decide))
  have t482 : stp ([] : List (Nat × Nat)) [o1] (o1 :: R) S S480 := by rw [← hS480]; exact t444.F 14 qa441 List.mem_cons_self (Or.inl List.mem_cons_self) (N477 14 (by decide))
  have z483 : ∀ j9, S480.i qa259 j9 = 0 := by rw [← hS480]; exact z445
  have z484 : ∀ j9, S480.i qa287 j9 = 0 := by rw [← hS480]; exact z449
  have z485 : ∀ j9, S480.i qa318 j9 = 0 := by rw [← hS480]; exact z453
  have z486 : ∀ j9, S480.i qa354 j9 = 0 := by rw [← hS480]; exact z457
  have z487 : ∀ j9, S480.i qa395 j9 = 0 := by rw [← hS480]; exact z461
  have z488 : ∀ j9, S480.i qa441 j9 = 0 := by rw [← hS480]; exact zqa441
  have z489 : S480.I qa5 2 = 0 := by rw [← hS480]; exact z463
  have z490 : S480.I qa35 2 = 0 := by rw [← hS480]; exact z467
  have F491 : S480.F o1 14 = some qa441 := by rw [← hS480]; exact sF_eq
  refine lv_aload_n hx hb dX12_init_122 rfl (lv_at hl 0 rfl) ?_
  refine lv_bipush (v := 24) hx hb dX12_init_123 (by decide +kernel) ?_
  have xm492 : ext S S480 := xm472.tr xe481
  have am493 : isA S480 o1 12 := xm492.A h_o1
  obtain ⟨k494, gk494, hk494⟩ := wGt (cy := cy) X S480 am493.1 am493.2.1
  refine va_put (D := D) (ci := 16) (v := .int (24 : Int32)) (ty := .int) (C := RX12) (T := TX12) (N := 34) hx hb hts hi_X12_init_X12 tyX12 tyX12_ok nmX12 hown hK hP hD hS k494 hk494 rfl 17 (by decide) (hts (.fieldLink RX12 72 "HobhouseModel" "constant" "I") (by decide +kernel)) (fun _ h9 => h9) rfl (by decide +kernel) (rfl) (rfl) (Nat.le_of_ble_eq_true rfl) dX12_init_125 (fun H locs hP2 hD2 hS => ?_)
  have e9 := wPuI (cy := cy) (j := 17) (v := (24 : Int32)) hD am493.1 am493.2.1 gk494 rfl
  obtain ⟨S495, hS495⟩ : ∃ z, S480.sI o1 17 (24 : Int32) = z := ⟨_, rfl⟩
  replace hP : va_P D vwCl (X ++ PL cy S495) H := by rw [← hS495, ← e9]; exact hP2
  replace hD : va_D A (X ++ PL cy S495) := by rw [← hS495, ← e9]; exact hD2
  clear hP2 hD2 e9
  have xe496 : ext S480 S495 := by rw [← hS495]; exact ext.sI _ _ _ _
  have t497 : stp ([] : List (Nat × Nat)) [o1] (o1 :: R) S S495 := by rw [← hS495]; exact t482.Ir 17 (24 : Int32) List.mem_cons_self (Or.inl List.mem_cons_self)
  have z498 : ∀ j9, S495.i qa259 j9 = 0 := by rw [← hS495]; exact z483
  have z499 : ∀ j9, S495.i qa287 j9 = 0 := by rw [← hS495]; exact z484
  have z500 : ∀ j9, S495.i qa318 j9 = 0 := by rw [← hS495]; exact z485
  have z501 : ∀ j9, S495.i qa354 j9 = 0 := by rw [← hS495]; exact z486
  have z502 : ∀ j9, S495.i qa395 j9 = 0 := by rw [← hS495]; exact z487
  have z503 : ∀ j9, S495.i qa441 j9 = 0 := by rw [← hS495]; exact z488
  have xm505 : ext S15 S442 := xm465.tr xe443
  have xm506 : ext S15 S480 := xm505.tr xe481
  have am507 : isA S480 qa5 14 := xm506.A (xe17.A aqa5)
  have z504 : S495.I qa5 2 = 0 := by rw [← hS495]; exact (congrFun (sI_no (fun e9 : qa5 = o1 => absurd (am507.2.1.symm.trans ((congrArg S480.K e9).trans am493.2.1)) (by decide))) 2).trans z489
  have xm509 : ext S48 S442 := xm469.tr xe443
  have xm510 : ext S48 S480 := xm509.tr xe481
  have am511 : isA S480 qa35 14 := xm510.A (xe50.A aqa35)
  have z508 : S495.I qa35 2 = 0 := by rw [← hS495]; exact (congrFun (sI_no (fun e9 : qa35 = o1 => absurd (am511.2.1.symm.trans ((congrArg S480.K e9).trans am493.2.1)) (by decide))) 2).trans z490
  refine lv_aload_n hx hb dX12_init_128 rfl (lv_at hl 0 rfl) ?_
  refine lv_bipush (v := 60) hx hb dX12_init_129 (by decide +kernel) ?_
  have xm512 : ext S S495 := xm492.tr xe496
  have am513 : isA S495 o1 12 := xm512.A h_o1
  obtain ⟨k514, gk514, hk514⟩ := wGt (cy := cy) X S495 am513.1 am513.2.1
  refine va_put (D := D) (ci := 16) (v := .int (60 : Int32)) (ty := .int) (C := RX12) (T := TX12) (N := 34) hx hb hts hi_X12_init_X12 tyX12 tyX12_ok nmX12 hown hK hP hD hS k514 hk514 rfl 18 (by decide) (hts (.fieldLink RX12 76 "HobhouseModel" "wheelTeeth" "I") (by decide +kernel)) (fun _ h9 => h9) rfl (by decide +kernel) (rfl) (rfl) (Nat.le_of_ble_eq_true rfl) dX12_init_131 (fun H locs hP2 hD2 hS => ?_)
  have e9 := wPuI (cy := cy) (j := 18) (v := (60 : Int32)) hD am513.1 am513.2.1 gk514 rfl
  obtain ⟨S515, hS515⟩ : ∃ z, S495.sI o1 18 (60 : Int32) = z := ⟨_, rfl⟩
  replace hP : va_P D vwCl (X ++ PL cy S515) H := by rw [← hS515, ← e9]; exact hP2
  replace hD : va_D A (X ++ PL cy S515) := by rw [← hS515, ← e9]; exact hD2
  clear hP2 hD2 e9
  have xe516 : ext S495 S515 := by rw [← hS515]; exact ext.sI _ _ _ _
  have t517 : stp ([] : List (Nat × Nat)) [o1] (o1 :: R) S S515 := by rw [← hS515]; exact t497.Ir 18 (60 : Int32) List.mem_cons_self (Or.inl List.mem_cons_self)
  have z518 : ∀ j9, S515.i qa259 j9 = 0 := by rw [← hS515]; exact z498
  have z519 : ∀ j9, S515.i qa287 j9 = 0 := by rw [← hS515]; exact z499
  have z520 : ∀ j9, S515.i qa318 j9 = 0 := by rw [← hS515]; exact z500
  have z521 : ∀ j9, S515.i qa354 j9 = 0 := by rw [← hS515]; exact z501
  have z522 : ∀ j9, S515.i qa395 j9 = 0 := by rw [← hS515]; exact z502
  have z523 : ∀ j9, S515.i qa441 j9 = 0 := by rw [← hS515]; exact z503
  have xm525 : ext S15 S495 := xm506.tr xe496
  have am526 : isA S495 qa5 14 := xm525.A (xe17.A aqa5)
  have z524 : S515.I qa5 2 = 0 := by rw [← hS515]; exact (congrFun (sI_no (fun e9 : qa5 = o1 => absurd (am526.2.1.symm.trans ((congrArg S495.K e9).trans am513.2.1)) (by decide))) 2).trans z504
  have xm528 : ext S48 S495 := xm510.tr xe496
  have am529 : isA S495 qa35 14 := xm528.A (xe50.A aqa35)
  have z527 : S515.I qa35 2 = 0 := by rw [← hS515]; exact (congrFun (sI_no (fun e9 : qa35 = o1 => absurd (am529.2.1.symm.trans ((congrArg S495.K e9).trans am513.2.1)) (by decide))) 2).trans z508
  refine lv_aload_n hx hb dX12_init_134 rfl (lv_at hl 0 rfl) ?_
  refine lv_sipush (v := 200) hx hb dX12_init_135 (by decide +kernel) ?_
  refine va_newa (atype := .int) hx hb (hts (.arrayClass .int) (by decide +kernel)) (ty := .int) rfl hK hP hD hS hA (N' := 200) (a0 := (200, .inl (fun _ => 0))) (fun _ => rfl) (by decide) (by decide) (by decide) (Nat.le_of_ble_eq_true rfl) (Nat.le_of_ble_eq_true rfl) dX12_init_138 (fun qa530 cqa530 H hK2 hP2 hD2 hS => ?_)
  obtain rfl : cqa530 = cy 2 := cls_int hK hK2
  have hqa530 : qa530 ∉ S515.L := nw_q hD2
  have e9 := wNw (cy := cy) (X := X) (S := S515) (a := qa530) (k := 17) (z := 200) (f := fun _ => 0) (g := fun _ => none) hqa530 rfl
  obtain ⟨S531, hS531⟩ : ∃ z, S515.nw qa530 17 200 (fun _ => 0) (fun _ => none) = z := ⟨_, rfl⟩
  replace hP : va_P D vwCl (X ++ PL cy S531) H := by rw [← hS531, ← e9]; exact hP2
  replace hD : va_D A (X ++ PL cy S531) := by rw [← hS531, ← e9]; exact hD2
  clear hP2 hD2 e9
  have xe532 : ext S515 S531 := by rw [← hS531]; exact ext.nw hqa530
  have t533 : stp ([] : List (Nat × Nat)) [o1] (o1 :: R) S S531 := by rw [← hS531]; exact t517.nwA hqa530 (by decide)
  have xm535 : ext S260 S442 := xm447.tr xe443
  have xm536 : ext S260 S480 := xm535.tr xe481
  have xm537 : ext S260 S495 := xm536.tr xe496
  have xm538 : ext S260 S515 := xm537.tr xe516
  have am539 : isA S515 qa259 23 := xm538.A aqa259
  have z534 : ∀ j9, S531.i qa259 j9 = 0 := by rw [← hS531]; exact fun j9 => (congrFun (up_nq (f := S515.i) (fun e9 : qa259 = qa530 => hqa530 (e9 ▸ am539.1))) j9).trans (z518 j9)
  have xm541 : ext S288 S442 := xm451.tr xe443
  have xm542 : ext S288 S480 := xm541.tr xe481
  have xm543 : ext S288 S495 := xm542.tr xe496
  have xm544 : ext S288 S515 := xm543.tr xe516
  have am545 : isA S515 qa287 23 := xm544.A aqa287
  have z540 : ∀ j9, S531.i qa287 j9 = 0 := by rw [← hS531]; exact fun j9 => (congrFun (up_nq (f := S515.i) (fun e9 : qa287 = qa530 => hqa530 (e9 ▸ am545.1))) j9).trans (z519 j9)
  have xm547 : ext S319 S442 := xm455.tr xe443
  have xm548 : ext S319 S480 := xm547.tr xe481
  have xm549 : ext S319 S495 := xm548.tr xe496
  have xm550 : ext S319 S515 := xm549.tr xe516
  have am551 : isA S515 qa318 23 := xm550.A aqa318
  have z546 : ∀ j9, S531.i qa318 j9 = 0 := by rw [← hS531]; exact fun j9 => (congrFun (up_nq (f := S515.i) (fun e9 : qa318 = qa530 => hqa530 (e9 ▸ am551.1))) j9).trans (z520 j9)
  have xm553 : ext S355 S442 := xm459.tr xe443
  have xm554 : ext S355 S480 := xm553.tr xe481
  have xm555 : ext S355 S495 := xm554.tr xe496
  have xm556 : ext S355 S515 := xm555.tr xe516
  have am557 : isA S515 qa354 23 := xm556.A aqa354
  have z552 : ∀ j9, S531.i qa354 j9 = 0 := by rw [← hS531]; exact fun j9 => (congrFun (up_nq (f := S515.i) (fun e9 : qa354 = qa530 => hqa530 (e9 ▸ am557.1))) j9).trans (z521 j9)
  have xm559 : ext S396 S442 := xe431.tr xe443
  have xm560 : ext S396 S480 := xm559.tr xe481
  have xm561 : ext S396 S495 := xm560.tr xe496
  have xm562 : ext S396 S515 := xm561.tr xe516
  have am563 : isA S515 qa395 23 := xm562.A aqa395
  have z558 : ∀ j9, S531.i qa395 j9 = 0 := by rw [← hS531]; exact fun j9 => (congrFun (up_nq (f := S515.i) (fun e9 : qa395 = qa530 => hqa530 (e9 ▸ am563.1))) j9).trans (z522 j9)
  have xm565 : ext S442 S495 := xe481.tr xe496
  have xm566 : ext S442 S515 := xm565.tr xe516
  have am567 : isA S515 qa441 23 := xm566.A aqa441
  have z564 : ∀ j9, S531.i qa441 j9 = 0 := by rw [← hS531]; exact fun j9 => (congrFun (up_nq (f := S515.i) (fun e9 : qa441 = qa530 => hqa530 (e9 ▸ am567.1))) j9).trans (z523 j9)
  have xm569 : ext S15 S515 := xm525.tr xe516
  have am570 : isA S515 qa5 14 := xm569.A (xe17.A aqa5)
  have z568 : S531.I qa5 2 = 0 := by rw [← hS531]; exact (nw_Io hqa530 am570.1).trans z524
  have xm572 : ext S48 S515 := xm528.tr xe516
  have am573 : isA S515 qa35 14 := xm572.A (xe50.A aqa35)
  have z571 : S531.I qa35 2 = 0 := by rw [← hS531]; exact (nw_Io hqa530 am573.1).trans z527
  refine W.widen (k := 16) (n := 280) (Nat.le_of_ble_eq_true rfl) (Nat.le_of_ble_eq_true rfl) ?_
  have aqa530 : isA S531 qa530 17 := by rw [← hS531]; exact nw_A (by decide)
  have nqa530 : S531.n qa530 = 200 := by rw [← hS531]; exact nw_n
  have xm574 : ext S S515 := xm512.tr xe516
  have xm575 : ext S S531 := xm574.tr xe532
  have am576 : isA S531 o1 12 := xm575.A h_o1
  obtain ⟨k577, gk577, hk577⟩ := wGt (cy := cy) X S531 am576.1 am576.2.1
  refine va_putF (D := D) (ci := 16) (v := .ref qa530) (ty := (tyX12 29)) (C := RX12) (T := TX12) (N := 34) hx hb hts hi_X12_init_X12 tyX12 tyX12_ok nmX12 hown hK hP hD hS k577 hk577 rfl 29 (by decide) (hts (.fieldLink RX12 79 "HobhouseModel" "highOne" "[I") (by decide +kernel)) (fun _ h9 => h9) rfl hin rfl (by decide +kernel) (rfl) (rfl) (Nat.le_of_ble_eq_true rfl) dX12_init_140 (fun H locs hP2 hD2 hS => ?_)
  have e9 := wPuF (cy := cy) (j := 29) (v := (some qa530)) hD am576.1 am576.2.1 gk577 rfl
  have N578 : ∀ j9, j9 ∉ (14 :: 13 :: 12 :: 11 :: 10 :: 9 :: 8 :: 7 :: 6 :: 5 :: 4 :: 3 :: 2 :: 1 :: 0 :: 77 :: [] : List Nat) → S480.F o1 j9 = none := by rw [← hS480]; exact fun j9 h9 => (sF_ne (fun q9 => h9 (by rw [q9.2]; exact List.mem_cons_self))).trans (N477 j9 (fun q9 => h9 (List.mem_cons_of_mem _ q9)))
  have Z579 : ∀ j9, j9 ∉ ([] : List Nat) → S480.I o1 j9 = 0 := by rw [← hS480]; exact Z478
  have N580 : ∀ j9, j9 ∉ (14 :: 13 :: 12 :: 11 :: 10 :: 9 :: 8 :: 7 :: 6 :: 5 :: 4 :: 3 :: 2 :: 1 :: 0 :: 77 :: [] : List Nat) → S495.F o1 j9 = none := by rw [← hS495]; exact N578
  have Z581 : ∀ j9, j9 ∉ (17 :: [] : List Nat) → S495.I o1 j9 = 0 := by rw [← hS495]; exact fun j9 h9 => (sI_I (fun q9 => h9 (by rw [q9.2]; exact List.mem_cons_self))).trans (Z579 j9 (fun q9 => h9 (List.mem_cons_of_mem _ q9)))
  have N582 : ∀ j9, j9 ∉ (14 :: 13 :: 12 :: 11 :: 10 :: 9 :: 8 :: 7 :: 6 :: 5 :: 4 :: 3 :: 2 :: 1 :: 0 :: 77 :: [] : List Nat) → S515.F o1 j9 = none := by rw [← hS515]; exact N580
  have Z583 : ∀ j9, j9 ∉ (18 :: 17 :: [] : List Nat) → S515.I o1 j9 = 0 := by rw [← hS515]; exact fun j9 h9 => (sI_I (fun q9 => h9 (by rw [q9.2]; exact List.mem_cons_self))).trans (Z581 j9 (fun q9 => h9 (List.mem_cons_of_mem _ q9)))
  have am586 : isA S515 o1 12 := xm574.A h_o1
  have N584 : ∀ j9, j9 ∉ (14 :: 13 :: 12 :: 11 :: 10 :: 9 :: 8 :: 7 :: 6 :: 5 :: 4 :: 3 :: 2 :: 1 :: 0 :: 77 :: [] : List Nat) → S531.F o1 j9 = none := by rw [← hS531]; exact fun j9 h9 => (nw_Fo hqa530 am586.1).trans (N582 j9 h9)
  have Z585 : ∀ j9, j9 ∉ (18 :: 17 :: [] : List Nat) → S531.I o1 j9 = 0 := by rw [← hS531]; exact fun j9 h9 => (nw_Io hqa530 am586.1).trans (Z583 j9 h9)
  obtain ⟨S587, hS587⟩ : ∃ z, S531.sF o1 29 (some qa530) = z := ⟨_, rfl⟩
  replace hP : va_P D vwCl (X ++ PL cy S587) H := by rw [← hS587, ← e9]; exact hP2
  replace hD : va_D A (X ++ PL cy S587) := by rw [← hS587, ← e9]; exact hD2
  clear hP2 hD2 e9
  have xe588 : ext S531 S587 := by rw [← hS587]; exact ext.sF (N584 29 (by decide))
  have t589 : stp ([] : List (Nat × Nat)) [o1] (o1 :: R) S S587 := by rw [← hS587]; exact t533.F 29 qa530 List.mem_cons_self (Or.inl List.mem_cons_self) (N584 29 (by decide))
  have z590 : ∀ j9, S587.i qa259 j9 = 0 := by rw [← hS587]; exact z534
  have z591 : ∀ j9, S587.i qa287 j9 = 0 := by rw [← hS587]; exact z540
  have z592 : ∀ j9, S587.i qa318 j9 = 0 := by rw [← hS587]; exact z546
  have z593 : ∀ j9, S587.i qa354 j9 = 0 := by rw [← hS587]; exact z552
  have z594 : ∀ j9, S587.i qa395 j9 = 0 := by rw [← hS587]; exact z558
  have z595 : ∀ j9, S587.i qa441 j9 = 0 := by rw [← hS587]; exact z564
  have z596 : S587.I qa5 2 = 0 := by rw [← hS587]; exact z568
  have z597 : S587.I qa35 2 = 0 := by rw [← hS587]; exact z571
  have F598 : S587.F o1 29 = some qa530 := by rw [← hS587]; exact sF_eq
  refine lv_aload_n hx hb dX12_init_143 rfl (lv_at hl 0 rfl) ?_
  refine lv_sipush (v := 200) hx hb dX12_init_144 (by decide +kernel) ?_
  refine va_newa (atype := .int) hx hb (hts (.arrayClass .int) (by decide +kernel)) (ty := .int) rfl hK hP hD hS hA (N' := 200) (a0 := (200, .inl (fun _ => 0))) (fun _ => rfl) (by decide) (by decide) (by decide) (Nat.le_of_ble_eq_true rfl) (Nat.le_of_ble_eq_true rfl) dX12_init_147 (fun qa599 cqa599 H hK2 hP2 hD2 hS => ?_)
  obtain rfl : cqa599 = cy 2 := cls_int hK hK2
  have hqa599 : qa599 ∉ S587.L := nw_q hD2
  have e9 := wNw (cy := cy) (X := X) (S := S587) (a := qa599) (k := 17) (z := 200) (f := fun _ => 0) (g := fun _ => none) hqa599 rfl
  obtain ⟨S600, hS600⟩ : ∃ z, S587.nw qa599 17 200 (fun _ => 0) (fun _ => none) = z := ⟨_, rfl⟩
  replace hP : va_P D vwCl (X ++ PL cy S600) H := by rw [← hS600, ← e9]; exact hP2
  replace hD : va_D A (X ++ PL cy S600) := by rw [← hS600, ← e9]; exact hD2
  clear hP2 hD2 e9
  have xe601 : ext S587 S600 := by rw [← hS600]; exact ext.nw hqa599
  have t602 : stp ([] : List (Nat × Nat)) [o1] (o1 :: R) S S600 := by rw [← hS600]; exact t589.nwA hqa599 (by decide)
  have xm604 : ext S260 S531 := xm538.tr xe532
  have xm605 : ext S260 S587 := xm604.tr xe588
  have am606 : isA S587 qa259 23 := xm605.A aqa259
  have z603 : ∀ j9, S600.i qa259 j9 = 0 := by rw [← hS600]; exact fun j9 => (congrFun (up_nq (f := S587.i) (fun e9 : qa259 = qa599 => hqa599 (e9 ▸ am606.1))) j9).trans (z590 j9)
  have xm608 : ext S288 S531 := xm544.tr xe532
  have xm609 : ext S288 S587 := xm608.tr xe588
  have am610 : isA S587 qa287 23 := xm609.A aqa287
  have z607 : ∀ j9, S600.i qa287 j9 = 0 := by rw [← hS600]; exact fun j9 => (congrFun (up_nq (f := S587.i) (fun e9 : qa287 = qa599 => hqa599 (e9 ▸ am610.1))) j9).trans (z591 j9)
  have xm612 : ext S319 S531 := xm550.tr xe532
  have xm613 : ext S319 S587 := xm612.tr xe588
  have am614 : isA S587 qa318 23 := xm613.A aqa318
  have z611 : ∀ j9, S600.i qa318 j9 = 0 := by rw [← hS600]; exact fun j9 => (congrFun (up_nq (f := S587.i) (fun e9 : qa318 = qa599 => hqa599 (e9 ▸ am614.1))) j9).trans (z592 j9)
  have xm616 : ext S355 S531 := xm556.tr xe532
  have xm617 : ext S355 S587 := xm616.tr xe588
  have am618 : isA S587 qa354 23 := xm617.A aqa354
  have z615 : ∀ j9, S600.i qa354 j9 = 0 := by rw [← hS600]; exact fun j9 => (congrFun (up_nq (f := S587.i) (fun e9 : qa354 = qa599 => hqa599 (e9 ▸ am618.1))) j9).trans (z593 j9)
  have xm620 : ext S396 S531 := xm562.tr xe532
  have xm621 : ext S396 S587 := xm620.tr xe588
  have am622 : isA S587 qa395 23 := xm621.A aqa395
  have z619 : ∀ j9, S600.i qa395 j9 = 0 := by rw [← hS600]; exact fun j9 => (congrFun (up_nq (f := S587.i) (fun e9 : qa395 = qa599 => hqa599 (e9 ▸ am622.1))) j9).trans (z594 j9)
  have xm624 : ext S442 S531 := xm566.tr xe532
  have xm625 : ext S442 S587 := xm624.tr xe588
  have am626 : isA S587 qa441 23 := xm625.A aqa441
  have z623 : ∀ j9, S600.i qa441 j9 = 0 := by rw [← hS600]; exact fun j9 => (congrFun (up_nq (f := S587.i) (fun e9 : qa441 = qa599 => hqa599 (e9 ▸ am626.1))) j9).trans (z595 j9)
  have xm628 : ext S15 S531 := xm569.tr xe532
  have xm629 : ext S15 S587 := xm628.tr xe588
  have am630 : isA S587 qa5 14 := xm629.A (xe17.A aqa5)
  have z627 : S600.I qa5 2 = 0 := by rw [← hS600]; exact (nw_Io hqa599 am630.1).trans z596
  have xm632 : ext S48 S531 := xm572.tr xe532
  have xm633 : ext S48 S587 := xm632.tr xe588
  have am634 : isA S587 qa35 14 := xm633.A (xe50.A aqa35)
  have z631 : S600.I qa35 2 = 0 := by rw [← hS600]; exact (nw_Io hqa599 am634.1).trans z597
  refine W.widen (k := 17) (n := 480) (Nat.le_of_ble_eq_true rfl) (Nat.le_of_ble_eq_true rfl) ?_
  have aqa599 : isA S600 qa599 17 := by rw [← hS600]; exact nw_A (by decide)
  have nqa599 : S600.n qa599 = 200 := by rw [← hS600]; exact nw_n
  have xm635 : ext S S587 := xm575.tr xe588
  have xm636 : ext S S600 := xm635.tr xe601
  have am637 : isA S600 o1 12 := xm636.A h_o1
  obtain ⟨k638, gk638, hk638⟩ := wGt (cy := cy) X S600 am637.1 am637.2.1
  refine va_putF (D := D) (ci := 16) (v := .ref qa599) (ty := (tyX12 30)) (C := RX12) (T := TX12) (N := 34) hx hb hts hi_X12_init_X12 tyX12 tyX12_ok nmX12 hown hK hP hD hS k638 hk638 rfl 30 (by decide) (hts (.fieldLink RX12 82 "HobhouseModel" "lowOne" "[I") (by decide +kernel)) (fun _ h9 => h9) rfl hin rfl (by decide +kernel) (rfl) (rfl) (Nat.le_of_ble_eq_true rfl) dX12_init_149 (fun H locs hP2 hD2 hS => ?_)
  have e9 := wPuF (cy := cy) (j := 30) (v := (some qa599)) hD am637.1 am637.2.1 gk638 rfl
  have N639 : ∀ j9, j9 ∉ (29 :: 14 :: 13 :: 12 :: 11 :: 10 :: 9 :: 8 :: 7 :: 6 :: 5 :: 4 :: 3 :: 2 :: 1 :: 0 :: 77 :: [] : List Nat) → S587.F o1 j9 = none := by rw [← hS587]; exact fun j9 h9 => (sF_ne (fun q9 => h9 (by rw [q9.2]; exact List.mem_cons_self))).trans (N584 j9 (fun q9 => h9 (List.mem_cons_of_mem _ q9)))
  have Z640 : ∀ j9, j9 ∉ (18 :: 17 :: [] : List Nat) → S587.I o1 j9 = 0 := by rw [← hS587]; exact Z585
  have am643 : isA S587 o1 12 := xm635.A h_o1
  have N641 : ∀ j9, j9 ∉ (29 :: 14 :: 13 :: 12 :: 11 :: 10 :: 9 :: 8 :: 7 :: 6 :: 5 :: 4 :: 3 :: 2 :: 1 :: 0 :: 77 :: [] : List Nat) → S600.F o1 j9 = none := by rw [← hS600]; exact fun j9 h9 => (nw_Fo hqa599 am643.1).trans (N639 j9 h9)
  have Z642 : ∀ j9, j9 ∉ (18 :: 17 :: [] : List Nat) → S600.I o1 j9 = 0 := by rw [← hS600]; exact fun j9 h9 => (nw_Io hqa599 am643.1).trans (Z640 j9 h9)
  obtain ⟨S644, hS644⟩ : ∃ z, S600.sF o1 30 (some qa599) = z := ⟨_, rfl⟩
  replace hP : va_P D vwCl (X ++ PL cy S644) H := by rw [← hS644, ← e9]; exact hP2
  replace hD : va_D A (X ++ PL cy S644) := by rw [← hS644, ← e9]; exact hD2
  clear hP2 hD2 e9
  have xe645 : ext S600 S644 := by rw [← hS644]; exact ext.sF (N641 30 (by decide))
  have t646 : stp ([] : List (Nat × Nat)) [o1] (o1 :: R) S S644 := by rw [← hS644]; exact t602.F 30 qa599 List.mem_cons_self (Or.inl List.mem_cons_self) (N641 30 (by decide))
  have z647 : ∀ j9, S644.i qa259 j9 = 0 := by rw [← hS644]; exact z603
  have z648 : ∀ j9, S644.i qa287 j9 = 0 := by rw [← hS644]; exact z607
  have z649 : ∀ j9, S644.i qa318 j9 = 0 := by rw [← hS644]; exact z611
  have z650 : ∀ j9, S644.i qa354 j9 = 0 := by rw [← hS644]; exact z615
  have z651 : ∀ j9, S644.i qa395 j9 = 0 := by rw [← hS644]; exact z619
  have z652 : ∀ j9, S644.i qa441 j9 = 0 := by rw [← hS644]; exact z623
  have z653 : S644.I qa5 2 = 0 := by rw [← hS644]; exact z627
  have z654 : S644.I qa35 2 = 0 := by rw [← hS644]; exact z631
  have F655 : S644.F o1 30 = some qa599 := by rw [← hS644]; exact sF_eq
  refine lv_aload_n hx hb dX12_init_152 rfl (lv_at hl 0 rfl) ?_
  refine lv_sipush (v := 200) hx hb dX12_init_153 (by decide +kernel) ?_
  refine va_newa (atype := .int) hx hb (hts (.arrayClass .int) (by decide +kernel)) (ty := .int) rfl hK hP hD hS hA (N' := 200) (a0 := (200, .inl (fun _ => 0))) (fun _ => rfl) (by decide) (by decide) (by decide) (Nat.le_of_ble_eq_true rfl) (Nat.le_of_ble_eq_true rfl) dX12_init_156 (fun qa656 cqa656 H hK2 hP2 hD2 hS => ?_)
  obtain rfl : cqa656 = cy 2 := cls_int hK hK2
  have hqa656 : qa656 ∉ S644.L := nw_q hD2
  have e9 := wNw (cy := cy) (X := X) (S := S644) (a := qa656) (k := 17) (z := 200) (f := fun _ => 0) (g := fun _ => none) hqa656 rfl
  obtain ⟨S657, hS657⟩ : ∃ z, S644.nw qa656 17 200 (fun _ => 0) (fun _ => none) = z := ⟨_, rfl⟩
  replace hP : va_P D vwCl (X ++ PL cy S657) H := by rw [← hS657, ← e9]; exact hP2
  replace hD : va_D A (X ++ PL cy S657) := by rw [← hS657, ← e9]; exact hD2
  clear hP2 hD2 e9
  have xe658 : ext S644 S657 := by rw [← hS657]; exact ext.nw hqa656
  have t659 : stp ([] : List (Nat × Nat)) [o1] (o1 :: R) S S657 := by rw [← hS657]; exact t646.nwA hqa656 (by decide)
  have xm661 : ext S260 S600 := xm605.tr xe601
  have xm662 : ext S260 S644 := xm661.tr xe645
  have am663 : isA S644 qa259 23 := xm662.A aqa259
  have z660 : ∀ j9, S657.i qa259 j9 = 0 := by rw [← hS657]; exact fun j9 => (congrFun (up_nq (f := S644.i) (fun e9 : qa259 = qa656 => hqa656 (e9 ▸ am663.1))) j9).trans (z647 j9)
  have xm665 : ext S288 S600 := xm609.tr xe601
  have xm666 : ext S288 S644 := xm665.tr xe645
  have am667 : isA S644 qa287 23 := xm666.A aqa287
  have z664 : ∀ j9, S657.i qa287 j9 = 0 := by rw [← hS657]; exact fun j9 => (congrFun (up_nq (f := S644.i) (fun e9 : qa287 = qa656 => hqa656 (e9 ▸ am667.1))) j9).trans (z648 j9)
  have xm669 : ext S319 S600 := xm613.tr xe601
  have xm670 : ext S319 S644 := xm669.tr xe645
  have am671 : isA S644 qa318 23 := xm670.A aqa318
  have z668 : ∀ j9, S657.i qa318 j9 = 0 := by rw [← hS657]; exact fun j9 => (congrFun (up_nq (f := S644.i) (fun e9 : qa318 = qa656 => hqa656 (e9 ▸ am671.1))) j9).trans (z649 j9)
  have xm673 : ext S355 S600 := xm617.tr xe601
  have xm674 : ext S355 S644 := xm673.tr xe645
  have am675 : isA S644 qa354 23 := xm674.A aqa354
  have z672 : ∀ j9, S657.i qa354 j9 = 0 := by rw [← hS657]; exact fun j9 => (congrFun (up_nq (f := S644.i) (fun e9 : qa354 = qa656 => hqa656 (e9 ▸ am675.1))) j9).trans (z650 j9)
  have xm677 : ext S396 S600 := xm621.tr xe601
  have xm678 : ext S396 S644 := xm677.tr xe645
  have am679 : isA S644 qa395 23 := xm678.A aqa395
  have z676 : ∀ j9, S657.i qa395 j9 = 0 := by rw [← hS657]; exact fun j9 => (congrFun (up_nq (f := S644.i) (fun e9 : qa395 = qa656 => hqa656 (e9 ▸ am679.1))) j9).trans (z651 j9)
  have xm681 : ext S442 S600 := xm625.tr xe601
  have xm682 : ext S442 S644 := xm681.tr xe645
  have am683 : isA S644 qa441 23 := xm682.A aqa441
  have z680 : ∀ j9, S657.i qa441 j9 = 0 := by rw [← hS657]; exact fun j9 => (congrFun (up_nq (f := S644.i) (fun e9 : qa441 = qa656 => hqa656 (e9 ▸ am683.1))) j9).trans (z652 j9)
  have xm685 : ext S15 S600 := xm629.tr xe601
  have xm686 : ext S15 S644 := xm685.tr xe645
  have am687 : isA S644 qa5 14 := xm686.A (xe17.A aqa5)
  have z684 : S657.I qa5 2 = 0 := by rw [← hS657]; exact (nw_Io hqa656 am687.1).trans z653
  have xm689 : ext S48 S600 := xm633.tr xe601
  have xm690 : ext S48 S644 := xm689.tr xe645
  have am691 : isA S644 qa35 14 := xm690.A (xe50.A aqa35)
  have z688 : S657.I qa35 2 = 0 := by rw [← hS657]; exact (nw_Io hqa656 am691.1).trans z654
  refine W.widen (k := 18) (n := 680) (Nat.le_of_ble_eq_true rfl) (Nat.le_of_ble_eq_true rfl) ?_
  have aqa656 : isA S657 qa656 17 := by rw [← hS657]; exact nw_A (by decide)
  have nqa656 : S657.n qa656 = 200 := by rw [← hS657]; exact nw_n
  have xm692 : ext S S644 := xm636.tr xe645
  have xm693 : ext S S657 := xm692.tr xe658
  have am694 : isA S657 o1 12 := xm693.A h_o1
  obtain ⟨k695, gk695, hk695⟩ := wGt (cy := cy) X S657 am694.1 am694.2.1
  refine va_putF (D := D) (ci := 16) (v := .ref qa656) (ty := (tyX12 31)) (C := RX12) (T := TX12) (N := 34) hx hb hts hi_X12_init_X12 tyX12 tyX12_ok nmX12 hown hK hP hD hS k695 hk695 rfl 31 (by decide) (hts (.fieldLink RX12 85 "HobhouseModel" "highOther" "[I") (by decide +kernel)) (fun _ h9 => h9) rfl hin rfl (by decide +kernel) (rfl) (rfl) (Nat.le_of_ble_eq_true rfl) dX12_init_158 (fun H locs hP2 hD2 hS => ?_)
  have e9 := wPuF (cy := cy) (j := 31) (v := (some qa656)) hD am694.1 am694.2.1 gk695 rfl
  have N696 : ∀ j9, j9 ∉ (30 :: 29 :: 14 :: 13 :: 12 :: 11 :: 10 :: 9 :: 8 :: 7 :: 6 :: 5 :: 4 :: 3 :: 2 :: 1 :: 0 :: 77 :: [] : List Nat) → S644.F o1 j9 = none := by rw [← hS644]; exact fun j9 h9 => (sF_ne (fun q9 => h9 (by rw [q9.2]; exact List.mem_cons_self))).trans (N641 j9 (fun q9 => h9 (List.mem_cons_of_mem _ q9)))
  have Z697 : ∀ j9, j9 ∉ (18 :: 17 :: [] : List Nat) → S644.I o1 j9 = 0 := by rw [← hS644]; exact Z642
  have am700 : isA S644 o1 12 := xm692.A h_o1
  have N698 : ∀ j9, j9 ∉ (30 :: 29 :: 14 :: 13 :: 12 :: 11 :: 10 :: 9 :: 8 :: 7 :: 6 :: 5 :: 4 :: 3 :: 2 :: 1 :: 0 :: 77 :: [] : List Nat) → S657.F o1 j9 = none := by rw [← hS657]; exact fun j9 h9 => (nw_Fo hqa656 am700.1).trans (N696 j9 h9)
  have Z699 : ∀ j9, j9 ∉ (18 :: 17 :: [] : List Nat) → S657.I o1 j9 = 0 := by rw [← hS657]; exact fun j9 h9 => (nw_Io hqa656 am700.1).trans (Z697 j9 h9)
  obtain ⟨S701, hS701⟩ : ∃ z, S657.sF o1 31 (some qa656) = z := ⟨_, rfl⟩
  replace hP : va_P D vwCl (X ++ PL cy S701) H := by rw [← hS701, ← e9]; exact hP2
  replace hD : va_D A (X ++ PL cy S701) := by rw [← hS701, ← e9]; exact hD2
  clear hP2 hD2 e9
  have xe702 : ext S657 S701 := by rw [← hS701]; exact ext.sF (N698 31 (by decide))
  have t703 : stp ([] : List (Nat × Nat)) [o1] (o1 :: R) S S701 := by rw [← hS701]; exact t659.F 31 qa656 List.mem_cons_self (Or.inl List.mem_cons_self) (N698 31 (by decide))
  have z704 : ∀ j9, S701.i qa259 j9 = 0 := by rw [← hS701]; exact z660
  have z705 : ∀ j9, S701.i qa287 j9 = 0 := by rw [← hS701]; exact z664
  have z706 : ∀ j9, S701.i qa318 j9 = 0 := by rw [← hS701]; exact z668
  have z707 : ∀ j9, S701.i qa354 j9 = 0 := by rw [← hS701]; exact z672
  have z708 : ∀ j9, S701.i qa395 j9 = 0 := by rw [← hS701]; exact z676
  have z709 : ∀ j9, S701.i qa441 j9 = 0 := by rw [← hS701]; exact z680
  have z710 : S701.I qa5 2 = 0 := by rw [← hS701]; exact z684
  have z711 : S701.I qa35 2 = 0 := by rw [← hS701]; exact z688
  have F712 : S701.F o1 31 = some qa656 := by rw [← hS701]; exact sF_eq
  refine lv_aload_n hx hb dX12_init_161 rfl (lv_at hl 0 rfl) ?_
  refine lv_sipush (v := 200) hx hb dX12_init_162 (by decide +kernel) ?_
  refine va_newa (atype := .int) hx hb (hts (.arrayClass .int) (by decide +kernel)) (ty := .int) rfl hK hP hD hS hA (N' := 200) (a0 := (200, .inl (fun _ => 0))) (fun _ => rfl) (by decide) (by decide) (by decide) (Nat.le_of_ble_eq_true rfl) (Nat.le_of_ble_eq_true rfl) dX12_init_165 (fun qa713 cqa713 H hK2 hP2 hD2 hS => ?_)
  obtain rfl : cqa713 = cy 2 := cls_int hK hK2
  have hqa713 : qa713 ∉ S701.L := nw_q hD2
  have e9 := wNw (cy := cy) (X := X) (S := S701) (a := qa713) (k := 17) (z := 200) (f := fun _ => 0) (g := fun _ => none) hqa713 rfl
  obtain ⟨S714, hS714⟩ : ∃ z, S701.nw qa713 17 200 (fun _ => 0) (fun _ => none) = z := ⟨_, rfl⟩
  replace hP : va_P D vwCl (X ++ PL cy S714) H := by rw [← hS714, ← e9]; exact hP2
  replace hD : va_D A (X ++ PL cy S714) := by rw [← hS714, ← e9]; exact hD2
  clear hP2 hD2 e9
  have xe715 : ext S701 S714 := by rw [← hS714]; exact ext.nw hqa713
  have t716 : stp ([] : List (Nat × Nat)) [o1] (o1 :: R) S S714 := by rw [← hS714]; exact t703.nwA hqa713 (by decide)
  have xm718 : ext S260 S657 := xm662.tr xe658
  have xm719 : ext S260 S701 := xm718.tr xe702
  have am720 : isA S701 qa259 23 := xm719.A aqa259
  have z717 : ∀ j9, S714.i qa259 j9 = 0 := by rw [← hS714]; exact fun j9 => (congrFun (up_nq (f := S701.i) (fun e9 : qa259 = qa713 => hqa713 (e9 ▸ am720.1))) j9).trans (z704 j9)
  have xm722 : ext S288 S657 := xm666.tr xe658
  have xm723 : ext S288 S701 := xm722.tr xe702
  have am724 : isA S701 qa287 23 := xm723.A aqa287
  have z721 : ∀ j9, S714.i qa287 j9 = 0 := by rw [← hS714]; exact fun j9 => (congrFun (up_nq (f := S701.i) (fun e9 : qa287 = qa713 => hqa713 (e9 ▸ am724.1))) j9).trans (z705 j9)
  have xm726 : ext S319 S657 := xm670.tr xe658
  have xm727 : ext S319 S701 := xm726.tr xe702
  have am728 : isA S701 qa318 23 := xm727.A aqa318
  have z725 : ∀ j9, S714.i qa318 j9 = 0 := by rw [← hS714]; exact fun j9 => (congrFun (up_nq (f := S701.i) (fun e9 : qa318 = qa713 => hqa713 (e9 ▸ am728.1))) j9).trans (z706 j9)
  have xm730 : ext S355 S657 := xm674.tr xe658
  have xm731 : ext S355 S701 := xm730.tr xe702
  have am732 : isA S701 qa354 23 := xm731.A aqa354
  have z729 : ∀ j9, S714.i qa354 j9 = 0 := by rw [← hS714]; exact fun j9 => (congrFun (up_nq (f := S701.i) (fun e9 : qa354 = qa713 => hqa713 (e9 ▸ am732.1))) j9).trans (z707 j9)
  have xm734 : ext S396 S657 := xm678.tr xe658
  have xm735 : ext S396 S701 := xm734.tr xe702
  have am736 : isA S701 qa395 23 := xm735.A aqa395
  have z733 : ∀ j9, S714.i qa395 j9 = 0 := by rw [← hS714]; exact fun j9 => (congrFun (up_nq (f := S701.i) (fun e9 : qa395 = qa713 => hqa713 (e9 ▸ am736.1))) j9).trans (z708 j9)
  have xm738 : ext S442 S657 := xm682.tr xe658
  have xm739 : ext S442 S701 := xm738.tr xe702
  have am740 : isA S701 qa441 23 := xm739.A aqa441
  have z737 : ∀ j9, S714.i qa441 j9 = 0 := by rw [← hS714]; exact fun j9 => (congrFun (up_nq (f := S701.i) (fun e9 : qa441 = qa713 => hqa713 (e9 ▸ am740.1))) j9).trans (z709 j9)
  have xm742 : ext S15 S657 := xm686.tr xe658
  have xm743 : ext S15 S701 := xm742.tr xe702
  have am744 : isA S701 qa5 14 := xm743.A (xe17.A aqa5)
  have z741 : S714.I qa5 2 = 0 := by rw [← hS714]; exact (nw_Io hqa713 am744.1).trans z710
  have xm746 : ext S48 S657 := xm690.tr xe658
  have xm747 : ext S48 S701 := xm746.tr xe702
  have am748 : isA S701 qa35 14 := xm747.A (xe50.A aqa35)
  have z745 : S714.I qa35 2 = 0 := by rw [← hS714]; exact (nw_Io hqa713 am748.1).trans z711
  refine W.widen (k := 19) (n := 880) (Nat.le_of_ble_eq_true rfl) (Nat.le_of_ble_eq_true rfl) ?_
  have aqa713 : isA S714 qa713 17 := by rw [← hS714]; exact nw_A (by decide)
  have nqa713 : S714.n qa713 = 200 := by rw [← hS714]; exact nw_n
  have xm749 : ext S S701 := xm693.tr xe702
  have xm750 : ext S S714 := xm749.tr xe715
  have am751 : isA S714 o1 12 := xm750.A h_o1
  obtain ⟨k752, gk752, hk752⟩ := wGt (cy := cy) X S714 am751.1 am751.2.1
  refine va_putF (D := D) (ci := 16) (v := .ref qa713) (ty := (tyX12 32)) (C := RX12) (T := TX12) (N := 34) hx hb hts hi_X12_init_X12 tyX12 tyX12_ok nmX12 hown hK hP hD hS k752 hk752 rfl 32 (by decide) (hts (.fieldLink RX12 88 "HobhouseModel" "lowOther" "[I") (by decide +kernel)) (fun _ h9 => h9) rfl hin rfl (by decide +kernel) (rfl) (rfl) (Nat.le_of_ble_eq_true rfl) dX12_init_167 (fun H locs hP2 hD2 hS => ?_)
  have e9 := wPuF (cy := cy) (j := 32) (v := (some qa713)) hD am751.1 am751.2.1 gk752 rfl
  have N753 : ∀ j9, j9 ∉ (31 :: 30 :: 29 :: 14 :: 13 :: 12 :: 11 :: 10 :: 9 :: 8 :: 7 :: 6 :: 5 :: 4 :: 3 :: 2 :: 1 :: 0 :: 77 :: [] : List Nat) → S701.F o1 j9 = none := by rw [← hS701]; exact fun j9 h9 => (sF_ne (fun q9 => h9 (by rw [q9.2]; exact List.mem_cons_self))).trans (N698 j9 (fun q9 => h9 (List.mem_cons_of_mem _ q9)))
  have Z754 : ∀ j9, j9 ∉ (18 :: 17 :: [] : List Nat) → S701.I o1 j9 = 0 := by rw [← hS701]; exact Z699
  have am757 : isA S701 o1 12 := xm749.A h_o1
  have N755 : ∀ j9, j9 ∉ (31 :: 30 :: 29 :: 14 :: 13 :: 12 :: 11 :: 10 :: 9 :: 8 :: 7 :: 6 :: 5 :: 4 :: 3 :: 2 :: 1 :: 0 :: 77 :: [] : List Nat) → S714.F o1 j9 = none := by rw [← hS714]; exact fun j9 h9 => (nw_Fo hqa713 am757.1).trans (N753 j9 h9)
  have Z756 : ∀ j9, j9 ∉ (18 :: 17 :: [] : List Nat) → S714.I o1 j9 = 0 := by rw [← hS714]; exact fun j9 h9 => (nw_Io hqa713 am757.1).trans (Z754 j9 h9)
  obtain ⟨S758, hS758⟩ : ∃ z, S714.sF o1 32 (some qa713) = z := ⟨_, rfl⟩
  replace hP : va_P D vwCl (X ++ PL cy S758) H := by rw [← hS758, ← e9]; exact hP2
  replace hD : va_D A (X ++ PL cy S758) := by rw [← hS758, ← e9]; exact hD2
  clear hP2 hD2 e9
  have xe759 : ext S714 S758 := by rw [← hS758]; exact ext.sF (N755 32 (by decide))
  have t760 : stp ([] : List (Nat × Nat)) [o1] (o1 :: R) S S758 := by rw [← hS758]; exact t716.F 32 qa713 List.mem_cons_self (Or.inl List.mem_cons_self) (N755 32 (by decide))
  have z761 : ∀ j9, S758.i qa259 j9 = 0 := by rw [← hS758]; exact z717
  have z762 : ∀ j9, S758.i qa287 j9 = 0 := by rw [← hS758]; exact z721
  have z763 : ∀ j9, S758.i qa318 j9 = 0 := by rw [← hS758]; exact z725
  have z764 : ∀ j9, S758.i qa354 j9 = 0 := by rw [← hS758]; exact z729
  have z765 : ∀ j9, S758.i qa395 j9 = 0 := by rw [← hS758]; exact z733
  have z766 : ∀ j9, S758.i qa441 j9 = 0 := by rw [← hS758]; exact z737
  have z767 : S758.I qa5 2 = 0 := by rw [← hS758]; exact z741
  have z768 : S758.I qa35 2 = 0 := by rw [← hS758]; exact z745
  have F769 : S758.F o1 32 = some qa713 := by rw [← hS758]; exact sF_eq
  refine lv_aload_n hx hb dX12_init_170 rfl (lv_at hl 0 rfl) ?_
  refine lv_bipush (v := 25) hx hb dX12_init_171 (by decide +kernel) ?_
  refine va_newa (atype := .int) hx hb (hts (.arrayClass .int) (by decide +kernel)) (ty := .int) rfl hK hP hD hS hA (N' := 25) (a0 := (25, .inl (fun _ => 0))) (fun _ => rfl) (by decide) (by decide) (by decide) (Nat.le_of_ble_eq_true rfl) (Nat.le_of_ble_eq_true rfl) dX12_init_173 (fun qa770 cqa770 H hK2 hP2 hD2 hS => ?_)
  obtain rfl : cqa770 = cy 2 := cls_int hK hK2
  have hqa770 : qa770 ∉ S758.L := nw_q hD2
  have e9 := wNw (cy := cy) (X := X) (S := S758) (a := qa770) (k := 17) (z := 25) (f := fun _ => 0) (g := fun _ => none) hqa770 rfl
  obtain ⟨S771, hS771⟩ : ∃ z, S758.nw qa770 17 25 (fun _ => 0) (fun _ => none) = z := ⟨_, rfl⟩
  replace hP : va_P D vwCl (X ++ PL cy S771) H := by rw [← hS771, ← e9]; exact hP2
  replace hD : va_D A (X ++ PL cy S771) := by rw [← hS771, ← e9]; exact hD2
  clear hP2 hD2 e9
  have xe772 : ext S758 S771 := by rw [← hS771]; exact ext.nw hqa770
  have t773 : stp ([] : List (Nat × Nat)) [o1] (o1 :: R) S S771 := by rw [← hS771]; exact t760.nwA hqa770 (by decide)
  have xm775 : ext S260 S714 := xm719.tr xe715
  have xm776 : ext S260 S758 := xm775.tr xe759
  have am777 : isA S758 qa259 23 := xm776.A aqa259
  have z774 : ∀ j9, S771.i qa259 j9 = 0 := by rw [← hS771]; exact fun j9 => (congrFun (up_nq (f := S758.i) (fun e9 : qa259 = qa770 => hqa770 (e9 ▸ am777.1))) j9).trans (z761 j9)
  have xm779 : ext S288 S714 := xm723.tr xe715
  have xm780 : ext S288 S758 := xm779.tr xe759
  have am781 : isA S758 qa287 23 := xm780.A aqa287
  have z778 : ∀ j9, S771.i qa287 j9 = 0 := by rw [← hS771]; exact fun j9 => (congrFun (up_nq (f := S758.i) (fun e9 : qa287 = qa770 => hqa770 (e9 ▸ am781.1))) j9).trans (z762 j9)
  have xm783 : ext S319 S714 := xm727.tr xe715
  have xm784 : ext S319 S758 := xm783.tr xe759
  have am785 : isA S758 qa318 23 := xm784.A aqa318
  have z782 : ∀ j9, S771.i qa318 j9 = 0 := by rw [← hS771]; exact fun j9 => (congrFun (up_nq (f := S758.i) (fun e9 : qa318 = qa770 => hqa770 (e9 ▸ am785.1))) j9).trans (z763 j9)
  have xm787 : ext S355 S714 := xm731.tr xe715
  have xm788 : ext S355 S758 := xm787.tr xe759
  have am789 : isA S758 qa354 23 := xm788.A aqa354
  have z786 : ∀ j9, S771.i qa354 j9 = 0 := by rw [← hS771]; exact fun j9 => (congrFun (up_nq (f := S758.i) (fun e9 : qa354 = qa770 => hqa770 (e9 ▸ am789.1))) j9).trans (z764 j9)
  have xm791 : ext S396 S714 := xm735.tr xe715
  have xm792 : ext S396 S758 := xm791.tr xe759
  have am793 : isA S758 qa395 23 := xm792.A aqa395
  have z790 : ∀ j9, S771.i qa395 j9 = 0 := by rw [← hS771]; exact fun j9 => (congrFun (up_nq (f := S758.i) (fun e9 : qa395 = qa770 => hqa770 (e9 ▸ am793.1))) j9).trans (z765 j9)
  have xm795 : ext S442 S714 := xm739.tr xe715
  have xm796 : ext S442 S758 := xm795.tr xe759
  have am797 : isA S758 qa441 23 := xm796.A aqa441
  have z794 : ∀ j9, S771.i qa441 j9 = 0 := by rw [← hS771]; exact fun j9 => (congrFun (up_nq (f := S758.i) (fun e9 : qa441 = qa770 => hqa770 (e9 ▸ am797.1))) j9).trans (z766 j9)
  have xm799 : ext S15 S714 := xm743.tr xe715
  have xm800 : ext S15 S758 := xm799.tr xe759
  have am801 : isA S758 qa5 14 := xm800.A (xe17.A aqa5)
  have z798 : S771.I qa5 2 = 0 := by rw [← hS771]; exact (nw_Io hqa770 am801.1).trans z767
  have xm803 : ext S48 S714 := xm747.tr xe715
  have xm804 : ext S48 S758 := xm803.tr xe759
  have am805 : isA S758 qa35 14 := xm804.A (xe50.A aqa35)
  have z802 : S771.I qa35 2 = 0 := by rw [← hS771]; exact (nw_Io hqa770 am805.1).trans z768
  refine W.widen (k := 20) (n := 905) (Nat.le_of_ble_eq_true rfl) (Nat.le_of_ble_eq_true rfl) ?_
  have aqa770 : isA S771 qa770 17 := by rw [← hS771]; exact nw_A (by decide)
  have nqa770 : S771.n qa770 = 25 := by rw [← hS771]; exact nw_n
  have xm806 : ext S S758 := xm750.tr xe759
  have xm807 : ext S S771 := xm806.tr xe772
  have am808 : isA S771 o1 12 := xm807.A h_o1
  obtain ⟨k809, gk809, hk809⟩ := wGt (cy := cy) X S771 am808.1 am808.2.1
  refine va_putF (D := D) (ci := 16) (v := .ref qa770) (ty := (tyX12 33)) (C := RX12) (T := TX12) (N := 34) hx hb hts hi_X12_init_X12 tyX12 tyX12_ok nmX12 hown hK hP hD hS k809 hk809 rfl 33 (by decide) (hts (.fieldLink RX12 91 "HobhouseModel" "peaks" "[I") (by decide +kernel)) (fun _ h9 => h9) rfl hin rfl (by decide +kernel) (rfl) (rfl) (Nat.le_of_ble_eq_true rfl) dX12_init_175 (fun H locs hP2 hD2 hS => ?_)
  have e9 := wPuF (cy := cy) (j := 33) (v := (some qa770)) hD am808.1 am808.2.1 gk809 rfl
  have N810 : ∀ j9, j9 ∉ (32 :: 31 :: 30 :: 29 :: 14 :: 13 :: 12 :: 11 :: 10 :: 9 :: 8 :: 7 :: 6 :: 5 :: 4 :: 3 :: 2 :: 1 :: 0 :: 77 :: [] : List Nat) → S758.F o1 j9 = none := by rw [← hS758]; exact fun j9 h9 => (sF_ne (fun q9 => h9 (by rw [q9.2]; exact List.mem_cons_self))).trans (N755 j9 (fun q9 => h9 (List.mem_cons_of_mem _ q9)))
  have Z811 : ∀ j9, j9 ∉ (18 :: 17 :: [] : List Nat) → S758.I o1 j9 = 0 := by rw [← hS758]; exact Z756
  have am814 : isA S758 o1 12 := xm806.A h_o1
  have N812 : ∀ j9, j9 ∉ (32 :: 31 :: 30 :: 29 :: 14 :: 13 :: 12 :: 11 :: 10 :: 9 :: 8 :: 7 :: 6 :: 5 :: 4 :: 3 :: 2 :: 1 :: 0 :: 77 :: [] : List Nat) → S771.F o1 j9 = none := by rw [← hS771]; exact fun j9 h9 => (nw_Fo hqa770 am814.1).trans (N810 j9 h9)
  have Z813 : ∀ j9, j9 ∉ (18 :: 17 :: [] : List Nat) → S771.I o1 j9 = 0 := by rw [← hS771]; exact fun j9 h9 => (nw_Io hqa770 am814.1).trans (Z811 j9 h9)
  obtain ⟨S815, hS815⟩ : ∃ z, S771.sF o1 33 (some qa770) = z := ⟨_, rfl⟩
  replace hP : va_P D vwCl (X ++ PL cy S815) H := by rw [← hS815, ← e9]; exact hP2
  replace hD : va_D A (X ++ PL cy S815) := by rw [← hS815, ← e9]; exact hD2
  clear hP2 hD2 e9
  have xe816 : ext S771 S815 := by rw [← hS815]; exact ext.sF (N812 33 (by decide))
  have t817 : stp ([] : List (Nat × Nat)) [o1] (o1 :: R) S S815 := by rw [← hS815]; exact t773.F 33 qa770 List.mem_cons_self (Or.inl List.mem_cons_self) (N812 33 (by decide))
  have z818 : ∀ j9, S815.i qa259 j9 = 0 := by rw [← hS815]; exact z774
  have z819 : ∀ j9, S815.i qa287 j9 = 0 := by rw [← hS815]; exact z778
  have z820 : ∀ j9, S815.i qa318 j9 = 0 := by rw [← hS815]; exact z782
  have z821 : ∀ j9, S815.i qa354 j9 = 0 := by rw [← hS815]; exact z786
  have z822 : ∀ j9, S815.i qa395 j9 = 0 := by rw [← hS815]; exact z790
  have z823 : ∀ j9, S815.i qa441 j9 = 0 := by rw [← hS815]; exact z794
  have z824 : S815.I qa5 2 = 0 := by rw [← hS815]; exact z798
  have z825 : S815.I qa35 2 = 0 := by rw [← hS815]; exact z802
  have F826 : S815.F o1 33 = some qa770 := by rw [← hS815]; exact sF_eq
  have xm827 : ext S S815 := xm807.tr xe816
  have am828 : isA S815 o1 12 := xm827.A h_o1
  have oo : isA S815 o1 12 := am828
  have N829 : ∀ j9, j9 ∉ (33 :: 32 :: 31 :: 30 :: 29 :: 14 :: 13 :: 12 :: 11 :: 10 :: 9 :: 8 :: 7 :: 6 :: 5 :: 4 :: 3 :: 2 :: 1 :: 0 :: 77 :: [] : List Nat) → S815.F o1 j9 = none := by rw [← hS815]; exact fun j9 h9 => (sF_ne (fun q9 => h9 (by rw [q9.2]; exact List.mem_cons_self))).trans (N812 j9 (fun q9 => h9 (List.mem_cons_of_mem _ q9)))
  have Z830 : ∀ j9, j9 ∉ (18 :: 17 :: [] : List Nat) → S815.I o1 j9 = 0 := by rw [← hS815]; exact Z813
  have I15 : S815.I o1 15 = (0 : Int32) := (Z830 15 (by decide))
  have I16 : S815.I o1 16 = (0 : Int32) := (Z830 16 (by decide))
  have I17 : S815.I o1 17 = (24 : Int32) := (by rw [← hS815]; show S771.I o1 17 = _; rw [← hS771, nw_Io hqa770 am814.1]; rw [← hS758]; show S714.I o1 17 = _; rw [← hS714, nw_Io hqa713 am757.1]; rw [← hS701]; show S657.I o1 17 = _; rw [← hS657, nw_Io hqa656 am700.1]; rw [← hS644]; show S600.I o1 17 = _; rw [← hS600, nw_Io hqa599 am643.1]; rw [← hS587]; show S531.I o1 17 = _; rw [← hS531, nw_Io hqa530 am586.1]; rw [← hS515, sI_I (by rintro ⟨e1, e2⟩; exact absurd e2 (by decide))]; rw [← hS495, sI_eq])
  have I18 : S815.I o1 18 = (60 : Int32) := (by rw [← hS815]; show S771.I o1 18 = _; rw [← hS771, nw_Io hqa770 am814.1]; rw [← hS758]; show S714.I o1 18 = _; rw [← hS714, nw_Io hqa713 am757.1]; rw [← hS701]; show S657.I o1 18 = _; rw [← hS657, nw_Io hqa656 am700.1]; rw [← hS644]; show S600.I o1 18 = _; rw [← hS600, nw_Io hqa599 am643.1]; rw [← hS587]; show S531.I o1 18 = _; rw [← hS531, nw_Io hqa530 am586.1]; rw [← hS515, sI_eq])
  have I19 : S815.I o1 19 = (0 : Int32) := (Z830 19 (by decide))
  have I20 : S815.I o1 20 = (0 : Int32) := (Z830 20 (by decide))
  have I21 : S815.I o1 21 = (0 : Int32) := (Z830 21 (by decide))
  have I22 : S815.I o1 22 = (0 : Int32) := (Z830 22 (by decide))
  have I23 : S815.I o1 23 = (0 : Int32) := (Z830 23 (by decide))
  have I24 : S815.I o1 24 = (0 : Int32) := (Z830 24 (by decide))
  have I25 : S815.I o1 25 = (0 : Int32) := (Z830 25 (by decide))
  have I26 : S815.I o1 26 = (0 : Int32) := (Z830 26 (by decide))
  have xm831 : ext S30 S48 := xe37.tr xe50
  have xm832 : ext S30 S66 := xm831.tr xe67
  have xm833 : ext S30 S73 := xm832.tr xe74
  have xm834 : ext S30 S91 := xm833.tr xe92
  have xm835 : ext S30 S98 := xm834.tr xe99
  have xm836 : ext S30 S118 := xm835.tr xe119
  have xm837 : ext S30 S125 := xm836.tr xe126
  have xm838 : ext S30 S145 := xm837.tr xe146
  have xm839 : ext S30 S152 := xm838.tr xe153
  have xm840 : ext S30 S172 := xm839.tr xe173
  have xm841 : ext S30 S179 := xm840.tr xe180
  have xm842 : ext S30 S199 := xm841.tr xe200
  have xm843 : ext S30 S206 := xm842.tr xe207
  have xm844 : ext S30 S226 := xm843.tr xe227
  have xm845 : ext S30 S233 := xm844.tr xe234
  have xm846 : ext S30 S253 := xm845.tr xe254
  have xm847 : ext S30 S260 := xm846.tr xe261
  have xm848 : ext S30 S280 := xm847.tr xe281
  have xm849 : ext S30 S288 := xm848.tr xe289
  have xm850 : ext S30 S310 := xm849.tr xe311
  have xm851 : ext S30 S319 := xm850.tr xe320
  have xm852 : ext S30 S345 := xm851.tr xe346
  have xm853 : ext S30 S355 := xm852.tr xe356
  have xm854 : ext S30 S385 := xm853.tr xe386
  have xm855 : ext S30 S396 := xm854.tr xe397
  have xm856 : ext S30 S430 := xm855.tr xe431
  have xm857 : ext S30 S442 := xm856.tr xe443
  have xm858 : ext S30 S480 := xm857.tr xe481
  have xm859 : ext S30 S495 := xm858.tr xe496
  have xm860 : ext S30 S515 := xm859.tr xe516
  have xm861 : ext S30 S531 := xm860.tr xe532
  have xm862 : ext S30 S587 := xm861.tr xe588
  have xm863 : ext S30 S600 := xm862.tr xe601
  have xm864 : ext S30 S644 := xm863.tr xe645
  have xm865 : ext S30 S657 := xm864.tr xe658
  have xm866 : ext S30 S701 := xm865.tr xe702
  have xm867 : ext S30 S714 := xm866.tr xe715
  have xm868 : ext S30 S758 := xm867.tr xe759
  have xm869 : ext S30 S771 := xm868.tr xe772
  have xm870 : ext S30 S815 := xm869.tr xe816
  have xm871 : ext S15 S771 := xm800.tr xe772
  have xm872 : ext S15 S815 := xm871.tr xe816
  have am873 : isA S815 qa5 14 := xm872.A (xe17.A aqa5)
  have xm874 : ext S6 S30 := xe17.tr xe31
  have xm875 : ext S6 S36 := xm874.tr xe37
  have xm876 : ext S6 S48 := xm875.tr xe50
  have xm877 : ext S6 S66 := xm876.tr xe67
  have xm878 : ext S6 S73 := xm877.tr xe74
  have xm879 : ext S6 S91 := xm878.tr xe92
  have xm880 : ext S6 S98 := xm879.tr xe99
  have xm881 : ext S6 S118 := xm880.tr xe119
  have xm882 : ext S6 S125 := xm881.tr xe126
  have xm883 : ext S6 S145 := xm882.tr xe146
  have xm884 : ext S6 S152 := xm883.tr xe153
  have xm885 : ext S6 S172 := xm884.tr xe173
  have xm886 : ext S6 S179 := xm885.tr xe180
  have xm887 : ext S6 S199 := xm886.tr xe200
  have xm888 : ext S6 S206 := xm887.tr xe207
  have xm889 : ext S6 S226 := xm888.tr xe227
  have xm890 : ext S6 S233 := xm889.tr xe234
  have xm891 : ext S6 S253 := xm890.tr xe254
  have xm892 : ext S6 S260 := xm891.tr xe261
  have xm893 : ext S6 S280 := xm892.tr xe281
  have xm894 : ext S6 S288 := xm893.tr xe289
  have xm895 : ext S6 S310 := xm894.tr xe311
  have xm896 : ext S6 S319 := xm895.tr xe320
  have xm897 : ext S6 S345 := xm896.tr xe346
  have xm898 : ext S6 S355 := xm897.tr xe356
  have xm899 : ext S6 S385 := xm898.tr xe386
  have xm900 : ext S6 S396 := xm899.tr xe397
  have xm901 : ext S6 S430 := xm900.tr xe431
  have xm902 : ext S6 S442 := xm901.tr xe443
  have xm903 : ext S6 S480 := xm902.tr xe481
  have xm904 : ext S6 S495 := xm903.tr xe496
  have xm905 : ext S6 S515 := xm904.tr xe516
  have xm906 : ext S6 S531 := xm905.tr xe532
  have xm907 : ext S6 S587 := xm906.tr xe588
  have xm908 : ext S6 S600 := xm907.tr xe601
  have xm909 : ext S6 S644 := xm908.tr xe645
  have xm910 : ext S6 S657 := xm909.tr xe658
  have xm911 : ext S6 S701 := xm910.tr xe702
  have xm912 : ext S6 S714 := xm911.tr xe715
  have xm913 : ext S6 S758 := xm912.tr xe759
  have xm914 : ext S6 S771 := xm913.tr xe772
  have xm915 : ext S6 S815 := xm914.tr xe816
  have xm916 : ext S66 S91 := xe74.tr xe92
  have xm917 : ext S66 S98 := xm916.tr xe99
  have xm918 : ext S66 S118 := xm917.tr xe119
  have xm919 : ext S66 S125 := xm918.tr xe126
  have xm920 : ext S66 S145 := xm919.tr xe146
  have xm921 : ext S66 S152 := xm920.tr xe153
  have xm922 : ext S66 S172 := xm921.tr xe173
  have xm923 : ext S66 S179 := xm922.tr xe180
  have xm924 : ext S66 S199 := xm923.tr xe200
  have xm925 : ext S66 S206 := xm924.tr xe207
  have xm926 : ext S66 S226 := xm925.tr xe227
  have xm927 : ext S66 S233 := xm926.tr xe234
  have xm928 : ext S66 S253 := xm927.tr xe254
  have xm929 : ext S66 S260 := xm928.tr xe261
  have xm930 : ext S66 S280 := xm929.tr xe281
  have xm931 : ext S66 S288 := xm930.tr xe289
  have xm932 : ext S66 S310 := xm931.tr xe311
  have xm933 : ext S66 S319 := xm932.tr xe320
  have xm934 : ext S66 S345 := xm933.tr xe346
  have xm935 : ext S66 S355 := xm934.tr xe356
  have xm936 : ext S66 S385 := xm935.tr xe386
  have xm937 : ext S66 S396 := xm936.tr xe397
  have xm938 : ext S66 S430 := xm937.tr xe431
  have xm939 : ext S66 S442 := xm938.tr xe443
  have xm940 : ext S66 S480 := xm939.tr xe481
  have xm941 : ext S66 S495 := xm940.tr xe496
  have xm942 : ext S66 S515 := xm941.tr xe516
  have xm943 : ext S66 S531 := xm942.tr xe532
  have xm944 : ext S66 S587 := xm943.tr xe588
  have xm945 : ext S66 S600 := xm944.tr xe601
  have xm946 : ext S66 S644 := xm945.tr xe645
  have xm947 : ext S66 S657 := xm946.tr xe658
  have xm948 : ext S66 S701 := xm947.tr xe702
  have xm949 : ext S66 S714 := xm948.tr xe715
  have xm950 : ext S66 S758 := xm949.tr xe759
  have xm951 : ext S66 S771 := xm950.tr xe772
  have xm952 : ext S66 S815 := xm951.tr xe816
  have xm953 : ext S48 S771 := xm804.tr xe772
  have xm954 : ext S48 S815 := xm953.tr xe816
  have am955 : isA S815 qa35 14 := xm954.A (xe50.A aqa35)
  have xm956 : ext S36 S66 := xe50.tr xe67
  have xm957 : ext S36 S73 := xm956.tr xe74
  have xm958 : ext S36 S91 := xm957.tr xe92
  have xm959 : ext S36 S98 := xm958.tr xe99
  have xm960 : ext S36 S118 := xm959.tr xe119
  have xm961 : ext S36 S125 := xm960.tr xe126
  have xm962 : ext S36 S145 := xm961.tr xe146
  have xm963 : ext S36 S152 := xm962.tr xe153
  have xm964 : ext S36 S172 := xm963.tr xe173
  have xm965 : ext S36 S179 := xm964.tr xe180
  have xm966 : ext S36 S199 := xm965.tr xe200
  have xm967 : ext S36 S206 := xm966.tr xe207
  have xm968 : ext S36 S226 := xm967.tr xe227
  have xm969 : ext S36 S233 := xm968.tr xe234
  have xm970 : ext S36 S253 := xm969.tr xe254
  have xm971 : ext S36 S260 := xm970.tr xe261
  have xm972 : ext S36 S280 := xm971.tr xe281
  have xm973 : ext S36 S288 := xm972.tr xe289
  have xm974 : ext S36 S310 := xm973.tr xe311
  have xm975 : ext S36 S319 := xm974.tr xe320
  have xm976 : ext S36 S345 := xm975.tr xe346
  have xm977 : ext S36 S355 := xm976.tr xe356
  have xm978 : ext S36 S385 := xm977.tr xe386
  have xm979 : ext S36 S396 := xm978.tr xe397
  have xm980 : ext S36 S430 := xm979.tr xe431
  have xm981 : ext S36 S442 := xm980.tr xe443
  have xm982 : ext S36 S480 := xm981.tr xe481
  have xm983 : ext S36 S495 := xm982.tr xe496
  have xm984 : ext S36 S515 := xm983.tr xe516
  have xm985 : ext S36 S531 := xm984.tr xe532
  have xm986 : ext S36 S587 := xm985.tr xe588
  have xm987 : ext S36 S600 := xm986.tr xe601
  have xm988 : ext S36 S644 := xm987.tr xe645
  have xm989 : ext S36 S657 := xm988.tr xe658
  have xm990 : ext S36 S701 := xm989.tr xe702
  have xm991 : ext S36 S714 := xm990.tr xe715
  have xm992 : ext S36 S758 := xm991.tr xe759
  have xm993 : ext S36 S771 := xm992.tr xe772
  have xm994 : ext S36 S815 := xm993.tr xe816
  have xm995 : ext S91 S118 := xe99.tr xe119
  have xm996 : ext S91 S125 := xm995.tr xe126
  have xm997 : ext S91 S145 := xm996.tr xe146
  have xm998 : ext S91 S152 := xm997.tr xe153
  have xm999 : ext S91 S172 := xm998.tr xe173
  have xm1000 : ext S91 S179 := xm999.tr xe180
  have xm1001 : ext S91 S199 := xm1000.tr xe200
  have xm1002 : ext S91 S206 := xm1001.tr xe207
  have xm1003 : ext S91 S226 := xm1002.tr xe227
  have xm1004 : ext S91 S233 := xm1003.tr xe234
  have xm1005 : ext S91 S253 := xm1004.tr xe254
  have xm1006 : ext S91 S260 := xm1005.tr xe261
  have xm1007 : ext S91 S280 := xm1006.tr xe281
  have xm1008 : ext S91 S288 := xm1007.tr xe289
  have xm1009 : ext S91 S310 := xm1008.tr xe311
  have xm1010 : ext S91 S319 := xm1009.tr xe320
  have xm1011 : ext S91 S345 := xm1010.tr xe346
  have xm1012 : ext S91 S355 := xm1011.tr xe356
  have xm1013 : ext S91 S385 := xm1012.tr xe386
  have xm1014 : ext S91 S396 := xm1013.tr xe397
  have xm1015 : ext S91 S430 := xm1014.tr xe431
  have xm1016 : ext S91 S442 := xm1015.tr xe443
  have xm1017 : ext S91 S480 := xm1016.tr xe481
  have xm1018 : ext S91 S495 := xm1017.tr xe496
  have xm1019 : ext S91 S515 := xm1018.tr xe516
  have xm1020 : ext S91 S531 := xm1019.tr xe532
  have xm1021 : ext S91 S587 := xm1020.tr xe588
  have xm1022 : ext S91 S600 := xm1021.tr xe601
  have xm1023 : ext S91 S644 := xm1022.tr xe645
  have xm1024 : ext S91 S657 := xm1023.tr xe658
  have xm1025 : ext S91 S701 := xm1024.tr xe702
  have xm1026 : ext S91 S714 := xm1025.tr xe715
  have xm1027 : ext S91 S758 := xm1026.tr xe759
  have xm1028 : ext S91 S771 := xm1027.tr xe772
  have xm1029 : ext S91 S815 := xm1028.tr xe816
  have xm1030 : ext S73 S98 := xe92.tr xe99
  have xm1031 : ext S73 S118 := xm1030.tr xe119
  have xm1032 : ext S73 S125 := xm1031.tr xe126
  have xm1033 : ext S73 S145 := xm1032.tr xe146
  have xm1034 : ext S73 S152 := xm1033.tr xe153
  have xm1035 : ext S73 S172 := xm1034.tr xe173
  have xm1036 : ext S73 S179 := xm1035.tr xe180
  have xm1037 : ext S73 S199 := xm1036.tr xe200
  have xm1038 : ext S73 S206 := xm1037.tr xe207
  have xm1039 : ext S73 S226 := xm1038.tr xe227
  have xm1040 : ext S73 S233 := xm1039.tr xe234
  have xm1041 : ext S73 S253 := xm1040.tr xe254
  have xm1042 : ext S73 S260 := xm1041.tr xe261
  have xm1043 : ext S73 S280 := xm1042.tr xe281
  have xm1044 : ext S73 S288 := xm1043.tr xe289
  have xm1045 : ext S73 S310 := xm1044.tr xe311
  have xm1046 : ext S73 S319 := xm1045.tr xe320
  have xm1047 : ext S73 S345 := xm1046.tr xe346
  have xm1048 : ext S73 S355 := xm1047.tr xe356
  have xm1049 : ext S73 S385 := xm1048.tr xe386
  have xm1050 : ext S73 S396 := xm1049.tr xe397
  have xm1051 : ext S73 S430 := xm1050.tr xe431
  have xm1052 : ext S73 S442 := xm1051.tr xe443
  have xm1053 : ext S73 S480 := xm1052.tr xe481
  have xm1054 : ext S73 S495 := xm1053.tr xe496
  have xm1055 : ext S73 S515 := xm1054.tr xe516
  have xm1056 : ext S73 S531 := xm1055.tr xe532
  have xm1057 : ext S73 S587 := xm1056.tr xe588
  have xm1058 : ext S73 S600 := xm1057.tr xe601
  have xm1059 : ext S73 S644 := xm1058.tr xe645
  have xm1060 : ext S73 S657 := xm1059.tr xe658
  have xm1061 : ext S73 S701 := xm1060.tr xe702
  have xm1062 : ext S73 S714 := xm1061.tr xe715
  have xm1063 : ext S73 S758 := xm1062.tr xe759
  have xm1064 : ext S73 S771 := xm1063.tr xe772
  have xm1065 : ext S73 S815 := xm1064.tr xe816
  have am1066 : isA S815 qa72 31 := xm1065.A aqa72
  have xm1067 : ext S118 S145 := xe126.tr xe146
  have xm1068 : ext S118 S152 := xm1067.tr xe153
  have xm1069 : ext S118 S172 := xm1068.tr xe173
  have xm1070 : ext S118 S179 := xm1069.tr xe180
  have xm1071 : ext S118 S199 := xm1070.tr xe200
  have xm1072 : ext S118 S206 := xm1071.tr xe207
  have xm1073 : ext S118 S226 := xm1072.tr xe227
  have xm1074 : ext S118 S233 := xm1073.tr xe234
  have xm1075 : ext S118 S253 := xm1074.tr xe254
  have xm1076 : ext S118 S260 := xm1075.tr xe261
  have xm1077 : ext S118 S280 := xm1076.tr xe281
  have xm1078 : ext S118 S288 := xm1077.tr xe289
  have xm1079 : ext S118 S310 := xm1078.tr xe311
  have xm1080 : ext S118 S319 := xm1079.tr xe320
  have xm1081 : ext S118 S345 := xm1080.tr xe346
  have xm1082 : ext S118 S355 := xm1081.tr xe356
  have xm1083 : ext S118 S385 := xm1082.tr xe386
  have xm1084 : ext S118 S396 := xm1083.tr xe397
  have xm1085 : ext S118 S430 := xm1084.tr xe431
  have xm1086 : ext S118 S442 := xm1085.tr xe443
  have xm1087 : ext S118 S480 := xm1086.tr xe481
  have xm1088 : ext S118 S495 := xm1087.tr xe496
  have xm1089 : ext S118 S515 := xm1088.tr xe516
  have xm1090 : ext S118 S531 := xm1089.tr xe532
  have xm1091 : ext S118 S587 := xm1090.tr xe588
  have xm1092 : ext S118 S600 := xm1091.tr xe601
  have xm1093 : ext S118 S644 := xm1092.tr xe645
  have xm1094 : ext S118 S657 := xm1093.tr xe658
  have xm1095 : ext S118 S701 := xm1094.tr xe702
  have xm1096 : ext S118 S714 := xm1095.tr xe715
  have xm1097 : ext S118 S758 := xm1096.tr xe759
  have xm1098 : ext S118 S771 := xm1097.tr xe772
  have xm1099 : ext S118 S815 := xm1098.tr xe816
  have xm1100 : ext S98 S125 := xe119.tr xe126
  have xm1101 : ext S98 S145 := xm1100.tr xe146
  have xm1102 : ext S98 S152 := xm1101.tr xe153
  have xm1103 : ext S98 S172 := xm1102.tr xe173
  have xm1104 : ext S98 S179 := xm1103.tr xe180
  have xm1105 : ext S98 S199 := xm1104.tr xe200
  have xm1106 : ext S98 S206 := xm1105.tr xe207
  have xm1107 : ext S98 S226 := xm1106.tr xe227
  have xm1108 : ext S98 S233 := xm1107.tr xe234
  have xm1109 : ext S98 S253 := xm1108.tr xe254
  have xm1110 : ext S98 S260 := xm1109.tr xe261
  have xm1111 : ext S98 S280 := xm1110.tr xe281
  have xm1112 : ext S98 S288 := xm1111.tr xe289
  have xm1113 : ext S98 S310 := xm1112.tr xe311
  have xm1114 : ext S98 S319 := xm1113.tr xe320
  have xm1115 : ext S98 S345 := xm1114.tr xe346
  have xm1116 : ext S98 S355 := xm1115.tr xe356
  have xm1117 : ext S98 S385 := xm1116.tr xe386
  have xm1118 : ext S98 S396 := xm1117.tr xe397
  have xm1119 : ext S98 S430 := xm1118.tr xe431
  have xm1120 : ext S98 S442 := xm1119.tr xe443
  have xm1121 : ext S98 S480 := xm1120.tr xe481
  have xm1122 : ext S98 S495 := xm1121.tr xe496
  have xm1123 : ext S98 S515 := xm1122.tr xe516
  have xm1124 : ext S98 S531 := xm1123.tr xe532
  have xm1125 : ext S98 S587 := xm1124.tr xe588
  have xm1126 : ext S98 S600 := xm1125.tr xe601
  have xm1127 : ext S98 S644 := xm1126.tr xe645
  have xm1128 : ext S98 S657 := xm1127.tr xe658
  have xm1129 : ext S98 S701 := xm1128.tr xe702
  have xm1130 : ext S98 S714 := xm1129.tr xe715
  have xm1131 : ext S98 S758 := xm1130.tr xe759
  have xm1132 : ext S98 S771 := xm1131.tr xe772
  have xm1133 : ext S98 S815 := xm1132.tr xe816
  have am1134 : isA S815 qa97 17 := xm1133.A aqa97
  have xm1135 : ext S145 S172 := xe153.tr xe173
  have xm1136 : ext S145 S179 := xm1135.tr xe180
  have xm1137 : ext S145 S199 := xm1136.tr xe200
  have xm1138 : ext S145 S206 := xm1137.tr xe207
  have xm1139 : ext S145 S226 := xm1138.tr xe227
  have xm1140 : ext S145 S233 := xm1139.tr xe234
  have xm1141 : ext S145 S253 := xm1140.tr xe254
  have xm1142 : ext S145 S260 := xm1141.tr xe261
  have xm1143 : ext S145 S280 := xm1142.tr xe281
  have xm1144 : ext S145 S288 := xm1143.tr xe289
  have xm1145 : ext S145 S310 := xm1144.tr xe311
  have xm1146 : ext S145 S319 := xm1145.tr xe320
  have xm1147 : ext S145 S345 := xm1146.tr xe346
  have xm1148 : ext S145 S355 := xm1147.tr xe356
  have xm1149 : ext S145 S385 := xm1148.tr xe386
  have xm1150 : ext S145 S396 := xm1149.tr xe397
  have xm1151 : ext S145 S430 := xm1150.tr xe431
  have xm1152 : ext S145 S442 := xm1151.tr xe443
  have xm1153 : ext S145 S480 := xm1152.tr xe481
  have xm1154 : ext S145 S495 := xm1153.tr xe496
  have xm1155 : ext S145 S515 := xm1154.tr xe516
  have xm1156 : ext S145 S531 := xm1155.tr xe532
  have xm1157 : ext S145 S587 := xm1156.tr xe588
  have xm1158 : ext S145 S600 := xm1157.tr xe601
  have xm1159 : ext S145 S644 := xm1158.tr xe645
  have xm1160 : ext S145 S657 := xm1159.tr xe658
  have xm1161 : ext S145 S701 := xm1160.tr xe702
  have xm1162 : ext S145 S714 := xm1161.tr xe715
  have xm1163 : ext S145 S758 := xm1162.tr xe759
  have xm1164 : ext S145 S771 := xm1163.tr xe772
  have xm1165 : ext S145 S815 := xm1164.tr xe816
  have xm1166 : ext S125 S152 := xe146.tr xe153
  have xm1167 : ext S125 S172 := xm1166.tr xe173
  have xm1168 : ext S125 S179 := xm1167.tr xe180
  have xm1169 : ext S125 S199 := xm1168.tr xe200
  have xm1170 : ext S125 S206 := xm1169.tr xe207
  have xm1171 : ext S125 S226 := xm1170.tr xe227
  have xm1172 : ext S125 S233 := xm1171.tr xe234
  have xm1173 : ext S125 S253 := xm1172.tr xe254
  have xm1174 : ext S125 S260 := xm1173.tr xe261
  have xm1175 : ext S125 S280 := xm1174.tr xe281
  have xm1176 : ext S125 S288 := xm1175.tr xe289
  have xm1177 : ext S125 S310 := xm1176.tr xe311
  have xm1178 : ext S125 S319 := xm1177.tr xe320
  have xm1179 : ext S125 S345 := xm1178.tr xe346
  have xm1180 : ext S125 S355 := xm1179.tr xe356
  have xm1181 : ext S125 S385 := xm1180.tr xe386
  have xm1182 : ext S125 S396 := xm1181.tr xe397
  have xm1183 : ext S125 S430 := xm1182.tr xe431
  have xm1184 : ext S125 S442 := xm1183.tr xe443
  have xm1185 : ext S125 S480 := xm1184.tr xe481
  have xm1186 : ext S125 S495 := xm1185.tr xe496
  have xm1187 : ext S125 S515 := xm1186.tr xe516
  have xm1188 : ext S125 S531 := xm1187.tr xe532
  have xm1189 : ext S125 S587 := xm1188.tr xe588
  have xm1190 : ext S125 S600 := xm1189.tr xe601
  have xm1191 : ext S125 S644 := xm1190.tr xe645
  have xm1192 : ext S125 S657 := xm1191.tr xe658
  have xm1193 : ext S125 S701 := xm1192.tr xe702
  have xm1194 : ext S125 S714 := xm1193.tr xe715
  have xm1195 : ext S125 S758 := xm1194.tr xe759
  have xm1196 : ext S125 S771 := xm1195.tr xe772
  have xm1197 : ext S125 S815 := xm1196.tr xe816
  have am1198 : isA S815 qa124 17 := xm1197.A aqa124
  have xm1199 : ext S172 S199 := xe180.tr xe200
  have xm1200 : ext S172 S206 := xm1199.tr xe207
  have xm1201 : ext S172 S226 := xm1200.tr xe227
  have xm1202 : ext S172 S233 := xm1201.tr xe234
  have xm1203 : ext S172 S253 := xm1202.tr xe254
  have xm1204 : ext S172 S260 := xm1203.tr xe261
  have xm1205 : ext S172 S280 := xm1204.tr xe281
  have xm1206 : ext S172 S288 := xm1205.tr xe289
  have xm1207 : ext S172 S310 := xm1206.tr xe311
  have xm1208 : ext S172 S319 := xm1207.tr xe320
  have xm1209 : ext S172 S345 := xm1208.tr xe346
  have xm1210 : ext S172 S355 := xm1209.tr xe356
  have xm1211 : ext S172 S385 := xm1210.tr xe386
  have xm1212 : ext S172 S396 := xm1211.tr xe397
  have xm1213 : ext S172 S430 := xm1212.tr xe431
  have xm1214 : ext S172 S442 := xm1213.tr xe443
  have xm1215 : ext S172 S480 := xm1214.tr xe481
  have xm1216 : ext S172 S495 := xm1215.tr xe496
  have xm1217 : ext S172 S515 := xm1216.tr xe516
  have xm1218 : ext S172 S531 := xm1217.tr xe532
  have xm1219 : ext S172 S587 := xm1218.tr xe588
  have xm1220 : ext S172 S600 := xm1219.tr xe601
  have xm1221 : ext S172 S644 := xm1220.tr xe645
  have xm1222 : ext S172 S657 := xm1221.tr xe658
  have xm1223 : ext S172 S701 := xm1222.tr xe702
  have xm1224 : ext S172 S714 := xm1223.tr xe715
  have xm1225 : ext S172 S758 := xm1224.tr xe759
  have xm1226 : ext S172 S771 := xm1225.tr xe772
  have xm1227 : ext S172 S815 := xm1226.tr xe816
  have xm1228 : ext S152 S179 := xe173.tr xe180
  have xm1229 : ext S152 S199 := xm1228.tr xe200
  have xm1230 : ext S152 S206 := xm1229.tr xe207
  have xm1231 : ext S152 S226 := xm1230.tr xe227
  have xm1232 : ext S152 S233 := xm1231.tr xe234
  have xm1233 : ext S152 S253 := xm1232.tr xe254
  have xm1234 : ext S152 S260 := xm1233.tr xe261
  have xm1235 : ext S152 S280 := xm1234.tr xe281
  have xm1236 : ext S152 S288 := xm1235.tr xe289
  have xm1237 : ext S152 S310 := xm1236.tr xe311
  have xm1238 : ext S152 S319 := xm1237.tr xe320
  have xm1239 : ext S152 S345 := xm1238.tr xe346
  have xm1240 : ext S152 S355 := xm1239.tr xe356
  have xm1241 : ext S152 S385 := xm1240.tr xe386
  have xm1242 : ext S152 S396 := xm1241.tr xe397
  have xm1243 : ext S152 S430 := xm1242.tr xe431
  have xm1244 : ext S152 S442 := xm1243.tr xe443
  have xm1245 : ext S152 S480 := xm1244.tr xe481
  have xm1246 : ext S152 S495 := xm1245.tr xe496
  have xm1247 : ext S152 S515 := xm1246.tr xe516
  have xm1248 : ext S152 S531 := xm1247.tr xe532
  have xm1249 : ext S152 S587 := xm1248.tr xe588
  have xm1250 : ext S152 S600 := xm1249.tr xe601
  have xm1251 : ext S152 S644 := xm1250.tr xe645
  have xm1252 : ext S152 S657 := xm1251.tr xe658
  have xm1253 : ext S152 S701 := xm1252.tr xe702
  have xm1254 : ext S152 S714 := xm1253.tr xe715
  have xm1255 : ext S152 S758 := xm1254.tr xe759
  have xm1256 : ext S152 S771 := xm1255.tr xe772
  have xm1257 : ext S152 S815 := xm1256.tr xe816
  have am1258 : isA S815 qa151 38 := xm1257.A aqa151
  have xm1259 : ext S199 S226 := xe207.tr xe227
  have xm1260 : ext S199 S233 := xm1259.tr xe234
  have xm1261 : ext S199 S253 := xm1260.tr xe254
  have xm1262 : ext S199 S260 := xm1261.tr xe261
  have xm1263 : ext S199 S280 := xm1262.tr xe281
  have xm1264 : ext S199 S288 := xm1263.tr xe289
  have xm1265 : ext S199 S310 := xm1264.tr xe311
  have xm1266 : ext S199 S319 := xm1265.tr xe320
  have xm1267 : ext S199 S345 := xm1266.tr xe346
  have xm1268 : ext S199 S355 := xm1267.tr xe356
  have xm1269 : ext S199 S385 := xm1268.tr xe386
  have xm1270 : ext S199 S396 := xm1269.tr xe397
  have xm1271 : ext S199 S430 := xm1270.tr xe431
  have xm1272 : ext S199 S442 := xm1271.tr xe443
  have xm1273 : ext S199 S480 := xm1272.tr xe481
  have xm1274 : ext S199 S495 := xm1273.tr xe496
  have xm1275 : ext S199 S515 := xm1274.tr xe516
  have xm1276 : ext S199 S531 := xm1275.tr xe532
  have xm1277 : ext S199 S587 := xm1276.tr xe588
  have xm1278 : ext S199 S600 := xm1277.tr xe601
  have xm1279 : ext S199 S644 := xm1278.tr xe645
  have xm1280 : ext S199 S657 := xm1279.tr xe658
  have xm1281 : ext S199 S701 := xm1280.tr xe702
  have xm1282 : ext S199 S714 := xm1281.tr xe715
  have xm1283 : ext S199 S758 := xm1282.tr xe759
  have xm1284 : ext S199 S771 := xm1283.tr xe772
  have xm1285 : ext S199 S815 := xm1284.tr xe816
  have xm1286 : ext S179 S206 := xe200.tr xe207
  have xm1287 : ext S179 S226 := xm1286.tr xe227
  have xm1288 : ext S179 S233 := xm1287.tr xe234
  have xm1289 : ext S179 S253 := xm1288.tr xe254
  have xm1290 : ext S179 S260 := xm1289.tr xe261
  have xm1291 : ext S179 S280 := xm1290.tr xe281
  have xm1292 : ext S179 S288 := xm1291.tr xe289
  have xm1293 : ext S179 S310 := xm1292.tr xe311
  have xm1294 : ext S179 S319 := xm1293.tr xe320
  have xm1295 : ext S179 S345 := xm1294.tr xe346
  have xm1296 : ext S179 S355 := xm1295.tr xe356
  have xm1297 : ext S179 S385 := xm1296.tr xe386
  have xm1298 : ext S179 S396 := xm1297.tr xe397
  have xm1299 : ext S179 S430 := xm1298.tr xe431
  have xm1300 : ext S179 S442 := xm1299.tr xe443
  have xm1301 : ext S179 S480 := xm1300.tr xe481
  have xm1302 : ext S179 S495 := xm1301.tr xe496
  have xm1303 : ext S179 S515 := xm1302.tr xe516
  have xm1304 : ext S179 S531 := xm1303.tr xe532
  have xm1305 : ext S179 S587 := xm1304.tr xe588
  have xm1306 : ext S179 S600 := xm1305.tr xe601
  have xm1307 : ext S179 S644 := xm1306.tr xe645
  have xm1308 : ext S179 S657 := xm1307.tr xe658
  have xm1309 : ext S179 S701 := xm1308.tr xe702
  have xm1310 : ext S179 S714 := xm1309.tr xe715
  have xm1311 : ext S179 S758 := xm1310.tr xe759
  have xm1312 : ext S179 S771 := xm1311.tr xe772
  have xm1313 : ext S179 S815 := xm1312.tr xe816
  have am1314 : isA S815 qa178 34 := xm1313.A aqa178
  have xm1315 : ext S226 S253 := xe234.tr xe254
  have xm1316 : ext S226 S260 := xm1315.tr xe261
  have xm1317 : ext S226 S280 := xm1316.tr xe281
  have xm1318 : ext S226 S288 := xm1317.tr xe289
  have xm1319 : ext S226 S310 := xm1318.tr xe311
  have xm1320 : ext S226 S319 := xm1319.tr xe320
  have xm1321 : ext S226 S345 := xm1320.tr xe346
  have xm1322 : ext S226 S355 := xm1321.tr xe356
  have xm1323 : ext S226 S385 := xm1322.tr xe386
  have xm1324 : ext S226 S396 := xm1323.tr xe397
  have xm1325 : ext S226 S430 := xm1324.tr xe431
  have xm1326 : ext S226 S442 := xm1325.tr xe443
  have xm1327 : ext S226 S480 := xm1326.tr xe481
  have xm1328 : ext S226 S495 := xm1327.tr xe496
  have xm1329 : ext S226 S515 := xm1328.tr xe516
  have xm1330 : ext S226 S531 := xm1329.tr xe532
  have xm1331 : ext S226 S587 := xm1330.tr xe588
  have xm1332 : ext S226 S600 := xm1331.tr xe601
  have xm1333 : ext S226 S644 := xm1332.tr xe645
  have xm1334 : ext S226 S657 := xm1333.tr xe658
  have xm1335 : ext S226 S701 := xm1334.tr xe702
  have xm1336 : ext S226 S714 := xm1335.tr xe715
  have xm1337 : ext S226 S758 := xm1336.tr xe759
  have xm1338 : ext S226 S771 := xm1337.tr xe772
  have xm1339 : ext S226 S815 := xm1338.tr xe816
  have xm1340 : ext S206 S233 := xe227.tr xe234
  have xm1341 : ext S206 S253 := xm1340.tr xe254
  have xm1342 : ext S206 S260 := xm1341.tr xe261
  have xm1343 : ext S206 S280 := xm1342.tr xe281
  have xm1344 : ext S206 S288 := xm1343.tr xe289
  have xm1345 : ext S206 S310 := xm1344.tr xe311
  have xm1346 : ext S206 S319 := xm1345.tr xe320
  have xm1347 : ext S206 S345 := xm1346.tr xe346
  have xm1348 : ext S206 S355 := xm1347.tr xe356
  have xm1349 : ext S206 S385 := xm1348.tr xe386
  have xm1350 : ext S206 S396 := xm1349.tr xe397
  have xm1351 : ext S206 S430 := xm1350.tr xe431
  have xm1352 : ext S206 S442 := xm1351.tr xe443
  have xm1353 : ext S206 S480 := xm1352.tr xe481
  have xm1354 : ext S206 S495 := xm1353.tr xe496
  have xm1355 : ext S206 S515 := xm1354.tr xe516
  have xm1356 : ext S206 S531 := xm1355.tr xe532
  have xm1357 : ext S206 S587 := xm1356.tr xe588
  have xm1358 : ext S206 S600 := xm1357.tr xe601
  have xm1359 : ext S206 S644 := xm1358.tr xe645
  have xm1360 : ext S206 S657 := xm1359.tr xe658
  have xm1361 : ext S206 S701 := xm1360.tr xe702
  have xm1362 : ext S206 S714 := xm1361.tr xe715
  have xm1363 : ext S206 S758 := xm1362.tr xe759
  have xm1364 : ext S206 S771 := xm1363.tr xe772
  have xm1365 : ext S206 S815 := xm1364.tr xe816
  have am1366 : isA S815 qa205 35 := xm1365.A aqa205
  have xm1367 : ext S253 S280 := xe261.tr xe281
  have xm1368 : ext S253 S288 := xm1367.tr xe289
  have xm1369 : ext S253 S310 := xm1368.tr xe311
  have xm1370 : ext S253 S319 := xm1369.tr xe320
  have xm1371 : ext S253 S345 := xm1370.tr xe346
  have xm1372 : ext S253 S355 := xm1371.tr xe356
  have xm1373 : ext S253 S385 := xm1372.tr xe386
  have xm1374 : ext S253 S396 := xm1373.tr xe397
  have xm1375 : ext S253 S430 := xm1374.tr xe431
  have xm1376 : ext S253 S442 := xm1375.tr xe443
  have xm1377 : ext S253 S480 := xm1376.tr xe481
  have xm1378 : ext S253 S495 := xm1377.tr xe496
  have xm1379 : ext S253 S515 := xm1378.tr xe516
  have xm1380 : ext S253 S531 := xm1379.tr xe532
  have xm1381 : ext S253 S587 := xm1380.tr xe588
  have xm1382 : ext S253 S600 := xm1381.tr xe601
  have xm1383 : ext S253 S644 := xm1382.tr xe645
  have xm1384 : ext S253 S657 := xm1383.tr xe658
  have xm1385 : ext S253 S701 := xm1384.tr xe702
  have xm1386 : ext S253 S714 := xm1385.tr xe715
  have xm1387 : ext S253 S758 := xm1386.tr xe759
  have xm1388 : ext S253 S771 := xm1387.tr xe772
  have xm1389 : ext S253 S815 := xm1388.tr xe816
  have xm1390 : ext S233 S260 := xe254.tr xe261
  have xm1391 : ext S233 S280 := xm1390.tr xe281
  have xm1392 : ext S233 S288 := xm1391.tr xe289
  have xm1393 : ext S233 S310 := xm1392.tr xe311
  have xm1394 : ext S233 S319 := xm1393.tr xe320
  have xm1395 : ext S233 S345 := xm1394.tr xe346
  have xm1396 : ext S233 S355 := xm1395.tr xe356
  have xm1397 : ext S233 S385 := xm1396.tr xe386
  have xm1398 : ext S233 S396 := xm1397.tr xe397
  have xm1399 : ext S233 S430 := xm1398.tr xe431
  have xm1400 : ext S233 S442 := xm1399.tr xe443
  have xm1401 : ext S233 S480 := xm1400.tr xe481
  have xm1402 : ext S233 S495 := xm1401.tr xe496
  have xm1403 : ext S233 S515 := xm1402.tr xe516
  have xm1404 : ext S233 S531 := xm1403.tr xe532
  have xm1405 : ext S233 S587 := xm1404.tr xe588
  have xm1406 : ext S233 S600 := xm1405.tr xe601
  have xm1407 : ext S233 S644 := xm1406.tr xe645
  have xm1408 : ext S233 S657 := xm1407.tr xe658
  have xm1409 : ext S233 S701 := xm1408.tr xe702
  have xm1410 : ext S233 S714 := xm1409.tr xe715
  have xm1411 : ext S233 S758 := xm1410.tr xe759
  have xm1412 : ext S233 S771 := xm1411.tr xe772
  have xm1413 : ext S233 S815 := xm1412.tr xe816
  have am1414 : isA S815 qa232 36 := xm1413.A aqa232
  have xm1415 : ext S587 S644 := xe601.tr xe645
  have xm1416 : ext S587 S657 := xm1415.tr xe658
  have xm1417 : ext S587 S701 := xm1416.tr xe702
  have xm1418 : ext S587 S714 := xm1417.tr xe715
  have xm1419 : ext S587 S758 := xm1418.tr xe759
  have xm1420 : ext S587 S771 := xm1419.tr xe772
  have xm1421 : ext S587 S815 := xm1420.tr xe816
  have xm1422 : ext S531 S600 := xe588.tr xe601
  have xm1423 : ext S531 S644 := xm1422.tr xe645
  have xm1424 : ext S531 S657 := xm1423.tr xe658
  have xm1425 : ext S531 S701 := xm1424.tr xe702
  have xm1426 : ext S531 S714 := xm1425.tr xe715
  have xm1427 : ext S531 S758 := xm1426.tr xe759
  have xm1428 : ext S531 S771 := xm1427.tr xe772
  have xm1429 : ext S531 S815 := xm1428.tr xe816
  have am1430 : isA S815 qa530 17 := xm1429.A aqa530
  have xm1431 : ext S644 S701 := xe658.tr xe702
  have xm1432 : ext S644 S714 := xm1431.tr xe715
  have xm1433 : ext S644 S758 := xm1432.tr xe759
  have xm1434 : ext S644 S771 := xm1433.tr xe772
  have xm1435 : ext S644 S815 := xm1434.tr xe816
  have xm1436 : ext S600 S657 := xe645.tr xe658
  have xm1437 : ext S600 S701 := xm1436.tr xe702
  have xm1438 : ext S600 S714 := xm1437.tr xe715
  have xm1439 : ext S600 S758 := xm1438.tr xe759
  have xm1440 : ext S600 S771 := xm1439.tr xe772
  have xm1441 : ext S600 S815 := xm1440.tr xe816
  have am1442 : isA S815 qa599 17 := xm1441.A aqa599
  have xm1443 : ext S701 S758 := xe715.tr xe759
  have xm1444 : ext S701 S771 := xm1443.tr xe772
  have xm1445 : ext S701 S815 := xm1444.tr xe816
  have xm1446 : ext S657 S714 := xe702.tr xe715
  have xm1447 : ext S657 S758 := xm1446.tr xe759
  have xm1448 : ext S657 S771 := xm1447.tr xe772
  have xm1449 : ext S657 S815 := xm1448.tr xe816
  have am1450 : isA S815 qa656 17 := xm1449.A aqa656
  have xm1451 : ext S758 S815 := xe772.tr xe816
  have xm1452 : ext S714 S771 := xe759.tr xe772
  have xm1453 : ext S714 S815 := xm1452.tr xe816
  have am1454 : isA S815 qa713 17 := xm1453.A aqa713
  have am1455 : isA S815 qa770 17 := xe816.A aqa770
  have xm1456 : ext S280 S310 := xe289.tr xe311
  have xm1457 : ext S280 S319 := xm1456.tr xe320
  have xm1458 : ext S280 S345 := xm1457.tr xe346
  have xm1459 : ext S280 S355 := xm1458.tr xe356
  have xm1460 : ext S280 S385 := xm1459.tr xe386
  have xm1461 : ext S280 S396 := xm1460.tr xe397
  have xm1462 : ext S280 S430 := xm1461.tr xe431
  have xm1463 : ext S280 S442 := xm1462.tr xe443
  have xm1464 : ext S280 S480 := xm1463.tr xe481
  have xm1465 : ext S280 S495 := xm1464.tr xe496
  have xm1466 : ext S280 S515 := xm1465.tr xe516
  have xm1467 : ext S280 S531 := xm1466.tr xe532
  have xm1468 : ext S280 S587 := xm1467.tr xe588
  have xm1469 : ext S280 S600 := xm1468.tr xe601
  have xm1470 : ext S280 S644 := xm1469.tr xe645
  have xm1471 : ext S280 S657 := xm1470.tr xe658
  have xm1472 : ext S280 S701 := xm1471.tr xe702
  have xm1473 : ext S280 S714 := xm1472.tr xe715
  have xm1474 : ext S280 S758 := xm1473.tr xe759
  have xm1475 : ext S280 S771 := xm1474.tr xe772
  have xm1476 : ext S280 S815 := xm1475.tr xe816
  have xm1477 : ext S260 S771 := xm776.tr xe772
  have xm1478 : ext S260 S815 := xm1477.tr xe816
  have am1479 : isA S815 qa259 23 := xm1478.A aqa259
  have xm1480 : ext S310 S345 := xe320.tr xe346
  have xm1481 : ext S310 S355 := xm1480.tr xe356
  have xm1482 : ext S310 S385 := xm1481.tr xe386
  have xm1483 : ext S310 S396 := xm1482.tr xe397
  have xm1484 : ext S310 S430 := xm1483.tr xe431
  have xm1485 : ext S310 S442 := xm1484.tr xe443
  have xm1486 : ext S310 S480 := xm1485.tr xe481
  have xm1487 : ext S310 S495 := xm1486.tr xe496
  have xm1488 : ext S310 S515 := xm1487.tr xe516
  have xm1489 : ext S310 S531 := xm1488.tr xe532
  have xm1490 : ext S310 S587 := xm1489.tr xe588
  have xm1491 : ext S310 S600 := xm1490.tr xe601
  have xm1492 : ext S310 S644 := xm1491.tr xe645
  have xm1493 : ext S310 S657 := xm1492.tr xe658
  have xm1494 : ext S310 S701 := xm1493.tr xe702
  have xm1495 : ext S310 S714 := xm1494.tr xe715
  have xm1496 : ext S310 S758 := xm1495.tr xe759
  have xm1497 : ext S310 S771 := xm1496.tr xe772
  have xm1498 : ext S310 S815 := xm1497.tr xe816
  have xm1499 : ext S288 S771 := xm780.tr xe772
  have xm1500 : ext S288 S815 := xm1499.tr xe816
  have am1501 : isA S815 qa287 23 := xm1500.A aqa287
  have xm1502 : ext S345 S385 := xe356.tr xe386
  have xm1503 : ext S345 S396 := xm1502.tr xe397
  have xm1504 : ext S345 S430 := xm1503.tr xe431
  have xm1505 : ext S345 S442 := xm1504.tr xe443
  have xm1506 : ext S345 S480 := xm1505.tr xe481
  have xm1507 : ext S345 S495 := xm1506.tr xe496
  have xm1508 : ext S345 S515 := xm1507.tr xe516
  have xm1509 : ext S345 S531 := xm1508.tr xe532
  have xm1510 : ext S345 S587 := xm1509.tr xe588
  have xm1511 : ext S345 S600 := xm1510.tr xe601
  have xm1512 : ext S345 S644 := xm1511.tr xe645
  have xm1513 : ext S345 S657 := xm1512.tr xe658
  have xm1514 : ext S345 S701 := xm1513.tr xe702
  have xm1515 : ext S345 S714 := xm1514.tr xe715
  have xm1516 : ext S345 S758 := xm1515.tr xe759
  have xm1517 : ext S345 S771 := xm1516.tr xe772
  have xm1518 : ext S345 S815 := xm1517.tr xe816
  have xm1519 : ext S319 S771 := xm784.tr xe772
  have xm1520 : ext S319 S815 := xm1519.tr xe816
  have am1521 : isA S815 qa318 23 := xm1520.A aqa318
  have xm1522 : ext S385 S430 := xe397.tr xe431
  have xm1523 : ext S385 S442 := xm1522.tr xe443
  have xm1524 : ext S385 S480 := xm1523.tr xe481
  have xm1525 : ext S385 S495 := xm1524.tr xe496
  have xm1526 : ext S385 S515 := xm1525.tr xe516
  have xm1527 : ext S385 S531 := xm1526.tr xe532
  have xm1528 : ext S385 S587 := xm1527.tr xe588
  have xm1529 : ext S385 S600 := xm1528.tr xe601
  have xm1530 : ext S385 S644 := xm1529.tr xe645
  have xm1531 : ext S385 S657 := xm1530.tr xe658
  have xm1532 : ext S385 S701 := xm1531.tr xe702
  have xm1533 : ext S385 S714 := xm1532.tr xe715
  have xm1534 : ext S385 S758 := xm1533.tr xe759
  have xm1535 : ext S385 S771 := xm1534.tr xe772
  have xm1536 : ext S385 S815 := xm1535.tr xe816
  have xm1537 : ext S355 S771 := xm788.tr xe772
  have xm1538 : ext S355 S815 := xm1537.tr xe816
  have am1539 : isA S815 qa354 23 := xm1538.A aqa354
  have xm1540 : ext S430 S480 := xe443.tr xe481
  have xm1541 : ext S430 S495 := xm1540.tr xe496
  have xm1542 : ext S430 S515 := xm1541.tr xe516
  have xm1543 : ext S430 S531 := xm1542.tr xe532
  have xm1544 : ext S430 S587 := xm1543.tr xe588
  have xm1545 : ext S430 S600 := xm1544.tr xe601
  have xm1546 : ext S430 S644 := xm1545.tr xe645
  have xm1547 : ext S430 S657 := xm1546.tr xe658
  have xm1548 : ext S430 S701 := xm1547.tr xe702
  have xm1549 : ext S430 S714 := xm1548.tr xe715
  have xm1550 : ext S430 S758 := xm1549.tr xe759
  have xm1551 : ext S430 S771 := xm1550.tr xe772
  have xm1552 : ext S430 S815 := xm1551.tr xe816
  have xm1553 : ext S396 S771 := xm792.tr xe772
  have xm1554 : ext S396 S815 := xm1553.tr xe816
  have am1555 : isA S815 qa395 23 := xm1554.A aqa395
  have xm1556 : ext S480 S515 := xe496.tr xe516
  have xm1557 : ext S480 S531 := xm1556.tr xe532
  have xm1558 : ext S480 S587 := xm1557.tr xe588
  have xm1559 : ext S480 S600 := xm1558.tr xe601
  have xm1560 : ext S480 S644 := xm1559.tr xe645
  have xm1561 : ext S480 S657 := xm1560.tr xe658
  have xm1562 : ext S480 S701 := xm1561.tr xe702
  have xm1563 : ext S480 S714 := xm1562.tr xe715
  have xm1564 : ext S480 S758 := xm1563.tr xe759
  have xm1565 : ext S480 S771 := xm1564.tr xe772
  have xm1566 : ext S480 S815 := xm1565.tr xe816
  have xm1567 : ext S442 S771 := xm796.tr xe772
  have xm1568 : ext S442 S815 := xm1567.tr xe816
  have am1569 : isA S815 qa441 23 := xm1568.A aqa441
  have xm1570 : ext S1 S15 := xe7.tr xe17
  have xm1571 : ext S1 S30 := xm1570.tr xe31
  have xm1572 : ext S1 S36 := xm1571.tr xe37
  have xm1573 : ext S1 S48 := xm1572.tr xe50
  have xm1574 : ext S1 S66 := xm1573.tr xe67
  have xm1575 : ext S1 S73 := xm1574.tr xe74
  have xm1576 : ext S1 S91 := xm1575.tr xe92
  have xm1577 : ext S1 S98 := xm1576.tr xe99
  have xm1578 : ext S1 S118 := xm1577.tr xe119
  have xm1579 : ext S1 S125 := xm1578.tr xe126
  have xm1580 : ext S1 S145 := xm1579.tr xe146
  have xm1581 : ext S1 S152 := xm1580.tr xe153
  have xm1582 : ext S1 S172 := xm1581.tr xe173
  have xm1583 : ext S1 S179 := xm1582.tr xe180
  have xm1584 : ext S1 S199 := xm1583.tr xe200
  have xm1585 : ext S1 S206 := xm1584.tr xe207
  have xm1586 : ext S1 S226 := xm1585.tr xe227
  have xm1587 : ext S1 S233 := xm1586.tr xe234
  have xm1588 : ext S1 S253 := xm1587.tr xe254
  have xm1589 : ext S1 S260 := xm1588.tr xe261
  have xm1590 : ext S1 S280 := xm1589.tr xe281
  have xm1591 : ext S1 S288 := xm1590.tr xe289
  have xm1592 : ext S1 S310 := xm1591.tr xe311
  have xm1593 : ext S1 S319 := xm1592.tr xe320
  have xm1594 : ext S1 S345 := xm1593.tr xe346
  have xm1595 : ext S1 S355 := xm1594.tr xe356
  have xm1596 : ext S1 S385 := xm1595.tr xe386
  have xm1597 : ext S1 S396 := xm1596.tr xe397
  have xm1598 : ext S1 S430 := xm1597.tr xe431
  have xm1599 : ext S1 S442 := xm1598.tr xe443
  have xm1600 : ext S1 S480 := xm1599.tr xe481
  have xm1601 : ext S1 S495 := xm1600.tr xe496
  have xm1602 : ext S1 S515 := xm1601.tr xe516
  have xm1603 : ext S1 S531 := xm1602.tr xe532
  have xm1604 : ext S1 S587 := xm1603.tr xe588
  have xm1605 : ext S1 S600 := xm1604.tr xe601
  have xm1606 : ext S1 S644 := xm1605.tr xe645
  have xm1607 : ext S1 S657 := xm1606.tr xe658
  have xm1608 : ext S1 S701 := xm1607.tr xe702
  have xm1609 : ext S1 S714 := xm1608.tr xe715
  have xm1610 : ext S1 S758 := xm1609.tr xe759
  have xm1611 : ext S1 S771 := xm1610.tr xe772
  have xm1612 : ext S1 S815 := xm1611.tr xe816
  have tt : stp ([] : List (Nat × Nat)) [o1] R S S815 := t817.un (okAt.of_12 oo.2.1 ⟨(by rw [f_of (xm870.F (xm41.A h_o1) (by decide) F34)]; exact ⟨(xm870.F (xm41.A h_o1) (by decide) F34), am873, ((xm915.n aqa5).trans nqa5)⟩), (by rw [f_of (xm952.F (xm82.A h_o1) (by decide) F71)]; exact ⟨(xm952.F (xm82.A h_o1) (by decide) F71), am955, ((xm994.n aqa35).trans nqa35)⟩), (by rw [f_of (xm1029.F (xm109.A h_o1) (by decide) F96)]; exact ⟨(xm1029.F (xm109.A h_o1) (by decide) F96), am1066, ((xm1065.n aqa72).trans nqa72)⟩), (by rw [f_of (xm1099.F (xm136.A h_o1) (by decide) F123)]; exact ⟨(xm1099.F (xm136.A h_o1) (by decide) F123), am1134, ((xm1133.n aqa97).trans nqa97)⟩), (by rw [f_of (xm1165.F (xm163.A h_o1) (by decide) F150)]; exact ⟨(xm1165.F (xm163.A h_o1) (by decide) F150), am1198, ((xm1197.n aqa124).trans nqa124)⟩), (by rw [f_of (xm1227.F (xm190.A h_o1) (by decide) F177)]; exact ⟨(xm1227.F (xm190.A h_o1) (by decide) F177), am1258, ((xm1257.n aqa151).trans nqa151)⟩), (by rw [f_of (xm1285.F (xm217.A h_o1) (by decide) F204)]; exact ⟨(xm1285.F (xm217.A h_o1) (by decide) F204), am1314, ((xm1313.n aqa178).trans nqa178)⟩), (by rw [f_of (xm1339.F (xm244.A h_o1) (by decide) F231)]; exact ⟨(xm1339.F (xm244.A h_o1) (by decide) F231), am1366, ((xm1365.n aqa205).trans nqa205)⟩), (by rw [f_of (xm1389.F (xm271.A h_o1) (by decide) F258)]; exact ⟨(xm1389.F (xm271.A h_o1) (by decide) F258), am1414, ((xm1413.n aqa232).trans nqa232)⟩), (by rw [f_of (xm1421.F (xm635.A h_o1) (by decide) F598)]; exact ⟨(xm1421.F (xm635.A h_o1) (by decide) F598), am1430, ((xm1429.n aqa530).trans nqa530)⟩), (by rw [f_of (xm1435.F (xm692.A h_o1) (by decide) F655)]; exact ⟨(xm1435.F (xm692.A h_o1) (by decide) F655), am1442, ((xm1441.n aqa599).trans nqa599)⟩), (by rw [f_of (xm1445.F (xm749.A h_o1) (by decide) F712)]; exact ⟨(xm1445.F (xm749.A h_o1) (by decide) F712), am1450, ((xm1449.n aqa656).trans nqa656)⟩), (by rw [f_of (xm1451.F (xm806.A h_o1) (by decide) F769)]; exact ⟨(xm1451.F (xm806.A h_o1) (by decide) F769), am1454, ((xm1453.n aqa713).trans nqa713)⟩), (by rw [f_of F826]; exact ⟨F826, am1455, ((xe816.n aqa770).trans nqa770)⟩), (by rw [f_of (xm1476.F (xm301.A h_o1) (by decide) F286)]; exact ⟨(xm1476.F (xm301.A h_o1) (by decide) F286), am1479, ((xm1478.n aqa259).trans nqa259)⟩), (by rw [f_of (xm1498.F (xm336.A h_o1) (by decide) F317)]; exact ⟨(xm1498.F (xm336.A h_o1) (by decide) F317), am1501, ((xm1500.n aqa287).trans nqa287)⟩), (by rw [f_of (xm1518.F (xm376.A h_o1) (by decide) F353)]; exact ⟨(xm1518.F (xm376.A h_o1) (by decide) F353), am1521, ((xm1520.n aqa318).trans nqa318)⟩), (by rw [f_of (xm1536.F (xm421.A h_o1) (by decide) F394)]; exact ⟨(xm1536.F (xm421.A h_o1) (by decide) F394), am1539, ((xm1538.n aqa354).trans nqa354)⟩), (by rw [f_of (xm1552.F (xm471.A h_o1) (by decide) F440)]; exact ⟨(xm1552.F (xm471.A h_o1) (by decide) F440), am1555, ((xm1554.n aqa395).trans nqa395)⟩), (by rw [f_of (xm1566.F (xm492.A h_o1) (by decide) F491)]; exact ⟨(xm1566.F (xm492.A h_o1) (by decide) F491), am1569, ((xm1568.n aqa441).trans nqa441)⟩), (by rw [I16]; exact ⟨by decide, by decide⟩), (by rw [I18]; exact ⟨by decide, by decide⟩), (by rw [I19]; exact ⟨by decide, by decide⟩), (by rw [I20]; exact ⟨by decide, by decide⟩), (by rw [I21]; exact ⟨by decide, by decide⟩), (by rw [I24]; exact ⟨by decide, by decide⟩), (by rw [I25]; exact ⟨by decide, by decide⟩), (by rw [I26]; exact ⟨by decide, by decide⟩), (by rw [f_of (xm1612.F (xe2.A h_o1) (by decide) F4)]; exact (xm1612.F (xe2.A h_o1) (by decide) F4)), (by rw [f_of (xm870.F (xm41.A h_o1) (by decide) F34), f_of (xm1612.F (xe2.A h_o1) (by decide) F4)]; exact (xm872.F (xe17.A aqa5) (by decide) y14)), (by rw [f_of (xm952.F (xm82.A h_o1) (by decide) F71), f_of (xm1612.F (xe2.A h_o1) (by decide) F4)]; exact (xm954.F (xe50.A aqa35) (by decide) y47))⟩)
  have am1613 : isA S587 qa530 17 := xe588.A aqa530
  have am1614 : isA S644 qa530 17 := xm1423.A aqa530
  have am1615 : isA S701 qa530 17 := xm1425.A aqa530
  have am1616 : isA S644 qa599 17 := xe645.A aqa599
  have am1617 : isA S701 qa599 17 := xm1437.A aqa599
  have am1618 : isA S701 qa656 17 := xe702.A aqa656
  refine W.widen (k := 20) (n := 905) (Nat.le_of_ble_eq_true rfl) (Nat.le_of_ble_eq_true rfl) ?_
  exact W.vret hx hb hr (fun t ht hW9 => ⟨⟨S815, rfl, ⟨tt, oo, I15, I16, I17, I18, I19, I20, I21, I22, I23, I24, I25, I26, ((xm1612.F (xe2.A h_o1) (by decide) F4)), (by rw [f_of ((xm870.F (xm41.A h_o1) (by decide) F34))]; exact z824), (by rw [f_of ((xm952.F (xm82.A h_o1) (by decide) F71))]; exact z825), (by rw [f_of ((xm1476.F (xm301.A h_o1) (by decide) F286))]; exact z818), (by rw [f_of ((xm1498.F (xm336.A h_o1) (by decide) F317))]; exact z819), (by rw [f_of ((xm1518.F (xm376.A h_o1) (by decide) F353))]; exact z820), (by rw [f_of ((xm1536.F (xm421.A h_o1) (by decide) F394))]; exact z821), (by rw [f_of ((xm1552.F (xm471.A h_o1) (by decide) F440))]; exact z822), (by rw [f_of ((xm1566.F (xm492.A h_o1) (by decide) F491))]; exact z823), (by rw [f_of (xm1421.F (xm635.A h_o1) (by decide) F598), f_of (xm1435.F (xm692.A h_o1) (by decide) F655)]; exact fun e9 => hqa599 (e9 ▸ am1613.1)), (by rw [f_of (xm1421.F (xm635.A h_o1) (by decide) F598), f_of (xm1445.F (xm749.A h_o1) (by decide) F712)]; exact fun e9 => hqa656 (e9 ▸ am1614.1)), (by rw [f_of (xm1421.F (xm635.A h_o1) (by decide) F598), f_of (xm1451.F (xm806.A h_o1) (by decide) F769)]; exact fun e9 => hqa713 (e9 ▸ am1615.1)), (by rw [f_of (xm1435.F (xm692.A h_o1) (by decide) F655), f_of (xm1445.F (xm749.A h_o1) (by decide) F712)]; exact fun e9 => hqa656 (e9 ▸ am1616.1)), (by rw [f_of (xm1435.F (xm692.A h_o1) (by decide) F655), f_of (xm1451.F (xm806.A h_o1) (by decide) F769)]; exact fun e9 => hqa713 (e9 ▸ am1617.1)), (by rw [f_of (xm1445.F (xm749.A h_o1) (by decide) F712), f_of (xm1451.F (xm806.A h_o1) (by decide) F769)]; exact fun e9 => hqa713 (e9 ▸ am1618.1))⟩, wd_end hP hK hD ht hW9.alike⟩, hS.F ht⟩) hS.2.2 dX12_init_178 hlocks
theorem hi_X12_gear_X10 : ∀ w ∈ u_ws RX10 TX10 23, w ∈ wsX12_gear := by decide +kernel
theorem hi_X12_gear_X12 : ∀ w ∈ u_ws RX12 TX12 34, w ∈ wsX12_gear := by decide +kernel
theorem hd_X12_gear : yX12_gear.cls = RX12 ∧ yX12_gear.cls ≠ "java/lang/invoke/MethodHandle" ∧ yX12_gear.cls ≠ "java/lang/invoke/VarHandle" ∧ (parseMethodDescriptor yX12_gear.desc).map (fun d => d.parameters.length) = some 4 := by decide +kernel
set_option maxHeartbeats 4000000 in
set_option maxRecDepth 100000 in
theorem c_X12_gear (l : Launch) {e0 mi : Nat} {D : va_G} {cy : Nat → ClassId} {X : va_W} (S : wPS) (sz : Nat) (o1 : Nat) (h_o1 : isA S o1 12) (x1 : Int32) (x2 : Int32) (x3 : Int32) (x4 : Int32) (hW : wtB S []) (he : S.F o1 77 = some e0) : Met l yX12_gear wsX12_gear ({ frames := 7, cells := 4, slots := 271, locals := 171 }) (va_Pc [.ref o1, .int x1, .int x2, .int x3, .int x4] (fun U => U.heap.size = sz ∧ WD D cy X (fun _ => True) S U ∧ NW U ∧ OU e0 mi (va_A (X ++ PL cy S) sz) U U.heap)) (va_Qi (fun r (u : wPS) => stp [(12, 15), (14, 0), (14, 1), (14, 2), (22, 101), (110, 10), (114, 10), (122, 10)] [] [] S u ∧ GN S u o1 ∧ ((((f_X12_in x1.toInt64 (6 : Int64) (200 : Int64)).toInt = 0 ∨ (f_X12_in x2.toInt64 (500 : Int64) (10000 : Int64)).toInt = 0 ∨ (f_X12_in x3.toInt64 (-500 : Int64) (500 : Int64)).toInt = 0 ∨ (f_X12_in x4.toInt64 (1000 : Int64) (99999 : Int64)).toInt = 0) ∧ r.toInt = 0 ∧ (u.I o1 15).toInt = 1 ∧ (u.I (S.f o1 0) 2).toInt = (S.I (S.f o1 0) 2).toInt) ∨ ((¬ (f_X12_in x1.toInt64 (6 : Int64) (200 : Int64)).toInt = 0 ∧ ¬ (f_X12_in x2.toInt64 (500 : Int64) (10000 : Int64)).toInt = 0 ∧ ¬ (f_X12_in x3.toInt64 (-500 : Int64) (500 : Int64)).toInt = 0 ∧ ¬ (f_X12_in x4.toInt64 (1000 : Int64) (99999 : Int64)).toInt = 0) ∧ (S.I (S.f o1 0) 2).toInt = 20 ∧ r.toInt = 0 ∧ (u.I o1 15).toInt = 2 ∧ (u.I (S.f o1 0) 2).toInt = (S.I (S.f o1 0) 2).toInt) ∨ ((¬ (f_X12_in x1.toInt64 (6 : Int64) (200 : Int64)).toInt = 0 ∧ ¬ (f_X12_in x2.toInt64 (500 : Int64) (10000 : Int64)).toInt = 0 ∧ ¬ (f_X12_in x3.toInt64 (-500 : Int64) (500 : Int64)).toInt = 0 ∧ ¬ (f_X12_in x4.toInt64 (1000 : Int64) (99999 : Int64)).toInt = 0) ∧ ¬ (S.I (S.f o1 0) 2).toInt = 20 ∧ r.toInt = (S.I (S.f o1 0) 2).toInt ∧ (u.I o1 15).toInt = 0 ∧ (u.I (S.f o1 0) 2).toInt = (S.I (S.f o1 0) 2).toInt + 1)) ∧ ((u.I (S.f o1 0) 2).toInt = (S.I (S.f o1 0) 2).toInt → ∃ t : Int32, u = S.sI o1 15 t) ∧ ((u.I (S.f o1 0) 2).toInt = (S.I (S.f o1 0) 2).toInt + 1 → ∃ g a : Nat, g ∉ S.L ∧ isA u g 10 ∧ u.F (S.f o1 0) 1 = some a ∧ isA u a 22 ∧ u.r a (S.I (S.f o1 0) 2).toNatClampNeg = some g ∧ (∀ i : Nat, (i : Int) < (S.I (S.f o1 0) 2).toInt → u.r a i = S.r (S.f (S.f o1 0) 1) i) ∧ u.I g 1 = x1 ∧ u.I g 2 = x2 ∧ u.I g 3 = x3 ∧ u.I g 4 = x4 ∧ u.I g 7 = (0 : Int32) ∧ u.I g 8 = (-1 : Int32) ∧ u.I g 10 = (0 : Int32) ∧ u.I g 11 = (0 : Int32) ∧ u.I g 18 = (0 : Int32) ∧ u.f g 5 ∉ S.L ∧ ∀ j : Nat, u.i (u.f g 5) j = 0)) (fun u t => WD D cy X (va_A (X ++ PL cy S) sz) u t) (va_A (X ++ PL cy S) sz)) 4 271 (va_A (X ++ PL cy S) sz) := by
  refine Met.ofW (cc := cX12_gear) (maxL := 5) (ret := (some .int)) (by decide) rfl ?_
  intro p e s m args below meth c s₁ B hml hv
  obtain ⟨rfl, hsz, ⟨hP, hK, hD0⟩, hN, hOU⟩ := hv
  have hx := B.exec
  have hb := B.bytes
  have hr := B.returns
  have hts := atoms_spec (ws := wsX12_gear) B.pre
  have hown : s.vm.findClass RX12 = some m.cls := findClass_of_methodNamed (x := yX12_gear) B.named
  have hlocks := B.notSynchronized
  subst hsz
  have hD := hD0.self (sz := s.heap.size)
  generalize hAe : va_A (X ++ PL cy S) s.heap.size = A at hD hOU ⊢
  have hA : ∀ q : Nat, s.heap.size ≤ q → A q := fun q h => by rw [← hAe]; exact Or.inr h
  have hS : va_S A s.heap s.heap [] := va_S.rf
  have hl := lv_entry ([.ref o1, .int x1, .int x2, .int x3, .int x4]) (n := 5) (Nat.le_of_ble_eq_true rfl)
  rw [lg_entry_eq]
  generalize (lg_sl ([.ref o1, .int x1, .int x2, .int x3, .int x4]) ++ List.replicate (5 - (lg_sl ([.ref o1, .int x1, .int x2, .int x3, .int x4])).length) Slot.unset).toArray = ls at hl ⊢
  have hl : lv_has ls 5 [(0, .ref o1), (1, .int x1), (2, .int x2), (3, .int x3), (4, .int x4)] := hl
  obtain ⟨⟨ga, gZ, gX, gl, gA⟩, ⟨sa9, sZ, sX, sl9, sA⟩, cZ, eZ, eX, el, eA, hMi, hDc, ⟨pf, pZ⟩⟩ := id hOU
  have t0 : stp [(12, 15), (14, 0), (14, 1), (14, 2), (22, 101), (110, 10), (114, 10), (122, 10)] [] [] S S := stp.rf hW
  have F1 := ((hW.at h_o1 List.not_mem_nil).to_12 h_o1.2.1).F0
  refine lv_iload_n hx hb dX12_gear_0 rfl (lv_at hl 1 rfl) ?_
  refine lv_i2l hx hb dX12_gear_1 rfl ?_
  refine lv_ldc2 (own := RX12) (v := 6) hx hb hown (hts (.constantLong RX12 129 (6)) (by decide +kernel)) dX12_gear_2 ?_
  refine lv_ldc2 (own := RX12) (v := 200) hx hb hown (hts (.constantLong RX12 131 (200)) (by decide +kernel)) dX12_gear_5 ?_
  have hFc := free_all hD hS hA
  refine va_calli (va_runS (As := [.long x1.toInt64, .long (6 : Int64), .long (200 : Int64)]) (rest := []) ⟨hx, hb, hml, hown, hts⟩ (c_X12_in l (cy := cy) (X := X) (D := D) S _ x1.toInt64 (6 : Int64) (200 : Int64)) (cwS 3 hts gX12_gear_X12_in rfl rfl rfl hd_X12_in ⟨Nat.le_of_ble_eq_true rfl, Nat.le_of_ble_eq_true rfl⟩) (pS hP hK hD hN) rfl rfl hl.1 rfl (lv_room (Nat.le_of_ble_eq_true rfl)) dX12_gear_8 ⟨(Nat.zero_le _), (Nat.zero_le _)⟩) hS (fun q _ h => hFc q h) hFc (fun r2 u t H1 locs ht hvm hw hB hz1 hk1 hS => ?_)
  have c3 := hw
  obtain ⟨hP, hD⟩ := wd_post hFc ht hB
  generalize H1 = H at hP hS ⊢
  obtain rfl : f_X12_in x1.toInt64 (6 : Int64) (200 : Int64) = r2 := c3.symm
  have i4 := i64_i x1
  have l64_6 : (6 : Int64).toInt = 6 := rfl
  have l64_200 : (200 : Int64).toInt = 200 := rfl
  have i5 := in_rng x1.toInt64 (6 : Int64) (200 : Int64)
  refine lv_if_eq (tgt := 57) hx hb dX12_gear_11 (by decide) (fun c6 => ?_) (fun c6 => ?_)
  · have c6i : (f_X12_in x1.toInt64 (6 : Int64) (200 : Int64)).toInt = 0 := eq_v rfl rfl c6
    refine lv_aload_n hx hb dX12_gear_57 rfl (lv_at hl 0 rfl) ?_
    refine lv_iconst (v := 1) hx hb dX12_gear_58 (by decide) ?_
    have l32_1 : (1 : Int32).toInt = 1 := rfl
    have hFc := free_all hD hS hA
    obtain ⟨k7, gk7, hk7⟩ := wGt (cy := cy) X S h_o1.1 h_o1.2.1
    refine va_calli (va_runV (As := [.int (1 : Int32)]) (rest := []) ⟨hx, hb, hml, hown, hts⟩ (c_X12_fails l (cy := cy) (X := X) (D := D) S _ o1 h_o1 (1 : Int32) (hW)) (cwV 1 hts gX12_gear_X12_fails rfl rfl rfl hd_X12_fails ⟨Nat.le_of_ble_eq_true rfl, Nat.le_of_ble_eq_true rfl⟩) (pV (va_recv hK hP (q := (RX12, TX12, 34)) (ci := 16) (q0 := k7) rfl hk7) hP hK hD hN) rfl rfl hl.1 rfl (lv_room (Nat.le_of_ble_eq_true rfl)) dX12_gear_59 ⟨(Nat.zero_le _), (Nat.zero_le _)⟩) hS (fun q _ h => hFc q h) hFc (fun r8 u t H1 locs ht hvm hw hB hz1 hk1 hS => ?_)
    obtain ⟨c9, w10⟩ := hw
    obtain ⟨hP, hD⟩ := wd_post hFc ht hB
    generalize H1 = H at hP hS ⊢
    obtain ⟨S11, rfl⟩ : ∃ z, z = u := ⟨_, rfl⟩
    have t12 : stp [(12, 15), (14, 0), (14, 1), (14, 2), (22, 101), (110, 10), (114, 10), (122, 10)] [] [] S S11 := t0.tr w10 (by decide) (fun _ q => absurd q List.not_mem_nil)
    have v13 : (GN S) S11 o1 := GN.keep w10 hW h_o1 (by decide) (by decide) GN.rf
    have xe14 : ext S S11 := w10.x
    have k15 : (S11.I (S.f o1 0) 2).toInt = (S.I (S.f o1 0) 2).toInt := by rw [(w10.fR (S.f o1 0) F1.2.1.1 List.not_mem_nil).1 2 (by rw [F1.2.1.2.1]; decide) |>.1]
    have q9 := fl_q c9
    refine W.widen (k := 4) (n := 271) (Nat.le_of_ble_eq_true rfl) (Nat.le_of_ble_eq_true rfl) ?_
    exact W.iret (v := r8) hx hb hr (fun t ht hW9 => ⟨⟨r8, S11, rfl, ⟨t12, (v13), (by omega), ((fun _ => ⟨_, (Prod.mk.inj c9).2⟩)), ((fun h9 => absurd h9 (by omega)))⟩, wd_end hP hK hD ht hW9.alike⟩, hS.F ht⟩) hS.2.2 dX12_gear_62 hlocks
  · have c6i : ¬ (f_X12_in x1.toInt64 (6 : Int64) (200 : Int64)).toInt = 0 := neq_v rfl rfl c6
    refine lv_iload_n hx hb dX12_gear_14 rfl (lv_at hl 2 rfl) ?_
    refine lv_i2l hx hb dX12_gear_15 rfl ?_
    refine lv_ldc2 (own := RX12) (v := 500) hx hb hown (hts (.constantLong RX12 133 (500)) (by decide +kernel)) dX12_gear_16 ?_
    refine lv_ldc2 (own := RX12) (v := 10000) hx hb hown (hts (.constantLong RX12 135 (10000)) (by decide +kernel)) dX12_gear_19 ?_
    have hFc := free_all hD hS hA
    refine va_calli (va_runS (As := [.long x2.toInt64, .long (500 : Int64), .long (10000 : Int64)]) (rest := []) ⟨hx, hb, hml, hown, hts⟩ (c_X12_in l (cy := cy) (X := X) (D := D) S _ x2.toInt64 (500 : Int64) (10000 : Int64)) (cwS 3 hts gX12_gear_X12_in rfl rfl rfl hd_X12_in ⟨Nat.le_of_ble_eq_true rfl, Nat.le_of_ble_eq_true rfl⟩) (pS hP hK hD hN) rfl rfl hl.1 rfl (lv_room (Nat.le_of_ble_eq_true rfl)) dX12_gear_22 ⟨(Nat.zero_le _), (Nat.zero_le _)⟩) hS (fun q _ h => hFc q h) hFc (fun r16 u t H1 locs ht hvm hw hB hz1 hk1 hS => ?_)
    have c17 := hw
    obtain ⟨hP, hD⟩ := wd_post hFc ht hB
    generalize H1 = H at hP hS ⊢
    obtain rfl : f_X12_in x2.toInt64 (500 : Int64) (10000 : Int64) = r16 := c17.symm
    have i18 := i64_i x2
    have l64_500 : (500 : Int64).toInt = 500 := rfl
    have l64_10000 : (10000 : Int64).toInt = 10000 := rfl
    have i19 := in_rng x2.toInt64 (500 : Int64) (10000 : Int64)
    refine lv_if_eq (tgt := 57) hx hb dX12_gear_25 (by decide) (fun c20 => ?_) (fun c20 => ?_)
    · have c20i : (f_X12_in x2.toInt64 (500 : Int64) (10000 : Int64)).toInt = 0 := eq_v rfl rfl c20
      refine lv_aload_n hx hb dX12_gear_57 rfl (lv_at hl 0 rfl) ?_
      refine lv_iconst (v := 1) hx hb dX12_gear_58 (by decide) ?_
      have l32_1 : (1 : Int32).toInt = 1 := rfl
      have hFc := free_all hD hS hA
      obtain ⟨k21, gk21, hk21⟩ := wGt (cy := cy) X S h_o1.1 h_o1.2.1
      refine va_calli (va_runV (As := [.int (1 : Int32)]) (rest := []) ⟨hx, hb, hml, hown, hts⟩ (c_X12_fails l (cy := cy) (X := X) (D := D) S _ o1 h_o1 (1 : Int32) (hW)) (cwV 1 hts gX12_gear_X12_fails rfl rfl rfl hd_X12_fails ⟨Nat.le_of_ble_eq_true rfl, Nat.le_of_ble_eq_true rfl⟩) (pV (va_recv hK hP (q := (RX12, TX12, 34)) (ci := 16) (q0 := k21) rfl hk21) hP hK hD hN) rfl rfl hl.1 rfl (lv_room (Nat.le_of_ble_eq_true rfl)) dX12_gear_59 ⟨(Nat.zero_le _), (Nat.zero_le _)⟩) hS (fun q _ h => hFc q h) hFc (fun r22 u t H1 locs ht hvm hw hB hz1 hk1 hS => ?_)
      obtain ⟨c23, w24⟩ := hw
      obtain ⟨hP, hD⟩ := wd_post hFc ht hB
      generalize H1 = H at hP hS ⊢
      obtain ⟨S25, rfl⟩ : ∃ z, z = u := ⟨_, rfl⟩
      have t26 : stp [(12, 15), (14, 0), (14, 1), (14, 2), (22, 101), (110, 10), (114, 10), (122, 10)] [] [] S S25 := t0.tr w24 (by decide) (fun _ q => absurd q List.not_mem_nil)
      have v27 : (GN S) S25 o1 := GN.keep w24 hW h_o1 (by decide) (by decide) GN.rf
      have xe28 : ext S S25 := w24.x
      have k29 : (S25.I (S.f o1 0) 2).toInt = (S.I (S.f o1 0) 2).toInt := by rw [(w24.fR (S.f o1 0) F1.2.1.1 List.not_mem_nil).1 2 (by rw [F1.2.1.2.1]; decide) |>.1]
      have q9 := fl_q c23
      refine W.widen (k := 4) (n := 271) (Nat.le_of_ble_eq_true rfl) (Nat.le_of_ble_eq_true rfl) ?_
      exact W.iret (v := r22) hx hb hr (fun t ht hW9 => ⟨⟨r22, S25, rfl, ⟨t26, (v27), (by omega), ((fun _ => ⟨_, (Prod.mk.inj c23).2⟩)), ((fun h9 => absurd h9 (by omega)))⟩, wd_end hP hK hD ht hW9.alike⟩, hS.F ht⟩) hS.2.2 dX12_gear_62 hlocks
    · have c20i : ¬ (f_X12_in x2.toInt64 (500 : Int64) (10000 : Int64)).toInt = 0 := neq_v rfl rfl c20
      refine lv_iload_n hx hb dX12_gear_28 rfl (lv_at hl 3 rfl) ?_
      refine lv_i2l hx hb dX12_gear_29 rfl ?_
      refine lv_ldc2 (own := RX12) (v := -500) hx hb hown (hts (.constantLong RX12 137 (-500)) (by decide +kernel)) dX12_gear_30 ?_
      refine lv_ldc2 (own := RX12) (v := 500) hx hb hown (hts (.constantLong RX12 133 (500)) (by decide +kernel)) dX12_gear_33 ?_
      have hFc := free_all hD hS hA
      refine va_calli (va_runS (As := [.long x3.toInt64, .long (-500 : Int64), .long (500 : Int64)]) (rest := []) ⟨hx, hb, hml, hown, hts⟩ (c_X12_in l (cy := cy) (X := X) (D := D) S _ x3.toInt64 (-500 : Int64) (500 : Int64)) (cwS 3 hts gX12_gear_X12_in rfl rfl rfl hd_X12_in ⟨Nat.le_of_ble_eq_true rfl, Nat.le_of_ble_eq_true rfl⟩) (pS hP hK hD hN) rfl rfl hl.1 rfl (lv_room (Nat.le_of_ble_eq_true rfl)) dX12_gear_36 ⟨(Nat.zero_le _), (Nat.zero_le _)⟩) hS (fun q _ h => hFc q h) hFc (fun r30 u t H1 locs ht hvm hw hB hz1 hk1 hS => ?_)
      have c31 := hw
      obtain ⟨hP, hD⟩ := wd_post hFc ht hB
      generalize H1 = H at hP hS ⊢
      obtain rfl : f_X12_in x3.toInt64 (-500 : Int64) (500 : Int64) = r30 := c31.symm
      have i32 := i64_i x3
      have i33 : (-500 : Int64).toInt = -500 := rfl
      have i34 := in_rng x3.toInt64 (-500 : Int64) (500 : Int64)
      refine lv_if_eq (tgt := 57) hx hb dX12_gear_39 (by decide) (fun c35 => ?_) (fun c35 => ?_)
      · have c35i : (f_X12_in x3.toInt64 (-500 : Int64) (500 : Int64)).toInt = 0 := eq_v rfl rfl c35
        refine lv_aload_n hx hb dX12_gear_57 rfl (lv_at hl 0 rfl) ?_
        refine lv_iconst (v := 1) hx hb dX12_gear_58 (by decide) ?_
        have l32_1 : (1 : Int32).toInt = 1 := rfl
        have hFc := free_all hD hS hA
        obtain ⟨k36, gk36, hk36⟩ := wGt (cy := cy) X S h_o1.1 h_o1.2.1
        refine va_calli (va_runV (As := [.int (1 : Int32)]) (rest := []) ⟨hx, hb, hml, hown, hts⟩ (c_X12_fails l (cy := cy) (X := X) (D := D) S _ o1 h_o1 (1 : Int32) (hW)) (cwV 1 hts gX12_gear_X12_fails rfl rfl rfl hd_X12_fails ⟨Nat.le_of_ble_eq_true rfl, Nat.le_of_ble_eq_true rfl⟩) (pV (va_recv hK hP (q := (RX12, TX12, 34)) (ci := 16) (q0 := k36) rfl hk36) hP hK hD hN) rfl rfl hl.1 rfl (lv_room (Nat.le_of_ble_eq_true rfl)) dX12_gear_59 ⟨(Nat.zero_le _), (Nat.zero_le _)⟩) hS (fun q _ h => hFc q h) hFc (fun r37 u t H1 locs ht hvm hw hB hz1 hk1 hS => ?_)
        obtain ⟨c38, w39⟩ := hw
        obtain ⟨hP, hD⟩ := wd_post hFc ht hB
        generalize H1 = H at hP hS ⊢
        obtain ⟨S40, rfl⟩ : ∃ z, z = u := ⟨_, rfl⟩
        have t41 : stp [(12, 15), (14, 0), (14, 1), (14, 2), (22, 101), (110, 10), (114, 10), (122, 10)] [] [] S S40 := t0.tr w39 (by decide) (fun _ q => absurd q List.not_mem_nil)
        have v42 : (GN S) S40 o1 := GN.keep w39 hW h_o1 (by decide) (by decide) GN.rf
        have xe43 : ext S S40 := w39.x
        have k44 : (S40.I (S.f o1 0) 2).toInt = (S.I (S.f o1 0) 2).toInt := by rw [(w39.fR (S.f o1 0) F1.2.1.1 List.not_mem_nil).1 2 (by rw [F1.2.1.2.1]; decide) |>.1]
        have q9 := fl_q c38
        refine W.widen (k := 4) (n := 271) (Nat.le_of_ble_eq_true rfl) (Nat.le_of_ble_eq_true rfl) ?_
        exact W.iret (v := r37) hx hb hr (fun t ht hW9 => ⟨⟨r37, S40, rfl, ⟨t41, (v42), (by omega), ((fun _ => ⟨_, (Prod.mk.inj c38).2⟩)), ((fun h9 => absurd h9 (by omega)))⟩, wd_end hP hK hD ht hW9.alike⟩, hS.F ht⟩) hS.2.2 dX12_gear_62 hlocks
      · have c35i : ¬ (f_X12_in x3.toInt64 (-500 : Int64) (500 : Int64)).toInt = 0 := neq_v rfl rfl c35
        refine lv_iload hx hb dX12_gear_42 (lv_at hl 4 rfl) ?_
        refine lv_i2l hx hb dX12_gear_44 rfl ?_
        refine lv_ldc2 (own := RX12) (v := 1000) hx hb hown (hts (.constantLong RX12 139 (1000)) (by decide +kernel)) dX12_gear_45 ?_
        refine lv_ldc2 (own := RX12) (v := 99999) hx hb hown (hts (.constantLong RX12 141 (99999)) (by decide +kernel)) dX12_gear_48 ?_
        have hFc := free_all hD hS hA
        refine va_calli (va_runS (As := [.long x4.toInt64, .long (1000 : Int64), .long (99999 : Int64)]) (rest := []) ⟨hx, hb, hml, hown, hts⟩ (c_X12_in l (cy := cy) (X := X) (D := D) S _ x4.toInt64 (1000 : Int64) (99999 : Int64)) (cwS 3 hts gX12_gear_X12_in rfl rfl rfl hd_X12_in ⟨Nat.le_of_ble_eq_true rfl, Nat.le_of_ble_eq_true rfl⟩) (pS hP hK hD hN) rfl rfl hl.1 rfl (lv_room (Nat.le_of_ble_eq_true rfl)) dX12_gear_51 ⟨(Nat.zero_le _), (Nat.zero_le _)⟩) hS (fun q _ h => hFc q h) hFc (fun r45 u t H1 locs ht hvm hw hB hz1 hk1 hS => ?_)
        have c46 := hw
        obtain ⟨hP, hD⟩ := wd_post hFc ht hB
        generalize H1 = H at hP hS ⊢
        obtain rfl : f_X12_in x4.toInt64 (1000 : Int64) (99999 : Int64) = r45 := c46.symm
        have i47 := i64_i x4
        have l64_1000 : (1000 : Int64).toInt = 1000 := rfl
        have l64_99999 : (99999 : Int64).toInt = 99999 := rfl
        have i48 := in_rng x4.toInt64 (1000 : Int64) (99999 : Int64)
        refine lv_if_ne (tgt := 63) hx hb dX12_gear_54 (by decide) (fun c49 => ?_) (fun c49 => ?_)
        · have c49i : ¬ (f_X12_in x4.toInt64 (1000 : Int64) (99999 : Int64)).toInt = 0 := neq_v rfl rfl c49
          refine lv_aload_n hx hb dX12_gear_63 rfl (lv_at hl 0 rfl) ?_
          obtain ⟨k50, gk50, hk50⟩ := wGt (cy := cy) X S h_o1.1 h_o1.2.1
          simp only [kE, F1.1] at hk50
          refine va_get (D := D) (ci := 16) (v := .ref (S.f o1 0)) (C := RX12) (T := TX12) (N := 34) hx hb hts hi_X12_gear_X12 hown hK hP k50 hk50 rfl 0 (by decide) (hts (.fieldLink RX12 24 "HobhouseModel" "gears" "Ljava/util/ArrayList;") (by decide +kernel)) (fun _ h9 => h9) rfl dX12_gear_64 ?_
          have hFc := free_all hD hS hA
          obtain ⟨k51, gk51, hk51⟩ := wGt (cy := cy) X S F1.2.1.1 F1.2.1.2.1
          refine va_calli (va_runV (As := []) (rest := []) ⟨hx, hb, hml, hown, hts⟩ (c_Jx4a65c_size_8abf5 l (cy := cy) (X := X) (D := D) S _ (S.f o1 0) F1.2.1) (cwV 0 hts gX12_gear_Jx4a65c_size_8abf5 rfl rfl rfl hd_Jx4a65c_size_8abf5 ⟨Nat.le_of_ble_eq_true rfl, Nat.le_of_ble_eq_true rfl⟩) (pV (va_recv hK hP (q := (RJx4a65c, TJx4a65c, 3)) (ci := 3) (q0 := k51) rfl hk51) hP hK hD hN) rfl rfl hl.1 rfl (lv_room (Nat.le_of_ble_eq_true rfl)) dX12_gear_67 ⟨(Nat.zero_le _), (Nat.zero_le _)⟩) hS (fun q _ h => hFc q h) hFc (fun r52 u t H1 locs ht hvm hw hB hz1 hk1 hS => ?_)
          have c53 := hw
          obtain ⟨hP, hD⟩ := wd_post hFc ht hB
          generalize H1 = H at hP hS ⊢
          obtain rfl : f_Jx4a65c_size_8abf5 S (S.f o1 0) = r52 := c53.symm
          have i54 := al_sz ((hW.at F1.2.1 List.not_mem_nil).to_14 F1.2.1.2.1)
          have i55 : (f_Jx4a65c_size_8abf5 S (S.f o1 0)).toInt = (S.I (S.f o1 0) 2).toInt := rfl
          refine lv_bipush (v := 20) hx hb dX12_gear_70 (by decide +kernel) ?_
          refine lv_icmp_ne (tgt := 81) hx hb dX12_gear_72 (by decide) (fun c56 => ?_) (fun c56 => ?_)
          · have c56i : ¬ (f_Jx4a65c_size_8abf5 S (S.f o1 0)).toInt = 20 := neq_v rfl rfl c56
            refine lv_aload_n hx hb dX12_gear_81 rfl (lv_at hl 0 rfl) ?_
            obtain ⟨k57, gk57, hk57⟩ := wGt (cy := cy) X S h_o1.1 h_o1.2.1
            simp only [kE, F1.1] at hk57
            refine va_get (D := D) (ci := 16) (v := .ref (S.f o1 0)) (C := RX12) (T := TX12) (N := 34) hx hb hts hi_X12_gear_X12 hown hK hP k57 hk57 rfl 0 (by decide) (hts (.fieldLink RX12 24 "HobhouseModel" "gears" "Ljava/util/ArrayList;") (by decide +kernel)) (fun _ h9 => h9) rfl dX12_gear_82 ?_
            refine va_new (ci := 14) (fs := [.int 0, .int 0, .int 0, .int 0, .int 0, .null, .null, .int 0, .int 0, .int 0, .int 0, .int 0, .int 0, .int 0, .int 0, .int 0, .int 0, .int 0, .int 0, .int 0, .int 0, .int 0, .long 0]) (C := RX10) (T := TX10) (N := 23) hx hb hts hi_X12_gear_X10 tyX10 tyX10_ok hown (hts (.classLink RX12 109 RX10) (by decide +kernel)) (hts (.instantiable RX10 23) (by decide +kernel)) (hts (.initialized RX10) (by decide +kernel)) hK hP hD hS hA rfl (fun j hj => by rcases (show j = 0 ∨ j = 1 ∨ j = 2 ∨ j = 3 ∨ j = 4 ∨ j = 5 ∨ j = 6 ∨ j = 7 ∨ j = 8 ∨ j = 9 ∨ j = 10 ∨ j = 11 ∨ j = 12 ∨ j = 13 ∨ j = 14 ∨ j = 15 ∨ j = 16 ∨ j = 17 ∨ j = 18 ∨ j = 19 ∨ j = 20 ∨ j = 21 ∨ j = 22 by omega) with rfl | rfl | rfl | rfl | rfl | rfl | rfl | rfl | rfl | rfl | rfl | rfl | rfl | rfl | rfl | rfl | rfl | rfl | rfl | rfl | rfl | rfl | rfl <;> rfl) (Nat.le_of_ble_eq_true rfl) (Nat.le_of_ble_eq_true rfl) dX12_gear_85 (fun qa58 H hP2 hD2 hS => ?_)
            have hqa58 : qa58 ∉ S.L := nw_q hD2
            have e9 := wNw (cy := cy) (X := X) (S := S) (a := qa58) (k := 10) (z := 0) (f := fun _ => 0) (g := fun _ => none) hqa58 rfl
            obtain ⟨S59, hS59⟩ : ∃ z, S.nw qa58 10 0 (fun _ => 0) (fun _ => none) = z := ⟨_, rfl⟩
            have v60 : (GR S qa58) S59 o1 := by rw [← hS59]; exact GN.nw GN.rf hqa58
            have hP : va_P D vwCl (X ++ PL cy S59) H := by rw [← hS59, ← e9]; exact hP2
            have hD : va_D A (X ++ PL cy S59) := by rw [← hS59, ← e9]; exact hD2
            have xe61 : ext S S59 := by rw [← hS59]; exact ext.nw hqa58
            have t62 : stp [(12, 15), (14, 0), (14, 1), (14, 2), (22, 101), (110, 10), (114, 10), (122, 10)] [] (qa58 :: []) S S59 := by rw [← hS59]; exact t0.nw hqa58 (Or.inr (by decide))
            have k63 : (S59.I (S.f o1 0) 2).toInt = (S.I (S.f o1 0) 2).toInt := by rw [← hS59]; exact congrArg Int32.toInt (nw_Io hqa58 F1.2.1.1)
            refine W.widen (k := 1) (n := 23) (Nat.le_of_ble_eq_true rfl) (Nat.le_of_ble_eq_true rfl) ?_
            have aqa58 : isA S59 qa58 10 := by rw [← hS59]; exact nw_A (by decide)
            have fqa58 : ∀ j, S59.F qa58 j = none := by rw [← hS59]; exact nw_F
            have iqa58 : ∀ j, S59.I qa58 j = 0 := by rw [← hS59]; exact nw_I
            have bqa58 : qa58 ∉ S.L := fun e => hqa58 e
            refine lv_dup hx hb dX12_gear_88 rfl ?_
            refine lv_aload_n hx hb dX12_gear_89 rfl (lv_at hl 0 rfl) ?_
            obtain ⟨k64, gk64, hk64⟩ := wGt (cy := cy) X S59 (xe61.A h_o1).1 (xe61.A h_o1).2.1
            simp only [kE, (xe61.F h_o1 (by decide) F1.1)] at hk64
            refine va_get (D := D) (ci := 16) (v := .ref (S.f o1 0)) (C := RX12) (T := TX12) (N := 34) hx hb hts hi_X12_gear_X12 hown hK hP k64 hk64 rfl 0 (by decide) (hts (.fieldLink RX12 24 "HobhouseModel" "gears" "Ljava/util/ArrayList;") (by decide +kernel)) (fun _ h9 => h9) rfl dX12_gear_90 ?_
            have hFc := free_all hD hS hA
            obtain ⟨k65, gk65, hk65⟩ := wGt (cy := cy) X S59 (xe61.A F1.2.1).1 (xe61.A F1.2.1).2.1
            refine va_calli (va_runV (As := []) (rest := [.ref qa58, .ref qa58, .ref (S.f o1 0)]) ⟨hx, hb, hml, hown, hts⟩ (c_Jx4a65c_size_8abf5 l (cy := cy) (X := X) (D := D) S59 _ (S.f o1 0) (xe61.A F1.2.1)) (cwV 0 hts gX12_gear_Jx4a65c_size_8abf5 rfl rfl rfl hd_Jx4a65c_size_8abf5 ⟨Nat.le_of_ble_eq_true rfl, Nat.le_of_ble_eq_true rfl⟩) (pV (va_recv hK hP (q := (RJx4a65c, TJx4a65c, 3)) (ci := 3) (q0 := k65) rfl hk65) hP hK hD hN) rfl rfl hl.1 rfl (lv_room (Nat.le_of_ble_eq_true rfl)) dX12_gear_93 ⟨Nat.le_of_ble_eq_true rfl, Nat.le_of_ble_eq_true rfl⟩) hS (fun q _ h => hFc q h) hFc (fun r66 u t H1 locs ht hvm hw hB hz1 hk1 hS => ?_)
            have c67 := hw
            obtain ⟨hP, hD⟩ := wd_post hFc ht hB
            generalize H1 = H at hP hS ⊢
            obtain rfl : f_Jx4a65c_size_8abf5 S59 (S.f o1 0) = r66 := c67.symm
            refine lv_iload_n hx hb dX12_gear_96 rfl (lv_at hl 1 rfl) ?_
            refine lv_iload_n hx hb dX12_gear_97 rfl (lv_at hl 2 rfl) ?_
            refine lv_iload_n hx hb dX12_gear_98 rfl (lv_at hl 3 rfl) ?_
            refine lv_iload hx hb dX12_gear_99 (lv_at hl 4 rfl) ?_
            have hFc := free_all hD hS hA
            refine va_callv (va_runI (As := [.int (f_Jx4a65c_size_8abf5 S59 (S.f o1 0)), .int x1, .int x2, .int x3, .int x4]) (rest := [.ref qa58, .ref (S.f o1 0)]) ⟨hx, hb, hml, hown, hts⟩ (c_X10_init l (cy := cy) (X := X) (D := D) S59 _ qa58 aqa58 (f_Jx4a65c_size_8abf5 S59 (S.f o1 0)) x1 x2 x3 x4 [] (t62.w) fqa58 iqa58 (by omega)) (cwI 5 hts gX12_gear_X10_init rfl rfl rfl (hts (.initialized RX10) (by decide +kernel)) (hts (.methodLink RX12 146 yX10_init) (by decide +kernel)) (hts (.instanceMethod yX10_init) (by decide +kernel)) rfl (by decide +kernel) ⟨Nat.le_of_ble_eq_true rfl, Nat.le_of_ble_eq_true rfl⟩) (pS hP hK hD hN) rfl rfl hl.1 rfl (lv_room (Nat.le_of_ble_eq_true rfl)) dX12_gear_101 ⟨Nat.le_of_ble_eq_true rfl, Nat.le_of_ble_eq_true rfl⟩) hS (fun q _ h => hFc q h) hFc (fun u t H1 locs ht hvm hw hB hz1 hk1 hS => ?_)
            obtain ⟨w69, y70, y71, y72, y73, y74, y75, y76, y77, y78, y79, y80, y81, y82, y83, y84, y85, y86, y87, y88, y89, y90, y91, y92⟩ := hw
            obtain ⟨hP, hD⟩ := wd_post hFc ht hB
            generalize H1 = H at hP hS ⊢
            obtain ⟨S93, rfl⟩ : ∃ z, z = u := ⟨_, rfl⟩
            have t94 : stp [(12, 15), (14, 0), (14, 1), (14, 2), (22, 101), (110, 10), (114, 10), (122, 10)] [] [] S S93 := t62.tr w69 (by decide) (fun z q => by rw [List.mem_singleton.mp q]; exact (Or.inr bqa58))
            have v95 : GN S S93 o1 := GR.un w69 (fun _ h => List.mem_singleton.mp h) (by decide) (by decide) y85 v60
            have xe96 : ext S59 S93 := w69.x
            have k97 : (S93.I (S.f o1 0) 2).toInt = (S59.I (S.f o1 0) 2).toInt := by rw [(w69.fR (S.f o1 0) (xe61.A F1.2.1).1 (by rw [List.mem_singleton]; exact fun e => hqa58 (e ▸ F1.2.1.1))).1 2 (by rw [(xe61.A F1.2.1).2.1]; decide) |>.1]
            have hFc := free_all hD hS hA
            obtain ⟨k98, gk98, hk98⟩ := wGt (cy := cy) X S93 (xe96.A (xe61.A F1.2.1)).1 (xe96.A (xe61.A F1.2.1)).2.1
            refine va_calli (va_runV (As := [.ref qa58]) (rest := []) ⟨hx, hb, hml, hown, hts⟩ (c_Jx4a65c_add_9ea2d_g l (e0 := e0) (mi := mi) (cy := cy) (X := X) (D := D) S93 _ (S.f o1 0) (xe96.A (xe61.A F1.2.1)) qa58 (xe96.A aqa58) (t94.w) (by have h9 := ((t94.w.at (xe96.A (xe61.A h_o1)) List.not_mem_nil).to_12 (xe96.A (xe61.A h_o1)).2.1).X1; rw [f_of ((xe61.tr xe96).F h_o1 (by decide) F1.1), f_of (t94.x.F h_o1 (by decide) he)] at h9; exact h9) (by omega) (((xe61.tr xe96).n F1.2.1).trans F1.2.2)) (cwV 1 hts gX12_gear_Jx4a65c_add_9ea2d rfl rfl rfl hd_Jx4a65c_add_9ea2d ⟨Nat.le_of_ble_eq_true rfl, Nat.le_of_ble_eq_true rfl⟩) (pVo (va_recv hK hP (q := (RJx4a65c, TJx4a65c, 3)) (ci := 3) (q0 := k98) rfl hk98) hP hK hD hN hOU hS hFc) rfl rfl hl.1 rfl (lv_room (Nat.le_of_ble_eq_true rfl)) dX12_gear_104 ⟨Nat.le_of_ble_eq_true rfl, Nat.le_of_ble_eq_true rfl⟩) hS (fun q _ h => hFc q h) hFc (fun r99 u t H1 locs ht hvm hw hB hz1 hk1 hS => ?_)
            obtain ⟨w100, y101, y102⟩ := hw
            obtain ⟨hP, hD⟩ := wd_post hFc ht hB
            generalize H1 = H at hP hS ⊢
            obtain ⟨S103, rfl⟩ : ∃ z, z = u := ⟨_, rfl⟩
            have t104 : stp [(12, 15), (14, 0), (14, 1), (14, 2), (22, 101), (110, 10), (114, 10), (122, 10)] [] [] S S103 := t94.tr w100 (by decide) (fun _ q => absurd q List.not_mem_nil)
            have v105 : (GN S) S103 o1 := GN.keep w100 t94.w (xe96.A (xe61.A h_o1)) (by decide) (by decide) v95
            have xe106 : ext S93 S103 := w100.x
            refine lv_pop hx hb dX12_gear_107 rfl ?_
            refine lv_aload_n hx hb dX12_gear_108 rfl (lv_at hl 0 rfl) ?_
            refine lv_aload_n hx hb dX12_gear_109 rfl (lv_at hl 0 rfl) ?_
            obtain ⟨k107, gk107, hk107⟩ := wGt (cy := cy) X S103 (xe106.A (xe96.A (xe61.A h_o1))).1 (xe106.A (xe96.A (xe61.A h_o1))).2.1
            simp only [kE, ((xe61.tr (xe96.tr xe106)).F h_o1 (by decide) F1.1)] at hk107
            refine va_get (D := D) (ci := 16) (v := .ref (S.f o1 0)) (C := RX12) (T := TX12) (N := 34) hx hb hts hi_X12_gear_X12 hown hK hP k107 hk107 rfl 0 (by decide) (hts (.fieldLink RX12 24 "HobhouseModel" "gears" "Ljava/util/ArrayList;") (by decide +kernel)) (fun _ h9 => h9) rfl dX12_gear_110 ?_
            have hFc := free_all hD hS hA
            obtain ⟨k108, gk108, hk108⟩ := wGt (cy := cy) X S103 (xe106.A (xe96.A (xe61.A F1.2.1))).1 (xe106.A (xe96.A (xe61.A F1.2.1))).2.1
            refine va_calli (va_runV (As := []) (rest := [.ref o1]) ⟨hx, hb, hml, hown, hts⟩ (c_Jx4a65c_size_8abf5 l (cy := cy) (X := X) (D := D) S103 _ (S.f o1 0) (xe106.A (xe96.A (xe61.A F1.2.1)))) (cwV 0 hts gX12_gear_Jx4a65c_size_8abf5 rfl rfl rfl hd_Jx4a65c_size_8abf5 ⟨Nat.le_of_ble_eq_true rfl, Nat.le_of_ble_eq_true rfl⟩) (pV (va_recv hK hP (q := (RJx4a65c, TJx4a65c, 3)) (ci := 3) (q0 := k108) rfl hk108) hP hK hD hN) rfl rfl hl.1 rfl (lv_room (Nat.le_of_ble_eq_true rfl)) dX12_gear_113 ⟨Nat.le_of_ble_eq_true rfl, Nat.le_of_ble_eq_true rfl⟩) hS (fun q _ h => hFc q h) hFc (fun r109 u t H1 locs ht hvm hw hB hz1 hk1 hS => ?_)
            have c110 := hw
            obtain ⟨hP, hD⟩ := wd_post hFc ht hB
            generalize H1 = H at hP hS ⊢
            obtain rfl : f_Jx4a65c_size_8abf5 S103 (S.f o1 0) = r109 := c110.symm
            have i111 := al_sz ((t104.w.at (xe106.A (xe96.A (xe61.A F1.2.1))) List.not_mem_nil).to_14 (xe106.A (xe96.A (xe61.A F1.2.1))).2.1)
            have i112 : (f_Jx4a65c_size_8abf5 S103 (S.f o1 0)).toInt = (S103.I (S.f o1 0) 2).toInt := rfl
            refine lv_iconst (v := 1) hx hb dX12_gear_116 (by decide) ?_
            refine lv_isub hx hb dX12_gear_117 ?_
            have l32_1 : (1 : Int32).toInt = 1 := rfl
            have i113 : ((f_Jx4a65c_size_8abf5 S103 (S.f o1 0)) - (1 : Int32)).toInt = (f_Jx4a65c_size_8abf5 S103 (S.f o1 0)).toInt - 1 := t_subr (n := 1) rfl (by omega)
            have hFc := free_all hD hS hA
            obtain ⟨k114, gk114, hk114⟩ := wGt (cy := cy) X S103 (xe106.A (xe96.A (xe61.A h_o1))).1 (xe106.A (xe96.A (xe61.A h_o1))).2.1
            refine va_calli (va_runV (As := [.int ((f_Jx4a65c_size_8abf5 S103 (S.f o1 0)) - (1 : Int32))]) (rest := []) ⟨hx, hb, hml, hown, hts⟩ (c_X12_answer l (cy := cy) (X := X) (D := D) S103 _ o1 (xe106.A (xe96.A (xe61.A h_o1))) ((f_Jx4a65c_size_8abf5 S103 (S.f o1 0)) - (1 : Int32)) (t104.w)) (cwV 1 hts gX12_gear_X12_answer rfl rfl rfl hd_X12_answer ⟨Nat.le_of_ble_eq_true rfl, Nat.le_of_ble_eq_true rfl⟩) (pV (va_recv hK hP (q := (RX12, TX12, 34)) (ci := 16) (q0 := k114) rfl hk114) hP hK hD hN) rfl rfl hl.1 rfl (lv_room (Nat.le_of_ble_eq_true rfl)) dX12_gear_118 ⟨Nat.le_of_ble_eq_true rfl, Nat.le_of_ble_eq_true rfl⟩) hS (fun q _ h => hFc q h) hFc (fun r115 u t H1 locs ht hvm hw hB hz1 hk1 hS => ?_)
            obtain ⟨c116, w117⟩ := hw
            obtain ⟨hP, hD⟩ := wd_post hFc ht hB
            generalize H1 = H at hP hS ⊢
            obtain ⟨S118, rfl⟩ : ∃ z, z = u := ⟨_, rfl⟩
            have t119 : stp [(12, 15), (14, 0), (14, 1), (14, 2), (22, 101), (110, 10), (114, 10), (122, 10)] [] [] S S118 := t104.tr w117 (by decide) (fun _ q => absurd q List.not_mem_nil)
            have v120 : (GN S) S118 o1 := GN.keep w117 t104.w (xe106.A (xe96.A (xe61.A h_o1))) (by decide) (by decide) v105
            have xe121 : ext S103 S118 := w117.x
            have k122 : (S118.I (S.f o1 0) 2).toInt = (S103.I (S.f o1 0) 2).toInt := by rw [(w117.fR (S.f o1 0) ((xe61.tr (xe96.tr xe106)).A F1.2.1).1 List.not_mem_nil).1 2 (by rw [((xe61.tr (xe96.tr xe106)).A F1.2.1).2.1]; decide) |>.1]
            have q9 := aw_q c116
            have F123 := ((t94.w.at (xe96.A aqa58) List.not_mem_nil).to_10 (xe96.A aqa58).2.1).F5
            refine W.widen (k := 4) (n := 271) (Nat.le_of_ble_eq_true rfl) (Nat.le_of_ble_eq_true rfl) ?_
            exact W.iret (v := r115) hx hb hr (fun t ht hW9 => ⟨⟨r115, S118, rfl, ⟨t119, (v120), (by omega), ((fun h9 => absurd h9 (by omega))), ((fun _ => by obtain ⟨a9, b0, b00, b1, b2⟩ := al_new hqa58 hS59 w69 F1.2.1 ((hW.at h_o1 List.not_mem_nil).to_12 h_o1.2.1).F0.2.2 (by decide) (by decide) ((hW.at F1.2.1 List.not_mem_nil).to_14 F1.2.1.2.1) y102; have e9 := (Prod.mk.inj c116).2; exact ⟨qa58, a9, bqa58, ((xe106.tr xe121).A (xe96.A aqa58)), (by rw [e9]; exact b0), (by rw [e9]; exact b00), (by rw [e9]; exact b1), (fun i hi => by rw [e9]; exact b2 i hi), (by rw [((w117.fR qa58 (xe106.A (xe96.A aqa58)).1 List.not_mem_nil).1 1 (by rw [(xe106.A (xe96.A aqa58)).2.1]; decide)).1]; rw [((w100.fR qa58 (xe96.A aqa58).1 List.not_mem_nil).1 1 (by rw [(xe96.A aqa58).2.1]; decide)).1]; exact y72), (by rw [((w117.fR qa58 (xe106.A (xe96.A aqa58)).1 List.not_mem_nil).1 2 (by rw [(xe106.A (xe96.A aqa58)).2.1]; decide)).1]; rw [((w100.fR qa58 (xe96.A aqa58).1 List.not_mem_nil).1 2 (by rw [(xe96.A aqa58).2.1]; decide)).1]; exact y73), (by rw [((w117.fR qa58 (xe106.A (xe96.A aqa58)).1 List.not_mem_nil).1 3 (by rw [(xe106.A (xe96.A aqa58)).2.1]; decide)).1]; rw [((w100.fR qa58 (xe96.A aqa58).1 List.not_mem_nil).1 3 (by rw [(xe96.A aqa58).2.1]; decide)).1]; exact y74), (by rw [((w117.fR qa58 (xe106.A (xe96.A aqa58)).1 List.not_mem_nil).1 4 (by rw [(xe106.A (xe96.A aqa58)).2.1]; decide)).1]; rw [((w100.fR qa58 (xe96.A aqa58).1 List.not_mem_nil).1 4 (by rw [(xe96.A aqa58).2.1]; decide)).1]; exact y75), (by rw [((w117.fR qa58 (xe106.A (xe96.A aqa58)).1 List.not_mem_nil).1 7 (by rw [(xe106.A (xe96.A aqa58)).2.1]; decide)).1]; rw [((w100.fR qa58 (xe96.A aqa58).1 List.not_mem_nil).1 7 (by rw [(xe96.A aqa58).2.1]; decide)).1]; exact y76), (by rw [((w117.fR qa58 (xe106.A (xe96.A aqa58)).1 List.not_mem_nil).1 8 (by rw [(xe106.A (xe96.A aqa58)).2.1]; decide)).1]; rw [((w100.fR qa58 (xe96.A aqa58).1 List.not_mem_nil).1 8 (by rw [(xe96.A aqa58).2.1]; decide)).1]; exact y77), (by rw [((w117.fR qa58 (xe106.A (xe96.A aqa58)).1 List.not_mem_nil).1 10 (by rw [(xe106.A (xe96.A aqa58)).2.1]; decide)).1]; rw [((w100.fR qa58 (xe96.A aqa58).1 List.not_mem_nil).1 10 (by rw [(xe96.A aqa58).2.1]; decide)).1]; exact y79), (by rw [((w117.fR qa58 (xe106.A (xe96.A aqa58)).1 List.not_mem_nil).1 11 (by rw [(xe106.A (xe96.A aqa58)).2.1]; decide)).1]; rw [((w100.fR qa58 (xe96.A aqa58).1 List.not_mem_nil).1 11 (by rw [(xe96.A aqa58).2.1]; decide)).1]; exact y80), (by rw [((w117.fR qa58 (xe106.A (xe96.A aqa58)).1 List.not_mem_nil).1 18 (by rw [(xe106.A (xe96.A aqa58)).2.1]; decide)).1]; rw [((w100.fR qa58 (xe96.A aqa58).1 List.not_mem_nil).1 18 (by rw [(xe96.A aqa58).2.1]; decide)).1]; exact y87), (by rw [f_of ((xe106.tr xe121).F (xe96.A aqa58) (by decide) F123.1)]; exact fun e9 => y91 (xe61 _ e9).1), (by rw [f_of ((xe106.tr xe121).F (xe96.A aqa58) (by decide) F123.1)]; exact fun i9 => (congrFun ((show S118.i (S93.f qa58 5) = S103.i (S93.f qa58 5) from ((w117.fR (S93.f qa58 5) (xe106.A F123.2.1).1 List.not_mem_nil).2.1 (by rw [(xe106.A F123.2.1).2.1]; decide))).trans (show S103.i (S93.f qa58 5) = S93.i (S93.f qa58 5) from ((w100.fR (S93.f qa58 5) F123.2.1.1 List.not_mem_nil).2.1 (by rw [F123.2.1.2.1]; decide)))) i9).trans (y92 i9))⟩))⟩, wd_end hP hK hD ht hW9.alike⟩, hS.F ht⟩) hS.2.2 dX12_gear_121 hlocks
          · have c56i : (f_Jx4a65c_size_8abf5 S (S.f o1 0)).toInt = 20 := eq_v rfl rfl c56
            refine lv_aload_n hx hb dX12_gear_75 rfl (lv_at hl 0 rfl) ?_
            refine lv_iconst (v := 2) hx hb dX12_gear_76 (by decide) ?_
            have l32_2 : (2 : Int32).toInt = 2 := rfl
            have hFc := free_all hD hS hA
            obtain ⟨k124, gk124, hk124⟩ := wGt (cy := cy) X S h_o1.1 h_o1.2.1
            refine va_calli (va_runV (As := [.int (2 : Int32)]) (rest := []) ⟨hx, hb, hml, hown, hts⟩ (c_X12_fails l (cy := cy) (X := X) (D := D) S _ o1 h_o1 (2 : Int32) (hW)) (cwV 1 hts gX12_gear_X12_fails rfl rfl rfl hd_X12_fails ⟨Nat.le_of_ble_eq_true rfl, Nat.le_of_ble_eq_true rfl⟩) (pV (va_recv hK hP (q := (RX12, TX12, 34)) (ci := 16) (q0 := k124) rfl hk124) hP hK hD hN) rfl rfl hl.1 rfl (lv_room (Nat.le_of_ble_eq_true rfl)) dX12_gear_77 ⟨(Nat.zero_le _), (Nat.zero_le _)⟩) hS (fun q _ h => hFc q h) hFc (fun r125 u t H1 locs ht hvm hw hB hz1 hk1 hS => ?_)
            obtain ⟨c126, w127⟩ := hw
            obtain ⟨hP, hD⟩ := wd_post hFc ht hB
            generalize H1 = H at hP hS ⊢
            obtain ⟨S128, rfl⟩ : ∃ z, z = u := ⟨_, rfl⟩
            have t129 : stp [(12, 15), (14, 0), (14, 1), (14, 2), (22, 101), (110, 10), (114, 10), (122, 10)] [] [] S S128 := t0.tr w127 (by decide) (fun _ q => absurd q List.not_mem_nil)
            have v130 : (GN S) S128 o1 := GN.keep w127 hW h_o1 (by decide) (by decide) GN.rf
            have xe131 : ext S S128 := w127.x
            have k132 : (S128.I (S.f o1 0) 2).toInt = (S.I (S.f o1 0) 2).toInt := by rw [(w127.fR (S.f o1 0) F1.2.1.1 List.not_mem_nil).1 2 (by rw [F1.2.1.2.1]; decide) |>.1]
            have q9 := fl_q c126
            refine W.widen (k := 4) (n := 271) (Nat.le_of_ble_eq_true rfl) (Nat.le_of_ble_eq_true rfl) ?_
            exact W.iret (v := r125) hx hb hr (fun t ht hW9 => ⟨⟨r125, S128, rfl, ⟨t129, (v130), (by omega), ((fun _ => ⟨_, (Prod.mk.inj c126).2⟩)), ((fun h9 => absurd h9 (by omega)))⟩, wd_end hP hK hD ht hW9.alike⟩, hS.F ht⟩) hS.2.2 dX12_gear_80 hlocks
        · have c49i : (f_X12_in x4.toInt64 (1000 : Int64) (99999 : Int64)).toInt = 0 := eq_v rfl rfl c49
          refine lv_aload_n hx hb dX12_gear_57 rfl (lv_at hl 0 rfl) ?_
          refine lv_iconst (v := 1) hx hb dX12_gear_58 (by decide) ?_
          have l32_1 : (1 : Int32).toInt = 1 := rfl
          have hFc := free_all hD hS hA
          obtain ⟨k133, gk133, hk133⟩ := wGt (cy := cy) X S h_o1.1 h_o1.2.1
          refine va_calli (va_runV (As := [.int (1 : Int32)]) (rest := []) ⟨hx, hb, hml, hown, hts⟩ (c_X12_fails l (cy := cy) (X := X) (D := D) S _ o1 h_o1 (1 : Int32) (hW)) (cwV 1 hts gX12_gear_X12_fails rfl rfl rfl hd_X12_fails ⟨Nat.le_of_ble_eq_true rfl, Nat.le_of_ble_eq_true rfl⟩) (pV (va_recv hK hP (q := (RX12, TX12, 34)) (ci := 16) (q0 := k133) rfl hk133) hP hK hD hN) rfl rfl hl.1 rfl (lv_room (Nat.le_of_ble_eq_true rfl)) dX12_gear_59 ⟨(Nat.zero_le _), (Nat.zero_le _)⟩) hS (fun q _ h => hFc q h) hFc (fun r134 u t H1 locs ht hvm hw hB hz1 hk1 hS => ?_)
          obtain ⟨c135, w136⟩ := hw
          obtain ⟨hP, hD⟩ := wd_post hFc ht hB
          generalize H1 = H at hP hS ⊢
          obtain ⟨S137, rfl⟩ : ∃ z, z = u := ⟨_, rfl⟩
          have t138 : stp [(12, 15), (14, 0), (14, 1), (14, 2), (22, 101), (110, 10), (114, 10), (122, 10)] [] [] S S137 := t0.tr w136 (by decide) (fun _ q => absurd q List.not_mem_nil)
          have v139 : (GN S) S137 o1 := GN.keep w136 hW h_o1 (by decide) (by decide) GN.rf
          have xe140 : ext S S137 := w136.x
          have k141 : (S137.I (S.f o1 0) 2).toInt = (S.I (S.f o1 0) 2).toInt := by rw [(w136.fR (S.f o1 0) F1.2.1.1 List.not_mem_nil).1 2 (by rw [F1.2.1.2.1]; decide) |>.1]
          have q9 := fl_q c135
          refine W.widen (k := 4) (n := 271) (Nat.le_of_ble_eq_true rfl) (Nat.le_of_ble_eq_true rfl) ?_
          exact W.iret (v := r134) hx hb hr (fun t ht hW9 => ⟨⟨r134, S137, rfl, ⟨t138, (v139), (by omega), ((fun _ => ⟨_, (Prod.mk.inj c135).2⟩)), ((fun h9 => absurd h9 (by omega)))⟩, wd_end hP hK hD ht hW9.alike⟩, hS.F ht⟩) hS.2.2 dX12_gear_62 hlocks
theorem hi_X12_hob_X11 : ∀ w ∈ u_ws RX11 TX11 7, w ∈ wsX12_hob := by decide +kernel
theorem hi_X12_hob_X12 : ∀ w ∈ u_ws RX12 TX12 34, w ∈ wsX12_hob := by decide +kernel
theorem hd_X12_hob : yX12_hob.cls = RX12 ∧ yX12_hob.cls ≠ "java/lang/invoke/MethodHandle" ∧ yX12_hob.cls ≠ "java/lang/invoke/VarHandle" ∧ (parseMethodDescriptor yX12_hob.desc).map (fun d => d.parameters.length) = some 4 := by decide +kernel
set_option maxHeartbeats 4000000 in
set_option maxRecDepth 100000 in
theorem c_X12_hob (l : Launch) {e0 mi : Nat} {D : va_G} {cy : Nat → ClassId} {X : va_W} (S : wPS) (sz : Nat) (o1 : Nat) (h_o1 : isA S o1 12) (x1 : Int32) (x2 : Int32) (x3 : Int32) (x4 : Int32) (hW : wtB S []) (he : S.F o1 77 = some e0) : Met l yX12_hob wsX12_hob ({ frames := 7, cells := 3, slots := 67, locals := 171 }) (va_Pc [.ref o1, .int x1, .int x2, .int x3, .int x4] (fun U => U.heap.size = sz ∧ WD D cy X (fun _ => True) S U ∧ NW U ∧ OU e0 mi (va_A (X ++ PL cy S) sz) U U.heap)) (va_Qi (fun r (u : wPS) => stp [(12, 15), (14, 0), (14, 1), (14, 2), (22, 101), (114, 11), (122, 11)] [] [] S u ∧ ((((f_X12_in x1.toInt64 (500 : Int64) (10000 : Int64)).toInt = 0 ∨ (f_X12_in x2.toInt64 (1 : Int64) (4 : Int64)).toInt = 0 ∨ (f_X12_in x3.toInt64 (20000 : Int64) (200000 : Int64)).toInt = 0 ∨ (f_X12_in x4.toInt64 (1 : Int64) (20 : Int64)).toInt = 0) ∧ r.toInt = 0 ∧ (u.I o1 15).toInt = 1 ∧ (u.I (S.f o1 1) 2).toInt = (S.I (S.f o1 1) 2).toInt) ∨ ((¬ (f_X12_in x1.toInt64 (500 : Int64) (10000 : Int64)).toInt = 0 ∧ ¬ (f_X12_in x2.toInt64 (1 : Int64) (4 : Int64)).toInt = 0 ∧ ¬ (f_X12_in x3.toInt64 (20000 : Int64) (200000 : Int64)).toInt = 0 ∧ ¬ (f_X12_in x4.toInt64 (1 : Int64) (20 : Int64)).toInt = 0) ∧ (S.I (S.f o1 1) 2).toInt = 8 ∧ r.toInt = 0 ∧ (u.I o1 15).toInt = 2 ∧ (u.I (S.f o1 1) 2).toInt = (S.I (S.f o1 1) 2).toInt) ∨ ((¬ (f_X12_in x1.toInt64 (500 : Int64) (10000 : Int64)).toInt = 0 ∧ ¬ (f_X12_in x2.toInt64 (1 : Int64) (4 : Int64)).toInt = 0 ∧ ¬ (f_X12_in x3.toInt64 (20000 : Int64) (200000 : Int64)).toInt = 0 ∧ ¬ (f_X12_in x4.toInt64 (1 : Int64) (20 : Int64)).toInt = 0) ∧ ¬ (S.I (S.f o1 1) 2).toInt = 8 ∧ r.toInt = (S.I (S.f o1 1) 2).toInt ∧ (u.I o1 15).toInt = 0 ∧ (u.I (S.f o1 1) 2).toInt = (S.I (S.f o1 1) 2).toInt + 1)) ∧ ((u.I (S.f o1 1) 2).toInt = (S.I (S.f o1 1) 2).toInt → ∃ t : Int32, u = S.sI o1 15 t) ∧ ((u.I (S.f o1 1) 2).toInt = (S.I (S.f o1 1) 2).toInt + 1 → ∃ g a : Nat, g ∉ S.L ∧ isA u g 11 ∧ u.F (S.f o1 1) 1 = some a ∧ isA u a 22 ∧ u.r a (S.I (S.f o1 1) 2).toNatClampNeg = some g ∧ (∀ i : Nat, (i : Int) < (S.I (S.f o1 1) 2).toInt → u.r a i = S.r (S.f (S.f o1 1) 1) i) ∧ u.I g 0 = x1 ∧ u.I g 1 = x2 ∧ u.I g 4 = x3 ∧ u.I g 3 = x4 ∧ u.I g 5 = (0 : Int32) ∧ u.I g 6 = (0 : Int32))) (fun u t => WD D cy X (va_A (X ++ PL cy S) sz) u t) (va_A (X ++ PL cy S) sz)) 3 67 (va_A (X ++ PL cy S) sz) := by
  refine Met.ofW (cc := cX12_hob) (maxL := 5) (ret := (some .int)) (by decide) rfl ?_
  intro p e s m args below meth c s₁ B hml hv
  obtain ⟨rfl, hsz, ⟨hP, hK, hD0⟩, hN, hOU⟩ := hv
  have hx := B.exec
  have hb := B.bytes
  have hr := B.returns
  have hts := atoms_spec (ws := wsX12_hob) B.pre
  have hown : s.vm.findClass RX12 = some m.cls := findClass_of_methodNamed (x := yX12_hob) B.named
  have hlocks := B.notSynchronized
  subst hsz
  have hD := hD0.self (sz := s.heap.size)
  generalize hAe : va_A (X ++ PL cy S) s.heap.size = A at hD hOU ⊢
  have hA : ∀ q : Nat, s.heap.size ≤ q → A q := fun q h => by rw [← hAe]; exact Or.inr h
  have hS : va_S A s.heap s.heap [] := va_S.rf
  have hl := lv_entry ([.ref o1, .int x1, .int x2, .int x3, .int x4]) (n := 5) (Nat.le_of_ble_eq_true rfl)
  rw [lg_entry_eq]
  generalize (lg_sl ([.ref o1, .int x1, .int x2, .int x3, .int x4]) ++ List.replicate (5 - (lg_sl ([.ref o1, .int x1, .int x2, .int x3, .int x4])).length) Slot.unset).toArray = ls at hl ⊢
  have hl : lv_has ls 5 [(0, .ref o1), (1, .int x1), (2, .int x2), (3, .int x3), (4, .int x4)] := hl
  obtain ⟨⟨ga, gZ, gX, gl, gA⟩, ⟨sa9, sZ, sX, sl9, sA⟩, cZ, eZ, eX, el, eA, hMi, hDc, ⟨pf, pZ⟩⟩ := id hOU
  have t0 : stp [(12, 15), (14, 0), (14, 1), (14, 2), (22, 101), (114, 11), (122, 11)] [] [] S S := stp.rf hW
  have F1 := ((hW.at h_o1 List.not_mem_nil).to_12 h_o1.2.1).F1
  refine lv_iload_n hx hb dX12_hob_0 rfl (lv_at hl 1 rfl) ?_
  refine lv_i2l hx hb dX12_hob_1 rfl ?_
  refine lv_ldc2 (own := RX12) (v := 500) hx hb hown (hts (.constantLong RX12 133 (500)) (by decide +kernel)) dX12_hob_2 ?_
  refine lv_ldc2 (own := RX12) (v := 10000) hx hb hown (hts (.constantLong RX12 135 (10000)) (by decide +kernel)) dX12_hob_5 ?_
  have hFc := free_all hD hS hA
  refine va_calli (va_runS (As := [.long x1.toInt64, .long (500 : Int64), .long (10000 : Int64)]) (rest := []) ⟨hx, hb, hml, hown, hts⟩ (c_X12_in l (cy := cy) (X := X) (D := D) S _ x1.toInt64 (500 : Int64) (10000 : Int64)) (cwS 3 hts gX12_hob_X12_in rfl rfl rfl hd_X12_in ⟨Nat.le_of_ble_eq_true rfl, Nat.le_of_ble_eq_true rfl⟩) (pS hP hK hD hN) rfl rfl hl.1 rfl (lv_room (Nat.le_of_ble_eq_true rfl)) dX12_hob_8 ⟨(Nat.zero_le _), (Nat.zero_le _)⟩) hS (fun q _ h => hFc q h) hFc (fun r2 u t H1 locs ht hvm hw hB hz1 hk1 hS => ?_)
  have c3 := hw
  obtain ⟨hP, hD⟩ := wd_post hFc ht hB
  generalize H1 = H at hP hS ⊢
  obtain rfl : f_X12_in x1.toInt64 (500 : Int64) (10000 : Int64) = r2 := c3.symm
  have i4 := i64_i x1
  have l64_500 : (500 : Int64).toInt = 500 := rfl
  have l64_10000 : (10000 : Int64).toInt = 10000 := rfl
  have i5 := in_rng x1.toInt64 (500 : Int64) (10000 : Int64)
  refine lv_if_eq (tgt := 53) hx hb dX12_hob_11 (by decide) (fun c6 => ?_) (fun c6 => ?_)
  · have c6i : (f_X12_in x1.toInt64 (500 : Int64) (10000 : Int64)).toInt = 0 := eq_v rfl rfl c6
    refine lv_aload_n hx hb dX12_hob_53 rfl (lv_at hl 0 rfl) ?_
    refine lv_iconst (v := 1) hx hb dX12_hob_54 (by decide) ?_
    have l32_1 : (1 : Int32).toInt = 1 := rfl
    have hFc := free_all hD hS hA
    obtain ⟨k7, gk7, hk7⟩ := wGt (cy := cy) X S h_o1.1 h_o1.2.1
    refine va_calli (va_runV (As := [.int (1 : Int32)]) (rest := []) ⟨hx, hb, hml, hown, hts⟩ (c_X12_fails l (cy := cy) (X := X) (D := D) S _ o1 h_o1 (1 : Int32) (hW)) (cwV 1 hts gX12_hob_X12_fails rfl rfl rfl hd_X12_fails ⟨Nat.le_of_ble_eq_true rfl, Nat.le_of_ble_eq_true rfl⟩) (pV (va_recv hK hP (q := (RX12, TX12, 34)) (ci := 16) (q0 := k7) rfl hk7) hP hK hD hN) rfl rfl hl.1 rfl (lv_room (Nat.le_of_ble_eq_true rfl)) dX12_hob_55 ⟨(Nat.zero_le _), (Nat.zero_le _)⟩) hS (fun q _ h => hFc q h) hFc (fun r8 u t H1 locs ht hvm hw hB hz1 hk1 hS => ?_)
    obtain ⟨c9, w10⟩ := hw
    obtain ⟨hP, hD⟩ := wd_post hFc ht hB
    generalize H1 = H at hP hS ⊢
    obtain ⟨S11, rfl⟩ : ∃ z, z = u := ⟨_, rfl⟩
    have t12 : stp [(12, 15), (14, 0), (14, 1), (14, 2), (22, 101), (114, 11), (122, 11)] [] [] S S11 := t0.tr w10 (by decide) (fun _ q => absurd q List.not_mem_nil)
    have xe13 : ext S S11 := w10.x
    have k14 : (S11.I (S.f o1 1) 2).toInt = (S.I (S.f o1 1) 2).toInt := by rw [(w10.fR (S.f o1 1) F1.2.1.1 List.not_mem_nil).1 2 (by rw [F1.2.1.2.1]; decide) |>.1]
    have q9 := fl_q c9
    refine W.widen (k := 3) (n := 67) (Nat.le_of_ble_eq_true rfl) (Nat.le_of_ble_eq_true rfl) ?_
    exact W.iret (v := r8) hx hb hr (fun t ht hW9 => ⟨⟨r8, S11, rfl, ⟨t12, (by omega), ((fun _ => ⟨_, (Prod.mk.inj c9).2⟩)), ((fun h9 => absurd h9 (by omega)))⟩, wd_end hP hK hD ht hW9.alike⟩, hS.F ht⟩) hS.2.2 dX12_hob_58 hlocks
  · have c6i : ¬ (f_X12_in x1.toInt64 (500 : Int64) (10000 : Int64)).toInt = 0 := neq_v rfl rfl c6
    refine lv_iload_n hx hb dX12_hob_14 rfl (lv_at hl 2 rfl) ?_
    refine lv_i2l hx hb dX12_hob_15 rfl ?_
    refine lv_lconst (v := 1) hx hb dX12_hob_16 (by decide) ?_
    refine lv_ldc2 (own := RX12) (v := 4) hx hb hown (hts (.constantLong RX12 314 (4)) (by decide +kernel)) dX12_hob_17 ?_
    have hFc := free_all hD hS hA
    refine va_calli (va_runS (As := [.long x2.toInt64, .long (1 : Int64), .long (4 : Int64)]) (rest := []) ⟨hx, hb, hml, hown, hts⟩ (c_X12_in l (cy := cy) (X := X) (D := D) S _ x2.toInt64 (1 : Int64) (4 : Int64)) (cwS 3 hts gX12_hob_X12_in rfl rfl rfl hd_X12_in ⟨Nat.le_of_ble_eq_true rfl, Nat.le_of_ble_eq_true rfl⟩) (pS hP hK hD hN) rfl rfl hl.1 rfl (lv_room (Nat.le_of_ble_eq_true rfl)) dX12_hob_20 ⟨(Nat.zero_le _), (Nat.zero_le _)⟩) hS (fun q _ h => hFc q h) hFc (fun r15 u t H1 locs ht hvm hw hB hz1 hk1 hS => ?_)
    have c16 := hw
    obtain ⟨hP, hD⟩ := wd_post hFc ht hB
    generalize H1 = H at hP hS ⊢
    obtain rfl : f_X12_in x2.toInt64 (1 : Int64) (4 : Int64) = r15 := c16.symm
    have i17 := i64_i x2
    have l64_1 : (1 : Int64).toInt = 1 := rfl
    have l64_4 : (4 : Int64).toInt = 4 := rfl
    have i18 := in_rng x2.toInt64 (1 : Int64) (4 : Int64)
    refine lv_if_eq (tgt := 53) hx hb dX12_hob_23 (by decide) (fun c19 => ?_) (fun c19 => ?_)
    · have c19i : (f_X12_in x2.toInt64 (1 : Int64) (4 : Int64)).toInt = 0 := eq_v rfl rfl c19
      refine lv_aload_n hx hb dX12_hob_53 rfl (lv_at hl 0 rfl) ?_
      refine lv_iconst (v := 1) hx hb dX12_hob_54 (by decide) ?_
      have l32_1 : (1 : Int32).toInt = 1 := rfl
      have hFc := free_all hD hS hA
      obtain ⟨k20, gk20, hk20⟩ := wGt (cy := cy) X S h_o1.1 h_o1.2.1
      refine va_calli (va_runV (As := [.int (1 : Int32)]) (rest := []) ⟨hx, hb, hml, hown, hts⟩ (c_X12_fails l (cy := cy) (X := X) (D := D) S _ o1 h_o1 (1 : Int32) (hW)) (cwV 1 hts gX12_hob_X12_fails rfl rfl rfl hd_X12_fails ⟨Nat.le_of_ble_eq_true rfl, Nat.le_of_ble_eq_true rfl⟩) (pV (va_recv hK hP (q := (RX12, TX12, 34)) (ci := 16) (q0 := k20) rfl hk20) hP hK hD hN) rfl rfl hl.1 rfl (lv_room (Nat.le_of_ble_eq_true rfl)) dX12_hob_55 ⟨(Nat.zero_le _), (Nat.zero_le _)⟩) hS (fun q _ h => hFc q h) hFc (fun r21 u t H1 locs ht hvm hw hB hz1 hk1 hS => ?_)
      obtain ⟨c22, w23⟩ := hw
      obtain ⟨hP, hD⟩ := wd_post hFc ht hB
      generalize H1 = H at hP hS ⊢
      obtain ⟨S24, rfl⟩ : ∃ z, z = u := ⟨_, rfl⟩
      have t25 : stp [(12, 15), (14, 0), (14, 1), (14, 2), (22, 101), (114, 11), (122, 11)] [] [] S S24 := t0.tr w23 (by decide) (fun _ q => absurd q List.not_mem_nil)
      have xe26 : ext S S24 := w23.x
      have k27 : (S24.I (S.f o1 1) 2).toInt = (S.I (S.f o1 1) 2).toInt := by rw [(w23.fR (S.f o1 1) F1.2.1.1 List.not_mem_nil).1 2 (by rw [F1.2.1.2.1]; decide) |>.1]
      have q9 := fl_q c22
      refine W.widen (k := 3) (n := 67) (Nat.le_of_ble_eq_true rfl) (Nat.le_of_ble_eq_true rfl) ?_
      exact W.iret (v := r21) hx hb hr (fun t ht hW9 => ⟨⟨r21, S24, rfl, ⟨t25, (by omega), ((fun _ => ⟨_, (Prod.mk.inj c22).2⟩)), ((fun h9 => absurd h9 (by omega)))⟩, wd_end hP hK hD ht hW9.alike⟩, hS.F ht⟩) hS.2.2 dX12_hob_58 hlocks
    · have c19i : ¬ (f_X12_in x2.toInt64 (1 : Int64) (4 : Int64)).toInt = 0 := neq_v rfl rfl c19
      refine lv_iload_n hx hb dX12_hob_26 rfl (lv_at hl 3 rfl) ?_
      refine lv_i2l hx hb dX12_hob_27 rfl ?_
      refine lv_ldc2 (own := RX12) (v := 20000) hx hb hown (hts (.constantLong RX12 316 (20000)) (by decide +kernel)) dX12_hob_28 ?_
      refine lv_ldc2 (own := RX12) (v := 200000) hx hb hown (hts (.constantLong RX12 318 (200000)) (by decide +kernel)) dX12_hob_31 ?_
      have hFc := free_all hD hS hA
      refine va_calli (va_runS (As := [.long x3.toInt64, .long (20000 : Int64), .long (200000 : Int64)]) (rest := []) ⟨hx, hb, hml, hown, hts⟩ (c_X12_in l (cy := cy) (X := X) (D := D) S _ x3.toInt64 (20000 : Int64) (200000 : Int64)) (cwS 3 hts gX12_hob_X12_in rfl rfl rfl hd_X12_in ⟨Nat.le_of_ble_eq_true rfl, Nat.le_of_ble_eq_true rfl⟩) (pS hP hK hD hN) rfl rfl hl.1 rfl (lv_room (Nat.le_of_ble_eq_true rfl)) dX12_hob_34 ⟨(Nat.zero_le _), (Nat.zero_le _)⟩) hS (fun q _ h => hFc q h) hFc (fun r28 u t H1 locs ht hvm hw hB hz1 hk1 hS => ?_)
      have c29 := hw
      obtain ⟨hP, hD⟩ := wd_post hFc ht hB
      generalize H1 = H at hP hS ⊢
      obtain rfl : f_X12_in x3.toInt64 (20000 : Int64) (200000 : Int64) = r28 := c29.symm
      have i30 := i64_i x3
      have l64_20000 : (20000 : Int64).toInt = 20000 := rfl
      have l64_200000 : (200000 : Int64).toInt = 200000 := rfl
      have i31 := in_rng x3.toInt64 (20000 : Int64) (200000 : Int64)
      refine lv_if_eq (tgt := 53) hx hb dX12_hob_37 (by decide) (fun c32 => ?_) (fun c32 => ?_)
      · have c32i : (f_X12_in x3.toInt64 (20000 : Int64) (200000 : Int64)).toInt = 0 := eq_v rfl rfl c32
        refine lv_aload_n hx hb dX12_hob_53 rfl (lv_at hl 0 rfl) ?_
        refine lv_iconst (v := 1) hx hb dX12_hob_54 (by decide) ?_
        have l32_1 : (1 : Int32).toInt = 1 := rfl
        have hFc := free_all hD hS hA
        obtain ⟨k33, gk33, hk33⟩ := wGt (cy := cy) X S h_o1.1 h_o1.2.1
        refine va_calli (va_runV (As := [.int (1 : Int32)]) (rest := []) ⟨hx, hb, hml, hown, hts⟩ (c_X12_fails l (cy := cy) (X := X) (D := D) S _ o1 h_o1 (1 : Int32) (hW)) (cwV 1 hts gX12_hob_X12_fails rfl rfl rfl hd_X12_fails ⟨Nat.le_of_ble_eq_true rfl, Nat.le_of_ble_eq_true rfl⟩) (pV (va_recv hK hP (q := (RX12, TX12, 34)) (ci := 16) (q0 := k33) rfl hk33) hP hK hD hN) rfl rfl hl.1 rfl (lv_room (Nat.le_of_ble_eq_true rfl)) dX12_hob_55 ⟨(Nat.zero_le _), (Nat.zero_le _)⟩) hS (fun q _ h => hFc q h) hFc (fun r34 u t H1 locs ht hvm hw hB hz1 hk1 hS => ?_)
        obtain ⟨c35, w36⟩ := hw
        obtain ⟨hP, hD⟩ := wd_post hFc ht hB
        generalize H1 = H at hP hS ⊢
        obtain ⟨S37, rfl⟩ : ∃ z, z = u := ⟨_, rfl⟩
        have t38 : stp [(12, 15), (14, 0), (14, 1), (14, 2), (22, 101), (114, 11), (122, 11)] [] [] S S37 := t0.tr w36 (by decide) (fun _ q => absurd q List.not_mem_nil)
        have xe39 : ext S S37 := w36.x
        have k40 : (S37.I (S.f o1 1) 2).toInt = (S.I (S.f o1 1) 2).toInt := by rw [(w36.fR (S.f o1 1) F1.2.1.1 List.not_mem_nil).1 2 (by rw [F1.2.1.2.1]; decide) |>.1]
        have q9 := fl_q c35
        refine W.widen (k := 3) (n := 67) (Nat.le_of_ble_eq_true rfl) (Nat.le_of_ble_eq_true rfl) ?_
        exact W.iret (v := r34) hx hb hr (fun t ht hW9 => ⟨⟨r34, S37, rfl, ⟨t38, (by omega), ((fun _ => ⟨_, (Prod.mk.inj c35).2⟩)), ((fun h9 => absurd h9 (by omega)))⟩, wd_end hP hK hD ht hW9.alike⟩, hS.F ht⟩) hS.2.2 dX12_hob_58 hlocks
      · have c32i : ¬ (f_X12_in x3.toInt64 (20000 : Int64) (200000 : Int64)).toInt = 0 := neq_v rfl rfl c32
        refine lv_iload hx hb dX12_hob_40 (lv_at hl 4 rfl) ?_
        refine lv_i2l hx hb dX12_hob_42 rfl ?_
        refine lv_lconst (v := 1) hx hb dX12_hob_43 (by decide) ?_
        refine lv_ldc2 (own := RX12) (v := 20) hx hb hown (hts (.constantLong RX12 320 (20)) (by decide +kernel)) dX12_hob_44 ?_
        have hFc := free_all hD hS hA
        refine va_calli (va_runS (As := [.long x4.toInt64, .long (1 : Int64), .long (20 : Int64)]) (rest := []) ⟨hx, hb, hml, hown, hts⟩ (c_X12_in l (cy := cy) (X := X) (D := D) S _ x4.toInt64 (1 : Int64) (20 : Int64)) (cwS 3 hts gX12_hob_X12_in rfl rfl rfl hd_X12_in ⟨Nat.le_of_ble_eq_true rfl, Nat.le_of_ble_eq_true rfl⟩) (pS hP hK hD hN) rfl rfl hl.1 rfl (lv_room (Nat.le_of_ble_eq_true rfl)) dX12_hob_47 ⟨(Nat.zero_le _), (Nat.zero_le _)⟩) hS (fun q _ h => hFc q h) hFc (fun r41 u t H1 locs ht hvm hw hB hz1 hk1 hS => ?_)
        have c42 := hw
        obtain ⟨hP, hD⟩ := wd_post hFc ht hB
        generalize H1 = H at hP hS ⊢
        obtain rfl : f_X12_in x4.toInt64 (1 : Int64) (20 : Int64) = r41 := c42.symm
        have i43 := i64_i x4
        have l64_20 : (20 : Int64).toInt = 20 := rfl
        have i44 := in_rng x4.toInt64 (1 : Int64) (20 : Int64)
        refine lv_if_ne (tgt := 59) hx hb dX12_hob_50 (by decide) (fun c45 => ?_) (fun c45 => ?_)
        · have c45i : ¬ (f_X12_in x4.toInt64 (1 : Int64) (20 : Int64)).toInt = 0 := neq_v rfl rfl c45
          refine lv_aload_n hx hb dX12_hob_59 rfl (lv_at hl 0 rfl) ?_
          obtain ⟨k46, gk46, hk46⟩ := wGt (cy := cy) X S h_o1.1 h_o1.2.1
          simp only [kE, F1.1] at hk46
          refine va_get (D := D) (ci := 16) (v := .ref (S.f o1 1)) (C := RX12) (T := TX12) (N := 34) hx hb hts hi_X12_hob_X12 hown hK hP k46 hk46 rfl 1 (by decide) (hts (.fieldLink RX12 28 "HobhouseModel" "hobs" "Ljava/util/ArrayList;") (by decide +kernel)) (fun _ h9 => h9) rfl dX12_hob_60 ?_
          have hFc := free_all hD hS hA
          obtain ⟨k47, gk47, hk47⟩ := wGt (cy := cy) X S F1.2.1.1 F1.2.1.2.1
          refine va_calli (va_runV (As := []) (rest := []) ⟨hx, hb, hml, hown, hts⟩ (c_Jx4a65c_size_8abf5 l (cy := cy) (X := X) (D := D) S _ (S.f o1 1) F1.2.1) (cwV 0 hts gX12_hob_Jx4a65c_size_8abf5 rfl rfl rfl hd_Jx4a65c_size_8abf5 ⟨Nat.le_of_ble_eq_true rfl, Nat.le_of_ble_eq_true rfl⟩) (pV (va_recv hK hP (q := (RJx4a65c, TJx4a65c, 3)) (ci := 3) (q0 := k47) rfl hk47) hP hK hD hN) rfl rfl hl.1 rfl (lv_room (Nat.le_of_ble_eq_true rfl)) dX12_hob_63 ⟨(Nat.zero_le _), (Nat.zero_le _)⟩) hS (fun q _ h => hFc q h) hFc (fun r48 u t H1 locs ht hvm hw hB hz1 hk1 hS => ?_)
          have c49 := hw
          obtain ⟨hP, hD⟩ := wd_post hFc ht hB
          generalize H1 = H at hP hS ⊢
          obtain rfl : f_Jx4a65c_size_8abf5 S (S.f o1 1) = r48 := c49.symm
          have i50 := al_sz ((hW.at F1.2.1 List.not_mem_nil).to_14 F1.2.1.2.1)
          have i51 : (f_Jx4a65c_size_8abf5 S (S.f o1 1)).toInt = (S.I (S.f o1 1) 2).toInt := rfl
          refine lv_bipush (v := 8) hx hb dX12_hob_66 (by decide +kernel) ?_
          refine lv_icmp_ne (tgt := 77) hx hb dX12_hob_68 (by decide) (fun c52 => ?_) (fun c52 => ?_)
          · have c52i : ¬ (f_Jx4a65c_size_8abf5 S (S.f o1 1)).toInt = 8 := neq_v rfl rfl c52
            refine lv_aload_n hx hb dX12_hob_77 rfl (lv_at hl 0 rfl) ?_
            obtain ⟨k53, gk53, hk53⟩ := wGt (cy := cy) X S h_o1.1 h_o1.2.1
            simp only [kE, F1.1] at hk53
            refine va_get (D := D) (ci := 16) (v := .ref (S.f o1 1)) (C := RX12) (T := TX12) (N := 34) hx hb hts hi_X12_hob_X12 hown hK hP k53 hk53 rfl 1 (by decide) (hts (.fieldLink RX12 28 "HobhouseModel" "hobs" "Ljava/util/ArrayList;") (by decide +kernel)) (fun _ h9 => h9) rfl dX12_hob_78 ?_
            refine va_new (ci := 15) (fs := [.int 0, .int 0, .null, .int 0, .int 0, .int 0, .int 0]) (C := RX11) (T := TX11) (N := 7) hx hb hts hi_X12_hob_X11 tyX11 tyX11_ok hown (hts (.classLink RX12 322 RX11) (by decide +kernel)) (hts (.instantiable RX11 7) (by decide +kernel)) (hts (.initialized RX11) (by decide +kernel)) hK hP hD hS hA rfl (fun j hj => by rcases (show j = 0 ∨ j = 1 ∨ j = 2 ∨ j = 3 ∨ j = 4 ∨ j = 5 ∨ j = 6 by omega) with rfl | rfl | rfl | rfl | rfl | rfl | rfl <;> rfl) (Nat.le_of_ble_eq_true rfl) (Nat.le_of_ble_eq_true rfl) dX12_hob_81 (fun qa54 H hP2 hD2 hS => ?_)
            have hqa54 : qa54 ∉ S.L := nw_q hD2
            have e9 := wNw (cy := cy) (X := X) (S := S) (a := qa54) (k := 11) (z := 0) (f := fun _ => 0) (g := fun _ => none) hqa54 rfl
            obtain ⟨S55, hS55⟩ : ∃ z, S.nw qa54 11 0 (fun _ => 0) (fun _ => none) = z := ⟨_, rfl⟩
            have hP : va_P D vwCl (X ++ PL cy S55) H := by rw [← hS55, ← e9]; exact hP2
            have hD : va_D A (X ++ PL cy S55) := by rw [← hS55, ← e9]; exact hD2
            have xe56 : ext S S55 := by rw [← hS55]; exact ext.nw hqa54
            have t57 : stp [(12, 15), (14, 0), (14, 1), (14, 2), (22, 101), (114, 11), (122, 11)] [] (qa54 :: []) S S55 := by rw [← hS55]; exact t0.nw hqa54 (Or.inl (by decide))
            have k58 : (S55.I (S.f o1 1) 2).toInt = (S.I (S.f o1 1) 2).toInt := by rw [← hS55]; exact congrArg Int32.toInt (nw_Io hqa54 F1.2.1.1)
            refine W.widen (k := 1) (n := 7) (Nat.le_of_ble_eq_true rfl) (Nat.le_of_ble_eq_true rfl) ?_
            have aqa54 : isA S55 qa54 11 := by rw [← hS55]; exact nw_A (by decide)
            have fqa54 : ∀ j, S55.F qa54 j = none := by rw [← hS55]; exact nw_F
            have iqa54 : ∀ j, S55.I qa54 j = 0 := by rw [← hS55]; exact nw_I
            have bqa54 : qa54 ∉ S.L := fun e => hqa54 e
            refine lv_dup hx hb dX12_hob_84 rfl ?_
            refine lv_iload_n hx hb dX12_hob_85 rfl (lv_at hl 1 rfl) ?_
            refine lv_iload_n hx hb dX12_hob_86 rfl (lv_at hl 2 rfl) ?_
            refine lv_iload_n hx hb dX12_hob_87 rfl (lv_at hl 3 rfl) ?_
            refine lv_iload hx hb dX12_hob_88 (lv_at hl 4 rfl) ?_
            have hFc := free_all hD hS hA
            refine va_callv (va_runI (As := [.int x1, .int x2, .int x3, .int x4]) (rest := [.ref qa54, .ref (S.f o1 1)]) ⟨hx, hb, hml, hown, hts⟩ (c_X11_init l (cy := cy) (X := X) (D := D) S55 _ qa54 aqa54 x1 x2 x3 x4 [] (t57.w) fqa54 iqa54 (by omega)) (cwI 4 hts gX12_hob_X11_init rfl rfl rfl (hts (.initialized RX11) (by decide +kernel)) (hts (.methodLink RX12 324 yX11_init) (by decide +kernel)) (hts (.instanceMethod yX11_init) (by decide +kernel)) rfl (by decide +kernel) ⟨Nat.le_of_ble_eq_true rfl, Nat.le_of_ble_eq_true rfl⟩) (pS hP hK hD hN) rfl rfl hl.1 rfl (lv_room (Nat.le_of_ble_eq_true rfl)) dX12_hob_90 ⟨Nat.le_of_ble_eq_true rfl, Nat.le_of_ble_eq_true rfl⟩) hS (fun q _ h => hFc q h) hFc (fun u t H1 locs ht hvm hw hB hz1 hk1 hS => ?_)
            obtain ⟨w60, y61, y62, y63, y64, y65, y66, y67⟩ := hw
            obtain ⟨hP, hD⟩ := wd_post hFc ht hB
            generalize H1 = H at hP hS ⊢
            obtain ⟨S68, rfl⟩ : ∃ z, z = u := ⟨_, rfl⟩
            have t69 : stp [(12, 15), (14, 0), (14, 1), (14, 2), (22, 101), (114, 11), (122, 11)] [] [] S S68 := t57.tr w60 (by decide) (fun z q => by rw [List.mem_singleton.mp q]; exact (Or.inr bqa54))
            have xe70 : ext S55 S68 := w60.x
            have k71 : (S68.I (S.f o1 1) 2).toInt = (S55.I (S.f o1 1) 2).toInt := by rw [(w60.fR (S.f o1 1) (xe56.A F1.2.1).1 (by rw [List.mem_singleton]; exact fun e => hqa54 (e ▸ F1.2.1.1))).1 2 (by rw [(xe56.A F1.2.1).2.1]; decide) |>.1]
            have hFc := free_all hD hS hA
            obtain ⟨k72, gk72, hk72⟩ := wGt (cy := cy) X S68 ((xe56.tr xe70).A F1.2.1).1 ((xe56.tr xe70).A F1.2.1).2.1
            refine va_calli (va_runV (As := [.ref qa54]) (rest := []) ⟨hx, hb, hml, hown, hts⟩ (c_Jx4a65c_add_9ea2d_h l (e0 := e0) (mi := mi) (cy := cy) (X := X) (D := D) S68 _ (S.f o1 1) ((xe56.tr xe70).A F1.2.1) qa54 (xe70.A aqa54) (t69.w) (by have h9 := ((t69.w.at ((xe56.tr xe70).A h_o1) List.not_mem_nil).to_12 ((xe56.tr xe70).A h_o1).2.1).X2; rw [f_of ((xe56.tr xe70).F h_o1 (by decide) F1.1), f_of (t69.x.F h_o1 (by decide) he)] at h9; exact h9) (by have q9 := al_sz8 ((t69.w.at ((xe56.tr xe70).A F1.2.1) List.not_mem_nil).to_14 ((xe56.tr xe70).A F1.2.1).2.1) (((xe56.tr xe70).n F1.2.1).trans F1.2.2); omega) (((xe56.tr xe70).n F1.2.1).trans F1.2.2)) (cwV 1 hts gX12_hob_Jx4a65c_add_9ea2d rfl rfl rfl hd_Jx4a65c_add_9ea2d ⟨Nat.le_of_ble_eq_true rfl, Nat.le_of_ble_eq_true rfl⟩) (pVo (va_recv hK hP (q := (RJx4a65c, TJx4a65c, 3)) (ci := 3) (q0 := k72) rfl hk72) hP hK hD hN hOU hS hFc) rfl rfl hl.1 rfl (lv_room (Nat.le_of_ble_eq_true rfl)) dX12_hob_93 ⟨Nat.le_of_ble_eq_true rfl, Nat.le_of_ble_eq_true rfl⟩) hS (fun q _ h => hFc q h) hFc (fun r73 u t H1 locs ht hvm hw hB hz1 hk1 hS => ?_)
            obtain ⟨w74, y75, y76⟩ := hw
            obtain ⟨hP, hD⟩ := wd_post hFc ht hB
            generalize H1 = H at hP hS ⊢
            obtain ⟨S77, rfl⟩ : ∃ z, z = u := ⟨_, rfl⟩
            have t78 : stp [(12, 15), (14, 0), (14, 1), (14, 2), (22, 101), (114, 11), (122, 11)] [] [] S S77 := t69.tr w74 (by decide) (fun _ q => absurd q List.not_mem_nil)
            have xe79 : ext S68 S77 := w74.x
            refine lv_pop hx hb dX12_hob_96 rfl ?_
            refine lv_aload_n hx hb dX12_hob_97 rfl (lv_at hl 0 rfl) ?_
            refine lv_aload_n hx hb dX12_hob_98 rfl (lv_at hl 0 rfl) ?_
            obtain ⟨k80, gk80, hk80⟩ := wGt (cy := cy) X S77 (xe79.A ((xe56.tr xe70).A h_o1)).1 (xe79.A ((xe56.tr xe70).A h_o1)).2.1
            simp only [kE, ((xe56.tr (xe70.tr xe79)).F h_o1 (by decide) F1.1)] at hk80
            refine va_get (D := D) (ci := 16) (v := .ref (S.f o1 1)) (C := RX12) (T := TX12) (N := 34) hx hb hts hi_X12_hob_X12 hown hK hP k80 hk80 rfl 1 (by decide) (hts (.fieldLink RX12 28 "HobhouseModel" "hobs" "Ljava/util/ArrayList;") (by decide +kernel)) (fun _ h9 => h9) rfl dX12_hob_99 ?_
            have hFc := free_all hD hS hA
            obtain ⟨k81, gk81, hk81⟩ := wGt (cy := cy) X S77 (xe79.A ((xe56.tr xe70).A F1.2.1)).1 (xe79.A ((xe56.tr xe70).A F1.2.1)).2.1
            refine va_calli (va_runV (As := []) (rest := [.ref o1]) ⟨hx, hb, hml, hown, hts⟩ (c_Jx4a65c_size_8abf5 l (cy := cy) (X := X) (D := D) S77 _ (S.f o1 1) (xe79.A ((xe56.tr xe70).A F1.2.1))) (cwV 0 hts gX12_hob_Jx4a65c_size_8abf5 rfl rfl rfl hd_Jx4a65c_size_8abf5 ⟨Nat.le_of_ble_eq_true rfl, Nat.le_of_ble_eq_true rfl⟩) (pV (va_recv hK hP (q := (RJx4a65c, TJx4a65c, 3)) (ci := 3) (q0 := k81) rfl hk81) hP hK hD hN) rfl rfl hl.1 rfl (lv_room (Nat.le_of_ble_eq_true rfl)) dX12_hob_102 ⟨Nat.le_of_ble_eq_true rfl, Nat.le_of_ble_eq_true rfl⟩) hS (fun q _ h => hFc q h) hFc (fun r82 u t H1 locs ht hvm hw hB hz1 hk1 hS => ?_)
            have c83 := hw
            obtain ⟨hP, hD⟩ := wd_post hFc ht hB
            generalize H1 = H at hP hS ⊢
            obtain rfl : f_Jx4a65c_size_8abf5 S77 (S.f o1 1) = r82 := c83.symm
            have i84 := al_sz ((t78.w.at (xe79.A ((xe56.tr xe70).A F1.2.1)) List.not_mem_nil).to_14 (xe79.A ((xe56.tr xe70).A F1.2.1)).2.1)
            have i85 : (f_Jx4a65c_size_8abf5 S77 (S.f o1 1)).toInt = (S77.I (S.f o1 1) 2).toInt := rfl
            refine lv_iconst (v := 1) hx hb dX12_hob_105 (by decide) ?_
            refine lv_isub hx hb dX12_hob_106 ?_
            have l32_1 : (1 : Int32).toInt = 1 := rfl
            have i86 : ((f_Jx4a65c_size_8abf5 S77 (S.f o1 1)) - (1 : Int32)).toInt = (f_Jx4a65c_size_8abf5 S77 (S.f o1 1)).toInt - 1 := t_subr (n := 1) rfl (by omega)
            have hFc := free_all hD hS hA
            obtain ⟨k87, gk87, hk87⟩ := wGt (cy := cy) X S77 (xe79.A ((xe56.tr xe70).A h_o1)).1 (xe79.A ((xe56.tr xe70).A h_o1)).2.1
            refine va_calli (va_runV (As := [.int ((f_Jx4a65c_size_8abf5 S77 (S.f o1 1)) - (1 : Int32))]) (rest := []) ⟨hx, hb, hml, hown, hts⟩ (c_X12_answer l (cy := cy) (X := X) (D := D) S77 _ o1 (xe79.A ((xe56.tr xe70).A h_o1)) ((f_Jx4a65c_size_8abf5 S77 (S.f o1 1)) - (1 : Int32)) (t78.w)) (cwV 1 hts gX12_hob_X12_answer rfl rfl rfl hd_X12_answer ⟨Nat.le_of_ble_eq_true rfl, Nat.le_of_ble_eq_true rfl⟩) (pV (va_recv hK hP (q := (RX12, TX12, 34)) (ci := 16) (q0 := k87) rfl hk87) hP hK hD hN) rfl rfl hl.1 rfl (lv_room (Nat.le_of_ble_eq_true rfl)) dX12_hob_107 ⟨Nat.le_of_ble_eq_true rfl, Nat.le_of_ble_eq_true rfl⟩) hS (fun q _ h => hFc q h) hFc (fun r88 u t H1 locs ht hvm hw hB hz1 hk1 hS => ?_)
            obtain ⟨c89, w90⟩ := hw
            obtain ⟨hP, hD⟩ := wd_post hFc ht hB
            generalize H1 = H at hP hS ⊢
            obtain ⟨S91, rfl⟩ : ∃ z, z = u := ⟨_, rfl⟩
            have t92 : stp [(12, 15), (14, 0), (14, 1), (14, 2), (22, 101), (114, 11), (122, 11)] [] [] S S91 := t78.tr w90 (by decide) (fun _ q => absurd q List.not_mem_nil)
            have xe93 : ext S77 S91 := w90.x
            have k94 : (S91.I (S.f o1 1) 2).toInt = (S77.I (S.f o1 1) 2).toInt := by rw [(w90.fR (S.f o1 1) ((xe56.tr (xe70.tr xe79)).A F1.2.1).1 List.not_mem_nil).1 2 (by rw [((xe56.tr (xe70.tr xe79)).A F1.2.1).2.1]; decide) |>.1]
            have q9 := aw_q c89
            refine W.widen (k := 3) (n := 67) (Nat.le_of_ble_eq_true rfl) (Nat.le_of_ble_eq_true rfl) ?_
            exact W.iret (v := r88) hx hb hr (fun t ht hW9 => ⟨⟨r88, S91, rfl, ⟨t92, (by omega), ((fun h9 => absurd h9 (by omega))), ((fun _ => by obtain ⟨a9, b0, b00, b1, b2⟩ := al_new hqa54 hS55 w60 F1.2.1 ((hW.at h_o1 List.not_mem_nil).to_12 h_o1.2.1).F1.2.2 (by decide) (by decide) ((hW.at F1.2.1 List.not_mem_nil).to_14 F1.2.1.2.1) y76; have e9 := (Prod.mk.inj c89).2; exact ⟨qa54, a9, bqa54, ((xe79.tr xe93).A (xe70.A aqa54)), (by rw [e9]; exact b0), (by rw [e9]; exact b00), (by rw [e9]; exact b1), (fun i hi => by rw [e9]; exact b2 i hi), (by rw [((w90.fR qa54 (xe79.A (xe70.A aqa54)).1 List.not_mem_nil).1 0 (by rw [(xe79.A (xe70.A aqa54)).2.1]; decide)).1]; rw [((w74.fR qa54 (xe70.A aqa54).1 List.not_mem_nil).1 0 (by rw [(xe70.A aqa54).2.1]; decide)).1]; exact y62), (by rw [((w90.fR qa54 (xe79.A (xe70.A aqa54)).1 List.not_mem_nil).1 1 (by rw [(xe79.A (xe70.A aqa54)).2.1]; decide)).1]; rw [((w74.fR qa54 (xe70.A aqa54).1 List.not_mem_nil).1 1 (by rw [(xe70.A aqa54).2.1]; decide)).1]; exact y63), (by rw [((w90.fR qa54 (xe79.A (xe70.A aqa54)).1 List.not_mem_nil).1 4 (by rw [(xe79.A (xe70.A aqa54)).2.1]; decide)).1]; rw [((w74.fR qa54 (xe70.A aqa54).1 List.not_mem_nil).1 4 (by rw [(xe70.A aqa54).2.1]; decide)).1]; exact y65), (by rw [((w90.fR qa54 (xe79.A (xe70.A aqa54)).1 List.not_mem_nil).1 3 (by rw [(xe79.A (xe70.A aqa54)).2.1]; decide)).1]; rw [((w74.fR qa54 (xe70.A aqa54).1 List.not_mem_nil).1 3 (by rw [(xe70.A aqa54).2.1]; decide)).1]; exact y64), (by rw [((w90.fR qa54 (xe79.A (xe70.A aqa54)).1 List.not_mem_nil).1 5 (by rw [(xe79.A (xe70.A aqa54)).2.1]; decide)).1]; rw [((w74.fR qa54 (xe70.A aqa54).1 List.not_mem_nil).1 5 (by rw [(xe70.A aqa54).2.1]; decide)).1]; exact y66), (by rw [((w90.fR qa54 (xe79.A (xe70.A aqa54)).1 List.not_mem_nil).1 6 (by rw [(xe79.A (xe70.A aqa54)).2.1]; decide)).1]; rw [((w74.fR qa54 (xe70.A aqa54).1 List.not_mem_nil).1 6 (by rw [(xe70.A aqa54).2.1]; decide)).1]; exact y67)⟩))⟩, wd_end hP hK hD ht hW9.alike⟩, hS.F ht⟩) hS.2.2 dX12_hob_110 hlocks
          · have c52i : (f_Jx4a65c_size_8abf5 S (S.f o1 1)).toInt = 8 := eq_v rfl rfl c52
            refine lv_aload_n hx hb dX12_hob_71 rfl (lv_at hl 0 rfl) ?_
            refine lv_iconst (v := 2) hx hb dX12_hob_72 (by decide) ?_
            have l32_2 : (2 : Int32).toInt = 2 := rfl
            have hFc := free_all hD hS hA
            obtain ⟨k95, gk95, hk95⟩ := wGt (cy := cy) X S h_o1.1 h_o1.2.1
            refine va_calli (va_runV (As := [.int (2 : Int32)]) (rest := []) ⟨hx, hb, hml, hown, hts⟩ (c_X12_fails l (cy := cy) (X := X) (D := D) S _ o1 h_o1 (2 : Int32) (hW)) (cwV 1 hts gX12_hob_X12_fails rfl rfl rfl hd_X12_fails ⟨Nat.le_of_ble_eq_true rfl, Nat.le_of_ble_eq_true rfl⟩) (pV (va_recv hK hP (q := (RX12, TX12, 34)) (ci := 16) (q0 := k95) rfl hk95) hP hK hD hN) rfl rfl hl.1 rfl (lv_room (Nat.le_of_ble_eq_true rfl)) dX12_hob_73 ⟨(Nat.zero_le _), (Nat.zero_le _)⟩) hS (fun q _ h => hFc q h) hFc (fun r96 u t H1 locs ht hvm hw hB hz1 hk1 hS => ?_)
            obtain ⟨c97, w98⟩ := hw
            obtain ⟨hP, hD⟩ := wd_post hFc ht hB
            generalize H1 = H at hP hS ⊢
            obtain ⟨S99, rfl⟩ : ∃ z, z = u := ⟨_, rfl⟩
            have t100 : stp [(12, 15), (14, 0), (14, 1), (14, 2), (22, 101), (114, 11), (122, 11)] [] [] S S99 := t0.tr w98 (by decide) (fun _ q => absurd q List.not_mem_nil)
            have xe101 : ext S S99 := w98.x
            have k102 : (S99.I (S.f o1 1) 2).toInt = (S.I (S.f o1 1) 2).toInt := by rw [(w98.fR (S.f o1 1) F1.2.1.1 List.not_mem_nil).1 2 (by rw [F1.2.1.2.1]; decide) |>.1]
            have q9 := fl_q c97
            refine W.widen (k := 3) (n := 67) (Nat.le_of_ble_eq_true rfl) (Nat.le_of_ble_eq_true rfl) ?_
            exact W.iret (v := r96) hx hb hr (fun t ht hW9 => ⟨⟨r96, S99, rfl, ⟨t100, (by omega), ((fun _ => ⟨_, (Prod.mk.inj c97).2⟩)), ((fun h9 => absurd h9 (by omega)))⟩, wd_end hP hK hD ht hW9.alike⟩, hS.F ht⟩) hS.2.2 dX12_hob_76 hlocks
        · have c45i : (f_X12_in x4.toInt64 (1 : Int64) (20 : Int64)).toInt = 0 := eq_v rfl rfl c45
          refine lv_aload_n hx hb dX12_hob_53 rfl (lv_at hl 0 rfl) ?_
          refine lv_iconst (v := 1) hx hb dX12_hob_54 (by decide) ?_
          have l32_1 : (1 : Int32).toInt = 1 := rfl
          have hFc := free_all hD hS hA
          obtain ⟨k103, gk103, hk103⟩ := wGt (cy := cy) X S h_o1.1 h_o1.2.1
          refine va_calli (va_runV (As := [.int (1 : Int32)]) (rest := []) ⟨hx, hb, hml, hown, hts⟩ (c_X12_fails l (cy := cy) (X := X) (D := D) S _ o1 h_o1 (1 : Int32) (hW)) (cwV 1 hts gX12_hob_X12_fails rfl rfl rfl hd_X12_fails ⟨Nat.le_of_ble_eq_true rfl, Nat.le_of_ble_eq_true rfl⟩) (pV (va_recv hK hP (q := (RX12, TX12, 34)) (ci := 16) (q0 := k103) rfl hk103) hP hK hD hN) rfl rfl hl.1 rfl (lv_room (Nat.le_of_ble_eq_true rfl)) dX12_hob_55 ⟨(Nat.zero_le _), (Nat.zero_le _)⟩) hS (fun q _ h => hFc q h) hFc (fun r104 u t H1 locs ht hvm hw hB hz1 hk1 hS => ?_)
          obtain ⟨c105, w106⟩ := hw
          obtain ⟨hP, hD⟩ := wd_post hFc ht hB
          generalize H1 = H at hP hS ⊢
          obtain ⟨S107, rfl⟩ : ∃ z, z = u := ⟨_, rfl⟩
          have t108 : stp [(12, 15), (14, 0), (14, 1), (14, 2), (22, 101), (114, 11), (122, 11)] [] [] S S107 := t0.tr w106 (by decide) (fun _ q => absurd q List.not_mem_nil)
          have xe109 : ext S S107 := w106.x
          have k110 : (S107.I (S.f o1 1) 2).toInt = (S.I (S.f o1 1) 2).toInt := by rw [(w106.fR (S.f o1 1) F1.2.1.1 List.not_mem_nil).1 2 (by rw [F1.2.1.2.1]; decide) |>.1]
          have q9 := fl_q c105
          refine W.widen (k := 3) (n := 67) (Nat.le_of_ble_eq_true rfl) (Nat.le_of_ble_eq_true rfl) ?_
          exact W.iret (v := r104) hx hb hr (fun t ht hW9 => ⟨⟨r104, S107, rfl, ⟨t108, (by omega), ((fun _ => ⟨_, (Prod.mk.inj c105).2⟩)), ((fun h9 => absurd h9 (by omega)))⟩, wd_end hP hK hD ht hW9.alike⟩, hS.F ht⟩) hS.2.2 dX12_hob_58 hlocks
