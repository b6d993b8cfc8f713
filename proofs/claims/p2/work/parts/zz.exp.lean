def f_X0_compare (S : wPS) (o1 : Nat) (x1 : Int32) (x2 : Int32) (x3 : Int32) (x4 : Int32) : wPS := if (lg_cmp (S.J o1 6) (0 : Int64)) = (0 : Int32) then l1 (S.sJ o1 5 (if 0 < (((x1.toInt64 * x3.toInt64) * (S.J o1 4)) - ((x2.toInt64 * x4.toInt64) * (S.J o1 3))) then (((x1.toInt64 * x3.toInt64) * (S.J o1 4)) - ((x2.toInt64 * x4.toInt64) * (S.J o1 3))) else -(((x1.toInt64 * x3.toInt64) * (S.J o1 4)) - ((x2.toInt64 * x4.toInt64) * (S.J o1 3))))) (fun S6 => l1 (S6.sJ o1 6 (x2.toInt64 * x4.toInt64)) (fun S10 => l1 (S10.si (S.f o1 1) (upd (S10.i (S.f o1 1)) (0 : Int32).toNatClampNeg x1)) (fun S16 => l1 (S16.si (S.f o1 1) (upd (S16.i (S.f o1 1)) (1 : Int32).toNatClampNeg x2)) (fun S21 => l1 (S21.si (S.f o1 1) (upd (S21.i (S.f o1 1)) (2 : Int32).toNatClampNeg x3)) (fun S26 => l1 (S26.si (S.f o1 1) (upd (S26.i (S.f o1 1)) (3 : Int32).toNatClampNeg x4)) (fun S31 => S31)))))) else if (0 : Int32) ≤ (lg_cmp ((if 0 < (((x1.toInt64 * x3.toInt64) * (S.J o1 4)) - ((x2.toInt64 * x4.toInt64) * (S.J o1 3))) then (((x1.toInt64 * x3.toInt64) * (S.J o1 4)) - ((x2.toInt64 * x4.toInt64) * (S.J o1 3))) else -(((x1.toInt64 * x3.toInt64) * (S.J o1 4)) - ((x2.toInt64 * x4.toInt64) * (S.J o1 3)))) * (S.J o1 6)) ((S.J o1 5) * (x2.toInt64 * x4.toInt64))) then S else l1 (S.sJ o1 5 (if 0 < (((x1.toInt64 * x3.toInt64) * (S.J o1 4)) - ((x2.toInt64 * x4.toInt64) * (S.J o1 3))) then (((x1.toInt64 * x3.toInt64) * (S.J o1 4)) - ((x2.toInt64 * x4.toInt64) * (S.J o1 3))) else -(((x1.toInt64 * x3.toInt64) * (S.J o1 4)) - ((x2.toInt64 * x4.toInt64) * (S.J o1 3))))) (fun S38 => l1 (S38.sJ o1 6 (x2.toInt64 * x4.toInt64)) (fun S42 => l1 (S42.si (S.f o1 1) (upd (S42.i (S.f o1 1)) (0 : Int32).toNatClampNeg x1)) (fun S48 => l1 (S48.si (S.f o1 1) (upd (S48.i (S.f o1 1)) (1 : Int32).toNatClampNeg x2)) (fun S53 => l1 (S53.si (S.f o1 1) (upd (S53.i (S.f o1 1)) (2 : Int32).toNatClampNeg x3)) (fun S58 => l1 (S58.si (S.f o1 1) (upd (S58.i (S.f o1 1)) (3 : Int32).toNatClampNeg x4)) (fun S63 => S63))))))
set_option maxHeartbeats 4000000 in
set_option maxRecDepth 100000 in
theorem c_X0_compare_q (l : Launch) {D : va_G} {cy : Nat → ClassId} {X : va_W} (S : wPS) (sz : Nat) (o1 : Nat) (h_o1 : isA S o1 0) (x1 : Int32) (x2 : Int32) (x3 : Int32) (x4 : Int32) (hW : wtB S [])  : Met l yX0_compare wsX0_compare ({ frames := 1, cells := 0, slots := 0, locals := 13 }) (va_Pc [.ref o1, .int x1, .int x2, .int x3, .int x4] (fun U => U.heap.size = sz ∧ WD D cy X (fun _ => True) S U ∧ NW U)) (va_Qv (fun (u : wPS) => u = f_X0_compare S o1 x1 x2 x3 x4 ∧ stp [(0, 5), (0, 6), (17, 100)] [] [] S u) (fun u t => WD D cy X (va_A (X ++ PL cy S) sz) u t) (va_A (X ++ PL cy S) sz)) 0 0 (va_A (X ++ PL cy S) sz) := by
  refine Met.ofW (cc := cX0_compare) (maxL := 9) (ret := none) (by decide) rfl ?_
  intro p e s m args below meth c s₁ B hml hv
  obtain ⟨rfl, hsz, ⟨hP, hK, hD0⟩, hN⟩ := hv
  have hx := B.exec
  have hb := B.bytes
  have hr := B.returns
  have hts := atoms_spec (ws := wsX0_compare) B.pre
  have hown : s.vm.findClass RX0 = some m.cls := findClass_of_methodNamed (x := yX0_compare) B.named
  have hlocks := B.notSynchronized
  subst hsz
  have hD := hD0.self (sz := s.heap.size)
  generalize hAe : va_A (X ++ PL cy S) s.heap.size = A at hD ⊢
  have hA : ∀ q : Nat, s.heap.size ≤ q → A q := fun q h => by rw [← hAe]; exact Or.inr h
  have hS : va_S A s.heap s.heap [] := va_S.rf
  have hl := lv_entry ([.ref o1, .int x1, .int x2, .int x3, .int x4]) (n := 9) (Nat.le_of_ble_eq_true rfl)
  rw [lg_entry_eq]
  generalize (lg_sl ([.ref o1, .int x1, .int x2, .int x3, .int x4]) ++ List.replicate (9 - (lg_sl ([.ref o1, .int x1, .int x2, .int x3, .int x4])).length) Slot.unset).toArray = ls at hl ⊢
  have hl : lv_has ls 9 [(0, .ref o1), (1, .int x1), (2, .int x2), (3, .int x3), (4, .int x4)] := hl
  have t0 : stp [(0, 5), (0, 6), (17, 100)] [] [] S S := stp.rf hW
  refine lv_iload_n hx hb dX0_compare_0 rfl (lv_at hl 2 rfl) ?_
  refine lv_i2l hx hb dX0_compare_1 rfl ?_
  refine lv_iload hx hb dX0_compare_2 (lv_at hl 4 rfl) ?_
  refine lv_i2l hx hb dX0_compare_4 rfl ?_
  refine lv_lmul hx hb dX0_compare_5 ?_
  refine lv_lstore (lv' := [(5, .long (x2.toInt64 * x4.toInt64)), (0, .ref o1), (1, .int x1), (2, .int x2), (3, .int x3), (4, .int x4)]) hx hb dX0_compare_6 hl (by decide) rfl (fun ls hl => ?_)
  refine lv_iload_n hx hb dX0_compare_8 rfl (lv_at hl 2 rfl) ?_
  refine lv_i2l hx hb dX0_compare_9 rfl ?_
  refine lv_iload_n hx hb dX0_compare_10 rfl (lv_at hl 4 rfl) ?_
  refine lv_i2l hx hb dX0_compare_11 rfl ?_
  refine lv_lmul hx hb dX0_compare_12 ?_
  refine lv_aload_n hx hb dX0_compare_13 rfl (lv_at hl 1 rfl) ?_
  obtain ⟨k1, gk1, hk1⟩ := wGt (cy := cy) X S h_o1.1 h_o1.2.1
  refine va_get (D := D) (ci := 4) (v := .long (S.J o1 4)) (C := RX0) (T := TX0) (N := 7) hx hb hts hi_X0_compare_X0 hown hK hP k1 hk1 rfl 4 (by decide) (hts (.fieldLink RX0 26 "Hobhouse$Box" "ratioDown" "J") (by decide +kernel)) (fun _ h9 => h9) rfl dX0_compare_14 ?_
  refine lv_lmul hx hb dX0_compare_17 ?_
  refine lv_lload hx hb dX0_compare_18 (lv_at hl 0 rfl) ?_
  refine lv_aload_n hx hb dX0_compare_20 rfl (lv_at hl 1 rfl) ?_
  obtain ⟨k2, gk2, hk2⟩ := wGt (cy := cy) X S h_o1.1 h_o1.2.1
  refine va_get (D := D) (ci := 4) (v := .long (S.J o1 3)) (C := RX0) (T := TX0) (N := 7) hx hb hts hi_X0_compare_X0 hown hK hP k2 hk2 rfl 3 (by decide) (hts (.fieldLink RX0 22 "Hobhouse$Box" "ratioUp" "J") (by decide +kernel)) (fun _ h9 => h9) rfl dX0_compare_21 ?_
  refine lv_lmul hx hb dX0_compare_24 ?_
  refine lv_lsub hx hb dX0_compare_25 ?_
  refine va_mabs_long hx hb (hml.trans hl.1.symm) hown (hts (.methodLink RX0 45 Lib.MathLoose.abs_long.x) (by decide +kernel)) (hts (.static Lib.MathLoose.abs_long.x) (by decide +kernel)) (hts (.initialized "java/lang/Math") (by decide +kernel)) (hts (.code Lib.MathLoose.abs_long.x Lib.MathLoose.abs_long.code 2 (some .long)) (by decide +kernel)) (Nat.le_of_ble_eq_true rfl) (Nat.le_of_ble_eq_true rfl) (Nat.zero_le _) (Nat.zero_le _) dX0_compare_26 ?_
  refine lv_lstore (lv' := [(7, .long (if 0 < (((x1.toInt64 * x3.toInt64) * (S.J o1 4)) - ((x2.toInt64 * x4.toInt64) * (S.J o1 3))) then (((x1.toInt64 * x3.toInt64) * (S.J o1 4)) - ((x2.toInt64 * x4.toInt64) * (S.J o1 3))) else -(((x1.toInt64 * x3.toInt64) * (S.J o1 4)) - ((x2.toInt64 * x4.toInt64) * (S.J o1 3))))), (5, .long (x2.toInt64 * x4.toInt64)), (0, .ref o1), (1, .int x1), (2, .int x2), (3, .int x3), (4, .int x4)]) hx hb dX0_compare_29 hl (by decide) rfl (fun ls hl => ?_)
  refine lv_aload_n hx hb dX0_compare_31 rfl (lv_at hl 2 rfl) ?_
  obtain ⟨k3, gk3, hk3⟩ := wGt (cy := cy) X S h_o1.1 h_o1.2.1
  refine va_get (D := D) (ci := 4) (v := .long (S.J o1 6)) (C := RX0) (T := TX0) (N := 7) hx hb hts hi_X0_compare_X0 hown hK hP k3 hk3 rfl 6 (by decide) (hts (.fieldLink RX0 34 "Hobhouse$Box" "leastBase" "J") (by decide +kernel)) (fun _ h9 => h9) rfl dX0_compare_32 ?_
  refine lv_lconst (v := 0) hx hb dX0_compare_35 (by decide) ?_
  refine W.lcmp hx hb dX0_compare_36 ?_
  refine lv_if_eq (tgt := 58) hx hb dX0_compare_37 (by decide) (fun c4 => ?_) (fun c4 => ?_)
  · refine lv_aload_n hx hb dX0_compare_58 rfl (lv_at hl 2 rfl) ?_
    refine lv_lload hx hb dX0_compare_59 (lv_at hl 0 rfl) ?_
    obtain ⟨k5, gk5, hk5⟩ := wGt (cy := cy) X S h_o1.1 h_o1.2.1
    refine va_put (D := D) (ci := 4) (v := .long (if 0 < (((x1.toInt64 * x3.toInt64) * (S.J o1 4)) - ((x2.toInt64 * x4.toInt64) * (S.J o1 3))) then (((x1.toInt64 * x3.toInt64) * (S.J o1 4)) - ((x2.toInt64 * x4.toInt64) * (S.J o1 3))) else -(((x1.toInt64 * x3.toInt64) * (S.J o1 4)) - ((x2.toInt64 * x4.toInt64) * (S.J o1 3))))) (ty := .long) (C := RX0) (T := TX0) (N := 7) hx hb hts hi_X0_compare_X0 tyX0 tyX0_ok nmX0 hown hK hP hD hS k5 hk5 rfl 5 (by decide) (hts (.fieldLink RX0 31 "Hobhouse$Box" "leastError" "J") (by decide +kernel)) (fun _ h9 => h9) rfl (by decide +kernel) (rfl) (rfl) (Nat.le_of_ble_eq_true rfl) dX0_compare_61 (fun H locs hP2 hD2 hS => ?_)
    have e9 := wPuJ (cy := cy) (j := 5) (v := (if 0 < (((x1.toInt64 * x3.toInt64) * (S.J o1 4)) - ((x2.toInt64 * x4.toInt64) * (S.J o1 3))) then (((x1.toInt64 * x3.toInt64) * (S.J o1 4)) - ((x2.toInt64 * x4.toInt64) * (S.J o1 3))) else -(((x1.toInt64 * x3.toInt64) * (S.J o1 4)) - ((x2.toInt64 * x4.toInt64) * (S.J o1 3))))) hD h_o1.1 h_o1.2.1 gk5 rfl
    obtain ⟨S6, hS6⟩ : ∃ z, S.sJ o1 5 (if 0 < (((x1.toInt64 * x3.toInt64) * (S.J o1 4)) - ((x2.toInt64 * x4.toInt64) * (S.J o1 3))) then (((x1.toInt64 * x3.toInt64) * (S.J o1 4)) - ((x2.toInt64 * x4.toInt64) * (S.J o1 3))) else -(((x1.toInt64 * x3.toInt64) * (S.J o1 4)) - ((x2.toInt64 * x4.toInt64) * (S.J o1 3)))) = z := ⟨_, rfl⟩
    have hP : va_P D vwCl (X ++ PL cy S6) H := by rw [← hS6, ← e9]; exact hP2
    have hD : va_D A (X ++ PL cy S6) := by rw [← hS6, ← e9]; exact hD2
    have xe7 : ext S S6 := by rw [← hS6]; exact ext.sJ _ _ _ _
    have t8 : stp [(0, 5), (0, 6), (17, 100)] [] [] S S6 := by rw [← hS6]; exact t0.J 5 (if 0 < (((x1.toInt64 * x3.toInt64) * (S.J o1 4)) - ((x2.toInt64 * x4.toInt64) * (S.J o1 3))) then (((x1.toInt64 * x3.toInt64) * (S.J o1 4)) - ((x2.toInt64 * x4.toInt64) * (S.J o1 3))) else -(((x1.toInt64 * x3.toInt64) * (S.J o1 4)) - ((x2.toInt64 * x4.toInt64) * (S.J o1 3)))) h_o1 (by decide)
    refine lv_aload_n hx hb dX0_compare_64 rfl (lv_at hl 2 rfl) ?_
    refine lv_lload hx hb dX0_compare_65 (lv_at hl 1 rfl) ?_
    obtain ⟨k9, gk9, hk9⟩ := wGt (cy := cy) X S6 (xe7.A h_o1).1 (xe7.A h_o1).2.1
    refine va_put (D := D) (ci := 4) (v := .long (x2.toInt64 * x4.toInt64)) (ty := .long) (C := RX0) (T := TX0) (N := 7) hx hb hts hi_X0_compare_X0 tyX0 tyX0_ok nmX0 hown hK hP hD hS k9 hk9 rfl 6 (by decide) (hts (.fieldLink RX0 34 "Hobhouse$Box" "leastBase" "J") (by decide +kernel)) (fun _ h9 => h9) rfl (by decide +kernel) (rfl) (rfl) (Nat.le_of_ble_eq_true rfl) dX0_compare_67 (fun H locs hP2 hD2 hS => ?_)
    have e9 := wPuJ (cy := cy) (j := 6) (v := (x2.toInt64 * x4.toInt64)) hD (xe7.A h_o1).1 (xe7.A h_o1).2.1 gk9 rfl
    obtain ⟨S10, hS10⟩ : ∃ z, S6.sJ o1 6 (x2.toInt64 * x4.toInt64) = z := ⟨_, rfl⟩
    have hP : va_P D vwCl (X ++ PL cy S10) H := by rw [← hS10, ← e9]; exact hP2
    have hD : va_D A (X ++ PL cy S10) := by rw [← hS10, ← e9]; exact hD2
    have xe11 : ext S6 S10 := by rw [← hS10]; exact ext.sJ _ _ _ _
    have t12 : stp [(0, 5), (0, 6), (17, 100)] [] [] S S10 := by rw [← hS10]; exact t8.J 6 (x2.toInt64 * x4.toInt64) (xe7.A h_o1) (by decide)
    refine lv_aload_n hx hb dX0_compare_70 rfl (lv_at hl 2 rfl) ?_
    have F13 := ((hW.at h_o1 List.not_mem_nil).to_0 h_o1.2.1).F1
    obtain ⟨k14, gk14, hk14⟩ := wGt (cy := cy) X S10 (xe11.A (xe7.A h_o1)).1 (xe11.A (xe7.A h_o1)).2.1
    simp only [kE, ((xe7.tr xe11).F h_o1 (by decide) F13.1)] at hk14
    refine va_get (D := D) (ci := 4) (v := .ref (S.f o1 1)) (C := RX0) (T := TX0) (N := 7) hx hb hts hi_X0_compare_X0 hown hK hP k14 hk14 rfl 1 (by decide) (hts (.fieldLink RX0 15 "Hobhouse$Box" "best" "[I") (by decide +kernel)) (fun _ h9 => h9) rfl dX0_compare_71 ?_
    refine lv_iconst (v := 0) hx hb dX0_compare_74 (by decide) ?_
    refine lv_iload_n hx hb dX0_compare_75 rfl (lv_at hl 3 rfl) ?_
    obtain ⟨k15, gk15, hk15⟩ := wGt (cy := cy) X S10 ((xe7.tr xe11).A F13.2.1).1 ((xe7.tr xe11).A F13.2.1).2.1
    refine va_iast hx hb hK hP hD hS k15 2 hk15 rfl (inb (((xe7.tr xe11).n F13.2.1).trans F13.2.2) (by decide) (by decide)) dX0_compare_76 (fun H locs hP2 hD2 hS => ?_)
    have e9 := wPui (cy := cy) (f := (upd (S10.i (S.f o1 1)) (0 : Int32).toNatClampNeg x1)) hD ((xe7.tr xe11).A F13.2.1).1 ((xe7.tr xe11).A F13.2.1).2.1 gk15 rfl
    obtain ⟨S16, hS16⟩ : ∃ z, S10.si (S.f o1 1) (upd (S10.i (S.f o1 1)) (0 : Int32).toNatClampNeg x1) = z := ⟨_, rfl⟩
    have hP : va_P D vwCl (X ++ PL cy S16) H := by rw [← hS16, ← e9]; exact hP2
    have hD : va_D A (X ++ PL cy S16) := by rw [← hS16, ← e9]; exact hD2
    have xe17 : ext S10 S16 := by rw [← hS16]; exact ext.si _ _ _
    have t18 : stp [(0, 5), (0, 6), (17, 100)] [] [] S S16 := by rw [← hS16]; exact t12.i (upd (S10.i (S.f o1 1)) (0 : Int32).toNatClampNeg x1) ((xe7.tr xe11).A F13.2.1) (by decide)
    refine lv_aload_n hx hb dX0_compare_77 rfl (lv_at hl 2 rfl) ?_
    obtain ⟨k19, gk19, hk19⟩ := wGt (cy := cy) X S16 (xe17.A (xe11.A (xe7.A h_o1))).1 (xe17.A (xe11.A (xe7.A h_o1))).2.1
    simp only [kE, ((xe7.tr (xe11.tr xe17)).F h_o1 (by decide) F13.1)] at hk19
    refine va_get (D := D) (ci := 4) (v := .ref (S.f o1 1)) (C := RX0) (T := TX0) (N := 7) hx hb hts hi_X0_compare_X0 hown hK hP k19 hk19 rfl 1 (by decide) (hts (.fieldLink RX0 15 "Hobhouse$Box" "best" "[I") (by decide +kernel)) (fun _ h9 => h9) rfl dX0_compare_78 ?_
    refine lv_iconst (v := 1) hx hb dX0_compare_81 (by decide) ?_
    refine lv_iload_n hx hb dX0_compare_82 rfl (lv_at hl 4 rfl) ?_
    obtain ⟨k20, gk20, hk20⟩ := wGt (cy := cy) X S16 (xe17.A ((xe7.tr xe11).A F13.2.1)).1 (xe17.A ((xe7.tr xe11).A F13.2.1)).2.1
    refine va_iast hx hb hK hP hD hS k20 2 hk20 rfl (inb (((xe7.tr (xe11.tr xe17)).n F13.2.1).trans F13.2.2) (by decide) (by decide)) dX0_compare_83 (fun H locs hP2 hD2 hS => ?_)
    have e9 := wPui (cy := cy) (f := (upd (S16.i (S.f o1 1)) (1 : Int32).toNatClampNeg x2)) hD (xe17.A ((xe7.tr xe11).A F13.2.1)).1 (xe17.A ((xe7.tr xe11).A F13.2.1)).2.1 gk20 rfl
    obtain ⟨S21, hS21⟩ : ∃ z, S16.si (S.f o1 1) (upd (S16.i (S.f o1 1)) (1 : Int32).toNatClampNeg x2) = z := ⟨_, rfl⟩
    have hP : va_P D vwCl (X ++ PL cy S21) H := by rw [← hS21, ← e9]; exact hP2
    have hD : va_D A (X ++ PL cy S21) := by rw [← hS21, ← e9]; exact hD2
    have xe22 : ext S16 S21 := by rw [← hS21]; exact ext.si _ _ _
    have t23 : stp [(0, 5), (0, 6), (17, 100)] [] [] S S21 := by rw [← hS21]; exact t18.i (upd (S16.i (S.f o1 1)) (1 : Int32).toNatClampNeg x2) (xe17.A ((xe7.tr xe11).A F13.2.1)) (by decide)
    refine lv_aload_n hx hb dX0_compare_84 rfl (lv_at hl 2 rfl) ?_
    obtain ⟨k24, gk24, hk24⟩ := wGt (cy := cy) X S21 (xe22.A (xe17.A (xe11.A (xe7.A h_o1)))).1 (xe22.A (xe17.A (xe11.A (xe7.A h_o1)))).2.1
    simp only [kE, ((xe7.tr (xe11.tr (xe17.tr xe22))).F h_o1 (by decide) F13.1)] at hk24
    refine va_get (D := D) (ci := 4) (v := .ref (S.f o1 1)) (C := RX0) (T := TX0) (N := 7) hx hb hts hi_X0_compare_X0 hown hK hP k24 hk24 rfl 1 (by decide) (hts (.fieldLink RX0 15 "Hobhouse$Box" "best" "[I") (by decide +kernel)) (fun _ h9 => h9) rfl dX0_compare_85 ?_
    refine lv_iconst (v := 2) hx hb dX0_compare_88 (by decide) ?_
    refine lv_iload_n hx hb dX0_compare_89 rfl (lv_at hl 5 rfl) ?_
    obtain ⟨k25, gk25, hk25⟩ := wGt (cy := cy) X S21 (xe22.A (xe17.A ((xe7.tr xe11).A F13.2.1))).1 (xe22.A (xe17.A ((xe7.tr xe11).A F13.2.1))).2.1
    refine va_iast hx hb hK hP hD hS k25 2 hk25 rfl (inb (((xe7.tr (xe11.tr (xe17.tr xe22))).n F13.2.1).trans F13.2.2) (by decide) (by decide)) dX0_compare_90 (fun H locs hP2 hD2 hS => ?_)
    have e9 := wPui (cy := cy) (f := (upd (S21.i (S.f o1 1)) (2 : Int32).toNatClampNeg x3)) hD (xe22.A (xe17.A ((xe7.tr xe11).A F13.2.1))).1 (xe22.A (xe17.A ((xe7.tr xe11).A F13.2.1))).2.1 gk25 rfl
    obtain ⟨S26, hS26⟩ : ∃ z, S21.si (S.f o1 1) (upd (S21.i (S.f o1 1)) (2 : Int32).toNatClampNeg x3) = z := ⟨_, rfl⟩
    have hP : va_P D vwCl (X ++ PL cy S26) H := by rw [← hS26, ← e9]; exact hP2
    have hD : va_D A (X ++ PL cy S26) := by rw [← hS26, ← e9]; exact hD2
    have xe27 : ext S21 S26 := by rw [← hS26]; exact ext.si _ _ _
    have t28 : stp [(0, 5), (0, 6), (17, 100)] [] [] S S26 := by rw [← hS26]; exact t23.i (upd (S21.i (S.f o1 1)) (2 : Int32).toNatClampNeg x3) (xe22.A (xe17.A ((xe7.tr xe11).A F13.2.1))) (by decide)
    refine lv_aload_n hx hb dX0_compare_91 rfl (lv_at hl 2 rfl) ?_
    obtain ⟨k29, gk29, hk29⟩ := wGt (cy := cy) X S26 (xe27.A (xe22.A (xe17.A (xe11.A (xe7.A h_o1))))).1 (xe27.A (xe22.A (xe17.A (xe11.A (xe7.A h_o1))))).2.1
    simp only [kE, ((xe7.tr (xe11.tr (xe17.tr (xe22.tr xe27)))).F h_o1 (by decide) F13.1)] at hk29
    refine va_get (D := D) (ci := 4) (v := .ref (S.f o1 1)) (C := RX0) (T := TX0) (N := 7) hx hb hts hi_X0_compare_X0 hown hK hP k29 hk29 rfl 1 (by decide) (hts (.fieldLink RX0 15 "Hobhouse$Box" "best" "[I") (by decide +kernel)) (fun _ h9 => h9) rfl dX0_compare_92 ?_
    refine lv_iconst (v := 3) hx hb dX0_compare_95 (by decide) ?_
    refine lv_iload hx hb dX0_compare_96 (lv_at hl 6 rfl) ?_
    obtain ⟨k30, gk30, hk30⟩ := wGt (cy := cy) X S26 (xe27.A (xe22.A (xe17.A ((xe7.tr xe11).A F13.2.1)))).1 (xe27.A (xe22.A (xe17.A ((xe7.tr xe11).A F13.2.1)))).2.1
    refine va_iast hx hb hK hP hD hS k30 2 hk30 rfl (inb (((xe7.tr (xe11.tr (xe17.tr (xe22.tr xe27)))).n F13.2.1).trans F13.2.2) (by decide) (by decide)) dX0_compare_98 (fun H locs hP2 hD2 hS => ?_)
    have e9 := wPui (cy := cy) (f := (upd (S26.i (S.f o1 1)) (3 : Int32).toNatClampNeg x4)) hD (xe27.A (xe22.A (xe17.A ((xe7.tr xe11).A F13.2.1)))).1 (xe27.A (xe22.A (xe17.A ((xe7.tr xe11).A F13.2.1)))).2.1 gk30 rfl
    obtain ⟨S31, hS31⟩ : ∃ z, S26.si (S.f o1 1) (upd (S26.i (S.f o1 1)) (3 : Int32).toNatClampNeg x4) = z := ⟨_, rfl⟩
    have hP : va_P D vwCl (X ++ PL cy S31) H := by rw [← hS31, ← e9]; exact hP2
    have hD : va_D A (X ++ PL cy S31) := by rw [← hS31, ← e9]; exact hD2
    have xe32 : ext S26 S31 := by rw [← hS31]; exact ext.si _ _ _
    have t33 : stp [(0, 5), (0, 6), (17, 100)] [] [] S S31 := by rw [← hS31]; exact t28.i (upd (S26.i (S.f o1 1)) (3 : Int32).toNatClampNeg x4) (xe27.A (xe22.A (xe17.A ((xe7.tr xe11).A F13.2.1)))) (by decide)
    refine W.widen (k := 0) (n := 0) (Nat.le_of_ble_eq_true rfl) (Nat.le_of_ble_eq_true rfl) ?_
    exact W.vret hx hb hr (fun t ht hW9 => ⟨⟨S31, rfl, ⟨(by show S31 = f_X0_compare S o1 x1 x2 x3 x4; unfold f_X0_compare; rw [if_pos c4, l1_eq hS6, l1_eq hS10, l1_eq hS16, l1_eq hS21, l1_eq hS26, l1_eq hS31]), t33⟩, wd_end hP hK hD ht hW9.alike⟩, hS.F ht⟩) hS.2.2 dX0_compare_99 hlocks
  · refine lv_lload hx hb dX0_compare_40 (lv_at hl 0 rfl) ?_
    refine lv_aload_n hx hb dX0_compare_42 rfl (lv_at hl 2 rfl) ?_
    obtain ⟨k34, gk34, hk34⟩ := wGt (cy := cy) X S h_o1.1 h_o1.2.1
    refine va_get (D := D) (ci := 4) (v := .long (S.J o1 6)) (C := RX0) (T := TX0) (N := 7) hx hb hts hi_X0_compare_X0 hown hK hP k34 hk34 rfl 6 (by decide) (hts (.fieldLink RX0 34 "Hobhouse$Box" "leastBase" "J") (by decide +kernel)) (fun _ h9 => h9) rfl dX0_compare_43 ?_
    refine lv_lmul hx hb dX0_compare_46 ?_
    refine lv_aload_n hx hb dX0_compare_47 rfl (lv_at hl 2 rfl) ?_
    obtain ⟨k35, gk35, hk35⟩ := wGt (cy := cy) X S h_o1.1 h_o1.2.1
    refine va_get (D := D) (ci := 4) (v := .long (S.J o1 5)) (C := RX0) (T := TX0) (N := 7) hx hb hts hi_X0_compare_X0 hown hK hP k35 hk35 rfl 5 (by decide) (hts (.fieldLink RX0 31 "Hobhouse$Box" "leastError" "J") (by decide +kernel)) (fun _ h9 => h9) rfl dX0_compare_48 ?_
    refine lv_lload hx hb dX0_compare_51 (lv_at hl 1 rfl) ?_
    refine lv_lmul hx hb dX0_compare_53 ?_
    refine W.lcmp hx hb dX0_compare_54 ?_
    refine lv_if_ge (tgt := 99) hx hb dX0_compare_55 (by decide) (fun c36 => ?_) (fun c36 => ?_)
    · refine W.widen (k := 0) (n := 0) (Nat.le_of_ble_eq_true rfl) (Nat.le_of_ble_eq_true rfl) ?_
      exact W.vret hx hb hr (fun t ht hW9 => ⟨⟨S, rfl, ⟨(by show S = f_X0_compare S o1 x1 x2 x3 x4; unfold f_X0_compare; rw [if_neg c4, if_pos c36]), t0⟩, wd_end hP hK hD ht hW9.alike⟩, hS.F ht⟩) hS.2.2 dX0_compare_99 hlocks
    · refine lv_aload_n hx hb dX0_compare_58 rfl (lv_at hl 2 rfl) ?_
      refine lv_lload hx hb dX0_compare_59 (lv_at hl 0 rfl) ?_
      obtain ⟨k37, gk37, hk37⟩ := wGt (cy := cy) X S h_o1.1 h_o1.2.1
      refine va_put (D := D) (ci := 4) (v := .long (if 0 < (((x1.toInt64 * x3.toInt64) * (S.J o1 4)) - ((x2.toInt64 * x4.toInt64) * (S.J o1 3))) then (((x1.toInt64 * x3.toInt64) * (S.J o1 4)) - ((x2.toInt64 * x4.toInt64) * (S.J o1 3))) else -(((x1.toInt64 * x3.toInt64) * (S.J o1 4)) - ((x2.toInt64 * x4.toInt64) * (S.J o1 3))))) (ty := .long) (C := RX0) (T := TX0) (N := 7) hx hb hts hi_X0_compare_X0 tyX0 tyX0_ok nmX0 hown hK hP hD hS k37 hk37 rfl 5 (by decide) (hts (.fieldLink RX0 31 "Hobhouse$Box" "leastError" "J") (by decide +kernel)) (fun _ h9 => h9) rfl (by decide +kernel) (rfl) (rfl) (Nat.le_of_ble_eq_true rfl) dX0_compare_61 (fun H locs hP2 hD2 hS => ?_)
      have e9 := wPuJ (cy := cy) (j := 5) (v := (if 0 < (((x1.toInt64 * x3.toInt64) * (S.J o1 4)) - ((x2.toInt64 * x4.toInt64) * (S.J o1 3))) then (((x1.toInt64 * x3.toInt64) * (S.J o1 4)) - ((x2.toInt64 * x4.toInt64) * (S.J o1 3))) else -(((x1.toInt64 * x3.toInt64) * (S.J o1 4)) - ((x2.toInt64 * x4.toInt64) * (S.J o1 3))))) hD h_o1.1 h_o1.2.1 gk37 rfl
      obtain ⟨S38, hS38⟩ : ∃ z, S.sJ o1 5 (if 0 < (((x1.toInt64 * x3.toInt64) * (S.J o1 4)) - ((x2.toInt64 * x4.toInt64) * (S.J o1 3))) then (((x1.toInt64 * x3.toInt64) * (S.J o1 4)) - ((x2.toInt64 * x4.toInt64) * (S.J o1 3))) else -(((x1.toInt64 * x3.toInt64) * (S.J o1 4)) - ((x2.toInt64 * x4.toInt64) * (S.J o1 3)))) = z := ⟨_, rfl⟩
      have hP : va_P D vwCl (X ++ PL cy S38) H := by rw [← hS38, ← e9]; exact hP2
      have hD : va_D A (X ++ PL cy S38) := by rw [← hS38, ← e9]; exact hD2
      have xe39 : ext S S38 := by rw [← hS38]; exact ext.sJ _ _ _ _
      have t40 : stp [(0, 5), (0, 6), (17, 100)] [] [] S S38 := by rw [← hS38]; exact t0.J 5 (if 0 < (((x1.toInt64 * x3.toInt64) * (S.J o1 4)) - ((x2.toInt64 * x4.toInt64) * (S.J o1 3))) then (((x1.toInt64 * x3.toInt64) * (S.J o1 4)) - ((x2.toInt64 * x4.toInt64) * (S.J o1 3))) else -(((x1.toInt64 * x3.toInt64) * (S.J o1 4)) - ((x2.toInt64 * x4.toInt64) * (S.J o1 3)))) h_o1 (by decide)
      refine lv_aload_n hx hb dX0_compare_64 rfl (lv_at hl 2 rfl) ?_
      refine lv_lload hx hb dX0_compare_65 (lv_at hl 1 rfl) ?_
      obtain ⟨k41, gk41, hk41⟩ := wGt (cy := cy) X S38 (xe39.A h_o1).1 (xe39.A h_o1).2.1
      refine va_put (D := D) (ci := 4) (v := .long (x2.toInt64 * x4.toInt64)) (ty := .long) (C := RX0) (T := TX0) (N := 7) hx hb hts hi_X0_compare_X0 tyX0 tyX0_ok nmX0 hown hK hP hD hS k41 hk41 rfl 6 (by decide) (hts (.fieldLink RX0 34 "Hobhouse$Box" "leastBase" "J") (by decide +kernel)) (fun _ h9 => h9) rfl (by decide +kernel) (rfl) (rfl) (Nat.le_of_ble_eq_true rfl) dX0_compare_67 (fun H locs hP2 hD2 hS => ?_)
      have e9 := wPuJ (cy := cy) (j := 6) (v := (x2.toInt64 * x4.toInt64)) hD (xe39.A h_o1).1 (xe39.A h_o1).2.1 gk41 rfl
      obtain ⟨S42, hS42⟩ : ∃ z, S38.sJ o1 6 (x2.toInt64 * x4.toInt64) = z := ⟨_, rfl⟩
      have hP : va_P D vwCl (X ++ PL cy S42) H := by rw [← hS42, ← e9]; exact hP2
      have hD : va_D A (X ++ PL cy S42) := by rw [← hS42, ← e9]; exact hD2
      have xe43 : ext S38 S42 := by rw [← hS42]; exact ext.sJ _ _ _ _
      have t44 : stp [(0, 5), (0, 6), (17, 100)] [] [] S S42 := by rw [← hS42]; exact t40.J 6 (x2.toInt64 * x4.toInt64) (xe39.A h_o1) (by decide)
      refine lv_aload_n hx hb dX0_compare_70 rfl (lv_at hl 2 rfl) ?_
      have F45 := ((hW.at h_o1 List.not_mem_nil).to_0 h_o1.2.1).F1
      obtain ⟨k46, gk46, hk46⟩ := wGt (cy := cy) X S42 (xe43.A (xe39.A h_o1)).1 (xe43.A (xe39.A h_o1)).2.1
      simp only [kE, ((xe39.tr xe43).F h_o1 (by decide) F45.1)] at hk46
      refine va_get (D := D) (ci := 4) (v := .ref (S.f o1 1)) (C := RX0) (T := TX0) (N := 7) hx hb hts hi_X0_compare_X0 hown hK hP k46 hk46 rfl 1 (by decide) (hts (.fieldLink RX0 15 "Hobhouse$Box" "best" "[I") (by decide +kernel)) (fun _ h9 => h9) rfl dX0_compare_71 ?_
      refine lv_iconst (v := 0) hx hb dX0_compare_74 (by decide) ?_
      refine lv_iload_n hx hb dX0_compare_75 rfl (lv_at hl 3 rfl) ?_
      obtain ⟨k47, gk47, hk47⟩ := wGt (cy := cy) X S42 ((xe39.tr xe43).A F45.2.1).1 ((xe39.tr xe43).A F45.2.1).2.1
      refine va_iast hx hb hK hP hD hS k47 2 hk47 rfl (inb (((xe39.tr xe43).n F45.2.1).trans F45.2.2) (by decide) (by decide)) dX0_compare_76 (fun H locs hP2 hD2 hS => ?_)
      have e9 := wPui (cy := cy) (f := (upd (S42.i (S.f o1 1)) (0 : Int32).toNatClampNeg x1)) hD ((xe39.tr xe43).A F45.2.1).1 ((xe39.tr xe43).A F45.2.1).2.1 gk47 rfl
      obtain ⟨S48, hS48⟩ : ∃ z, S42.si (S.f o1 1) (upd (S42.i (S.f o1 1)) (0 : Int32).toNatClampNeg x1) = z := ⟨_, rfl⟩
      have hP : va_P D vwCl (X ++ PL cy S48) H := by rw [← hS48, ← e9]; exact hP2
      have hD : va_D A (X ++ PL cy S48) := by rw [← hS48, ← e9]; exact hD2
      have xe49 : ext S42 S48 := by rw [← hS48]; exact ext.si _ _ _
      have t50 : stp [(0, 5), (0, 6), (17, 100)] [] [] S S48 := by rw [← hS48]; exact t44.i (upd (S42.i (S.f o1 1)) (0 : Int32).toNatClampNeg x1) ((xe39.tr xe43).A F45.2.1) (by decide)
      refine lv_aload_n hx hb dX0_compare_77 rfl (lv_at hl 2 rfl) ?_
      obtain ⟨k51, gk51, hk51⟩ := wGt (cy := cy) X S48 (xe49.A (xe43.A (xe39.A h_o1))).1 (xe49.A (xe43.A (xe39.A h_o1))).2.1
      simp only [kE, ((xe39.tr (xe43.tr xe49)).F h_o1 (by decide) F45.1)] at hk51
      refine va_get (D := D) (ci := 4) (v := .ref (S.f o1 1)) (C := RX0) (T := TX0) (N := 7) hx hb hts hi_X0_compare_X0 hown hK hP k51 hk51 rfl 1 (by decide) (hts (.fieldLink RX0 15 "Hobhouse$Box" "best" "[I") (by decide +kernel)) (fun _ h9 => h9) rfl dX0_compare_78 ?_
      refine lv_iconst (v := 1) hx hb dX0_compare_81 (by decide) ?_
      refine lv_iload_n hx hb dX0_compare_82 rfl (lv_at hl 4 rfl) ?_
      obtain ⟨k52, gk52, hk52⟩ := wGt (cy := cy) X S48 (xe49.A ((xe39.tr xe43).A F45.2.1)).1 (xe49.A ((xe39.tr xe43).A F45.2.1)).2.1
      refine va_iast hx hb hK hP hD hS k52 2 hk52 rfl (inb (((xe39.tr (xe43.tr xe49)).n F45.2.1).trans F45.2.2) (by decide) (by decide)) dX0_compare_83 (fun H locs hP2 hD2 hS => ?_)
      have e9 := wPui (cy := cy) (f := (upd (S48.i (S.f o1 1)) (1 : Int32).toNatClampNeg x2)) hD (xe49.A ((xe39.tr xe43).A F45.2.1)).1 (xe49.A ((xe39.tr xe43).A F45.2.1)).2.1 gk52 rfl
      obtain ⟨S53, hS53⟩ : ∃ z, S48.si (S.f o1 1) (upd (S48.i (S.f o1 1)) (1 : Int32).toNatClampNeg x2) = z := ⟨_, rfl⟩
      have hP : va_P D vwCl (X ++ PL cy S53) H := by rw [← hS53, ← e9]; exact hP2
      have hD : va_D A (X ++ PL cy S53) := by rw [← hS53, ← e9]; exact hD2
      have xe54 : ext S48 S53 := by rw [← hS53]; exact ext.si _ _ _
      have t55 : stp [(0, 5), (0, 6), (17, 100)] [] [] S S53 := by rw [← hS53]; exact t50.i (upd (S48.i (S.f o1 1)) (1 : Int32).toNatClampNeg x2) (xe49.A ((xe39.tr xe43).A F45.2.1)) (by decide)
      refine lv_aload_n hx hb dX0_compare_84 rfl (lv_at hl 2 rfl) ?_
      obtain ⟨k56, gk56, hk56⟩ := wGt (cy := cy) X S53 (xe54.A (xe49.A (xe43.A (xe39.A h_o1)))).1 (xe54.A (xe49.A (xe43.A (xe39.A h_o1)))).2.1
      simp only [kE, ((xe39.tr (xe43.tr (xe49.tr xe54))).F h_o1 (by decide) F45.1)] at hk56
      refine va_get (D := D) (ci := 4) (v := .ref (S.f o1 1)) (C := RX0) (T := TX0) (N := 7) hx hb hts hi_X0_compare_X0 hown hK hP k56 hk56 rfl 1 (by decide) (hts (.fieldLink RX0 15 "Hobhouse$Box" "best" "[I") (by decide +kernel)) (fun _ h9 => h9) rfl dX0_compare_85 ?_
      refine lv_iconst (v := 2) hx hb dX0_compare_88 (by decide) ?_
      refine lv_iload_n hx hb dX0_compare_89 rfl (lv_at hl 5 rfl) ?_
      obtain ⟨k57, gk57, hk57⟩ := wGt (cy := cy) X S53 (xe54.A (xe49.A ((xe39.tr xe43).A F45.2.1))).1 (xe54.A (xe49.A ((xe39.tr xe43).A F45.2.1))).2.1
      refine va_iast hx hb hK hP hD hS k57 2 hk57 rfl (inb (((xe39.tr (xe43.tr (xe49.tr xe54))).n F45.2.1).trans F45.2.2) (by decide) (by decide)) dX0_compare_90 (fun H locs hP2 hD2 hS => ?_)
      have e9 := wPui (cy := cy) (f := (upd (S53.i (S.f o1 1)) (2 : Int32).toNatClampNeg x3)) hD (xe54.A (xe49.A ((xe39.tr xe43).A F45.2.1))).1 (xe54.A (xe49.A ((xe39.tr xe43).A F45.2.1))).2.1 gk57 rfl
      obtain ⟨S58, hS58⟩ : ∃ z, S53.si (S.f o1 1) (upd (S53.i (S.f o1 1)) (2 : Int32).toNatClampNeg x3) = z := ⟨_, rfl⟩
      have hP : va_P D vwCl (X ++ PL cy S58) H := by rw [← hS58, ← e9]; exact hP2
      have hD : va_D A (X ++ PL cy S58) := by rw [← hS58, ← e9]; exact hD2
      have xe59 : ext S53 S58 := by rw [← hS58]; exact ext.si _ _ _
      have t60 : stp [(0, 5), (0, 6), (17, 100)] [] [] S S58 := by rw [← hS58]; exact t55.i (upd (S53.i (S.f o1 1)) (2 : Int32).toNatClampNeg x3) (xe54.A (xe49.A ((xe39.tr xe43).A F45.2.1))) (by decide)
      refine lv_aload_n hx hb dX0_compare_91 rfl (lv_at hl 2 rfl) ?_
      obtain ⟨k61, gk61, hk61⟩ := wGt (cy := cy) X S58 (xe59.A (xe54.A (xe49.A (xe43.A (xe39.A h_o1))))).1 (xe59.A (xe54.A (xe49.A (xe43.A (xe39.A h_o1))))).2.1
      simp only [kE, ((xe39.tr (xe43.tr (xe49.tr (xe54.tr xe59)))).F h_o1 (by decide) F45.1)] at hk61
      refine va_get (D := D) (ci := 4) (v := .ref (S.f o1 1)) (C := RX0) (T := TX0) (N := 7) hx hb hts hi_X0_compare_X0 hown hK hP k61 hk61 rfl 1 (by decide) (hts (.fieldLink RX0 15 "Hobhouse$Box" "best" "[I") (by decide +kernel)) (fun _ h9 => h9) rfl dX0_compare_92 ?_
      refine lv_iconst (v := 3) hx hb dX0_compare_95 (by decide) ?_
      refine lv_iload hx hb dX0_compare_96 (lv_at hl 6 rfl) ?_
      obtain ⟨k62, gk62, hk62⟩ := wGt (cy := cy) X S58 (xe59.A (xe54.A (xe49.A ((xe39.tr xe43).A F45.2.1)))).1 (xe59.A (xe54.A (xe49.A ((xe39.tr xe43).A F45.2.1)))).2.1
      refine va_iast hx hb hK hP hD hS k62 2 hk62 rfl (inb (((xe39.tr (xe43.tr (xe49.tr (xe54.tr xe59)))).n F45.2.1).trans F45.2.2) (by decide) (by decide)) dX0_compare_98 (fun H locs hP2 hD2 hS => ?_)
      have e9 := wPui (cy := cy) (f := (upd (S58.i (S.f o1 1)) (3 : Int32).toNatClampNeg x4)) hD (xe59.A (xe54.A (xe49.A ((xe39.tr xe43).A F45.2.1)))).1 (xe59.A (xe54.A (xe49.A ((xe39.tr xe43).A F45.2.1)))).2.1 gk62 rfl
      obtain ⟨S63, hS63⟩ : ∃ z, S58.si (S.f o1 1) (upd (S58.i (S.f o1 1)) (3 : Int32).toNatClampNeg x4) = z := ⟨_, rfl⟩
      have hP : va_P D vwCl (X ++ PL cy S63) H := by rw [← hS63, ← e9]; exact hP2
      have hD : va_D A (X ++ PL cy S63) := by rw [← hS63, ← e9]; exact hD2
      have xe64 : ext S58 S63 := by rw [← hS63]; exact ext.si _ _ _
      have t65 : stp [(0, 5), (0, 6), (17, 100)] [] [] S S63 := by rw [← hS63]; exact t60.i (upd (S58.i (S.f o1 1)) (3 : Int32).toNatClampNeg x4) (xe59.A (xe54.A (xe49.A ((xe39.tr xe43).A F45.2.1)))) (by decide)
      refine W.widen (k := 0) (n := 0) (Nat.le_of_ble_eq_true rfl) (Nat.le_of_ble_eq_true rfl) ?_
      exact W.vret hx hb hr (fun t ht hW9 => ⟨⟨S63, rfl, ⟨(by show S63 = f_X0_compare S o1 x1 x2 x3 x4; unfold f_X0_compare; rw [if_neg c4, if_neg c36, l1_eq hS38, l1_eq hS42, l1_eq hS48, l1_eq hS53, l1_eq hS58, l1_eq hS63]), t65⟩, wd_end hP hK hD ht hW9.alike⟩, hS.F ht⟩) hS.2.2 dX0_compare_99 hlocks
def f_X0_searchWith_L17 (S : wPS) (o1 : Nat) (x1 : Int32) (x2 : Int32) (S4_ : wPS) (w4_3 : Int32) : Nat → wPS → Int32 → wPS × Int32
  | 0, S17_, w17_4 => (S17_, w17_4)
  | n + 1, S17_, w17_4 => if (S17_.I o1 2) ≤ w17_4 then (S17_, w17_4) else if w4_3 = x2 then f_X0_searchWith_L17 S o1 x1 x2 S4_ w4_3 n S17_ (w17_4 + (1 : Int32)) else if w4_3 = w17_4 then f_X0_searchWith_L17 S o1 x1 x2 S4_ w4_3 n S17_ (w17_4 + (1 : Int32)) else if w17_4 = x1 then f_X0_searchWith_L17 S o1 x1 x2 S4_ w4_3 n S17_ (w17_4 + (1 : Int32)) else l1 (f_X0_compare S17_ o1 (S17_.i (S.f o1 0) x1.toNatClampNeg) (S17_.i (S.f o1 0) x2.toNatClampNeg) (S17_.i (S.f o1 0) w4_3.toNatClampNeg) (S17_.i (S.f o1 0) w17_4.toNatClampNeg)) (fun S28 => f_X0_searchWith_L17 S o1 x1 x2 S4_ w4_3 n S28 (w17_4 + (1 : Int32)))
theorem f_X0_searchWith_L17_s (S : wPS) (o1 : Nat) (x1 : Int32) (x2 : Int32) (S4_ : wPS) (w4_3 : Int32) (n : Nat) (S17_ : wPS) (w17_4 : Int32) : f_X0_searchWith_L17 S o1 x1 x2 S4_ w4_3 (n + 1) S17_ w17_4 = if (S17_.I o1 2) ≤ w17_4 then (S17_, w17_4) else if w4_3 = x2 then f_X0_searchWith_L17 S o1 x1 x2 S4_ w4_3 n S17_ (w17_4 + (1 : Int32)) else if w4_3 = w17_4 then f_X0_searchWith_L17 S o1 x1 x2 S4_ w4_3 n S17_ (w17_4 + (1 : Int32)) else if w17_4 = x1 then f_X0_searchWith_L17 S o1 x1 x2 S4_ w4_3 n S17_ (w17_4 + (1 : Int32)) else l1 (f_X0_compare S17_ o1 (S17_.i (S.f o1 0) x1.toNatClampNeg) (S17_.i (S.f o1 0) x2.toNatClampNeg) (S17_.i (S.f o1 0) w4_3.toNatClampNeg) (S17_.i (S.f o1 0) w17_4.toNatClampNeg)) (fun S28 => f_X0_searchWith_L17 S o1 x1 x2 S4_ w4_3 n S28 (w17_4 + (1 : Int32))) := rfl
def f_X0_searchWith_L4 (S : wPS) (o1 : Nat) (x1 : Int32) (x2 : Int32) : Nat → wPS → Int32 → wPS × Int32
  | 0, S4_, w4_3 => (S4_, w4_3)
  | n + 1, S4_, w4_3 => if (S4_.I o1 2) ≤ w4_3 then (S4_, w4_3) else l2 (f_X0_searchWith_L17 S o1 x1 x2 S4_ w4_3 21 S4_ (x2 + (1 : Int32))) (fun S34 z35 => f_X0_searchWith_L4 S o1 x1 x2 n S34 (w4_3 + (1 : Int32)))
theorem f_X0_searchWith_L4_s (S : wPS) (o1 : Nat) (x1 : Int32) (x2 : Int32) (n : Nat) (S4_ : wPS) (w4_3 : Int32) : f_X0_searchWith_L4 S o1 x1 x2 (n + 1) S4_ w4_3 = if (S4_.I o1 2) ≤ w4_3 then (S4_, w4_3) else l2 (f_X0_searchWith_L17 S o1 x1 x2 S4_ w4_3 21 S4_ (x2 + (1 : Int32))) (fun S34 z35 => f_X0_searchWith_L4 S o1 x1 x2 n S34 (w4_3 + (1 : Int32))) := rfl
def f_X0_searchWith (S : wPS) (o1 : Nat) (x1 : Int32) (x2 : Int32) : wPS := l2 (f_X0_searchWith_L4 S o1 x1 x2 21 S (x1 + (1 : Int32))) (fun S39 z40 => S39)
set_option maxHeartbeats 4000000 in
set_option maxRecDepth 100000 in
theorem c_X0_searchWith_q (l : Launch) {D : va_G} {cy : Nat → ClassId} {X : va_W} (S : wPS) (sz : Nat) (o1 : Nat) (h_o1 : isA S o1 0) (x1 : Int32) (x2 : Int32) (hW : wtB S []) (ha : 0 ≤ x1.toInt ∧ x1.toInt < (S.I o1 2).toInt) (hb2 : 0 ≤ x2.toInt ∧ x2.toInt < (S.I o1 2).toInt) (hc : (S.I o1 2).toInt ≤ 16) : Met l yX0_searchWith wsX0_searchWith ({ frames := 2, cells := 0, slots := 0, locals := 41 }) (va_Pc [.ref o1, .int x1, .int x2] (fun U => U.heap.size = sz ∧ WD D cy X (fun _ => True) S U ∧ NW U)) (va_Qv (fun (u : wPS) => u = f_X0_searchWith S o1 x1 x2 ∧ stp [(0, 5), (0, 6), (17, 100)] [] [] S u) (fun u t => WD D cy X (va_A (X ++ PL cy S) sz) u t) (va_A (X ++ PL cy S) sz)) 0 0 (va_A (X ++ PL cy S) sz) := by
  refine Met.ofW (cc := cX0_searchWith) (maxL := 5) (ret := none) (by decide) rfl ?_
  intro p e s m args below meth c s₁ B hml hv
  obtain ⟨rfl, hsz, ⟨hP, hK, hD0⟩, hN⟩ := hv
  have hx := B.exec
  have hb := B.bytes
  have hr := B.returns
  have hts := atoms_spec (ws := wsX0_searchWith) B.pre
  have hown : s.vm.findClass RX0 = some m.cls := findClass_of_methodNamed (x := yX0_searchWith) B.named
  have hlocks := B.notSynchronized
  subst hsz
  have hD := hD0.self (sz := s.heap.size)
  generalize hAe : va_A (X ++ PL cy S) s.heap.size = A at hD ⊢
  have hA : ∀ q : Nat, s.heap.size ≤ q → A q := fun q h => by rw [← hAe]; exact Or.inr h
  have hS : va_S A s.heap s.heap [] := va_S.rf
  have hl := lv_entry ([.ref o1, .int x1, .int x2]) (n := 5) (Nat.le_of_ble_eq_true rfl)
  rw [lg_entry_eq]
  generalize (lg_sl ([.ref o1, .int x1, .int x2]) ++ List.replicate (5 - (lg_sl ([.ref o1, .int x1, .int x2])).length) Slot.unset).toArray = ls at hl ⊢
  have hl : lv_has ls 5 [(0, .ref o1), (1, .int x1), (2, .int x2)] := hl
  have t0 : stp [(0, 5), (0, 6), (17, 100)] [] [] S S := stp.rf hW
  refine lv_iload_n hx hb dX0_searchWith_0 rfl (lv_at hl 1 rfl) ?_
  refine lv_iconst (v := 1) hx hb dX0_searchWith_1 (by decide) ?_
  refine lv_iadd hx hb dX0_searchWith_2 ?_
  refine lv_istore_n (lv' := [(3, .int (x1 + (1 : Int32))), (0, .ref o1), (1, .int x1), (2, .int x2)]) hx hb dX0_searchWith_3 rfl hl (by decide) rfl (fun ls hl => ?_)
  have l32_1 : (1 : Int32).toInt = 1 := rfl
  have i1 : (x1 + (1 : Int32)).toInt = x1.toInt + 1 := t_addr (n := 1) rfl (by omega)
  have loop4 : ∀ (n : Nat) (S4_ : wPS) (w4_3 : Int32) (H : Heap) (locs : List Loc) (ls : Array Slot), (20 - w4_3.toInt).toNat < n → 0 ≤ w4_3.toInt ∧ w4_3.toInt ≤ 16 ∧ (S4_.I o1 2).toInt = (S.I o1 2).toInt → stp [(0, 5), (0, 6), (17, 100)] [] [] S S4_ → va_P D vwCl (X ++ PL cy S4_) H → va_D A (X ++ PL cy S4_) → va_S A s.heap H locs → lv_has ls 5 [(3, .int w4_3), (0, .ref o1), (1, .int x1), (2, .int x2)] → (∀ (S4_x : wPS) (w4_3x : Int32) (H : Heap) (locs : List Loc) (ls : Array Slot), 0 ≤ w4_3x.toInt ∧ w4_3x.toInt ≤ 16 ∧ (S4_x.I o1 2).toInt = (S.I o1 2).toInt → stp [(0, 5), (0, 6), (17, 100)] [] [] S S4_x → va_P D vwCl (X ++ PL cy S4_x) H → va_D A (X ++ PL cy S4_x) → va_S A s.heap H locs → lv_has ls 5 [(3, .int w4_3x), (0, .ref o1), (1, .int x1), (2, .int x2)] → f_X0_searchWith_L4 S o1 x1 x2 n S4_ w4_3 = (S4_x, w4_3x) → W p l e (headSpec wsX0_searchWith ({ frames := 2, cells := 0, slots := 0, locals := 41 } : Room)).room s m [.ref o1, .int x1, .int x2].toArray below meth c H locs 0 0 (MQ below (va_Qv (fun (u : wPS) => u = f_X0_searchWith S o1 x1 x2 ∧ stp [(0, 5), (0, 6), (17, 100)] [] [] S u) (fun u t => WD D cy X A u t) A) [.ref o1, .int x1, .int x2].toArray s 0 0 A) (F0 m 84 ls [])) → W p l e (headSpec wsX0_searchWith ({ frames := 2, cells := 0, slots := 0, locals := 41 } : Room)).room s m [.ref o1, .int x1, .int x2].toArray below meth c H locs 0 0 (MQ below (va_Qv (fun (u : wPS) => u = f_X0_searchWith S o1 x1 x2 ∧ stp [(0, 5), (0, 6), (17, 100)] [] [] S u) (fun u t => WD D cy X A u t) A) [.ref o1, .int x1, .int x2].toArray s 0 0 A) (F0 m 4 ls []) := by
    intro n4
    induction n4 with
    | zero => intro S4_ w4_3 H locs ls hm; exact absurd hm (Nat.not_lt_zero _)
    | succ n4 ih4 =>
      intro S4_ w4_3 H locs ls hm4 hi4 hsh4 hP hD hS hl ko4
      refine lv_iload_n hx hb dX0_searchWith_4 rfl (lv_at hl 0 rfl) ?_
      refine lv_aload_n hx hb dX0_searchWith_5 rfl (lv_at hl 1 rfl) ?_
      obtain ⟨k2, gk2, hk2⟩ := wGt (cy := cy) X S4_ (hsh4.x.A h_o1).1 (hsh4.x.A h_o1).2.1
      have i3 := ((hsh4.w.at (hsh4.x.A h_o1) List.not_mem_nil).to_0 (hsh4.x.A h_o1).2.1).R2
      refine va_get (D := D) (ci := 4) (v := .int (S4_.I o1 2)) (C := RX0) (T := TX0) (N := 7) hx hb hts hi_X0_searchWith_X0 hown hK hP k2 hk2 rfl 2 (by decide) (hts (.fieldLink RX0 18 "Hobhouse$Box" "count" "I") (by decide +kernel)) (fun _ h9 => h9) rfl dX0_searchWith_6 ?_
      refine lv_icmp_ge (tgt := 84) hx hb dX0_searchWith_9 (by decide) (fun c4 => ?_) (fun c4 => ?_)
      · have c4i : (S4_.I o1 2).toInt ≤ w4_3.toInt := le_v rfl rfl c4
        exact ko4 S4_ w4_3 _ _ _ (by omega) hsh4 hP hD hS (lv_sub hl [0, 1, 2, 3] rfl) (by rw [f_X0_searchWith_L4_s, if_pos c4])
      · have c4i : w4_3.toInt < (S4_.I o1 2).toInt := nle_v rfl rfl c4
        refine lv_iload_n hx hb dX0_searchWith_12 rfl (lv_at hl 3 rfl) ?_
        refine lv_iconst (v := 1) hx hb dX0_searchWith_13 (by decide) ?_
        refine lv_iadd hx hb dX0_searchWith_14 ?_
        refine lv_istore (lv' := [(4, .int (x2 + (1 : Int32))), (3, .int w4_3), (0, .ref o1), (1, .int x1), (2, .int x2)]) hx hb dX0_searchWith_15 hl (by decide) rfl (fun ls hl => ?_)
        have i5 : (x2 + (1 : Int32)).toInt = x2.toInt + 1 := t_addr (n := 1) rfl (by omega)
        have loop17 : ∀ (n : Nat) (S17_ : wPS) (w17_4 : Int32) (H : Heap) (locs : List Loc) (ls : Array Slot), (20 - w17_4.toInt).toNat < n → 0 ≤ w17_4.toInt ∧ w17_4.toInt ≤ 16 ∧ (S17_.I o1 2).toInt = (S.I o1 2).toInt → stp [(0, 5), (0, 6), (17, 100)] [] [] S4_ S17_ → va_P D vwCl (X ++ PL cy S17_) H → va_D A (X ++ PL cy S17_) → va_S A s.heap H locs → lv_has ls 5 [(4, .int w17_4), (3, .int w4_3), (0, .ref o1), (1, .int x1), (2, .int x2)] → (∀ (S17_x : wPS) (w17_4x : Int32) (H : Heap) (locs : List Loc) (ls : Array Slot), 0 ≤ w17_4x.toInt ∧ w17_4x.toInt ≤ 16 ∧ (S17_x.I o1 2).toInt = (S.I o1 2).toInt → stp [(0, 5), (0, 6), (17, 100)] [] [] S4_ S17_x → va_P D vwCl (X ++ PL cy S17_x) H → va_D A (X ++ PL cy S17_x) → va_S A s.heap H locs → lv_has ls 5 [(4, .int w17_4x), (3, .int w4_3), (0, .ref o1), (1, .int x1), (2, .int x2)] → f_X0_searchWith_L17 S o1 x1 x2 S4_ w4_3 n S17_ w17_4 = (S17_x, w17_4x) → W p l e (headSpec wsX0_searchWith ({ frames := 2, cells := 0, slots := 0, locals := 41 } : Room)).room s m [.ref o1, .int x1, .int x2].toArray below meth c H locs 0 0 (MQ below (va_Qv (fun (u : wPS) => u = f_X0_searchWith S o1 x1 x2 ∧ stp [(0, 5), (0, 6), (17, 100)] [] [] S u) (fun u t => WD D cy X A u t) A) [.ref o1, .int x1, .int x2].toArray s 0 0 A) (F0 m 78 ls [])) → W p l e (headSpec wsX0_searchWith ({ frames := 2, cells := 0, slots := 0, locals := 41 } : Room)).room s m [.ref o1, .int x1, .int x2].toArray below meth c H locs 0 0 (MQ below (va_Qv (fun (u : wPS) => u = f_X0_searchWith S o1 x1 x2 ∧ stp [(0, 5), (0, 6), (17, 100)] [] [] S u) (fun u t => WD D cy X A u t) A) [.ref o1, .int x1, .int x2].toArray s 0 0 A) (F0 m 17 ls []) := by
          intro n17
          induction n17 with
          | zero => intro S17_ w17_4 H locs ls hm; exact absurd hm (Nat.not_lt_zero _)
          | succ n17 ih17 =>
            intro S17_ w17_4 H locs ls hm17 hi17 hsh17 hP hD hS hl ko17
            refine lv_iload hx hb dX0_searchWith_17 (lv_at hl 0 rfl) ?_
            refine lv_aload_n hx hb dX0_searchWith_19 rfl (lv_at hl 2 rfl) ?_
            obtain ⟨k6, gk6, hk6⟩ := wGt (cy := cy) X S17_ (hsh17.x.A (hsh4.x.A h_o1)).1 (hsh17.x.A (hsh4.x.A h_o1)).2.1
            have i7 := ((hsh17.w.at (hsh17.x.A (hsh4.x.A h_o1)) List.not_mem_nil).to_0 (hsh17.x.A (hsh4.x.A h_o1)).2.1).R2
            refine va_get (D := D) (ci := 4) (v := .int (S17_.I o1 2)) (C := RX0) (T := TX0) (N := 7) hx hb hts hi_X0_searchWith_X0 hown hK hP k6 hk6 rfl 2 (by decide) (hts (.fieldLink RX0 18 "Hobhouse$Box" "count" "I") (by decide +kernel)) (fun _ h9 => h9) rfl dX0_searchWith_20 ?_
            refine lv_icmp_ge (tgt := 78) hx hb dX0_searchWith_23 (by decide) (fun c8 => ?_) (fun c8 => ?_)
            · have c8i : (S17_.I o1 2).toInt ≤ w17_4.toInt := le_v rfl rfl c8
              exact ko17 S17_ w17_4 _ _ _ (by omega) hsh17 hP hD hS (lv_sub hl [0, 1, 2, 3, 4] rfl) (by rw [f_X0_searchWith_L17_s, if_pos c8])
            · have c8i : w17_4.toInt < (S17_.I o1 2).toInt := nle_v rfl rfl c8
              refine lv_iload_n hx hb dX0_searchWith_26 rfl (lv_at hl 1 rfl) ?_
              refine lv_iload_n hx hb dX0_searchWith_27 rfl (lv_at hl 4 rfl) ?_
              refine lv_icmp_eq (tgt := 72) hx hb dX0_searchWith_28 (by decide) (fun c9 => ?_) (fun c9 => ?_)
              · have c9i : w4_3.toInt = x2.toInt := eq_v rfl rfl c9
                refine lv_iinc (v := w17_4 + (1 : Int32)) (lv' := [(4, .int (w17_4 + (1 : Int32))), (3, .int w4_3), (0, .ref o1), (1, .int x1), (2, .int x2)]) hx hb dX0_searchWith_72 hl (k := 0) rfl (by rfl) (by decide) rfl (fun ls hl => ?_)
                refine lv_goto (tgt := 17) hx hb dX0_searchWith_75 (by decide) ?_
                have i10 : (w17_4 + (1 : Int32)).toInt = w17_4.toInt + 1 := t_addr (n := 1) rfl (by omega)
                exact ih17 S17_ (w17_4 + (1 : Int32)) _ _ _ (Nat.lt_of_lt_of_le (by omega) (Nat.le_of_lt_succ hm17)) (by omega) hsh17 hP hD hS (lv_sub hl [0, 1, 2, 3, 4] rfl) (fun S17_y w17_4y H9 locs9 ls9 i9 sh9 P9 D9 S9 l9 hfe => ko17 S17_y w17_4y H9 locs9 ls9 i9 sh9 P9 D9 S9 l9 (Eq.trans (by rw [f_X0_searchWith_L17_s, if_neg c8, if_pos c9]) hfe))
              · have c9i : ¬ w4_3.toInt = x2.toInt := neq_v rfl rfl c9
                refine lv_iload_n hx hb dX0_searchWith_31 rfl (lv_at hl 1 rfl) ?_
                refine lv_iload hx hb dX0_searchWith_32 (lv_at hl 0 rfl) ?_
                refine lv_icmp_eq (tgt := 72) hx hb dX0_searchWith_34 (by decide) (fun c11 => ?_) (fun c11 => ?_)
                · have c11i : w4_3.toInt = w17_4.toInt := eq_v rfl rfl c11
                  refine lv_iinc (v := w17_4 + (1 : Int32)) (lv' := [(4, .int (w17_4 + (1 : Int32))), (3, .int w4_3), (0, .ref o1), (1, .int x1), (2, .int x2)]) hx hb dX0_searchWith_72 hl (k := 0) rfl (by rfl) (by decide) rfl (fun ls hl => ?_)
                  refine lv_goto (tgt := 17) hx hb dX0_searchWith_75 (by decide) ?_
                  have i12 : (w17_4 + (1 : Int32)).toInt = w17_4.toInt + 1 := t_addr (n := 1) rfl (by omega)
                  exact ih17 S17_ (w17_4 + (1 : Int32)) _ _ _ (Nat.lt_of_lt_of_le (by omega) (Nat.le_of_lt_succ hm17)) (by omega) hsh17 hP hD hS (lv_sub hl [0, 1, 2, 3, 4] rfl) (fun S17_y w17_4y H9 locs9 ls9 i9 sh9 P9 D9 S9 l9 hfe => ko17 S17_y w17_4y H9 locs9 ls9 i9 sh9 P9 D9 S9 l9 (Eq.trans (by rw [f_X0_searchWith_L17_s, if_neg c8, if_neg c9, if_pos c11]) hfe))
                · have c11i : ¬ w4_3.toInt = w17_4.toInt := neq_v rfl rfl c11
                  refine lv_iload hx hb dX0_searchWith_37 (lv_at hl 0 rfl) ?_
                  refine lv_iload_n hx hb dX0_searchWith_39 rfl (lv_at hl 3 rfl) ?_
                  refine lv_icmp_eq (tgt := 72) hx hb dX0_searchWith_40 (by decide) (fun c13 => ?_) (fun c13 => ?_)
                  · have c13i : w17_4.toInt = x1.toInt := eq_v rfl rfl c13
                    refine lv_iinc (v := w17_4 + (1 : Int32)) (lv' := [(4, .int (w17_4 + (1 : Int32))), (3, .int w4_3), (0, .ref o1), (1, .int x1), (2, .int x2)]) hx hb dX0_searchWith_72 hl (k := 0) rfl (by rfl) (by decide) rfl (fun ls hl => ?_)
                    refine lv_goto (tgt := 17) hx hb dX0_searchWith_75 (by decide) ?_
                    have i14 : (w17_4 + (1 : Int32)).toInt = w17_4.toInt + 1 := t_addr (n := 1) rfl (by omega)
                    exact ih17 S17_ (w17_4 + (1 : Int32)) _ _ _ (Nat.lt_of_lt_of_le (by omega) (Nat.le_of_lt_succ hm17)) (by omega) hsh17 hP hD hS (lv_sub hl [0, 1, 2, 3, 4] rfl) (fun S17_y w17_4y H9 locs9 ls9 i9 sh9 P9 D9 S9 l9 hfe => ko17 S17_y w17_4y H9 locs9 ls9 i9 sh9 P9 D9 S9 l9 (Eq.trans (by rw [f_X0_searchWith_L17_s, if_neg c8, if_neg c9, if_neg c11, if_pos c13]) hfe))
                  · have c13i : ¬ w17_4.toInt = x1.toInt := neq_v rfl rfl c13
                    refine lv_aload_n hx hb dX0_searchWith_43 rfl (lv_at hl 2 rfl) ?_
                    refine lv_aload_n hx hb dX0_searchWith_44 rfl (lv_at hl 2 rfl) ?_
                    have F15 := ((hW.at h_o1 List.not_mem_nil).to_0 h_o1.2.1).F0
                    obtain ⟨k16, gk16, hk16⟩ := wGt (cy := cy) X S17_ (hsh17.x.A (hsh4.x.A h_o1)).1 (hsh17.x.A (hsh4.x.A h_o1)).2.1
                    simp only [kE, ((hsh4.x.tr hsh17.x).F h_o1 (by decide) F15.1)] at hk16
                    refine va_get (D := D) (ci := 4) (v := .ref (S.f o1 0)) (C := RX0) (T := TX0) (N := 7) hx hb hts hi_X0_searchWith_X0 hown hK hP k16 hk16 rfl 0 (by decide) (hts (.fieldLink RX0 9 "Hobhouse$Box" "wheels" "[I") (by decide +kernel)) (fun _ h9 => h9) rfl dX0_searchWith_45 ?_
                    refine lv_iload_n hx hb dX0_searchWith_48 rfl (lv_at hl 3 rfl) ?_
                    obtain ⟨k17, gk17, hk17⟩ := wGt (cy := cy) X S17_ ((hsh4.x.tr hsh17.x).A F15.2.1).1 ((hsh4.x.tr hsh17.x).A F15.2.1).2.1
                    refine va_iald hx hb hK hP k17 2 hk17 rfl (inb (m := 16) (((hsh4.x.tr hsh17.x).n F15.2.1).trans F15.2.2) (by omega) (by omega)) dX0_searchWith_49 ?_
                    refine lv_aload_n hx hb dX0_searchWith_50 rfl (lv_at hl 2 rfl) ?_
                    obtain ⟨k18, gk18, hk18⟩ := wGt (cy := cy) X S17_ (hsh17.x.A (hsh4.x.A h_o1)).1 (hsh17.x.A (hsh4.x.A h_o1)).2.1
                    simp only [kE, ((hsh4.x.tr hsh17.x).F h_o1 (by decide) F15.1)] at hk18
                    refine va_get (D := D) (ci := 4) (v := .ref (S.f o1 0)) (C := RX0) (T := TX0) (N := 7) hx hb hts hi_X0_searchWith_X0 hown hK hP k18 hk18 rfl 0 (by decide) (hts (.fieldLink RX0 9 "Hobhouse$Box" "wheels" "[I") (by decide +kernel)) (fun _ h9 => h9) rfl dX0_searchWith_51 ?_
                    refine lv_iload_n hx hb dX0_searchWith_54 rfl (lv_at hl 4 rfl) ?_
                    obtain ⟨k19, gk19, hk19⟩ := wGt (cy := cy) X S17_ ((hsh4.x.tr hsh17.x).A F15.2.1).1 ((hsh4.x.tr hsh17.x).A F15.2.1).2.1
                    refine va_iald hx hb hK hP k19 2 hk19 rfl (inb (m := 16) (((hsh4.x.tr hsh17.x).n F15.2.1).trans F15.2.2) (by omega) (by omega)) dX0_searchWith_55 ?_
                    refine lv_aload_n hx hb dX0_searchWith_56 rfl (lv_at hl 2 rfl) ?_
                    obtain ⟨k20, gk20, hk20⟩ := wGt (cy := cy) X S17_ (hsh17.x.A (hsh4.x.A h_o1)).1 (hsh17.x.A (hsh4.x.A h_o1)).2.1
                    simp only [kE, ((hsh4.x.tr hsh17.x).F h_o1 (by decide) F15.1)] at hk20
                    refine va_get (D := D) (ci := 4) (v := .ref (S.f o1 0)) (C := RX0) (T := TX0) (N := 7) hx hb hts hi_X0_searchWith_X0 hown hK hP k20 hk20 rfl 0 (by decide) (hts (.fieldLink RX0 9 "Hobhouse$Box" "wheels" "[I") (by decide +kernel)) (fun _ h9 => h9) rfl dX0_searchWith_57 ?_
                    refine lv_iload_n hx hb dX0_searchWith_60 rfl (lv_at hl 1 rfl) ?_
                    obtain ⟨k21, gk21, hk21⟩ := wGt (cy := cy) X S17_ ((hsh4.x.tr hsh17.x).A F15.2.1).1 ((hsh4.x.tr hsh17.x).A F15.2.1).2.1
                    refine va_iald hx hb hK hP k21 2 hk21 rfl (inb (m := 16) (((hsh4.x.tr hsh17.x).n F15.2.1).trans F15.2.2) (by omega) (by omega)) dX0_searchWith_61 ?_
                    refine lv_aload_n hx hb dX0_searchWith_62 rfl (lv_at hl 2 rfl) ?_
                    obtain ⟨k22, gk22, hk22⟩ := wGt (cy := cy) X S17_ (hsh17.x.A (hsh4.x.A h_o1)).1 (hsh17.x.A (hsh4.x.A h_o1)).2.1
                    simp only [kE, ((hsh4.x.tr hsh17.x).F h_o1 (by decide) F15.1)] at hk22
                    refine va_get (D := D) (ci := 4) (v := .ref (S.f o1 0)) (C := RX0) (T := TX0) (N := 7) hx hb hts hi_X0_searchWith_X0 hown hK hP k22 hk22 rfl 0 (by decide) (hts (.fieldLink RX0 9 "Hobhouse$Box" "wheels" "[I") (by decide +kernel)) (fun _ h9 => h9) rfl dX0_searchWith_63 ?_
                    refine lv_iload hx hb dX0_searchWith_66 (lv_at hl 0 rfl) ?_
                    obtain ⟨k23, gk23, hk23⟩ := wGt (cy := cy) X S17_ ((hsh4.x.tr hsh17.x).A F15.2.1).1 ((hsh4.x.tr hsh17.x).A F15.2.1).2.1
                    refine va_iald hx hb hK hP k23 2 hk23 rfl (inb (m := 16) (((hsh4.x.tr hsh17.x).n F15.2.1).trans F15.2.2) (by omega) (by omega)) dX0_searchWith_68 ?_
                    have hFc := free_all hD hS hA
                    obtain ⟨k24, gk24, hk24⟩ := wGt (cy := cy) X S17_ (hsh17.x.A (hsh4.x.A h_o1)).1 (hsh17.x.A (hsh4.x.A h_o1)).2.1
                    refine va_callv (va_runV (As := [.int (S17_.i (S.f o1 0) x1.toNatClampNeg), .int (S17_.i (S.f o1 0) x2.toNatClampNeg), .int (S17_.i (S.f o1 0) w4_3.toNatClampNeg), .int (S17_.i (S.f o1 0) w17_4.toNatClampNeg)]) (rest := []) ⟨hx, hb, hml, hown, hts⟩ (c_X0_compare_q l (cy := cy) (X := X) (D := D) S17_ _ o1 (hsh17.x.A (hsh4.x.A h_o1)) (S17_.i (S.f o1 0) x1.toNatClampNeg) (S17_.i (S.f o1 0) x2.toNatClampNeg) (S17_.i (S.f o1 0) w4_3.toNatClampNeg) (S17_.i (S.f o1 0) w17_4.toNatClampNeg) (hsh17.w)) (cwV 4 hts gX0_searchWith_X0_compare rfl rfl rfl hd_X0_compare ⟨Nat.le_of_ble_eq_true rfl, Nat.le_of_ble_eq_true rfl⟩) (pV (va_recv hK hP (q := (RX0, TX0, 7)) (ci := 4) (q0 := k24) rfl hk24) hP hK hD hN) rfl rfl hl.1 rfl (lv_room (Nat.le_of_ble_eq_true rfl)) dX0_searchWith_69 ⟨(Nat.zero_le _), (Nat.zero_le _)⟩) hS (fun q _ h => hFc q h) hFc (fun u t H1 locs ht hvm hw hB hz1 hk1 hS => ?_)
                    obtain ⟨c26, w27⟩ := hw
                    obtain ⟨hP, hD⟩ := wd_post hFc ht hB
                    generalize H1 = H at hP hS ⊢
                    obtain ⟨S28, rfl⟩ : ∃ z, z = u := ⟨_, rfl⟩
                    have t29 : stp [(0, 5), (0, 6), (17, 100)] [] [] S4_ S28 := hsh17.tr w27 (by decide) (fun _ q => absurd q List.not_mem_nil)
                    have xe30 : ext S17_ S28 := w27.x
                    have k31 : (S28.I o1 2).toInt = (S17_.I o1 2).toInt := by rw [(w27.fR o1 ((hsh4.x.tr hsh17.x).A h_o1).1 List.not_mem_nil).1 2 (by rw [((hsh4.x.tr hsh17.x).A h_o1).2.1]; decide) |>.1]
                    refine lv_iinc (v := w17_4 + (1 : Int32)) (lv' := [(4, .int (w17_4 + (1 : Int32))), (3, .int w4_3), (0, .ref o1), (1, .int x1), (2, .int x2)]) hx hb dX0_searchWith_72 hl (k := 0) rfl (by rfl) (by decide) rfl (fun ls hl => ?_)
                    refine lv_goto (tgt := 17) hx hb dX0_searchWith_75 (by decide) ?_
                    have i32 : (w17_4 + (1 : Int32)).toInt = w17_4.toInt + 1 := t_addr (n := 1) rfl (by omega)
                    exact ih17 S28 (w17_4 + (1 : Int32)) _ _ _ (Nat.lt_of_lt_of_le (by omega) (Nat.le_of_lt_succ hm17)) (by omega) t29 hP hD hS (lv_sub hl [0, 1, 2, 3, 4] rfl) (fun S17_y w17_4y H9 locs9 ls9 i9 sh9 P9 D9 S9 l9 hfe => ko17 S17_y w17_4y H9 locs9 ls9 i9 sh9 P9 D9 S9 l9 (Eq.trans (by rw [f_X0_searchWith_L17_s, if_neg c8, if_neg c9, if_neg c11, if_neg c13, l1_eq c26.symm]) hfe))
        refine loop17 21 S4_ (x2 + (1 : Int32)) _ _ _ (by omega) (by omega) (stp.rf hsh4.w) hP hD hS (lv_sub hl [0, 1, 2, 3, 4] rfl) (fun S34 z35 H locs ls hi17 hsh17 hP hD hS hl c33 => ?_)
        have t36 : stp [(0, 5), (0, 6), (17, 100)] [] [] S S34 := hsh4.tr hsh17 (fun _ q => q) (fun _ q => Or.inl q)
        have et36 := hsh17.x
        refine lv_iinc (v := w4_3 + (1 : Int32)) (lv' := [(3, .int (w4_3 + (1 : Int32))), (4, .int z35), (0, .ref o1), (1, .int x1), (2, .int x2)]) hx hb dX0_searchWith_78 hl (k := 1) rfl (by rfl) (by decide) rfl (fun ls hl => ?_)
        refine lv_goto (tgt := 4) hx hb dX0_searchWith_81 (by decide) ?_
        have i37 : (w4_3 + (1 : Int32)).toInt = w4_3.toInt + 1 := t_addr (n := 1) rfl (by omega)
        exact ih4 S34 (w4_3 + (1 : Int32)) _ _ _ (Nat.lt_of_lt_of_le (by omega) (Nat.le_of_lt_succ hm4)) (by omega) t36 hP hD hS (lv_sub hl [0, 2, 3, 4] rfl) (fun S4_y w4_3y H9 locs9 ls9 i9 sh9 P9 D9 S9 l9 hfe => ko4 S4_y w4_3y H9 locs9 ls9 i9 sh9 P9 D9 S9 l9 (Eq.trans (by rw [f_X0_searchWith_L4_s, if_neg c4, l2_eq c33]) hfe))
  refine loop4 21 S (x1 + (1 : Int32)) _ _ _ (by omega) (by omega) (stp.rf hW) hP hD hS (lv_sub hl [0, 1, 2, 3] rfl) (fun S39 z40 H locs ls hi4 hsh4 hP hD hS hl c38 => ?_)
  have t41 : stp [(0, 5), (0, 6), (17, 100)] [] [] S S39 := t0.tr hsh4 (fun _ q => q) (fun _ q => Or.inl q)
  have et41 := hsh4.x
  refine W.widen (k := 0) (n := 0) (Nat.le_of_ble_eq_true rfl) (Nat.le_of_ble_eq_true rfl) ?_
  exact W.vret hx hb hr (fun t ht hW9 => ⟨⟨S39, rfl, ⟨(by show S39 = f_X0_searchWith S o1 x1 x2; unfold f_X0_searchWith; rw [l2_eq c38]), t41⟩, wd_end hP hK hD ht hW9.alike⟩, hS.F ht⟩) hS.2.2 dX0_searchWith_84 hlocks
def f_X0_search_L37 (S : wPS) (o1 : Nat) (x1 : Int64) (x2 : Int64) (S2 : wPS) (S7 : wPS) (S12 : wPS) (S17 : wPS) (S25_ : wPS) (w25_5 : Int32) : Nat → wPS → Int32 → wPS × Int32
  | 0, S37_, w37_6 => (S37_, w37_6)
  | n + 1, S37_, w37_6 => if (S37_.I o1 2) ≤ w37_6 then (S37_, w37_6) else if w25_5 = w37_6 then f_X0_search_L37 S o1 x1 x2 S2 S7 S12 S17 S25_ w25_5 n S37_ (w37_6 + (1 : Int32)) else l1 (f_X0_searchWith S37_ o1 w25_5 w37_6) (fun S34 => f_X0_search_L37 S o1 x1 x2 S2 S7 S12 S17 S25_ w25_5 n S34 (w37_6 + (1 : Int32)))
theorem f_X0_search_L37_s (S : wPS) (o1 : Nat) (x1 : Int64) (x2 : Int64) (S2 : wPS) (S7 : wPS) (S12 : wPS) (S17 : wPS) (S25_ : wPS) (w25_5 : Int32) (n : Nat) (S37_ : wPS) (w37_6 : Int32) : f_X0_search_L37 S o1 x1 x2 S2 S7 S12 S17 S25_ w25_5 (n + 1) S37_ w37_6 = if (S37_.I o1 2) ≤ w37_6 then (S37_, w37_6) else if w25_5 = w37_6 then f_X0_search_L37 S o1 x1 x2 S2 S7 S12 S17 S25_ w25_5 n S37_ (w37_6 + (1 : Int32)) else l1 (f_X0_searchWith S37_ o1 w25_5 w37_6) (fun S34 => f_X0_search_L37 S o1 x1 x2 S2 S7 S12 S17 S25_ w25_5 n S34 (w37_6 + (1 : Int32))) := rfl
def f_X0_search_L25 (S : wPS) (o1 : Nat) (x1 : Int64) (x2 : Int64) (S2 : wPS) (S7 : wPS) (S12 : wPS) (S17 : wPS) : Nat → wPS → Int32 → wPS × Int32
  | 0, S25_, w25_5 => (S25_, w25_5)
  | n + 1, S25_, w25_5 => if (S25_.I o1 2) ≤ w25_5 then (S25_, w25_5) else l2 (f_X0_search_L37 S o1 x1 x2 S2 S7 S12 S17 S25_ w25_5 21 S25_ (0 : Int32)) (fun S40 z41 => f_X0_search_L25 S o1 x1 x2 S2 S7 S12 S17 n S40 (w25_5 + (1 : Int32)))
theorem f_X0_search_L25_s (S : wPS) (o1 : Nat) (x1 : Int64) (x2 : Int64) (S2 : wPS) (S7 : wPS) (S12 : wPS) (S17 : wPS) (n : Nat) (S25_ : wPS) (w25_5 : Int32) : f_X0_search_L25 S o1 x1 x2 S2 S7 S12 S17 (n + 1) S25_ w25_5 = if (S25_.I o1 2) ≤ w25_5 then (S25_, w25_5) else l2 (f_X0_search_L37 S o1 x1 x2 S2 S7 S12 S17 S25_ w25_5 21 S25_ (0 : Int32)) (fun S40 z41 => f_X0_search_L25 S o1 x1 x2 S2 S7 S12 S17 n S40 (w25_5 + (1 : Int32))) := rfl
def f_X0_search (S : wPS) (o1 : Nat) (x1 : Int64) (x2 : Int64) : wPS := l1 (S.sJ o1 3 x1) (fun S2 => l1 (S2.sJ o1 4 x2) (fun S7 => l1 (S7.sJ o1 5 (9223372036854775807 : Int64)) (fun S12 => l1 (S12.sJ o1 6 (0 : Int64)) (fun S17 => l2 (f_X0_search_L25 S o1 x1 x2 S2 S7 S12 S17 21 S17 (0 : Int32)) (fun S45 z46 => S45)))))
set_option maxHeartbeats 4000000 in
set_option maxRecDepth 100000 in
theorem c_X0_search_q (l : Launch) {D : va_G} {cy : Nat → ClassId} {X : va_W} (S : wPS) (sz : Nat) (o1 : Nat) (h_o1 : isA S o1 0) (x1 : Int64) (x2 : Int64) (hW : wtB S [])  : Met l yX0_search wsX0_search ({ frames := 3, cells := 0, slots := 0, locals := 65 }) (va_Pc [.ref o1, .long x1, .long x2] (fun U => U.heap.size = sz ∧ WD D cy X (fun _ => True) S U ∧ NW U)) (va_Qv (fun (u : wPS) => u = f_X0_search S o1 x1 x2 ∧ stp [(0, 3), (0, 4), (0, 5), (0, 6), (17, 100)] [] [] S u) (fun u t => WD D cy X (va_A (X ++ PL cy S) sz) u t) (va_A (X ++ PL cy S) sz)) 0 0 (va_A (X ++ PL cy S) sz) := by
  refine Met.ofW (cc := cX0_search) (maxL := 7) (ret := none) (by decide) rfl ?_
  intro p e s m args below meth c s₁ B hml hv
  obtain ⟨rfl, hsz, ⟨hP, hK, hD0⟩, hN⟩ := hv
  have hx := B.exec
  have hb := B.bytes
  have hr := B.returns
  have hts := atoms_spec (ws := wsX0_search) B.pre
  have hown : s.vm.findClass RX0 = some m.cls := findClass_of_methodNamed (x := yX0_search) B.named
  have hlocks := B.notSynchronized
  subst hsz
  have hD := hD0.self (sz := s.heap.size)
  generalize hAe : va_A (X ++ PL cy S) s.heap.size = A at hD ⊢
  have hA : ∀ q : Nat, s.heap.size ≤ q → A q := fun q h => by rw [← hAe]; exact Or.inr h
  have hS : va_S A s.heap s.heap [] := va_S.rf
  have hl := lv_entry ([.ref o1, .long x1, .long x2]) (n := 7) (Nat.le_of_ble_eq_true rfl)
  rw [lg_entry_eq]
  generalize (lg_sl ([.ref o1, .long x1, .long x2]) ++ List.replicate (7 - (lg_sl ([.ref o1, .long x1, .long x2])).length) Slot.unset).toArray = ls at hl ⊢
  have hl : lv_has ls 7 [(0, .ref o1), (1, .long x1), (3, .long x2)] := hl
  have t0 : stp [(0, 3), (0, 4), (0, 5), (0, 6), (17, 100)] [] [] S S := stp.rf hW
  refine lv_aload_n hx hb dX0_search_0 rfl (lv_at hl 0 rfl) ?_
  refine lv_lload_n hx hb dX0_search_1 rfl (lv_at hl 1 rfl) ?_
  obtain ⟨k1, gk1, hk1⟩ := wGt (cy := cy) X S h_o1.1 h_o1.2.1
  refine va_put (D := D) (ci := 4) (v := .long x1) (ty := .long) (C := RX0) (T := TX0) (N := 7) hx hb hts hi_X0_search_X0 tyX0 tyX0_ok nmX0 hown hK hP hD hS k1 hk1 rfl 3 (by decide) (hts (.fieldLink RX0 22 "Hobhouse$Box" "ratioUp" "J") (by decide +kernel)) (fun _ h9 => h9) rfl (by decide +kernel) (rfl) (rfl) (Nat.le_of_ble_eq_true rfl) dX0_search_2 (fun H locs hP2 hD2 hS => ?_)
  have e9 := wPuJ (cy := cy) (j := 3) (v := x1) hD h_o1.1 h_o1.2.1 gk1 rfl
  obtain ⟨S2, hS2⟩ : ∃ z, S.sJ o1 3 x1 = z := ⟨_, rfl⟩
  have hP : va_P D vwCl (X ++ PL cy S2) H := by rw [← hS2, ← e9]; exact hP2
  have hD : va_D A (X ++ PL cy S2) := by rw [← hS2, ← e9]; exact hD2
  have xe3 : ext S S2 := by rw [← hS2]; exact ext.sJ _ _ _ _
  have t4 : stp [(0, 3), (0, 4), (0, 5), (0, 6), (17, 100)] [] [] S S2 := by rw [← hS2]; exact t0.J 3 x1 h_o1 (by decide)
  have k5 : (S2.I o1 2).toInt = (S.I o1 2).toInt := by rw [← hS2]; rfl
  refine lv_aload_n hx hb dX0_search_5 rfl (lv_at hl 0 rfl) ?_
  refine lv_lload_n hx hb dX0_search_6 rfl (lv_at hl 2 rfl) ?_
  obtain ⟨k6, gk6, hk6⟩ := wGt (cy := cy) X S2 (xe3.A h_o1).1 (xe3.A h_o1).2.1
  refine va_put (D := D) (ci := 4) (v := .long x2) (ty := .long) (C := RX0) (T := TX0) (N := 7) hx hb hts hi_X0_search_X0 tyX0 tyX0_ok nmX0 hown hK hP hD hS k6 hk6 rfl 4 (by decide) (hts (.fieldLink RX0 26 "Hobhouse$Box" "ratioDown" "J") (by decide +kernel)) (fun _ h9 => h9) rfl (by decide +kernel) (rfl) (rfl) (Nat.le_of_ble_eq_true rfl) dX0_search_7 (fun H locs hP2 hD2 hS => ?_)
  have e9 := wPuJ (cy := cy) (j := 4) (v := x2) hD (xe3.A h_o1).1 (xe3.A h_o1).2.1 gk6 rfl
  obtain ⟨S7, hS7⟩ : ∃ z, S2.sJ o1 4 x2 = z := ⟨_, rfl⟩
  have hP : va_P D vwCl (X ++ PL cy S7) H := by rw [← hS7, ← e9]; exact hP2
  have hD : va_D A (X ++ PL cy S7) := by rw [← hS7, ← e9]; exact hD2
  have xe8 : ext S2 S7 := by rw [← hS7]; exact ext.sJ _ _ _ _
  have t9 : stp [(0, 3), (0, 4), (0, 5), (0, 6), (17, 100)] [] [] S S7 := by rw [← hS7]; exact t4.J 4 x2 (xe3.A h_o1) (by decide)
  have k10 : (S7.I o1 2).toInt = (S2.I o1 2).toInt := by rw [← hS7]; rfl
  refine lv_aload_n hx hb dX0_search_10 rfl (lv_at hl 0 rfl) ?_
  refine lv_ldc2 (own := RX0) (v := 9223372036854775807) hx hb hown (hts (.constantLong RX0 29 (9223372036854775807)) (by decide +kernel)) dX0_search_11 ?_
  obtain ⟨k11, gk11, hk11⟩ := wGt (cy := cy) X S7 (xe8.A (xe3.A h_o1)).1 (xe8.A (xe3.A h_o1)).2.1
  refine va_put (D := D) (ci := 4) (v := .long (9223372036854775807 : Int64)) (ty := .long) (C := RX0) (T := TX0) (N := 7) hx hb hts hi_X0_search_X0 tyX0 tyX0_ok nmX0 hown hK hP hD hS k11 hk11 rfl 5 (by decide) (hts (.fieldLink RX0 31 "Hobhouse$Box" "leastError" "J") (by decide +kernel)) (fun _ h9 => h9) rfl (by decide +kernel) (rfl) (rfl) (Nat.le_of_ble_eq_true rfl) dX0_search_14 (fun H locs hP2 hD2 hS => ?_)
  have e9 := wPuJ (cy := cy) (j := 5) (v := (9223372036854775807 : Int64)) hD (xe8.A (xe3.A h_o1)).1 (xe8.A (xe3.A h_o1)).2.1 gk11 rfl
  obtain ⟨S12, hS12⟩ : ∃ z, S7.sJ o1 5 (9223372036854775807 : Int64) = z := ⟨_, rfl⟩
  have hP : va_P D vwCl (X ++ PL cy S12) H := by rw [← hS12, ← e9]; exact hP2
  have hD : va_D A (X ++ PL cy S12) := by rw [← hS12, ← e9]; exact hD2
  have xe13 : ext S7 S12 := by rw [← hS12]; exact ext.sJ _ _ _ _
  have t14 : stp [(0, 3), (0, 4), (0, 5), (0, 6), (17, 100)] [] [] S S12 := by rw [← hS12]; exact t9.J 5 (9223372036854775807 : Int64) (xe8.A (xe3.A h_o1)) (by decide)
  have k15 : (S12.I o1 2).toInt = (S7.I o1 2).toInt := by rw [← hS12]; rfl
  refine lv_aload_n hx hb dX0_search_17 rfl (lv_at hl 0 rfl) ?_
  refine lv_lconst (v := 0) hx hb dX0_search_18 (by decide) ?_
  obtain ⟨k16, gk16, hk16⟩ := wGt (cy := cy) X S12 (xe13.A (xe8.A (xe3.A h_o1))).1 (xe13.A (xe8.A (xe3.A h_o1))).2.1
  refine va_put (D := D) (ci := 4) (v := .long (0 : Int64)) (ty := .long) (C := RX0) (T := TX0) (N := 7) hx hb hts hi_X0_search_X0 tyX0 tyX0_ok nmX0 hown hK hP hD hS k16 hk16 rfl 6 (by decide) (hts (.fieldLink RX0 34 "Hobhouse$Box" "leastBase" "J") (by decide +kernel)) (fun _ h9 => h9) rfl (by decide +kernel) (rfl) (rfl) (Nat.le_of_ble_eq_true rfl) dX0_search_19 (fun H locs hP2 hD2 hS => ?_)
  have e9 := wPuJ (cy := cy) (j := 6) (v := (0 : Int64)) hD (xe13.A (xe8.A (xe3.A h_o1))).1 (xe13.A (xe8.A (xe3.A h_o1))).2.1 gk16 rfl
  obtain ⟨S17, hS17⟩ : ∃ z, S12.sJ o1 6 (0 : Int64) = z := ⟨_, rfl⟩
  have hP : va_P D vwCl (X ++ PL cy S17) H := by rw [← hS17, ← e9]; exact hP2
  have hD : va_D A (X ++ PL cy S17) := by rw [← hS17, ← e9]; exact hD2
  have xe18 : ext S12 S17 := by rw [← hS17]; exact ext.sJ _ _ _ _
  have t19 : stp [(0, 3), (0, 4), (0, 5), (0, 6), (17, 100)] [] [] S S17 := by rw [← hS17]; exact t14.J 6 (0 : Int64) (xe13.A (xe8.A (xe3.A h_o1))) (by decide)
  have k20 : (S17.I o1 2).toInt = (S12.I o1 2).toInt := by rw [← hS17]; rfl
  refine lv_iconst (v := 0) hx hb dX0_search_22 (by decide) ?_
  refine lv_istore (lv' := [(5, .int (0 : Int32)), (0, .ref o1), (1, .long x1), (3, .long x2)]) hx hb dX0_search_23 hl (by decide) rfl (fun ls hl => ?_)
  have l32_0 : (0 : Int32).toInt = 0 := rfl
  have loop25 : ∀ (n : Nat) (S25_ : wPS) (w25_5 : Int32) (H : Heap) (locs : List Loc) (ls : Array Slot), (20 - w25_5.toInt).toNat < n → 0 ≤ w25_5.toInt ∧ w25_5.toInt ≤ 16 ∧ (S25_.I o1 2).toInt = (S.I o1 2).toInt → stp [(0, 3), (0, 4), (0, 5), (0, 6), (17, 100)] [] [] S17 S25_ → va_P D vwCl (X ++ PL cy S25_) H → va_D A (X ++ PL cy S25_) → va_S A s.heap H locs → lv_has ls 7 [(5, .int w25_5), (0, .ref o1), (1, .long x1), (3, .long x2)] → (∀ (S25_x : wPS) (w25_5x : Int32) (H : Heap) (locs : List Loc) (ls : Array Slot), 0 ≤ w25_5x.toInt ∧ w25_5x.toInt ≤ 16 ∧ (S25_x.I o1 2).toInt = (S.I o1 2).toInt → stp [(0, 3), (0, 4), (0, 5), (0, 6), (17, 100)] [] [] S17 S25_x → va_P D vwCl (X ++ PL cy S25_x) H → va_D A (X ++ PL cy S25_x) → va_S A s.heap H locs → lv_has ls 7 [(5, .int w25_5x), (0, .ref o1), (1, .long x1), (3, .long x2)] → f_X0_search_L25 S o1 x1 x2 S2 S7 S12 S17 n S25_ w25_5 = (S25_x, w25_5x) → W p l e (headSpec wsX0_search ({ frames := 3, cells := 0, slots := 0, locals := 65 } : Room)).room s m [.ref o1, .long x1, .long x2].toArray below meth c H locs 0 0 (MQ below (va_Qv (fun (u : wPS) => u = f_X0_search S o1 x1 x2 ∧ stp [(0, 3), (0, 4), (0, 5), (0, 6), (17, 100)] [] [] S u) (fun u t => WD D cy X A u t) A) [.ref o1, .long x1, .long x2].toArray s 0 0 A) (F0 m 73 ls [])) → W p l e (headSpec wsX0_search ({ frames := 3, cells := 0, slots := 0, locals := 65 } : Room)).room s m [.ref o1, .long x1, .long x2].toArray below meth c H locs 0 0 (MQ below (va_Qv (fun (u : wPS) => u = f_X0_search S o1 x1 x2 ∧ stp [(0, 3), (0, 4), (0, 5), (0, 6), (17, 100)] [] [] S u) (fun u t => WD D cy X A u t) A) [.ref o1, .long x1, .long x2].toArray s 0 0 A) (F0 m 25 ls []) := by
    intro n25
    induction n25 with
    | zero => intro S25_ w25_5 H locs ls hm; exact absurd hm (Nat.not_lt_zero _)
    | succ n25 ih25 =>
      intro S25_ w25_5 H locs ls hm25 hi25 hsh25 hP hD hS hl ko25
      refine lv_iload hx hb dX0_search_25 (lv_at hl 0 rfl) ?_
      refine lv_aload_n hx hb dX0_search_27 rfl (lv_at hl 1 rfl) ?_
      obtain ⟨k21, gk21, hk21⟩ := wGt (cy := cy) X S25_ ((xe18.tr hsh25.x).A (xe13.A (xe8.A (xe3.A h_o1)))).1 ((xe18.tr hsh25.x).A (xe13.A (xe8.A (xe3.A h_o1)))).2.1
      have i22 := ((hsh25.w.at ((xe18.tr hsh25.x).A (xe13.A (xe8.A (xe3.A h_o1)))) List.not_mem_nil).to_0 ((xe18.tr hsh25.x).A (xe13.A (xe8.A (xe3.A h_o1)))).2.1).R2
      refine va_get (D := D) (ci := 4) (v := .int (S25_.I o1 2)) (C := RX0) (T := TX0) (N := 7) hx hb hts hi_X0_search_X0 hown hK hP k21 hk21 rfl 2 (by decide) (hts (.fieldLink RX0 18 "Hobhouse$Box" "count" "I") (by decide +kernel)) (fun _ h9 => h9) rfl dX0_search_28 ?_
      refine lv_icmp_ge (tgt := 73) hx hb dX0_search_31 (by decide) (fun c23 => ?_) (fun c23 => ?_)
      · have c23i : (S25_.I o1 2).toInt ≤ w25_5.toInt := le_v rfl rfl c23
        exact ko25 S25_ w25_5 _ _ _ (by omega) hsh25 hP hD hS (lv_sub hl [0, 1, 2, 3] rfl) (by rw [f_X0_search_L25_s, if_pos c23])
      · have c23i : w25_5.toInt < (S25_.I o1 2).toInt := nle_v rfl rfl c23
        refine lv_iconst (v := 0) hx hb dX0_search_34 (by decide) ?_
        refine lv_istore (lv' := [(6, .int (0 : Int32)), (5, .int w25_5), (0, .ref o1), (1, .long x1), (3, .long x2)]) hx hb dX0_search_35 hl (by decide) rfl (fun ls hl => ?_)
        have loop37 : ∀ (n : Nat) (S37_ : wPS) (w37_6 : Int32) (H : Heap) (locs : List Loc) (ls : Array Slot), (20 - w37_6.toInt).toNat < n → 0 ≤ w37_6.toInt ∧ w37_6.toInt ≤ 16 ∧ (S37_.I o1 2).toInt = (S.I o1 2).toInt → stp [(0, 3), (0, 4), (0, 5), (0, 6), (17, 100)] [] [] S25_ S37_ → va_P D vwCl (X ++ PL cy S37_) H → va_D A (X ++ PL cy S37_) → va_S A s.heap H locs → lv_has ls 7 [(6, .int w37_6), (5, .int w25_5), (0, .ref o1), (1, .long x1), (3, .long x2)] → (∀ (S37_x : wPS) (w37_6x : Int32) (H : Heap) (locs : List Loc) (ls : Array Slot), 0 ≤ w37_6x.toInt ∧ w37_6x.toInt ≤ 16 ∧ (S37_x.I o1 2).toInt = (S.I o1 2).toInt → stp [(0, 3), (0, 4), (0, 5), (0, 6), (17, 100)] [] [] S25_ S37_x → va_P D vwCl (X ++ PL cy S37_x) H → va_D A (X ++ PL cy S37_x) → va_S A s.heap H locs → lv_has ls 7 [(6, .int w37_6x), (5, .int w25_5), (0, .ref o1), (1, .long x1), (3, .long x2)] → f_X0_search_L37 S o1 x1 x2 S2 S7 S12 S17 S25_ w25_5 n S37_ w37_6 = (S37_x, w37_6x) → W p l e (headSpec wsX0_search ({ frames := 3, cells := 0, slots := 0, locals := 65 } : Room)).room s m [.ref o1, .long x1, .long x2].toArray below meth c H locs 0 0 (MQ below (va_Qv (fun (u : wPS) => u = f_X0_search S o1 x1 x2 ∧ stp [(0, 3), (0, 4), (0, 5), (0, 6), (17, 100)] [] [] S u) (fun u t => WD D cy X A u t) A) [.ref o1, .long x1, .long x2].toArray s 0 0 A) (F0 m 67 ls [])) → W p l e (headSpec wsX0_search ({ frames := 3, cells := 0, slots := 0, locals := 65 } : Room)).room s m [.ref o1, .long x1, .long x2].toArray below meth c H locs 0 0 (MQ below (va_Qv (fun (u : wPS) => u = f_X0_search S o1 x1 x2 ∧ stp [(0, 3), (0, 4), (0, 5), (0, 6), (17, 100)] [] [] S u) (fun u t => WD D cy X A u t) A) [.ref o1, .long x1, .long x2].toArray s 0 0 A) (F0 m 37 ls []) := by
          intro n37
          induction n37 with
          | zero => intro S37_ w37_6 H locs ls hm; exact absurd hm (Nat.not_lt_zero _)
          | succ n37 ih37 =>
            intro S37_ w37_6 H locs ls hm37 hi37 hsh37 hP hD hS hl ko37
            refine lv_iload hx hb dX0_search_37 (lv_at hl 0 rfl) ?_
            refine lv_aload_n hx hb dX0_search_39 rfl (lv_at hl 2 rfl) ?_
            have o25 : isA S37_ o1 0 := (hsh37.x.A ((xe18.tr hsh25.x).A (xe13.A (xe8.A (xe3.A h_o1)))))
            obtain ⟨k24, gk24, hk24⟩ := wGt (cy := cy) X S37_ o25.1 o25.2.1
            have i26 := ((hsh37.w.at o25 List.not_mem_nil).to_0 o25.2.1).R2
            refine va_get (D := D) (ci := 4) (v := .int (S37_.I o1 2)) (C := RX0) (T := TX0) (N := 7) hx hb hts hi_X0_search_X0 hown hK hP k24 hk24 rfl 2 (by decide) (hts (.fieldLink RX0 18 "Hobhouse$Box" "count" "I") (by decide +kernel)) (fun _ h9 => h9) rfl dX0_search_40 ?_
            refine lv_icmp_ge (tgt := 67) hx hb dX0_search_43 (by decide) (fun c27 => ?_) (fun c27 => ?_)
            · have c27i : (S37_.I o1 2).toInt ≤ w37_6.toInt := le_v rfl rfl c27
              exact ko37 S37_ w37_6 _ _ _ (by omega) hsh37 hP hD hS (lv_sub hl [0, 1, 2, 3, 4] rfl) (by rw [f_X0_search_L37_s, if_pos c27])
            · have c27i : w37_6.toInt < (S37_.I o1 2).toInt := nle_v rfl rfl c27
              refine lv_iload hx hb dX0_search_46 (lv_at hl 1 rfl) ?_
              refine lv_iload hx hb dX0_search_48 (lv_at hl 0 rfl) ?_
              refine lv_icmp_eq (tgt := 61) hx hb dX0_search_50 (by decide) (fun c28 => ?_) (fun c28 => ?_)
              · have c28i : w25_5.toInt = w37_6.toInt := eq_v rfl rfl c28
                refine lv_iinc (v := w37_6 + (1 : Int32)) (lv' := [(6, .int (w37_6 + (1 : Int32))), (5, .int w25_5), (0, .ref o1), (1, .long x1), (3, .long x2)]) hx hb dX0_search_61 hl (k := 0) rfl (by rfl) (by decide) rfl (fun ls hl => ?_)
                refine lv_goto (tgt := 37) hx hb dX0_search_64 (by decide) ?_
                have l32_1 : (1 : Int32).toInt = 1 := rfl
                have i29 : (w37_6 + (1 : Int32)).toInt = w37_6.toInt + 1 := t_addr (n := 1) rfl (by omega)
                exact ih37 S37_ (w37_6 + (1 : Int32)) _ _ _ (Nat.lt_of_lt_of_le (by omega) (Nat.le_of_lt_succ hm37)) (by omega) hsh37 hP hD hS (lv_sub hl [0, 1, 2, 3, 4] rfl) (fun S37_y w37_6y H9 locs9 ls9 i9 sh9 P9 D9 S9 l9 hfe => ko37 S37_y w37_6y H9 locs9 ls9 i9 sh9 P9 D9 S9 l9 (Eq.trans (by rw [f_X0_search_L37_s, if_neg c27, if_pos c28]) hfe))
              · have c28i : ¬ w25_5.toInt = w37_6.toInt := neq_v rfl rfl c28
                refine lv_aload_n hx hb dX0_search_53 rfl (lv_at hl 2 rfl) ?_
                refine lv_iload hx hb dX0_search_54 (lv_at hl 1 rfl) ?_
                refine lv_iload hx hb dX0_search_56 (lv_at hl 0 rfl) ?_
                have hFc := free_all hD hS hA
                obtain ⟨k30, gk30, hk30⟩ := wGt (cy := cy) X S37_ o25.1 o25.2.1
                refine va_callv (va_runV (As := [.int w25_5, .int w37_6]) (rest := []) ⟨hx, hb, hml, hown, hts⟩ (c_X0_searchWith_q l (cy := cy) (X := X) (D := D) S37_ _ o1 o25 w25_5 w37_6 (hsh37.w) (by omega) (by omega) (by omega)) (cwV 2 hts gX0_search_X0_searchWith rfl rfl rfl hd_X0_searchWith ⟨Nat.le_of_ble_eq_true rfl, Nat.le_of_ble_eq_true rfl⟩) (pV (va_recv hK hP (q := (RX0, TX0, 7)) (ci := 4) (q0 := k30) rfl hk30) hP hK hD hN) rfl rfl hl.1 rfl (lv_room (Nat.le_of_ble_eq_true rfl)) dX0_search_58 ⟨(Nat.zero_le _), (Nat.zero_le _)⟩) hS (fun q _ h => hFc q h) hFc (fun u t H1 locs ht hvm hw hB hz1 hk1 hS => ?_)
                obtain ⟨c32, w33⟩ := hw
                obtain ⟨hP, hD⟩ := wd_post hFc ht hB
                generalize H1 = H at hP hS ⊢
                obtain ⟨S34, rfl⟩ : ∃ z, z = u := ⟨_, rfl⟩
                have t35 : stp [(0, 3), (0, 4), (0, 5), (0, 6), (17, 100)] [] [] S25_ S34 := hsh37.tr w33 (by decide) (fun _ q => absurd q List.not_mem_nil)
                have xe36 : ext S37_ S34 := w33.x
                have k37 : (S34.I o1 2).toInt = (S37_.I o1 2).toInt := by rw [(w33.fR o1 ((xe3.tr (xe8.tr (xe13.tr (xe18.tr (hsh25.x.tr hsh37.x))))).A h_o1).1 List.not_mem_nil).1 2 (by rw [((xe3.tr (xe8.tr (xe13.tr (xe18.tr (hsh25.x.tr hsh37.x))))).A h_o1).2.1]; decide) |>.1]
                refine lv_iinc (v := w37_6 + (1 : Int32)) (lv' := [(6, .int (w37_6 + (1 : Int32))), (5, .int w25_5), (0, .ref o1), (1, .long x1), (3, .long x2)]) hx hb dX0_search_61 hl (k := 0) rfl (by rfl) (by decide) rfl (fun ls hl => ?_)
                refine lv_goto (tgt := 37) hx hb dX0_search_64 (by decide) ?_
                have l32_1 : (1 : Int32).toInt = 1 := rfl
                have i38 : (w37_6 + (1 : Int32)).toInt = w37_6.toInt + 1 := t_addr (n := 1) rfl (by omega)
                exact ih37 S34 (w37_6 + (1 : Int32)) _ _ _ (Nat.lt_of_lt_of_le (by omega) (Nat.le_of_lt_succ hm37)) (by omega) t35 hP hD hS (lv_sub hl [0, 1, 2, 3, 4] rfl) (fun S37_y w37_6y H9 locs9 ls9 i9 sh9 P9 D9 S9 l9 hfe => ko37 S37_y w37_6y H9 locs9 ls9 i9 sh9 P9 D9 S9 l9 (Eq.trans (by rw [f_X0_search_L37_s, if_neg c27, if_neg c28, l1_eq c32.symm]) hfe))
        refine loop37 21 S25_ (0 : Int32) _ _ _ (by omega) (by omega) (stp.rf hsh25.w) hP hD hS (lv_sub hl [0, 1, 2, 3, 4] rfl) (fun S40 z41 H locs ls hi37 hsh37 hP hD hS hl c39 => ?_)
        have t42 : stp [(0, 3), (0, 4), (0, 5), (0, 6), (17, 100)] [] [] S17 S40 := hsh25.tr hsh37 (fun _ q => q) (fun _ q => Or.inl q)
        have et42 := hsh37.x
        refine lv_iinc (v := w25_5 + (1 : Int32)) (lv' := [(5, .int (w25_5 + (1 : Int32))), (6, .int z41), (0, .ref o1), (1, .long x1), (3, .long x2)]) hx hb dX0_search_67 hl (k := 1) rfl (by rfl) (by decide) rfl (fun ls hl => ?_)
        refine lv_goto (tgt := 25) hx hb dX0_search_70 (by decide) ?_
        have l32_1 : (1 : Int32).toInt = 1 := rfl
        have i43 : (w25_5 + (1 : Int32)).toInt = w25_5.toInt + 1 := t_addr (n := 1) rfl (by omega)
        exact ih25 S40 (w25_5 + (1 : Int32)) _ _ _ (Nat.lt_of_lt_of_le (by omega) (Nat.le_of_lt_succ hm25)) (by omega) t42 hP hD hS (lv_sub hl [0, 2, 3, 4] rfl) (fun S25_y w25_5y H9 locs9 ls9 i9 sh9 P9 D9 S9 l9 hfe => ko25 S25_y w25_5y H9 locs9 ls9 i9 sh9 P9 D9 S9 l9 (Eq.trans (by rw [f_X0_search_L25_s, if_neg c23, l2_eq c39]) hfe))
  refine loop25 21 S17 (0 : Int32) _ _ _ (by omega) (by omega) (stp.rf t19.w) hP hD hS (lv_sub hl [0, 1, 2, 3] rfl) (fun S45 z46 H locs ls hi25 hsh25 hP hD hS hl c44 => ?_)
  have t47 : stp [(0, 3), (0, 4), (0, 5), (0, 6), (17, 100)] [] [] S S45 := t19.tr hsh25 (fun _ q => q) (fun _ q => Or.inl q)
  have et47 := hsh25.x
  refine W.widen (k := 0) (n := 0) (Nat.le_of_ble_eq_true rfl) (Nat.le_of_ble_eq_true rfl) ?_
  exact W.vret hx hb hr (fun t ht hW9 => ⟨⟨S45, rfl, ⟨(by show S45 = f_X0_search S o1 x1 x2; unfold f_X0_search; rw [l1_eq hS2, l1_eq hS7, l1_eq hS12, l1_eq hS17, l2_eq c44]), t47⟩, wd_end hP hK hD ht hW9.alike⟩, hS.F ht⟩) hS.2.2 dX0_search_73 hlocks
set_option maxHeartbeats 4000000 in
set_option maxRecDepth 100000 in
theorem c_X9_wheel_q (l : Launch) (hst : l.stackTraces = false) {D : va_G} {cy : Nat → ClassId} {X : va_W} (S : wPS) (sz : Nat) (o1 : Nat) (h_o1 : isA S o1 9) (x1 : Int32) (hW : wtB S [])  : vx_Met l yX9_wheel wsX9_wheel ({ frames := 7, cells := 2, slots := 12, locals := 104 }) (va_Pc [.ref o1, .int x1] (fun U => U.heap.size = sz ∧ WD D cy X (fun _ => True) S U ∧ NW U ∧ TH (va_A (X ++ PL cy S) sz) U)) (va_Qi (fun r (u : wPS) => f_X9_wheel S o1 x1 = .ok (r, u) ∧ stp [(0, 2), (27, 100)] [] [] S u) (fun u t => WD D cy X (va_A (X ++ PL cy S) sz) u t) (va_A (X ++ PL cy S) sz)) (vx_X (fun (u : wPS) => stp [(0, 2), (27, 100)] [] [] S u) (fun E u t => f_X9_wheel S o1 x1 = .error E ∧ E ∈ ["java/lang/IllegalArgumentException", "java/lang/IllegalStateException"] ∧ u = S ∧ WD D cy X (va_A (X ++ PL cy S) sz) u t) (va_A (X ++ PL cy S) sz)) 2 12 (va_A (X ++ PL cy S) sz) := by
  refine vx_ofW (cc := cX9_wheel) (maxL := 2) (ret := (some .int)) (by decide) rfl ?_
  intro p e s m args below meth c s₁ B hml hno hv
  obtain ⟨rfl, hsz, ⟨hP, hK, hD0⟩, hN, hTH⟩ := hv
  have hx := B.exec
  have hb := B.bytes
  have hr := B.returns
  have hts := atoms_spec (ws := wsX9_wheel) B.pre
  have hown : s.vm.findClass RX9 = some m.cls := findClass_of_methodNamed (x := yX9_wheel) B.named
  have hlocks := B.notSynchronized
  subst hsz
  have hD := hD0.self (sz := s.heap.size)
  generalize hAe : va_A (X ++ PL cy S) s.heap.size = A at hD hTH ⊢
  have hA : ∀ q : Nat, s.heap.size ≤ q → A q := fun q h => by rw [← hAe]; exact Or.inr h
  have hS : va_S A s.heap s.heap [] := va_S.rf
  have hl := lv_entry ([.ref o1, .int x1]) (n := 2) (Nat.le_of_ble_eq_true rfl)
  rw [lg_entry_eq]
  generalize (lg_sl ([.ref o1, .int x1]) ++ List.replicate (2 - (lg_sl ([.ref o1, .int x1])).length) Slot.unset).toArray = ls at hl ⊢
  have hl : lv_has ls 2 [(0, .ref o1), (1, .int x1)] := hl
  have t0 : stp [(0, 2), (27, 100)] [] [] S S := stp.rf hW
  refine lv_iload_n hx hb dX9_wheel_0 rfl (lv_at hl 1 rfl) ?_
  refine lv_bipush (v := 15) hx hb dX9_wheel_1 (by decide +kernel) ?_
  refine lv_bipush (v := 127) hx hb dX9_wheel_3 (by decide +kernel) ?_
  have l32_15 : (15 : Int32).toInt = 15 := rfl
  have l32_127 : (127 : Int32).toInt = 127 := rfl
  have hFc := free_all hD hS hA
  refine vx_callv (vx_runS (As := [.int x1, .int (15 : Int32), .int (127 : Int32)]) (rest := []) ⟨hx, hb, hml, hown, hts⟩ (c_X9_needRange l hst (cy := cy) (X := X) (D := D) S _ x1 (15 : Int32) (127 : Int32)) (cwS 3 hts gX9_wheel_X9_needRange rfl rfl rfl hd_X9_needRange ⟨Nat.le_of_ble_eq_true rfl, Nat.le_of_ble_eq_true rfl⟩) (pSt hP hK hD hN hTH hS hFc) rfl rfl hl.1 rfl (lv_room (Nat.le_of_ble_eq_true rfl)) dX9_wheel_5 ⟨Nat.le_of_ble_eq_true rfl, Nat.le_of_ble_eq_true rfl⟩) hS (fun q _ h => hFc q h) hFc (fun q _ h => hFc q h) (fun E ce q9 u t H1 locs ht hvm hw hB hz1 hk1 hS hq9 hce hcl => ?_) (fun u t H1 locs ht hvm hw hB hz1 hk1 hS => ?_)
  · obtain ⟨c2, hEc2, hB2⟩ := hB
    obtain ⟨hP, hD⟩ := wd_post hFc ht hB2
    exact vx_out (fun x h => (hno x h).elim) hlocks hq9 hce hcl (fun t2 ht2 hA2 => ⟨S, t0, ⟨(by show f_X9_wheel S o1 x1 = .error E; unfold f_X9_wheel; rw [eB_er c2]), (el_in (by decide) hEc2), rfl, wd_end hP hK hD ht2 hA2⟩, hS.F ht2⟩) hS.2.2 (Nat.le_of_ble_eq_true rfl) (Nat.le_of_ble_eq_true rfl)
  · have c3 := hw
    obtain ⟨hP, hD⟩ := wd_post hFc ht hB
    generalize H1 = H at hP hS ⊢
    have i4 := nr_i c3
    have i4l := i4.1
    have i4h := i4.2
    have l5 : (15 : Int32).toInt = 15 := rfl
    have l6 : (127 : Int32).toInt = 127 := rfl
    refine lv_aload_n hx hb dX9_wheel_8 rfl (lv_at hl 0 rfl) ?_
    have F7 := ((hW.at h_o1 List.not_mem_nil).to_9 h_o1.2.1).F6
    obtain ⟨k8, gk8, hk8⟩ := wGt (cy := cy) X S h_o1.1 h_o1.2.1
    simp only [kE, F7.1] at hk8
    refine va_get (D := D) (ci := 13) (v := .ref (S.f o1 6)) (C := RX9) (T := TX9) (N := 11) hx hb hts hi_X9_wheel_X9 hown hK hP k8 hk8 rfl 6 (by decide) (hts (.fieldLink RX9 30 "Hobhouse" "box" "LHobhouse$Box;") (by decide +kernel)) (fun _ h9 => h9) rfl dX9_wheel_9 ?_
    have hFc := free_all hD hS hA
    obtain ⟨k9, gk9, hk9⟩ := wGt (cy := cy) X S F7.2.1 F7.2.2.1
    refine va_calli (va_runV (As := []) (rest := []) ⟨hx, hb, hml, hown, hts⟩ (c_X0_isFull l (cy := cy) (X := X) (D := D) S _ (S.f o1 6) F7.2) (cwV 0 hts gX9_wheel_X0_isFull rfl rfl rfl hd_X0_isFull ⟨Nat.le_of_ble_eq_true rfl, Nat.le_of_ble_eq_true rfl⟩) (pV (va_recv hK hP (q := (RX0, TX0, 7)) (ci := 4) (q0 := k9) rfl hk9) hP hK hD hN) rfl rfl hl.1 rfl (lv_room (Nat.le_of_ble_eq_true rfl)) dX9_wheel_12 ⟨Nat.le_of_ble_eq_true rfl, Nat.le_of_ble_eq_true rfl⟩) hS (fun q _ h => hFc q h) hFc (fun r10 u t H1 locs ht hvm hw hB hz1 hk1 hS => ?_)
    have c11 := hw
    obtain ⟨hP, hD⟩ := wd_post hFc ht hB
    generalize H1 = H at hP hS ⊢
    obtain rfl : f_X0_isFull S (S.f o1 6) = r10 := c11.symm
    refine lv_if_eq (tgt := 28) hx hb dX9_wheel_15 (by decide) (fun c12 => ?_) (fun c12 => ?_)
    · have c12i : (f_X0_isFull S (S.f o1 6)).toInt = 0 := eq_v rfl rfl c12
      have hfull := full_i c12
      refine lv_aload_n hx hb dX9_wheel_28 rfl (lv_at hl 0 rfl) ?_
      obtain ⟨k13, gk13, hk13⟩ := wGt (cy := cy) X S h_o1.1 h_o1.2.1
      simp only [kE, F7.1] at hk13
      refine va_get (D := D) (ci := 13) (v := .ref (S.f o1 6)) (C := RX9) (T := TX9) (N := 11) hx hb hts hi_X9_wheel_X9 hown hK hP k13 hk13 rfl 6 (by decide) (hts (.fieldLink RX9 30 "Hobhouse" "box" "LHobhouse$Box;") (by decide +kernel)) (fun _ h9 => h9) rfl dX9_wheel_29 ?_
      refine lv_iload_n hx hb dX9_wheel_32 rfl (lv_at hl 1 rfl) ?_
      have hFc := free_all hD hS hA
      obtain ⟨k14, gk14, hk14⟩ := wGt (cy := cy) X S F7.2.1 F7.2.2.1
      refine va_calli (va_runV (As := [.int x1]) (rest := []) ⟨hx, hb, hml, hown, hts⟩ (c_X0_put l (cy := cy) (X := X) (D := D) S _ (S.f o1 6) F7.2 x1 (hW) (by omega)) (cwV 1 hts gX9_wheel_X0_put rfl rfl rfl hd_X0_put ⟨Nat.le_of_ble_eq_true rfl, Nat.le_of_ble_eq_true rfl⟩) (pV (va_recv hK hP (q := (RX0, TX0, 7)) (ci := 4) (q0 := k14) rfl hk14) hP hK hD hN) rfl rfl hl.1 rfl (lv_room (Nat.le_of_ble_eq_true rfl)) dX9_wheel_33 ⟨Nat.le_of_ble_eq_true rfl, Nat.le_of_ble_eq_true rfl⟩) hS (fun q _ h => hFc q h) hFc (fun r15 u t H1 locs ht hvm hw hB hz1 hk1 hS => ?_)
      obtain ⟨c16, w17, y18, y19⟩ := hw
      obtain ⟨hP, hD⟩ := wd_post hFc ht hB
      generalize H1 = H at hP hS ⊢
      obtain ⟨S20, rfl⟩ : ∃ z, z = u := ⟨_, rfl⟩
      have t21 : stp [(0, 2), (27, 100)] [] [] S S20 := t0.tr w17 (by decide) (fun _ q => absurd q List.not_mem_nil)
      have xe22 : ext S S20 := w17.x
      refine vx_ret ?_
      refine W.widen (k := 2) (n := 12) (Nat.le_of_ble_eq_true rfl) (Nat.le_of_ble_eq_true rfl) ?_
      exact W.iret (v := r15) hx hb hr (fun t ht hW9 => ⟨⟨r15, S20, rfl, ⟨(by show f_X9_wheel S o1 x1 = .ok (r15, S20); unfold f_X9_wheel; rw [eB_ok c3, if_pos c12, l2_eq c16.symm]), t21⟩, wd_end hP hK hD ht hW9.alike⟩, hS.F ht⟩) hS.2.2 dX9_wheel_36 hlocks
    · have c12i : ¬ (f_X0_isFull S (S.f o1 6)).toInt = 0 := neq_v rfl rfl c12
      obtain ⟨sa, hsa⟩ := hTH.2.2 (RX9, 230, "the box has 16 wheels") (by decide +kernel)
      exact vx_throwS hx hb hst (names := ["java/lang/RuntimeException", "java/lang/Exception"]) hown (by decide +kernel) (by decide +kernel) (hts (.classLink RX9 67 "java/lang/IllegalStateException") (by decide +kernel)) (hts (.initialized "java/lang/IllegalStateException") (by decide +kernel)) hsa (th_at (B := exW_X9_ISE) (fun w h => hts w (s_X9_wheel_ISE w h)) rfl (by simp only [exW, List.mem_append]; intro w h; simp [h]) hTH.2.1) (List.forall_mem_cons.mpr ⟨by decide +kernel, List.forall_mem_cons.mpr ⟨by decide +kernel, exW_X9_ISE_ok⟩⟩) hTH.1.1 hTH.1.2 hS (hl.1.trans hml.symm) dX9_wheel_18 dX9_wheel_21 dX9_wheel_22 dX9_wheel_24 dX9_wheel_27 (fun x h => (hno x h).elim) (Nat.le_of_ble_eq_true rfl) (Nat.le_of_ble_eq_true rfl) (Nat.le_of_ble_eq_true rfl) (Nat.le_of_ble_eq_true rfl) hlocks (fun t hA2 h1 h2 => ⟨S, t0, ⟨(by show f_X9_wheel S o1 x1 = .error "java/lang/IllegalStateException"; unfold f_X9_wheel; rw [eB_ok c3, if_neg c12]), (by decide), rfl, wd_exc hP hK hD hA2 h2⟩, exc_F hS h1 h2⟩) hS.2.2 (Nat.le_of_ble_eq_true rfl) (Nat.le_of_ble_eq_true rfl)
def f_X9_change (S : wPS) (o1 : Nat) (x1 : Int32) (x2 : Int32) (x3 : Int32) : Except String (Int32 × wPS) := eB (f_X9_needRatio x1 x2) (fun _ => eB (f_X9_needRange x3 (0 : Int32) (3 : Int32)) (fun _ => eB (f_X9_needFourWheels S o1) (fun _ => l1 (f_X0_search S (S.f o1 6) x1.toInt64 x2.toInt64) (fun S21 => .ok (f_X0_bestWheel S21 (S.f o1 6) x3, S21)))))
set_option maxHeartbeats 4000000 in
set_option maxRecDepth 100000 in
theorem c_X9_change_q (l : Launch) (hst : l.stackTraces = false) {D : va_G} {cy : Nat → ClassId} {X : va_W} (S : wPS) (sz : Nat) (o1 : Nat) (h_o1 : isA S o1 9) (x1 : Int32) (x2 : Int32) (x3 : Int32) (hW : wtB S [])  : vx_Met l yX9_change wsX9_change ({ frames := 8, cells := 4, slots := 24, locals := 125 }) (va_Pc [.ref o1, .int x1, .int x2, .int x3] (fun U => U.heap.size = sz ∧ WD D cy X (fun _ => True) S U ∧ NW U ∧ TH (va_A (X ++ PL cy S) sz) U)) (va_Qi (fun r (u : wPS) => f_X9_change S o1 x1 x2 x3 = .ok (r, u) ∧ stp [(0, 3), (0, 4), (0, 5), (0, 6), (17, 100)] [] [] S u) (fun u t => WD D cy X (va_A (X ++ PL cy S) sz) u t) (va_A (X ++ PL cy S) sz)) (vx_X (fun (u : wPS) => stp [(0, 3), (0, 4), (0, 5), (0, 6), (17, 100)] [] [] S u) (fun E u t => f_X9_change S o1 x1 x2 x3 = .error E ∧ E ∈ ["java/lang/IllegalArgumentException", "java/util/NoSuchElementException"] ∧ u = S ∧ WD D cy X (va_A (X ++ PL cy S) sz) u t) (va_A (X ++ PL cy S) sz)) 4 24 (va_A (X ++ PL cy S) sz) := by
  refine vx_ofW (cc := cX9_change) (maxL := 4) (ret := (some .int)) (by decide) rfl ?_
  intro p e s m args below meth c s₁ B hml hno hv
  obtain ⟨rfl, hsz, ⟨hP, hK, hD0⟩, hN, hTH⟩ := hv
  have hx := B.exec
  have hb := B.bytes
  have hr := B.returns
  have hts := atoms_spec (ws := wsX9_change) B.pre
  have hown : s.vm.findClass RX9 = some m.cls := findClass_of_methodNamed (x := yX9_change) B.named
  have hlocks := B.notSynchronized
  subst hsz
  have hD := hD0.self (sz := s.heap.size)
  generalize hAe : va_A (X ++ PL cy S) s.heap.size = A at hD hTH ⊢
  have hA : ∀ q : Nat, s.heap.size ≤ q → A q := fun q h => by rw [← hAe]; exact Or.inr h
  have hS : va_S A s.heap s.heap [] := va_S.rf
  have hl := lv_entry ([.ref o1, .int x1, .int x2, .int x3]) (n := 4) (Nat.le_of_ble_eq_true rfl)
  rw [lg_entry_eq]
  generalize (lg_sl ([.ref o1, .int x1, .int x2, .int x3]) ++ List.replicate (4 - (lg_sl ([.ref o1, .int x1, .int x2, .int x3])).length) Slot.unset).toArray = ls at hl ⊢
  have hl : lv_has ls 4 [(0, .ref o1), (1, .int x1), (2, .int x2), (3, .int x3)] := hl
  have t0 : stp [(0, 3), (0, 4), (0, 5), (0, 6), (17, 100)] [] [] S S := stp.rf hW
  refine lv_iload_n hx hb dX9_change_0 rfl (lv_at hl 1 rfl) ?_
  refine lv_iload_n hx hb dX9_change_1 rfl (lv_at hl 2 rfl) ?_
  have hFc := free_all hD hS hA
  refine vx_callv (vx_runS (As := [.int x1, .int x2]) (rest := []) ⟨hx, hb, hml, hown, hts⟩ (c_X9_needRatio l hst (cy := cy) (X := X) (D := D) S _ x1 x2) (cwS 2 hts gX9_change_X9_needRatio rfl rfl rfl hd_X9_needRatio ⟨Nat.le_of_ble_eq_true rfl, Nat.le_of_ble_eq_true rfl⟩) (pSt hP hK hD hN hTH hS hFc) rfl rfl hl.1 rfl (lv_room (Nat.le_of_ble_eq_true rfl)) dX9_change_2 ⟨Nat.le_of_ble_eq_true rfl, Nat.le_of_ble_eq_true rfl⟩) hS (fun q _ h => hFc q h) hFc (fun q _ h => hFc q h) (fun E ce q9 u t H1 locs ht hvm hw hB hz1 hk1 hS hq9 hce hcl => ?_) (fun u t H1 locs ht hvm hw hB hz1 hk1 hS => ?_)
  · obtain ⟨c2, hEc2, hB2⟩ := hB
    obtain ⟨hP, hD⟩ := wd_post hFc ht hB2
    exact vx_out (fun x h => (hno x h).elim) hlocks hq9 hce hcl (fun t2 ht2 hA2 => ⟨S, t0, ⟨(by show f_X9_change S o1 x1 x2 x3 = .error E; unfold f_X9_change; rw [eB_er c2]), (el_in (by decide) hEc2), rfl, wd_end hP hK hD ht2 hA2⟩, hS.F ht2⟩) hS.2.2 (Nat.le_of_ble_eq_true rfl) (Nat.le_of_ble_eq_true rfl)
  · have c3 := hw
    obtain ⟨hP, hD⟩ := wd_post hFc ht hB
    generalize H1 = H at hP hS ⊢
    have i4 := nq_i c3
    refine lv_iload_n hx hb dX9_change_5 rfl (lv_at hl 3 rfl) ?_
    refine lv_iconst (v := 0) hx hb dX9_change_6 (by decide) ?_
    refine lv_iconst (v := 3) hx hb dX9_change_7 (by decide) ?_
    have l32_0 : (0 : Int32).toInt = 0 := rfl
    have l32_3 : (3 : Int32).toInt = 3 := rfl
    have hFc := free_all hD hS hA
    refine vx_callv (vx_runS (As := [.int x3, .int (0 : Int32), .int (3 : Int32)]) (rest := []) ⟨hx, hb, hml, hown, hts⟩ (c_X9_needRange l hst (cy := cy) (X := X) (D := D) S _ x3 (0 : Int32) (3 : Int32)) (cwS 3 hts gX9_change_X9_needRange rfl rfl rfl hd_X9_needRange ⟨Nat.le_of_ble_eq_true rfl, Nat.le_of_ble_eq_true rfl⟩) (pSt hP hK hD hN hTH hS hFc) rfl rfl hl.1 rfl (lv_room (Nat.le_of_ble_eq_true rfl)) dX9_change_8 ⟨Nat.le_of_ble_eq_true rfl, Nat.le_of_ble_eq_true rfl⟩) hS (fun q _ h => hFc q h) hFc (fun q _ h => hFc q h) (fun E ce q9 u t H1 locs ht hvm hw hB hz1 hk1 hS hq9 hce hcl => ?_) (fun u t H1 locs ht hvm hw hB hz1 hk1 hS => ?_)
    · obtain ⟨c6, hEc6, hB2⟩ := hB
      obtain ⟨hP, hD⟩ := wd_post hFc ht hB2
      exact vx_out (fun x h => (hno x h).elim) hlocks hq9 hce hcl (fun t2 ht2 hA2 => ⟨S, t0, ⟨(by show f_X9_change S o1 x1 x2 x3 = .error E; unfold f_X9_change; rw [eB_ok c3, eB_er c6]), (el_in (by decide) hEc6), rfl, wd_end hP hK hD ht2 hA2⟩, hS.F ht2⟩) hS.2.2 (Nat.le_of_ble_eq_true rfl) (Nat.le_of_ble_eq_true rfl)
    · have c7 := hw
      obtain ⟨hP, hD⟩ := wd_post hFc ht hB
      generalize H1 = H at hP hS ⊢
      have i8 := nr_i c7
      have i8l := i8.1
      have i8h := i8.2
      have l9 : (0 : Int32).toInt = 0 := rfl
      have l10 : (3 : Int32).toInt = 3 := rfl
      refine lv_aload_n hx hb dX9_change_11 rfl (lv_at hl 0 rfl) ?_
      have hFc := free_all hD hS hA
      obtain ⟨k11, gk11, hk11⟩ := wGt (cy := cy) X S h_o1.1 h_o1.2.1
      refine vx_callv (vx_runV (As := []) (rest := []) ⟨hx, hb, hml, hown, hts⟩ (c_X9_needFourWheels l hst (cy := cy) (X := X) (D := D) S _ o1 h_o1 (hW)) (cwV 0 hts gX9_change_X9_needFourWheels rfl rfl rfl hd_X9_needFourWheels ⟨Nat.le_of_ble_eq_true rfl, Nat.le_of_ble_eq_true rfl⟩) (pVt (va_recv hK hP (q := (RX9, TX9, 11)) (ci := 13) (q0 := k11) rfl hk11) hP hK hD hN hTH hS hFc) rfl rfl hl.1 rfl (lv_room (Nat.le_of_ble_eq_true rfl)) dX9_change_12 ⟨Nat.le_of_ble_eq_true rfl, Nat.le_of_ble_eq_true rfl⟩) hS (fun q _ h => hFc q h) hFc (fun q _ h => hFc q h) (fun E ce q9 u t H1 locs ht hvm hw hB hz1 hk1 hS hq9 hce hcl => ?_) (fun u t H1 locs ht hvm hw hB hz1 hk1 hS => ?_)
      · obtain ⟨c13, hEc13, hB2⟩ := hB
        obtain ⟨hP, hD⟩ := wd_post hFc ht hB2
        exact vx_out (fun x h => (hno x h).elim) hlocks hq9 hce hcl (fun t2 ht2 hA2 => ⟨S, t0, ⟨(by show f_X9_change S o1 x1 x2 x3 = .error E; unfold f_X9_change; rw [eB_ok c3, eB_ok c7, eB_er c13]), (el_in (by decide) hEc13), rfl, wd_end hP hK hD ht2 hA2⟩, hS.F ht2⟩) hS.2.2 (Nat.le_of_ble_eq_true rfl) (Nat.le_of_ble_eq_true rfl)
      · have c14 := hw
        obtain ⟨hP, hD⟩ := wd_post hFc ht hB
        generalize H1 = H at hP hS ⊢
        refine lv_aload_n hx hb dX9_change_15 rfl (lv_at hl 0 rfl) ?_
        have F15 := ((hW.at h_o1 List.not_mem_nil).to_9 h_o1.2.1).F6
        obtain ⟨k16, gk16, hk16⟩ := wGt (cy := cy) X S h_o1.1 h_o1.2.1
        simp only [kE, F15.1] at hk16
        refine va_get (D := D) (ci := 13) (v := .ref (S.f o1 6)) (C := RX9) (T := TX9) (N := 11) hx hb hts hi_X9_change_X9 hown hK hP k16 hk16 rfl 6 (by decide) (hts (.fieldLink RX9 30 "Hobhouse" "box" "LHobhouse$Box;") (by decide +kernel)) (fun _ h9 => h9) rfl dX9_change_16 ?_
        refine lv_iload_n hx hb dX9_change_19 rfl (lv_at hl 1 rfl) ?_
        refine lv_i2l hx hb dX9_change_20 rfl ?_
        refine lv_iload_n hx hb dX9_change_21 rfl (lv_at hl 2 rfl) ?_
        refine lv_i2l hx hb dX9_change_22 rfl ?_
        have hFc := free_all hD hS hA
        obtain ⟨k17, gk17, hk17⟩ := wGt (cy := cy) X S F15.2.1 F15.2.2.1
        refine va_callv (va_runV (As := [.long x1.toInt64, .long x2.toInt64]) (rest := []) ⟨hx, hb, hml, hown, hts⟩ (c_X0_search_q l (cy := cy) (X := X) (D := D) S _ (S.f o1 6) F15.2 x1.toInt64 x2.toInt64 (hW)) (cwV 2 hts gX9_change_X0_search rfl rfl rfl hd_X0_search ⟨Nat.le_of_ble_eq_true rfl, Nat.le_of_ble_eq_true rfl⟩) (pV (va_recv hK hP (q := (RX0, TX0, 7)) (ci := 4) (q0 := k17) rfl hk17) hP hK hD hN) rfl rfl hl.1 rfl (lv_room (Nat.le_of_ble_eq_true rfl)) dX9_change_23 ⟨Nat.le_of_ble_eq_true rfl, Nat.le_of_ble_eq_true rfl⟩) hS (fun q _ h => hFc q h) hFc (fun u t H1 locs ht hvm hw hB hz1 hk1 hS => ?_)
        obtain ⟨c19, w20⟩ := hw
        obtain ⟨hP, hD⟩ := wd_post hFc ht hB
        generalize H1 = H at hP hS ⊢
        obtain ⟨S21, rfl⟩ : ∃ z, z = u := ⟨_, rfl⟩
        have t22 : stp [(0, 3), (0, 4), (0, 5), (0, 6), (17, 100)] [] [] S S21 := t0.tr w20 (by decide) (fun _ q => absurd q List.not_mem_nil)
        have xe23 : ext S S21 := w20.x
        refine lv_aload_n hx hb dX9_change_26 rfl (lv_at hl 0 rfl) ?_
        obtain ⟨k24, gk24, hk24⟩ := wGt (cy := cy) X S21 (xe23.A h_o1).1 (xe23.A h_o1).2.1
        simp only [kE, (xe23.F h_o1 (by decide) F15.1)] at hk24
        refine va_get (D := D) (ci := 13) (v := .ref (S.f o1 6)) (C := RX9) (T := TX9) (N := 11) hx hb hts hi_X9_change_X9 hown hK hP k24 hk24 rfl 6 (by decide) (hts (.fieldLink RX9 30 "Hobhouse" "box" "LHobhouse$Box;") (by decide +kernel)) (fun _ h9 => h9) rfl dX9_change_27 ?_
        refine lv_iload_n hx hb dX9_change_30 rfl (lv_at hl 3 rfl) ?_
        have hFc := free_all hD hS hA
        obtain ⟨k25, gk25, hk25⟩ := wGt (cy := cy) X S21 (xe23.A F15.2).1 (xe23.A F15.2).2.1
        refine va_calli (va_runV (As := [.int x3]) (rest := []) ⟨hx, hb, hml, hown, hts⟩ (c_X0_bestWheel l (cy := cy) (X := X) (D := D) S21 _ (S.f o1 6) (xe23.A F15.2) x3 (t22.w)) (cwV 1 hts gX9_change_X0_bestWheel rfl rfl rfl hd_X0_bestWheel ⟨Nat.le_of_ble_eq_true rfl, Nat.le_of_ble_eq_true rfl⟩) (pV (va_recv hK hP (q := (RX0, TX0, 7)) (ci := 4) (q0 := k25) rfl hk25) hP hK hD hN) rfl rfl hl.1 rfl (lv_room (Nat.le_of_ble_eq_true rfl)) dX9_change_31 ⟨Nat.le_of_ble_eq_true rfl, Nat.le_of_ble_eq_true rfl⟩) hS (fun q _ h => hFc q h) hFc (fun r26 u t H1 locs ht hvm hw hB hz1 hk1 hS => ?_)
        have c27 := hw
        obtain ⟨hP, hD⟩ := wd_post hFc ht hB
        generalize H1 = H at hP hS ⊢
        obtain rfl : f_X0_bestWheel S21 (S.f o1 6) x3 = r26 := c27.symm
        refine vx_ret ?_
        refine W.widen (k := 4) (n := 24) (Nat.le_of_ble_eq_true rfl) (Nat.le_of_ble_eq_true rfl) ?_
        exact W.iret (v := f_X0_bestWheel S21 (S.f o1 6) x3) hx hb hr (fun t ht hW9 => ⟨⟨f_X0_bestWheel S21 (S.f o1 6) x3, S21, rfl, ⟨(by show f_X9_change S o1 x1 x2 x3 = .ok (f_X0_bestWheel S21 (S.f o1 6) x3, S21); unfold f_X9_change; rw [eB_ok c3, eB_ok c7, eB_ok c14, l1_eq c19.symm]), t22⟩, wd_end hP hK hD ht hW9.alike⟩, hS.F ht⟩) hS.2.2 dX9_change_34 hlocks
def f_X9_meets (S : wPS) (o1 : Nat) (x1 : Int32) (x2 : Int32) (x3 : Int32) : Except String (Int32 × wPS) := eB (f_X9_needRatio x1 x2) (fun _ => eB (f_X9_needRange x3 (0 : Int32) (999999 : Int32)) (fun _ => eB (f_X9_needFourWheels S o1) (fun _ => l1 (f_X0_search S (S.f o1 6) x1.toInt64 x2.toInt64) (fun S21 => .ok (f_X0_isMet S21 (S.f o1 6) x3, S21)))))
set_option maxHeartbeats 4000000 in
set_option maxRecDepth 100000 in
theorem c_X9_meets_q (l : Launch) (hst : l.stackTraces = false) {D : va_G} {cy : Nat → ClassId} {X : va_W} (S : wPS) (sz : Nat) (o1 : Nat) (h_o1 : isA S o1 9) (x1 : Int32) (x2 : Int32) (x3 : Int32) (hW : wtB S [])  : vx_Met l yX9_meets wsX9_meets ({ frames := 8, cells := 4, slots := 24, locals := 125 }) (va_Pc [.ref o1, .int x1, .int x2, .int x3] (fun U => U.heap.size = sz ∧ WD D cy X (fun _ => True) S U ∧ NW U ∧ TH (va_A (X ++ PL cy S) sz) U)) (va_Qi (fun r (u : wPS) => f_X9_meets S o1 x1 x2 x3 = .ok (r, u) ∧ stp [(0, 3), (0, 4), (0, 5), (0, 6), (17, 100)] [] [] S u) (fun u t => WD D cy X (va_A (X ++ PL cy S) sz) u t) (va_A (X ++ PL cy S) sz)) (vx_X (fun (u : wPS) => stp [(0, 3), (0, 4), (0, 5), (0, 6), (17, 100)] [] [] S u) (fun E u t => f_X9_meets S o1 x1 x2 x3 = .error E ∧ E ∈ ["java/lang/IllegalArgumentException", "java/util/NoSuchElementException"] ∧ u = S ∧ WD D cy X (va_A (X ++ PL cy S) sz) u t) (va_A (X ++ PL cy S) sz)) 4 24 (va_A (X ++ PL cy S) sz) := by
  refine vx_ofW (cc := cX9_meets) (maxL := 4) (ret := (some .boolean)) (by decide) rfl ?_
  intro p e s m args below meth c s₁ B hml hno hv
  obtain ⟨rfl, hsz, ⟨hP, hK, hD0⟩, hN, hTH⟩ := hv
  have hx := B.exec
  have hb := B.bytes
  have hr := B.returns
  have hts := atoms_spec (ws := wsX9_meets) B.pre
  have hown : s.vm.findClass RX9 = some m.cls := findClass_of_methodNamed (x := yX9_meets) B.named
  have hlocks := B.notSynchronized
  subst hsz
  have hD := hD0.self (sz := s.heap.size)
  generalize hAe : va_A (X ++ PL cy S) s.heap.size = A at hD hTH ⊢
  have hA : ∀ q : Nat, s.heap.size ≤ q → A q := fun q h => by rw [← hAe]; exact Or.inr h
  have hS : va_S A s.heap s.heap [] := va_S.rf
  have hl := lv_entry ([.ref o1, .int x1, .int x2, .int x3]) (n := 4) (Nat.le_of_ble_eq_true rfl)
  rw [lg_entry_eq]
  generalize (lg_sl ([.ref o1, .int x1, .int x2, .int x3]) ++ List.replicate (4 - (lg_sl ([.ref o1, .int x1, .int x2, .int x3])).length) Slot.unset).toArray = ls at hl ⊢
  have hl : lv_has ls 4 [(0, .ref o1), (1, .int x1), (2, .int x2), (3, .int x3)] := hl
  have t0 : stp [(0, 3), (0, 4), (0, 5), (0, 6), (17, 100)] [] [] S S := stp.rf hW
  refine lv_iload_n hx hb dX9_meets_0 rfl (lv_at hl 1 rfl) ?_
  refine lv_iload_n hx hb dX9_meets_1 rfl (lv_at hl 2 rfl) ?_
  have hFc := free_all hD hS hA
  refine vx_callv (vx_runS (As := [.int x1, .int x2]) (rest := []) ⟨hx, hb, hml, hown, hts⟩ (c_X9_needRatio l hst (cy := cy) (X := X) (D := D) S _ x1 x2) (cwS 2 hts gX9_meets_X9_needRatio rfl rfl rfl hd_X9_needRatio ⟨Nat.le_of_ble_eq_true rfl, Nat.le_of_ble_eq_true rfl⟩) (pSt hP hK hD hN hTH hS hFc) rfl rfl hl.1 rfl (lv_room (Nat.le_of_ble_eq_true rfl)) dX9_meets_2 ⟨Nat.le_of_ble_eq_true rfl, Nat.le_of_ble_eq_true rfl⟩) hS (fun q _ h => hFc q h) hFc (fun q _ h => hFc q h) (fun E ce q9 u t H1 locs ht hvm hw hB hz1 hk1 hS hq9 hce hcl => ?_) (fun u t H1 locs ht hvm hw hB hz1 hk1 hS => ?_)
  · obtain ⟨c2, hEc2, hB2⟩ := hB
    obtain ⟨hP, hD⟩ := wd_post hFc ht hB2
    exact vx_out (fun x h => (hno x h).elim) hlocks hq9 hce hcl (fun t2 ht2 hA2 => ⟨S, t0, ⟨(by show f_X9_meets S o1 x1 x2 x3 = .error E; unfold f_X9_meets; rw [eB_er c2]), (el_in (by decide) hEc2), rfl, wd_end hP hK hD ht2 hA2⟩, hS.F ht2⟩) hS.2.2 (Nat.le_of_ble_eq_true rfl) (Nat.le_of_ble_eq_true rfl)
  · have c3 := hw
    obtain ⟨hP, hD⟩ := wd_post hFc ht hB
    generalize H1 = H at hP hS ⊢
    have i4 := nq_i c3
    refine lv_iload_n hx hb dX9_meets_5 rfl (lv_at hl 3 rfl) ?_
    refine lv_iconst (v := 0) hx hb dX9_meets_6 (by decide) ?_
    refine lv_ldc (own := RX9) (v := 999999) hx hb hown (hts (.constant RX9 244 (999999)) (by decide +kernel)) dX9_meets_7 ?_
    have l32_0 : (0 : Int32).toInt = 0 := rfl
    have l32_999999 : (999999 : Int32).toInt = 999999 := rfl
    have hFc := free_all hD hS hA
    refine vx_callv (vx_runS (As := [.int x3, .int (0 : Int32), .int (999999 : Int32)]) (rest := []) ⟨hx, hb, hml, hown, hts⟩ (c_X9_needRange l hst (cy := cy) (X := X) (D := D) S _ x3 (0 : Int32) (999999 : Int32)) (cwS 3 hts gX9_meets_X9_needRange rfl rfl rfl hd_X9_needRange ⟨Nat.le_of_ble_eq_true rfl, Nat.le_of_ble_eq_true rfl⟩) (pSt hP hK hD hN hTH hS hFc) rfl rfl hl.1 rfl (lv_room (Nat.le_of_ble_eq_true rfl)) dX9_meets_9 ⟨Nat.le_of_ble_eq_true rfl, Nat.le_of_ble_eq_true rfl⟩) hS (fun q _ h => hFc q h) hFc (fun q _ h => hFc q h) (fun E ce q9 u t H1 locs ht hvm hw hB hz1 hk1 hS hq9 hce hcl => ?_) (fun u t H1 locs ht hvm hw hB hz1 hk1 hS => ?_)
    · obtain ⟨c6, hEc6, hB2⟩ := hB
      obtain ⟨hP, hD⟩ := wd_post hFc ht hB2
      exact vx_out (fun x h => (hno x h).elim) hlocks hq9 hce hcl (fun t2 ht2 hA2 => ⟨S, t0, ⟨(by show f_X9_meets S o1 x1 x2 x3 = .error E; unfold f_X9_meets; rw [eB_ok c3, eB_er c6]), (el_in (by decide) hEc6), rfl, wd_end hP hK hD ht2 hA2⟩, hS.F ht2⟩) hS.2.2 (Nat.le_of_ble_eq_true rfl) (Nat.le_of_ble_eq_true rfl)
    · have c7 := hw
      obtain ⟨hP, hD⟩ := wd_post hFc ht hB
      generalize H1 = H at hP hS ⊢
      have i8 := nr_i c7
      have i8l := i8.1
      have i8h := i8.2
      have l9 : (0 : Int32).toInt = 0 := rfl
      have l10 : (999999 : Int32).toInt = 999999 := rfl
      refine lv_aload_n hx hb dX9_meets_12 rfl (lv_at hl 0 rfl) ?_
      have hFc := free_all hD hS hA
      obtain ⟨k11, gk11, hk11⟩ := wGt (cy := cy) X S h_o1.1 h_o1.2.1
      refine vx_callv (vx_runV (As := []) (rest := []) ⟨hx, hb, hml, hown, hts⟩ (c_X9_needFourWheels l hst (cy := cy) (X := X) (D := D) S _ o1 h_o1 (hW)) (cwV 0 hts gX9_meets_X9_needFourWheels rfl rfl rfl hd_X9_needFourWheels ⟨Nat.le_of_ble_eq_true rfl, Nat.le_of_ble_eq_true rfl⟩) (pVt (va_recv hK hP (q := (RX9, TX9, 11)) (ci := 13) (q0 := k11) rfl hk11) hP hK hD hN hTH hS hFc) rfl rfl hl.1 rfl (lv_room (Nat.le_of_ble_eq_true rfl)) dX9_meets_13 ⟨Nat.le_of_ble_eq_true rfl, Nat.le_of_ble_eq_true rfl⟩) hS (fun q _ h => hFc q h) hFc (fun q _ h => hFc q h) (fun E ce q9 u t H1 locs ht hvm hw hB hz1 hk1 hS hq9 hce hcl => ?_) (fun u t H1 locs ht hvm hw hB hz1 hk1 hS => ?_)
      · obtain ⟨c13, hEc13, hB2⟩ := hB
        obtain ⟨hP, hD⟩ := wd_post hFc ht hB2
        exact vx_out (fun x h => (hno x h).elim) hlocks hq9 hce hcl (fun t2 ht2 hA2 => ⟨S, t0, ⟨(by show f_X9_meets S o1 x1 x2 x3 = .error E; unfold f_X9_meets; rw [eB_ok c3, eB_ok c7, eB_er c13]), (el_in (by decide) hEc13), rfl, wd_end hP hK hD ht2 hA2⟩, hS.F ht2⟩) hS.2.2 (Nat.le_of_ble_eq_true rfl) (Nat.le_of_ble_eq_true rfl)
      · have c14 := hw
        obtain ⟨hP, hD⟩ := wd_post hFc ht hB
        generalize H1 = H at hP hS ⊢
        refine lv_aload_n hx hb dX9_meets_16 rfl (lv_at hl 0 rfl) ?_
        have F15 := ((hW.at h_o1 List.not_mem_nil).to_9 h_o1.2.1).F6
        obtain ⟨k16, gk16, hk16⟩ := wGt (cy := cy) X S h_o1.1 h_o1.2.1
        simp only [kE, F15.1] at hk16
        refine va_get (D := D) (ci := 13) (v := .ref (S.f o1 6)) (C := RX9) (T := TX9) (N := 11) hx hb hts hi_X9_meets_X9 hown hK hP k16 hk16 rfl 6 (by decide) (hts (.fieldLink RX9 30 "Hobhouse" "box" "LHobhouse$Box;") (by decide +kernel)) (fun _ h9 => h9) rfl dX9_meets_17 ?_
        refine lv_iload_n hx hb dX9_meets_20 rfl (lv_at hl 1 rfl) ?_
        refine lv_i2l hx hb dX9_meets_21 rfl ?_
        refine lv_iload_n hx hb dX9_meets_22 rfl (lv_at hl 2 rfl) ?_
        refine lv_i2l hx hb dX9_meets_23 rfl ?_
        have hFc := free_all hD hS hA
        obtain ⟨k17, gk17, hk17⟩ := wGt (cy := cy) X S F15.2.1 F15.2.2.1
        refine va_callv (va_runV (As := [.long x1.toInt64, .long x2.toInt64]) (rest := []) ⟨hx, hb, hml, hown, hts⟩ (c_X0_search_q l (cy := cy) (X := X) (D := D) S _ (S.f o1 6) F15.2 x1.toInt64 x2.toInt64 (hW)) (cwV 2 hts gX9_meets_X0_search rfl rfl rfl hd_X0_search ⟨Nat.le_of_ble_eq_true rfl, Nat.le_of_ble_eq_true rfl⟩) (pV (va_recv hK hP (q := (RX0, TX0, 7)) (ci := 4) (q0 := k17) rfl hk17) hP hK hD hN) rfl rfl hl.1 rfl (lv_room (Nat.le_of_ble_eq_true rfl)) dX9_meets_24 ⟨Nat.le_of_ble_eq_true rfl, Nat.le_of_ble_eq_true rfl⟩) hS (fun q _ h => hFc q h) hFc (fun u t H1 locs ht hvm hw hB hz1 hk1 hS => ?_)
        obtain ⟨c19, w20⟩ := hw
        obtain ⟨hP, hD⟩ := wd_post hFc ht hB
        generalize H1 = H at hP hS ⊢
        obtain ⟨S21, rfl⟩ : ∃ z, z = u := ⟨_, rfl⟩
        have t22 : stp [(0, 3), (0, 4), (0, 5), (0, 6), (17, 100)] [] [] S S21 := t0.tr w20 (by decide) (fun _ q => absurd q List.not_mem_nil)
        have xe23 : ext S S21 := w20.x
        refine lv_aload_n hx hb dX9_meets_27 rfl (lv_at hl 0 rfl) ?_
        obtain ⟨k24, gk24, hk24⟩ := wGt (cy := cy) X S21 (xe23.A h_o1).1 (xe23.A h_o1).2.1
        simp only [kE, (xe23.F h_o1 (by decide) F15.1)] at hk24
        refine va_get (D := D) (ci := 13) (v := .ref (S.f o1 6)) (C := RX9) (T := TX9) (N := 11) hx hb hts hi_X9_meets_X9 hown hK hP k24 hk24 rfl 6 (by decide) (hts (.fieldLink RX9 30 "Hobhouse" "box" "LHobhouse$Box;") (by decide +kernel)) (fun _ h9 => h9) rfl dX9_meets_28 ?_
        refine lv_iload_n hx hb dX9_meets_31 rfl (lv_at hl 3 rfl) ?_
        have hFc := free_all hD hS hA
        obtain ⟨k25, gk25, hk25⟩ := wGt (cy := cy) X S21 (xe23.A F15.2).1 (xe23.A F15.2).2.1
        refine va_calli (va_runV (As := [.int x3]) (rest := []) ⟨hx, hb, hml, hown, hts⟩ (c_X0_isMet l (cy := cy) (X := X) (D := D) S21 _ (S.f o1 6) (xe23.A F15.2) x3) (cwV 1 hts gX9_meets_X0_isMet rfl rfl rfl hd_X0_isMet ⟨Nat.le_of_ble_eq_true rfl, Nat.le_of_ble_eq_true rfl⟩) (pV (va_recv hK hP (q := (RX0, TX0, 7)) (ci := 4) (q0 := k25) rfl hk25) hP hK hD hN) rfl rfl hl.1 rfl (lv_room (Nat.le_of_ble_eq_true rfl)) dX9_meets_32 ⟨Nat.le_of_ble_eq_true rfl, Nat.le_of_ble_eq_true rfl⟩) hS (fun q _ h => hFc q h) hFc (fun r26 u t H1 locs ht hvm hw hB hz1 hk1 hS => ?_)
        have c27 := hw
        obtain ⟨hP, hD⟩ := wd_post hFc ht hB
        generalize H1 = H at hP hS ⊢
        obtain rfl : f_X0_isMet S21 (S.f o1 6) x3 = r26 := c27.symm
        refine vx_ret ?_
        refine W.widen (k := 4) (n := 24) (Nat.le_of_ble_eq_true rfl) (Nat.le_of_ble_eq_true rfl) ?_
        exact W.zret (v := f_X0_isMet S21 (S.f o1 6) x3) hx hb hr (f_X0_isMet_b S21 (S.f o1 6) x3) (fun t ht hW9 => ⟨⟨f_X0_isMet S21 (S.f o1 6) x3, S21, rfl, ⟨(by show f_X9_meets S o1 x1 x2 x3 = .ok (f_X0_isMet S21 (S.f o1 6) x3, S21); unfold f_X9_meets; rw [eB_ok c3, eB_ok c7, eB_ok c14, l1_eq c19.symm]), t22⟩, wd_end hP hK hD ht hW9.alike⟩, hS.F ht⟩) hS.2.2 dX9_meets_35 hlocks
def f_X9_indexes (S : wPS) (o1 : Nat) (x1 : Int32) (x2 : Int32) (x3 : Int32) : Except String (Int32 × wPS) := eB (f_X9_gearAt S o1 x1) (fun r2 => eB (f_X9_hobAt S o1 x2) (fun r7 => eB (f_X9_needRange x3 (0 : Int32) (999999 : Int32)) (fun _ => eB (f_X9_needFourWheels S o1) (fun _ => l1 (f_X0_search S (S.f o1 6) (((S.I o1 9) * (S.I r7 1)).toInt64) ((S.I r2 1).toInt64)) (fun S31 => .ok (f_X0_isMet S31 (S.f o1 6) x3, S31))))))
set_option maxHeartbeats 4000000 in
set_option maxRecDepth 100000 in
theorem c_X9_indexes_q (l : Launch) (hst : l.stackTraces = false) {D : va_G} {cy : Nat → ClassId} {X : va_W} (S : wPS) (sz : Nat) (o1 : Nat) (h_o1 : isA S o1 9) (x1 : Int32) (x2 : Int32) (x3 : Int32) (hW : wtB S [])  : vx_Met l yX9_indexes wsX9_indexes ({ frames := 7, cells := 4, slots := 24, locals := 104 }) (va_Pc [.ref o1, .int x1, .int x2, .int x3] (fun U => U.heap.size = sz ∧ WD D cy X (fun _ => True) S U ∧ NW U ∧ TH (va_A (X ++ PL cy S) sz) U)) (va_Qi (fun r (u : wPS) => f_X9_indexes S o1 x1 x2 x3 = .ok (r, u) ∧ stp [(0, 3), (0, 4), (0, 5), (0, 6), (17, 100)] [] [] S u) (fun u t => WD D cy X (va_A (X ++ PL cy S) sz) u t) (va_A (X ++ PL cy S) sz)) (vx_X (fun (u : wPS) => stp [(0, 3), (0, 4), (0, 5), (0, 6), (17, 100)] [] [] S u) (fun E u t => f_X9_indexes S o1 x1 x2 x3 = .error E ∧ E ∈ ["java/lang/IllegalArgumentException", "java/lang/IndexOutOfBoundsException", "java/util/NoSuchElementException"] ∧ u = S ∧ WD D cy X (va_A (X ++ PL cy S) sz) u t) (va_A (X ++ PL cy S) sz)) 4 24 (va_A (X ++ PL cy S) sz) := by
  refine vx_ofW (cc := cX9_indexes) (maxL := 6) (ret := (some .boolean)) (by decide) rfl ?_
  intro p e s m args below meth c s₁ B hml hno hv
  obtain ⟨rfl, hsz, ⟨hP, hK, hD0⟩, hN, hTH⟩ := hv
  have hx := B.exec
  have hb := B.bytes
  have hr := B.returns
  have hts := atoms_spec (ws := wsX9_indexes) B.pre
  have hown : s.vm.findClass RX9 = some m.cls := findClass_of_methodNamed (x := yX9_indexes) B.named
  have hlocks := B.notSynchronized
  subst hsz
  have hD := hD0.self (sz := s.heap.size)
  generalize hAe : va_A (X ++ PL cy S) s.heap.size = A at hD hTH ⊢
  have hA : ∀ q : Nat, s.heap.size ≤ q → A q := fun q h => by rw [← hAe]; exact Or.inr h
  have hS : va_S A s.heap s.heap [] := va_S.rf
  have hl := lv_entry ([.ref o1, .int x1, .int x2, .int x3]) (n := 6) (Nat.le_of_ble_eq_true rfl)
  rw [lg_entry_eq]
  generalize (lg_sl ([.ref o1, .int x1, .int x2, .int x3]) ++ List.replicate (6 - (lg_sl ([.ref o1, .int x1, .int x2, .int x3])).length) Slot.unset).toArray = ls at hl ⊢
  have hl : lv_has ls 6 [(0, .ref o1), (1, .int x1), (2, .int x2), (3, .int x3)] := hl
  have t0 : stp [(0, 3), (0, 4), (0, 5), (0, 6), (17, 100)] [] [] S S := stp.rf hW
  refine lv_aload_n hx hb dX9_indexes_0 rfl (lv_at hl 0 rfl) ?_
  refine lv_iload_n hx hb dX9_indexes_1 rfl (lv_at hl 1 rfl) ?_
  have hFc := free_all hD hS hA
  obtain ⟨k1, gk1, hk1⟩ := wGt (cy := cy) X S h_o1.1 h_o1.2.1
  refine vx_callq (vx_runV (As := [.int x1]) (rest := []) ⟨hx, hb, hml, hown, hts⟩ (c_X9_gearAt l hst (cy := cy) (X := X) (D := D) S _ o1 h_o1 x1 (hW)) (cwV 1 hts gX9_indexes_X9_gearAt rfl rfl rfl hd_X9_gearAt ⟨Nat.le_of_ble_eq_true rfl, Nat.le_of_ble_eq_true rfl⟩) (pVt (va_recv hK hP (q := (RX9, TX9, 11)) (ci := 13) (q0 := k1) rfl hk1) hP hK hD hN hTH hS hFc) rfl rfl hl.1 rfl (lv_room (Nat.le_of_ble_eq_true rfl)) dX9_indexes_2 ⟨Nat.le_of_ble_eq_true rfl, Nat.le_of_ble_eq_true rfl⟩) hS (fun q _ h => hFc q h) hFc (fun q _ h => hFc q h) (fun E ce q9 u t H1 locs ht hvm hw hB hz1 hk1 hS hq9 hce hcl => ?_) (fun r2 u t H1 locs ht hvm hw hB hz1 hk1 hS => ?_)
  · obtain ⟨c3, hEc3, hB2⟩ := hB
    obtain ⟨hP, hD⟩ := wd_post hFc ht hB2
    exact vx_out (fun x h => (hno x h).elim) hlocks hq9 hce hcl (fun t2 ht2 hA2 => ⟨S, t0, ⟨(by show f_X9_indexes S o1 x1 x2 x3 = .error E; unfold f_X9_indexes; rw [eB_er c3]), (el_in (by decide) hEc3), rfl, wd_end hP hK hD ht2 hA2⟩, hS.F ht2⟩) hS.2.2 (Nat.le_of_ble_eq_true rfl) (Nat.le_of_ble_eq_true rfl)
  · obtain ⟨r2, rfl, c4, o5⟩ := hw
    obtain ⟨hP, hD⟩ := wd_post hFc ht hB
    generalize H1 = H at hP hS ⊢
    refine W.eq (g2 := F0 m 5 ls [.ref r2]) rfl ?_
    refine lv_astore (lv' := [(4, .ref r2), (0, .ref o1), (1, .int x1), (2, .int x2), (3, .int x3)]) hx hb dX9_indexes_5 hl (by decide) rfl (fun ls hl => ?_)
    refine lv_aload_n hx hb dX9_indexes_7 rfl (lv_at hl 1 rfl) ?_
    refine lv_iload_n hx hb dX9_indexes_8 rfl (lv_at hl 3 rfl) ?_
    have hFc := free_all hD hS hA
    obtain ⟨k6, gk6, hk6⟩ := wGt (cy := cy) X S h_o1.1 h_o1.2.1
    refine vx_callq (vx_runV (As := [.int x2]) (rest := []) ⟨hx, hb, hml, hown, hts⟩ (c_X9_hobAt l hst (cy := cy) (X := X) (D := D) S _ o1 h_o1 x2 (hW)) (cwV 1 hts gX9_indexes_X9_hobAt rfl rfl rfl hd_X9_hobAt ⟨Nat.le_of_ble_eq_true rfl, Nat.le_of_ble_eq_true rfl⟩) (pVt (va_recv hK hP (q := (RX9, TX9, 11)) (ci := 13) (q0 := k6) rfl hk6) hP hK hD hN hTH hS hFc) rfl rfl hl.1 rfl (lv_room (Nat.le_of_ble_eq_true rfl)) dX9_indexes_9 ⟨Nat.le_of_ble_eq_true rfl, Nat.le_of_ble_eq_true rfl⟩) hS (fun q _ h => hFc q h) hFc (fun q _ h => hFc q h) (fun E ce q9 u t H1 locs ht hvm hw hB hz1 hk1 hS hq9 hce hcl => ?_) (fun r7 u t H1 locs ht hvm hw hB hz1 hk1 hS => ?_)
    · obtain ⟨c8, hEc8, hB2⟩ := hB
      obtain ⟨hP, hD⟩ := wd_post hFc ht hB2
      exact vx_out (fun x h => (hno x h).elim) hlocks hq9 hce hcl (fun t2 ht2 hA2 => ⟨S, t0, ⟨(by show f_X9_indexes S o1 x1 x2 x3 = .error E; unfold f_X9_indexes; rw [eB_ok c4, eB_er c8]), (el_in (by decide) hEc8), rfl, wd_end hP hK hD ht2 hA2⟩, hS.F ht2⟩) hS.2.2 (Nat.le_of_ble_eq_true rfl) (Nat.le_of_ble_eq_true rfl)
    · obtain ⟨r7, rfl, c9, o10⟩ := hw
      obtain ⟨hP, hD⟩ := wd_post hFc ht hB
      generalize H1 = H at hP hS ⊢
      refine W.eq (g2 := F0 m 12 ls [.ref r7]) rfl ?_
      refine lv_astore (lv' := [(5, .ref r7), (4, .ref r2), (0, .ref o1), (1, .int x1), (2, .int x2), (3, .int x3)]) hx hb dX9_indexes_12 hl (by decide) rfl (fun ls hl => ?_)
      refine lv_iload_n hx hb dX9_indexes_14 rfl (lv_at hl 5 rfl) ?_
      refine lv_iconst (v := 0) hx hb dX9_indexes_15 (by decide) ?_
      refine lv_ldc (own := RX9) (v := 999999) hx hb hown (hts (.constant RX9 244 (999999)) (by decide +kernel)) dX9_indexes_16 ?_
      have l32_0 : (0 : Int32).toInt = 0 := rfl
      have l32_999999 : (999999 : Int32).toInt = 999999 := rfl
      have hFc := free_all hD hS hA
      refine vx_callv (vx_runS (As := [.int x3, .int (0 : Int32), .int (999999 : Int32)]) (rest := []) ⟨hx, hb, hml, hown, hts⟩ (c_X9_needRange l hst (cy := cy) (X := X) (D := D) S _ x3 (0 : Int32) (999999 : Int32)) (cwS 3 hts gX9_indexes_X9_needRange rfl rfl rfl hd_X9_needRange ⟨Nat.le_of_ble_eq_true rfl, Nat.le_of_ble_eq_true rfl⟩) (pSt hP hK hD hN hTH hS hFc) rfl rfl hl.1 rfl (lv_room (Nat.le_of_ble_eq_true rfl)) dX9_indexes_18 ⟨Nat.le_of_ble_eq_true rfl, Nat.le_of_ble_eq_true rfl⟩) hS (fun q _ h => hFc q h) hFc (fun q _ h => hFc q h) (fun E ce q9 u t H1 locs ht hvm hw hB hz1 hk1 hS hq9 hce hcl => ?_) (fun u t H1 locs ht hvm hw hB hz1 hk1 hS => ?_)
      · obtain ⟨c12, hEc12, hB2⟩ := hB
        obtain ⟨hP, hD⟩ := wd_post hFc ht hB2
        exact vx_out (fun x h => (hno x h).elim) hlocks hq9 hce hcl (fun t2 ht2 hA2 => ⟨S, t0, ⟨(by show f_X9_indexes S o1 x1 x2 x3 = .error E; unfold f_X9_indexes; rw [eB_ok c4, eB_ok c9, eB_er c12]), (el_in (by decide) hEc12), rfl, wd_end hP hK hD ht2 hA2⟩, hS.F ht2⟩) hS.2.2 (Nat.le_of_ble_eq_true rfl) (Nat.le_of_ble_eq_true rfl)
      · have c13 := hw
        obtain ⟨hP, hD⟩ := wd_post hFc ht hB
        generalize H1 = H at hP hS ⊢
        have i14 := nr_i c13
        have i14l := i14.1
        have i14h := i14.2
        have l15 : (0 : Int32).toInt = 0 := rfl
        have l16 : (999999 : Int32).toInt = 999999 := rfl
        refine lv_aload_n hx hb dX9_indexes_21 rfl (lv_at hl 2 rfl) ?_
        have hFc := free_all hD hS hA
        obtain ⟨k17, gk17, hk17⟩ := wGt (cy := cy) X S h_o1.1 h_o1.2.1
        refine vx_callv (vx_runV (As := []) (rest := []) ⟨hx, hb, hml, hown, hts⟩ (c_X9_needFourWheels l hst (cy := cy) (X := X) (D := D) S _ o1 h_o1 (hW)) (cwV 0 hts gX9_indexes_X9_needFourWheels rfl rfl rfl hd_X9_needFourWheels ⟨Nat.le_of_ble_eq_true rfl, Nat.le_of_ble_eq_true rfl⟩) (pVt (va_recv hK hP (q := (RX9, TX9, 11)) (ci := 13) (q0 := k17) rfl hk17) hP hK hD hN hTH hS hFc) rfl rfl hl.1 rfl (lv_room (Nat.le_of_ble_eq_true rfl)) dX9_indexes_22 ⟨Nat.le_of_ble_eq_true rfl, Nat.le_of_ble_eq_true rfl⟩) hS (fun q _ h => hFc q h) hFc (fun q _ h => hFc q h) (fun E ce q9 u t H1 locs ht hvm hw hB hz1 hk1 hS hq9 hce hcl => ?_) (fun u t H1 locs ht hvm hw hB hz1 hk1 hS => ?_)
        · obtain ⟨c19, hEc19, hB2⟩ := hB
          obtain ⟨hP, hD⟩ := wd_post hFc ht hB2
          exact vx_out (fun x h => (hno x h).elim) hlocks hq9 hce hcl (fun t2 ht2 hA2 => ⟨S, t0, ⟨(by show f_X9_indexes S o1 x1 x2 x3 = .error E; unfold f_X9_indexes; rw [eB_ok c4, eB_ok c9, eB_ok c13, eB_er c19]), (el_in (by decide) hEc19), rfl, wd_end hP hK hD ht2 hA2⟩, hS.F ht2⟩) hS.2.2 (Nat.le_of_ble_eq_true rfl) (Nat.le_of_ble_eq_true rfl)
        · have c20 := hw
          obtain ⟨hP, hD⟩ := wd_post hFc ht hB
          generalize H1 = H at hP hS ⊢
          refine lv_aload_n hx hb dX9_indexes_25 rfl (lv_at hl 2 rfl) ?_
          have F21 := ((hW.at h_o1 List.not_mem_nil).to_9 h_o1.2.1).F6
          obtain ⟨k22, gk22, hk22⟩ := wGt (cy := cy) X S h_o1.1 h_o1.2.1
          simp only [kE, F21.1] at hk22
          refine va_get (D := D) (ci := 13) (v := .ref (S.f o1 6)) (C := RX9) (T := TX9) (N := 11) hx hb hts hi_X9_indexes_X9 hown hK hP k22 hk22 rfl 6 (by decide) (hts (.fieldLink RX9 30 "Hobhouse" "box" "LHobhouse$Box;") (by decide +kernel)) (fun _ h9 => h9) rfl dX9_indexes_26 ?_
          refine lv_aload_n hx hb dX9_indexes_29 rfl (lv_at hl 2 rfl) ?_
          obtain ⟨k23, gk23, hk23⟩ := wGt (cy := cy) X S h_o1.1 h_o1.2.1
          refine va_get (D := D) (ci := 13) (v := .int (S.I o1 9)) (C := RX9) (T := TX9) (N := 11) hx hb hts hi_X9_indexes_X9 hown hK hP k23 hk23 rfl 9 (by decide) (hts (.fieldLink RX9 48 "Hobhouse" "constant" "I") (by decide +kernel)) (fun _ h9 => h9) rfl dX9_indexes_30 ?_
          refine lv_aload hx hb dX9_indexes_33 (lv_at hl 0 rfl) ?_
          obtain ⟨k24, gk24, hk24⟩ := wGt (cy := cy) X S o10.1 o10.2.1
          refine va_get (D := D) (ci := 7) (v := .int (S.I r7 1)) (C := RX3) (T := TX3) (N := 6) hx hb hts hi_X9_indexes_X3 hown hK hP k24 hk24 rfl 1 (by decide) (hts (.fieldLink RX9 261 "Hobhouse$Hob" "starts" "I") (by decide +kernel)) (fun _ h9 => h9) rfl dX9_indexes_35 ?_
          refine lv_imul hx hb dX9_indexes_38 ?_
          refine lv_i2l hx hb dX9_indexes_39 rfl ?_
          refine lv_aload hx hb dX9_indexes_40 (lv_at hl 1 rfl) ?_
          obtain ⟨k25, gk25, hk25⟩ := wGt (cy := cy) X S o5.1 o5.2.1
          have i26 := ((hW.at o5 List.not_mem_nil).to_2 o5.2.1).R1
          refine va_get (D := D) (ci := 6) (v := .int (S.I r2 1)) (C := RX2) (T := TX2) (N := 20) hx hb hts hi_X9_indexes_X2 hown hK hP k25 hk25 rfl 1 (by decide) (hts (.fieldLink RX9 100 "Hobhouse$Gear" "teeth" "I") (by decide +kernel)) (fun _ h9 => h9) rfl dX9_indexes_42 ?_
          refine lv_i2l hx hb dX9_indexes_45 rfl ?_
          have hFc := free_all hD hS hA
          obtain ⟨k27, gk27, hk27⟩ := wGt (cy := cy) X S F21.2.1 F21.2.2.1
          refine va_callv (va_runV (As := [.long (((S.I o1 9) * (S.I r7 1)).toInt64), .long ((S.I r2 1).toInt64)]) (rest := []) ⟨hx, hb, hml, hown, hts⟩ (c_X0_search_q l (cy := cy) (X := X) (D := D) S _ (S.f o1 6) F21.2 (((S.I o1 9) * (S.I r7 1)).toInt64) ((S.I r2 1).toInt64) (hW)) (cwV 2 hts gX9_indexes_X0_search rfl rfl rfl hd_X0_search ⟨Nat.le_of_ble_eq_true rfl, Nat.le_of_ble_eq_true rfl⟩) (pV (va_recv hK hP (q := (RX0, TX0, 7)) (ci := 4) (q0 := k27) rfl hk27) hP hK hD hN) rfl rfl hl.1 rfl (lv_room (Nat.le_of_ble_eq_true rfl)) dX9_indexes_46 ⟨Nat.le_of_ble_eq_true rfl, Nat.le_of_ble_eq_true rfl⟩) hS (fun q _ h => hFc q h) hFc (fun u t H1 locs ht hvm hw hB hz1 hk1 hS => ?_)
          obtain ⟨c29, w30⟩ := hw
          obtain ⟨hP, hD⟩ := wd_post hFc ht hB
          generalize H1 = H at hP hS ⊢
          obtain ⟨S31, rfl⟩ : ∃ z, z = u := ⟨_, rfl⟩
          have t32 : stp [(0, 3), (0, 4), (0, 5), (0, 6), (17, 100)] [] [] S S31 := t0.tr w30 (by decide) (fun _ q => absurd q List.not_mem_nil)
          have xe33 : ext S S31 := w30.x
          refine lv_aload_n hx hb dX9_indexes_49 rfl (lv_at hl 2 rfl) ?_
          obtain ⟨k34, gk34, hk34⟩ := wGt (cy := cy) X S31 (xe33.A h_o1).1 (xe33.A h_o1).2.1
          simp only [kE, (xe33.F h_o1 (by decide) F21.1)] at hk34
          refine va_get (D := D) (ci := 13) (v := .ref (S.f o1 6)) (C := RX9) (T := TX9) (N := 11) hx hb hts hi_X9_indexes_X9 hown hK hP k34 hk34 rfl 6 (by decide) (hts (.fieldLink RX9 30 "Hobhouse" "box" "LHobhouse$Box;") (by decide +kernel)) (fun _ h9 => h9) rfl dX9_indexes_50 ?_
          refine lv_iload_n hx hb dX9_indexes_53 rfl (lv_at hl 5 rfl) ?_
          have hFc := free_all hD hS hA
          obtain ⟨k35, gk35, hk35⟩ := wGt (cy := cy) X S31 (xe33.A F21.2).1 (xe33.A F21.2).2.1
          refine va_calli (va_runV (As := [.int x3]) (rest := []) ⟨hx, hb, hml, hown, hts⟩ (c_X0_isMet l (cy := cy) (X := X) (D := D) S31 _ (S.f o1 6) (xe33.A F21.2) x3) (cwV 1 hts gX9_indexes_X0_isMet rfl rfl rfl hd_X0_isMet ⟨Nat.le_of_ble_eq_true rfl, Nat.le_of_ble_eq_true rfl⟩) (pV (va_recv hK hP (q := (RX0, TX0, 7)) (ci := 4) (q0 := k35) rfl hk35) hP hK hD hN) rfl rfl hl.1 rfl (lv_room (Nat.le_of_ble_eq_true rfl)) dX9_indexes_54 ⟨Nat.le_of_ble_eq_true rfl, Nat.le_of_ble_eq_true rfl⟩) hS (fun q _ h => hFc q h) hFc (fun r36 u t H1 locs ht hvm hw hB hz1 hk1 hS => ?_)
          have c37 := hw
          obtain ⟨hP, hD⟩ := wd_post hFc ht hB
          generalize H1 = H at hP hS ⊢
          obtain rfl : f_X0_isMet S31 (S.f o1 6) x3 = r36 := c37.symm
          refine vx_ret ?_
          refine W.widen (k := 4) (n := 24) (Nat.le_of_ble_eq_true rfl) (Nat.le_of_ble_eq_true rfl) ?_
          exact W.zret (v := f_X0_isMet S31 (S.f o1 6) x3) hx hb hr (f_X0_isMet_b S31 (S.f o1 6) x3) (fun t ht hW9 => ⟨⟨f_X0_isMet S31 (S.f o1 6) x3, S31, rfl, ⟨(by show f_X9_indexes S o1 x1 x2 x3 = .ok (f_X0_isMet S31 (S.f o1 6) x3, S31); unfold f_X9_indexes; rw [eB_ok c4, eB_ok c9, eB_ok c13, eB_ok c20, l1_eq c29.symm]), t32⟩, wd_end hP hK hD ht hW9.alike⟩, hS.F ht⟩) hS.2.2 dX9_indexes_57 hlocks
def f_X9_differs (S : wPS) (o1 : Nat) (x1 : Int32) (x2 : Int32) (x3 : Int32) : Except String (Int32 × wPS) := eB (f_X9_gearAt S o1 x1) (fun r2 => eB (f_X9_hobAt S o1 x2) (fun r7 => eB (f_X9_needRange x3 (0 : Int32) (999999 : Int32)) (fun _ => if (S.I r2 3) = (0 : Int32) then eB (f_X9_allowOnly (0 : Int32)) (fun _ => .error "") else eB (f_X9_allowOnly (1 : Int32)) (fun _ => eB (f_X9_needFourWheels S o1) (fun _ => l1 (f_X0_search S (S.f o1 6) (((if 0 ≤ (S.I r2 3) then (S.I r2 3) else 0 - (S.I r2 3)) * (S.I o1 9)).toInt64) (((S.I r2 2) * (S.I r7 1)).toInt64)) (fun S42 => .ok (f_X0_isMet S42 (S.f o1 6) x3, S42)))))))
set_option maxHeartbeats 4000000 in
set_option maxRecDepth 100000 in
theorem c_X9_differs_q (l : Launch) (hst : l.stackTraces = false) {D : va_G} {cy : Nat → ClassId} {X : va_W} (S : wPS) (sz : Nat) (o1 : Nat) (h_o1 : isA S o1 9) (x1 : Int32) (x2 : Int32) (x3 : Int32) (hW : wtB S [])  : vx_Met l yX9_differs wsX9_differs ({ frames := 7, cells := 5, slots := 30, locals := 104 }) (va_Pc [.ref o1, .int x1, .int x2, .int x3] (fun U => U.heap.size = sz ∧ WD D cy X (fun _ => True) S U ∧ NW U ∧ TH (va_A (X ++ PL cy S) sz) U)) (va_Qi (fun r (u : wPS) => f_X9_differs S o1 x1 x2 x3 = .ok (r, u) ∧ stp [(0, 3), (0, 4), (0, 5), (0, 6), (17, 100)] [] [] S u) (fun u t => WD D cy X (va_A (X ++ PL cy S) sz) u t) (va_A (X ++ PL cy S) sz)) (vx_X (fun (u : wPS) => stp [(0, 3), (0, 4), (0, 5), (0, 6), (17, 100)] [] [] S u) (fun E u t => f_X9_differs S o1 x1 x2 x3 = .error E ∧ E ∈ ["java/lang/IllegalArgumentException", "java/lang/IndexOutOfBoundsException", "java/lang/UnsupportedOperationException", "java/util/NoSuchElementException"] ∧ u = S ∧ WD D cy X (va_A (X ++ PL cy S) sz) u t) (va_A (X ++ PL cy S) sz)) 5 30 (va_A (X ++ PL cy S) sz) := by
  refine vx_ofW (cc := cX9_differs) (maxL := 6) (ret := (some .boolean)) (by decide) rfl ?_
  intro p e s m args below meth c s₁ B hml hno hv
  obtain ⟨rfl, hsz, ⟨hP, hK, hD0⟩, hN, hTH⟩ := hv
  have hx := B.exec
  have hb := B.bytes
  have hr := B.returns
  have hts := atoms_spec (ws := wsX9_differs) B.pre
  have hown : s.vm.findClass RX9 = some m.cls := findClass_of_methodNamed (x := yX9_differs) B.named
  have hlocks := B.notSynchronized
  subst hsz
  have hD := hD0.self (sz := s.heap.size)
  generalize hAe : va_A (X ++ PL cy S) s.heap.size = A at hD hTH ⊢
  have hA : ∀ q : Nat, s.heap.size ≤ q → A q := fun q h => by rw [← hAe]; exact Or.inr h
  have hS : va_S A s.heap s.heap [] := va_S.rf
  have hl := lv_entry ([.ref o1, .int x1, .int x2, .int x3]) (n := 6) (Nat.le_of_ble_eq_true rfl)
  rw [lg_entry_eq]
  generalize (lg_sl ([.ref o1, .int x1, .int x2, .int x3]) ++ List.replicate (6 - (lg_sl ([.ref o1, .int x1, .int x2, .int x3])).length) Slot.unset).toArray = ls at hl ⊢
  have hl : lv_has ls 6 [(0, .ref o1), (1, .int x1), (2, .int x2), (3, .int x3)] := hl
  have t0 : stp [(0, 3), (0, 4), (0, 5), (0, 6), (17, 100)] [] [] S S := stp.rf hW
  refine lv_aload_n hx hb dX9_differs_0 rfl (lv_at hl 0 rfl) ?_
  refine lv_iload_n hx hb dX9_differs_1 rfl (lv_at hl 1 rfl) ?_
  have hFc := free_all hD hS hA
  obtain ⟨k1, gk1, hk1⟩ := wGt (cy := cy) X S h_o1.1 h_o1.2.1
  refine vx_callq (vx_runV (As := [.int x1]) (rest := []) ⟨hx, hb, hml, hown, hts⟩ (c_X9_gearAt l hst (cy := cy) (X := X) (D := D) S _ o1 h_o1 x1 (hW)) (cwV 1 hts gX9_differs_X9_gearAt rfl rfl rfl hd_X9_gearAt ⟨Nat.le_of_ble_eq_true rfl, Nat.le_of_ble_eq_true rfl⟩) (pVt (va_recv hK hP (q := (RX9, TX9, 11)) (ci := 13) (q0 := k1) rfl hk1) hP hK hD hN hTH hS hFc) rfl rfl hl.1 rfl (lv_room (Nat.le_of_ble_eq_true rfl)) dX9_differs_2 ⟨Nat.le_of_ble_eq_true rfl, Nat.le_of_ble_eq_true rfl⟩) hS (fun q _ h => hFc q h) hFc (fun q _ h => hFc q h) (fun E ce q9 u t H1 locs ht hvm hw hB hz1 hk1 hS hq9 hce hcl => ?_) (fun r2 u t H1 locs ht hvm hw hB hz1 hk1 hS => ?_)
  · obtain ⟨c3, hEc3, hB2⟩ := hB
    obtain ⟨hP, hD⟩ := wd_post hFc ht hB2
    exact vx_out (fun x h => (hno x h).elim) hlocks hq9 hce hcl (fun t2 ht2 hA2 => ⟨S, t0, ⟨(by show f_X9_differs S o1 x1 x2 x3 = .error E; unfold f_X9_differs; rw [eB_er c3]), (el_in (by decide) hEc3), rfl, wd_end hP hK hD ht2 hA2⟩, hS.F ht2⟩) hS.2.2 (Nat.le_of_ble_eq_true rfl) (Nat.le_of_ble_eq_true rfl)
  · obtain ⟨r2, rfl, c4, o5⟩ := hw
    obtain ⟨hP, hD⟩ := wd_post hFc ht hB
    generalize H1 = H at hP hS ⊢
    refine W.eq (g2 := F0 m 5 ls [.ref r2]) rfl ?_
    refine lv_astore (lv' := [(4, .ref r2), (0, .ref o1), (1, .int x1), (2, .int x2), (3, .int x3)]) hx hb dX9_differs_5 hl (by decide) rfl (fun ls hl => ?_)
    refine lv_aload_n hx hb dX9_differs_7 rfl (lv_at hl 1 rfl) ?_
    refine lv_iload_n hx hb dX9_differs_8 rfl (lv_at hl 3 rfl) ?_
    have hFc := free_all hD hS hA
    obtain ⟨k6, gk6, hk6⟩ := wGt (cy := cy) X S h_o1.1 h_o1.2.1
    refine vx_callq (vx_runV (As := [.int x2]) (rest := []) ⟨hx, hb, hml, hown, hts⟩ (c_X9_hobAt l hst (cy := cy) (X := X) (D := D) S _ o1 h_o1 x2 (hW)) (cwV 1 hts gX9_differs_X9_hobAt rfl rfl rfl hd_X9_hobAt ⟨Nat.le_of_ble_eq_true rfl, Nat.le_of_ble_eq_true rfl⟩) (pVt (va_recv hK hP (q := (RX9, TX9, 11)) (ci := 13) (q0 := k6) rfl hk6) hP hK hD hN hTH hS hFc) rfl rfl hl.1 rfl (lv_room (Nat.le_of_ble_eq_true rfl)) dX9_differs_9 ⟨Nat.le_of_ble_eq_true rfl, Nat.le_of_ble_eq_true rfl⟩) hS (fun q _ h => hFc q h) hFc (fun q _ h => hFc q h) (fun E ce q9 u t H1 locs ht hvm hw hB hz1 hk1 hS hq9 hce hcl => ?_) (fun r7 u t H1 locs ht hvm hw hB hz1 hk1 hS => ?_)
    · obtain ⟨c8, hEc8, hB2⟩ := hB
      obtain ⟨hP, hD⟩ := wd_post hFc ht hB2
      exact vx_out (fun x h => (hno x h).elim) hlocks hq9 hce hcl (fun t2 ht2 hA2 => ⟨S, t0, ⟨(by show f_X9_differs S o1 x1 x2 x3 = .error E; unfold f_X9_differs; rw [eB_ok c4, eB_er c8]), (el_in (by decide) hEc8), rfl, wd_end hP hK hD ht2 hA2⟩, hS.F ht2⟩) hS.2.2 (Nat.le_of_ble_eq_true rfl) (Nat.le_of_ble_eq_true rfl)
    · obtain ⟨r7, rfl, c9, o10⟩ := hw
      obtain ⟨hP, hD⟩ := wd_post hFc ht hB
      generalize H1 = H at hP hS ⊢
      refine W.eq (g2 := F0 m 12 ls [.ref r7]) rfl ?_
      refine lv_astore (lv' := [(5, .ref r7), (4, .ref r2), (0, .ref o1), (1, .int x1), (2, .int x2), (3, .int x3)]) hx hb dX9_differs_12 hl (by decide) rfl (fun ls hl => ?_)
      refine lv_iload_n hx hb dX9_differs_14 rfl (lv_at hl 5 rfl) ?_
      refine lv_iconst (v := 0) hx hb dX9_differs_15 (by decide) ?_
      refine lv_ldc (own := RX9) (v := 999999) hx hb hown (hts (.constant RX9 244 (999999)) (by decide +kernel)) dX9_differs_16 ?_
      have l32_0 : (0 : Int32).toInt = 0 := rfl
      have l32_999999 : (999999 : Int32).toInt = 999999 := rfl
      have hFc := free_all hD hS hA
      refine vx_callv (vx_runS (As := [.int x3, .int (0 : Int32), .int (999999 : Int32)]) (rest := []) ⟨hx, hb, hml, hown, hts⟩ (c_X9_needRange l hst (cy := cy) (X := X) (D := D) S _ x3 (0 : Int32) (999999 : Int32)) (cwS 3 hts gX9_differs_X9_needRange rfl rfl rfl hd_X9_needRange ⟨Nat.le_of_ble_eq_true rfl, Nat.le_of_ble_eq_true rfl⟩) (pSt hP hK hD hN hTH hS hFc) rfl rfl hl.1 rfl (lv_room (Nat.le_of_ble_eq_true rfl)) dX9_differs_18 ⟨Nat.le_of_ble_eq_true rfl, Nat.le_of_ble_eq_true rfl⟩) hS (fun q _ h => hFc q h) hFc (fun q _ h => hFc q h) (fun E ce q9 u t H1 locs ht hvm hw hB hz1 hk1 hS hq9 hce hcl => ?_) (fun u t H1 locs ht hvm hw hB hz1 hk1 hS => ?_)
      · obtain ⟨c12, hEc12, hB2⟩ := hB
        obtain ⟨hP, hD⟩ := wd_post hFc ht hB2
        exact vx_out (fun x h => (hno x h).elim) hlocks hq9 hce hcl (fun t2 ht2 hA2 => ⟨S, t0, ⟨(by show f_X9_differs S o1 x1 x2 x3 = .error E; unfold f_X9_differs; rw [eB_ok c4, eB_ok c9, eB_er c12]), (el_in (by decide) hEc12), rfl, wd_end hP hK hD ht2 hA2⟩, hS.F ht2⟩) hS.2.2 (Nat.le_of_ble_eq_true rfl) (Nat.le_of_ble_eq_true rfl)
      · have c13 := hw
        obtain ⟨hP, hD⟩ := wd_post hFc ht hB
        generalize H1 = H at hP hS ⊢
        have i14 := nr_i c13
        have i14l := i14.1
        have i14h := i14.2
        have l15 : (0 : Int32).toInt = 0 := rfl
        have l16 : (999999 : Int32).toInt = 999999 := rfl
        refine lv_aload hx hb dX9_differs_21 (lv_at hl 1 rfl) ?_
        obtain ⟨k17, gk17, hk17⟩ := wGt (cy := cy) X S o5.1 o5.2.1
        have i18 := ((hW.at o5 List.not_mem_nil).to_2 o5.2.1).R3
        refine va_get (D := D) (ci := 6) (v := .int (S.I r2 3)) (C := RX2) (T := TX2) (N := 20) hx hb hts hi_X9_differs_X2 hown hK hP k17 hk17 rfl 3 (by decide) (hts (.fieldLink RX9 185 "Hobhouse$Gear" "helix" "I") (by decide +kernel)) (fun _ h9 => h9) rfl dX9_differs_23 ?_
        refine lv_if_eq (tgt := 33) hx hb dX9_differs_26 (by decide) (fun c19 => ?_) (fun c19 => ?_)
        · have c19i : (S.I r2 3).toInt = 0 := eq_v rfl rfl c19
          refine lv_iconst (v := 0) hx hb dX9_differs_33 (by decide) ?_
          have hFc := free_all hD hS hA
          refine vx_callv (vx_runS (As := [.int (0 : Int32)]) (rest := []) ⟨hx, hb, hml, hown, hts⟩ (c_X9_allowOnly l hst (cy := cy) (X := X) (D := D) S _ (0 : Int32)) (cwS 1 hts gX9_differs_X9_allowOnly rfl rfl rfl hd_X9_allowOnly ⟨Nat.le_of_ble_eq_true rfl, Nat.le_of_ble_eq_true rfl⟩) (pSt hP hK hD hN hTH hS hFc) rfl rfl hl.1 rfl (lv_room (Nat.le_of_ble_eq_true rfl)) dX9_differs_34 ⟨Nat.le_of_ble_eq_true rfl, Nat.le_of_ble_eq_true rfl⟩) hS (fun q _ h => hFc q h) hFc (fun q _ h => hFc q h) (fun E ce q9 u t H1 locs ht hvm hw hB hz1 hk1 hS hq9 hce hcl => ?_) (fun u t H1 locs ht hvm hw hB hz1 hk1 hS => ?_)
          · obtain ⟨c21, hEc21, hB2⟩ := hB
            obtain ⟨hP, hD⟩ := wd_post hFc ht hB2
            exact vx_out (fun x h => (hno x h).elim) hlocks hq9 hce hcl (fun t2 ht2 hA2 => ⟨S, t0, ⟨(by show f_X9_differs S o1 x1 x2 x3 = .error E; unfold f_X9_differs; rw [eB_ok c4, eB_ok c9, eB_ok c13, if_pos c19, eB_er c21]), (el_in (by decide) hEc21), rfl, wd_end hP hK hD ht2 hA2⟩, hS.F ht2⟩) hS.2.2 (Nat.le_of_ble_eq_true rfl) (Nat.le_of_ble_eq_true rfl)
          · have c22 := hw
            obtain ⟨hP, hD⟩ := wd_post hFc ht hB
            generalize H1 = H at hP hS ⊢
            exact absurd rfl (ao_i c22)
        · have c19i : ¬ (S.I r2 3).toInt = 0 := neq_v rfl rfl c19
          refine lv_iconst (v := 1) hx hb dX9_differs_29 (by decide) ?_
          refine lv_goto (tgt := 34) hx hb dX9_differs_30 (by decide) ?_
          have l32_1 : (1 : Int32).toInt = 1 := rfl
          have hFc := free_all hD hS hA
          refine vx_callv (vx_runS (As := [.int (1 : Int32)]) (rest := []) ⟨hx, hb, hml, hown, hts⟩ (c_X9_allowOnly l hst (cy := cy) (X := X) (D := D) S _ (1 : Int32)) (cwS 1 hts gX9_differs_X9_allowOnly rfl rfl rfl hd_X9_allowOnly ⟨Nat.le_of_ble_eq_true rfl, Nat.le_of_ble_eq_true rfl⟩) (pSt hP hK hD hN hTH hS hFc) rfl rfl hl.1 rfl (lv_room (Nat.le_of_ble_eq_true rfl)) dX9_differs_34 ⟨Nat.le_of_ble_eq_true rfl, Nat.le_of_ble_eq_true rfl⟩) hS (fun q _ h => hFc q h) hFc (fun q _ h => hFc q h) (fun E ce q9 u t H1 locs ht hvm hw hB hz1 hk1 hS hq9 hce hcl => ?_) (fun u t H1 locs ht hvm hw hB hz1 hk1 hS => ?_)
          · obtain ⟨c24, hEc24, hB2⟩ := hB
            obtain ⟨hP, hD⟩ := wd_post hFc ht hB2
            exact vx_out (fun x h => (hno x h).elim) hlocks hq9 hce hcl (fun t2 ht2 hA2 => ⟨S, t0, ⟨(by show f_X9_differs S o1 x1 x2 x3 = .error E; unfold f_X9_differs; rw [eB_ok c4, eB_ok c9, eB_ok c13, if_neg c19, eB_er c24]), (el_in (by decide) hEc24), rfl, wd_end hP hK hD ht2 hA2⟩, hS.F ht2⟩) hS.2.2 (Nat.le_of_ble_eq_true rfl) (Nat.le_of_ble_eq_true rfl)
          · have c25 := hw
            obtain ⟨hP, hD⟩ := wd_post hFc ht hB
            generalize H1 = H at hP hS ⊢
            have i26 := ao_i c25
            refine lv_aload_n hx hb dX9_differs_37 rfl (lv_at hl 2 rfl) ?_
            have hFc := free_all hD hS hA
            obtain ⟨k27, gk27, hk27⟩ := wGt (cy := cy) X S h_o1.1 h_o1.2.1
            refine vx_callv (vx_runV (As := []) (rest := []) ⟨hx, hb, hml, hown, hts⟩ (c_X9_needFourWheels l hst (cy := cy) (X := X) (D := D) S _ o1 h_o1 (hW)) (cwV 0 hts gX9_differs_X9_needFourWheels rfl rfl rfl hd_X9_needFourWheels ⟨Nat.le_of_ble_eq_true rfl, Nat.le_of_ble_eq_true rfl⟩) (pVt (va_recv hK hP (q := (RX9, TX9, 11)) (ci := 13) (q0 := k27) rfl hk27) hP hK hD hN hTH hS hFc) rfl rfl hl.1 rfl (lv_room (Nat.le_of_ble_eq_true rfl)) dX9_differs_38 ⟨Nat.le_of_ble_eq_true rfl, Nat.le_of_ble_eq_true rfl⟩) hS (fun q _ h => hFc q h) hFc (fun q _ h => hFc q h) (fun E ce q9 u t H1 locs ht hvm hw hB hz1 hk1 hS hq9 hce hcl => ?_) (fun u t H1 locs ht hvm hw hB hz1 hk1 hS => ?_)
            · obtain ⟨c29, hEc29, hB2⟩ := hB
              obtain ⟨hP, hD⟩ := wd_post hFc ht hB2
              exact vx_out (fun x h => (hno x h).elim) hlocks hq9 hce hcl (fun t2 ht2 hA2 => ⟨S, t0, ⟨(by show f_X9_differs S o1 x1 x2 x3 = .error E; unfold f_X9_differs; rw [eB_ok c4, eB_ok c9, eB_ok c13, if_neg c19, eB_ok c25, eB_er c29]), (el_in (by decide) hEc29), rfl, wd_end hP hK hD ht2 hA2⟩, hS.F ht2⟩) hS.2.2 (Nat.le_of_ble_eq_true rfl) (Nat.le_of_ble_eq_true rfl)
            · have c30 := hw
              obtain ⟨hP, hD⟩ := wd_post hFc ht hB
              generalize H1 = H at hP hS ⊢
              refine lv_aload_n hx hb dX9_differs_41 rfl (lv_at hl 2 rfl) ?_
              have F31 := ((hW.at h_o1 List.not_mem_nil).to_9 h_o1.2.1).F6
              obtain ⟨k32, gk32, hk32⟩ := wGt (cy := cy) X S h_o1.1 h_o1.2.1
              simp only [kE, F31.1] at hk32
              refine va_get (D := D) (ci := 13) (v := .ref (S.f o1 6)) (C := RX9) (T := TX9) (N := 11) hx hb hts hi_X9_differs_X9 hown hK hP k32 hk32 rfl 6 (by decide) (hts (.fieldLink RX9 30 "Hobhouse" "box" "LHobhouse$Box;") (by decide +kernel)) (fun _ h9 => h9) rfl dX9_differs_42 ?_
              refine lv_aload hx hb dX9_differs_45 (lv_at hl 1 rfl) ?_
              obtain ⟨k33, gk33, hk33⟩ := wGt (cy := cy) X S o5.1 o5.2.1
              refine va_get (D := D) (ci := 6) (v := .int (S.I r2 3)) (C := RX2) (T := TX2) (N := 20) hx hb hts hi_X9_differs_X2 hown hK hP k33 hk33 rfl 3 (by decide) (hts (.fieldLink RX9 185 "Hobhouse$Gear" "helix" "I") (by decide +kernel)) (fun _ h9 => h9) rfl dX9_differs_47 ?_
              refine va_mabs hx hb (hml.trans hl.1.symm) hown (hts (.methodLink RX9 188 Lib.Math.abs.name) (by decide +kernel)) (hts (.static Lib.Math.abs.name) (by decide +kernel)) (hts (.initialized "java/lang/Math") (by decide +kernel)) (hts (.code Lib.Math.abs.name Lib.Math.abs.code 1 (some .int)) (by decide +kernel)) (Nat.le_of_ble_eq_true rfl) (Nat.le_of_ble_eq_true rfl) (Nat.le_of_ble_eq_true rfl) (Nat.le_of_ble_eq_true rfl) dX9_differs_50 ?_
              refine lv_aload_n hx hb dX9_differs_53 rfl (lv_at hl 2 rfl) ?_
              obtain ⟨k34, gk34, hk34⟩ := wGt (cy := cy) X S h_o1.1 h_o1.2.1
              refine va_get (D := D) (ci := 13) (v := .int (S.I o1 9)) (C := RX9) (T := TX9) (N := 11) hx hb hts hi_X9_differs_X9 hown hK hP k34 hk34 rfl 9 (by decide) (hts (.fieldLink RX9 48 "Hobhouse" "constant" "I") (by decide +kernel)) (fun _ h9 => h9) rfl dX9_differs_54 ?_
              refine lv_imul hx hb dX9_differs_57 ?_
              refine lv_i2l hx hb dX9_differs_58 rfl ?_
              refine lv_aload hx hb dX9_differs_59 (lv_at hl 1 rfl) ?_
              obtain ⟨k35, gk35, hk35⟩ := wGt (cy := cy) X S o5.1 o5.2.1
              have i36 := ((hW.at o5 List.not_mem_nil).to_2 o5.2.1).R2
              refine va_get (D := D) (ci := 6) (v := .int (S.I r2 2)) (C := RX2) (T := TX2) (N := 20) hx hb hts hi_X9_differs_X2 hown hK hP k35 hk35 rfl 2 (by decide) (hts (.fieldLink RX9 165 "Hobhouse$Gear" "module" "I") (by decide +kernel)) (fun _ h9 => h9) rfl dX9_differs_61 ?_
              refine lv_aload hx hb dX9_differs_64 (lv_at hl 0 rfl) ?_
              obtain ⟨k37, gk37, hk37⟩ := wGt (cy := cy) X S o10.1 o10.2.1
              refine va_get (D := D) (ci := 7) (v := .int (S.I r7 1)) (C := RX3) (T := TX3) (N := 6) hx hb hts hi_X9_differs_X3 hown hK hP k37 hk37 rfl 1 (by decide) (hts (.fieldLink RX9 261 "Hobhouse$Hob" "starts" "I") (by decide +kernel)) (fun _ h9 => h9) rfl dX9_differs_66 ?_
              refine lv_imul hx hb dX9_differs_69 ?_
              refine lv_i2l hx hb dX9_differs_70 rfl ?_
              have hFc := free_all hD hS hA
              obtain ⟨k38, gk38, hk38⟩ := wGt (cy := cy) X S F31.2.1 F31.2.2.1
              refine va_callv (va_runV (As := [.long (((if 0 ≤ (S.I r2 3) then (S.I r2 3) else 0 - (S.I r2 3)) * (S.I o1 9)).toInt64), .long (((S.I r2 2) * (S.I r7 1)).toInt64)]) (rest := []) ⟨hx, hb, hml, hown, hts⟩ (c_X0_search_q l (cy := cy) (X := X) (D := D) S _ (S.f o1 6) F31.2 (((if 0 ≤ (S.I r2 3) then (S.I r2 3) else 0 - (S.I r2 3)) * (S.I o1 9)).toInt64) (((S.I r2 2) * (S.I r7 1)).toInt64) (hW)) (cwV 2 hts gX9_differs_X0_search rfl rfl rfl hd_X0_search ⟨Nat.le_of_ble_eq_true rfl, Nat.le_of_ble_eq_true rfl⟩) (pV (va_recv hK hP (q := (RX0, TX0, 7)) (ci := 4) (q0 := k38) rfl hk38) hP hK hD hN) rfl rfl hl.1 rfl (lv_room (Nat.le_of_ble_eq_true rfl)) dX9_differs_71 ⟨Nat.le_of_ble_eq_true rfl, Nat.le_of_ble_eq_true rfl⟩) hS (fun q _ h => hFc q h) hFc (fun u t H1 locs ht hvm hw hB hz1 hk1 hS => ?_)
              obtain ⟨c40, w41⟩ := hw
              obtain ⟨hP, hD⟩ := wd_post hFc ht hB
              generalize H1 = H at hP hS ⊢
              obtain ⟨S42, rfl⟩ : ∃ z, z = u := ⟨_, rfl⟩
              have t43 : stp [(0, 3), (0, 4), (0, 5), (0, 6), (17, 100)] [] [] S S42 := t0.tr w41 (by decide) (fun _ q => absurd q List.not_mem_nil)
              have xe44 : ext S S42 := w41.x
              refine lv_aload_n hx hb dX9_differs_74 rfl (lv_at hl 2 rfl) ?_
              obtain ⟨k45, gk45, hk45⟩ := wGt (cy := cy) X S42 (xe44.A h_o1).1 (xe44.A h_o1).2.1
              simp only [kE, (xe44.F h_o1 (by decide) F31.1)] at hk45
              refine va_get (D := D) (ci := 13) (v := .ref (S.f o1 6)) (C := RX9) (T := TX9) (N := 11) hx hb hts hi_X9_differs_X9 hown hK hP k45 hk45 rfl 6 (by decide) (hts (.fieldLink RX9 30 "Hobhouse" "box" "LHobhouse$Box;") (by decide +kernel)) (fun _ h9 => h9) rfl dX9_differs_75 ?_
              refine lv_iload_n hx hb dX9_differs_78 rfl (lv_at hl 5 rfl) ?_
              have hFc := free_all hD hS hA
              obtain ⟨k46, gk46, hk46⟩ := wGt (cy := cy) X S42 (xe44.A F31.2).1 (xe44.A F31.2).2.1
              refine va_calli (va_runV (As := [.int x3]) (rest := []) ⟨hx, hb, hml, hown, hts⟩ (c_X0_isMet l (cy := cy) (X := X) (D := D) S42 _ (S.f o1 6) (xe44.A F31.2) x3) (cwV 1 hts gX9_differs_X0_isMet rfl rfl rfl hd_X0_isMet ⟨Nat.le_of_ble_eq_true rfl, Nat.le_of_ble_eq_true rfl⟩) (pV (va_recv hK hP (q := (RX0, TX0, 7)) (ci := 4) (q0 := k46) rfl hk46) hP hK hD hN) rfl rfl hl.1 rfl (lv_room (Nat.le_of_ble_eq_true rfl)) dX9_differs_79 ⟨Nat.le_of_ble_eq_true rfl, Nat.le_of_ble_eq_true rfl⟩) hS (fun q _ h => hFc q h) hFc (fun r47 u t H1 locs ht hvm hw hB hz1 hk1 hS => ?_)
              have c48 := hw
              obtain ⟨hP, hD⟩ := wd_post hFc ht hB
              generalize H1 = H at hP hS ⊢
              obtain rfl : f_X0_isMet S42 (S.f o1 6) x3 = r47 := c48.symm
              refine vx_ret ?_
              refine W.widen (k := 5) (n := 30) (Nat.le_of_ble_eq_true rfl) (Nat.le_of_ble_eq_true rfl) ?_
              exact W.zret (v := f_X0_isMet S42 (S.f o1 6) x3) hx hb hr (f_X0_isMet_b S42 (S.f o1 6) x3) (fun t ht hW9 => ⟨⟨f_X0_isMet S42 (S.f o1 6) x3, S42, rfl, ⟨(by show f_X9_differs S o1 x1 x2 x3 = .ok (f_X0_isMet S42 (S.f o1 6) x3, S42); unfold f_X9_differs; rw [eB_ok c4, eB_ok c9, eB_ok c13, if_neg c19, eB_ok c25, eB_ok c30, l1_eq c40.symm]), t43⟩, wd_end hP hK hD ht hW9.alike⟩, hS.F ht⟩) hS.2.2 dX9_differs_82 hlocks
def f_X12_offOf (S : wPS) (o1 : Nat) (x1 : Int64) (x2 : Int64) : Int64 := (if 0 < (((((S.i o1 (0 : Int32).toNatClampNeg).toInt64) * ((S.i o1 (2 : Int32).toNatClampNeg).toInt64)) * x2) - ((x1 * ((S.i o1 (1 : Int32).toNatClampNeg).toInt64)) * ((S.i o1 (3 : Int32).toNatClampNeg).toInt64))) then (((((S.i o1 (0 : Int32).toNatClampNeg).toInt64) * ((S.i o1 (2 : Int32).toNatClampNeg).toInt64)) * x2) - ((x1 * ((S.i o1 (1 : Int32).toNatClampNeg).toInt64)) * ((S.i o1 (3 : Int32).toNatClampNeg).toInt64))) else -(((((S.i o1 (0 : Int32).toNatClampNeg).toInt64) * ((S.i o1 (2 : Int32).toNatClampNeg).toInt64)) * x2) - ((x1 * ((S.i o1 (1 : Int32).toNatClampNeg).toInt64)) * ((S.i o1 (3 : Int32).toNatClampNeg).toInt64))))
set_option maxHeartbeats 4000000 in
set_option maxRecDepth 100000 in
theorem c_X12_offOf_q (l : Launch) {D : va_G} {cy : Nat → ClassId} {X : va_W} (S : wPS) (sz : Nat) (o1 : Nat) (h_o1 : isA S o1 17) (x1 : Int64) (x2 : Int64) (n1 : S.n o1 = 4) : Met l yX12_offOf wsX12_offOf ({ frames := 1, cells := 0, slots := 0, locals := 13 }) (va_Pc [.ref o1, .long x1, .long x2] (fun U => U.heap.size = sz ∧ WD D cy X (fun _ => True) S U ∧ NW U)) (va_Ql (fun r (_ : Unit) => r = f_X12_offOf S o1 x1 x2) (fun _ t => WD D cy X (va_A (X ++ PL cy S) sz) S t) (va_A (X ++ PL cy S) sz)) 0 0 (va_A (X ++ PL cy S) sz) := by
  refine Met.ofW (cc := cX12_offOf) (maxL := 5) (ret := (some .long)) (by decide) rfl ?_
  intro p e s m args below meth c s₁ B hml hv
  obtain ⟨rfl, hsz, ⟨hP, hK, hD0⟩, hN⟩ := hv
  have hx := B.exec
  have hb := B.bytes
  have hr := B.returns
  have hts := atoms_spec (ws := wsX12_offOf) B.pre
  have hown : s.vm.findClass RX12 = some m.cls := findClass_of_methodNamed (x := yX12_offOf) B.named
  have hlocks := B.notSynchronized
  subst hsz
  have hD := hD0.self (sz := s.heap.size)
  generalize hAe : va_A (X ++ PL cy S) s.heap.size = A at hD ⊢
  have hA : ∀ q : Nat, s.heap.size ≤ q → A q := fun q h => by rw [← hAe]; exact Or.inr h
  have hS : va_S A s.heap s.heap [] := va_S.rf
  have hl := lv_entry ([.ref o1, .long x1, .long x2]) (n := 5) (Nat.le_of_ble_eq_true rfl)
  rw [lg_entry_eq]
  generalize (lg_sl ([.ref o1, .long x1, .long x2]) ++ List.replicate (5 - (lg_sl ([.ref o1, .long x1, .long x2])).length) Slot.unset).toArray = ls at hl ⊢
  have hl : lv_has ls 5 [(0, .ref o1), (1, .long x1), (3, .long x2)] := hl
  refine lv_aload_n hx hb dX12_offOf_0 rfl (lv_at hl 0 rfl) ?_
  refine lv_iconst (v := 0) hx hb dX12_offOf_1 (by decide) ?_
  obtain ⟨k1, gk1, hk1⟩ := wGt (cy := cy) X S h_o1.1 h_o1.2.1
  refine va_iald hx hb hK hP k1 2 hk1 rfl (inb n1 (by decide) (by decide)) dX12_offOf_2 ?_
  refine lv_i2l hx hb dX12_offOf_3 rfl ?_
  refine lv_aload_n hx hb dX12_offOf_4 rfl (lv_at hl 0 rfl) ?_
  refine lv_iconst (v := 2) hx hb dX12_offOf_5 (by decide) ?_
  obtain ⟨k2, gk2, hk2⟩ := wGt (cy := cy) X S h_o1.1 h_o1.2.1
  refine va_iald hx hb hK hP k2 2 hk2 rfl (inb n1 (by decide) (by decide)) dX12_offOf_6 ?_
  refine lv_i2l hx hb dX12_offOf_7 rfl ?_
  refine lv_lmul hx hb dX12_offOf_8 ?_
  refine lv_lload_n hx hb dX12_offOf_9 rfl (lv_at hl 2 rfl) ?_
  refine lv_lmul hx hb dX12_offOf_10 ?_
  refine lv_lload_n hx hb dX12_offOf_11 rfl (lv_at hl 1 rfl) ?_
  refine lv_aload_n hx hb dX12_offOf_12 rfl (lv_at hl 0 rfl) ?_
  refine lv_iconst (v := 1) hx hb dX12_offOf_13 (by decide) ?_
  obtain ⟨k3, gk3, hk3⟩ := wGt (cy := cy) X S h_o1.1 h_o1.2.1
  refine va_iald hx hb hK hP k3 2 hk3 rfl (inb n1 (by decide) (by decide)) dX12_offOf_14 ?_
  refine lv_i2l hx hb dX12_offOf_15 rfl ?_
  refine lv_lmul hx hb dX12_offOf_16 ?_
  refine lv_aload_n hx hb dX12_offOf_17 rfl (lv_at hl 0 rfl) ?_
  refine lv_iconst (v := 3) hx hb dX12_offOf_18 (by decide) ?_
  obtain ⟨k4, gk4, hk4⟩ := wGt (cy := cy) X S h_o1.1 h_o1.2.1
  refine va_iald hx hb hK hP k4 2 hk4 rfl (inb n1 (by decide) (by decide)) dX12_offOf_19 ?_
  refine lv_i2l hx hb dX12_offOf_20 rfl ?_
  refine lv_lmul hx hb dX12_offOf_21 ?_
  refine lv_lsub hx hb dX12_offOf_22 ?_
  refine va_mabs_long hx hb (hml.trans hl.1.symm) hown (hts (.methodLink RX12 239 Lib.MathLoose.abs_long.x) (by decide +kernel)) (hts (.static Lib.MathLoose.abs_long.x) (by decide +kernel)) (hts (.initialized "java/lang/Math") (by decide +kernel)) (hts (.code Lib.MathLoose.abs_long.x Lib.MathLoose.abs_long.code 2 (some .long)) (by decide +kernel)) (Nat.le_of_ble_eq_true rfl) (Nat.le_of_ble_eq_true rfl) (Nat.zero_le _) (Nat.zero_le _) dX12_offOf_23 ?_
  refine W.widen (k := 0) (n := 0) (Nat.le_of_ble_eq_true rfl) (Nat.le_of_ble_eq_true rfl) ?_
  exact W.lret (v := (if 0 < (((((S.i o1 (0 : Int32).toNatClampNeg).toInt64) * ((S.i o1 (2 : Int32).toNatClampNeg).toInt64)) * x2) - ((x1 * ((S.i o1 (1 : Int32).toNatClampNeg).toInt64)) * ((S.i o1 (3 : Int32).toNatClampNeg).toInt64))) then (((((S.i o1 (0 : Int32).toNatClampNeg).toInt64) * ((S.i o1 (2 : Int32).toNatClampNeg).toInt64)) * x2) - ((x1 * ((S.i o1 (1 : Int32).toNatClampNeg).toInt64)) * ((S.i o1 (3 : Int32).toNatClampNeg).toInt64))) else -(((((S.i o1 (0 : Int32).toNatClampNeg).toInt64) * ((S.i o1 (2 : Int32).toNatClampNeg).toInt64)) * x2) - ((x1 * ((S.i o1 (1 : Int32).toNatClampNeg).toInt64)) * ((S.i o1 (3 : Int32).toNatClampNeg).toInt64))))) hx hb hr (fun t ht hW9 => ⟨⟨(if 0 < (((((S.i o1 (0 : Int32).toNatClampNeg).toInt64) * ((S.i o1 (2 : Int32).toNatClampNeg).toInt64)) * x2) - ((x1 * ((S.i o1 (1 : Int32).toNatClampNeg).toInt64)) * ((S.i o1 (3 : Int32).toNatClampNeg).toInt64))) then (((((S.i o1 (0 : Int32).toNatClampNeg).toInt64) * ((S.i o1 (2 : Int32).toNatClampNeg).toInt64)) * x2) - ((x1 * ((S.i o1 (1 : Int32).toNatClampNeg).toInt64)) * ((S.i o1 (3 : Int32).toNatClampNeg).toInt64))) else -(((((S.i o1 (0 : Int32).toNatClampNeg).toInt64) * ((S.i o1 (2 : Int32).toNatClampNeg).toInt64)) * x2) - ((x1 * ((S.i o1 (1 : Int32).toNatClampNeg).toInt64)) * ((S.i o1 (3 : Int32).toNatClampNeg).toInt64)))), (), rfl, (by show (if 0 < (((((S.i o1 (0 : Int32).toNatClampNeg).toInt64) * ((S.i o1 (2 : Int32).toNatClampNeg).toInt64)) * x2) - ((x1 * ((S.i o1 (1 : Int32).toNatClampNeg).toInt64)) * ((S.i o1 (3 : Int32).toNatClampNeg).toInt64))) then (((((S.i o1 (0 : Int32).toNatClampNeg).toInt64) * ((S.i o1 (2 : Int32).toNatClampNeg).toInt64)) * x2) - ((x1 * ((S.i o1 (1 : Int32).toNatClampNeg).toInt64)) * ((S.i o1 (3 : Int32).toNatClampNeg).toInt64))) else -(((((S.i o1 (0 : Int32).toNatClampNeg).toInt64) * ((S.i o1 (2 : Int32).toNatClampNeg).toInt64)) * x2) - ((x1 * ((S.i o1 (1 : Int32).toNatClampNeg).toInt64)) * ((S.i o1 (3 : Int32).toNatClampNeg).toInt64)))) = f_X12_offOf S o1 x1 x2; unfold f_X12_offOf; rfl), wd_end hP hK hD ht hW9.alike⟩, hS.F ht⟩) hS.2.2 dX12_offOf_26 hlocks
def f_X12_isBetterFour_L79 (S : wPS) (o1 : Nat) (x1 : Int64) (x2 : Int64) (k : Int32 → Int32) : Nat → Int32 → Int32
  | 0, w79_9 => k w79_9
  | n + 1, w79_9 => if (4 : Int32) ≤ w79_9 then k w79_9 else if (S.i (S.f o1 4) w79_9.toNatClampNeg) = (S.i (S.f o1 3) w79_9.toNatClampNeg) then f_X12_isBetterFour_L79 S o1 x1 x2 k n (w79_9 + (1 : Int32)) else if (S.i (S.f o1 3) w79_9.toNatClampNeg) ≤ (S.i (S.f o1 4) w79_9.toNatClampNeg) then (0 : Int32) else (1 : Int32)
theorem f_X12_isBetterFour_L79_s (S : wPS) (o1 : Nat) (x1 : Int64) (x2 : Int64) (k : Int32 → Int32) (n : Nat) (w79_9 : Int32) : f_X12_isBetterFour_L79 S o1 x1 x2 k (n + 1) w79_9 = if (4 : Int32) ≤ w79_9 then k w79_9 else if (S.i (S.f o1 4) w79_9.toNatClampNeg) = (S.i (S.f o1 3) w79_9.toNatClampNeg) then f_X12_isBetterFour_L79 S o1 x1 x2 k n (w79_9 + (1 : Int32)) else if (S.i (S.f o1 3) w79_9.toNatClampNeg) ≤ (S.i (S.f o1 4) w79_9.toNatClampNeg) then (0 : Int32) else (1 : Int32) := rfl
def f_X12_isBetterFour (S : wPS) (o1 : Nat) (x1 : Int64) (x2 : Int64) : Int32 := if (lg_cmp (((f_X12_offOf S (S.f o1 4) x1 x2) * ((S.i (S.f o1 3) (1 : Int32).toNatClampNeg).toInt64)) * ((S.i (S.f o1 3) (3 : Int32).toNatClampNeg).toInt64)) (((f_X12_offOf S (S.f o1 3) x1 x2) * ((S.i (S.f o1 4) (1 : Int32).toNatClampNeg).toInt64)) * ((S.i (S.f o1 4) (3 : Int32).toNatClampNeg).toInt64))) = (0 : Int32) then f_X12_isBetterFour_L79 S o1 x1 x2 (fun (z31 : Int32) => (0 : Int32)) 5 (0 : Int32) else if (0 : Int32) ≤ (lg_cmp (((f_X12_offOf S (S.f o1 4) x1 x2) * ((S.i (S.f o1 3) (1 : Int32).toNatClampNeg).toInt64)) * ((S.i (S.f o1 3) (3 : Int32).toNatClampNeg).toInt64)) (((f_X12_offOf S (S.f o1 3) x1 x2) * ((S.i (S.f o1 4) (1 : Int32).toNatClampNeg).toInt64)) * ((S.i (S.f o1 4) (3 : Int32).toNatClampNeg).toInt64))) then (0 : Int32) else (1 : Int32)
set_option maxHeartbeats 4000000 in
set_option maxRecDepth 100000 in
theorem c_X12_isBetterFour_q (l : Launch) {D : va_G} {cy : Nat → ClassId} {X : va_W} (S : wPS) (sz : Nat) (o1 : Nat) (h_o1 : isA S o1 12) (x1 : Int64) (x2 : Int64) (hW : wtB S [])  : Met l yX12_isBetterFour wsX12_isBetterFour ({ frames := 2, cells := 0, slots := 0, locals := 37 }) (va_Pc [.ref o1, .long x1, .long x2] (fun U => U.heap.size = sz ∧ WD D cy X (fun _ => True) S U ∧ NW U)) (va_Qi (fun r (_ : Unit) => r = f_X12_isBetterFour S o1 x1 x2 ∧ narrow .boolean (.int r) = .int r) (fun _ t => WD D cy X (va_A (X ++ PL cy S) sz) S t) (va_A (X ++ PL cy S) sz)) 0 0 (va_A (X ++ PL cy S) sz) := by
  refine Met.ofW (cc := cX12_isBetterFour) (maxL := 10) (ret := (some .boolean)) (by decide) rfl ?_
  intro p e s m args below meth c s₁ B hml hv
  obtain ⟨rfl, hsz, ⟨hP, hK, hD0⟩, hN⟩ := hv
  have hx := B.exec
  have hb := B.bytes
  have hr := B.returns
  have hts := atoms_spec (ws := wsX12_isBetterFour) B.pre
  have hown : s.vm.findClass RX12 = some m.cls := findClass_of_methodNamed (x := yX12_isBetterFour) B.named
  have hlocks := B.notSynchronized
  subst hsz
  have hD := hD0.self (sz := s.heap.size)
  generalize hAe : va_A (X ++ PL cy S) s.heap.size = A at hD ⊢
  have hA : ∀ q : Nat, s.heap.size ≤ q → A q := fun q h => by rw [← hAe]; exact Or.inr h
  have hS : va_S A s.heap s.heap [] := va_S.rf
  have hl := lv_entry ([.ref o1, .long x1, .long x2]) (n := 10) (Nat.le_of_ble_eq_true rfl)
  rw [lg_entry_eq]
  generalize (lg_sl ([.ref o1, .long x1, .long x2]) ++ List.replicate (10 - (lg_sl ([.ref o1, .long x1, .long x2])).length) Slot.unset).toArray = ls at hl ⊢
  have hl : lv_has ls 10 [(0, .ref o1), (1, .long x1), (3, .long x2)] := hl
  refine lv_aload_n hx hb dX12_isBetterFour_0 rfl (lv_at hl 0 rfl) ?_
  have F1 := ((hW.at h_o1 List.not_mem_nil).to_12 h_o1.2.1).F4
  obtain ⟨k2, gk2, hk2⟩ := wGt (cy := cy) X S h_o1.1 h_o1.2.1
  simp only [kE, F1.1] at hk2
  refine va_get (D := D) (ci := 16) (v := .ref (S.f o1 4)) (C := RX12) (T := TX12) (N := 34) hx hb hts hi_X12_isBetterFour_X12 hown hK hP k2 hk2 rfl 4 (by decide) (hts (.fieldLink RX12 38 "HobhouseModel" "trial" "[I") (by decide +kernel)) (fun _ h9 => h9) rfl dX12_isBetterFour_1 ?_
  refine lv_lload_n hx hb dX12_isBetterFour_4 rfl (lv_at hl 1 rfl) ?_
  refine lv_lload_n hx hb dX12_isBetterFour_5 rfl (lv_at hl 2 rfl) ?_
  have hFc := free_all hD hS hA
  refine va_calll (va_runS (As := [.ref (S.f o1 4), .long x1, .long x2]) (rest := []) ⟨hx, hb, hml, hown, hts⟩ (c_X12_offOf_q l (cy := cy) (X := X) (D := D) S _ (S.f o1 4) F1.2.1 x1 x2 (F1.2.2)) (cwS 3 hts gX12_isBetterFour_X12_offOf rfl rfl rfl hd_X12_offOf ⟨Nat.le_of_ble_eq_true rfl, Nat.le_of_ble_eq_true rfl⟩) (pS hP hK hD hN) rfl rfl hl.1 rfl (lv_room (Nat.le_of_ble_eq_true rfl)) dX12_isBetterFour_6 ⟨(Nat.zero_le _), (Nat.zero_le _)⟩) hS (fun q _ h => hFc q h) hFc (fun r3 u t H1 locs ht hvm hw hB hz1 hk1 hS => ?_)
  have c4 := hw
  obtain ⟨hP, hD⟩ := wd_post hFc ht hB
  generalize H1 = H at hP hS ⊢
  obtain rfl : f_X12_offOf S (S.f o1 4) x1 x2 = r3 := c4.symm
  refine lv_aload_n hx hb dX12_isBetterFour_9 rfl (lv_at hl 0 rfl) ?_
  have F5 := ((hW.at h_o1 List.not_mem_nil).to_12 h_o1.2.1).F3
  obtain ⟨k6, gk6, hk6⟩ := wGt (cy := cy) X S h_o1.1 h_o1.2.1
  simp only [kE, F5.1] at hk6
  refine va_get (D := D) (ci := 16) (v := .ref (S.f o1 3)) (C := RX12) (T := TX12) (N := 34) hx hb hts hi_X12_isBetterFour_X12 hown hK hP k6 hk6 rfl 3 (by decide) (hts (.fieldLink RX12 35 "HobhouseModel" "four" "[I") (by decide +kernel)) (fun _ h9 => h9) rfl dX12_isBetterFour_10 ?_
  refine lv_iconst (v := 1) hx hb dX12_isBetterFour_13 (by decide) ?_
  obtain ⟨k7, gk7, hk7⟩ := wGt (cy := cy) X S F5.2.1.1 F5.2.1.2.1
  refine va_iald hx hb hK hP k7 2 hk7 rfl (inb F5.2.2 (by decide) (by decide)) dX12_isBetterFour_14 ?_
  refine lv_i2l hx hb dX12_isBetterFour_15 rfl ?_
  refine lv_lmul hx hb dX12_isBetterFour_16 ?_
  refine lv_aload_n hx hb dX12_isBetterFour_17 rfl (lv_at hl 0 rfl) ?_
  obtain ⟨k8, gk8, hk8⟩ := wGt (cy := cy) X S h_o1.1 h_o1.2.1
  simp only [kE, F5.1] at hk8
  refine va_get (D := D) (ci := 16) (v := .ref (S.f o1 3)) (C := RX12) (T := TX12) (N := 34) hx hb hts hi_X12_isBetterFour_X12 hown hK hP k8 hk8 rfl 3 (by decide) (hts (.fieldLink RX12 35 "HobhouseModel" "four" "[I") (by decide +kernel)) (fun _ h9 => h9) rfl dX12_isBetterFour_18 ?_
  refine lv_iconst (v := 3) hx hb dX12_isBetterFour_21 (by decide) ?_
  obtain ⟨k9, gk9, hk9⟩ := wGt (cy := cy) X S F5.2.1.1 F5.2.1.2.1
  refine va_iald hx hb hK hP k9 2 hk9 rfl (inb F5.2.2 (by decide) (by decide)) dX12_isBetterFour_22 ?_
  refine lv_i2l hx hb dX12_isBetterFour_23 rfl ?_
  refine lv_lmul hx hb dX12_isBetterFour_24 ?_
  refine lv_lstore (lv' := [(5, .long (((f_X12_offOf S (S.f o1 4) x1 x2) * ((S.i (S.f o1 3) (1 : Int32).toNatClampNeg).toInt64)) * ((S.i (S.f o1 3) (3 : Int32).toNatClampNeg).toInt64))), (0, .ref o1), (1, .long x1), (3, .long x2)]) hx hb dX12_isBetterFour_25 hl (by decide) rfl (fun ls hl => ?_)
  refine lv_aload_n hx hb dX12_isBetterFour_27 rfl (lv_at hl 1 rfl) ?_
  obtain ⟨k10, gk10, hk10⟩ := wGt (cy := cy) X S h_o1.1 h_o1.2.1
  simp only [kE, F5.1] at hk10
  refine va_get (D := D) (ci := 16) (v := .ref (S.f o1 3)) (C := RX12) (T := TX12) (N := 34) hx hb hts hi_X12_isBetterFour_X12 hown hK hP k10 hk10 rfl 3 (by decide) (hts (.fieldLink RX12 35 "HobhouseModel" "four" "[I") (by decide +kernel)) (fun _ h9 => h9) rfl dX12_isBetterFour_28 ?_
  refine lv_lload_n hx hb dX12_isBetterFour_31 rfl (lv_at hl 2 rfl) ?_
  refine lv_lload_n hx hb dX12_isBetterFour_32 rfl (lv_at hl 3 rfl) ?_
  have hFc := free_all hD hS hA
  refine va_calll (va_runS (As := [.ref (S.f o1 3), .long x1, .long x2]) (rest := []) ⟨hx, hb, hml, hown, hts⟩ (c_X12_offOf_q l (cy := cy) (X := X) (D := D) S _ (S.f o1 3) F5.2.1 x1 x2 (F5.2.2)) (cwS 3 hts gX12_isBetterFour_X12_offOf rfl rfl rfl hd_X12_offOf ⟨Nat.le_of_ble_eq_true rfl, Nat.le_of_ble_eq_true rfl⟩) (pS hP hK hD hN) rfl rfl hl.1 rfl (lv_room (Nat.le_of_ble_eq_true rfl)) dX12_isBetterFour_33 ⟨(Nat.zero_le _), (Nat.zero_le _)⟩) hS (fun q _ h => hFc q h) hFc (fun r11 u t H1 locs ht hvm hw hB hz1 hk1 hS => ?_)
  have c12 := hw
  obtain ⟨hP, hD⟩ := wd_post hFc ht hB
  generalize H1 = H at hP hS ⊢
  obtain rfl : f_X12_offOf S (S.f o1 3) x1 x2 = r11 := c12.symm
  refine lv_aload_n hx hb dX12_isBetterFour_36 rfl (lv_at hl 1 rfl) ?_
  obtain ⟨k13, gk13, hk13⟩ := wGt (cy := cy) X S h_o1.1 h_o1.2.1
  simp only [kE, F1.1] at hk13
  refine va_get (D := D) (ci := 16) (v := .ref (S.f o1 4)) (C := RX12) (T := TX12) (N := 34) hx hb hts hi_X12_isBetterFour_X12 hown hK hP k13 hk13 rfl 4 (by decide) (hts (.fieldLink RX12 38 "HobhouseModel" "trial" "[I") (by decide +kernel)) (fun _ h9 => h9) rfl dX12_isBetterFour_37 ?_
  refine lv_iconst (v := 1) hx hb dX12_isBetterFour_40 (by decide) ?_
  obtain ⟨k14, gk14, hk14⟩ := wGt (cy := cy) X S F1.2.1.1 F1.2.1.2.1
  refine va_iald hx hb hK hP k14 2 hk14 rfl (inb F1.2.2 (by decide) (by decide)) dX12_isBetterFour_41 ?_
  refine lv_i2l hx hb dX12_isBetterFour_42 rfl ?_
  refine lv_lmul hx hb dX12_isBetterFour_43 ?_
  refine lv_aload_n hx hb dX12_isBetterFour_44 rfl (lv_at hl 1 rfl) ?_
  obtain ⟨k15, gk15, hk15⟩ := wGt (cy := cy) X S h_o1.1 h_o1.2.1
  simp only [kE, F1.1] at hk15
  refine va_get (D := D) (ci := 16) (v := .ref (S.f o1 4)) (C := RX12) (T := TX12) (N := 34) hx hb hts hi_X12_isBetterFour_X12 hown hK hP k15 hk15 rfl 4 (by decide) (hts (.fieldLink RX12 38 "HobhouseModel" "trial" "[I") (by decide +kernel)) (fun _ h9 => h9) rfl dX12_isBetterFour_45 ?_
  refine lv_iconst (v := 3) hx hb dX12_isBetterFour_48 (by decide) ?_
  obtain ⟨k16, gk16, hk16⟩ := wGt (cy := cy) X S F1.2.1.1 F1.2.1.2.1
  refine va_iald hx hb hK hP k16 2 hk16 rfl (inb F1.2.2 (by decide) (by decide)) dX12_isBetterFour_49 ?_
  refine lv_i2l hx hb dX12_isBetterFour_50 rfl ?_
  refine lv_lmul hx hb dX12_isBetterFour_51 ?_
  refine lv_lstore (lv' := [(7, .long (((f_X12_offOf S (S.f o1 3) x1 x2) * ((S.i (S.f o1 4) (1 : Int32).toNatClampNeg).toInt64)) * ((S.i (S.f o1 4) (3 : Int32).toNatClampNeg).toInt64))), (5, .long (((f_X12_offOf S (S.f o1 4) x1 x2) * ((S.i (S.f o1 3) (1 : Int32).toNatClampNeg).toInt64)) * ((S.i (S.f o1 3) (3 : Int32).toNatClampNeg).toInt64))), (0, .ref o1), (1, .long x1), (3, .long x2)]) hx hb dX12_isBetterFour_52 hl (by decide) rfl (fun ls hl => ?_)
  refine lv_lload hx hb dX12_isBetterFour_54 (lv_at hl 1 rfl) ?_
  refine lv_lload hx hb dX12_isBetterFour_56 (lv_at hl 0 rfl) ?_
  refine W.lcmp hx hb dX12_isBetterFour_58 ?_
  refine lv_if_eq (tgt := 76) hx hb dX12_isBetterFour_59 (by decide) (fun c17 => ?_) (fun c17 => ?_)
  · refine lv_iconst (v := 0) hx hb dX12_isBetterFour_76 (by decide) ?_
    refine lv_istore (lv' := [(9, .int (0 : Int32)), (7, .long (((f_X12_offOf S (S.f o1 3) x1 x2) * ((S.i (S.f o1 4) (1 : Int32).toNatClampNeg).toInt64)) * ((S.i (S.f o1 4) (3 : Int32).toNatClampNeg).toInt64))), (5, .long (((f_X12_offOf S (S.f o1 4) x1 x2) * ((S.i (S.f o1 3) (1 : Int32).toNatClampNeg).toInt64)) * ((S.i (S.f o1 3) (3 : Int32).toNatClampNeg).toInt64))), (0, .ref o1), (1, .long x1), (3, .long x2)]) hx hb dX12_isBetterFour_77 hl (by decide) rfl (fun ls hl => ?_)
    have l32_0 : (0 : Int32).toInt = 0 := rfl
    have loop79 : ∀ (K79 : Int32 → Int32) (n : Nat) (w79_9 : Int32) (H : Heap) (locs : List Loc) (ls : Array Slot), (4 - w79_9.toInt).toNat < n → 0 ≤ w79_9.toInt ∧ w79_9.toInt ≤ 4 → va_P D vwCl (X ++ PL cy S) H → va_S A s.heap H locs → lv_has ls 10 [(9, .int w79_9), (7, .long (((f_X12_offOf S (S.f o1 3) x1 x2) * ((S.i (S.f o1 4) (1 : Int32).toNatClampNeg).toInt64)) * ((S.i (S.f o1 4) (3 : Int32).toNatClampNeg).toInt64))), (5, .long (((f_X12_offOf S (S.f o1 4) x1 x2) * ((S.i (S.f o1 3) (1 : Int32).toNatClampNeg).toInt64)) * ((S.i (S.f o1 3) (3 : Int32).toNatClampNeg).toInt64))), (0, .ref o1), (1, .long x1), (3, .long x2)] → f_X12_isBetterFour S o1 x1 x2 = f_X12_isBetterFour_L79 S o1 x1 x2 K79 n w79_9 → (∀ (w79_9x : Int32) (H : Heap) (locs : List Loc) (ls : Array Slot), 0 ≤ w79_9x.toInt ∧ w79_9x.toInt ≤ 4 → va_P D vwCl (X ++ PL cy S) H → va_S A s.heap H locs → lv_has ls 10 [(9, .int w79_9x), (7, .long (((f_X12_offOf S (S.f o1 3) x1 x2) * ((S.i (S.f o1 4) (1 : Int32).toNatClampNeg).toInt64)) * ((S.i (S.f o1 4) (3 : Int32).toNatClampNeg).toInt64))), (5, .long (((f_X12_offOf S (S.f o1 4) x1 x2) * ((S.i (S.f o1 3) (1 : Int32).toNatClampNeg).toInt64)) * ((S.i (S.f o1 3) (3 : Int32).toNatClampNeg).toInt64))), (0, .ref o1), (1, .long x1), (3, .long x2)] → f_X12_isBetterFour S o1 x1 x2 = K79 w79_9x → W p l e (headSpec wsX12_isBetterFour ({ frames := 2, cells := 0, slots := 0, locals := 37 } : Room)).room s m [.ref o1, .long x1, .long x2].toArray below meth c H locs 0 0 (MQ below (va_Qi (fun r (_ : Unit) => r = f_X12_isBetterFour S o1 x1 x2 ∧ narrow .boolean (.int r) = .int r) (fun _ t => WD D cy X A S t) A) [.ref o1, .long x1, .long x2].toArray s 0 0 A) (F0 m 131 ls [])) → W p l e (headSpec wsX12_isBetterFour ({ frames := 2, cells := 0, slots := 0, locals := 37 } : Room)).room s m [.ref o1, .long x1, .long x2].toArray below meth c H locs 0 0 (MQ below (va_Qi (fun r (_ : Unit) => r = f_X12_isBetterFour S o1 x1 x2 ∧ narrow .boolean (.int r) = .int r) (fun _ t => WD D cy X A S t) A) [.ref o1, .long x1, .long x2].toArray s 0 0 A) (F0 m 79 ls []) := by
      intro K79 n79
      induction n79 with
      | zero => intro w79_9 H locs ls hm; exact absurd hm (Nat.not_lt_zero _)
      | succ n79 ih79 =>
        intro w79_9 H locs ls hm79 hi79 hP hS hl hq79 ko79
        refine lv_iload hx hb dX12_isBetterFour_79 (lv_at hl 0 rfl) ?_
        refine lv_iconst (v := 4) hx hb dX12_isBetterFour_81 (by decide) ?_
        refine lv_icmp_ge (tgt := 131) hx hb dX12_isBetterFour_82 (by decide) (fun c18 => ?_) (fun c18 => ?_)
        · have c18i : 4 ≤ w79_9.toInt := le_v rfl rfl c18
          exact ko79 w79_9 _ _ _ (by omega) hP hS (lv_sub hl [0, 1, 2, 3, 4, 5] rfl) (by rw [hq79, f_X12_isBetterFour_L79_s, if_pos c18])
        · have c18i : w79_9.toInt < 4 := nle_v rfl rfl c18
          refine lv_aload_n hx hb dX12_isBetterFour_85 rfl (lv_at hl 3 rfl) ?_
          obtain ⟨k19, gk19, hk19⟩ := wGt (cy := cy) X S h_o1.1 h_o1.2.1
          simp only [kE, F1.1] at hk19
          refine va_get (D := D) (ci := 16) (v := .ref (S.f o1 4)) (C := RX12) (T := TX12) (N := 34) hx hb hts hi_X12_isBetterFour_X12 hown hK hP k19 hk19 rfl 4 (by decide) (hts (.fieldLink RX12 38 "HobhouseModel" "trial" "[I") (by decide +kernel)) (fun _ h9 => h9) rfl dX12_isBetterFour_86 ?_
          refine lv_iload hx hb dX12_isBetterFour_89 (lv_at hl 0 rfl) ?_
          obtain ⟨k20, gk20, hk20⟩ := wGt (cy := cy) X S F1.2.1.1 F1.2.1.2.1
          refine va_iald hx hb hK hP k20 2 hk20 rfl (inb (m := 4) F1.2.2 (by omega) (by omega)) dX12_isBetterFour_91 ?_
          refine lv_aload_n hx hb dX12_isBetterFour_92 rfl (lv_at hl 3 rfl) ?_
          obtain ⟨k21, gk21, hk21⟩ := wGt (cy := cy) X S h_o1.1 h_o1.2.1
          simp only [kE, F5.1] at hk21
          refine va_get (D := D) (ci := 16) (v := .ref (S.f o1 3)) (C := RX12) (T := TX12) (N := 34) hx hb hts hi_X12_isBetterFour_X12 hown hK hP k21 hk21 rfl 3 (by decide) (hts (.fieldLink RX12 35 "HobhouseModel" "four" "[I") (by decide +kernel)) (fun _ h9 => h9) rfl dX12_isBetterFour_93 ?_
          refine lv_iload hx hb dX12_isBetterFour_96 (lv_at hl 0 rfl) ?_
          obtain ⟨k22, gk22, hk22⟩ := wGt (cy := cy) X S F5.2.1.1 F5.2.1.2.1
          refine va_iald hx hb hK hP k22 2 hk22 rfl (inb (m := 4) F5.2.2 (by omega) (by omega)) dX12_isBetterFour_98 ?_
          refine lv_icmp_eq (tgt := 125) hx hb dX12_isBetterFour_99 (by decide) (fun c23 => ?_) (fun c23 => ?_)
          · have c23i : (S.i (S.f o1 4) w79_9.toNatClampNeg).toInt = (S.i (S.f o1 3) w79_9.toNatClampNeg).toInt := eq_v rfl rfl c23
            refine lv_iinc (v := w79_9 + (1 : Int32)) (lv' := [(9, .int (w79_9 + (1 : Int32))), (7, .long (((f_X12_offOf S (S.f o1 3) x1 x2) * ((S.i (S.f o1 4) (1 : Int32).toNatClampNeg).toInt64)) * ((S.i (S.f o1 4) (3 : Int32).toNatClampNeg).toInt64))), (5, .long (((f_X12_offOf S (S.f o1 4) x1 x2) * ((S.i (S.f o1 3) (1 : Int32).toNatClampNeg).toInt64)) * ((S.i (S.f o1 3) (3 : Int32).toNatClampNeg).toInt64))), (0, .ref o1), (1, .long x1), (3, .long x2)]) hx hb dX12_isBetterFour_125 hl (k := 0) rfl (by rfl) (by decide) rfl (fun ls hl => ?_)
            refine lv_goto (tgt := 79) hx hb dX12_isBetterFour_128 (by decide) ?_
            have l32_1 : (1 : Int32).toInt = 1 := rfl
            have i24 : (w79_9 + (1 : Int32)).toInt = w79_9.toInt + 1 := t_addr (n := 1) rfl (by omega)
            exact ih79 (w79_9 + (1 : Int32)) _ _ _ (Nat.lt_of_lt_of_le (by omega) (Nat.le_of_lt_succ hm79)) (by omega) hP hS (lv_sub hl [0, 1, 2, 3, 4, 5] rfl) (by rw [hq79, f_X12_isBetterFour_L79_s, if_neg c18, if_pos c23]) ko79
          · have c23i : ¬ (S.i (S.f o1 4) w79_9.toNatClampNeg).toInt = (S.i (S.f o1 3) w79_9.toNatClampNeg).toInt := neq_v rfl rfl c23
            refine lv_aload_n hx hb dX12_isBetterFour_102 rfl (lv_at hl 3 rfl) ?_
            obtain ⟨k25, gk25, hk25⟩ := wGt (cy := cy) X S h_o1.1 h_o1.2.1
            simp only [kE, F1.1] at hk25
            refine va_get (D := D) (ci := 16) (v := .ref (S.f o1 4)) (C := RX12) (T := TX12) (N := 34) hx hb hts hi_X12_isBetterFour_X12 hown hK hP k25 hk25 rfl 4 (by decide) (hts (.fieldLink RX12 38 "HobhouseModel" "trial" "[I") (by decide +kernel)) (fun _ h9 => h9) rfl dX12_isBetterFour_103 ?_
            refine lv_iload hx hb dX12_isBetterFour_106 (lv_at hl 0 rfl) ?_
            obtain ⟨k26, gk26, hk26⟩ := wGt (cy := cy) X S F1.2.1.1 F1.2.1.2.1
            refine va_iald hx hb hK hP k26 2 hk26 rfl (inb (m := 4) F1.2.2 (by omega) (by omega)) dX12_isBetterFour_108 ?_
            refine lv_aload_n hx hb dX12_isBetterFour_109 rfl (lv_at hl 3 rfl) ?_
            obtain ⟨k27, gk27, hk27⟩ := wGt (cy := cy) X S h_o1.1 h_o1.2.1
            simp only [kE, F5.1] at hk27
            refine va_get (D := D) (ci := 16) (v := .ref (S.f o1 3)) (C := RX12) (T := TX12) (N := 34) hx hb hts hi_X12_isBetterFour_X12 hown hK hP k27 hk27 rfl 3 (by decide) (hts (.fieldLink RX12 35 "HobhouseModel" "four" "[I") (by decide +kernel)) (fun _ h9 => h9) rfl dX12_isBetterFour_110 ?_
            refine lv_iload hx hb dX12_isBetterFour_113 (lv_at hl 0 rfl) ?_
            obtain ⟨k28, gk28, hk28⟩ := wGt (cy := cy) X S F5.2.1.1 F5.2.1.2.1
            refine va_iald hx hb hK hP k28 2 hk28 rfl (inb (m := 4) F5.2.2 (by omega) (by omega)) dX12_isBetterFour_115 ?_
            refine lv_icmp_ge (tgt := 123) hx hb dX12_isBetterFour_116 (by decide) (fun c29 => ?_) (fun c29 => ?_)
            · have c29i : (S.i (S.f o1 3) w79_9.toNatClampNeg).toInt ≤ (S.i (S.f o1 4) w79_9.toNatClampNeg).toInt := le_v rfl rfl c29
              refine lv_iconst (v := 0) hx hb dX12_isBetterFour_123 (by decide) ?_
              refine W.widen (k := 0) (n := 0) (Nat.le_of_ble_eq_true rfl) (Nat.le_of_ble_eq_true rfl) ?_
              exact W.zret (v := (0 : Int32)) hx hb hr (by rfl) (fun t ht hW9 => ⟨⟨(0 : Int32), (), rfl, ⟨(by rw [hq79, f_X12_isBetterFour_L79_s, if_neg c18, if_neg c23, if_pos c29]), (by rfl)⟩, wd_end hP hK hD ht hW9.alike⟩, hS.F ht⟩) hS.2.2 dX12_isBetterFour_124 hlocks
            · have c29i : (S.i (S.f o1 4) w79_9.toNatClampNeg).toInt < (S.i (S.f o1 3) w79_9.toNatClampNeg).toInt := nle_v rfl rfl c29
              refine lv_iconst (v := 1) hx hb dX12_isBetterFour_119 (by decide) ?_
              refine lv_goto (tgt := 124) hx hb dX12_isBetterFour_120 (by decide) ?_
              refine W.widen (k := 0) (n := 0) (Nat.le_of_ble_eq_true rfl) (Nat.le_of_ble_eq_true rfl) ?_
              exact W.zret (v := (1 : Int32)) hx hb hr (by rfl) (fun t ht hW9 => ⟨⟨(1 : Int32), (), rfl, ⟨(by rw [hq79, f_X12_isBetterFour_L79_s, if_neg c18, if_neg c23, if_neg c29]), (by rfl)⟩, wd_end hP hK hD ht hW9.alike⟩, hS.F ht⟩) hS.2.2 dX12_isBetterFour_124 hlocks
    refine loop79 (fun (z31 : Int32) => (0 : Int32)) 5 (0 : Int32) _ _ _ (by omega) (by omega) hP hS (lv_sub hl [0, 1, 2, 3, 4, 5] rfl) (by unfold f_X12_isBetterFour; rw [if_pos c17]) (fun z31 H locs ls hi79 hP hS hl c30 => ?_)
    try dsimp only at c30
    refine lv_iconst (v := 0) hx hb dX12_isBetterFour_131 (by decide) ?_
    refine W.widen (k := 0) (n := 0) (Nat.le_of_ble_eq_true rfl) (Nat.le_of_ble_eq_true rfl) ?_
    exact W.zret (v := (0 : Int32)) hx hb hr (by rfl) (fun t ht hW9 => ⟨⟨(0 : Int32), (), rfl, ⟨(by rw [c30]), (by rfl)⟩, wd_end hP hK hD ht hW9.alike⟩, hS.F ht⟩) hS.2.2 dX12_isBetterFour_132 hlocks
  · refine lv_lload hx hb dX12_isBetterFour_62 (lv_at hl 1 rfl) ?_
    refine lv_lload hx hb dX12_isBetterFour_64 (lv_at hl 0 rfl) ?_
    refine W.lcmp hx hb dX12_isBetterFour_66 ?_
    refine lv_if_ge (tgt := 74) hx hb dX12_isBetterFour_67 (by decide) (fun c32 => ?_) (fun c32 => ?_)
    · refine lv_iconst (v := 0) hx hb dX12_isBetterFour_74 (by decide) ?_
      refine W.widen (k := 0) (n := 0) (Nat.le_of_ble_eq_true rfl) (Nat.le_of_ble_eq_true rfl) ?_
      exact W.zret (v := (0 : Int32)) hx hb hr (by rfl) (fun t ht hW9 => ⟨⟨(0 : Int32), (), rfl, ⟨(by show (0 : Int32) = f_X12_isBetterFour S o1 x1 x2; unfold f_X12_isBetterFour; rw [if_neg c17, if_pos c32]), (by rfl)⟩, wd_end hP hK hD ht hW9.alike⟩, hS.F ht⟩) hS.2.2 dX12_isBetterFour_75 hlocks
    · refine lv_iconst (v := 1) hx hb dX12_isBetterFour_70 (by decide) ?_
      refine lv_goto (tgt := 75) hx hb dX12_isBetterFour_71 (by decide) ?_
      refine W.widen (k := 0) (n := 0) (Nat.le_of_ble_eq_true rfl) (Nat.le_of_ble_eq_true rfl) ?_
      exact W.zret (v := (1 : Int32)) hx hb hr (by rfl) (fun t ht hW9 => ⟨⟨(1 : Int32), (), rfl, ⟨(by show (1 : Int32) = f_X12_isBetterFour S o1 x1 x2; unfold f_X12_isBetterFour; rw [if_neg c17, if_neg c32]), (by rfl)⟩, wd_end hP hK hD ht hW9.alike⟩, hS.F ht⟩) hS.2.2 dX12_isBetterFour_75 hlocks
def f_X12_tries_4_L28 (S : wPS) (o1 : Nat) (x1 : Int32) (x2 : Int32) (x3 : Int64) (x4 : Int64) : Nat → wPS → Int32 → wPS × Int32
  | 0, S28_, w28_7 => (S28_, w28_7)
  | n + 1, S28_, w28_7 => if (4 : Int32) ≤ w28_7 then (S28_, w28_7) else l1 (S28_.si (S.f o1 3) (upd (S28_.i (S.f o1 3)) w28_7.toNatClampNeg (S28_.i (S.f o1 4) w28_7.toNatClampNeg))) (fun S12 => f_X12_tries_4_L28 S o1 x1 x2 x3 x4 n S12 (w28_7 + (1 : Int32)))
theorem f_X12_tries_4_L28_s (S : wPS) (o1 : Nat) (x1 : Int32) (x2 : Int32) (x3 : Int64) (x4 : Int64) (n : Nat) (S28_ : wPS) (w28_7 : Int32) : f_X12_tries_4_L28 S o1 x1 x2 x3 x4 (n + 1) S28_ w28_7 = if (4 : Int32) ≤ w28_7 then (S28_, w28_7) else l1 (S28_.si (S.f o1 3) (upd (S28_.i (S.f o1 3)) w28_7.toNatClampNeg (S28_.i (S.f o1 4) w28_7.toNatClampNeg))) (fun S12 => f_X12_tries_4_L28 S o1 x1 x2 x3 x4 n S12 (w28_7 + (1 : Int32))) := rfl
def f_X12_tries_4 (S : wPS) (o1 : Nat) (x1 : Int32) (x2 : Int32) (x3 : Int64) (x4 : Int64) : wPS := if x1 = (4 : Int32) then if (S.i (S.f o1 3) (0 : Int32).toNatClampNeg) ≤ (0 : Int32) then l2 (f_X12_tries_4_L28 S o1 x1 x2 x3 x4 5 S (0 : Int32)) (fun S17 z18 => S17) else if (f_X12_isBetterFour S o1 x3 x4) = (0 : Int32) then S else l2 (f_X12_tries_4_L28 S o1 x1 x2 x3 x4 5 S (0 : Int32)) (fun S36 z37 => S36) else S
set_option maxHeartbeats 4000000 in
set_option maxRecDepth 100000 in
theorem c_X12_tries_4_q (l : Launch) {D : va_G} {cy : Nat → ClassId} {X : va_W} (S : wPS) (sz : Nat) (o1 : Nat) (h_o1 : isA S o1 12) (x1 : Int32) (x2 : Int32) (x3 : Int64) (x4 : Int64) (hW : wtB S []) (h1 : x1.toInt = 4) : Met l yX12_tries wsX12_tries ({ frames := 3, cells := 0, slots := 0, locals := 66 }) (va_Pc [.ref o1, .int x1, .int x2, .long x3, .long x4] (fun U => U.heap.size = sz ∧ WD D cy X (fun _ => True) S U ∧ NW U)) (va_Qv (fun (u : wPS) => u = f_X12_tries_4 S o1 x1 x2 x3 x4 ∧ stp [(17, 100)] [] [] S u) (fun u t => WD D cy X (va_A (X ++ PL cy S) sz) u t) (va_A (X ++ PL cy S) sz)) 0 0 (va_A (X ++ PL cy S) sz) := by
  refine Met.ofW (cc := cX12_tries) (maxL := 8) (ret := none) (by decide) rfl ?_
  intro p e s m args below meth c s₁ B hml hv
  obtain ⟨rfl, hsz, ⟨hP, hK, hD0⟩, hN⟩ := hv
  have hx := B.exec
  have hb := B.bytes
  have hr := B.returns
  have hts := atoms_spec (ws := wsX12_tries) B.pre
  have hown : s.vm.findClass RX12 = some m.cls := findClass_of_methodNamed (x := yX12_tries) B.named
  have hlocks := B.notSynchronized
  subst hsz
  have hD := hD0.self (sz := s.heap.size)
  generalize hAe : va_A (X ++ PL cy S) s.heap.size = A at hD ⊢
  have hA : ∀ q : Nat, s.heap.size ≤ q → A q := fun q h => by rw [← hAe]; exact Or.inr h
  have hS : va_S A s.heap s.heap [] := va_S.rf
  have hl := lv_entry ([.ref o1, .int x1, .int x2, .long x3, .long x4]) (n := 8) (Nat.le_of_ble_eq_true rfl)
  rw [lg_entry_eq]
  generalize (lg_sl ([.ref o1, .int x1, .int x2, .long x3, .long x4]) ++ List.replicate (8 - (lg_sl ([.ref o1, .int x1, .int x2, .long x3, .long x4])).length) Slot.unset).toArray = ls at hl ⊢
  have hl : lv_has ls 8 [(0, .ref o1), (1, .int x1), (2, .int x2), (3, .long x3), (5, .long x4)] := hl
  have t0 : stp [(17, 100)] [] [] S S := stp.rf hW
  have r16 := ((hW.at h_o1 List.not_mem_nil).to_12 h_o1.2.1).R16
  refine lv_iload_n hx hb dX12_tries_0 rfl (lv_at hl 1 rfl) ?_
  refine lv_iconst (v := 4) hx hb dX12_tries_1 (by decide) ?_
  refine lv_icmp_ne (tgt := 55) hx hb dX12_tries_2 (by decide) (fun c1 => ?_) (fun c1 => ?_)
  · have c1i : ¬ x1.toInt = 4 := neq_v rfl rfl c1
    exact False.elim (by omega)
  · have c1i : x1.toInt = 4 := eq_v rfl rfl c1
    refine lv_aload_n hx hb dX12_tries_5 rfl (lv_at hl 0 rfl) ?_
    have F2 := ((hW.at h_o1 List.not_mem_nil).to_12 h_o1.2.1).F3
    obtain ⟨k3, gk3, hk3⟩ := wGt (cy := cy) X S h_o1.1 h_o1.2.1
    simp only [kE, F2.1] at hk3
    refine va_get (D := D) (ci := 16) (v := .ref (S.f o1 3)) (C := RX12) (T := TX12) (N := 34) hx hb hts hi_X12_tries_X12 hown hK hP k3 hk3 rfl 3 (by decide) (hts (.fieldLink RX12 35 "HobhouseModel" "four" "[I") (by decide +kernel)) (fun _ h9 => h9) rfl dX12_tries_6 ?_
    refine lv_iconst (v := 0) hx hb dX12_tries_9 (by decide) ?_
    obtain ⟨k4, gk4, hk4⟩ := wGt (cy := cy) X S F2.2.1.1 F2.2.1.2.1
    refine va_iald hx hb hK hP k4 2 hk4 rfl (inb F2.2.2 (by decide) (by decide)) dX12_tries_10 ?_
    refine lv_if_le (tgt := 25) hx hb dX12_tries_11 (by decide) (fun c5 => ?_) (fun c5 => ?_)
    · have c5i : (S.i (S.f o1 3) (0 : Int32).toNatClampNeg).toInt ≤ 0 := le_v rfl rfl c5
      refine lv_iconst (v := 0) hx hb dX12_tries_25 (by decide) ?_
      refine lv_istore (lv' := [(7, .int (0 : Int32)), (0, .ref o1), (1, .int x1), (2, .int x2), (3, .long x3), (5, .long x4)]) hx hb dX12_tries_26 hl (by decide) rfl (fun ls hl => ?_)
      have l32_0 : (0 : Int32).toInt = 0 := rfl
      have loop28 : ∀ (n : Nat) (S28_ : wPS) (w28_7 : Int32) (H : Heap) (locs : List Loc) (ls : Array Slot), (4 - w28_7.toInt).toNat < n → 0 ≤ w28_7.toInt ∧ w28_7.toInt ≤ 4 → stp [(17, 100)] [] [] S S28_ → va_P D vwCl (X ++ PL cy S28_) H → va_D A (X ++ PL cy S28_) → va_S A s.heap H locs → lv_has ls 8 [(7, .int w28_7), (0, .ref o1), (1, .int x1), (2, .int x2), (3, .long x3), (5, .long x4)] → (∀ (S28_x : wPS) (w28_7x : Int32) (H : Heap) (locs : List Loc) (ls : Array Slot), 0 ≤ w28_7x.toInt ∧ w28_7x.toInt ≤ 4 → stp [(17, 100)] [] [] S S28_x → va_P D vwCl (X ++ PL cy S28_x) H → va_D A (X ++ PL cy S28_x) → va_S A s.heap H locs → lv_has ls 8 [(7, .int w28_7x), (0, .ref o1), (1, .int x1), (2, .int x2), (3, .long x3), (5, .long x4)] → f_X12_tries_4_L28 S o1 x1 x2 x3 x4 n S28_ w28_7 = (S28_x, w28_7x) → W p l e (headSpec wsX12_tries ({ frames := 3, cells := 0, slots := 0, locals := 66 } : Room)).room s m [.ref o1, .int x1, .int x2, .long x3, .long x4].toArray below meth c H locs 0 0 (MQ below (va_Qv (fun (u : wPS) => u = f_X12_tries_4 S o1 x1 x2 x3 x4 ∧ stp [(17, 100)] [] [] S u) (fun u t => WD D cy X A u t) A) [.ref o1, .int x1, .int x2, .long x3, .long x4].toArray s 0 0 A) (F0 m 54 ls [])) → W p l e (headSpec wsX12_tries ({ frames := 3, cells := 0, slots := 0, locals := 66 } : Room)).room s m [.ref o1, .int x1, .int x2, .long x3, .long x4].toArray below meth c H locs 0 0 (MQ below (va_Qv (fun (u : wPS) => u = f_X12_tries_4 S o1 x1 x2 x3 x4 ∧ stp [(17, 100)] [] [] S u) (fun u t => WD D cy X A u t) A) [.ref o1, .int x1, .int x2, .long x3, .long x4].toArray s 0 0 A) (F0 m 28 ls []) := by
        intro n28
        induction n28 with
        | zero => intro S28_ w28_7 H locs ls hm; exact absurd hm (Nat.not_lt_zero _)
        | succ n28 ih28 =>
          intro S28_ w28_7 H locs ls hm28 hi28 hsh28 hP hD hS hl ko28
          refine lv_iload hx hb dX12_tries_28 (lv_at hl 0 rfl) ?_
          refine lv_iconst (v := 4) hx hb dX12_tries_30 (by decide) ?_
          refine lv_icmp_ge (tgt := 54) hx hb dX12_tries_31 (by decide) (fun c6 => ?_) (fun c6 => ?_)
          · have c6i : 4 ≤ w28_7.toInt := le_v rfl rfl c6
            exact ko28 S28_ w28_7 _ _ _ (by omega) hsh28 hP hD hS (lv_sub hl [0, 1, 2, 3, 4, 5] rfl) (by rw [f_X12_tries_4_L28_s, if_pos c6])
          · have c6i : w28_7.toInt < 4 := nle_v rfl rfl c6
            refine lv_aload_n hx hb dX12_tries_34 rfl (lv_at hl 1 rfl) ?_
            obtain ⟨k7, gk7, hk7⟩ := wGt (cy := cy) X S28_ (hsh28.x.A h_o1).1 (hsh28.x.A h_o1).2.1
            simp only [kE, (hsh28.x.F h_o1 (by decide) F2.1)] at hk7
            refine va_get (D := D) (ci := 16) (v := .ref (S.f o1 3)) (C := RX12) (T := TX12) (N := 34) hx hb hts hi_X12_tries_X12 hown hK hP k7 hk7 rfl 3 (by decide) (hts (.fieldLink RX12 35 "HobhouseModel" "four" "[I") (by decide +kernel)) (fun _ h9 => h9) rfl dX12_tries_35 ?_
            refine lv_iload hx hb dX12_tries_38 (lv_at hl 0 rfl) ?_
            refine lv_aload_n hx hb dX12_tries_40 rfl (lv_at hl 1 rfl) ?_
            have F8 := ((hW.at h_o1 List.not_mem_nil).to_12 h_o1.2.1).F4
            obtain ⟨k9, gk9, hk9⟩ := wGt (cy := cy) X S28_ (hsh28.x.A h_o1).1 (hsh28.x.A h_o1).2.1
            simp only [kE, (hsh28.x.F h_o1 (by decide) F8.1)] at hk9
            refine va_get (D := D) (ci := 16) (v := .ref (S.f o1 4)) (C := RX12) (T := TX12) (N := 34) hx hb hts hi_X12_tries_X12 hown hK hP k9 hk9 rfl 4 (by decide) (hts (.fieldLink RX12 38 "HobhouseModel" "trial" "[I") (by decide +kernel)) (fun _ h9 => h9) rfl dX12_tries_41 ?_
            refine lv_iload hx hb dX12_tries_44 (lv_at hl 0 rfl) ?_
            obtain ⟨k10, gk10, hk10⟩ := wGt (cy := cy) X S28_ (hsh28.x.A F8.2.1).1 (hsh28.x.A F8.2.1).2.1
            refine va_iald hx hb hK hP k10 2 hk10 rfl (inb (m := 4) ((hsh28.x.n F8.2.1).trans F8.2.2) (by omega) (by omega)) dX12_tries_46 ?_
            obtain ⟨k11, gk11, hk11⟩ := wGt (cy := cy) X S28_ (hsh28.x.A F2.2.1).1 (hsh28.x.A F2.2.1).2.1
            refine va_iast hx hb hK hP hD hS k11 2 hk11 rfl (inb (m := 4) ((hsh28.x.n F2.2.1).trans F2.2.2) (by omega) (by omega)) dX12_tries_47 (fun H locs hP2 hD2 hS => ?_)
            have e9 := wPui (cy := cy) (f := (upd (S28_.i (S.f o1 3)) w28_7.toNatClampNeg (S28_.i (S.f o1 4) w28_7.toNatClampNeg))) hD (hsh28.x.A F2.2.1).1 (hsh28.x.A F2.2.1).2.1 gk11 rfl
            obtain ⟨S12, hS12⟩ : ∃ z, S28_.si (S.f o1 3) (upd (S28_.i (S.f o1 3)) w28_7.toNatClampNeg (S28_.i (S.f o1 4) w28_7.toNatClampNeg)) = z := ⟨_, rfl⟩
            have hP : va_P D vwCl (X ++ PL cy S12) H := by rw [← hS12, ← e9]; exact hP2
            have hD : va_D A (X ++ PL cy S12) := by rw [← hS12, ← e9]; exact hD2
            have xe13 : ext S28_ S12 := by rw [← hS12]; exact ext.si _ _ _
            have t14 : stp [(17, 100)] [] [] S S12 := by rw [← hS12]; exact hsh28.i (upd (S28_.i (S.f o1 3)) w28_7.toNatClampNeg (S28_.i (S.f o1 4) w28_7.toNatClampNeg)) (hsh28.x.A F2.2.1) (by decide)
            refine lv_iinc (v := w28_7 + (1 : Int32)) (lv' := [(7, .int (w28_7 + (1 : Int32))), (0, .ref o1), (1, .int x1), (2, .int x2), (3, .long x3), (5, .long x4)]) hx hb dX12_tries_48 hl (k := 0) rfl (by rfl) (by decide) rfl (fun ls hl => ?_)
            refine lv_goto (tgt := 28) hx hb dX12_tries_51 (by decide) ?_
            have l32_1 : (1 : Int32).toInt = 1 := rfl
            have i15 : (w28_7 + (1 : Int32)).toInt = w28_7.toInt + 1 := t_addr (n := 1) rfl (by omega)
            exact ih28 S12 (w28_7 + (1 : Int32)) _ _ _ (Nat.lt_of_lt_of_le (by omega) (Nat.le_of_lt_succ hm28)) (by omega) t14 hP hD hS (lv_sub hl [0, 1, 2, 3, 4, 5] rfl) (fun S28_y w28_7y H9 locs9 ls9 i9 sh9 P9 D9 S9 l9 hfe => ko28 S28_y w28_7y H9 locs9 ls9 i9 sh9 P9 D9 S9 l9 (Eq.trans (by rw [f_X12_tries_4_L28_s, if_neg c6, l1_eq hS12]) hfe))
      refine loop28 5 S (0 : Int32) _ _ _ (by omega) (by omega) (stp.rf hW) hP hD hS (lv_sub hl [0, 1, 2, 3, 4, 5] rfl) (fun S17 z18 H locs ls hi28 hsh28 hP hD hS hl c16 => ?_)
      have t19 : stp [(17, 100)] [] [] S S17 := t0.tr hsh28 (fun _ q => q) (fun _ q => Or.inl q)
      have et19 := hsh28.x
      refine W.widen (k := 0) (n := 0) (Nat.le_of_ble_eq_true rfl) (Nat.le_of_ble_eq_true rfl) ?_
      exact W.vret hx hb hr (fun t ht hW9 => ⟨⟨S17, rfl, ⟨(by show S17 = f_X12_tries_4 S o1 x1 x2 x3 x4; unfold f_X12_tries_4; rw [if_pos c1, if_pos c5, l2_eq c16]), t19⟩, wd_end hP hK hD ht hW9.alike⟩, hS.F ht⟩) hS.2.2 dX12_tries_54 hlocks
    · have c5i : 0 < (S.i (S.f o1 3) (0 : Int32).toNatClampNeg).toInt := nle_v rfl rfl c5
      refine lv_aload_n hx hb dX12_tries_14 rfl (lv_at hl 0 rfl) ?_
      refine lv_lload_n hx hb dX12_tries_15 rfl (lv_at hl 3 rfl) ?_
      refine lv_lload hx hb dX12_tries_16 (lv_at hl 4 rfl) ?_
      have hFc := free_all hD hS hA
      obtain ⟨k20, gk20, hk20⟩ := wGt (cy := cy) X S h_o1.1 h_o1.2.1
      refine va_calli (va_runV (As := [.long x3, .long x4]) (rest := []) ⟨hx, hb, hml, hown, hts⟩ (c_X12_isBetterFour_q l (cy := cy) (X := X) (D := D) S _ o1 h_o1 x3 x4 (hW)) (cwV 2 hts gX12_tries_X12_isBetterFour rfl rfl rfl hd_X12_isBetterFour ⟨Nat.le_of_ble_eq_true rfl, Nat.le_of_ble_eq_true rfl⟩) (pV (va_recv hK hP (q := (RX12, TX12, 34)) (ci := 16) (q0 := k20) rfl hk20) hP hK hD hN) rfl rfl hl.1 rfl (lv_room (Nat.le_of_ble_eq_true rfl)) dX12_tries_18 ⟨(Nat.zero_le _), (Nat.zero_le _)⟩) hS (fun q _ h => hFc q h) hFc (fun r21 u t H1 locs ht hvm hw hB hz1 hk1 hS => ?_)
      obtain ⟨c22, y23⟩ := hw
      obtain ⟨hP, hD⟩ := wd_post hFc ht hB
      generalize H1 = H at hP hS ⊢
      obtain rfl : f_X12_isBetterFour S o1 x3 x4 = r21 := c22.symm
      refine lv_if_ne (tgt := 25) hx hb dX12_tries_21 (by decide) (fun c24 => ?_) (fun c24 => ?_)
      · have c24i : ¬ (f_X12_isBetterFour S o1 x3 x4).toInt = 0 := neq_v rfl rfl c24
        refine lv_iconst (v := 0) hx hb dX12_tries_25 (by decide) ?_
        refine lv_istore (lv' := [(7, .int (0 : Int32)), (0, .ref o1), (1, .int x1), (2, .int x2), (3, .long x3), (5, .long x4)]) hx hb dX12_tries_26 hl (by decide) rfl (fun ls hl => ?_)
        have l32_0 : (0 : Int32).toInt = 0 := rfl
        have loop28 : ∀ (n : Nat) (S28_ : wPS) (w28_7 : Int32) (H : Heap) (locs : List Loc) (ls : Array Slot), (4 - w28_7.toInt).toNat < n → 0 ≤ w28_7.toInt ∧ w28_7.toInt ≤ 4 → stp [(17, 100)] [] [] S S28_ → va_P D vwCl (X ++ PL cy S28_) H → va_D A (X ++ PL cy S28_) → va_S A s.heap H locs → lv_has ls 8 [(7, .int w28_7), (0, .ref o1), (1, .int x1), (2, .int x2), (3, .long x3), (5, .long x4)] → (∀ (S28_x : wPS) (w28_7x : Int32) (H : Heap) (locs : List Loc) (ls : Array Slot), 0 ≤ w28_7x.toInt ∧ w28_7x.toInt ≤ 4 → stp [(17, 100)] [] [] S S28_x → va_P D vwCl (X ++ PL cy S28_x) H → va_D A (X ++ PL cy S28_x) → va_S A s.heap H locs → lv_has ls 8 [(7, .int w28_7x), (0, .ref o1), (1, .int x1), (2, .int x2), (3, .long x3), (5, .long x4)] → f_X12_tries_4_L28 S o1 x1 x2 x3 x4 n S28_ w28_7 = (S28_x, w28_7x) → W p l e (headSpec wsX12_tries ({ frames := 3, cells := 0, slots := 0, locals := 66 } : Room)).room s m [.ref o1, .int x1, .int x2, .long x3, .long x4].toArray below meth c H locs 0 0 (MQ below (va_Qv (fun (u : wPS) => u = f_X12_tries_4 S o1 x1 x2 x3 x4 ∧ stp [(17, 100)] [] [] S u) (fun u t => WD D cy X A u t) A) [.ref o1, .int x1, .int x2, .long x3, .long x4].toArray s 0 0 A) (F0 m 54 ls [])) → W p l e (headSpec wsX12_tries ({ frames := 3, cells := 0, slots := 0, locals := 66 } : Room)).room s m [.ref o1, .int x1, .int x2, .long x3, .long x4].toArray below meth c H locs 0 0 (MQ below (va_Qv (fun (u : wPS) => u = f_X12_tries_4 S o1 x1 x2 x3 x4 ∧ stp [(17, 100)] [] [] S u) (fun u t => WD D cy X A u t) A) [.ref o1, .int x1, .int x2, .long x3, .long x4].toArray s 0 0 A) (F0 m 28 ls []) := by
          intro n28
          induction n28 with
          | zero => intro S28_ w28_7 H locs ls hm; exact absurd hm (Nat.not_lt_zero _)
          | succ n28 ih28 =>
            intro S28_ w28_7 H locs ls hm28 hi28 hsh28 hP hD hS hl ko28
            refine lv_iload hx hb dX12_tries_28 (lv_at hl 0 rfl) ?_
            refine lv_iconst (v := 4) hx hb dX12_tries_30 (by decide) ?_
            refine lv_icmp_ge (tgt := 54) hx hb dX12_tries_31 (by decide) (fun c25 => ?_) (fun c25 => ?_)
            · have c25i : 4 ≤ w28_7.toInt := le_v rfl rfl c25
              exact ko28 S28_ w28_7 _ _ _ (by omega) hsh28 hP hD hS (lv_sub hl [0, 1, 2, 3, 4, 5] rfl) (by rw [f_X12_tries_4_L28_s, if_pos c25])
            · have c25i : w28_7.toInt < 4 := nle_v rfl rfl c25
              refine lv_aload_n hx hb dX12_tries_34 rfl (lv_at hl 1 rfl) ?_
              obtain ⟨k26, gk26, hk26⟩ := wGt (cy := cy) X S28_ (hsh28.x.A h_o1).1 (hsh28.x.A h_o1).2.1
              simp only [kE, (hsh28.x.F h_o1 (by decide) F2.1)] at hk26
              refine va_get (D := D) (ci := 16) (v := .ref (S.f o1 3)) (C := RX12) (T := TX12) (N := 34) hx hb hts hi_X12_tries_X12 hown hK hP k26 hk26 rfl 3 (by decide) (hts (.fieldLink RX12 35 "HobhouseModel" "four" "[I") (by decide +kernel)) (fun _ h9 => h9) rfl dX12_tries_35 ?_
              refine lv_iload hx hb dX12_tries_38 (lv_at hl 0 rfl) ?_
              refine lv_aload_n hx hb dX12_tries_40 rfl (lv_at hl 1 rfl) ?_
              have F27 := ((hW.at h_o1 List.not_mem_nil).to_12 h_o1.2.1).F4
              obtain ⟨k28, gk28, hk28⟩ := wGt (cy := cy) X S28_ (hsh28.x.A h_o1).1 (hsh28.x.A h_o1).2.1
              simp only [kE, (hsh28.x.F h_o1 (by decide) F27.1)] at hk28
              refine va_get (D := D) (ci := 16) (v := .ref (S.f o1 4)) (C := RX12) (T := TX12) (N := 34) hx hb hts hi_X12_tries_X12 hown hK hP k28 hk28 rfl 4 (by decide) (hts (.fieldLink RX12 38 "HobhouseModel" "trial" "[I") (by decide +kernel)) (fun _ h9 => h9) rfl dX12_tries_41 ?_
              refine lv_iload hx hb dX12_tries_44 (lv_at hl 0 rfl) ?_
              obtain ⟨k29, gk29, hk29⟩ := wGt (cy := cy) X S28_ (hsh28.x.A F27.2.1).1 (hsh28.x.A F27.2.1).2.1
              refine va_iald hx hb hK hP k29 2 hk29 rfl (inb (m := 4) ((hsh28.x.n F27.2.1).trans F27.2.2) (by omega) (by omega)) dX12_tries_46 ?_
              obtain ⟨k30, gk30, hk30⟩ := wGt (cy := cy) X S28_ (hsh28.x.A F2.2.1).1 (hsh28.x.A F2.2.1).2.1
              refine va_iast hx hb hK hP hD hS k30 2 hk30 rfl (inb (m := 4) ((hsh28.x.n F2.2.1).trans F2.2.2) (by omega) (by omega)) dX12_tries_47 (fun H locs hP2 hD2 hS => ?_)
              have e9 := wPui (cy := cy) (f := (upd (S28_.i (S.f o1 3)) w28_7.toNatClampNeg (S28_.i (S.f o1 4) w28_7.toNatClampNeg))) hD (hsh28.x.A F2.2.1).1 (hsh28.x.A F2.2.1).2.1 gk30 rfl
              obtain ⟨S31, hS31⟩ : ∃ z, S28_.si (S.f o1 3) (upd (S28_.i (S.f o1 3)) w28_7.toNatClampNeg (S28_.i (S.f o1 4) w28_7.toNatClampNeg)) = z := ⟨_, rfl⟩
              have hP : va_P D vwCl (X ++ PL cy S31) H := by rw [← hS31, ← e9]; exact hP2
              have hD : va_D A (X ++ PL cy S31) := by rw [← hS31, ← e9]; exact hD2
              have xe32 : ext S28_ S31 := by rw [← hS31]; exact ext.si _ _ _
              have t33 : stp [(17, 100)] [] [] S S31 := by rw [← hS31]; exact hsh28.i (upd (S28_.i (S.f o1 3)) w28_7.toNatClampNeg (S28_.i (S.f o1 4) w28_7.toNatClampNeg)) (hsh28.x.A F2.2.1) (by decide)
              refine lv_iinc (v := w28_7 + (1 : Int32)) (lv' := [(7, .int (w28_7 + (1 : Int32))), (0, .ref o1), (1, .int x1), (2, .int x2), (3, .long x3), (5, .long x4)]) hx hb dX12_tries_48 hl (k := 0) rfl (by rfl) (by decide) rfl (fun ls hl => ?_)
              refine lv_goto (tgt := 28) hx hb dX12_tries_51 (by decide) ?_
              have l32_1 : (1 : Int32).toInt = 1 := rfl
              have i34 : (w28_7 + (1 : Int32)).toInt = w28_7.toInt + 1 := t_addr (n := 1) rfl (by omega)
              exact ih28 S31 (w28_7 + (1 : Int32)) _ _ _ (Nat.lt_of_lt_of_le (by omega) (Nat.le_of_lt_succ hm28)) (by omega) t33 hP hD hS (lv_sub hl [0, 1, 2, 3, 4, 5] rfl) (fun S28_y w28_7y H9 locs9 ls9 i9 sh9 P9 D9 S9 l9 hfe => ko28 S28_y w28_7y H9 locs9 ls9 i9 sh9 P9 D9 S9 l9 (Eq.trans (by rw [f_X12_tries_4_L28_s, if_neg c25, l1_eq hS31]) hfe))
        refine loop28 5 S (0 : Int32) _ _ _ (by omega) (by omega) (stp.rf hW) hP hD hS (lv_sub hl [0, 1, 2, 3, 4, 5] rfl) (fun S36 z37 H locs ls hi28 hsh28 hP hD hS hl c35 => ?_)
        have t38 : stp [(17, 100)] [] [] S S36 := t0.tr hsh28 (fun _ q => q) (fun _ q => Or.inl q)
        have et38 := hsh28.x
        refine W.widen (k := 0) (n := 0) (Nat.le_of_ble_eq_true rfl) (Nat.le_of_ble_eq_true rfl) ?_
        exact W.vret hx hb hr (fun t ht hW9 => ⟨⟨S36, rfl, ⟨(by show S36 = f_X12_tries_4 S o1 x1 x2 x3 x4; unfold f_X12_tries_4; rw [if_pos c1, if_neg c5, if_neg c24, l2_eq c35]), t38⟩, wd_end hP hK hD ht hW9.alike⟩, hS.F ht⟩) hS.2.2 dX12_tries_54 hlocks
      · have c24i : (f_X12_isBetterFour S o1 x3 x4).toInt = 0 := eq_v rfl rfl c24
        refine W.widen (k := 0) (n := 0) (Nat.le_of_ble_eq_true rfl) (Nat.le_of_ble_eq_true rfl) ?_
        exact W.vret hx hb hr (fun t ht hW9 => ⟨⟨S, rfl, ⟨(by show S = f_X12_tries_4 S o1 x1 x2 x3 x4; unfold f_X12_tries_4; rw [if_pos c1, if_neg c5, if_pos c24]), t0⟩, wd_end hP hK hD ht hW9.alike⟩, hS.F ht⟩) hS.2.2 dX12_tries_24 hlocks
def f_X12_tries_3_L58 (S : wPS) (o1 : Nat) (x1 : Int32) (x2 : Int32) (x3 : Int64) (x4 : Int64) : Nat → wPS → Int32 → wPS × Int32
  | 0, S58_, w58_7 => (S58_, w58_7)
  | n + 1, S58_, w58_7 => if (S58_.I o1 16) ≤ w58_7 then (S58_, w58_7) else if ((x2 >>> (w58_7 &&& 31)) &&& (1 : Int32)) = (1 : Int32) then f_X12_tries_3_L58 S o1 x1 x2 x3 x4 n S58_ (w58_7 + (1 : Int32)) else l1 (S58_.si (S.f o1 4) (upd (S58_.i (S.f o1 4)) x1.toNatClampNeg (S58_.i (S.f o1 2) w58_7.toNatClampNeg))) (fun S12 => l1 (f_X12_tries_4 S12 o1 (x1 + (1 : Int32)) (x2 ||| ((1 : Int32) <<< (w58_7 &&& 31))) x3 x4) (fun S20 => f_X12_tries_3_L58 S o1 x1 x2 x3 x4 n S20 (w58_7 + (1 : Int32))))
theorem f_X12_tries_3_L58_s (S : wPS) (o1 : Nat) (x1 : Int32) (x2 : Int32) (x3 : Int64) (x4 : Int64) (n : Nat) (S58_ : wPS) (w58_7 : Int32) : f_X12_tries_3_L58 S o1 x1 x2 x3 x4 (n + 1) S58_ w58_7 = if (S58_.I o1 16) ≤ w58_7 then (S58_, w58_7) else if ((x2 >>> (w58_7 &&& 31)) &&& (1 : Int32)) = (1 : Int32) then f_X12_tries_3_L58 S o1 x1 x2 x3 x4 n S58_ (w58_7 + (1 : Int32)) else l1 (S58_.si (S.f o1 4) (upd (S58_.i (S.f o1 4)) x1.toNatClampNeg (S58_.i (S.f o1 2) w58_7.toNatClampNeg))) (fun S12 => l1 (f_X12_tries_4 S12 o1 (x1 + (1 : Int32)) (x2 ||| ((1 : Int32) <<< (w58_7 &&& 31))) x3 x4) (fun S20 => f_X12_tries_3_L58 S o1 x1 x2 x3 x4 n S20 (w58_7 + (1 : Int32)))) := rfl
def f_X12_tries_3 (S : wPS) (o1 : Nat) (x1 : Int32) (x2 : Int32) (x3 : Int64) (x4 : Int64) : wPS := if x1 = (4 : Int32) then S else l2 (f_X12_tries_3_L58 S o1 x1 x2 x3 x4 18 S (0 : Int32)) (fun S26 z27 => S26)
set_option maxHeartbeats 4000000 in
set_option maxRecDepth 100000 in
theorem c_X12_tries_3_q (l : Launch) {D : va_G} {cy : Nat → ClassId} {X : va_W} (S : wPS) (sz : Nat) (o1 : Nat) (h_o1 : isA S o1 12) (x1 : Int32) (x2 : Int32) (x3 : Int64) (x4 : Int64) (hW : wtB S []) (h1 : x1.toInt = 3) : Met l yX12_tries wsX12_tries ({ frames := 4, cells := 0, slots := 0, locals := 93 }) (va_Pc [.ref o1, .int x1, .int x2, .long x3, .long x4] (fun U => U.heap.size = sz ∧ WD D cy X (fun _ => True) S U ∧ NW U)) (va_Qv (fun (u : wPS) => u = f_X12_tries_3 S o1 x1 x2 x3 x4 ∧ stp [(17, 100)] [] [] S u) (fun u t => WD D cy X (va_A (X ++ PL cy S) sz) u t) (va_A (X ++ PL cy S) sz)) 0 0 (va_A (X ++ PL cy S) sz) := by
  refine Met.ofW (cc := cX12_tries) (maxL := 8) (ret := none) (by decide) rfl ?_
  intro p e s m args below meth c s₁ B hml hv
  obtain ⟨rfl, hsz, ⟨hP, hK, hD0⟩, hN⟩ := hv
  have hx := B.exec
  have hb := B.bytes
  have hr := B.returns
  have hts := atoms_spec (ws := wsX12_tries) B.pre
  have hown : s.vm.findClass RX12 = some m.cls := findClass_of_methodNamed (x := yX12_tries) B.named
  have hlocks := B.notSynchronized
  subst hsz
  have hD := hD0.self (sz := s.heap.size)
  generalize hAe : va_A (X ++ PL cy S) s.heap.size = A at hD ⊢
  have hA : ∀ q : Nat, s.heap.size ≤ q → A q := fun q h => by rw [← hAe]; exact Or.inr h
  have hS : va_S A s.heap s.heap [] := va_S.rf
  have hl := lv_entry ([.ref o1, .int x1, .int x2, .long x3, .long x4]) (n := 8) (Nat.le_of_ble_eq_true rfl)
  rw [lg_entry_eq]
  generalize (lg_sl ([.ref o1, .int x1, .int x2, .long x3, .long x4]) ++ List.replicate (8 - (lg_sl ([.ref o1, .int x1, .int x2, .long x3, .long x4])).length) Slot.unset).toArray = ls at hl ⊢
  have hl : lv_has ls 8 [(0, .ref o1), (1, .int x1), (2, .int x2), (3, .long x3), (5, .long x4)] := hl
  have t0 : stp [(17, 100)] [] [] S S := stp.rf hW
  have r16 := ((hW.at h_o1 List.not_mem_nil).to_12 h_o1.2.1).R16
  refine lv_iload_n hx hb dX12_tries_0 rfl (lv_at hl 1 rfl) ?_
  refine lv_iconst (v := 4) hx hb dX12_tries_1 (by decide) ?_
  refine lv_icmp_ne (tgt := 55) hx hb dX12_tries_2 (by decide) (fun c1 => ?_) (fun c1 => ?_)
  · have c1i : ¬ x1.toInt = 4 := neq_v rfl rfl c1
    refine lv_iconst (v := 0) hx hb dX12_tries_55 (by decide) ?_
    refine lv_istore (lv' := [(7, .int (0 : Int32)), (0, .ref o1), (1, .int x1), (2, .int x2), (3, .long x3), (5, .long x4)]) hx hb dX12_tries_56 hl (by decide) rfl (fun ls hl => ?_)
    have l32_0 : (0 : Int32).toInt = 0 := rfl
    have loop58 : ∀ (n : Nat) (S58_ : wPS) (w58_7 : Int32) (H : Heap) (locs : List Loc) (ls : Array Slot), (17 - w58_7.toInt).toNat < n → 0 ≤ w58_7.toInt ∧ w58_7.toInt ≤ 16 → stp [(17, 100)] [] [] S S58_ → va_P D vwCl (X ++ PL cy S58_) H → va_D A (X ++ PL cy S58_) → va_S A s.heap H locs → lv_has ls 8 [(7, .int w58_7), (0, .ref o1), (1, .int x1), (2, .int x2), (3, .long x3), (5, .long x4)] → (∀ (S58_x : wPS) (w58_7x : Int32) (H : Heap) (locs : List Loc) (ls : Array Slot), 0 ≤ w58_7x.toInt ∧ w58_7x.toInt ≤ 16 → stp [(17, 100)] [] [] S S58_x → va_P D vwCl (X ++ PL cy S58_x) H → va_D A (X ++ PL cy S58_x) → va_S A s.heap H locs → lv_has ls 8 [(7, .int w58_7x), (0, .ref o1), (1, .int x1), (2, .int x2), (3, .long x3), (5, .long x4)] → f_X12_tries_3_L58 S o1 x1 x2 x3 x4 n S58_ w58_7 = (S58_x, w58_7x) → W p l e (headSpec wsX12_tries ({ frames := 4, cells := 0, slots := 0, locals := 93 } : Room)).room s m [.ref o1, .int x1, .int x2, .long x3, .long x4].toArray below meth c H locs 0 0 (MQ below (va_Qv (fun (u : wPS) => u = f_X12_tries_3 S o1 x1 x2 x3 x4 ∧ stp [(17, 100)] [] [] S u) (fun u t => WD D cy X A u t) A) [.ref o1, .int x1, .int x2, .long x3, .long x4].toArray s 0 0 A) (F0 m 115 ls [])) → W p l e (headSpec wsX12_tries ({ frames := 4, cells := 0, slots := 0, locals := 93 } : Room)).room s m [.ref o1, .int x1, .int x2, .long x3, .long x4].toArray below meth c H locs 0 0 (MQ below (va_Qv (fun (u : wPS) => u = f_X12_tries_3 S o1 x1 x2 x3 x4 ∧ stp [(17, 100)] [] [] S u) (fun u t => WD D cy X A u t) A) [.ref o1, .int x1, .int x2, .long x3, .long x4].toArray s 0 0 A) (F0 m 58 ls []) := by
      intro n58
      induction n58 with
      | zero => intro S58_ w58_7 H locs ls hm; exact absurd hm (Nat.not_lt_zero _)
      | succ n58 ih58 =>
        intro S58_ w58_7 H locs ls hm58 hi58 hsh58 hP hD hS hl ko58
        have r16 := ((hsh58.w.at (hsh58.x.A h_o1) List.not_mem_nil).to_12 (hsh58.x.A h_o1).2.1).R16
        refine lv_iload hx hb dX12_tries_58 (lv_at hl 0 rfl) ?_
        refine lv_aload_n hx hb dX12_tries_60 rfl (lv_at hl 1 rfl) ?_
        obtain ⟨k2, gk2, hk2⟩ := wGt (cy := cy) X S58_ (hsh58.x.A h_o1).1 (hsh58.x.A h_o1).2.1
        have i3 := ((hsh58.w.at (hsh58.x.A h_o1) List.not_mem_nil).to_12 (hsh58.x.A h_o1).2.1).R16
        refine va_get (D := D) (ci := 16) (v := .int (S58_.I o1 16)) (C := RX12) (T := TX12) (N := 34) hx hb hts hi_X12_tries_X12 hown hK hP k2 hk2 rfl 16 (by decide) (hts (.fieldLink RX12 282 "HobhouseModel" "box" "I") (by decide +kernel)) (fun _ h9 => h9) rfl dX12_tries_61 ?_
        refine lv_icmp_ge (tgt := 115) hx hb dX12_tries_64 (by decide) (fun c4 => ?_) (fun c4 => ?_)
        · have c4i : (S58_.I o1 16).toInt ≤ w58_7.toInt := le_v rfl rfl c4
          exact ko58 S58_ w58_7 _ _ _ (by omega) hsh58 hP hD hS (lv_sub hl [0, 1, 2, 3, 4, 5] rfl) (by rw [f_X12_tries_3_L58_s, if_pos c4])
        · have c4i : w58_7.toInt < (S58_.I o1 16).toInt := nle_v rfl rfl c4
          refine lv_iload_n hx hb dX12_tries_67 rfl (lv_at hl 3 rfl) ?_
          refine lv_iload hx hb dX12_tries_68 (lv_at hl 0 rfl) ?_
          refine lv_ishr hx hb dX12_tries_70 ?_
          refine lv_iconst (v := 1) hx hb dX12_tries_71 (by decide) ?_
          refine lv_iand hx hb dX12_tries_72 ?_
          refine lv_iconst (v := 1) hx hb dX12_tries_73 (by decide) ?_
          refine lv_icmp_ne (tgt := 80) hx hb dX12_tries_74 (by decide) (fun c5 => ?_) (fun c5 => ?_)
          · have c5i : ¬ ((x2 >>> (w58_7 &&& 31)) &&& (1 : Int32)).toInt = 1 := neq_v rfl rfl c5
            refine lv_aload_n hx hb dX12_tries_80 rfl (lv_at hl 1 rfl) ?_
            have F6 := ((hW.at h_o1 List.not_mem_nil).to_12 h_o1.2.1).F4
            obtain ⟨k7, gk7, hk7⟩ := wGt (cy := cy) X S58_ (hsh58.x.A h_o1).1 (hsh58.x.A h_o1).2.1
            simp only [kE, (hsh58.x.F h_o1 (by decide) F6.1)] at hk7
            refine va_get (D := D) (ci := 16) (v := .ref (S.f o1 4)) (C := RX12) (T := TX12) (N := 34) hx hb hts hi_X12_tries_X12 hown hK hP k7 hk7 rfl 4 (by decide) (hts (.fieldLink RX12 38 "HobhouseModel" "trial" "[I") (by decide +kernel)) (fun _ h9 => h9) rfl dX12_tries_81 ?_
            refine lv_iload_n hx hb dX12_tries_84 rfl (lv_at hl 2 rfl) ?_
            refine lv_aload_n hx hb dX12_tries_85 rfl (lv_at hl 1 rfl) ?_
            have F8 := ((hW.at h_o1 List.not_mem_nil).to_12 h_o1.2.1).F2
            obtain ⟨k9, gk9, hk9⟩ := wGt (cy := cy) X S58_ (hsh58.x.A h_o1).1 (hsh58.x.A h_o1).2.1
            simp only [kE, (hsh58.x.F h_o1 (by decide) F8.1)] at hk9
            refine va_get (D := D) (ci := 16) (v := .ref (S.f o1 2)) (C := RX12) (T := TX12) (N := 34) hx hb hts hi_X12_tries_X12 hown hK hP k9 hk9 rfl 2 (by decide) (hts (.fieldLink RX12 31 "HobhouseModel" "wheels" "[I") (by decide +kernel)) (fun _ h9 => h9) rfl dX12_tries_86 ?_
            refine lv_iload hx hb dX12_tries_89 (lv_at hl 0 rfl) ?_
            obtain ⟨k10, gk10, hk10⟩ := wGt (cy := cy) X S58_ (hsh58.x.A F8.2.1).1 (hsh58.x.A F8.2.1).2.1
            refine va_iald hx hb hK hP k10 2 hk10 rfl (inb (m := 16) ((hsh58.x.n F8.2.1).trans F8.2.2) (by omega) (by omega)) dX12_tries_91 ?_
            obtain ⟨k11, gk11, hk11⟩ := wGt (cy := cy) X S58_ (hsh58.x.A F6.2.1).1 (hsh58.x.A F6.2.1).2.1
            refine va_iast hx hb hK hP hD hS k11 2 hk11 rfl (inb (m := 4) ((hsh58.x.n F6.2.1).trans F6.2.2) (by omega) (by omega)) dX12_tries_92 (fun H locs hP2 hD2 hS => ?_)
            have e9 := wPui (cy := cy) (f := (upd (S58_.i (S.f o1 4)) x1.toNatClampNeg (S58_.i (S.f o1 2) w58_7.toNatClampNeg))) hD (hsh58.x.A F6.2.1).1 (hsh58.x.A F6.2.1).2.1 gk11 rfl
            obtain ⟨S12, hS12⟩ : ∃ z, S58_.si (S.f o1 4) (upd (S58_.i (S.f o1 4)) x1.toNatClampNeg (S58_.i (S.f o1 2) w58_7.toNatClampNeg)) = z := ⟨_, rfl⟩
            have hP : va_P D vwCl (X ++ PL cy S12) H := by rw [← hS12, ← e9]; exact hP2
            have hD : va_D A (X ++ PL cy S12) := by rw [← hS12, ← e9]; exact hD2
            have xe13 : ext S58_ S12 := by rw [← hS12]; exact ext.si _ _ _
            have t14 : stp [(17, 100)] [] [] S S12 := by rw [← hS12]; exact hsh58.i (upd (S58_.i (S.f o1 4)) x1.toNatClampNeg (S58_.i (S.f o1 2) w58_7.toNatClampNeg)) (hsh58.x.A F6.2.1) (by decide)
            refine lv_aload_n hx hb dX12_tries_93 rfl (lv_at hl 1 rfl) ?_
            refine lv_iload_n hx hb dX12_tries_94 rfl (lv_at hl 2 rfl) ?_
            refine lv_iconst (v := 1) hx hb dX12_tries_95 (by decide) ?_
            refine lv_iadd hx hb dX12_tries_96 ?_
            refine lv_iload_n hx hb dX12_tries_97 rfl (lv_at hl 3 rfl) ?_
            refine lv_iconst (v := 1) hx hb dX12_tries_98 (by decide) ?_
            refine lv_iload hx hb dX12_tries_99 (lv_at hl 0 rfl) ?_
            refine lv_ishl hx hb dX12_tries_101 ?_
            refine lv_ior hx hb dX12_tries_102 ?_
            refine lv_lload_n hx hb dX12_tries_103 rfl (lv_at hl 4 rfl) ?_
            refine lv_lload hx hb dX12_tries_104 (lv_at hl 5 rfl) ?_
            have l32_1 : (1 : Int32).toInt = 1 := rfl
            have i15 : (x1 + (1 : Int32)).toInt = x1.toInt + 1 := t_addr (n := 1) rfl (by omega)
            have hFc := free_all hD hS hA
            obtain ⟨k16, gk16, hk16⟩ := wGt (cy := cy) X S12 (xe13.A (hsh58.x.A h_o1)).1 (xe13.A (hsh58.x.A h_o1)).2.1
            refine va_callv (va_runV (As := [.int (x1 + (1 : Int32)), .int (x2 ||| ((1 : Int32) <<< (w58_7 &&& 31))), .long x3, .long x4]) (rest := []) ⟨hx, hb, hml, hown, hts⟩ (c_X12_tries_4_q l (cy := cy) (X := X) (D := D) S12 _ o1 (xe13.A (hsh58.x.A h_o1)) (x1 + (1 : Int32)) (x2 ||| ((1 : Int32) <<< (w58_7 &&& 31))) x3 x4 (t14.w) (by omega)) (cwV 4 hts gX12_tries_X12_tries rfl rfl rfl hd_X12_tries ⟨Nat.le_of_ble_eq_true rfl, Nat.le_of_ble_eq_true rfl⟩) (pV (va_recv hK hP (q := (RX12, TX12, 34)) (ci := 16) (q0 := k16) rfl hk16) hP hK hD hN) rfl rfl hl.1 rfl (lv_room (Nat.le_of_ble_eq_true rfl)) dX12_tries_106 ⟨(Nat.zero_le _), (Nat.zero_le _)⟩) hS (fun q _ h => hFc q h) hFc (fun u t H1 locs ht hvm hw hB hz1 hk1 hS => ?_)
            obtain ⟨c18, w19⟩ := hw
            obtain ⟨hP, hD⟩ := wd_post hFc ht hB
            generalize H1 = H at hP hS ⊢
            obtain ⟨S20, rfl⟩ : ∃ z, z = u := ⟨_, rfl⟩
            have t21 : stp [(17, 100)] [] [] S S20 := t14.tr w19 (by decide) (fun _ q => absurd q List.not_mem_nil)
            have xe22 : ext S12 S20 := w19.x
            refine lv_iinc (v := w58_7 + (1 : Int32)) (lv' := [(7, .int (w58_7 + (1 : Int32))), (0, .ref o1), (1, .int x1), (2, .int x2), (3, .long x3), (5, .long x4)]) hx hb dX12_tries_109 hl (k := 0) rfl (by rfl) (by decide) rfl (fun ls hl => ?_)
            refine lv_goto (tgt := 58) hx hb dX12_tries_112 (by decide) ?_
            have i23 : (w58_7 + (1 : Int32)).toInt = w58_7.toInt + 1 := t_addr (n := 1) rfl (by omega)
            exact ih58 S20 (w58_7 + (1 : Int32)) _ _ _ (Nat.lt_of_lt_of_le (by omega) (Nat.le_of_lt_succ hm58)) (by omega) t21 hP hD hS (lv_sub hl [0, 1, 2, 3, 4, 5] rfl) (fun S58_y w58_7y H9 locs9 ls9 i9 sh9 P9 D9 S9 l9 hfe => ko58 S58_y w58_7y H9 locs9 ls9 i9 sh9 P9 D9 S9 l9 (Eq.trans (by rw [f_X12_tries_3_L58_s, if_neg c4, if_neg c5, l1_eq hS12, l1_eq c18.symm]) hfe))
          · have c5i : ((x2 >>> (w58_7 &&& 31)) &&& (1 : Int32)).toInt = 1 := eq_v rfl rfl c5
            refine lv_goto (tgt := 109) hx hb dX12_tries_77 (by decide) ?_
            refine lv_iinc (v := w58_7 + (1 : Int32)) (lv' := [(7, .int (w58_7 + (1 : Int32))), (0, .ref o1), (1, .int x1), (2, .int x2), (3, .long x3), (5, .long x4)]) hx hb dX12_tries_109 hl (k := 0) rfl (by rfl) (by decide) rfl (fun ls hl => ?_)
            refine lv_goto (tgt := 58) hx hb dX12_tries_112 (by decide) ?_
            have l32_1 : (1 : Int32).toInt = 1 := rfl
            have i24 : (w58_7 + (1 : Int32)).toInt = w58_7.toInt + 1 := t_addr (n := 1) rfl (by omega)
            exact ih58 S58_ (w58_7 + (1 : Int32)) _ _ _ (Nat.lt_of_lt_of_le (by omega) (Nat.le_of_lt_succ hm58)) (by omega) hsh58 hP hD hS (lv_sub hl [0, 1, 2, 3, 4, 5] rfl) (fun S58_y w58_7y H9 locs9 ls9 i9 sh9 P9 D9 S9 l9 hfe => ko58 S58_y w58_7y H9 locs9 ls9 i9 sh9 P9 D9 S9 l9 (Eq.trans (by rw [f_X12_tries_3_L58_s, if_neg c4, if_pos c5]) hfe))
    refine loop58 18 S (0 : Int32) _ _ _ (by omega) (by omega) (stp.rf hW) hP hD hS (lv_sub hl [0, 1, 2, 3, 4, 5] rfl) (fun S26 z27 H locs ls hi58 hsh58 hP hD hS hl c25 => ?_)
    have t28 : stp [(17, 100)] [] [] S S26 := t0.tr hsh58 (fun _ q => q) (fun _ q => Or.inl q)
    have et28 := hsh58.x
    refine W.widen (k := 0) (n := 0) (Nat.le_of_ble_eq_true rfl) (Nat.le_of_ble_eq_true rfl) ?_
    exact W.vret hx hb hr (fun t ht hW9 => ⟨⟨S26, rfl, ⟨(by show S26 = f_X12_tries_3 S o1 x1 x2 x3 x4; unfold f_X12_tries_3; rw [if_neg c1, l2_eq c25]), t28⟩, wd_end hP hK hD ht hW9.alike⟩, hS.F ht⟩) hS.2.2 dX12_tries_115 hlocks
  · have c1i : x1.toInt = 4 := eq_v rfl rfl c1
    exact False.elim (by omega)
def f_X12_tries_2_L58 (S : wPS) (o1 : Nat) (x1 : Int32) (x2 : Int32) (x3 : Int64) (x4 : Int64) : Nat → wPS → Int32 → wPS × Int32
  | 0, S58_, w58_7 => (S58_, w58_7)
  | n + 1, S58_, w58_7 => if (S58_.I o1 16) ≤ w58_7 then (S58_, w58_7) else if ((x2 >>> (w58_7 &&& 31)) &&& (1 : Int32)) = (1 : Int32) then f_X12_tries_2_L58 S o1 x1 x2 x3 x4 n S58_ (w58_7 + (1 : Int32)) else l1 (S58_.si (S.f o1 4) (upd (S58_.i (S.f o1 4)) x1.toNatClampNeg (S58_.i (S.f o1 2) w58_7.toNatClampNeg))) (fun S12 => l1 (f_X12_tries_3 S12 o1 (x1 + (1 : Int32)) (x2 ||| ((1 : Int32) <<< (w58_7 &&& 31))) x3 x4) (fun S20 => f_X12_tries_2_L58 S o1 x1 x2 x3 x4 n S20 (w58_7 + (1 : Int32))))
theorem f_X12_tries_2_L58_s (S : wPS) (o1 : Nat) (x1 : Int32) (x2 : Int32) (x3 : Int64) (x4 : Int64) (n : Nat) (S58_ : wPS) (w58_7 : Int32) : f_X12_tries_2_L58 S o1 x1 x2 x3 x4 (n + 1) S58_ w58_7 = if (S58_.I o1 16) ≤ w58_7 then (S58_, w58_7) else if ((x2 >>> (w58_7 &&& 31)) &&& (1 : Int32)) = (1 : Int32) then f_X12_tries_2_L58 S o1 x1 x2 x3 x4 n S58_ (w58_7 + (1 : Int32)) else l1 (S58_.si (S.f o1 4) (upd (S58_.i (S.f o1 4)) x1.toNatClampNeg (S58_.i (S.f o1 2) w58_7.toNatClampNeg))) (fun S12 => l1 (f_X12_tries_3 S12 o1 (x1 + (1 : Int32)) (x2 ||| ((1 : Int32) <<< (w58_7 &&& 31))) x3 x4) (fun S20 => f_X12_tries_2_L58 S o1 x1 x2 x3 x4 n S20 (w58_7 + (1 : Int32)))) := rfl
def f_X12_tries_2 (S : wPS) (o1 : Nat) (x1 : Int32) (x2 : Int32) (x3 : Int64) (x4 : Int64) : wPS := if x1 = (4 : Int32) then S else l2 (f_X12_tries_2_L58 S o1 x1 x2 x3 x4 18 S (0 : Int32)) (fun S26 z27 => S26)
set_option maxHeartbeats 4000000 in
set_option maxRecDepth 100000 in
theorem c_X12_tries_2_q (l : Launch) {D : va_G} {cy : Nat → ClassId} {X : va_W} (S : wPS) (sz : Nat) (o1 : Nat) (h_o1 : isA S o1 12) (x1 : Int32) (x2 : Int32) (x3 : Int64) (x4 : Int64) (hW : wtB S []) (h1 : x1.toInt = 2) : Met l yX12_tries wsX12_tries ({ frames := 5, cells := 0, slots := 0, locals := 120 }) (va_Pc [.ref o1, .int x1, .int x2, .long x3, .long x4] (fun U => U.heap.size = sz ∧ WD D cy X (fun _ => True) S U ∧ NW U)) (va_Qv (fun (u : wPS) => u = f_X12_tries_2 S o1 x1 x2 x3 x4 ∧ stp [(17, 100)] [] [] S u) (fun u t => WD D cy X (va_A (X ++ PL cy S) sz) u t) (va_A (X ++ PL cy S) sz)) 0 0 (va_A (X ++ PL cy S) sz) := by
  refine Met.ofW (cc := cX12_tries) (maxL := 8) (ret := none) (by decide) rfl ?_
  intro p e s m args below meth c s₁ B hml hv
  obtain ⟨rfl, hsz, ⟨hP, hK, hD0⟩, hN⟩ := hv
  have hx := B.exec
  have hb := B.bytes
  have hr := B.returns
  have hts := atoms_spec (ws := wsX12_tries) B.pre
  have hown : s.vm.findClass RX12 = some m.cls := findClass_of_methodNamed (x := yX12_tries) B.named
  have hlocks := B.notSynchronized
  subst hsz
  have hD := hD0.self (sz := s.heap.size)
  generalize hAe : va_A (X ++ PL cy S) s.heap.size = A at hD ⊢
  have hA : ∀ q : Nat, s.heap.size ≤ q → A q := fun q h => by rw [← hAe]; exact Or.inr h
  have hS : va_S A s.heap s.heap [] := va_S.rf
  have hl := lv_entry ([.ref o1, .int x1, .int x2, .long x3, .long x4]) (n := 8) (Nat.le_of_ble_eq_true rfl)
  rw [lg_entry_eq]
  generalize (lg_sl ([.ref o1, .int x1, .int x2, .long x3, .long x4]) ++ List.replicate (8 - (lg_sl ([.ref o1, .int x1, .int x2, .long x3, .long x4])).length) Slot.unset).toArray = ls at hl ⊢
  have hl : lv_has ls 8 [(0, .ref o1), (1, .int x1), (2, .int x2), (3, .long x3), (5, .long x4)] := hl
  have t0 : stp [(17, 100)] [] [] S S := stp.rf hW
  have r16 := ((hW.at h_o1 List.not_mem_nil).to_12 h_o1.2.1).R16
  refine lv_iload_n hx hb dX12_tries_0 rfl (lv_at hl 1 rfl) ?_
  refine lv_iconst (v := 4) hx hb dX12_tries_1 (by decide) ?_
  refine lv_icmp_ne (tgt := 55) hx hb dX12_tries_2 (by decide) (fun c1 => ?_) (fun c1 => ?_)
  · have c1i : ¬ x1.toInt = 4 := neq_v rfl rfl c1
    refine lv_iconst (v := 0) hx hb dX12_tries_55 (by decide) ?_
    refine lv_istore (lv' := [(7, .int (0 : Int32)), (0, .ref o1), (1, .int x1), (2, .int x2), (3, .long x3), (5, .long x4)]) hx hb dX12_tries_56 hl (by decide) rfl (fun ls hl => ?_)
    have l32_0 : (0 : Int32).toInt = 0 := rfl
    have loop58 : ∀ (n : Nat) (S58_ : wPS) (w58_7 : Int32) (H : Heap) (locs : List Loc) (ls : Array Slot), (17 - w58_7.toInt).toNat < n → 0 ≤ w58_7.toInt ∧ w58_7.toInt ≤ 16 → stp [(17, 100)] [] [] S S58_ → va_P D vwCl (X ++ PL cy S58_) H → va_D A (X ++ PL cy S58_) → va_S A s.heap H locs → lv_has ls 8 [(7, .int w58_7), (0, .ref o1), (1, .int x1), (2, .int x2), (3, .long x3), (5, .long x4)] → (∀ (S58_x : wPS) (w58_7x : Int32) (H : Heap) (locs : List Loc) (ls : Array Slot), 0 ≤ w58_7x.toInt ∧ w58_7x.toInt ≤ 16 → stp [(17, 100)] [] [] S S58_x → va_P D vwCl (X ++ PL cy S58_x) H → va_D A (X ++ PL cy S58_x) → va_S A s.heap H locs → lv_has ls 8 [(7, .int w58_7x), (0, .ref o1), (1, .int x1), (2, .int x2), (3, .long x3), (5, .long x4)] → f_X12_tries_2_L58 S o1 x1 x2 x3 x4 n S58_ w58_7 = (S58_x, w58_7x) → W p l e (headSpec wsX12_tries ({ frames := 5, cells := 0, slots := 0, locals := 120 } : Room)).room s m [.ref o1, .int x1, .int x2, .long x3, .long x4].toArray below meth c H locs 0 0 (MQ below (va_Qv (fun (u : wPS) => u = f_X12_tries_2 S o1 x1 x2 x3 x4 ∧ stp [(17, 100)] [] [] S u) (fun u t => WD D cy X A u t) A) [.ref o1, .int x1, .int x2, .long x3, .long x4].toArray s 0 0 A) (F0 m 115 ls [])) → W p l e (headSpec wsX12_tries ({ frames := 5, cells := 0, slots := 0, locals := 120 } : Room)).room s m [.ref o1, .int x1, .int x2, .long x3, .long x4].toArray below meth c H locs 0 0 (MQ below (va_Qv (fun (u : wPS) => u = f_X12_tries_2 S o1 x1 x2 x3 x4 ∧ stp [(17, 100)] [] [] S u) (fun u t => WD D cy X A u t) A) [.ref o1, .int x1, .int x2, .long x3, .long x4].toArray s 0 0 A) (F0 m 58 ls []) := by
      intro n58
      induction n58 with
      | zero => intro S58_ w58_7 H locs ls hm; exact absurd hm (Nat.not_lt_zero _)
      | succ n58 ih58 =>
        intro S58_ w58_7 H locs ls hm58 hi58 hsh58 hP hD hS hl ko58
        have r16 := ((hsh58.w.at (hsh58.x.A h_o1) List.not_mem_nil).to_12 (hsh58.x.A h_o1).2.1).R16
        refine lv_iload hx hb dX12_tries_58 (lv_at hl 0 rfl) ?_
        refine lv_aload_n hx hb dX12_tries_60 rfl (lv_at hl 1 rfl) ?_
        obtain ⟨k2, gk2, hk2⟩ := wGt (cy := cy) X S58_ (hsh58.x.A h_o1).1 (hsh58.x.A h_o1).2.1
        have i3 := ((hsh58.w.at (hsh58.x.A h_o1) List.not_mem_nil).to_12 (hsh58.x.A h_o1).2.1).R16
        refine va_get (D := D) (ci := 16) (v := .int (S58_.I o1 16)) (C := RX12) (T := TX12) (N := 34) hx hb hts hi_X12_tries_X12 hown hK hP k2 hk2 rfl 16 (by decide) (hts (.fieldLink RX12 282 "HobhouseModel" "box" "I") (by decide +kernel)) (fun _ h9 => h9) rfl dX12_tries_61 ?_
        refine lv_icmp_ge (tgt := 115) hx hb dX12_tries_64 (by decide) (fun c4 => ?_) (fun c4 => ?_)
        · have c4i : (S58_.I o1 16).toInt ≤ w58_7.toInt := le_v rfl rfl c4
          exact ko58 S58_ w58_7 _ _ _ (by omega) hsh58 hP hD hS (lv_sub hl [0, 1, 2, 3, 4, 5] rfl) (by rw [f_X12_tries_2_L58_s, if_pos c4])
        · have c4i : w58_7.toInt < (S58_.I o1 16).toInt := nle_v rfl rfl c4
          refine lv_iload_n hx hb dX12_tries_67 rfl (lv_at hl 3 rfl) ?_
          refine lv_iload hx hb dX12_tries_68 (lv_at hl 0 rfl) ?_
          refine lv_ishr hx hb dX12_tries_70 ?_
          refine lv_iconst (v := 1) hx hb dX12_tries_71 (by decide) ?_
          refine lv_iand hx hb dX12_tries_72 ?_
          refine lv_iconst (v := 1) hx hb dX12_tries_73 (by decide) ?_
          refine lv_icmp_ne (tgt := 80) hx hb dX12_tries_74 (by decide) (fun c5 => ?_) (fun c5 => ?_)
          · have c5i : ¬ ((x2 >>> (w58_7 &&& 31)) &&& (1 : Int32)).toInt = 1 := neq_v rfl rfl c5
            refine lv_aload_n hx hb dX12_tries_80 rfl (lv_at hl 1 rfl) ?_
            have F6 := ((hW.at h_o1 List.not_mem_nil).to_12 h_o1.2.1).F4
            obtain ⟨k7, gk7, hk7⟩ := wGt (cy := cy) X S58_ (hsh58.x.A h_o1).1 (hsh58.x.A h_o1).2.1
            simp only [kE, (hsh58.x.F h_o1 (by decide) F6.1)] at hk7
            refine va_get (D := D) (ci := 16) (v := .ref (S.f o1 4)) (C := RX12) (T := TX12) (N := 34) hx hb hts hi_X12_tries_X12 hown hK hP k7 hk7 rfl 4 (by decide) (hts (.fieldLink RX12 38 "HobhouseModel" "trial" "[I") (by decide +kernel)) (fun _ h9 => h9) rfl dX12_tries_81 ?_
            refine lv_iload_n hx hb dX12_tries_84 rfl (lv_at hl 2 rfl) ?_
            refine lv_aload_n hx hb dX12_tries_85 rfl (lv_at hl 1 rfl) ?_
            have F8 := ((hW.at h_o1 List.not_mem_nil).to_12 h_o1.2.1).F2
            obtain ⟨k9, gk9, hk9⟩ := wGt (cy := cy) X S58_ (hsh58.x.A h_o1).1 (hsh58.x.A h_o1).2.1
            simp only [kE, (hsh58.x.F h_o1 (by decide) F8.1)] at hk9
            refine va_get (D := D) (ci := 16) (v := .ref (S.f o1 2)) (C := RX12) (T := TX12) (N := 34) hx hb hts hi_X12_tries_X12 hown hK hP k9 hk9 rfl 2 (by decide) (hts (.fieldLink RX12 31 "HobhouseModel" "wheels" "[I") (by decide +kernel)) (fun _ h9 => h9) rfl dX12_tries_86 ?_
            refine lv_iload hx hb dX12_tries_89 (lv_at hl 0 rfl) ?_
            obtain ⟨k10, gk10, hk10⟩ := wGt (cy := cy) X S58_ (hsh58.x.A F8.2.1).1 (hsh58.x.A F8.2.1).2.1
            refine va_iald hx hb hK hP k10 2 hk10 rfl (inb (m := 16) ((hsh58.x.n F8.2.1).trans F8.2.2) (by omega) (by omega)) dX12_tries_91 ?_
            obtain ⟨k11, gk11, hk11⟩ := wGt (cy := cy) X S58_ (hsh58.x.A F6.2.1).1 (hsh58.x.A F6.2.1).2.1
            refine va_iast hx hb hK hP hD hS k11 2 hk11 rfl (inb (m := 4) ((hsh58.x.n F6.2.1).trans F6.2.2) (by omega) (by omega)) dX12_tries_92 (fun H locs hP2 hD2 hS => ?_)
            have e9 := wPui (cy := cy) (f := (upd (S58_.i (S.f o1 4)) x1.toNatClampNeg (S58_.i (S.f o1 2) w58_7.toNatClampNeg))) hD (hsh58.x.A F6.2.1).1 (hsh58.x.A F6.2.1).2.1 gk11 rfl
            obtain ⟨S12, hS12⟩ : ∃ z, S58_.si (S.f o1 4) (upd (S58_.i (S.f o1 4)) x1.toNatClampNeg (S58_.i (S.f o1 2) w58_7.toNatClampNeg)) = z := ⟨_, rfl⟩
            have hP : va_P D vwCl (X ++ PL cy S12) H := by rw [← hS12, ← e9]; exact hP2
            have hD : va_D A (X ++ PL cy S12) := by rw [← hS12, ← e9]; exact hD2
            have xe13 : ext S58_ S12 := by rw [← hS12]; exact ext.si _ _ _
            have t14 : stp [(17, 100)] [] [] S S12 := by rw [← hS12]; exact hsh58.i (upd (S58_.i (S.f o1 4)) x1.toNatClampNeg (S58_.i (S.f o1 2) w58_7.toNatClampNeg)) (hsh58.x.A F6.2.1) (by decide)
            refine lv_aload_n hx hb dX12_tries_93 rfl (lv_at hl 1 rfl) ?_
            refine lv_iload_n hx hb dX12_tries_94 rfl (lv_at hl 2 rfl) ?_
            refine lv_iconst (v := 1) hx hb dX12_tries_95 (by decide) ?_
            refine lv_iadd hx hb dX12_tries_96 ?_
            refine lv_iload_n hx hb dX12_tries_97 rfl (lv_at hl 3 rfl) ?_
            refine lv_iconst (v := 1) hx hb dX12_tries_98 (by decide) ?_
            refine lv_iload hx hb dX12_tries_99 (lv_at hl 0 rfl) ?_
            refine lv_ishl hx hb dX12_tries_101 ?_
            refine lv_ior hx hb dX12_tries_102 ?_
            refine lv_lload_n hx hb dX12_tries_103 rfl (lv_at hl 4 rfl) ?_
            refine lv_lload hx hb dX12_tries_104 (lv_at hl 5 rfl) ?_
            have l32_1 : (1 : Int32).toInt = 1 := rfl
            have i15 : (x1 + (1 : Int32)).toInt = x1.toInt + 1 := t_addr (n := 1) rfl (by omega)
            have hFc := free_all hD hS hA
            obtain ⟨k16, gk16, hk16⟩ := wGt (cy := cy) X S12 (xe13.A (hsh58.x.A h_o1)).1 (xe13.A (hsh58.x.A h_o1)).2.1
            refine va_callv (va_runV (As := [.int (x1 + (1 : Int32)), .int (x2 ||| ((1 : Int32) <<< (w58_7 &&& 31))), .long x3, .long x4]) (rest := []) ⟨hx, hb, hml, hown, hts⟩ (c_X12_tries_3_q l (cy := cy) (X := X) (D := D) S12 _ o1 (xe13.A (hsh58.x.A h_o1)) (x1 + (1 : Int32)) (x2 ||| ((1 : Int32) <<< (w58_7 &&& 31))) x3 x4 (t14.w) (by omega)) (cwV 4 hts gX12_tries_X12_tries rfl rfl rfl hd_X12_tries ⟨Nat.le_of_ble_eq_true rfl, Nat.le_of_ble_eq_true rfl⟩) (pV (va_recv hK hP (q := (RX12, TX12, 34)) (ci := 16) (q0 := k16) rfl hk16) hP hK hD hN) rfl rfl hl.1 rfl (lv_room (Nat.le_of_ble_eq_true rfl)) dX12_tries_106 ⟨(Nat.zero_le _), (Nat.zero_le _)⟩) hS (fun q _ h => hFc q h) hFc (fun u t H1 locs ht hvm hw hB hz1 hk1 hS => ?_)
            obtain ⟨c18, w19⟩ := hw
            obtain ⟨hP, hD⟩ := wd_post hFc ht hB
            generalize H1 = H at hP hS ⊢
            obtain ⟨S20, rfl⟩ : ∃ z, z = u := ⟨_, rfl⟩
            have t21 : stp [(17, 100)] [] [] S S20 := t14.tr w19 (by decide) (fun _ q => absurd q List.not_mem_nil)
            have xe22 : ext S12 S20 := w19.x
            refine lv_iinc (v := w58_7 + (1 : Int32)) (lv' := [(7, .int (w58_7 + (1 : Int32))), (0, .ref o1), (1, .int x1), (2, .int x2), (3, .long x3), (5, .long x4)]) hx hb dX12_tries_109 hl (k := 0) rfl (by rfl) (by decide) rfl (fun ls hl => ?_)
            refine lv_goto (tgt := 58) hx hb dX12_tries_112 (by decide) ?_
            have i23 : (w58_7 + (1 : Int32)).toInt = w58_7.toInt + 1 := t_addr (n := 1) rfl (by omega)
            exact ih58 S20 (w58_7 + (1 : Int32)) _ _ _ (Nat.lt_of_lt_of_le (by omega) (Nat.le_of_lt_succ hm58)) (by omega) t21 hP hD hS (lv_sub hl [0, 1, 2, 3, 4, 5] rfl) (fun S58_y w58_7y H9 locs9 ls9 i9 sh9 P9 D9 S9 l9 hfe => ko58 S58_y w58_7y H9 locs9 ls9 i9 sh9 P9 D9 S9 l9 (Eq.trans (by rw [f_X12_tries_2_L58_s, if_neg c4, if_neg c5, l1_eq hS12, l1_eq c18.symm]) hfe))
          · have c5i : ((x2 >>> (w58_7 &&& 31)) &&& (1 : Int32)).toInt = 1 := eq_v rfl rfl c5
            refine lv_goto (tgt := 109) hx hb dX12_tries_77 (by decide) ?_
            refine lv_iinc (v := w58_7 + (1 : Int32)) (lv' := [(7, .int (w58_7 + (1 : Int32))), (0, .ref o1), (1, .int x1), (2, .int x2), (3, .long x3), (5, .long x4)]) hx hb dX12_tries_109 hl (k := 0) rfl (by rfl) (by decide) rfl (fun ls hl => ?_)
            refine lv_goto (tgt := 58) hx hb dX12_tries_112 (by decide) ?_
            have l32_1 : (1 : Int32).toInt = 1 := rfl
            have i24 : (w58_7 + (1 : Int32)).toInt = w58_7.toInt + 1 := t_addr (n := 1) rfl (by omega)
            exact ih58 S58_ (w58_7 + (1 : Int32)) _ _ _ (Nat.lt_of_lt_of_le (by omega) (Nat.le_of_lt_succ hm58)) (by omega) hsh58 hP hD hS (lv_sub hl [0, 1, 2, 3, 4, 5] rfl) (fun S58_y w58_7y H9 locs9 ls9 i9 sh9 P9 D9 S9 l9 hfe => ko58 S58_y w58_7y H9 locs9 ls9 i9 sh9 P9 D9 S9 l9 (Eq.trans (by rw [f_X12_tries_2_L58_s, if_neg c4, if_pos c5]) hfe))
    refine loop58 18 S (0 : Int32) _ _ _ (by omega) (by omega) (stp.rf hW) hP hD hS (lv_sub hl [0, 1, 2, 3, 4, 5] rfl) (fun S26 z27 H locs ls hi58 hsh58 hP hD hS hl c25 => ?_)
    have t28 : stp [(17, 100)] [] [] S S26 := t0.tr hsh58 (fun _ q => q) (fun _ q => Or.inl q)
    have et28 := hsh58.x
    refine W.widen (k := 0) (n := 0) (Nat.le_of_ble_eq_true rfl) (Nat.le_of_ble_eq_true rfl) ?_
    exact W.vret hx hb hr (fun t ht hW9 => ⟨⟨S26, rfl, ⟨(by show S26 = f_X12_tries_2 S o1 x1 x2 x3 x4; unfold f_X12_tries_2; rw [if_neg c1, l2_eq c25]), t28⟩, wd_end hP hK hD ht hW9.alike⟩, hS.F ht⟩) hS.2.2 dX12_tries_115 hlocks
  · have c1i : x1.toInt = 4 := eq_v rfl rfl c1
    exact False.elim (by omega)
def f_X12_tries_1_L58 (S : wPS) (o1 : Nat) (x1 : Int32) (x2 : Int32) (x3 : Int64) (x4 : Int64) : Nat → wPS → Int32 → wPS × Int32
  | 0, S58_, w58_7 => (S58_, w58_7)
  | n + 1, S58_, w58_7 => if (S58_.I o1 16) ≤ w58_7 then (S58_, w58_7) else if ((x2 >>> (w58_7 &&& 31)) &&& (1 : Int32)) = (1 : Int32) then f_X12_tries_1_L58 S o1 x1 x2 x3 x4 n S58_ (w58_7 + (1 : Int32)) else l1 (S58_.si (S.f o1 4) (upd (S58_.i (S.f o1 4)) x1.toNatClampNeg (S58_.i (S.f o1 2) w58_7.toNatClampNeg))) (fun S12 => l1 (f_X12_tries_2 S12 o1 (x1 + (1 : Int32)) (x2 ||| ((1 : Int32) <<< (w58_7 &&& 31))) x3 x4) (fun S20 => f_X12_tries_1_L58 S o1 x1 x2 x3 x4 n S20 (w58_7 + (1 : Int32))))
theorem f_X12_tries_1_L58_s (S : wPS) (o1 : Nat) (x1 : Int32) (x2 : Int32) (x3 : Int64) (x4 : Int64) (n : Nat) (S58_ : wPS) (w58_7 : Int32) : f_X12_tries_1_L58 S o1 x1 x2 x3 x4 (n + 1) S58_ w58_7 = if (S58_.I o1 16) ≤ w58_7 then (S58_, w58_7) else if ((x2 >>> (w58_7 &&& 31)) &&& (1 : Int32)) = (1 : Int32) then f_X12_tries_1_L58 S o1 x1 x2 x3 x4 n S58_ (w58_7 + (1 : Int32)) else l1 (S58_.si (S.f o1 4) (upd (S58_.i (S.f o1 4)) x1.toNatClampNeg (S58_.i (S.f o1 2) w58_7.toNatClampNeg))) (fun S12 => l1 (f_X12_tries_2 S12 o1 (x1 + (1 : Int32)) (x2 ||| ((1 : Int32) <<< (w58_7 &&& 31))) x3 x4) (fun S20 => f_X12_tries_1_L58 S o1 x1 x2 x3 x4 n S20 (w58_7 + (1 : Int32)))) := rfl
def f_X12_tries_1 (S : wPS) (o1 : Nat) (x1 : Int32) (x2 : Int32) (x3 : Int64) (x4 : Int64) : wPS := if x1 = (4 : Int32) then S else l2 (f_X12_tries_1_L58 S o1 x1 x2 x3 x4 18 S (0 : Int32)) (fun S26 z27 => S26)
set_option maxHeartbeats 4000000 in
set_option maxRecDepth 100000 in
theorem c_X12_tries_1_q (l : Launch) {D : va_G} {cy : Nat → ClassId} {X : va_W} (S : wPS) (sz : Nat) (o1 : Nat) (h_o1 : isA S o1 12) (x1 : Int32) (x2 : Int32) (x3 : Int64) (x4 : Int64) (hW : wtB S []) (h1 : x1.toInt = 1) : Met l yX12_tries wsX12_tries ({ frames := 6, cells := 0, slots := 0, locals := 147 }) (va_Pc [.ref o1, .int x1, .int x2, .long x3, .long x4] (fun U => U.heap.size = sz ∧ WD D cy X (fun _ => True) S U ∧ NW U)) (va_Qv (fun (u : wPS) => u = f_X12_tries_1 S o1 x1 x2 x3 x4 ∧ stp [(17, 100)] [] [] S u) (fun u t => WD D cy X (va_A (X ++ PL cy S) sz) u t) (va_A (X ++ PL cy S) sz)) 0 0 (va_A (X ++ PL cy S) sz) := by
  refine Met.ofW (cc := cX12_tries) (maxL := 8) (ret := none) (by decide) rfl ?_
  intro p e s m args below meth c s₁ B hml hv
  obtain ⟨rfl, hsz, ⟨hP, hK, hD0⟩, hN⟩ := hv
  have hx := B.exec
  have hb := B.bytes
  have hr := B.returns
  have hts := atoms_spec (ws := wsX12_tries) B.pre
  have hown : s.vm.findClass RX12 = some m.cls := findClass_of_methodNamed (x := yX12_tries) B.named
  have hlocks := B.notSynchronized
  subst hsz
  have hD := hD0.self (sz := s.heap.size)
  generalize hAe : va_A (X ++ PL cy S) s.heap.size = A at hD ⊢
  have hA : ∀ q : Nat, s.heap.size ≤ q → A q := fun q h => by rw [← hAe]; exact Or.inr h
  have hS : va_S A s.heap s.heap [] := va_S.rf
  have hl := lv_entry ([.ref o1, .int x1, .int x2, .long x3, .long x4]) (n := 8) (Nat.le_of_ble_eq_true rfl)
  rw [lg_entry_eq]
  generalize (lg_sl ([.ref o1, .int x1, .int x2, .long x3, .long x4]) ++ List.replicate (8 - (lg_sl ([.ref o1, .int x1, .int x2, .long x3, .long x4])).length) Slot.unset).toArray = ls at hl ⊢
  have hl : lv_has ls 8 [(0, .ref o1), (1, .int x1), (2, .int x2), (3, .long x3), (5, .long x4)] := hl
  have t0 : stp [(17, 100)] [] [] S S := stp.rf hW
  have r16 := ((hW.at h_o1 List.not_mem_nil).to_12 h_o1.2.1).R16
  refine lv_iload_n hx hb dX12_tries_0 rfl (lv_at hl 1 rfl) ?_
  refine lv_iconst (v := 4) hx hb dX12_tries_1 (by decide) ?_
  refine lv_icmp_ne (tgt := 55) hx hb dX12_tries_2 (by decide) (fun c1 => ?_) (fun c1 => ?_)
  · have c1i : ¬ x1.toInt = 4 := neq_v rfl rfl c1
    refine lv_iconst (v := 0) hx hb dX12_tries_55 (by decide) ?_
    refine lv_istore (lv' := [(7, .int (0 : Int32)), (0, .ref o1), (1, .int x1), (2, .int x2), (3, .long x3), (5, .long x4)]) hx hb dX12_tries_56 hl (by decide) rfl (fun ls hl => ?_)
    have l32_0 : (0 : Int32).toInt = 0 := rfl
    have loop58 : ∀ (n : Nat) (S58_ : wPS) (w58_7 : Int32) (H : Heap) (locs : List Loc) (ls : Array Slot), (17 - w58_7.toInt).toNat < n → 0 ≤ w58_7.toInt ∧ w58_7.toInt ≤ 16 → stp [(17, 100)] [] [] S S58_ → va_P D vwCl (X ++ PL cy S58_) H → va_D A (X ++ PL cy S58_) → va_S A s.heap H locs → lv_has ls 8 [(7, .int w58_7), (0, .ref o1), (1, .int x1), (2, .int x2), (3, .long x3), (5, .long x4)] → (∀ (S58_x : wPS) (w58_7x : Int32) (H : Heap) (locs : List Loc) (ls : Array Slot), 0 ≤ w58_7x.toInt ∧ w58_7x.toInt ≤ 16 → stp [(17, 100)] [] [] S S58_x → va_P D vwCl (X ++ PL cy S58_x) H → va_D A (X ++ PL cy S58_x) → va_S A s.heap H locs → lv_has ls 8 [(7, .int w58_7x), (0, .ref o1), (1, .int x1), (2, .int x2), (3, .long x3), (5, .long x4)] → f_X12_tries_1_L58 S o1 x1 x2 x3 x4 n S58_ w58_7 = (S58_x, w58_7x) → W p l e (headSpec wsX12_tries ({ frames := 6, cells := 0, slots := 0, locals := 147 } : Room)).room s m [.ref o1, .int x1, .int x2, .long x3, .long x4].toArray below meth c H locs 0 0 (MQ below (va_Qv (fun (u : wPS) => u = f_X12_tries_1 S o1 x1 x2 x3 x4 ∧ stp [(17, 100)] [] [] S u) (fun u t => WD D cy X A u t) A) [.ref o1, .int x1, .int x2, .long x3, .long x4].toArray s 0 0 A) (F0 m 115 ls [])) → W p l e (headSpec wsX12_tries ({ frames := 6, cells := 0, slots := 0, locals := 147 } : Room)).room s m [.ref o1, .int x1, .int x2, .long x3, .long x4].toArray below meth c H locs 0 0 (MQ below (va_Qv (fun (u : wPS) => u = f_X12_tries_1 S o1 x1 x2 x3 x4 ∧ stp [(17, 100)] [] [] S u) (fun u t => WD D cy X A u t) A) [.ref o1, .int x1, .int x2, .long x3, .long x4].toArray s 0 0 A) (F0 m 58 ls []) := by
      intro n58
      induction n58 with
      | zero => intro S58_ w58_7 H locs ls hm; exact absurd hm (Nat.not_lt_zero _)
      | succ n58 ih58 =>
        intro S58_ w58_7 H locs ls hm58 hi58 hsh58 hP hD hS hl ko58
        have r16 := ((hsh58.w.at (hsh58.x.A h_o1) List.not_mem_nil).to_12 (hsh58.x.A h_o1).2.1).R16
        refine lv_iload hx hb dX12_tries_58 (lv_at hl 0 rfl) ?_
        refine lv_aload_n hx hb dX12_tries_60 rfl (lv_at hl 1 rfl) ?_
        obtain ⟨k2, gk2, hk2⟩ := wGt (cy := cy) X S58_ (hsh58.x.A h_o1).1 (hsh58.x.A h_o1).2.1
        have i3 := ((hsh58.w.at (hsh58.x.A h_o1) List.not_mem_nil).to_12 (hsh58.x.A h_o1).2.1).R16
        refine va_get (D := D) (ci := 16) (v := .int (S58_.I o1 16)) (C := RX12) (T := TX12) (N := 34) hx hb hts hi_X12_tries_X12 hown hK hP k2 hk2 rfl 16 (by decide) (hts (.fieldLink RX12 282 "HobhouseModel" "box" "I") (by decide +kernel)) (fun _ h9 => h9) rfl dX12_tries_61 ?_
        refine lv_icmp_ge (tgt := 115) hx hb dX12_tries_64 (by decide) (fun c4 => ?_) (fun c4 => ?_)
        · have c4i : (S58_.I o1 16).toInt ≤ w58_7.toInt := le_v rfl rfl c4
          exact ko58 S58_ w58_7 _ _ _ (by omega) hsh58 hP hD hS (lv_sub hl [0, 1, 2, 3, 4, 5] rfl) (by rw [f_X12_tries_1_L58_s, if_pos c4])
        · have c4i : w58_7.toInt < (S58_.I o1 16).toInt := nle_v rfl rfl c4
          refine lv_iload_n hx hb dX12_tries_67 rfl (lv_at hl 3 rfl) ?_
          refine lv_iload hx hb dX12_tries_68 (lv_at hl 0 rfl) ?_
          refine lv_ishr hx hb dX12_tries_70 ?_
          refine lv_iconst (v := 1) hx hb dX12_tries_71 (by decide) ?_
          refine lv_iand hx hb dX12_tries_72 ?_
          refine lv_iconst (v := 1) hx hb dX12_tries_73 (by decide) ?_
          refine lv_icmp_ne (tgt := 80) hx hb dX12_tries_74 (by decide) (fun c5 => ?_) (fun c5 => ?_)
          · have c5i : ¬ ((x2 >>> (w58_7 &&& 31)) &&& (1 : Int32)).toInt = 1 := neq_v rfl rfl c5
            refine lv_aload_n hx hb dX12_tries_80 rfl (lv_at hl 1 rfl) ?_
            have F6 := ((hW.at h_o1 List.not_mem_nil).to_12 h_o1.2.1).F4
            obtain ⟨k7, gk7, hk7⟩ := wGt (cy := cy) X S58_ (hsh58.x.A h_o1).1 (hsh58.x.A h_o1).2.1
            simp only [kE, (hsh58.x.F h_o1 (by decide) F6.1)] at hk7
            refine va_get (D := D) (ci := 16) (v := .ref (S.f o1 4)) (C := RX12) (T := TX12) (N := 34) hx hb hts hi_X12_tries_X12 hown hK hP k7 hk7 rfl 4 (by decide) (hts (.fieldLink RX12 38 "HobhouseModel" "trial" "[I") (by decide +kernel)) (fun _ h9 => h9) rfl dX12_tries_81 ?_
            refine lv_iload_n hx hb dX12_tries_84 rfl (lv_at hl 2 rfl) ?_
            refine lv_aload_n hx hb dX12_tries_85 rfl (lv_at hl 1 rfl) ?_
            have F8 := ((hW.at h_o1 List.not_mem_nil).to_12 h_o1.2.1).F2
            obtain ⟨k9, gk9, hk9⟩ := wGt (cy := cy) X S58_ (hsh58.x.A h_o1).1 (hsh58.x.A h_o1).2.1
            simp only [kE, (hsh58.x.F h_o1 (by decide) F8.1)] at hk9
            refine va_get (D := D) (ci := 16) (v := .ref (S.f o1 2)) (C := RX12) (T := TX12) (N := 34) hx hb hts hi_X12_tries_X12 hown hK hP k9 hk9 rfl 2 (by decide) (hts (.fieldLink RX12 31 "HobhouseModel" "wheels" "[I") (by decide +kernel)) (fun _ h9 => h9) rfl dX12_tries_86 ?_
            refine lv_iload hx hb dX12_tries_89 (lv_at hl 0 rfl) ?_
            obtain ⟨k10, gk10, hk10⟩ := wGt (cy := cy) X S58_ (hsh58.x.A F8.2.1).1 (hsh58.x.A F8.2.1).2.1
            refine va_iald hx hb hK hP k10 2 hk10 rfl (inb (m := 16) ((hsh58.x.n F8.2.1).trans F8.2.2) (by omega) (by omega)) dX12_tries_91 ?_
            obtain ⟨k11, gk11, hk11⟩ := wGt (cy := cy) X S58_ (hsh58.x.A F6.2.1).1 (hsh58.x.A F6.2.1).2.1
            refine va_iast hx hb hK hP hD hS k11 2 hk11 rfl (inb (m := 4) ((hsh58.x.n F6.2.1).trans F6.2.2) (by omega) (by omega)) dX12_tries_92 (fun H locs hP2 hD2 hS => ?_)
            have e9 := wPui (cy := cy) (f := (upd (S58_.i (S.f o1 4)) x1.toNatClampNeg (S58_.i (S.f o1 2) w58_7.toNatClampNeg))) hD (hsh58.x.A F6.2.1).1 (hsh58.x.A F6.2.1).2.1 gk11 rfl
            obtain ⟨S12, hS12⟩ : ∃ z, S58_.si (S.f o1 4) (upd (S58_.i (S.f o1 4)) x1.toNatClampNeg (S58_.i (S.f o1 2) w58_7.toNatClampNeg)) = z := ⟨_, rfl⟩
            have hP : va_P D vwCl (X ++ PL cy S12) H := by rw [← hS12, ← e9]; exact hP2
            have hD : va_D A (X ++ PL cy S12) := by rw [← hS12, ← e9]; exact hD2
            have xe13 : ext S58_ S12 := by rw [← hS12]; exact ext.si _ _ _
            have t14 : stp [(17, 100)] [] [] S S12 := by rw [← hS12]; exact hsh58.i (upd (S58_.i (S.f o1 4)) x1.toNatClampNeg (S58_.i (S.f o1 2) w58_7.toNatClampNeg)) (hsh58.x.A F6.2.1) (by decide)
            refine lv_aload_n hx hb dX12_tries_93 rfl (lv_at hl 1 rfl) ?_
            refine lv_iload_n hx hb dX12_tries_94 rfl (lv_at hl 2 rfl) ?_
            refine lv_iconst (v := 1) hx hb dX12_tries_95 (by decide) ?_
            refine lv_iadd hx hb dX12_tries_96 ?_
            refine lv_iload_n hx hb dX12_tries_97 rfl (lv_at hl 3 rfl) ?_
            refine lv_iconst (v := 1) hx hb dX12_tries_98 (by decide) ?_
            refine lv_iload hx hb dX12_tries_99 (lv_at hl 0 rfl) ?_
            refine lv_ishl hx hb dX12_tries_101 ?_
            refine lv_ior hx hb dX12_tries_102 ?_
            refine lv_lload_n hx hb dX12_tries_103 rfl (lv_at hl 4 rfl) ?_
            refine lv_lload hx hb dX12_tries_104 (lv_at hl 5 rfl) ?_
            have l32_1 : (1 : Int32).toInt = 1 := rfl
            have i15 : (x1 + (1 : Int32)).toInt = x1.toInt + 1 := t_addr (n := 1) rfl (by omega)
            have hFc := free_all hD hS hA
            obtain ⟨k16, gk16, hk16⟩ := wGt (cy := cy) X S12 (xe13.A (hsh58.x.A h_o1)).1 (xe13.A (hsh58.x.A h_o1)).2.1
            refine va_callv (va_runV (As := [.int (x1 + (1 : Int32)), .int (x2 ||| ((1 : Int32) <<< (w58_7 &&& 31))), .long x3, .long x4]) (rest := []) ⟨hx, hb, hml, hown, hts⟩ (c_X12_tries_2_q l (cy := cy) (X := X) (D := D) S12 _ o1 (xe13.A (hsh58.x.A h_o1)) (x1 + (1 : Int32)) (x2 ||| ((1 : Int32) <<< (w58_7 &&& 31))) x3 x4 (t14.w) (by omega)) (cwV 4 hts gX12_tries_X12_tries rfl rfl rfl hd_X12_tries ⟨Nat.le_of_ble_eq_true rfl, Nat.le_of_ble_eq_true rfl⟩) (pV (va_recv hK hP (q := (RX12, TX12, 34)) (ci := 16) (q0 := k16) rfl hk16) hP hK hD hN) rfl rfl hl.1 rfl (lv_room (Nat.le_of_ble_eq_true rfl)) dX12_tries_106 ⟨(Nat.zero_le _), (Nat.zero_le _)⟩) hS (fun q _ h => hFc q h) hFc (fun u t H1 locs ht hvm hw hB hz1 hk1 hS => ?_)
            obtain ⟨c18, w19⟩ := hw
            obtain ⟨hP, hD⟩ := wd_post hFc ht hB
            generalize H1 = H at hP hS ⊢
            obtain ⟨S20, rfl⟩ : ∃ z, z = u := ⟨_, rfl⟩
            have t21 : stp [(17, 100)] [] [] S S20 := t14.tr w19 (by decide) (fun _ q => absurd q List.not_mem_nil)
            have xe22 : ext S12 S20 := w19.x
            refine lv_iinc (v := w58_7 + (1 : Int32)) (lv' := [(7, .int (w58_7 + (1 : Int32))), (0, .ref o1), (1, .int x1), (2, .int x2), (3, .long x3), (5, .long x4)]) hx hb dX12_tries_109 hl (k := 0) rfl (by rfl) (by decide) rfl (fun ls hl => ?_)
            refine lv_goto (tgt := 58) hx hb dX12_tries_112 (by decide) ?_
            have i23 : (w58_7 + (1 : Int32)).toInt = w58_7.toInt + 1 := t_addr (n := 1) rfl (by omega)
            exact ih58 S20 (w58_7 + (1 : Int32)) _ _ _ (Nat.lt_of_lt_of_le (by omega) (Nat.le_of_lt_succ hm58)) (by omega) t21 hP hD hS (lv_sub hl [0, 1, 2, 3, 4, 5] rfl) (fun S58_y w58_7y H9 locs9 ls9 i9 sh9 P9 D9 S9 l9 hfe => ko58 S58_y w58_7y H9 locs9 ls9 i9 sh9 P9 D9 S9 l9 (Eq.trans (by rw [f_X12_tries_1_L58_s, if_neg c4, if_neg c5, l1_eq hS12, l1_eq c18.symm]) hfe))
          · have c5i : ((x2 >>> (w58_7 &&& 31)) &&& (1 : Int32)).toInt = 1 := eq_v rfl rfl c5
            refine lv_goto (tgt := 109) hx hb dX12_tries_77 (by decide) ?_
            refine lv_iinc (v := w58_7 + (1 : Int32)) (lv' := [(7, .int (w58_7 + (1 : Int32))), (0, .ref o1), (1, .int x1), (2, .int x2), (3, .long x3), (5, .long x4)]) hx hb dX12_tries_109 hl (k := 0) rfl (by rfl) (by decide) rfl (fun ls hl => ?_)
            refine lv_goto (tgt := 58) hx hb dX12_tries_112 (by decide) ?_
            have l32_1 : (1 : Int32).toInt = 1 := rfl
            have i24 : (w58_7 + (1 : Int32)).toInt = w58_7.toInt + 1 := t_addr (n := 1) rfl (by omega)
            exact ih58 S58_ (w58_7 + (1 : Int32)) _ _ _ (Nat.lt_of_lt_of_le (by omega) (Nat.le_of_lt_succ hm58)) (by omega) hsh58 hP hD hS (lv_sub hl [0, 1, 2, 3, 4, 5] rfl) (fun S58_y w58_7y H9 locs9 ls9 i9 sh9 P9 D9 S9 l9 hfe => ko58 S58_y w58_7y H9 locs9 ls9 i9 sh9 P9 D9 S9 l9 (Eq.trans (by rw [f_X12_tries_1_L58_s, if_neg c4, if_pos c5]) hfe))
    refine loop58 18 S (0 : Int32) _ _ _ (by omega) (by omega) (stp.rf hW) hP hD hS (lv_sub hl [0, 1, 2, 3, 4, 5] rfl) (fun S26 z27 H locs ls hi58 hsh58 hP hD hS hl c25 => ?_)
    have t28 : stp [(17, 100)] [] [] S S26 := t0.tr hsh58 (fun _ q => q) (fun _ q => Or.inl q)
    have et28 := hsh58.x
    refine W.widen (k := 0) (n := 0) (Nat.le_of_ble_eq_true rfl) (Nat.le_of_ble_eq_true rfl) ?_
    exact W.vret hx hb hr (fun t ht hW9 => ⟨⟨S26, rfl, ⟨(by show S26 = f_X12_tries_1 S o1 x1 x2 x3 x4; unfold f_X12_tries_1; rw [if_neg c1, l2_eq c25]), t28⟩, wd_end hP hK hD ht hW9.alike⟩, hS.F ht⟩) hS.2.2 dX12_tries_115 hlocks
  · have c1i : x1.toInt = 4 := eq_v rfl rfl c1
    exact False.elim (by omega)
def f_X12_tries_0_L58 (S : wPS) (o1 : Nat) (x1 : Int32) (x2 : Int32) (x3 : Int64) (x4 : Int64) : Nat → wPS → Int32 → wPS × Int32
  | 0, S58_, w58_7 => (S58_, w58_7)
  | n + 1, S58_, w58_7 => if (S58_.I o1 16) ≤ w58_7 then (S58_, w58_7) else if ((x2 >>> (w58_7 &&& 31)) &&& (1 : Int32)) = (1 : Int32) then f_X12_tries_0_L58 S o1 x1 x2 x3 x4 n S58_ (w58_7 + (1 : Int32)) else l1 (S58_.si (S.f o1 4) (upd (S58_.i (S.f o1 4)) x1.toNatClampNeg (S58_.i (S.f o1 2) w58_7.toNatClampNeg))) (fun S12 => l1 (f_X12_tries_1 S12 o1 (x1 + (1 : Int32)) (x2 ||| ((1 : Int32) <<< (w58_7 &&& 31))) x3 x4) (fun S20 => f_X12_tries_0_L58 S o1 x1 x2 x3 x4 n S20 (w58_7 + (1 : Int32))))
theorem f_X12_tries_0_L58_s (S : wPS) (o1 : Nat) (x1 : Int32) (x2 : Int32) (x3 : Int64) (x4 : Int64) (n : Nat) (S58_ : wPS) (w58_7 : Int32) : f_X12_tries_0_L58 S o1 x1 x2 x3 x4 (n + 1) S58_ w58_7 = if (S58_.I o1 16) ≤ w58_7 then (S58_, w58_7) else if ((x2 >>> (w58_7 &&& 31)) &&& (1 : Int32)) = (1 : Int32) then f_X12_tries_0_L58 S o1 x1 x2 x3 x4 n S58_ (w58_7 + (1 : Int32)) else l1 (S58_.si (S.f o1 4) (upd (S58_.i (S.f o1 4)) x1.toNatClampNeg (S58_.i (S.f o1 2) w58_7.toNatClampNeg))) (fun S12 => l1 (f_X12_tries_1 S12 o1 (x1 + (1 : Int32)) (x2 ||| ((1 : Int32) <<< (w58_7 &&& 31))) x3 x4) (fun S20 => f_X12_tries_0_L58 S o1 x1 x2 x3 x4 n S20 (w58_7 + (1 : Int32)))) := rfl
def f_X12_tries_0 (S : wPS) (o1 : Nat) (x1 : Int32) (x2 : Int32) (x3 : Int64) (x4 : Int64) : wPS := if x1 = (4 : Int32) then S else l2 (f_X12_tries_0_L58 S o1 x1 x2 x3 x4 18 S (0 : Int32)) (fun S26 z27 => S26)
set_option maxHeartbeats 4000000 in
set_option maxRecDepth 100000 in
theorem c_X12_tries_0_q (l : Launch) {D : va_G} {cy : Nat → ClassId} {X : va_W} (S : wPS) (sz : Nat) (o1 : Nat) (h_o1 : isA S o1 12) (x1 : Int32) (x2 : Int32) (x3 : Int64) (x4 : Int64) (hW : wtB S []) (h1 : x1.toInt = 0) : Met l yX12_tries wsX12_tries ({ frames := 7, cells := 0, slots := 0, locals := 174 }) (va_Pc [.ref o1, .int x1, .int x2, .long x3, .long x4] (fun U => U.heap.size = sz ∧ WD D cy X (fun _ => True) S U ∧ NW U)) (va_Qv (fun (u : wPS) => u = f_X12_tries_0 S o1 x1 x2 x3 x4 ∧ stp [(17, 100)] [] [] S u) (fun u t => WD D cy X (va_A (X ++ PL cy S) sz) u t) (va_A (X ++ PL cy S) sz)) 0 0 (va_A (X ++ PL cy S) sz) := by
  refine Met.ofW (cc := cX12_tries) (maxL := 8) (ret := none) (by decide) rfl ?_
  intro p e s m args below meth c s₁ B hml hv
  obtain ⟨rfl, hsz, ⟨hP, hK, hD0⟩, hN⟩ := hv
  have hx := B.exec
  have hb := B.bytes
  have hr := B.returns
  have hts := atoms_spec (ws := wsX12_tries) B.pre
  have hown : s.vm.findClass RX12 = some m.cls := findClass_of_methodNamed (x := yX12_tries) B.named
  have hlocks := B.notSynchronized
  subst hsz
  have hD := hD0.self (sz := s.heap.size)
  generalize hAe : va_A (X ++ PL cy S) s.heap.size = A at hD ⊢
  have hA : ∀ q : Nat, s.heap.size ≤ q → A q := fun q h => by rw [← hAe]; exact Or.inr h
  have hS : va_S A s.heap s.heap [] := va_S.rf
  have hl := lv_entry ([.ref o1, .int x1, .int x2, .long x3, .long x4]) (n := 8) (Nat.le_of_ble_eq_true rfl)
  rw [lg_entry_eq]
  generalize (lg_sl ([.ref o1, .int x1, .int x2, .long x3, .long x4]) ++ List.replicate (8 - (lg_sl ([.ref o1, .int x1, .int x2, .long x3, .long x4])).length) Slot.unset).toArray = ls at hl ⊢
  have hl : lv_has ls 8 [(0, .ref o1), (1, .int x1), (2, .int x2), (3, .long x3), (5, .long x4)] := hl
  have t0 : stp [(17, 100)] [] [] S S := stp.rf hW
  have r16 := ((hW.at h_o1 List.not_mem_nil).to_12 h_o1.2.1).R16
  refine lv_iload_n hx hb dX12_tries_0 rfl (lv_at hl 1 rfl) ?_
  refine lv_iconst (v := 4) hx hb dX12_tries_1 (by decide) ?_
  refine lv_icmp_ne (tgt := 55) hx hb dX12_tries_2 (by decide) (fun c1 => ?_) (fun c1 => ?_)
  · have c1i : ¬ x1.toInt = 4 := neq_v rfl rfl c1
    refine lv_iconst (v := 0) hx hb dX12_tries_55 (by decide) ?_
    refine lv_istore (lv' := [(7, .int (0 : Int32)), (0, .ref o1), (1, .int x1), (2, .int x2), (3, .long x3), (5, .long x4)]) hx hb dX12_tries_56 hl (by decide) rfl (fun ls hl => ?_)
    have l32_0 : (0 : Int32).toInt = 0 := rfl
    have loop58 : ∀ (n : Nat) (S58_ : wPS) (w58_7 : Int32) (H : Heap) (locs : List Loc) (ls : Array Slot), (17 - w58_7.toInt).toNat < n → 0 ≤ w58_7.toInt ∧ w58_7.toInt ≤ 16 → stp [(17, 100)] [] [] S S58_ → va_P D vwCl (X ++ PL cy S58_) H → va_D A (X ++ PL cy S58_) → va_S A s.heap H locs → lv_has ls 8 [(7, .int w58_7), (0, .ref o1), (1, .int x1), (2, .int x2), (3, .long x3), (5, .long x4)] → (∀ (S58_x : wPS) (w58_7x : Int32) (H : Heap) (locs : List Loc) (ls : Array Slot), 0 ≤ w58_7x.toInt ∧ w58_7x.toInt ≤ 16 → stp [(17, 100)] [] [] S S58_x → va_P D vwCl (X ++ PL cy S58_x) H → va_D A (X ++ PL cy S58_x) → va_S A s.heap H locs → lv_has ls 8 [(7, .int w58_7x), (0, .ref o1), (1, .int x1), (2, .int x2), (3, .long x3), (5, .long x4)] → f_X12_tries_0_L58 S o1 x1 x2 x3 x4 n S58_ w58_7 = (S58_x, w58_7x) → W p l e (headSpec wsX12_tries ({ frames := 7, cells := 0, slots := 0, locals := 174 } : Room)).room s m [.ref o1, .int x1, .int x2, .long x3, .long x4].toArray below meth c H locs 0 0 (MQ below (va_Qv (fun (u : wPS) => u = f_X12_tries_0 S o1 x1 x2 x3 x4 ∧ stp [(17, 100)] [] [] S u) (fun u t => WD D cy X A u t) A) [.ref o1, .int x1, .int x2, .long x3, .long x4].toArray s 0 0 A) (F0 m 115 ls [])) → W p l e (headSpec wsX12_tries ({ frames := 7, cells := 0, slots := 0, locals := 174 } : Room)).room s m [.ref o1, .int x1, .int x2, .long x3, .long x4].toArray below meth c H locs 0 0 (MQ below (va_Qv (fun (u : wPS) => u = f_X12_tries_0 S o1 x1 x2 x3 x4 ∧ stp [(17, 100)] [] [] S u) (fun u t => WD D cy X A u t) A) [.ref o1, .int x1, .int x2, .long x3, .long x4].toArray s 0 0 A) (F0 m 58 ls []) := by
      intro n58
      induction n58 with
      | zero => intro S58_ w58_7 H locs ls hm; exact absurd hm (Nat.not_lt_zero _)
      | succ n58 ih58 =>
        intro S58_ w58_7 H locs ls hm58 hi58 hsh58 hP hD hS hl ko58
        have r16 := ((hsh58.w.at (hsh58.x.A h_o1) List.not_mem_nil).to_12 (hsh58.x.A h_o1).2.1).R16
        refine lv_iload hx hb dX12_tries_58 (lv_at hl 0 rfl) ?_
        refine lv_aload_n hx hb dX12_tries_60 rfl (lv_at hl 1 rfl) ?_
        obtain ⟨k2, gk2, hk2⟩ := wGt (cy := cy) X S58_ (hsh58.x.A h_o1).1 (hsh58.x.A h_o1).2.1
        have i3 := ((hsh58.w.at (hsh58.x.A h_o1) List.not_mem_nil).to_12 (hsh58.x.A h_o1).2.1).R16
        refine va_get (D := D) (ci := 16) (v := .int (S58_.I o1 16)) (C := RX12) (T := TX12) (N := 34) hx hb hts hi_X12_tries_X12 hown hK hP k2 hk2 rfl 16 (by decide) (hts (.fieldLink RX12 282 "HobhouseModel" "box" "I") (by decide +kernel)) (fun _ h9 => h9) rfl dX12_tries_61 ?_
        refine lv_icmp_ge (tgt := 115) hx hb dX12_tries_64 (by decide) (fun c4 => ?_) (fun c4 => ?_)
        · have c4i : (S58_.I o1 16).toInt ≤ w58_7.toInt := le_v rfl rfl c4
          exact ko58 S58_ w58_7 _ _ _ (by omega) hsh58 hP hD hS (lv_sub hl [0, 1, 2, 3, 4, 5] rfl) (by rw [f_X12_tries_0_L58_s, if_pos c4])
        · have c4i : w58_7.toInt < (S58_.I o1 16).toInt := nle_v rfl rfl c4
          refine lv_iload_n hx hb dX12_tries_67 rfl (lv_at hl 3 rfl) ?_
          refine lv_iload hx hb dX12_tries_68 (lv_at hl 0 rfl) ?_
          refine lv_ishr hx hb dX12_tries_70 ?_
          refine lv_iconst (v := 1) hx hb dX12_tries_71 (by decide) ?_
          refine lv_iand hx hb dX12_tries_72 ?_
          refine lv_iconst (v := 1) hx hb dX12_tries_73 (by decide) ?_
          refine lv_icmp_ne (tgt := 80) hx hb dX12_tries_74 (by decide) (fun c5 => ?_) (fun c5 => ?_)
          · have c5i : ¬ ((x2 >>> (w58_7 &&& 31)) &&& (1 : Int32)).toInt = 1 := neq_v rfl rfl c5
            refine lv_aload_n hx hb dX12_tries_80 rfl (lv_at hl 1 rfl) ?_
            have F6 := ((hW.at h_o1 List.not_mem_nil).to_12 h_o1.2.1).F4
            obtain ⟨k7, gk7, hk7⟩ := wGt (cy := cy) X S58_ (hsh58.x.A h_o1).1 (hsh58.x.A h_o1).2.1
            simp only [kE, (hsh58.x.F h_o1 (by decide) F6.1)] at hk7
            refine va_get (D := D) (ci := 16) (v := .ref (S.f o1 4)) (C := RX12) (T := TX12) (N := 34) hx hb hts hi_X12_tries_X12 hown hK hP k7 hk7 rfl 4 (by decide) (hts (.fieldLink RX12 38 "HobhouseModel" "trial" "[I") (by decide +kernel)) (fun _ h9 => h9) rfl dX12_tries_81 ?_
            refine lv_iload_n hx hb dX12_tries_84 rfl (lv_at hl 2 rfl) ?_
            refine lv_aload_n hx hb dX12_tries_85 rfl (lv_at hl 1 rfl) ?_
            have F8 := ((hW.at h_o1 List.not_mem_nil).to_12 h_o1.2.1).F2
            obtain ⟨k9, gk9, hk9⟩ := wGt (cy := cy) X S58_ (hsh58.x.A h_o1).1 (hsh58.x.A h_o1).2.1
            simp only [kE, (hsh58.x.F h_o1 (by decide) F8.1)] at hk9
            refine va_get (D := D) (ci := 16) (v := .ref (S.f o1 2)) (C := RX12) (T := TX12) (N := 34) hx hb hts hi_X12_tries_X12 hown hK hP k9 hk9 rfl 2 (by decide) (hts (.fieldLink RX12 31 "HobhouseModel" "wheels" "[I") (by decide +kernel)) (fun _ h9 => h9) rfl dX12_tries_86 ?_
            refine lv_iload hx hb dX12_tries_89 (lv_at hl 0 rfl) ?_
            obtain ⟨k10, gk10, hk10⟩ := wGt (cy := cy) X S58_ (hsh58.x.A F8.2.1).1 (hsh58.x.A F8.2.1).2.1
            refine va_iald hx hb hK hP k10 2 hk10 rfl (inb (m := 16) ((hsh58.x.n F8.2.1).trans F8.2.2) (by omega) (by omega)) dX12_tries_91 ?_
            obtain ⟨k11, gk11, hk11⟩ := wGt (cy := cy) X S58_ (hsh58.x.A F6.2.1).1 (hsh58.x.A F6.2.1).2.1
            refine va_iast hx hb hK hP hD hS k11 2 hk11 rfl (inb (m := 4) ((hsh58.x.n F6.2.1).trans F6.2.2) (by omega) (by omega)) dX12_tries_92 (fun H locs hP2 hD2 hS => ?_)
            have e9 := wPui (cy := cy) (f := (upd (S58_.i (S.f o1 4)) x1.toNatClampNeg (S58_.i (S.f o1 2) w58_7.toNatClampNeg))) hD (hsh58.x.A F6.2.1).1 (hsh58.x.A F6.2.1).2.1 gk11 rfl
            obtain ⟨S12, hS12⟩ : ∃ z, S58_.si (S.f o1 4) (upd (S58_.i (S.f o1 4)) x1.toNatClampNeg (S58_.i (S.f o1 2) w58_7.toNatClampNeg)) = z := ⟨_, rfl⟩
            have hP : va_P D vwCl (X ++ PL cy S12) H := by rw [← hS12, ← e9]; exact hP2
            have hD : va_D A (X ++ PL cy S12) := by rw [← hS12, ← e9]; exact hD2
            have xe13 : ext S58_ S12 := by rw [← hS12]; exact ext.si _ _ _
            have t14 : stp [(17, 100)] [] [] S S12 := by rw [← hS12]; exact hsh58.i (upd (S58_.i (S.f o1 4)) x1.toNatClampNeg (S58_.i (S.f o1 2) w58_7.toNatClampNeg)) (hsh58.x.A F6.2.1) (by decide)
            refine lv_aload_n hx hb dX12_tries_93 rfl (lv_at hl 1 rfl) ?_
            refine lv_iload_n hx hb dX12_tries_94 rfl (lv_at hl 2 rfl) ?_
            refine lv_iconst (v := 1) hx hb dX12_tries_95 (by decide) ?_
            refine lv_iadd hx hb dX12_tries_96 ?_
            refine lv_iload_n hx hb dX12_tries_97 rfl (lv_at hl 3 rfl) ?_
            refine lv_iconst (v := 1) hx hb dX12_tries_98 (by decide) ?_
            refine lv_iload hx hb dX12_tries_99 (lv_at hl 0 rfl) ?_
            refine lv_ishl hx hb dX12_tries_101 ?_
            refine lv_ior hx hb dX12_tries_102 ?_
            refine lv_lload_n hx hb dX12_tries_103 rfl (lv_at hl 4 rfl) ?_
            refine lv_lload hx hb dX12_tries_104 (lv_at hl 5 rfl) ?_
            have l32_1 : (1 : Int32).toInt = 1 := rfl
            have i15 : (x1 + (1 : Int32)).toInt = x1.toInt + 1 := t_addr (n := 1) rfl (by omega)
            have hFc := free_all hD hS hA
            obtain ⟨k16, gk16, hk16⟩ := wGt (cy := cy) X S12 (xe13.A (hsh58.x.A h_o1)).1 (xe13.A (hsh58.x.A h_o1)).2.1
            refine va_callv (va_runV (As := [.int (x1 + (1 : Int32)), .int (x2 ||| ((1 : Int32) <<< (w58_7 &&& 31))), .long x3, .long x4]) (rest := []) ⟨hx, hb, hml, hown, hts⟩ (c_X12_tries_1_q l (cy := cy) (X := X) (D := D) S12 _ o1 (xe13.A (hsh58.x.A h_o1)) (x1 + (1 : Int32)) (x2 ||| ((1 : Int32) <<< (w58_7 &&& 31))) x3 x4 (t14.w) (by omega)) (cwV 4 hts gX12_tries_X12_tries rfl rfl rfl hd_X12_tries ⟨Nat.le_of_ble_eq_true rfl, Nat.le_of_ble_eq_true rfl⟩) (pV (va_recv hK hP (q := (RX12, TX12, 34)) (ci := 16) (q0 := k16) rfl hk16) hP hK hD hN) rfl rfl hl.1 rfl (lv_room (Nat.le_of_ble_eq_true rfl)) dX12_tries_106 ⟨(Nat.zero_le _), (Nat.zero_le _)⟩) hS (fun q _ h => hFc q h) hFc (fun u t H1 locs ht hvm hw hB hz1 hk1 hS => ?_)
            obtain ⟨c18, w19⟩ := hw
            obtain ⟨hP, hD⟩ := wd_post hFc ht hB
            generalize H1 = H at hP hS ⊢
            obtain ⟨S20, rfl⟩ : ∃ z, z = u := ⟨_, rfl⟩
            have t21 : stp [(17, 100)] [] [] S S20 := t14.tr w19 (by decide) (fun _ q => absurd q List.not_mem_nil)
            have xe22 : ext S12 S20 := w19.x
            refine lv_iinc (v := w58_7 + (1 : Int32)) (lv' := [(7, .int (w58_7 + (1 : Int32))), (0, .ref o1), (1, .int x1), (2, .int x2), (3, .long x3), (5, .long x4)]) hx hb dX12_tries_109 hl (k := 0) rfl (by rfl) (by decide) rfl (fun ls hl => ?_)
            refine lv_goto (tgt := 58) hx hb dX12_tries_112 (by decide) ?_
            have i23 : (w58_7 + (1 : Int32)).toInt = w58_7.toInt + 1 := t_addr (n := 1) rfl (by omega)
            exact ih58 S20 (w58_7 + (1 : Int32)) _ _ _ (Nat.lt_of_lt_of_le (by omega) (Nat.le_of_lt_succ hm58)) (by omega) t21 hP hD hS (lv_sub hl [0, 1, 2, 3, 4, 5] rfl) (fun S58_y w58_7y H9 locs9 ls9 i9 sh9 P9 D9 S9 l9 hfe => ko58 S58_y w58_7y H9 locs9 ls9 i9 sh9 P9 D9 S9 l9 (Eq.trans (by rw [f_X12_tries_0_L58_s, if_neg c4, if_neg c5, l1_eq hS12, l1_eq c18.symm]) hfe))
          · have c5i : ((x2 >>> (w58_7 &&& 31)) &&& (1 : Int32)).toInt = 1 := eq_v rfl rfl c5
            refine lv_goto (tgt := 109) hx hb dX12_tries_77 (by decide) ?_
            refine lv_iinc (v := w58_7 + (1 : Int32)) (lv' := [(7, .int (w58_7 + (1 : Int32))), (0, .ref o1), (1, .int x1), (2, .int x2), (3, .long x3), (5, .long x4)]) hx hb dX12_tries_109 hl (k := 0) rfl (by rfl) (by decide) rfl (fun ls hl => ?_)
            refine lv_goto (tgt := 58) hx hb dX12_tries_112 (by decide) ?_
            have l32_1 : (1 : Int32).toInt = 1 := rfl
            have i24 : (w58_7 + (1 : Int32)).toInt = w58_7.toInt + 1 := t_addr (n := 1) rfl (by omega)
            exact ih58 S58_ (w58_7 + (1 : Int32)) _ _ _ (Nat.lt_of_lt_of_le (by omega) (Nat.le_of_lt_succ hm58)) (by omega) hsh58 hP hD hS (lv_sub hl [0, 1, 2, 3, 4, 5] rfl) (fun S58_y w58_7y H9 locs9 ls9 i9 sh9 P9 D9 S9 l9 hfe => ko58 S58_y w58_7y H9 locs9 ls9 i9 sh9 P9 D9 S9 l9 (Eq.trans (by rw [f_X12_tries_0_L58_s, if_neg c4, if_pos c5]) hfe))
    refine loop58 18 S (0 : Int32) _ _ _ (by omega) (by omega) (stp.rf hW) hP hD hS (lv_sub hl [0, 1, 2, 3, 4, 5] rfl) (fun S26 z27 H locs ls hi58 hsh58 hP hD hS hl c25 => ?_)
    have t28 : stp [(17, 100)] [] [] S S26 := t0.tr hsh58 (fun _ q => q) (fun _ q => Or.inl q)
    have et28 := hsh58.x
    refine W.widen (k := 0) (n := 0) (Nat.le_of_ble_eq_true rfl) (Nat.le_of_ble_eq_true rfl) ?_
    exact W.vret hx hb hr (fun t ht hW9 => ⟨⟨S26, rfl, ⟨(by show S26 = f_X12_tries_0 S o1 x1 x2 x3 x4; unfold f_X12_tries_0; rw [if_neg c1, l2_eq c25]), t28⟩, wd_end hP hK hD ht hW9.alike⟩, hS.F ht⟩) hS.2.2 dX12_tries_115 hlocks
  · have c1i : x1.toInt = 4 := eq_v rfl rfl c1
    exact False.elim (by omega)
def f_X12_finds (S : wPS) (o1 : Nat) (x1 : Int64) (x2 : Int64) : wPS := l1 (S.si (S.f o1 3) (upd (S.i (S.f o1 3)) (0 : Int32).toNatClampNeg (0 : Int32))) (fun S4 => l1 (f_X12_tries_0 S4 o1 (0 : Int32) (0 : Int32) x1 x2) (fun S11 => S11))
set_option maxHeartbeats 4000000 in
set_option maxRecDepth 100000 in
theorem c_X12_finds_q (l : Launch) {D : va_G} {cy : Nat → ClassId} {X : va_W} (S : wPS) (sz : Nat) (o1 : Nat) (h_o1 : isA S o1 12) (x1 : Int64) (x2 : Int64) (hW : wtB S [])  : Met l yX12_finds wsX12_finds ({ frames := 8, cells := 0, slots := 0, locals := 201 }) (va_Pc [.ref o1, .long x1, .long x2] (fun U => U.heap.size = sz ∧ WD D cy X (fun _ => True) S U ∧ NW U)) (va_Qv (fun (u : wPS) => u = f_X12_finds S o1 x1 x2 ∧ stp [(17, 100)] [] [] S u) (fun u t => WD D cy X (va_A (X ++ PL cy S) sz) u t) (va_A (X ++ PL cy S) sz)) 0 0 (va_A (X ++ PL cy S) sz) := by
  refine Met.ofW (cc := cX12_finds) (maxL := 5) (ret := none) (by decide) rfl ?_
  intro p e s m args below meth c s₁ B hml hv
  obtain ⟨rfl, hsz, ⟨hP, hK, hD0⟩, hN⟩ := hv
  have hx := B.exec
  have hb := B.bytes
  have hr := B.returns
  have hts := atoms_spec (ws := wsX12_finds) B.pre
  have hown : s.vm.findClass RX12 = some m.cls := findClass_of_methodNamed (x := yX12_finds) B.named
  have hlocks := B.notSynchronized
  subst hsz
  have hD := hD0.self (sz := s.heap.size)
  generalize hAe : va_A (X ++ PL cy S) s.heap.size = A at hD ⊢
  have hA : ∀ q : Nat, s.heap.size ≤ q → A q := fun q h => by rw [← hAe]; exact Or.inr h
  have hS : va_S A s.heap s.heap [] := va_S.rf
  have hl := lv_entry ([.ref o1, .long x1, .long x2]) (n := 5) (Nat.le_of_ble_eq_true rfl)
  rw [lg_entry_eq]
  generalize (lg_sl ([.ref o1, .long x1, .long x2]) ++ List.replicate (5 - (lg_sl ([.ref o1, .long x1, .long x2])).length) Slot.unset).toArray = ls at hl ⊢
  have hl : lv_has ls 5 [(0, .ref o1), (1, .long x1), (3, .long x2)] := hl
  have t0 : stp [(17, 100)] [] [] S S := stp.rf hW
  refine lv_aload_n hx hb dX12_finds_0 rfl (lv_at hl 0 rfl) ?_
  have F1 := ((hW.at h_o1 List.not_mem_nil).to_12 h_o1.2.1).F3
  obtain ⟨k2, gk2, hk2⟩ := wGt (cy := cy) X S h_o1.1 h_o1.2.1
  simp only [kE, F1.1] at hk2
  refine va_get (D := D) (ci := 16) (v := .ref (S.f o1 3)) (C := RX12) (T := TX12) (N := 34) hx hb hts hi_X12_finds_X12 hown hK hP k2 hk2 rfl 3 (by decide) (hts (.fieldLink RX12 35 "HobhouseModel" "four" "[I") (by decide +kernel)) (fun _ h9 => h9) rfl dX12_finds_1 ?_
  refine lv_iconst (v := 0) hx hb dX12_finds_4 (by decide) ?_
  refine lv_iconst (v := 0) hx hb dX12_finds_5 (by decide) ?_
  obtain ⟨k3, gk3, hk3⟩ := wGt (cy := cy) X S F1.2.1.1 F1.2.1.2.1
  refine va_iast hx hb hK hP hD hS k3 2 hk3 rfl (inb F1.2.2 (by decide) (by decide)) dX12_finds_6 (fun H locs hP2 hD2 hS => ?_)
  have e9 := wPui (cy := cy) (f := (upd (S.i (S.f o1 3)) (0 : Int32).toNatClampNeg (0 : Int32))) hD F1.2.1.1 F1.2.1.2.1 gk3 rfl
  obtain ⟨S4, hS4⟩ : ∃ z, S.si (S.f o1 3) (upd (S.i (S.f o1 3)) (0 : Int32).toNatClampNeg (0 : Int32)) = z := ⟨_, rfl⟩
  have hP : va_P D vwCl (X ++ PL cy S4) H := by rw [← hS4, ← e9]; exact hP2
  have hD : va_D A (X ++ PL cy S4) := by rw [← hS4, ← e9]; exact hD2
  have xe5 : ext S S4 := by rw [← hS4]; exact ext.si _ _ _
  have t6 : stp [(17, 100)] [] [] S S4 := by rw [← hS4]; exact t0.i (upd (S.i (S.f o1 3)) (0 : Int32).toNatClampNeg (0 : Int32)) F1.2.1 (by decide)
  refine lv_aload_n hx hb dX12_finds_7 rfl (lv_at hl 0 rfl) ?_
  refine lv_iconst (v := 0) hx hb dX12_finds_8 (by decide) ?_
  refine lv_iconst (v := 0) hx hb dX12_finds_9 (by decide) ?_
  refine lv_lload_n hx hb dX12_finds_10 rfl (lv_at hl 1 rfl) ?_
  refine lv_lload_n hx hb dX12_finds_11 rfl (lv_at hl 2 rfl) ?_
  have l32_0 : (0 : Int32).toInt = 0 := rfl
  have hFc := free_all hD hS hA
  obtain ⟨k7, gk7, hk7⟩ := wGt (cy := cy) X S4 (xe5.A h_o1).1 (xe5.A h_o1).2.1
  refine va_callv (va_runV (As := [.int (0 : Int32), .int (0 : Int32), .long x1, .long x2]) (rest := []) ⟨hx, hb, hml, hown, hts⟩ (c_X12_tries_0_q l (cy := cy) (X := X) (D := D) S4 _ o1 (xe5.A h_o1) (0 : Int32) (0 : Int32) x1 x2 (t6.w) (by omega)) (cwV 4 hts gX12_finds_X12_tries rfl rfl rfl hd_X12_tries ⟨Nat.le_of_ble_eq_true rfl, Nat.le_of_ble_eq_true rfl⟩) (pV (va_recv hK hP (q := (RX12, TX12, 34)) (ci := 16) (q0 := k7) rfl hk7) hP hK hD hN) rfl rfl hl.1 rfl (lv_room (Nat.le_of_ble_eq_true rfl)) dX12_finds_12 ⟨(Nat.zero_le _), (Nat.zero_le _)⟩) hS (fun q _ h => hFc q h) hFc (fun u t H1 locs ht hvm hw hB hz1 hk1 hS => ?_)
  obtain ⟨c9, w10⟩ := hw
  obtain ⟨hP, hD⟩ := wd_post hFc ht hB
  generalize H1 = H at hP hS ⊢
  obtain ⟨S11, rfl⟩ : ∃ z, z = u := ⟨_, rfl⟩
  have t12 : stp [(17, 100)] [] [] S S11 := t6.tr w10 (by decide) (fun _ q => absurd q List.not_mem_nil)
  have xe13 : ext S4 S11 := w10.x
  refine W.widen (k := 0) (n := 0) (Nat.le_of_ble_eq_true rfl) (Nat.le_of_ble_eq_true rfl) ?_
  exact W.vret hx hb hr (fun t ht hW9 => ⟨⟨S11, rfl, ⟨(by show S11 = f_X12_finds S o1 x1 x2; unfold f_X12_finds; rw [l1_eq hS4, l1_eq c9.symm]), t12⟩, wd_end hP hK hD ht hW9.alike⟩, hS.F ht⟩) hS.2.2 dX12_finds_15 hlocks
def f_X12_isMet (S : wPS) (o1 : Nat) (x1 : Int64) (x2 : Int64) (x3 : Int32) : (Int32 × wPS) := l1 (f_X12_finds S o1 x1 x2) (fun S5 => if (0 : Int32) < (lg_cmp ((1000000 : Int64) * (f_X12_offOf S5 (S.f o1 3) x1 x2)) (((x3.toInt64 * x1) * ((S5.i (S.f o1 3) (1 : Int32).toNatClampNeg).toInt64)) * ((S5.i (S.f o1 3) (3 : Int32).toNatClampNeg).toInt64))) then ((0 : Int32), S5) else ((1 : Int32), S5))
set_option maxHeartbeats 4000000 in
set_option maxRecDepth 100000 in
theorem c_X12_isMet_q (l : Launch) {D : va_G} {cy : Nat → ClassId} {X : va_W} (S : wPS) (sz : Nat) (o1 : Nat) (h_o1 : isA S o1 12) (x1 : Int64) (x2 : Int64) (x3 : Int32) (hW : wtB S [])  : Met l yX12_isMet wsX12_isMet ({ frames := 9, cells := 0, slots := 0, locals := 225 }) (va_Pc [.ref o1, .long x1, .long x2, .int x3] (fun U => U.heap.size = sz ∧ WD D cy X (fun _ => True) S U ∧ NW U)) (va_Qi (fun r (u : wPS) => (r, u) = f_X12_isMet S o1 x1 x2 x3 ∧ stp [(17, 100)] [] [] S u ∧ narrow .boolean (.int r) = .int r) (fun u t => WD D cy X (va_A (X ++ PL cy S) sz) u t) (va_A (X ++ PL cy S) sz)) 0 0 (va_A (X ++ PL cy S) sz) := by
  refine Met.ofW (cc := cX12_isMet) (maxL := 6) (ret := (some .boolean)) (by decide) rfl ?_
  intro p e s m args below meth c s₁ B hml hv
  obtain ⟨rfl, hsz, ⟨hP, hK, hD0⟩, hN⟩ := hv
  have hx := B.exec
  have hb := B.bytes
  have hr := B.returns
  have hts := atoms_spec (ws := wsX12_isMet) B.pre
  have hown : s.vm.findClass RX12 = some m.cls := findClass_of_methodNamed (x := yX12_isMet) B.named
  have hlocks := B.notSynchronized
  subst hsz
  have hD := hD0.self (sz := s.heap.size)
  generalize hAe : va_A (X ++ PL cy S) s.heap.size = A at hD ⊢
  have hA : ∀ q : Nat, s.heap.size ≤ q → A q := fun q h => by rw [← hAe]; exact Or.inr h
  have hS : va_S A s.heap s.heap [] := va_S.rf
  have hl := lv_entry ([.ref o1, .long x1, .long x2, .int x3]) (n := 6) (Nat.le_of_ble_eq_true rfl)
  rw [lg_entry_eq]
  generalize (lg_sl ([.ref o1, .long x1, .long x2, .int x3]) ++ List.replicate (6 - (lg_sl ([.ref o1, .long x1, .long x2, .int x3])).length) Slot.unset).toArray = ls at hl ⊢
  have hl : lv_has ls 6 [(0, .ref o1), (1, .long x1), (3, .long x2), (5, .int x3)] := hl
  have t0 : stp [(17, 100)] [] [] S S := stp.rf hW
  refine lv_aload_n hx hb dX12_isMet_0 rfl (lv_at hl 0 rfl) ?_
  refine lv_lload_n hx hb dX12_isMet_1 rfl (lv_at hl 1 rfl) ?_
  refine lv_lload_n hx hb dX12_isMet_2 rfl (lv_at hl 2 rfl) ?_
  have hFc := free_all hD hS hA
  obtain ⟨k1, gk1, hk1⟩ := wGt (cy := cy) X S h_o1.1 h_o1.2.1
  refine va_callv (va_runV (As := [.long x1, .long x2]) (rest := []) ⟨hx, hb, hml, hown, hts⟩ (c_X12_finds_q l (cy := cy) (X := X) (D := D) S _ o1 h_o1 x1 x2 (hW)) (cwV 2 hts gX12_isMet_X12_finds rfl rfl rfl hd_X12_finds ⟨Nat.le_of_ble_eq_true rfl, Nat.le_of_ble_eq_true rfl⟩) (pV (va_recv hK hP (q := (RX12, TX12, 34)) (ci := 16) (q0 := k1) rfl hk1) hP hK hD hN) rfl rfl hl.1 rfl (lv_room (Nat.le_of_ble_eq_true rfl)) dX12_isMet_3 ⟨(Nat.zero_le _), (Nat.zero_le _)⟩) hS (fun q _ h => hFc q h) hFc (fun u t H1 locs ht hvm hw hB hz1 hk1 hS => ?_)
  obtain ⟨c3, w4⟩ := hw
  obtain ⟨hP, hD⟩ := wd_post hFc ht hB
  generalize H1 = H at hP hS ⊢
  obtain ⟨S5, rfl⟩ : ∃ z, z = u := ⟨_, rfl⟩
  have t6 : stp [(17, 100)] [] [] S S5 := t0.tr w4 (by decide) (fun _ q => absurd q List.not_mem_nil)
  have xe7 : ext S S5 := w4.x
  refine lv_ldc2 (own := RX12) (v := 1000000) hx hb hown (hts (.constantLong RX12 301 (1000000)) (by decide +kernel)) dX12_isMet_6 ?_
  refine lv_aload_n hx hb dX12_isMet_9 rfl (lv_at hl 0 rfl) ?_
  have F8 := ((hW.at h_o1 List.not_mem_nil).to_12 h_o1.2.1).F3
  obtain ⟨k9, gk9, hk9⟩ := wGt (cy := cy) X S5 (xe7.A h_o1).1 (xe7.A h_o1).2.1
  simp only [kE, (xe7.F h_o1 (by decide) F8.1)] at hk9
  refine va_get (D := D) (ci := 16) (v := .ref (S.f o1 3)) (C := RX12) (T := TX12) (N := 34) hx hb hts hi_X12_isMet_X12 hown hK hP k9 hk9 rfl 3 (by decide) (hts (.fieldLink RX12 35 "HobhouseModel" "four" "[I") (by decide +kernel)) (fun _ h9 => h9) rfl dX12_isMet_10 ?_
  refine lv_lload_n hx hb dX12_isMet_13 rfl (lv_at hl 1 rfl) ?_
  refine lv_lload_n hx hb dX12_isMet_14 rfl (lv_at hl 2 rfl) ?_
  have hFc := free_all hD hS hA
  refine va_calll (va_runS (As := [.ref (S.f o1 3), .long x1, .long x2]) (rest := [.long (1000000 : Int64)]) ⟨hx, hb, hml, hown, hts⟩ (c_X12_offOf_q l (cy := cy) (X := X) (D := D) S5 _ (S.f o1 3) (xe7.A F8.2.1) x1 x2 (((xe7.n F8.2.1).trans F8.2.2))) (cwS 3 hts gX12_isMet_X12_offOf rfl rfl rfl hd_X12_offOf ⟨Nat.le_of_ble_eq_true rfl, Nat.le_of_ble_eq_true rfl⟩) (pS hP hK hD hN) rfl rfl hl.1 rfl (lv_room (Nat.le_of_ble_eq_true rfl)) dX12_isMet_15 ⟨(Nat.zero_le _), (Nat.zero_le _)⟩) hS (fun q _ h => hFc q h) hFc (fun r10 u t H1 locs ht hvm hw hB hz1 hk1 hS => ?_)
  have c11 := hw
  obtain ⟨hP, hD⟩ := wd_post hFc ht hB
  generalize H1 = H at hP hS ⊢
  obtain rfl : f_X12_offOf S5 (S.f o1 3) x1 x2 = r10 := c11.symm
  refine lv_lmul hx hb dX12_isMet_18 ?_
  refine lv_iload hx hb dX12_isMet_19 (lv_at hl 3 rfl) ?_
  refine lv_i2l hx hb dX12_isMet_21 rfl ?_
  refine lv_lload_n hx hb dX12_isMet_22 rfl (lv_at hl 1 rfl) ?_
  refine lv_lmul hx hb dX12_isMet_23 ?_
  refine lv_aload_n hx hb dX12_isMet_24 rfl (lv_at hl 0 rfl) ?_
  obtain ⟨k12, gk12, hk12⟩ := wGt (cy := cy) X S5 (xe7.A h_o1).1 (xe7.A h_o1).2.1
  simp only [kE, (xe7.F h_o1 (by decide) F8.1)] at hk12
  refine va_get (D := D) (ci := 16) (v := .ref (S.f o1 3)) (C := RX12) (T := TX12) (N := 34) hx hb hts hi_X12_isMet_X12 hown hK hP k12 hk12 rfl 3 (by decide) (hts (.fieldLink RX12 35 "HobhouseModel" "four" "[I") (by decide +kernel)) (fun _ h9 => h9) rfl dX12_isMet_25 ?_
  refine lv_iconst (v := 1) hx hb dX12_isMet_28 (by decide) ?_
  obtain ⟨k13, gk13, hk13⟩ := wGt (cy := cy) X S5 (xe7.A F8.2.1).1 (xe7.A F8.2.1).2.1
  refine va_iald hx hb hK hP k13 2 hk13 rfl (inb ((xe7.n F8.2.1).trans F8.2.2) (by decide) (by decide)) dX12_isMet_29 ?_
  refine lv_i2l hx hb dX12_isMet_30 rfl ?_
  refine lv_lmul hx hb dX12_isMet_31 ?_
  refine lv_aload_n hx hb dX12_isMet_32 rfl (lv_at hl 0 rfl) ?_
  obtain ⟨k14, gk14, hk14⟩ := wGt (cy := cy) X S5 (xe7.A h_o1).1 (xe7.A h_o1).2.1
  simp only [kE, (xe7.F h_o1 (by decide) F8.1)] at hk14
  refine va_get (D := D) (ci := 16) (v := .ref (S.f o1 3)) (C := RX12) (T := TX12) (N := 34) hx hb hts hi_X12_isMet_X12 hown hK hP k14 hk14 rfl 3 (by decide) (hts (.fieldLink RX12 35 "HobhouseModel" "four" "[I") (by decide +kernel)) (fun _ h9 => h9) rfl dX12_isMet_33 ?_
  refine lv_iconst (v := 3) hx hb dX12_isMet_36 (by decide) ?_
  obtain ⟨k15, gk15, hk15⟩ := wGt (cy := cy) X S5 (xe7.A F8.2.1).1 (xe7.A F8.2.1).2.1
  refine va_iald hx hb hK hP k15 2 hk15 rfl (inb ((xe7.n F8.2.1).trans F8.2.2) (by decide) (by decide)) dX12_isMet_37 ?_
  refine lv_i2l hx hb dX12_isMet_38 rfl ?_
  refine lv_lmul hx hb dX12_isMet_39 ?_
  refine W.lcmp hx hb dX12_isMet_40 ?_
  refine lv_if_gt (tgt := 48) hx hb dX12_isMet_41 (by decide) (fun c16 => ?_) (fun c16 => ?_)
  · refine lv_iconst (v := 0) hx hb dX12_isMet_48 (by decide) ?_
    refine W.widen (k := 0) (n := 0) (Nat.le_of_ble_eq_true rfl) (Nat.le_of_ble_eq_true rfl) ?_
    exact W.zret (v := (0 : Int32)) hx hb hr (by rfl) (fun t ht hW9 => ⟨⟨(0 : Int32), S5, rfl, ⟨(by show ((0 : Int32), S5) = f_X12_isMet S o1 x1 x2 x3; unfold f_X12_isMet; rw [l1_eq c3.symm, if_pos c16]), t6, (by rfl)⟩, wd_end hP hK hD ht hW9.alike⟩, hS.F ht⟩) hS.2.2 dX12_isMet_49 hlocks
  · refine lv_iconst (v := 1) hx hb dX12_isMet_44 (by decide) ?_
    refine lv_goto (tgt := 49) hx hb dX12_isMet_45 (by decide) ?_
    refine W.widen (k := 0) (n := 0) (Nat.le_of_ble_eq_true rfl) (Nat.le_of_ble_eq_true rfl) ?_
    exact W.zret (v := (1 : Int32)) hx hb hr (by rfl) (fun t ht hW9 => ⟨⟨(1 : Int32), S5, rfl, ⟨(by show ((1 : Int32), S5) = f_X12_isMet S o1 x1 x2 x3; unfold f_X12_isMet; rw [l1_eq c3.symm, if_neg c16]), t6, (by rfl)⟩, wd_end hP hK hD ht hW9.alike⟩, hS.F ht⟩) hS.2.2 dX12_isMet_49 hlocks
def f_X12_change (S : wPS) (o1 : Nat) (x1 : Int32) (x2 : Int32) (x3 : Int32) : (Int32 × wPS) := if (f_X12_isRatio x1 x2) = (0 : Int32) then l2 (f_X12_fails S o1 (1 : Int32)) (fun r6 S9 => (r6, S9)) else if (f_X12_in x3.toInt64 (0 : Int64) (3 : Int64)) = (0 : Int32) then l2 (f_X12_fails S o1 (1 : Int32)) (fun r45 S48 => (r45, S48)) else if (4 : Int32) ≤ (S.I o1 16) then l1 (f_X12_finds S o1 x1.toInt64 x2.toInt64) (fun S24 => l2 (f_X12_answer S24 o1 (S24.i (S.f o1 3) x3.toNatClampNeg)) (fun r31 S34 => (r31, S34))) else l2 (f_X12_fails S o1 (2 : Int32)) (fun r38 S41 => (r38, S41))
set_option maxHeartbeats 4000000 in
set_option maxRecDepth 100000 in
theorem c_X12_change_q (l : Launch) {D : va_G} {cy : Nat → ClassId} {X : va_W} (S : wPS) (sz : Nat) (o1 : Nat) (h_o1 : isA S o1 12) (x1 : Int32) (x2 : Int32) (x3 : Int32) (hW : wtB S [])  : Met l yX12_change wsX12_change ({ frames := 9, cells := 0, slots := 0, locals := 225 }) (va_Pc [.ref o1, .int x1, .int x2, .int x3] (fun U => U.heap.size = sz ∧ WD D cy X (fun _ => True) S U ∧ NW U)) (va_Qi (fun r (u : wPS) => (r, u) = f_X12_change S o1 x1 x2 x3 ∧ stp [(12, 15), (17, 100)] [] [] S u) (fun u t => WD D cy X (va_A (X ++ PL cy S) sz) u t) (va_A (X ++ PL cy S) sz)) 0 0 (va_A (X ++ PL cy S) sz) := by
  refine Met.ofW (cc := cX12_change) (maxL := 4) (ret := (some .int)) (by decide) rfl ?_
  intro p e s m args below meth c s₁ B hml hv
  obtain ⟨rfl, hsz, ⟨hP, hK, hD0⟩, hN⟩ := hv
  have hx := B.exec
  have hb := B.bytes
  have hr := B.returns
  have hts := atoms_spec (ws := wsX12_change) B.pre
  have hown : s.vm.findClass RX12 = some m.cls := findClass_of_methodNamed (x := yX12_change) B.named
  have hlocks := B.notSynchronized
  subst hsz
  have hD := hD0.self (sz := s.heap.size)
  generalize hAe : va_A (X ++ PL cy S) s.heap.size = A at hD ⊢
  have hA : ∀ q : Nat, s.heap.size ≤ q → A q := fun q h => by rw [← hAe]; exact Or.inr h
  have hS : va_S A s.heap s.heap [] := va_S.rf
  have hl := lv_entry ([.ref o1, .int x1, .int x2, .int x3]) (n := 4) (Nat.le_of_ble_eq_true rfl)
  rw [lg_entry_eq]
  generalize (lg_sl ([.ref o1, .int x1, .int x2, .int x3]) ++ List.replicate (4 - (lg_sl ([.ref o1, .int x1, .int x2, .int x3])).length) Slot.unset).toArray = ls at hl ⊢
  have hl : lv_has ls 4 [(0, .ref o1), (1, .int x1), (2, .int x2), (3, .int x3)] := hl
  have t0 : stp [(12, 15), (17, 100)] [] [] S S := stp.rf hW
  refine lv_iload_n hx hb dX12_change_0 rfl (lv_at hl 1 rfl) ?_
  refine lv_iload_n hx hb dX12_change_1 rfl (lv_at hl 2 rfl) ?_
  have hFc := free_all hD hS hA
  refine va_calli (va_runS (As := [.int x1, .int x2]) (rest := []) ⟨hx, hb, hml, hown, hts⟩ (c_X12_isRatio l (cy := cy) (X := X) (D := D) S _ x1 x2) (cwS 2 hts gX12_change_X12_isRatio rfl rfl rfl hd_X12_isRatio ⟨Nat.le_of_ble_eq_true rfl, Nat.le_of_ble_eq_true rfl⟩) (pS hP hK hD hN) rfl rfl hl.1 rfl (lv_room (Nat.le_of_ble_eq_true rfl)) dX12_change_2 ⟨(Nat.zero_le _), (Nat.zero_le _)⟩) hS (fun q _ h => hFc q h) hFc (fun r1 u t H1 locs ht hvm hw hB hz1 hk1 hS => ?_)
  have c2 := hw
  obtain ⟨hP, hD⟩ := wd_post hFc ht hB
  generalize H1 = H at hP hS ⊢
  obtain rfl : f_X12_isRatio x1 x2 = r1 := c2.symm
  have i3 := ir_rng x1 x2
  refine lv_if_eq (tgt := 20) hx hb dX12_change_5 (by decide) (fun c4 => ?_) (fun c4 => ?_)
  · have c4i : (f_X12_isRatio x1 x2).toInt = 0 := eq_v rfl rfl c4
    refine lv_aload_n hx hb dX12_change_20 rfl (lv_at hl 0 rfl) ?_
    refine lv_iconst (v := 1) hx hb dX12_change_21 (by decide) ?_
    have l32_1 : (1 : Int32).toInt = 1 := rfl
    have hFc := free_all hD hS hA
    obtain ⟨k5, gk5, hk5⟩ := wGt (cy := cy) X S h_o1.1 h_o1.2.1
    refine va_calli (va_runV (As := [.int (1 : Int32)]) (rest := []) ⟨hx, hb, hml, hown, hts⟩ (c_X12_fails l (cy := cy) (X := X) (D := D) S _ o1 h_o1 (1 : Int32) (hW)) (cwV 1 hts gX12_change_X12_fails rfl rfl rfl hd_X12_fails ⟨Nat.le_of_ble_eq_true rfl, Nat.le_of_ble_eq_true rfl⟩) (pV (va_recv hK hP (q := (RX12, TX12, 34)) (ci := 16) (q0 := k5) rfl hk5) hP hK hD hN) rfl rfl hl.1 rfl (lv_room (Nat.le_of_ble_eq_true rfl)) dX12_change_22 ⟨(Nat.zero_le _), (Nat.zero_le _)⟩) hS (fun q _ h => hFc q h) hFc (fun r6 u t H1 locs ht hvm hw hB hz1 hk1 hS => ?_)
    obtain ⟨c7, w8⟩ := hw
    obtain ⟨hP, hD⟩ := wd_post hFc ht hB
    generalize H1 = H at hP hS ⊢
    obtain ⟨S9, rfl⟩ : ∃ z, z = u := ⟨_, rfl⟩
    have t10 : stp [(12, 15), (17, 100)] [] [] S S9 := t0.tr w8 (by decide) (fun _ q => absurd q List.not_mem_nil)
    have xe11 : ext S S9 := w8.x
    refine W.widen (k := 0) (n := 0) (Nat.le_of_ble_eq_true rfl) (Nat.le_of_ble_eq_true rfl) ?_
    exact W.iret (v := r6) hx hb hr (fun t ht hW9 => ⟨⟨r6, S9, rfl, ⟨(by show (r6, S9) = f_X12_change S o1 x1 x2 x3; unfold f_X12_change; rw [if_pos c4, l2_eq c7.symm]), t10⟩, wd_end hP hK hD ht hW9.alike⟩, hS.F ht⟩) hS.2.2 dX12_change_25 hlocks
  · have c4i : ¬ (f_X12_isRatio x1 x2).toInt = 0 := neq_v rfl rfl c4
    refine lv_iload_n hx hb dX12_change_8 rfl (lv_at hl 3 rfl) ?_
    refine lv_i2l hx hb dX12_change_9 rfl ?_
    refine lv_lconst (v := 0) hx hb dX12_change_10 (by decide) ?_
    refine lv_ldc2 (own := RX12) (v := 3) hx hb hown (hts (.constantLong RX12 247 (3)) (by decide +kernel)) dX12_change_11 ?_
    have hFc := free_all hD hS hA
    refine va_calli (va_runS (As := [.long x3.toInt64, .long (0 : Int64), .long (3 : Int64)]) (rest := []) ⟨hx, hb, hml, hown, hts⟩ (c_X12_in l (cy := cy) (X := X) (D := D) S _ x3.toInt64 (0 : Int64) (3 : Int64)) (cwS 3 hts gX12_change_X12_in rfl rfl rfl hd_X12_in ⟨Nat.le_of_ble_eq_true rfl, Nat.le_of_ble_eq_true rfl⟩) (pS hP hK hD hN) rfl rfl hl.1 rfl (lv_room (Nat.le_of_ble_eq_true rfl)) dX12_change_14 ⟨(Nat.zero_le _), (Nat.zero_le _)⟩) hS (fun q _ h => hFc q h) hFc (fun r12 u t H1 locs ht hvm hw hB hz1 hk1 hS => ?_)
    have c13 := hw
    obtain ⟨hP, hD⟩ := wd_post hFc ht hB
    generalize H1 = H at hP hS ⊢
    obtain rfl : f_X12_in x3.toInt64 (0 : Int64) (3 : Int64) = r12 := c13.symm
    have i14 := i64_i x3
    have l64_0 : (0 : Int64).toInt = 0 := rfl
    have l64_3 : (3 : Int64).toInt = 3 := rfl
    have i15 := in_rng x3.toInt64 (0 : Int64) (3 : Int64)
    refine lv_if_ne (tgt := 26) hx hb dX12_change_17 (by decide) (fun c16 => ?_) (fun c16 => ?_)
    · have c16i : ¬ (f_X12_in x3.toInt64 (0 : Int64) (3 : Int64)).toInt = 0 := neq_v rfl rfl c16
      refine lv_aload_n hx hb dX12_change_26 rfl (lv_at hl 0 rfl) ?_
      obtain ⟨k17, gk17, hk17⟩ := wGt (cy := cy) X S h_o1.1 h_o1.2.1
      have i18 := ((hW.at h_o1 List.not_mem_nil).to_12 h_o1.2.1).R16
      refine va_get (D := D) (ci := 16) (v := .int (S.I o1 16)) (C := RX12) (T := TX12) (N := 34) hx hb hts hi_X12_change_X12 hown hK hP k17 hk17 rfl 16 (by decide) (hts (.fieldLink RX12 282 "HobhouseModel" "box" "I") (by decide +kernel)) (fun _ h9 => h9) rfl dX12_change_27 ?_
      refine lv_iconst (v := 4) hx hb dX12_change_30 (by decide) ?_
      refine lv_icmp_ge (tgt := 40) hx hb dX12_change_31 (by decide) (fun c19 => ?_) (fun c19 => ?_)
      · have c19i : 4 ≤ (S.I o1 16).toInt := le_v rfl rfl c19
        refine lv_aload_n hx hb dX12_change_40 rfl (lv_at hl 0 rfl) ?_
        refine lv_iload_n hx hb dX12_change_41 rfl (lv_at hl 1 rfl) ?_
        refine lv_i2l hx hb dX12_change_42 rfl ?_
        refine lv_iload_n hx hb dX12_change_43 rfl (lv_at hl 2 rfl) ?_
        refine lv_i2l hx hb dX12_change_44 rfl ?_
        have hFc := free_all hD hS hA
        obtain ⟨k20, gk20, hk20⟩ := wGt (cy := cy) X S h_o1.1 h_o1.2.1
        refine va_callv (va_runV (As := [.long x1.toInt64, .long x2.toInt64]) (rest := []) ⟨hx, hb, hml, hown, hts⟩ (c_X12_finds_q l (cy := cy) (X := X) (D := D) S _ o1 h_o1 x1.toInt64 x2.toInt64 (hW)) (cwV 2 hts gX12_change_X12_finds rfl rfl rfl hd_X12_finds ⟨Nat.le_of_ble_eq_true rfl, Nat.le_of_ble_eq_true rfl⟩) (pV (va_recv hK hP (q := (RX12, TX12, 34)) (ci := 16) (q0 := k20) rfl hk20) hP hK hD hN) rfl rfl hl.1 rfl (lv_room (Nat.le_of_ble_eq_true rfl)) dX12_change_45 ⟨(Nat.zero_le _), (Nat.zero_le _)⟩) hS (fun q _ h => hFc q h) hFc (fun u t H1 locs ht hvm hw hB hz1 hk1 hS => ?_)
        obtain ⟨c22, w23⟩ := hw
        obtain ⟨hP, hD⟩ := wd_post hFc ht hB
        generalize H1 = H at hP hS ⊢
        obtain ⟨S24, rfl⟩ : ∃ z, z = u := ⟨_, rfl⟩
        have t25 : stp [(12, 15), (17, 100)] [] [] S S24 := t0.tr w23 (by decide) (fun _ q => absurd q List.not_mem_nil)
        have xe26 : ext S S24 := w23.x
        refine lv_aload_n hx hb dX12_change_48 rfl (lv_at hl 0 rfl) ?_
        refine lv_aload_n hx hb dX12_change_49 rfl (lv_at hl 0 rfl) ?_
        have F27 := ((hW.at h_o1 List.not_mem_nil).to_12 h_o1.2.1).F3
        obtain ⟨k28, gk28, hk28⟩ := wGt (cy := cy) X S24 (xe26.A h_o1).1 (xe26.A h_o1).2.1
        simp only [kE, (xe26.F h_o1 (by decide) F27.1)] at hk28
        refine va_get (D := D) (ci := 16) (v := .ref (S.f o1 3)) (C := RX12) (T := TX12) (N := 34) hx hb hts hi_X12_change_X12 hown hK hP k28 hk28 rfl 3 (by decide) (hts (.fieldLink RX12 35 "HobhouseModel" "four" "[I") (by decide +kernel)) (fun _ h9 => h9) rfl dX12_change_50 ?_
        refine lv_iload_n hx hb dX12_change_53 rfl (lv_at hl 3 rfl) ?_
        obtain ⟨k29, gk29, hk29⟩ := wGt (cy := cy) X S24 (xe26.A F27.2.1).1 (xe26.A F27.2.1).2.1
        refine va_iald hx hb hK hP k29 2 hk29 rfl (inb (m := 4) ((xe26.n F27.2.1).trans F27.2.2) (by omega) (by omega)) dX12_change_54 ?_
        have hFc := free_all hD hS hA
        obtain ⟨k30, gk30, hk30⟩ := wGt (cy := cy) X S24 (xe26.A h_o1).1 (xe26.A h_o1).2.1
        refine va_calli (va_runV (As := [.int (S24.i (S.f o1 3) x3.toNatClampNeg)]) (rest := []) ⟨hx, hb, hml, hown, hts⟩ (c_X12_answer l (cy := cy) (X := X) (D := D) S24 _ o1 (xe26.A h_o1) (S24.i (S.f o1 3) x3.toNatClampNeg) (t25.w)) (cwV 1 hts gX12_change_X12_answer rfl rfl rfl hd_X12_answer ⟨Nat.le_of_ble_eq_true rfl, Nat.le_of_ble_eq_true rfl⟩) (pV (va_recv hK hP (q := (RX12, TX12, 34)) (ci := 16) (q0 := k30) rfl hk30) hP hK hD hN) rfl rfl hl.1 rfl (lv_room (Nat.le_of_ble_eq_true rfl)) dX12_change_55 ⟨(Nat.zero_le _), (Nat.zero_le _)⟩) hS (fun q _ h => hFc q h) hFc (fun r31 u t H1 locs ht hvm hw hB hz1 hk1 hS => ?_)
        obtain ⟨c32, w33⟩ := hw
        obtain ⟨hP, hD⟩ := wd_post hFc ht hB
        generalize H1 = H at hP hS ⊢
        obtain ⟨S34, rfl⟩ : ∃ z, z = u := ⟨_, rfl⟩
        have t35 : stp [(12, 15), (17, 100)] [] [] S S34 := t25.tr w33 (by decide) (fun _ q => absurd q List.not_mem_nil)
        have xe36 : ext S24 S34 := w33.x
        refine W.widen (k := 0) (n := 0) (Nat.le_of_ble_eq_true rfl) (Nat.le_of_ble_eq_true rfl) ?_
        exact W.iret (v := r31) hx hb hr (fun t ht hW9 => ⟨⟨r31, S34, rfl, ⟨(by show (r31, S34) = f_X12_change S o1 x1 x2 x3; unfold f_X12_change; rw [if_neg c4, if_neg c16, if_pos c19, l1_eq c22.symm, l2_eq c32.symm]), t35⟩, wd_end hP hK hD ht hW9.alike⟩, hS.F ht⟩) hS.2.2 dX12_change_58 hlocks
      · have c19i : (S.I o1 16).toInt < 4 := nle_v rfl rfl c19
        refine lv_aload_n hx hb dX12_change_34 rfl (lv_at hl 0 rfl) ?_
        refine lv_iconst (v := 2) hx hb dX12_change_35 (by decide) ?_
        have l32_2 : (2 : Int32).toInt = 2 := rfl
        have hFc := free_all hD hS hA
        obtain ⟨k37, gk37, hk37⟩ := wGt (cy := cy) X S h_o1.1 h_o1.2.1
        refine va_calli (va_runV (As := [.int (2 : Int32)]) (rest := []) ⟨hx, hb, hml, hown, hts⟩ (c_X12_fails l (cy := cy) (X := X) (D := D) S _ o1 h_o1 (2 : Int32) (hW)) (cwV 1 hts gX12_change_X12_fails rfl rfl rfl hd_X12_fails ⟨Nat.le_of_ble_eq_true rfl, Nat.le_of_ble_eq_true rfl⟩) (pV (va_recv hK hP (q := (RX12, TX12, 34)) (ci := 16) (q0 := k37) rfl hk37) hP hK hD hN) rfl rfl hl.1 rfl (lv_room (Nat.le_of_ble_eq_true rfl)) dX12_change_36 ⟨(Nat.zero_le _), (Nat.zero_le _)⟩) hS (fun q _ h => hFc q h) hFc (fun r38 u t H1 locs ht hvm hw hB hz1 hk1 hS => ?_)
        obtain ⟨c39, w40⟩ := hw
        obtain ⟨hP, hD⟩ := wd_post hFc ht hB
        generalize H1 = H at hP hS ⊢
        obtain ⟨S41, rfl⟩ : ∃ z, z = u := ⟨_, rfl⟩
        have t42 : stp [(12, 15), (17, 100)] [] [] S S41 := t0.tr w40 (by decide) (fun _ q => absurd q List.not_mem_nil)
        have xe43 : ext S S41 := w40.x
        refine W.widen (k := 0) (n := 0) (Nat.le_of_ble_eq_true rfl) (Nat.le_of_ble_eq_true rfl) ?_
        exact W.iret (v := r38) hx hb hr (fun t ht hW9 => ⟨⟨r38, S41, rfl, ⟨(by show (r38, S41) = f_X12_change S o1 x1 x2 x3; unfold f_X12_change; rw [if_neg c4, if_neg c16, if_neg c19, l2_eq c39.symm]), t42⟩, wd_end hP hK hD ht hW9.alike⟩, hS.F ht⟩) hS.2.2 dX12_change_39 hlocks
    · have c16i : (f_X12_in x3.toInt64 (0 : Int64) (3 : Int64)).toInt = 0 := eq_v rfl rfl c16
      refine lv_aload_n hx hb dX12_change_20 rfl (lv_at hl 0 rfl) ?_
      refine lv_iconst (v := 1) hx hb dX12_change_21 (by decide) ?_
      have l32_1 : (1 : Int32).toInt = 1 := rfl
      have hFc := free_all hD hS hA
      obtain ⟨k44, gk44, hk44⟩ := wGt (cy := cy) X S h_o1.1 h_o1.2.1
      refine va_calli (va_runV (As := [.int (1 : Int32)]) (rest := []) ⟨hx, hb, hml, hown, hts⟩ (c_X12_fails l (cy := cy) (X := X) (D := D) S _ o1 h_o1 (1 : Int32) (hW)) (cwV 1 hts gX12_change_X12_fails rfl rfl rfl hd_X12_fails ⟨Nat.le_of_ble_eq_true rfl, Nat.le_of_ble_eq_true rfl⟩) (pV (va_recv hK hP (q := (RX12, TX12, 34)) (ci := 16) (q0 := k44) rfl hk44) hP hK hD hN) rfl rfl hl.1 rfl (lv_room (Nat.le_of_ble_eq_true rfl)) dX12_change_22 ⟨(Nat.zero_le _), (Nat.zero_le _)⟩) hS (fun q _ h => hFc q h) hFc (fun r45 u t H1 locs ht hvm hw hB hz1 hk1 hS => ?_)
      obtain ⟨c46, w47⟩ := hw
      obtain ⟨hP, hD⟩ := wd_post hFc ht hB
      generalize H1 = H at hP hS ⊢
      obtain ⟨S48, rfl⟩ : ∃ z, z = u := ⟨_, rfl⟩
      have t49 : stp [(12, 15), (17, 100)] [] [] S S48 := t0.tr w47 (by decide) (fun _ q => absurd q List.not_mem_nil)
      have xe50 : ext S S48 := w47.x
      refine W.widen (k := 0) (n := 0) (Nat.le_of_ble_eq_true rfl) (Nat.le_of_ble_eq_true rfl) ?_
      exact W.iret (v := r45) hx hb hr (fun t ht hW9 => ⟨⟨r45, S48, rfl, ⟨(by show (r45, S48) = f_X12_change S o1 x1 x2 x3; unfold f_X12_change; rw [if_neg c4, if_pos c16, l2_eq c46.symm]), t49⟩, wd_end hP hK hD ht hW9.alike⟩, hS.F ht⟩) hS.2.2 dX12_change_25 hlocks
def f_X12_meets (S : wPS) (o1 : Nat) (x1 : Int32) (x2 : Int32) (x3 : Int32) : (Int32 × wPS) := if (f_X12_isRatio x1 x2) = (0 : Int32) then l2 (f_X12_refuses S o1 (1 : Int32)) (fun r6 S10 => (r6, S10)) else if (f_X12_in x3.toInt64 (0 : Int64) (999999 : Int64)) = (0 : Int32) then l2 (f_X12_refuses S o1 (1 : Int32)) (fun r46 S50 => (r46, S50)) else if (4 : Int32) ≤ (S.I o1 16) then l2 (f_X12_isMet S o1 x1.toInt64 x2.toInt64 x3) (fun r22 S26 => l2 (f_X12_says S26 o1 r22) (fun r30 S34 => (r30, S34))) else l2 (f_X12_refuses S o1 (2 : Int32)) (fun r38 S42 => (r38, S42))
set_option maxHeartbeats 4000000 in
set_option maxRecDepth 100000 in
theorem c_X12_meets_q (l : Launch) {D : va_G} {cy : Nat → ClassId} {X : va_W} (S : wPS) (sz : Nat) (o1 : Nat) (h_o1 : isA S o1 12) (x1 : Int32) (x2 : Int32) (x3 : Int32) (hW : wtB S [])  : Met l yX12_meets wsX12_meets ({ frames := 10, cells := 0, slots := 0, locals := 250 }) (va_Pc [.ref o1, .int x1, .int x2, .int x3] (fun U => U.heap.size = sz ∧ WD D cy X (fun _ => True) S U ∧ NW U)) (va_Qi (fun r (u : wPS) => (r, u) = f_X12_meets S o1 x1 x2 x3 ∧ stp [(12, 15), (17, 100)] [] [] S u ∧ narrow .boolean (.int r) = .int r) (fun u t => WD D cy X (va_A (X ++ PL cy S) sz) u t) (va_A (X ++ PL cy S) sz)) 0 0 (va_A (X ++ PL cy S) sz) := by
  refine Met.ofW (cc := cX12_meets) (maxL := 4) (ret := (some .boolean)) (by decide) rfl ?_
  intro p e s m args below meth c s₁ B hml hv
  obtain ⟨rfl, hsz, ⟨hP, hK, hD0⟩, hN⟩ := hv
  have hx := B.exec
  have hb := B.bytes
  have hr := B.returns
  have hts := atoms_spec (ws := wsX12_meets) B.pre
  have hown : s.vm.findClass RX12 = some m.cls := findClass_of_methodNamed (x := yX12_meets) B.named
  have hlocks := B.notSynchronized
  subst hsz
  have hD := hD0.self (sz := s.heap.size)
  generalize hAe : va_A (X ++ PL cy S) s.heap.size = A at hD ⊢
  have hA : ∀ q : Nat, s.heap.size ≤ q → A q := fun q h => by rw [← hAe]; exact Or.inr h
  have hS : va_S A s.heap s.heap [] := va_S.rf
  have hl := lv_entry ([.ref o1, .int x1, .int x2, .int x3]) (n := 4) (Nat.le_of_ble_eq_true rfl)
  rw [lg_entry_eq]
  generalize (lg_sl ([.ref o1, .int x1, .int x2, .int x3]) ++ List.replicate (4 - (lg_sl ([.ref o1, .int x1, .int x2, .int x3])).length) Slot.unset).toArray = ls at hl ⊢
  have hl : lv_has ls 4 [(0, .ref o1), (1, .int x1), (2, .int x2), (3, .int x3)] := hl
  have t0 : stp [(12, 15), (17, 100)] [] [] S S := stp.rf hW
  refine lv_iload_n hx hb dX12_meets_0 rfl (lv_at hl 1 rfl) ?_
  refine lv_iload_n hx hb dX12_meets_1 rfl (lv_at hl 2 rfl) ?_
  have hFc := free_all hD hS hA
  refine va_calli (va_runS (As := [.int x1, .int x2]) (rest := []) ⟨hx, hb, hml, hown, hts⟩ (c_X12_isRatio l (cy := cy) (X := X) (D := D) S _ x1 x2) (cwS 2 hts gX12_meets_X12_isRatio rfl rfl rfl hd_X12_isRatio ⟨Nat.le_of_ble_eq_true rfl, Nat.le_of_ble_eq_true rfl⟩) (pS hP hK hD hN) rfl rfl hl.1 rfl (lv_room (Nat.le_of_ble_eq_true rfl)) dX12_meets_2 ⟨(Nat.zero_le _), (Nat.zero_le _)⟩) hS (fun q _ h => hFc q h) hFc (fun r1 u t H1 locs ht hvm hw hB hz1 hk1 hS => ?_)
  have c2 := hw
  obtain ⟨hP, hD⟩ := wd_post hFc ht hB
  generalize H1 = H at hP hS ⊢
  obtain rfl : f_X12_isRatio x1 x2 = r1 := c2.symm
  have i3 := ir_rng x1 x2
  refine lv_if_eq (tgt := 20) hx hb dX12_meets_5 (by decide) (fun c4 => ?_) (fun c4 => ?_)
  · have c4i : (f_X12_isRatio x1 x2).toInt = 0 := eq_v rfl rfl c4
    refine lv_aload_n hx hb dX12_meets_20 rfl (lv_at hl 0 rfl) ?_
    refine lv_iconst (v := 1) hx hb dX12_meets_21 (by decide) ?_
    have l32_1 : (1 : Int32).toInt = 1 := rfl
    have hFc := free_all hD hS hA
    obtain ⟨k5, gk5, hk5⟩ := wGt (cy := cy) X S h_o1.1 h_o1.2.1
    refine va_calli (va_runV (As := [.int (1 : Int32)]) (rest := []) ⟨hx, hb, hml, hown, hts⟩ (c_X12_refuses l (cy := cy) (X := X) (D := D) S _ o1 h_o1 (1 : Int32) (hW)) (cwV 1 hts gX12_meets_X12_refuses rfl rfl rfl hd_X12_refuses ⟨Nat.le_of_ble_eq_true rfl, Nat.le_of_ble_eq_true rfl⟩) (pV (va_recv hK hP (q := (RX12, TX12, 34)) (ci := 16) (q0 := k5) rfl hk5) hP hK hD hN) rfl rfl hl.1 rfl (lv_room (Nat.le_of_ble_eq_true rfl)) dX12_meets_22 ⟨(Nat.zero_le _), (Nat.zero_le _)⟩) hS (fun q _ h => hFc q h) hFc (fun r6 u t H1 locs ht hvm hw hB hz1 hk1 hS => ?_)
    obtain ⟨c7, w8, y9⟩ := hw
    obtain ⟨hP, hD⟩ := wd_post hFc ht hB
    generalize H1 = H at hP hS ⊢
    obtain ⟨S10, rfl⟩ : ∃ z, z = u := ⟨_, rfl⟩
    have t11 : stp [(12, 15), (17, 100)] [] [] S S10 := t0.tr w8 (by decide) (fun _ q => absurd q List.not_mem_nil)
    have xe12 : ext S S10 := w8.x
    refine W.widen (k := 0) (n := 0) (Nat.le_of_ble_eq_true rfl) (Nat.le_of_ble_eq_true rfl) ?_
    exact W.zret (v := r6) hx hb hr (y9) (fun t ht hW9 => ⟨⟨r6, S10, rfl, ⟨(by show (r6, S10) = f_X12_meets S o1 x1 x2 x3; unfold f_X12_meets; rw [if_pos c4, l2_eq c7.symm]), t11, (y9)⟩, wd_end hP hK hD ht hW9.alike⟩, hS.F ht⟩) hS.2.2 dX12_meets_25 hlocks
  · have c4i : ¬ (f_X12_isRatio x1 x2).toInt = 0 := neq_v rfl rfl c4
    refine lv_iload_n hx hb dX12_meets_8 rfl (lv_at hl 3 rfl) ?_
    refine lv_i2l hx hb dX12_meets_9 rfl ?_
    refine lv_lconst (v := 0) hx hb dX12_meets_10 (by decide) ?_
    refine lv_ldc2 (own := RX12) (v := 999999) hx hb hown (hts (.constantLong RX12 306 (999999)) (by decide +kernel)) dX12_meets_11 ?_
    have hFc := free_all hD hS hA
    refine va_calli (va_runS (As := [.long x3.toInt64, .long (0 : Int64), .long (999999 : Int64)]) (rest := []) ⟨hx, hb, hml, hown, hts⟩ (c_X12_in l (cy := cy) (X := X) (D := D) S _ x3.toInt64 (0 : Int64) (999999 : Int64)) (cwS 3 hts gX12_meets_X12_in rfl rfl rfl hd_X12_in ⟨Nat.le_of_ble_eq_true rfl, Nat.le_of_ble_eq_true rfl⟩) (pS hP hK hD hN) rfl rfl hl.1 rfl (lv_room (Nat.le_of_ble_eq_true rfl)) dX12_meets_14 ⟨(Nat.zero_le _), (Nat.zero_le _)⟩) hS (fun q _ h => hFc q h) hFc (fun r13 u t H1 locs ht hvm hw hB hz1 hk1 hS => ?_)
    have c14 := hw
    obtain ⟨hP, hD⟩ := wd_post hFc ht hB
    generalize H1 = H at hP hS ⊢
    obtain rfl : f_X12_in x3.toInt64 (0 : Int64) (999999 : Int64) = r13 := c14.symm
    have i15 := i64_i x3
    have l64_0 : (0 : Int64).toInt = 0 := rfl
    have l64_999999 : (999999 : Int64).toInt = 999999 := rfl
    have i16 := in_rng x3.toInt64 (0 : Int64) (999999 : Int64)
    refine lv_if_ne (tgt := 26) hx hb dX12_meets_17 (by decide) (fun c17 => ?_) (fun c17 => ?_)
    · have c17i : ¬ (f_X12_in x3.toInt64 (0 : Int64) (999999 : Int64)).toInt = 0 := neq_v rfl rfl c17
      refine lv_aload_n hx hb dX12_meets_26 rfl (lv_at hl 0 rfl) ?_
      obtain ⟨k18, gk18, hk18⟩ := wGt (cy := cy) X S h_o1.1 h_o1.2.1
      have i19 := ((hW.at h_o1 List.not_mem_nil).to_12 h_o1.2.1).R16
      refine va_get (D := D) (ci := 16) (v := .int (S.I o1 16)) (C := RX12) (T := TX12) (N := 34) hx hb hts hi_X12_meets_X12 hown hK hP k18 hk18 rfl 16 (by decide) (hts (.fieldLink RX12 282 "HobhouseModel" "box" "I") (by decide +kernel)) (fun _ h9 => h9) rfl dX12_meets_27 ?_
      refine lv_iconst (v := 4) hx hb dX12_meets_30 (by decide) ?_
      refine lv_icmp_ge (tgt := 42) hx hb dX12_meets_31 (by decide) (fun c20 => ?_) (fun c20 => ?_)
      · have c20i : 4 ≤ (S.I o1 16).toInt := le_v rfl rfl c20
        refine lv_aload_n hx hb dX12_meets_42 rfl (lv_at hl 0 rfl) ?_
        refine lv_aload_n hx hb dX12_meets_43 rfl (lv_at hl 0 rfl) ?_
        refine lv_iload_n hx hb dX12_meets_44 rfl (lv_at hl 1 rfl) ?_
        refine lv_i2l hx hb dX12_meets_45 rfl ?_
        refine lv_iload_n hx hb dX12_meets_46 rfl (lv_at hl 2 rfl) ?_
        refine lv_i2l hx hb dX12_meets_47 rfl ?_
        refine lv_iload_n hx hb dX12_meets_48 rfl (lv_at hl 3 rfl) ?_
        have hFc := free_all hD hS hA
        obtain ⟨k21, gk21, hk21⟩ := wGt (cy := cy) X S h_o1.1 h_o1.2.1
        refine va_calli (va_runV (As := [.long x1.toInt64, .long x2.toInt64, .int x3]) (rest := [.ref o1]) ⟨hx, hb, hml, hown, hts⟩ (c_X12_isMet_q l (cy := cy) (X := X) (D := D) S _ o1 h_o1 x1.toInt64 x2.toInt64 x3 (hW)) (cwV 3 hts gX12_meets_X12_isMet rfl rfl rfl hd_X12_isMet ⟨Nat.le_of_ble_eq_true rfl, Nat.le_of_ble_eq_true rfl⟩) (pV (va_recv hK hP (q := (RX12, TX12, 34)) (ci := 16) (q0 := k21) rfl hk21) hP hK hD hN) rfl rfl hl.1 rfl (lv_room (Nat.le_of_ble_eq_true rfl)) dX12_meets_49 ⟨(Nat.zero_le _), (Nat.zero_le _)⟩) hS (fun q _ h => hFc q h) hFc (fun r22 u t H1 locs ht hvm hw hB hz1 hk1 hS => ?_)
        obtain ⟨c23, w24, y25⟩ := hw
        obtain ⟨hP, hD⟩ := wd_post hFc ht hB
        generalize H1 = H at hP hS ⊢
        obtain ⟨S26, rfl⟩ : ∃ z, z = u := ⟨_, rfl⟩
        have t27 : stp [(12, 15), (17, 100)] [] [] S S26 := t0.tr w24 (by decide) (fun _ q => absurd q List.not_mem_nil)
        have xe28 : ext S S26 := w24.x
        have hFc := free_all hD hS hA
        obtain ⟨k29, gk29, hk29⟩ := wGt (cy := cy) X S26 (xe28.A h_o1).1 (xe28.A h_o1).2.1
        refine va_calli (va_runV (As := [.int r22]) (rest := []) ⟨hx, hb, hml, hown, hts⟩ (c_X12_says l (cy := cy) (X := X) (D := D) S26 _ o1 (xe28.A h_o1) r22 (t27.w) (y25)) (cwV 1 hts gX12_meets_X12_says rfl rfl rfl hd_X12_says ⟨Nat.le_of_ble_eq_true rfl, Nat.le_of_ble_eq_true rfl⟩) (pV (va_recv hK hP (q := (RX12, TX12, 34)) (ci := 16) (q0 := k29) rfl hk29) hP hK hD hN) rfl rfl hl.1 rfl (lv_room (Nat.le_of_ble_eq_true rfl)) dX12_meets_52 ⟨(Nat.zero_le _), (Nat.zero_le _)⟩) hS (fun q _ h => hFc q h) hFc (fun r30 u t H1 locs ht hvm hw hB hz1 hk1 hS => ?_)
        obtain ⟨c31, w32, y33⟩ := hw
        obtain ⟨hP, hD⟩ := wd_post hFc ht hB
        generalize H1 = H at hP hS ⊢
        obtain ⟨S34, rfl⟩ : ∃ z, z = u := ⟨_, rfl⟩
        have t35 : stp [(12, 15), (17, 100)] [] [] S S34 := t27.tr w32 (by decide) (fun _ q => absurd q List.not_mem_nil)
        have xe36 : ext S26 S34 := w32.x
        refine W.widen (k := 0) (n := 0) (Nat.le_of_ble_eq_true rfl) (Nat.le_of_ble_eq_true rfl) ?_
        exact W.zret (v := r30) hx hb hr (y33) (fun t ht hW9 => ⟨⟨r30, S34, rfl, ⟨(by show (r30, S34) = f_X12_meets S o1 x1 x2 x3; unfold f_X12_meets; rw [if_neg c4, if_neg c17, if_pos c20, l2_eq c23.symm, l2_eq c31.symm]), t35, (y33)⟩, wd_end hP hK hD ht hW9.alike⟩, hS.F ht⟩) hS.2.2 dX12_meets_55 hlocks
      · have c20i : (S.I o1 16).toInt < 4 := nle_v rfl rfl c20
        refine lv_aload_n hx hb dX12_meets_34 rfl (lv_at hl 0 rfl) ?_
        refine lv_iconst (v := 2) hx hb dX12_meets_35 (by decide) ?_
        have l32_2 : (2 : Int32).toInt = 2 := rfl
        have hFc := free_all hD hS hA
        obtain ⟨k37, gk37, hk37⟩ := wGt (cy := cy) X S h_o1.1 h_o1.2.1
        refine va_calli (va_runV (As := [.int (2 : Int32)]) (rest := []) ⟨hx, hb, hml, hown, hts⟩ (c_X12_refuses l (cy := cy) (X := X) (D := D) S _ o1 h_o1 (2 : Int32) (hW)) (cwV 1 hts gX12_meets_X12_refuses rfl rfl rfl hd_X12_refuses ⟨Nat.le_of_ble_eq_true rfl, Nat.le_of_ble_eq_true rfl⟩) (pV (va_recv hK hP (q := (RX12, TX12, 34)) (ci := 16) (q0 := k37) rfl hk37) hP hK hD hN) rfl rfl hl.1 rfl (lv_room (Nat.le_of_ble_eq_true rfl)) dX12_meets_36 ⟨(Nat.zero_le _), (Nat.zero_le _)⟩) hS (fun q _ h => hFc q h) hFc (fun r38 u t H1 locs ht hvm hw hB hz1 hk1 hS => ?_)
        obtain ⟨c39, w40, y41⟩ := hw
        obtain ⟨hP, hD⟩ := wd_post hFc ht hB
        generalize H1 = H at hP hS ⊢
        obtain ⟨S42, rfl⟩ : ∃ z, z = u := ⟨_, rfl⟩
        have t43 : stp [(12, 15), (17, 100)] [] [] S S42 := t0.tr w40 (by decide) (fun _ q => absurd q List.not_mem_nil)
        have xe44 : ext S S42 := w40.x
        refine lv_goto (tgt := 55) hx hb dX12_meets_39 (by decide) ?_
        refine W.widen (k := 0) (n := 0) (Nat.le_of_ble_eq_true rfl) (Nat.le_of_ble_eq_true rfl) ?_
        exact W.zret (v := r38) hx hb hr (y41) (fun t ht hW9 => ⟨⟨r38, S42, rfl, ⟨(by show (r38, S42) = f_X12_meets S o1 x1 x2 x3; unfold f_X12_meets; rw [if_neg c4, if_neg c17, if_neg c20, l2_eq c39.symm]), t43, (y41)⟩, wd_end hP hK hD ht hW9.alike⟩, hS.F ht⟩) hS.2.2 dX12_meets_55 hlocks
    · have c17i : (f_X12_in x3.toInt64 (0 : Int64) (999999 : Int64)).toInt = 0 := eq_v rfl rfl c17
      refine lv_aload_n hx hb dX12_meets_20 rfl (lv_at hl 0 rfl) ?_
      refine lv_iconst (v := 1) hx hb dX12_meets_21 (by decide) ?_
      have l32_1 : (1 : Int32).toInt = 1 := rfl
      have hFc := free_all hD hS hA
      obtain ⟨k45, gk45, hk45⟩ := wGt (cy := cy) X S h_o1.1 h_o1.2.1
      refine va_calli (va_runV (As := [.int (1 : Int32)]) (rest := []) ⟨hx, hb, hml, hown, hts⟩ (c_X12_refuses l (cy := cy) (X := X) (D := D) S _ o1 h_o1 (1 : Int32) (hW)) (cwV 1 hts gX12_meets_X12_refuses rfl rfl rfl hd_X12_refuses ⟨Nat.le_of_ble_eq_true rfl, Nat.le_of_ble_eq_true rfl⟩) (pV (va_recv hK hP (q := (RX12, TX12, 34)) (ci := 16) (q0 := k45) rfl hk45) hP hK hD hN) rfl rfl hl.1 rfl (lv_room (Nat.le_of_ble_eq_true rfl)) dX12_meets_22 ⟨(Nat.zero_le _), (Nat.zero_le _)⟩) hS (fun q _ h => hFc q h) hFc (fun r46 u t H1 locs ht hvm hw hB hz1 hk1 hS => ?_)
      obtain ⟨c47, w48, y49⟩ := hw
      obtain ⟨hP, hD⟩ := wd_post hFc ht hB
      generalize H1 = H at hP hS ⊢
      obtain ⟨S50, rfl⟩ : ∃ z, z = u := ⟨_, rfl⟩
      have t51 : stp [(12, 15), (17, 100)] [] [] S S50 := t0.tr w48 (by decide) (fun _ q => absurd q List.not_mem_nil)
      have xe52 : ext S S50 := w48.x
      refine W.widen (k := 0) (n := 0) (Nat.le_of_ble_eq_true rfl) (Nat.le_of_ble_eq_true rfl) ?_
      exact W.zret (v := r46) hx hb hr (y49) (fun t ht hW9 => ⟨⟨r46, S50, rfl, ⟨(by show (r46, S50) = f_X12_meets S o1 x1 x2 x3; unfold f_X12_meets; rw [if_neg c4, if_pos c17, l2_eq c47.symm]), t51, (y49)⟩, wd_end hP hK hD ht hW9.alike⟩, hS.F ht⟩) hS.2.2 dX12_meets_25 hlocks
def f_X12_indexes (S : wPS) (o1 : Nat) (x1 : Int32) (x2 : Int32) (x3 : Int32) : (Int32 × wPS) := if (f_X12_isGear S o1 x1) = (0 : Int32) then l2 (f_X12_refuses S o1 (1 : Int32)) (fun r9 S13 => (r9, S13)) else if (f_X12_isHob S o1 x2) = (0 : Int32) then l2 (f_X12_refuses S o1 (1 : Int32)) (fun r77 S81 => (r77, S81)) else if (f_X12_in x3.toInt64 (0 : Int64) (999999 : Int64)) = (0 : Int32) then l2 (f_X12_refuses S o1 (2 : Int32)) (fun r69 S73 => (r69, S73)) else if (4 : Int32) ≤ (S.I o1 16) then l1 (f_Jx4a65c_get_915e3 S (S.f o1 1) x2) (fun r32 => l1 (f_X12_gearAt S o1 x1) (fun r39 => l2 (f_X12_isMet S o1 (((S.I o1 17).toInt64) * ((S.I r32 1).toInt64)) ((S.I r39 1).toInt64) x3) (fun r45 S49 => l2 (f_X12_says S49 o1 r45) (fun r53 S57 => (r53, S57))))) else l2 (f_X12_refuses S o1 (3 : Int32)) (fun r61 S65 => (r61, S65))
set_option maxHeartbeats 4000000 in
set_option maxRecDepth 100000 in
theorem c_X12_indexes_q (l : Launch) {D : va_G} {cy : Nat → ClassId} {X : va_W} (S : wPS) (sz : Nat) (o1 : Nat) (h_o1 : isA S o1 12) (x1 : Int32) (x2 : Int32) (x3 : Int32) (hW : wtB S [])  : Met l yX12_indexes wsX12_indexes ({ frames := 10, cells := 0, slots := 0, locals := 250 }) (va_Pc [.ref o1, .int x1, .int x2, .int x3] (fun U => U.heap.size = sz ∧ WD D cy X (fun _ => True) S U ∧ NW U)) (va_Qi (fun r (u : wPS) => (r, u) = f_X12_indexes S o1 x1 x2 x3 ∧ stp [(12, 15), (17, 100)] [] [] S u ∧ narrow .boolean (.int r) = .int r) (fun u t => WD D cy X (va_A (X ++ PL cy S) sz) u t) (va_A (X ++ PL cy S) sz)) 0 0 (va_A (X ++ PL cy S) sz) := by
  refine Met.ofW (cc := cX12_indexes) (maxL := 4) (ret := (some .boolean)) (by decide) rfl ?_
  intro p e s m args below meth c s₁ B hml hv
  obtain ⟨rfl, hsz, ⟨hP, hK, hD0⟩, hN⟩ := hv
  have hx := B.exec
  have hb := B.bytes
  have hr := B.returns
  have hts := atoms_spec (ws := wsX12_indexes) B.pre
  have hown : s.vm.findClass RX12 = some m.cls := findClass_of_methodNamed (x := yX12_indexes) B.named
  have hlocks := B.notSynchronized
  subst hsz
  have hD := hD0.self (sz := s.heap.size)
  generalize hAe : va_A (X ++ PL cy S) s.heap.size = A at hD ⊢
  have hA : ∀ q : Nat, s.heap.size ≤ q → A q := fun q h => by rw [← hAe]; exact Or.inr h
  have hS : va_S A s.heap s.heap [] := va_S.rf
  have hl := lv_entry ([.ref o1, .int x1, .int x2, .int x3]) (n := 4) (Nat.le_of_ble_eq_true rfl)
  rw [lg_entry_eq]
  generalize (lg_sl ([.ref o1, .int x1, .int x2, .int x3]) ++ List.replicate (4 - (lg_sl ([.ref o1, .int x1, .int x2, .int x3])).length) Slot.unset).toArray = ls at hl ⊢
  have hl : lv_has ls 4 [(0, .ref o1), (1, .int x1), (2, .int x2), (3, .int x3)] := hl
  have t0 : stp [(12, 15), (17, 100)] [] [] S S := stp.rf hW
  have F1 := ((hW.at h_o1 List.not_mem_nil).to_12 h_o1.2.1).F0
  have F2 := ((hW.at h_o1 List.not_mem_nil).to_12 h_o1.2.1).F1
  refine lv_aload_n hx hb dX12_indexes_0 rfl (lv_at hl 0 rfl) ?_
  refine lv_iload_n hx hb dX12_indexes_1 rfl (lv_at hl 1 rfl) ?_
  have hFc := free_all hD hS hA
  obtain ⟨k3, gk3, hk3⟩ := wGt (cy := cy) X S h_o1.1 h_o1.2.1
  refine va_calli (va_runV (As := [.int x1]) (rest := []) ⟨hx, hb, hml, hown, hts⟩ (c_X12_isGear l (cy := cy) (X := X) (D := D) S _ o1 h_o1 x1 (hW)) (cwV 1 hts gX12_indexes_X12_isGear rfl rfl rfl hd_X12_isGear ⟨Nat.le_of_ble_eq_true rfl, Nat.le_of_ble_eq_true rfl⟩) (pV (va_recv hK hP (q := (RX12, TX12, 34)) (ci := 16) (q0 := k3) rfl hk3) hP hK hD hN) rfl rfl hl.1 rfl (lv_room (Nat.le_of_ble_eq_true rfl)) dX12_indexes_2 ⟨(Nat.zero_le _), (Nat.zero_le _)⟩) hS (fun q _ h => hFc q h) hFc (fun r4 u t H1 locs ht hvm hw hB hz1 hk1 hS => ?_)
  have c5 := hw
  obtain ⟨hP, hD⟩ := wd_post hFc ht hB
  generalize H1 = H at hP hS ⊢
  obtain rfl : f_X12_isGear S o1 x1 = r4 := c5.symm
  have i6 : (f_X12_isGear S o1 x1).toInt = 0 ∨ (0 ≤ x1.toInt ∧ x1.toInt < (S.I (S.f o1 0) 2).toInt) := by have h9 := ig_rng x1 ((hW.at h_o1 List.not_mem_nil).to_12 h_o1.2.1) hW; rw [f_of F1.1] at h9; exact h9
  refine lv_if_eq (tgt := 16) hx hb dX12_indexes_5 (by decide) (fun c7 => ?_) (fun c7 => ?_)
  · have c7i : (f_X12_isGear S o1 x1).toInt = 0 := eq_v rfl rfl c7
    refine lv_aload_n hx hb dX12_indexes_16 rfl (lv_at hl 0 rfl) ?_
    refine lv_iconst (v := 1) hx hb dX12_indexes_17 (by decide) ?_
    have l32_1 : (1 : Int32).toInt = 1 := rfl
    have hFc := free_all hD hS hA
    obtain ⟨k8, gk8, hk8⟩ := wGt (cy := cy) X S h_o1.1 h_o1.2.1
    refine va_calli (va_runV (As := [.int (1 : Int32)]) (rest := []) ⟨hx, hb, hml, hown, hts⟩ (c_X12_refuses l (cy := cy) (X := X) (D := D) S _ o1 h_o1 (1 : Int32) (hW)) (cwV 1 hts gX12_indexes_X12_refuses rfl rfl rfl hd_X12_refuses ⟨Nat.le_of_ble_eq_true rfl, Nat.le_of_ble_eq_true rfl⟩) (pV (va_recv hK hP (q := (RX12, TX12, 34)) (ci := 16) (q0 := k8) rfl hk8) hP hK hD hN) rfl rfl hl.1 rfl (lv_room (Nat.le_of_ble_eq_true rfl)) dX12_indexes_18 ⟨(Nat.zero_le _), (Nat.zero_le _)⟩) hS (fun q _ h => hFc q h) hFc (fun r9 u t H1 locs ht hvm hw hB hz1 hk1 hS => ?_)
    obtain ⟨c10, w11, y12⟩ := hw
    obtain ⟨hP, hD⟩ := wd_post hFc ht hB
    generalize H1 = H at hP hS ⊢
    obtain ⟨S13, rfl⟩ : ∃ z, z = u := ⟨_, rfl⟩
    have t14 : stp [(12, 15), (17, 100)] [] [] S S13 := t0.tr w11 (by decide) (fun _ q => absurd q List.not_mem_nil)
    have xe15 : ext S S13 := w11.x
    refine W.widen (k := 0) (n := 0) (Nat.le_of_ble_eq_true rfl) (Nat.le_of_ble_eq_true rfl) ?_
    exact W.zret (v := r9) hx hb hr (y12) (fun t ht hW9 => ⟨⟨r9, S13, rfl, ⟨(by show (r9, S13) = f_X12_indexes S o1 x1 x2 x3; unfold f_X12_indexes; rw [if_pos c7, l2_eq c10.symm]), t14, (y12)⟩, wd_end hP hK hD ht hW9.alike⟩, hS.F ht⟩) hS.2.2 dX12_indexes_21 hlocks
  · have c7i : ¬ (f_X12_isGear S o1 x1).toInt = 0 := neq_v rfl rfl c7
    refine lv_aload_n hx hb dX12_indexes_8 rfl (lv_at hl 0 rfl) ?_
    refine lv_iload_n hx hb dX12_indexes_9 rfl (lv_at hl 2 rfl) ?_
    have hFc := free_all hD hS hA
    obtain ⟨k16, gk16, hk16⟩ := wGt (cy := cy) X S h_o1.1 h_o1.2.1
    refine va_calli (va_runV (As := [.int x2]) (rest := []) ⟨hx, hb, hml, hown, hts⟩ (c_X12_isHob l (cy := cy) (X := X) (D := D) S _ o1 h_o1 x2 (hW)) (cwV 1 hts gX12_indexes_X12_isHob rfl rfl rfl hd_X12_isHob ⟨Nat.le_of_ble_eq_true rfl, Nat.le_of_ble_eq_true rfl⟩) (pV (va_recv hK hP (q := (RX12, TX12, 34)) (ci := 16) (q0 := k16) rfl hk16) hP hK hD hN) rfl rfl hl.1 rfl (lv_room (Nat.le_of_ble_eq_true rfl)) dX12_indexes_10 ⟨(Nat.zero_le _), (Nat.zero_le _)⟩) hS (fun q _ h => hFc q h) hFc (fun r17 u t H1 locs ht hvm hw hB hz1 hk1 hS => ?_)
    have c18 := hw
    obtain ⟨hP, hD⟩ := wd_post hFc ht hB
    generalize H1 = H at hP hS ⊢
    obtain rfl : f_X12_isHob S o1 x2 = r17 := c18.symm
    have i19 : (f_X12_isHob S o1 x2).toInt = 0 ∨ (0 ≤ x2.toInt ∧ x2.toInt < (S.I (S.f o1 1) 2).toInt) := by have h9 := ih_rng x2 ((hW.at h_o1 List.not_mem_nil).to_12 h_o1.2.1) hW; rw [f_of F2.1] at h9; exact h9
    refine lv_if_ne (tgt := 22) hx hb dX12_indexes_13 (by decide) (fun c20 => ?_) (fun c20 => ?_)
    · have c20i : ¬ (f_X12_isHob S o1 x2).toInt = 0 := neq_v rfl rfl c20
      refine lv_iload_n hx hb dX12_indexes_22 rfl (lv_at hl 3 rfl) ?_
      refine lv_i2l hx hb dX12_indexes_23 rfl ?_
      refine lv_lconst (v := 0) hx hb dX12_indexes_24 (by decide) ?_
      refine lv_ldc2 (own := RX12) (v := 999999) hx hb hown (hts (.constantLong RX12 306 (999999)) (by decide +kernel)) dX12_indexes_25 ?_
      have hFc := free_all hD hS hA
      refine va_calli (va_runS (As := [.long x3.toInt64, .long (0 : Int64), .long (999999 : Int64)]) (rest := []) ⟨hx, hb, hml, hown, hts⟩ (c_X12_in l (cy := cy) (X := X) (D := D) S _ x3.toInt64 (0 : Int64) (999999 : Int64)) (cwS 3 hts gX12_indexes_X12_in rfl rfl rfl hd_X12_in ⟨Nat.le_of_ble_eq_true rfl, Nat.le_of_ble_eq_true rfl⟩) (pS hP hK hD hN) rfl rfl hl.1 rfl (lv_room (Nat.le_of_ble_eq_true rfl)) dX12_indexes_28 ⟨(Nat.zero_le _), (Nat.zero_le _)⟩) hS (fun q _ h => hFc q h) hFc (fun r21 u t H1 locs ht hvm hw hB hz1 hk1 hS => ?_)
      have c22 := hw
      obtain ⟨hP, hD⟩ := wd_post hFc ht hB
      generalize H1 = H at hP hS ⊢
      obtain rfl : f_X12_in x3.toInt64 (0 : Int64) (999999 : Int64) = r21 := c22.symm
      have i23 := i64_i x3
      have l64_0 : (0 : Int64).toInt = 0 := rfl
      have l64_999999 : (999999 : Int64).toInt = 999999 := rfl
      have i24 := in_rng x3.toInt64 (0 : Int64) (999999 : Int64)
      refine lv_if_ne (tgt := 40) hx hb dX12_indexes_31 (by decide) (fun c25 => ?_) (fun c25 => ?_)
      · have c25i : ¬ (f_X12_in x3.toInt64 (0 : Int64) (999999 : Int64)).toInt = 0 := neq_v rfl rfl c25
        refine lv_aload_n hx hb dX12_indexes_40 rfl (lv_at hl 0 rfl) ?_
        obtain ⟨k26, gk26, hk26⟩ := wGt (cy := cy) X S h_o1.1 h_o1.2.1
        have i27 := ((hW.at h_o1 List.not_mem_nil).to_12 h_o1.2.1).R16
        refine va_get (D := D) (ci := 16) (v := .int (S.I o1 16)) (C := RX12) (T := TX12) (N := 34) hx hb hts hi_X12_indexes_X12 hown hK hP k26 hk26 rfl 16 (by decide) (hts (.fieldLink RX12 282 "HobhouseModel" "box" "I") (by decide +kernel)) (fun _ h9 => h9) rfl dX12_indexes_41 ?_
        refine lv_iconst (v := 4) hx hb dX12_indexes_44 (by decide) ?_
        refine lv_icmp_ge (tgt := 56) hx hb dX12_indexes_45 (by decide) (fun c28 => ?_) (fun c28 => ?_)
        · have c28i : 4 ≤ (S.I o1 16).toInt := le_v rfl rfl c28
          refine lv_aload_n hx hb dX12_indexes_56 rfl (lv_at hl 0 rfl) ?_
          refine lv_aload_n hx hb dX12_indexes_57 rfl (lv_at hl 0 rfl) ?_
          refine lv_aload_n hx hb dX12_indexes_58 rfl (lv_at hl 0 rfl) ?_
          obtain ⟨k29, gk29, hk29⟩ := wGt (cy := cy) X S h_o1.1 h_o1.2.1
          refine va_get (D := D) (ci := 16) (v := .int (S.I o1 17)) (C := RX12) (T := TX12) (N := 34) hx hb hts hi_X12_indexes_X12 hown hK hP k29 hk29 rfl 17 (by decide) (hts (.fieldLink RX12 72 "HobhouseModel" "constant" "I") (by decide +kernel)) (fun _ h9 => h9) rfl dX12_indexes_59 ?_
          refine lv_i2l hx hb dX12_indexes_62 rfl ?_
          refine lv_aload_n hx hb dX12_indexes_63 rfl (lv_at hl 0 rfl) ?_
          obtain ⟨k30, gk30, hk30⟩ := wGt (cy := cy) X S h_o1.1 h_o1.2.1
          simp only [kE, F2.1] at hk30
          refine va_get (D := D) (ci := 16) (v := .ref (S.f o1 1)) (C := RX12) (T := TX12) (N := 34) hx hb hts hi_X12_indexes_X12 hown hK hP k30 hk30 rfl 1 (by decide) (hts (.fieldLink RX12 28 "HobhouseModel" "hobs" "Ljava/util/ArrayList;") (by decide +kernel)) (fun _ h9 => h9) rfl dX12_indexes_64 ?_
          refine lv_iload_n hx hb dX12_indexes_67 rfl (lv_at hl 2 rfl) ?_
          have hFc := free_all hD hS hA
          obtain ⟨k31, gk31, hk31⟩ := wGt (cy := cy) X S F2.2.1.1 F2.2.1.2.1
          refine va_callq (va_runV (As := [.int x2]) (rest := [.long ((S.I o1 17).toInt64), .ref o1, .ref o1]) ⟨hx, hb, hml, hown, hts⟩ (c_Jx4a65c_get_915e3 l (cy := cy) (X := X) (D := D) S _ (S.f o1 1) F2.2.1 x2 (hW) (by omega)) (cwV 1 hts gX12_indexes_Jx4a65c_get_915e3 rfl rfl rfl hd_Jx4a65c_get_915e3 ⟨Nat.le_of_ble_eq_true rfl, Nat.le_of_ble_eq_true rfl⟩) (pV (va_recv hK hP (q := (RJx4a65c, TJx4a65c, 3)) (ci := 3) (q0 := k31) rfl hk31) hP hK hD hN) rfl rfl hl.1 rfl (lv_room (Nat.le_of_ble_eq_true rfl)) dX12_indexes_68 ⟨(Nat.zero_le _), (Nat.zero_le _)⟩) hS (fun q _ h => hFc q h) hFc (fun r32 u t H1 locs ht hvm hw hB hz1 hk1 hS => ?_)
          obtain ⟨r32, rfl, c33, o34⟩ := hw
          obtain ⟨hP, hD⟩ := wd_post hFc ht hB
          generalize H1 = H at hP hS ⊢
          have o34k : isA S r32 11 := by rw [← show _ = 11 from F2.2.2]; exact o34
          refine W.eq (g2 := F0 m 71 ls [.ref r32, .long ((S.I o1 17).toInt64), .ref o1, .ref o1]) rfl ?_
          obtain ⟨k35, gk35, hk35⟩ := wGt (cy := cy) X S o34k.1 o34k.2.1
          refine va_castS (nm := "HobhouseModel$Hob") hx hb hown (hts (.classLink RX12 322 "HobhouseModel$Hob") (by decide +kernel)) (hK.1 15 _ rfl).2 (va_recv hK hP (ci := 15) (q0 := k35) rfl hk35) dX12_indexes_71 ?_
          obtain ⟨k36, gk36, hk36⟩ := wGt (cy := cy) X S o34k.1 o34k.2.1
          have i37 := ((hW.at o34k List.not_mem_nil).to_11 o34k.2.1).R1
          refine va_getN (D := D) (ci := 15) (v := .int (S.I r32 1)) (C := RX11) (T := TX11) (N := 7) hx hb hts hi_X12_indexes_X11 hown hK hP k36 hk36 rfl 1 (by decide) (va_Nw.use rfl (hN (.fieldLinkNest RX12 329 "HobhouseModel$Hob" "starts" "I" "HobhouseModel") (by decide +kernel))) (fun _ h9 => h9) rfl dX12_indexes_74 ?_
          refine lv_i2l hx hb dX12_indexes_77 rfl ?_
          refine lv_lmul hx hb dX12_indexes_78 ?_
          refine lv_aload_n hx hb dX12_indexes_79 rfl (lv_at hl 0 rfl) ?_
          refine lv_iload_n hx hb dX12_indexes_80 rfl (lv_at hl 1 rfl) ?_
          have hFc := free_all hD hS hA
          obtain ⟨k38, gk38, hk38⟩ := wGt (cy := cy) X S h_o1.1 h_o1.2.1
          refine va_callq (va_runV (As := [.int x1]) (rest := [.long (((S.I o1 17).toInt64) * ((S.I r32 1).toInt64)), .ref o1, .ref o1]) ⟨hx, hb, hml, hown, hts⟩ (c_X12_gearAt l (cy := cy) (X := X) (D := D) S _ o1 h_o1 x1 (hW) (by rw [f_of F1.1]; omega)) (cwV 1 hts gX12_indexes_X12_gearAt rfl rfl rfl hd_X12_gearAt ⟨Nat.le_of_ble_eq_true rfl, Nat.le_of_ble_eq_true rfl⟩) (pV (va_recv hK hP (q := (RX12, TX12, 34)) (ci := 16) (q0 := k38) rfl hk38) hP hK hD hN) rfl rfl hl.1 rfl (lv_room (Nat.le_of_ble_eq_true rfl)) dX12_indexes_81 ⟨(Nat.zero_le _), (Nat.zero_le _)⟩) hS (fun q _ h => hFc q h) hFc (fun r39 u t H1 locs ht hvm hw hB hz1 hk1 hS => ?_)
          obtain ⟨r39, rfl, c40, o41⟩ := hw
          obtain ⟨hP, hD⟩ := wd_post hFc ht hB
          generalize H1 = H at hP hS ⊢
          refine W.eq (g2 := F0 m 84 ls [.ref r39, .long (((S.I o1 17).toInt64) * ((S.I r32 1).toInt64)), .ref o1, .ref o1]) rfl ?_
          obtain ⟨k42, gk42, hk42⟩ := wGt (cy := cy) X S o41.1 o41.2.1
          have i43 := ((hW.at o41 List.not_mem_nil).to_10 o41.2.1).R1
          refine va_getN (D := D) (ci := 14) (v := .int (S.I r39 1)) (C := RX10) (T := TX10) (N := 23) hx hb hts hi_X12_indexes_X10 hown hK hP k42 hk42 rfl 1 (by decide) (va_Nw.use rfl (hN (.fieldLinkNest RX12 332 "HobhouseModel$Gear" "teeth" "I" "HobhouseModel") (by decide +kernel))) (fun _ h9 => h9) rfl dX12_indexes_84 ?_
          refine lv_i2l hx hb dX12_indexes_87 rfl ?_
          refine lv_iload_n hx hb dX12_indexes_88 rfl (lv_at hl 3 rfl) ?_
          have hFc := free_all hD hS hA
          obtain ⟨k44, gk44, hk44⟩ := wGt (cy := cy) X S h_o1.1 h_o1.2.1
          refine va_calli (va_runV (As := [.long (((S.I o1 17).toInt64) * ((S.I r32 1).toInt64)), .long ((S.I r39 1).toInt64), .int x3]) (rest := [.ref o1]) ⟨hx, hb, hml, hown, hts⟩ (c_X12_isMet_q l (cy := cy) (X := X) (D := D) S _ o1 h_o1 (((S.I o1 17).toInt64) * ((S.I r32 1).toInt64)) ((S.I r39 1).toInt64) x3 (hW)) (cwV 3 hts gX12_indexes_X12_isMet rfl rfl rfl hd_X12_isMet ⟨Nat.le_of_ble_eq_true rfl, Nat.le_of_ble_eq_true rfl⟩) (pV (va_recv hK hP (q := (RX12, TX12, 34)) (ci := 16) (q0 := k44) rfl hk44) hP hK hD hN) rfl rfl hl.1 rfl (lv_room (Nat.le_of_ble_eq_true rfl)) dX12_indexes_89 ⟨(Nat.zero_le _), (Nat.zero_le _)⟩) hS (fun q _ h => hFc q h) hFc (fun r45 u t H1 locs ht hvm hw hB hz1 hk1 hS => ?_)
          obtain ⟨c46, w47, y48⟩ := hw
          obtain ⟨hP, hD⟩ := wd_post hFc ht hB
          generalize H1 = H at hP hS ⊢
          obtain ⟨S49, rfl⟩ : ∃ z, z = u := ⟨_, rfl⟩
          have t50 : stp [(12, 15), (17, 100)] [] [] S S49 := t0.tr w47 (by decide) (fun _ q => absurd q List.not_mem_nil)
          have xe51 : ext S S49 := w47.x
          have hFc := free_all hD hS hA
          obtain ⟨k52, gk52, hk52⟩ := wGt (cy := cy) X S49 (xe51.A h_o1).1 (xe51.A h_o1).2.1
          refine va_calli (va_runV (As := [.int r45]) (rest := []) ⟨hx, hb, hml, hown, hts⟩ (c_X12_says l (cy := cy) (X := X) (D := D) S49 _ o1 (xe51.A h_o1) r45 (t50.w) (y48)) (cwV 1 hts gX12_indexes_X12_says rfl rfl rfl hd_X12_says ⟨Nat.le_of_ble_eq_true rfl, Nat.le_of_ble_eq_true rfl⟩) (pV (va_recv hK hP (q := (RX12, TX12, 34)) (ci := 16) (q0 := k52) rfl hk52) hP hK hD hN) rfl rfl hl.1 rfl (lv_room (Nat.le_of_ble_eq_true rfl)) dX12_indexes_92 ⟨(Nat.zero_le _), (Nat.zero_le _)⟩) hS (fun q _ h => hFc q h) hFc (fun r53 u t H1 locs ht hvm hw hB hz1 hk1 hS => ?_)
          obtain ⟨c54, w55, y56⟩ := hw
          obtain ⟨hP, hD⟩ := wd_post hFc ht hB
          generalize H1 = H at hP hS ⊢
          obtain ⟨S57, rfl⟩ : ∃ z, z = u := ⟨_, rfl⟩
          have t58 : stp [(12, 15), (17, 100)] [] [] S S57 := t50.tr w55 (by decide) (fun _ q => absurd q List.not_mem_nil)
          have xe59 : ext S49 S57 := w55.x
          refine W.widen (k := 0) (n := 0) (Nat.le_of_ble_eq_true rfl) (Nat.le_of_ble_eq_true rfl) ?_
          exact W.zret (v := r53) hx hb hr (y56) (fun t ht hW9 => ⟨⟨r53, S57, rfl, ⟨(by show (r53, S57) = f_X12_indexes S o1 x1 x2 x3; unfold f_X12_indexes; rw [if_neg c7, if_neg c20, if_neg c25, if_pos c28, l1_eq c33.symm, l1_eq c40.symm, l2_eq c46.symm, l2_eq c54.symm]), t58, (y56)⟩, wd_end hP hK hD ht hW9.alike⟩, hS.F ht⟩) hS.2.2 dX12_indexes_95 hlocks
        · have c28i : (S.I o1 16).toInt < 4 := nle_v rfl rfl c28
          refine lv_aload_n hx hb dX12_indexes_48 rfl (lv_at hl 0 rfl) ?_
          refine lv_iconst (v := 3) hx hb dX12_indexes_49 (by decide) ?_
          have l32_3 : (3 : Int32).toInt = 3 := rfl
          have hFc := free_all hD hS hA
          obtain ⟨k60, gk60, hk60⟩ := wGt (cy := cy) X S h_o1.1 h_o1.2.1
          refine va_calli (va_runV (As := [.int (3 : Int32)]) (rest := []) ⟨hx, hb, hml, hown, hts⟩ (c_X12_refuses l (cy := cy) (X := X) (D := D) S _ o1 h_o1 (3 : Int32) (hW)) (cwV 1 hts gX12_indexes_X12_refuses rfl rfl rfl hd_X12_refuses ⟨Nat.le_of_ble_eq_true rfl, Nat.le_of_ble_eq_true rfl⟩) (pV (va_recv hK hP (q := (RX12, TX12, 34)) (ci := 16) (q0 := k60) rfl hk60) hP hK hD hN) rfl rfl hl.1 rfl (lv_room (Nat.le_of_ble_eq_true rfl)) dX12_indexes_50 ⟨(Nat.zero_le _), (Nat.zero_le _)⟩) hS (fun q _ h => hFc q h) hFc (fun r61 u t H1 locs ht hvm hw hB hz1 hk1 hS => ?_)
          obtain ⟨c62, w63, y64⟩ := hw
          obtain ⟨hP, hD⟩ := wd_post hFc ht hB
          generalize H1 = H at hP hS ⊢
          obtain ⟨S65, rfl⟩ : ∃ z, z = u := ⟨_, rfl⟩
          have t66 : stp [(12, 15), (17, 100)] [] [] S S65 := t0.tr w63 (by decide) (fun _ q => absurd q List.not_mem_nil)
          have xe67 : ext S S65 := w63.x
          refine lv_goto (tgt := 95) hx hb dX12_indexes_53 (by decide) ?_
          refine W.widen (k := 0) (n := 0) (Nat.le_of_ble_eq_true rfl) (Nat.le_of_ble_eq_true rfl) ?_
          exact W.zret (v := r61) hx hb hr (y64) (fun t ht hW9 => ⟨⟨r61, S65, rfl, ⟨(by show (r61, S65) = f_X12_indexes S o1 x1 x2 x3; unfold f_X12_indexes; rw [if_neg c7, if_neg c20, if_neg c25, if_neg c28, l2_eq c62.symm]), t66, (y64)⟩, wd_end hP hK hD ht hW9.alike⟩, hS.F ht⟩) hS.2.2 dX12_indexes_95 hlocks
      · have c25i : (f_X12_in x3.toInt64 (0 : Int64) (999999 : Int64)).toInt = 0 := eq_v rfl rfl c25
        refine lv_aload_n hx hb dX12_indexes_34 rfl (lv_at hl 0 rfl) ?_
        refine lv_iconst (v := 2) hx hb dX12_indexes_35 (by decide) ?_
        have l32_2 : (2 : Int32).toInt = 2 := rfl
        have hFc := free_all hD hS hA
        obtain ⟨k68, gk68, hk68⟩ := wGt (cy := cy) X S h_o1.1 h_o1.2.1
        refine va_calli (va_runV (As := [.int (2 : Int32)]) (rest := []) ⟨hx, hb, hml, hown, hts⟩ (c_X12_refuses l (cy := cy) (X := X) (D := D) S _ o1 h_o1 (2 : Int32) (hW)) (cwV 1 hts gX12_indexes_X12_refuses rfl rfl rfl hd_X12_refuses ⟨Nat.le_of_ble_eq_true rfl, Nat.le_of_ble_eq_true rfl⟩) (pV (va_recv hK hP (q := (RX12, TX12, 34)) (ci := 16) (q0 := k68) rfl hk68) hP hK hD hN) rfl rfl hl.1 rfl (lv_room (Nat.le_of_ble_eq_true rfl)) dX12_indexes_36 ⟨(Nat.zero_le _), (Nat.zero_le _)⟩) hS (fun q _ h => hFc q h) hFc (fun r69 u t H1 locs ht hvm hw hB hz1 hk1 hS => ?_)
        obtain ⟨c70, w71, y72⟩ := hw
        obtain ⟨hP, hD⟩ := wd_post hFc ht hB
        generalize H1 = H at hP hS ⊢
        obtain ⟨S73, rfl⟩ : ∃ z, z = u := ⟨_, rfl⟩
        have t74 : stp [(12, 15), (17, 100)] [] [] S S73 := t0.tr w71 (by decide) (fun _ q => absurd q List.not_mem_nil)
        have xe75 : ext S S73 := w71.x
        refine W.widen (k := 0) (n := 0) (Nat.le_of_ble_eq_true rfl) (Nat.le_of_ble_eq_true rfl) ?_
        exact W.zret (v := r69) hx hb hr (y72) (fun t ht hW9 => ⟨⟨r69, S73, rfl, ⟨(by show (r69, S73) = f_X12_indexes S o1 x1 x2 x3; unfold f_X12_indexes; rw [if_neg c7, if_neg c20, if_pos c25, l2_eq c70.symm]), t74, (y72)⟩, wd_end hP hK hD ht hW9.alike⟩, hS.F ht⟩) hS.2.2 dX12_indexes_39 hlocks
    · have c20i : (f_X12_isHob S o1 x2).toInt = 0 := eq_v rfl rfl c20
      refine lv_aload_n hx hb dX12_indexes_16 rfl (lv_at hl 0 rfl) ?_
      refine lv_iconst (v := 1) hx hb dX12_indexes_17 (by decide) ?_
      have l32_1 : (1 : Int32).toInt = 1 := rfl
      have hFc := free_all hD hS hA
      obtain ⟨k76, gk76, hk76⟩ := wGt (cy := cy) X S h_o1.1 h_o1.2.1
      refine va_calli (va_runV (As := [.int (1 : Int32)]) (rest := []) ⟨hx, hb, hml, hown, hts⟩ (c_X12_refuses l (cy := cy) (X := X) (D := D) S _ o1 h_o1 (1 : Int32) (hW)) (cwV 1 hts gX12_indexes_X12_refuses rfl rfl rfl hd_X12_refuses ⟨Nat.le_of_ble_eq_true rfl, Nat.le_of_ble_eq_true rfl⟩) (pV (va_recv hK hP (q := (RX12, TX12, 34)) (ci := 16) (q0 := k76) rfl hk76) hP hK hD hN) rfl rfl hl.1 rfl (lv_room (Nat.le_of_ble_eq_true rfl)) dX12_indexes_18 ⟨(Nat.zero_le _), (Nat.zero_le _)⟩) hS (fun q _ h => hFc q h) hFc (fun r77 u t H1 locs ht hvm hw hB hz1 hk1 hS => ?_)
      obtain ⟨c78, w79, y80⟩ := hw
      obtain ⟨hP, hD⟩ := wd_post hFc ht hB
      generalize H1 = H at hP hS ⊢
      obtain ⟨S81, rfl⟩ : ∃ z, z = u := ⟨_, rfl⟩
      have t82 : stp [(12, 15), (17, 100)] [] [] S S81 := t0.tr w79 (by decide) (fun _ q => absurd q List.not_mem_nil)
      have xe83 : ext S S81 := w79.x
      refine W.widen (k := 0) (n := 0) (Nat.le_of_ble_eq_true rfl) (Nat.le_of_ble_eq_true rfl) ?_
      exact W.zret (v := r77) hx hb hr (y80) (fun t ht hW9 => ⟨⟨r77, S81, rfl, ⟨(by show (r77, S81) = f_X12_indexes S o1 x1 x2 x3; unfold f_X12_indexes; rw [if_neg c7, if_pos c20, l2_eq c78.symm]), t82, (y80)⟩, wd_end hP hK hD ht hW9.alike⟩, hS.F ht⟩) hS.2.2 dX12_indexes_21 hlocks
def f_X12_differs (S : wPS) (o1 : Nat) (x1 : Int32) (x2 : Int32) (x3 : Int32) : (Int32 × wPS) := if (f_X12_isGear S o1 x1) = (0 : Int32) then l2 (f_X12_refuses S o1 (1 : Int32)) (fun r9 S13 => (r9, S13)) else if (f_X12_isHob S o1 x2) = (0 : Int32) then l2 (f_X12_refuses S o1 (1 : Int32)) (fun r89 S93 => (r89, S93)) else if (f_X12_in x3.toInt64 (0 : Int64) (999999 : Int64)) = (0 : Int32) then l2 (f_X12_refuses S o1 (2 : Int32)) (fun r81 S85 => (r81, S85)) else l1 (f_X12_gearAt S o1 x1) (fun r27 => if (S.I r27 3) = (0 : Int32) then l2 (f_X12_refuses S o1 (3 : Int32)) (fun r73 S77 => (r73, S77)) else if (4 : Int32) ≤ (S.I o1 16) then l1 (f_Jx4a65c_get_915e3 S (S.f o1 1) x2) (fun r42 => l2 (f_X12_isMet S o1 (((if 0 ≤ (S.I r27 3) then (S.I r27 3) else 0 - (S.I r27 3)).toInt64) * ((S.I o1 17).toInt64)) (((S.I r27 2).toInt64) * ((S.I r42 1).toInt64)) x3) (fun r49 S53 => l2 (f_X12_says S53 o1 r49) (fun r57 S61 => (r57, S61)))) else l2 (f_X12_refuses S o1 (4 : Int32)) (fun r65 S69 => (r65, S69)))
set_option maxHeartbeats 4000000 in
set_option maxRecDepth 100000 in
theorem c_X12_differs_q (l : Launch) {D : va_G} {cy : Nat → ClassId} {X : va_W} (S : wPS) (sz : Nat) (o1 : Nat) (h_o1 : isA S o1 12) (x1 : Int32) (x2 : Int32) (x3 : Int32) (hW : wtB S [])  : Met l yX12_differs wsX12_differs ({ frames := 10, cells := 0, slots := 0, locals := 250 }) (va_Pc [.ref o1, .int x1, .int x2, .int x3] (fun U => U.heap.size = sz ∧ WD D cy X (fun _ => True) S U ∧ NW U)) (va_Qi (fun r (u : wPS) => (r, u) = f_X12_differs S o1 x1 x2 x3 ∧ stp [(12, 15), (17, 100)] [] [] S u ∧ narrow .boolean (.int r) = .int r) (fun u t => WD D cy X (va_A (X ++ PL cy S) sz) u t) (va_A (X ++ PL cy S) sz)) 0 0 (va_A (X ++ PL cy S) sz) := by
  refine Met.ofW (cc := cX12_differs) (maxL := 5) (ret := (some .boolean)) (by decide) rfl ?_
  intro p e s m args below meth c s₁ B hml hv
  obtain ⟨rfl, hsz, ⟨hP, hK, hD0⟩, hN⟩ := hv
  have hx := B.exec
  have hb := B.bytes
  have hr := B.returns
  have hts := atoms_spec (ws := wsX12_differs) B.pre
  have hown : s.vm.findClass RX12 = some m.cls := findClass_of_methodNamed (x := yX12_differs) B.named
  have hlocks := B.notSynchronized
  subst hsz
  have hD := hD0.self (sz := s.heap.size)
  generalize hAe : va_A (X ++ PL cy S) s.heap.size = A at hD ⊢
  have hA : ∀ q : Nat, s.heap.size ≤ q → A q := fun q h => by rw [← hAe]; exact Or.inr h
  have hS : va_S A s.heap s.heap [] := va_S.rf
  have hl := lv_entry ([.ref o1, .int x1, .int x2, .int x3]) (n := 5) (Nat.le_of_ble_eq_true rfl)
  rw [lg_entry_eq]
  generalize (lg_sl ([.ref o1, .int x1, .int x2, .int x3]) ++ List.replicate (5 - (lg_sl ([.ref o1, .int x1, .int x2, .int x3])).length) Slot.unset).toArray = ls at hl ⊢
  have hl : lv_has ls 5 [(0, .ref o1), (1, .int x1), (2, .int x2), (3, .int x3)] := hl
  have t0 : stp [(12, 15), (17, 100)] [] [] S S := stp.rf hW
  have F1 := ((hW.at h_o1 List.not_mem_nil).to_12 h_o1.2.1).F0
  have F2 := ((hW.at h_o1 List.not_mem_nil).to_12 h_o1.2.1).F1
  refine lv_aload_n hx hb dX12_differs_0 rfl (lv_at hl 0 rfl) ?_
  refine lv_iload_n hx hb dX12_differs_1 rfl (lv_at hl 1 rfl) ?_
  have hFc := free_all hD hS hA
  obtain ⟨k3, gk3, hk3⟩ := wGt (cy := cy) X S h_o1.1 h_o1.2.1
  refine va_calli (va_runV (As := [.int x1]) (rest := []) ⟨hx, hb, hml, hown, hts⟩ (c_X12_isGear l (cy := cy) (X := X) (D := D) S _ o1 h_o1 x1 (hW)) (cwV 1 hts gX12_differs_X12_isGear rfl rfl rfl hd_X12_isGear ⟨Nat.le_of_ble_eq_true rfl, Nat.le_of_ble_eq_true rfl⟩) (pV (va_recv hK hP (q := (RX12, TX12, 34)) (ci := 16) (q0 := k3) rfl hk3) hP hK hD hN) rfl rfl hl.1 rfl (lv_room (Nat.le_of_ble_eq_true rfl)) dX12_differs_2 ⟨(Nat.zero_le _), (Nat.zero_le _)⟩) hS (fun q _ h => hFc q h) hFc (fun r4 u t H1 locs ht hvm hw hB hz1 hk1 hS => ?_)
  have c5 := hw
  obtain ⟨hP, hD⟩ := wd_post hFc ht hB
  generalize H1 = H at hP hS ⊢
  obtain rfl : f_X12_isGear S o1 x1 = r4 := c5.symm
  have i6 : (f_X12_isGear S o1 x1).toInt = 0 ∨ (0 ≤ x1.toInt ∧ x1.toInt < (S.I (S.f o1 0) 2).toInt) := by have h9 := ig_rng x1 ((hW.at h_o1 List.not_mem_nil).to_12 h_o1.2.1) hW; rw [f_of F1.1] at h9; exact h9
  refine lv_if_eq (tgt := 16) hx hb dX12_differs_5 (by decide) (fun c7 => ?_) (fun c7 => ?_)
  · have c7i : (f_X12_isGear S o1 x1).toInt = 0 := eq_v rfl rfl c7
    refine lv_aload_n hx hb dX12_differs_16 rfl (lv_at hl 0 rfl) ?_
    refine lv_iconst (v := 1) hx hb dX12_differs_17 (by decide) ?_
    have l32_1 : (1 : Int32).toInt = 1 := rfl
    have hFc := free_all hD hS hA
    obtain ⟨k8, gk8, hk8⟩ := wGt (cy := cy) X S h_o1.1 h_o1.2.1
    refine va_calli (va_runV (As := [.int (1 : Int32)]) (rest := []) ⟨hx, hb, hml, hown, hts⟩ (c_X12_refuses l (cy := cy) (X := X) (D := D) S _ o1 h_o1 (1 : Int32) (hW)) (cwV 1 hts gX12_differs_X12_refuses rfl rfl rfl hd_X12_refuses ⟨Nat.le_of_ble_eq_true rfl, Nat.le_of_ble_eq_true rfl⟩) (pV (va_recv hK hP (q := (RX12, TX12, 34)) (ci := 16) (q0 := k8) rfl hk8) hP hK hD hN) rfl rfl hl.1 rfl (lv_room (Nat.le_of_ble_eq_true rfl)) dX12_differs_18 ⟨(Nat.zero_le _), (Nat.zero_le _)⟩) hS (fun q _ h => hFc q h) hFc (fun r9 u t H1 locs ht hvm hw hB hz1 hk1 hS => ?_)
    obtain ⟨c10, w11, y12⟩ := hw
    obtain ⟨hP, hD⟩ := wd_post hFc ht hB
    generalize H1 = H at hP hS ⊢
    obtain ⟨S13, rfl⟩ : ∃ z, z = u := ⟨_, rfl⟩
    have t14 : stp [(12, 15), (17, 100)] [] [] S S13 := t0.tr w11 (by decide) (fun _ q => absurd q List.not_mem_nil)
    have xe15 : ext S S13 := w11.x
    refine W.widen (k := 0) (n := 0) (Nat.le_of_ble_eq_true rfl) (Nat.le_of_ble_eq_true rfl) ?_
    exact W.zret (v := r9) hx hb hr (y12) (fun t ht hW9 => ⟨⟨r9, S13, rfl, ⟨(by show (r9, S13) = f_X12_differs S o1 x1 x2 x3; unfold f_X12_differs; rw [if_pos c7, l2_eq c10.symm]), t14, (y12)⟩, wd_end hP hK hD ht hW9.alike⟩, hS.F ht⟩) hS.2.2 dX12_differs_21 hlocks
  · have c7i : ¬ (f_X12_isGear S o1 x1).toInt = 0 := neq_v rfl rfl c7
    refine lv_aload_n hx hb dX12_differs_8 rfl (lv_at hl 0 rfl) ?_
    refine lv_iload_n hx hb dX12_differs_9 rfl (lv_at hl 2 rfl) ?_
    have hFc := free_all hD hS hA
    obtain ⟨k16, gk16, hk16⟩ := wGt (cy := cy) X S h_o1.1 h_o1.2.1
    refine va_calli (va_runV (As := [.int x2]) (rest := []) ⟨hx, hb, hml, hown, hts⟩ (c_X12_isHob l (cy := cy) (X := X) (D := D) S _ o1 h_o1 x2 (hW)) (cwV 1 hts gX12_differs_X12_isHob rfl rfl rfl hd_X12_isHob ⟨Nat.le_of_ble_eq_true rfl, Nat.le_of_ble_eq_true rfl⟩) (pV (va_recv hK hP (q := (RX12, TX12, 34)) (ci := 16) (q0 := k16) rfl hk16) hP hK hD hN) rfl rfl hl.1 rfl (lv_room (Nat.le_of_ble_eq_true rfl)) dX12_differs_10 ⟨(Nat.zero_le _), (Nat.zero_le _)⟩) hS (fun q _ h => hFc q h) hFc (fun r17 u t H1 locs ht hvm hw hB hz1 hk1 hS => ?_)
    have c18 := hw
    obtain ⟨hP, hD⟩ := wd_post hFc ht hB
    generalize H1 = H at hP hS ⊢
    obtain rfl : f_X12_isHob S o1 x2 = r17 := c18.symm
    have i19 : (f_X12_isHob S o1 x2).toInt = 0 ∨ (0 ≤ x2.toInt ∧ x2.toInt < (S.I (S.f o1 1) 2).toInt) := by have h9 := ih_rng x2 ((hW.at h_o1 List.not_mem_nil).to_12 h_o1.2.1) hW; rw [f_of F2.1] at h9; exact h9
    refine lv_if_ne (tgt := 22) hx hb dX12_differs_13 (by decide) (fun c20 => ?_) (fun c20 => ?_)
    · have c20i : ¬ (f_X12_isHob S o1 x2).toInt = 0 := neq_v rfl rfl c20
      refine lv_iload_n hx hb dX12_differs_22 rfl (lv_at hl 3 rfl) ?_
      refine lv_i2l hx hb dX12_differs_23 rfl ?_
      refine lv_lconst (v := 0) hx hb dX12_differs_24 (by decide) ?_
      refine lv_ldc2 (own := RX12) (v := 999999) hx hb hown (hts (.constantLong RX12 306 (999999)) (by decide +kernel)) dX12_differs_25 ?_
      have hFc := free_all hD hS hA
      refine va_calli (va_runS (As := [.long x3.toInt64, .long (0 : Int64), .long (999999 : Int64)]) (rest := []) ⟨hx, hb, hml, hown, hts⟩ (c_X12_in l (cy := cy) (X := X) (D := D) S _ x3.toInt64 (0 : Int64) (999999 : Int64)) (cwS 3 hts gX12_differs_X12_in rfl rfl rfl hd_X12_in ⟨Nat.le_of_ble_eq_true rfl, Nat.le_of_ble_eq_true rfl⟩) (pS hP hK hD hN) rfl rfl hl.1 rfl (lv_room (Nat.le_of_ble_eq_true rfl)) dX12_differs_28 ⟨(Nat.zero_le _), (Nat.zero_le _)⟩) hS (fun q _ h => hFc q h) hFc (fun r21 u t H1 locs ht hvm hw hB hz1 hk1 hS => ?_)
      have c22 := hw
      obtain ⟨hP, hD⟩ := wd_post hFc ht hB
      generalize H1 = H at hP hS ⊢
      obtain rfl : f_X12_in x3.toInt64 (0 : Int64) (999999 : Int64) = r21 := c22.symm
      have i23 := i64_i x3
      have l64_0 : (0 : Int64).toInt = 0 := rfl
      have l64_999999 : (999999 : Int64).toInt = 999999 := rfl
      have i24 := in_rng x3.toInt64 (0 : Int64) (999999 : Int64)
      refine lv_if_ne (tgt := 40) hx hb dX12_differs_31 (by decide) (fun c25 => ?_) (fun c25 => ?_)
      · have c25i : ¬ (f_X12_in x3.toInt64 (0 : Int64) (999999 : Int64)).toInt = 0 := neq_v rfl rfl c25
        refine lv_aload_n hx hb dX12_differs_40 rfl (lv_at hl 0 rfl) ?_
        refine lv_iload_n hx hb dX12_differs_41 rfl (lv_at hl 1 rfl) ?_
        have hFc := free_all hD hS hA
        obtain ⟨k26, gk26, hk26⟩ := wGt (cy := cy) X S h_o1.1 h_o1.2.1
        refine va_callq (va_runV (As := [.int x1]) (rest := []) ⟨hx, hb, hml, hown, hts⟩ (c_X12_gearAt l (cy := cy) (X := X) (D := D) S _ o1 h_o1 x1 (hW) (by rw [f_of F1.1]; omega)) (cwV 1 hts gX12_differs_X12_gearAt rfl rfl rfl hd_X12_gearAt ⟨Nat.le_of_ble_eq_true rfl, Nat.le_of_ble_eq_true rfl⟩) (pV (va_recv hK hP (q := (RX12, TX12, 34)) (ci := 16) (q0 := k26) rfl hk26) hP hK hD hN) rfl rfl hl.1 rfl (lv_room (Nat.le_of_ble_eq_true rfl)) dX12_differs_42 ⟨(Nat.zero_le _), (Nat.zero_le _)⟩) hS (fun q _ h => hFc q h) hFc (fun r27 u t H1 locs ht hvm hw hB hz1 hk1 hS => ?_)
        obtain ⟨r27, rfl, c28, o29⟩ := hw
        obtain ⟨hP, hD⟩ := wd_post hFc ht hB
        generalize H1 = H at hP hS ⊢
        refine W.eq (g2 := F0 m 45 ls [.ref r27]) rfl ?_
        refine lv_astore (lv' := [(4, .ref r27), (0, .ref o1), (1, .int x1), (2, .int x2), (3, .int x3)]) hx hb dX12_differs_45 hl (by decide) rfl (fun ls hl => ?_)
        refine lv_aload hx hb dX12_differs_47 (lv_at hl 0 rfl) ?_
        obtain ⟨k30, gk30, hk30⟩ := wGt (cy := cy) X S o29.1 o29.2.1
        have i31 := ((hW.at o29 List.not_mem_nil).to_10 o29.2.1).R3
        refine va_getN (D := D) (ci := 14) (v := .int (S.I r27 3)) (C := RX10) (T := TX10) (N := 23) hx hb hts hi_X12_differs_X10 hown hK hP k30 hk30 rfl 3 (by decide) (va_Nw.use rfl (hN (.fieldLinkNest RX12 118 "HobhouseModel$Gear" "helix" "I" "HobhouseModel") (by decide +kernel))) (fun _ h9 => h9) rfl dX12_differs_49 ?_
        refine lv_if_ne (tgt := 61) hx hb dX12_differs_52 (by decide) (fun c32 => ?_) (fun c32 => ?_)
        · have c32i : ¬ (S.I r27 3).toInt = 0 := neq_v rfl rfl c32
          refine lv_aload_n hx hb dX12_differs_61 rfl (lv_at hl 1 rfl) ?_
          obtain ⟨k33, gk33, hk33⟩ := wGt (cy := cy) X S h_o1.1 h_o1.2.1
          have i34 := ((hW.at h_o1 List.not_mem_nil).to_12 h_o1.2.1).R16
          refine va_get (D := D) (ci := 16) (v := .int (S.I o1 16)) (C := RX12) (T := TX12) (N := 34) hx hb hts hi_X12_differs_X12 hown hK hP k33 hk33 rfl 16 (by decide) (hts (.fieldLink RX12 282 "HobhouseModel" "box" "I") (by decide +kernel)) (fun _ h9 => h9) rfl dX12_differs_62 ?_
          refine lv_iconst (v := 4) hx hb dX12_differs_65 (by decide) ?_
          refine lv_icmp_ge (tgt := 77) hx hb dX12_differs_66 (by decide) (fun c35 => ?_) (fun c35 => ?_)
          · have c35i : 4 ≤ (S.I o1 16).toInt := le_v rfl rfl c35
            refine lv_aload_n hx hb dX12_differs_77 rfl (lv_at hl 1 rfl) ?_
            refine lv_aload_n hx hb dX12_differs_78 rfl (lv_at hl 1 rfl) ?_
            refine lv_aload hx hb dX12_differs_79 (lv_at hl 0 rfl) ?_
            obtain ⟨k36, gk36, hk36⟩ := wGt (cy := cy) X S o29.1 o29.2.1
            refine va_getN (D := D) (ci := 14) (v := .int (S.I r27 3)) (C := RX10) (T := TX10) (N := 23) hx hb hts hi_X12_differs_X10 hown hK hP k36 hk36 rfl 3 (by decide) (va_Nw.use rfl (hN (.fieldLinkNest RX12 118 "HobhouseModel$Gear" "helix" "I" "HobhouseModel") (by decide +kernel))) (fun _ h9 => h9) rfl dX12_differs_81 ?_
            refine va_mabs hx hb (hml.trans hl.1.symm) hown (hts (.methodLink RX12 215 Lib.Math.abs.name) (by decide +kernel)) (hts (.static Lib.Math.abs.name) (by decide +kernel)) (hts (.initialized "java/lang/Math") (by decide +kernel)) (hts (.code Lib.Math.abs.name Lib.Math.abs.code 1 (some .int)) (by decide +kernel)) (Nat.le_of_ble_eq_true rfl) (Nat.le_of_ble_eq_true rfl) (Nat.zero_le _) (Nat.zero_le _) dX12_differs_84 ?_
            refine lv_i2l hx hb dX12_differs_87 rfl ?_
            refine lv_aload_n hx hb dX12_differs_88 rfl (lv_at hl 1 rfl) ?_
            obtain ⟨k37, gk37, hk37⟩ := wGt (cy := cy) X S h_o1.1 h_o1.2.1
            refine va_get (D := D) (ci := 16) (v := .int (S.I o1 17)) (C := RX12) (T := TX12) (N := 34) hx hb hts hi_X12_differs_X12 hown hK hP k37 hk37 rfl 17 (by decide) (hts (.fieldLink RX12 72 "HobhouseModel" "constant" "I") (by decide +kernel)) (fun _ h9 => h9) rfl dX12_differs_89 ?_
            refine lv_i2l hx hb dX12_differs_92 rfl ?_
            refine lv_lmul hx hb dX12_differs_93 ?_
            refine lv_aload hx hb dX12_differs_94 (lv_at hl 0 rfl) ?_
            obtain ⟨k38, gk38, hk38⟩ := wGt (cy := cy) X S o29.1 o29.2.1
            have i39 := ((hW.at o29 List.not_mem_nil).to_10 o29.2.1).R2
            refine va_getN (D := D) (ci := 14) (v := .int (S.I r27 2)) (C := RX10) (T := TX10) (N := 23) hx hb hts hi_X12_differs_X10 hown hK hP k38 hk38 rfl 2 (by decide) (va_Nw.use rfl (hN (.fieldLinkNest RX12 115 "HobhouseModel$Gear" "module" "I" "HobhouseModel") (by decide +kernel))) (fun _ h9 => h9) rfl dX12_differs_96 ?_
            refine lv_i2l hx hb dX12_differs_99 rfl ?_
            refine lv_aload_n hx hb dX12_differs_100 rfl (lv_at hl 1 rfl) ?_
            obtain ⟨k40, gk40, hk40⟩ := wGt (cy := cy) X S h_o1.1 h_o1.2.1
            simp only [kE, F2.1] at hk40
            refine va_get (D := D) (ci := 16) (v := .ref (S.f o1 1)) (C := RX12) (T := TX12) (N := 34) hx hb hts hi_X12_differs_X12 hown hK hP k40 hk40 rfl 1 (by decide) (hts (.fieldLink RX12 28 "HobhouseModel" "hobs" "Ljava/util/ArrayList;") (by decide +kernel)) (fun _ h9 => h9) rfl dX12_differs_101 ?_
            refine lv_iload_n hx hb dX12_differs_104 rfl (lv_at hl 3 rfl) ?_
            have hFc := free_all hD hS hA
            obtain ⟨k41, gk41, hk41⟩ := wGt (cy := cy) X S F2.2.1.1 F2.2.1.2.1
            refine va_callq (va_runV (As := [.int x2]) (rest := [.long ((S.I r27 2).toInt64), .long (((if 0 ≤ (S.I r27 3) then (S.I r27 3) else 0 - (S.I r27 3)).toInt64) * ((S.I o1 17).toInt64)), .ref o1, .ref o1]) ⟨hx, hb, hml, hown, hts⟩ (c_Jx4a65c_get_915e3 l (cy := cy) (X := X) (D := D) S _ (S.f o1 1) F2.2.1 x2 (hW) (by omega)) (cwV 1 hts gX12_differs_Jx4a65c_get_915e3 rfl rfl rfl hd_Jx4a65c_get_915e3 ⟨Nat.le_of_ble_eq_true rfl, Nat.le_of_ble_eq_true rfl⟩) (pV (va_recv hK hP (q := (RJx4a65c, TJx4a65c, 3)) (ci := 3) (q0 := k41) rfl hk41) hP hK hD hN) rfl rfl hl.1 rfl (lv_room (Nat.le_of_ble_eq_true rfl)) dX12_differs_105 ⟨(Nat.zero_le _), (Nat.zero_le _)⟩) hS (fun q _ h => hFc q h) hFc (fun r42 u t H1 locs ht hvm hw hB hz1 hk1 hS => ?_)
            obtain ⟨r42, rfl, c43, o44⟩ := hw
            obtain ⟨hP, hD⟩ := wd_post hFc ht hB
            generalize H1 = H at hP hS ⊢
            have o44k : isA S r42 11 := by rw [← show _ = 11 from F2.2.2]; exact o44
            refine W.eq (g2 := F0 m 108 ls [.ref r42, .long ((S.I r27 2).toInt64), .long (((if 0 ≤ (S.I r27 3) then (S.I r27 3) else 0 - (S.I r27 3)).toInt64) * ((S.I o1 17).toInt64)), .ref o1, .ref o1]) rfl ?_
            obtain ⟨k45, gk45, hk45⟩ := wGt (cy := cy) X S o44k.1 o44k.2.1
            refine va_castS (nm := "HobhouseModel$Hob") hx hb hown (hts (.classLink RX12 322 "HobhouseModel$Hob") (by decide +kernel)) (hK.1 15 _ rfl).2 (va_recv hK hP (ci := 15) (q0 := k45) rfl hk45) dX12_differs_108 ?_
            obtain ⟨k46, gk46, hk46⟩ := wGt (cy := cy) X S o44k.1 o44k.2.1
            have i47 := ((hW.at o44k List.not_mem_nil).to_11 o44k.2.1).R1
            refine va_getN (D := D) (ci := 15) (v := .int (S.I r42 1)) (C := RX11) (T := TX11) (N := 7) hx hb hts hi_X12_differs_X11 hown hK hP k46 hk46 rfl 1 (by decide) (va_Nw.use rfl (hN (.fieldLinkNest RX12 329 "HobhouseModel$Hob" "starts" "I" "HobhouseModel") (by decide +kernel))) (fun _ h9 => h9) rfl dX12_differs_111 ?_
            refine lv_i2l hx hb dX12_differs_114 rfl ?_
            refine lv_lmul hx hb dX12_differs_115 ?_
            refine lv_iload_n hx hb dX12_differs_116 rfl (lv_at hl 4 rfl) ?_
            have hFc := free_all hD hS hA
            obtain ⟨k48, gk48, hk48⟩ := wGt (cy := cy) X S h_o1.1 h_o1.2.1
            refine va_calli (va_runV (As := [.long (((if 0 ≤ (S.I r27 3) then (S.I r27 3) else 0 - (S.I r27 3)).toInt64) * ((S.I o1 17).toInt64)), .long (((S.I r27 2).toInt64) * ((S.I r42 1).toInt64)), .int x3]) (rest := [.ref o1]) ⟨hx, hb, hml, hown, hts⟩ (c_X12_isMet_q l (cy := cy) (X := X) (D := D) S _ o1 h_o1 (((if 0 ≤ (S.I r27 3) then (S.I r27 3) else 0 - (S.I r27 3)).toInt64) * ((S.I o1 17).toInt64)) (((S.I r27 2).toInt64) * ((S.I r42 1).toInt64)) x3 (hW)) (cwV 3 hts gX12_differs_X12_isMet rfl rfl rfl hd_X12_isMet ⟨Nat.le_of_ble_eq_true rfl, Nat.le_of_ble_eq_true rfl⟩) (pV (va_recv hK hP (q := (RX12, TX12, 34)) (ci := 16) (q0 := k48) rfl hk48) hP hK hD hN) rfl rfl hl.1 rfl (lv_room (Nat.le_of_ble_eq_true rfl)) dX12_differs_117 ⟨(Nat.zero_le _), (Nat.zero_le _)⟩) hS (fun q _ h => hFc q h) hFc (fun r49 u t H1 locs ht hvm hw hB hz1 hk1 hS => ?_)
            obtain ⟨c50, w51, y52⟩ := hw
            obtain ⟨hP, hD⟩ := wd_post hFc ht hB
            generalize H1 = H at hP hS ⊢
            obtain ⟨S53, rfl⟩ : ∃ z, z = u := ⟨_, rfl⟩
            have t54 : stp [(12, 15), (17, 100)] [] [] S S53 := t0.tr w51 (by decide) (fun _ q => absurd q List.not_mem_nil)
            have xe55 : ext S S53 := w51.x
            have hFc := free_all hD hS hA
            obtain ⟨k56, gk56, hk56⟩ := wGt (cy := cy) X S53 (xe55.A h_o1).1 (xe55.A h_o1).2.1
            refine va_calli (va_runV (As := [.int r49]) (rest := []) ⟨hx, hb, hml, hown, hts⟩ (c_X12_says l (cy := cy) (X := X) (D := D) S53 _ o1 (xe55.A h_o1) r49 (t54.w) (y52)) (cwV 1 hts gX12_differs_X12_says rfl rfl rfl hd_X12_says ⟨Nat.le_of_ble_eq_true rfl, Nat.le_of_ble_eq_true rfl⟩) (pV (va_recv hK hP (q := (RX12, TX12, 34)) (ci := 16) (q0 := k56) rfl hk56) hP hK hD hN) rfl rfl hl.1 rfl (lv_room (Nat.le_of_ble_eq_true rfl)) dX12_differs_120 ⟨(Nat.zero_le _), (Nat.zero_le _)⟩) hS (fun q _ h => hFc q h) hFc (fun r57 u t H1 locs ht hvm hw hB hz1 hk1 hS => ?_)
            obtain ⟨c58, w59, y60⟩ := hw
            obtain ⟨hP, hD⟩ := wd_post hFc ht hB
            generalize H1 = H at hP hS ⊢
            obtain ⟨S61, rfl⟩ : ∃ z, z = u := ⟨_, rfl⟩
            have t62 : stp [(12, 15), (17, 100)] [] [] S S61 := t54.tr w59 (by decide) (fun _ q => absurd q List.not_mem_nil)
            have xe63 : ext S53 S61 := w59.x
            refine W.widen (k := 0) (n := 0) (Nat.le_of_ble_eq_true rfl) (Nat.le_of_ble_eq_true rfl) ?_
            exact W.zret (v := r57) hx hb hr (y60) (fun t ht hW9 => ⟨⟨r57, S61, rfl, ⟨(by show (r57, S61) = f_X12_differs S o1 x1 x2 x3; unfold f_X12_differs; rw [if_neg c7, if_neg c20, if_neg c25, l1_eq c28.symm, if_neg c32, if_pos c35, l1_eq c43.symm, l2_eq c50.symm, l2_eq c58.symm]), t62, (y60)⟩, wd_end hP hK hD ht hW9.alike⟩, hS.F ht⟩) hS.2.2 dX12_differs_123 hlocks
          · have c35i : (S.I o1 16).toInt < 4 := nle_v rfl rfl c35
            refine lv_aload_n hx hb dX12_differs_69 rfl (lv_at hl 1 rfl) ?_
            refine lv_iconst (v := 4) hx hb dX12_differs_70 (by decide) ?_
            have l32_4 : (4 : Int32).toInt = 4 := rfl
            have hFc := free_all hD hS hA
            obtain ⟨k64, gk64, hk64⟩ := wGt (cy := cy) X S h_o1.1 h_o1.2.1
            refine va_calli (va_runV (As := [.int (4 : Int32)]) (rest := []) ⟨hx, hb, hml, hown, hts⟩ (c_X12_refuses l (cy := cy) (X := X) (D := D) S _ o1 h_o1 (4 : Int32) (hW)) (cwV 1 hts gX12_differs_X12_refuses rfl rfl rfl hd_X12_refuses ⟨Nat.le_of_ble_eq_true rfl, Nat.le_of_ble_eq_true rfl⟩) (pV (va_recv hK hP (q := (RX12, TX12, 34)) (ci := 16) (q0 := k64) rfl hk64) hP hK hD hN) rfl rfl hl.1 rfl (lv_room (Nat.le_of_ble_eq_true rfl)) dX12_differs_71 ⟨(Nat.zero_le _), (Nat.zero_le _)⟩) hS (fun q _ h => hFc q h) hFc (fun r65 u t H1 locs ht hvm hw hB hz1 hk1 hS => ?_)
            obtain ⟨c66, w67, y68⟩ := hw
            obtain ⟨hP, hD⟩ := wd_post hFc ht hB
            generalize H1 = H at hP hS ⊢
            obtain ⟨S69, rfl⟩ : ∃ z, z = u := ⟨_, rfl⟩
            have t70 : stp [(12, 15), (17, 100)] [] [] S S69 := t0.tr w67 (by decide) (fun _ q => absurd q List.not_mem_nil)
            have xe71 : ext S S69 := w67.x
            refine lv_goto (tgt := 123) hx hb dX12_differs_74 (by decide) ?_
            refine W.widen (k := 0) (n := 0) (Nat.le_of_ble_eq_true rfl) (Nat.le_of_ble_eq_true rfl) ?_
            exact W.zret (v := r65) hx hb hr (y68) (fun t ht hW9 => ⟨⟨r65, S69, rfl, ⟨(by show (r65, S69) = f_X12_differs S o1 x1 x2 x3; unfold f_X12_differs; rw [if_neg c7, if_neg c20, if_neg c25, l1_eq c28.symm, if_neg c32, if_neg c35, l2_eq c66.symm]), t70, (y68)⟩, wd_end hP hK hD ht hW9.alike⟩, hS.F ht⟩) hS.2.2 dX12_differs_123 hlocks
        · have c32i : (S.I r27 3).toInt = 0 := eq_v rfl rfl c32
          refine lv_aload_n hx hb dX12_differs_55 rfl (lv_at hl 1 rfl) ?_
          refine lv_iconst (v := 3) hx hb dX12_differs_56 (by decide) ?_
          have l32_3 : (3 : Int32).toInt = 3 := rfl
          have hFc := free_all hD hS hA
          obtain ⟨k72, gk72, hk72⟩ := wGt (cy := cy) X S h_o1.1 h_o1.2.1
          refine va_calli (va_runV (As := [.int (3 : Int32)]) (rest := []) ⟨hx, hb, hml, hown, hts⟩ (c_X12_refuses l (cy := cy) (X := X) (D := D) S _ o1 h_o1 (3 : Int32) (hW)) (cwV 1 hts gX12_differs_X12_refuses rfl rfl rfl hd_X12_refuses ⟨Nat.le_of_ble_eq_true rfl, Nat.le_of_ble_eq_true rfl⟩) (pV (va_recv hK hP (q := (RX12, TX12, 34)) (ci := 16) (q0 := k72) rfl hk72) hP hK hD hN) rfl rfl hl.1 rfl (lv_room (Nat.le_of_ble_eq_true rfl)) dX12_differs_57 ⟨(Nat.zero_le _), (Nat.zero_le _)⟩) hS (fun q _ h => hFc q h) hFc (fun r73 u t H1 locs ht hvm hw hB hz1 hk1 hS => ?_)
          obtain ⟨c74, w75, y76⟩ := hw
          obtain ⟨hP, hD⟩ := wd_post hFc ht hB
          generalize H1 = H at hP hS ⊢
          obtain ⟨S77, rfl⟩ : ∃ z, z = u := ⟨_, rfl⟩
          have t78 : stp [(12, 15), (17, 100)] [] [] S S77 := t0.tr w75 (by decide) (fun _ q => absurd q List.not_mem_nil)
          have xe79 : ext S S77 := w75.x
          refine W.widen (k := 0) (n := 0) (Nat.le_of_ble_eq_true rfl) (Nat.le_of_ble_eq_true rfl) ?_
          exact W.zret (v := r73) hx hb hr (y76) (fun t ht hW9 => ⟨⟨r73, S77, rfl, ⟨(by show (r73, S77) = f_X12_differs S o1 x1 x2 x3; unfold f_X12_differs; rw [if_neg c7, if_neg c20, if_neg c25, l1_eq c28.symm, if_pos c32, l2_eq c74.symm]), t78, (y76)⟩, wd_end hP hK hD ht hW9.alike⟩, hS.F ht⟩) hS.2.2 dX12_differs_60 hlocks
      · have c25i : (f_X12_in x3.toInt64 (0 : Int64) (999999 : Int64)).toInt = 0 := eq_v rfl rfl c25
        refine lv_aload_n hx hb dX12_differs_34 rfl (lv_at hl 0 rfl) ?_
        refine lv_iconst (v := 2) hx hb dX12_differs_35 (by decide) ?_
        have l32_2 : (2 : Int32).toInt = 2 := rfl
        have hFc := free_all hD hS hA
        obtain ⟨k80, gk80, hk80⟩ := wGt (cy := cy) X S h_o1.1 h_o1.2.1
        refine va_calli (va_runV (As := [.int (2 : Int32)]) (rest := []) ⟨hx, hb, hml, hown, hts⟩ (c_X12_refuses l (cy := cy) (X := X) (D := D) S _ o1 h_o1 (2 : Int32) (hW)) (cwV 1 hts gX12_differs_X12_refuses rfl rfl rfl hd_X12_refuses ⟨Nat.le_of_ble_eq_true rfl, Nat.le_of_ble_eq_true rfl⟩) (pV (va_recv hK hP (q := (RX12, TX12, 34)) (ci := 16) (q0 := k80) rfl hk80) hP hK hD hN) rfl rfl hl.1 rfl (lv_room (Nat.le_of_ble_eq_true rfl)) dX12_differs_36 ⟨(Nat.zero_le _), (Nat.zero_le _)⟩) hS (fun q _ h => hFc q h) hFc (fun r81 u t H1 locs ht hvm hw hB hz1 hk1 hS => ?_)
        obtain ⟨c82, w83, y84⟩ := hw
        obtain ⟨hP, hD⟩ := wd_post hFc ht hB
        generalize H1 = H at hP hS ⊢
        obtain ⟨S85, rfl⟩ : ∃ z, z = u := ⟨_, rfl⟩
        have t86 : stp [(12, 15), (17, 100)] [] [] S S85 := t0.tr w83 (by decide) (fun _ q => absurd q List.not_mem_nil)
        have xe87 : ext S S85 := w83.x
        refine W.widen (k := 0) (n := 0) (Nat.le_of_ble_eq_true rfl) (Nat.le_of_ble_eq_true rfl) ?_
        exact W.zret (v := r81) hx hb hr (y84) (fun t ht hW9 => ⟨⟨r81, S85, rfl, ⟨(by show (r81, S85) = f_X12_differs S o1 x1 x2 x3; unfold f_X12_differs; rw [if_neg c7, if_neg c20, if_pos c25, l2_eq c82.symm]), t86, (y84)⟩, wd_end hP hK hD ht hW9.alike⟩, hS.F ht⟩) hS.2.2 dX12_differs_39 hlocks
    · have c20i : (f_X12_isHob S o1 x2).toInt = 0 := eq_v rfl rfl c20
      refine lv_aload_n hx hb dX12_differs_16 rfl (lv_at hl 0 rfl) ?_
      refine lv_iconst (v := 1) hx hb dX12_differs_17 (by decide) ?_
      have l32_1 : (1 : Int32).toInt = 1 := rfl
      have hFc := free_all hD hS hA
      obtain ⟨k88, gk88, hk88⟩ := wGt (cy := cy) X S h_o1.1 h_o1.2.1
      refine va_calli (va_runV (As := [.int (1 : Int32)]) (rest := []) ⟨hx, hb, hml, hown, hts⟩ (c_X12_refuses l (cy := cy) (X := X) (D := D) S _ o1 h_o1 (1 : Int32) (hW)) (cwV 1 hts gX12_differs_X12_refuses rfl rfl rfl hd_X12_refuses ⟨Nat.le_of_ble_eq_true rfl, Nat.le_of_ble_eq_true rfl⟩) (pV (va_recv hK hP (q := (RX12, TX12, 34)) (ci := 16) (q0 := k88) rfl hk88) hP hK hD hN) rfl rfl hl.1 rfl (lv_room (Nat.le_of_ble_eq_true rfl)) dX12_differs_18 ⟨(Nat.zero_le _), (Nat.zero_le _)⟩) hS (fun q _ h => hFc q h) hFc (fun r89 u t H1 locs ht hvm hw hB hz1 hk1 hS => ?_)
      obtain ⟨c90, w91, y92⟩ := hw
      obtain ⟨hP, hD⟩ := wd_post hFc ht hB
      generalize H1 = H at hP hS ⊢
      obtain ⟨S93, rfl⟩ : ∃ z, z = u := ⟨_, rfl⟩
      have t94 : stp [(12, 15), (17, 100)] [] [] S S93 := t0.tr w91 (by decide) (fun _ q => absurd q List.not_mem_nil)
      have xe95 : ext S S93 := w91.x
      refine W.widen (k := 0) (n := 0) (Nat.le_of_ble_eq_true rfl) (Nat.le_of_ble_eq_true rfl) ?_
      exact W.zret (v := r89) hx hb hr (y92) (fun t ht hW9 => ⟨⟨r89, S93, rfl, ⟨(by show (r89, S93) = f_X12_differs S o1 x1 x2 x3; unfold f_X12_differs; rw [if_neg c7, if_pos c20, l2_eq c90.symm]), t94, (y92)⟩, wd_end hP hK hD ht hW9.alike⟩, hS.F ht⟩) hS.2.2 dX12_differs_21 hlocks
set_option maxHeartbeats 4000000 in
set_option maxRecDepth 100000 in
theorem c_X12_init_q (l : Launch) {e0 mi : Nat} {D : va_G} {cy : Nat → ClassId} {X : va_W} (S : wPS) (sz : Nat) (o1 : Nat) (h_o1 : isA S o1 12) (R : List Nat) (hW : wtB S (o1 :: R)) (hF0 : ∀ j, S.F o1 j = none) (hI0 : ∀ j, S.I o1 j = 0)  : Met l yX12_init wsX12_init ({ frames := 4, cells := 20, slots := 905, locals := 72 }) (va_Pc [.ref o1] (fun U => U.heap.size = sz ∧ WD D cy X (fun _ => True) S U ∧ NW U ∧ OU e0 mi (va_A (X ++ PL cy S) sz) U U.heap)) (va_Qv (fun (u : wPS) => stp ([] : List (Nat × Nat)) [o1] R S u ∧ isA u o1 12 ∧ u.I o1 15 = (0 : Int32) ∧ u.I o1 16 = (0 : Int32) ∧ u.I o1 17 = (24 : Int32) ∧ u.I o1 18 = (60 : Int32) ∧ u.I o1 19 = (0 : Int32) ∧ u.I o1 20 = (0 : Int32) ∧ u.I o1 21 = (0 : Int32) ∧ u.I o1 22 = (0 : Int32) ∧ u.I o1 23 = (0 : Int32) ∧ u.I o1 24 = (0 : Int32) ∧ u.I o1 25 = (0 : Int32) ∧ u.I o1 26 = (0 : Int32) ∧ u.F o1 77 = some e0 ∧ u.I (u.f o1 0) 2 = 0 ∧ u.I (u.f o1 1) 2 = 0 ∧ (∀ i : Nat, u.i (u.f o1 9) i = 0) ∧ (∀ i : Nat, u.i (u.f o1 10) i = 0) ∧ (∀ i : Nat, u.i (u.f o1 11) i = 0) ∧ (∀ i : Nat, u.i (u.f o1 12) i = 0) ∧ (∀ i : Nat, u.i (u.f o1 13) i = 0) ∧ (∀ i : Nat, u.i (u.f o1 14) i = 0) ∧ ¬ u.f o1 3 = u.f o1 4) (fun u t => WD D cy X (va_A (X ++ PL cy S) sz) u t) (va_A (X ++ PL cy S) sz)) 20 905 (va_A (X ++ PL cy S) sz) := by
  refine Met.ofW (cc := cX12_init) (maxL := 1) (ret := none) (by decide) rfl ?_
  intro p e s m args below meth c s₁ B hml hv
  obtain ⟨rfl, hsz, ⟨hP, hK, hD0⟩, hN, hOU⟩ := hv
  have hx := B.exec
  have hb := B.bytes
  have hr := B.returns
  have hts := atoms_spec (ws := wsX12_init) B.pre
  have hown : s.vm.findClass RX12 = some m.cls := findClass_of_methodNamed (x := yX12_init) B.named
  have hlocks := B.notSynchronized
  have hin : meth.name = "<init>" := (name_of_methodNamed B.named B.method).1
  subst hsz
  have hD := hD0.self (sz := s.heap.size)
  generalize hAe : va_A (X ++ PL cy S) s.heap.size = A at hD hOU ⊢
  have hA : ∀ q : Nat, s.heap.size ≤ q → A q := fun q h => by rw [← hAe]; exact Or.inr h
  have hS : va_S A s.heap s.heap [] := va_S.rf
  have hl := lv_entry ([.ref o1]) (n := 1) (Nat.le_of_ble_eq_true rfl)
  rw [lg_entry_eq]
  generalize (lg_sl ([.ref o1]) ++ List.replicate (1 - (lg_sl ([.ref o1])).length) Slot.unset).toArray = ls at hl ⊢
  have hl : lv_has ls 1 [(0, .ref o1)] := hl
  obtain ⟨⟨ga, gZ, gX, gl, gA⟩, ⟨sa9, sZ, sX, sl9, sA⟩, cZ, eZ, eX, el, eA, hMi, hDc, ⟨pf, pZ⟩⟩ := id hOU
  have t0 : stp ([] : List (Nat × Nat)) [o1] (o1 :: R) S S := stp.rf hW
  refine lv_aload_n hx hb dX12_init_0 rfl (lv_at hl 0 rfl) ?_
  refine W.objInit hx hb hown (hts (.methodLink RX12 15 objectInit) (by decide +kernel)) (hts (.instanceMethod objectInit) (by decide +kernel)) (hts (.code objectInit ⟨#[0xb1]⟩ 1 none) (by decide +kernel)) rfl (by rw [hml]; exact hl.1) rfl dX12_init_1 (Nat.le_of_ble_eq_true rfl) (Nat.le_of_ble_eq_true rfl) ?_
  refine W.eq (g2 := F0 m 4 ls []) rfl ?_
  have e9 := gh_PL (cy := cy) (X := X) (j := 77) (v := some e0) h_o1.2.1 (by decide)
  have hP2 := hP
  have hD2 := hD
  rw [e9] at hP2 hD2
  replace e9 := Eq.refl (X ++ PL cy (S.sF o1 77 (some e0)))
  have N0 : ∀ j9, j9 ∉ ([] : List Nat) → S.F o1 j9 = none := fun j9 _ => hF0 j9
  have Z0 : ∀ j9, j9 ∉ ([] : List Nat) → S.I o1 j9 = 0 := fun j9 _ => hI0 j9
  obtain ⟨S1, hS1⟩ : ∃ z, S.sF o1 77 (some e0) = z := ⟨_, rfl⟩
  replace hP : va_P D vwCl (X ++ PL cy S1) s.heap := by rw [← hS1, ← e9]; exact hP2
  replace hD : va_D A (X ++ PL cy S1) := by rw [← hS1, ← e9]; exact hD2
  clear hP2 hD2 e9
  have xe2 : ext S S1 := by rw [← hS1]; exact ext.sF (N0 77 (by decide))
  have t3 : stp ([] : List (Nat × Nat)) [o1] (o1 :: R) S S1 := by rw [← hS1]; exact t0.F 77 e0 List.mem_cons_self (Or.inl List.mem_cons_self) (N0 77 (by decide))
  have F4 : S1.F o1 77 = some e0 := by rw [← hS1]; exact sF_eq
  refine lv_aload_n hx hb dX12_init_4 rfl (lv_at hl 0 rfl) ?_
  refine va_new (ci := 3) (fs := [.int 0, .null, .int 0]) (C := RJx4a65c) (T := TJx4a65c) (N := 3) hx hb hts hi_X12_init_Jx4a65c tyJx4a65c tyJx4a65c_ok hown (hts (.classLink RX12 21 RJx4a65c) (by decide +kernel)) (hts (.instantiable RJx4a65c 3) (by decide +kernel)) (hts (.initialized RJx4a65c) (by decide +kernel)) hK hP hD hS hA rfl (fun j hj => by rcases (show j = 0 ∨ j = 1 ∨ j = 2 by omega) with rfl | rfl | rfl <;> rfl) (Nat.le_of_ble_eq_true rfl) (Nat.le_of_ble_eq_true rfl) dX12_init_5 (fun qa5 H hP2 hD2 hS => ?_)
  have hqa5 : qa5 ∉ S1.L := nw_q hD2
  have e9 := wNw (cy := cy) (X := X) (S := S1) (a := qa5) (k := 14) (z := 10) (f := fun _ => 0) (g := fun _ => none) hqa5 rfl
  obtain ⟨S6, hS6⟩ : ∃ z, S1.nw qa5 14 10 (fun _ => 0) (fun _ => none) = z := ⟨_, rfl⟩
  replace hP : va_P D vwCl (X ++ PL cy S6) H := by rw [← hS6, ← e9]; exact hP2
  replace hD : va_D A (X ++ PL cy S6) := by rw [← hS6, ← e9]; exact hD2
  clear hP2 hD2 e9
  have xe7 : ext S1 S6 := by rw [← hS6]; exact ext.nw hqa5
  have t8 : stp ([] : List (Nat × Nat)) [o1] (qa5 :: (o1 :: R)) S S6 := by rw [← hS6]; exact t3.nw hqa5 (Or.inl (by decide))
  refine W.widen (k := 1) (n := 3) (Nat.le_of_ble_eq_true rfl) (Nat.le_of_ble_eq_true rfl) ?_
  have aqa5 : isA S6 qa5 14 := by rw [← hS6]; exact nw_A (by decide)
  have fqa5 : ∀ j, S6.F qa5 j = none := by rw [← hS6]; exact nw_F
  have iqa5 : ∀ j, S6.I qa5 j = 0 := by rw [← hS6]; exact nw_I
  have bqa5 : qa5 ∉ S.L := fun e => hqa5 (xe2 _ e).1
  have nqa5 : S6.n qa5 = 10 := by rw [← hS6]; exact nw_n
  refine lv_dup hx hb dX12_init_8 rfl ?_
  have hFc := free_all hD hS hA
  refine va_callv (va_runI (As := []) (rest := [.ref qa5, .ref o1]) ⟨hx, hb, hml, hown, hts⟩ (c_Jx4a65c_init_da8c8 l (e0 := e0) (mi := mi) (cy := cy) (X := X) (D := D) S6 _ qa5 aqa5 (o1 :: R) (t8.w) fqa5 iqa5) (cwI 0 hts gX12_init_Jx4a65c_init_da8c8 rfl rfl rfl (hts (.initialized RJx4a65c) (by decide +kernel)) (hts (.methodLink RX12 23 yJx4a65c_init_da8c8) (by decide +kernel)) (hts (.instanceMethod yJx4a65c_init_da8c8) (by decide +kernel)) rfl (by decide +kernel) ⟨Nat.le_of_ble_eq_true rfl, Nat.le_of_ble_eq_true rfl⟩) (pSo hP hK hD hN hOU hS hFc) rfl rfl hl.1 rfl (lv_room (Nat.le_of_ble_eq_true rfl)) dX12_init_9 ⟨Nat.le_of_ble_eq_true rfl, Nat.le_of_ble_eq_true rfl⟩) hS (fun q _ h => hFc q h) hFc (fun u t H1 locs ht hvm hw hB hz1 hk1 hS => ?_)
  obtain ⟨w10, y11, y12, y13, y14⟩ := hw
  obtain ⟨hP, hD⟩ := wd_post hFc ht hB
  generalize H1 = H at hP hS ⊢
  obtain ⟨S15, rfl⟩ : ∃ z, z = u := ⟨_, rfl⟩
  have t16 : stp ([] : List (Nat × Nat)) [o1] (o1 :: R) S S15 := t8.tr w10 (by decide) (fun z q => by rw [List.mem_singleton.mp q]; exact (Or.inr bqa5))
  have xe17 : ext S6 S15 := w10.x
  have xm18 : ext S S6 := xe2.tr xe7
  have xm19 : ext S S15 := xm18.tr xe17
  have am20 : isA S15 o1 12 := xm19.A h_o1
  obtain ⟨k21, gk21, hk21⟩ := wGt (cy := cy) X S15 am20.1 am20.2.1
  refine va_putF (D := D) (ci := 16) (v := .ref qa5) (ty := (tyX12 0)) (C := RX12) (T := TX12) (N := 34) hx hb hts hi_X12_init_X12 tyX12 tyX12_ok nmX12 hown hK hP hD hS k21 hk21 rfl 0 (by decide) (hts (.fieldLink RX12 24 "HobhouseModel" "gears" "Ljava/util/ArrayList;") (by decide +kernel)) (fun _ h9 => h9) rfl hin rfl (by decide +kernel) (rfl) (rfl) (Nat.le_of_ble_eq_true rfl) dX12_init_12 (fun H locs hP2 hD2 hS => ?_)
  have e9 := wPuF (cy := cy) (j := 0) (v := (some qa5)) hD am20.1 am20.2.1 gk21 rfl
  have N22 : ∀ j9, j9 ∉ (77 :: [] : List Nat) → S1.F o1 j9 = none := by rw [← hS1]; exact fun j9 h9 => (sF_ne (fun q9 => h9 (by rw [q9.2]; exact List.mem_cons_self))).trans (N0 j9 (fun q9 => h9 (List.mem_cons_of_mem _ q9)))
  have Z23 : ∀ j9, j9 ∉ ([] : List Nat) → S1.I o1 j9 = 0 := by rw [← hS1]; exact Z0
  have am26 : isA S1 o1 12 := xe2.A h_o1
  have N24 : ∀ j9, j9 ∉ (77 :: [] : List Nat) → S6.F o1 j9 = none := by rw [← hS6]; exact fun j9 h9 => (nw_Fo hqa5 am26.1).trans (N22 j9 h9)
  have Z25 : ∀ j9, j9 ∉ ([] : List Nat) → S6.I o1 j9 = 0 := by rw [← hS6]; exact fun j9 h9 => (nw_Io hqa5 am26.1).trans (Z23 j9 h9)
  have am29 : isA S6 o1 12 := xm18.A h_o1
  have N27 : ∀ j9, j9 ∉ (77 :: [] : List Nat) → S15.F o1 j9 = none := fun j9 h9 => by rw [(w10.fR o1 am29.1 (by rw [List.mem_singleton]; exact fun e => hqa5 (e ▸ am26.1))).2.2.2.resolve_left (by rw [am29.2.1]; decide)]; exact N24 j9 h9
  have Z28 : ∀ j9, j9 ∉ ([] : List Nat) → S15.I o1 j9 = 0 := fun j9 h9 => by rw [((w10.fR o1 am29.1 (by rw [List.mem_singleton]; exact fun e => hqa5 (e ▸ am26.1))).1 j9 (by rw [am29.2.1]; intro q9; simp at q9)).1]; exact Z25 j9 h9
  obtain ⟨S30, hS30⟩ : ∃ z, S15.sF o1 0 (some qa5) = z := ⟨_, rfl⟩
  replace hP : va_P D vwCl (X ++ PL cy S30) H := by rw [← hS30, ← e9]; exact hP2
  replace hD : va_D A (X ++ PL cy S30) := by rw [← hS30, ← e9]; exact hD2
  clear hP2 hD2 e9
  have xe31 : ext S15 S30 := by rw [← hS30]; exact ext.sF (N27 0 (by decide))
  have t32 : stp ([] : List (Nat × Nat)) [o1] (o1 :: R) S S30 := by rw [← hS30]; exact t16.F 0 qa5 List.mem_cons_self (Or.inl List.mem_cons_self) (N27 0 (by decide))
  have z33 : S30.I qa5 2 = 0 := by rw [← hS30]; exact y13
  have F34 : S30.F o1 0 = some qa5 := by rw [← hS30]; exact sF_eq
  refine lv_aload_n hx hb dX12_init_15 rfl (lv_at hl 0 rfl) ?_
  refine va_new (ci := 3) (fs := [.int 0, .null, .int 0]) (C := RJx4a65c) (T := TJx4a65c) (N := 3) hx hb hts hi_X12_init_Jx4a65c tyJx4a65c tyJx4a65c_ok hown (hts (.classLink RX12 21 RJx4a65c) (by decide +kernel)) (hts (.instantiable RJx4a65c 3) (by decide +kernel)) (hts (.initialized RJx4a65c) (by decide +kernel)) hK hP hD hS hA rfl (fun j hj => by rcases (show j = 0 ∨ j = 1 ∨ j = 2 by omega) with rfl | rfl | rfl <;> rfl) (Nat.le_of_ble_eq_true rfl) (Nat.le_of_ble_eq_true rfl) dX12_init_16 (fun qa35 H hP2 hD2 hS => ?_)
  have hqa35 : qa35 ∉ S30.L := nw_q hD2
  have e9 := wNw (cy := cy) (X := X) (S := S30) (a := qa35) (k := 14) (z := 11) (f := fun _ => 0) (g := fun _ => none) hqa35 rfl
  obtain ⟨S36, hS36⟩ : ∃ z, S30.nw qa35 14 11 (fun _ => 0) (fun _ => none) = z := ⟨_, rfl⟩
  replace hP : va_P D vwCl (X ++ PL cy S36) H := by rw [← hS36, ← e9]; exact hP2
  replace hD : va_D A (X ++ PL cy S36) := by rw [← hS36, ← e9]; exact hD2
  clear hP2 hD2 e9
  have xe37 : ext S30 S36 := by rw [← hS36]; exact ext.nw hqa35
  have t38 : stp ([] : List (Nat × Nat)) [o1] (qa35 :: (o1 :: R)) S S36 := by rw [← hS36]; exact t32.nw hqa35 (Or.inl (by decide))
  have am40 : isA S30 qa5 14 := xe31.A (xe17.A aqa5)
  have z39 : S36.I qa5 2 = 0 := by rw [← hS36]; exact (nw_Io hqa35 am40.1).trans z33
  refine W.widen (k := 2) (n := 6) (Nat.le_of_ble_eq_true rfl) (Nat.le_of_ble_eq_true rfl) ?_
  have aqa35 : isA S36 qa35 14 := by rw [← hS36]; exact nw_A (by decide)
  have fqa35 : ∀ j, S36.F qa35 j = none := by rw [← hS36]; exact nw_F
  have iqa35 : ∀ j, S36.I qa35 j = 0 := by rw [← hS36]; exact nw_I
  have xm41 : ext S S30 := xm19.tr xe31
  have bqa35 : qa35 ∉ S.L := fun e => hqa35 (xm41 _ e).1
  have nqa35 : S36.n qa35 = 11 := by rw [← hS36]; exact nw_n
  refine lv_dup hx hb dX12_init_19 rfl ?_
  have hFc := free_all hD hS hA
  refine va_callv (va_runI (As := []) (rest := [.ref qa35, .ref o1]) ⟨hx, hb, hml, hown, hts⟩ (c_Jx4a65c_init_da8c8 l (e0 := e0) (mi := mi) (cy := cy) (X := X) (D := D) S36 _ qa35 aqa35 (o1 :: R) (t38.w) fqa35 iqa35) (cwI 0 hts gX12_init_Jx4a65c_init_da8c8 rfl rfl rfl (hts (.initialized RJx4a65c) (by decide +kernel)) (hts (.methodLink RX12 23 yJx4a65c_init_da8c8) (by decide +kernel)) (hts (.instanceMethod yJx4a65c_init_da8c8) (by decide +kernel)) rfl (by decide +kernel) ⟨Nat.le_of_ble_eq_true rfl, Nat.le_of_ble_eq_true rfl⟩) (pSo hP hK hD hN hOU hS hFc) rfl rfl hl.1 rfl (lv_room (Nat.le_of_ble_eq_true rfl)) dX12_init_20 ⟨Nat.le_of_ble_eq_true rfl, Nat.le_of_ble_eq_true rfl⟩) hS (fun q _ h => hFc q h) hFc (fun u t H1 locs ht hvm hw hB hz1 hk1 hS => ?_)
  obtain ⟨w43, y44, y45, y46, y47⟩ := hw
  obtain ⟨hP, hD⟩ := wd_post hFc ht hB
  generalize H1 = H at hP hS ⊢
  obtain ⟨S48, rfl⟩ : ∃ z, z = u := ⟨_, rfl⟩
  have t49 : stp ([] : List (Nat × Nat)) [o1] (o1 :: R) S S48 := t38.tr w43 (by decide) (fun z q => by rw [List.mem_singleton.mp q]; exact (Or.inr bqa35))
  have xe50 : ext S36 S48 := w43.x
  have xm52 : ext S15 S36 := xe31.tr xe37
  have am53 : isA S36 qa5 14 := xm52.A (xe17.A aqa5)
  have z51 : S48.I qa5 2 = 0 := by rw [(w43.fR qa5 am53.1 (by rw [List.mem_singleton]; exact fun e => hqa35 (e ▸ am40.1))).1 2 (by rw [am53.2.1]; decide) |>.1]; exact z39
  have xm54 : ext S S36 := xm41.tr xe37
  have xm55 : ext S S48 := xm54.tr xe50
  have am56 : isA S48 o1 12 := xm55.A h_o1
  obtain ⟨k57, gk57, hk57⟩ := wGt (cy := cy) X S48 am56.1 am56.2.1
  refine va_putF (D := D) (ci := 16) (v := .ref qa35) (ty := (tyX12 1)) (C := RX12) (T := TX12) (N := 34) hx hb hts hi_X12_init_X12 tyX12 tyX12_ok nmX12 hown hK hP hD hS k57 hk57 rfl 1 (by decide) (hts (.fieldLink RX12 28 "HobhouseModel" "hobs" "Ljava/util/ArrayList;") (by decide +kernel)) (fun _ h9 => h9) rfl hin rfl (by decide +kernel) (rfl) (rfl) (Nat.le_of_ble_eq_true rfl) dX12_init_23 (fun H locs hP2 hD2 hS => ?_)
  have e9 := wPuF (cy := cy) (j := 1) (v := (some qa35)) hD am56.1 am56.2.1 gk57 rfl
  have N58 : ∀ j9, j9 ∉ (0 :: 77 :: [] : List Nat) → S30.F o1 j9 = none := by rw [← hS30]; exact fun j9 h9 => (sF_ne (fun q9 => h9 (by rw [q9.2]; exact List.mem_cons_self))).trans (N27 j9 (fun q9 => h9 (List.mem_cons_of_mem _ q9)))
  have Z59 : ∀ j9, j9 ∉ ([] : List Nat) → S30.I o1 j9 = 0 := by rw [← hS30]; exact Z28
  have am62 : isA S30 o1 12 := xm41.A h_o1
  have N60 : ∀ j9, j9 ∉ (0 :: 77 :: [] : List Nat) → S36.F o1 j9 = none := by rw [← hS36]; exact fun j9 h9 => (nw_Fo hqa35 am62.1).trans (N58 j9 h9)
  have Z61 : ∀ j9, j9 ∉ ([] : List Nat) → S36.I o1 j9 = 0 := by rw [← hS36]; exact fun j9 h9 => (nw_Io hqa35 am62.1).trans (Z59 j9 h9)
  have am65 : isA S36 o1 12 := xm54.A h_o1
  have N63 : ∀ j9, j9 ∉ (0 :: 77 :: [] : List Nat) → S48.F o1 j9 = none := fun j9 h9 => by rw [(w43.fR o1 am65.1 (by rw [List.mem_singleton]; exact fun e => hqa35 (e ▸ am62.1))).2.2.2.resolve_left (by rw [am65.2.1]; decide)]; exact N60 j9 h9
  have Z64 : ∀ j9, j9 ∉ ([] : List Nat) → S48.I o1 j9 = 0 := fun j9 h9 => by rw [((w43.fR o1 am65.1 (by rw [List.mem_singleton]; exact fun e => hqa35 (e ▸ am62.1))).1 j9 (by rw [am65.2.1]; intro q9; simp at q9)).1]; exact Z61 j9 h9
  obtain ⟨S66, hS66⟩ : ∃ z, S48.sF o1 1 (some qa35) = z := ⟨_, rfl⟩
  replace hP : va_P D vwCl (X ++ PL cy S66) H := by rw [← hS66, ← e9]; exact hP2
  replace hD : va_D A (X ++ PL cy S66) := by rw [← hS66, ← e9]; exact hD2
  clear hP2 hD2 e9
  have xe67 : ext S48 S66 := by rw [← hS66]; exact ext.sF (N63 1 (by decide))
  have t68 : stp ([] : List (Nat × Nat)) [o1] (o1 :: R) S S66 := by rw [← hS66]; exact t49.F 1 qa35 List.mem_cons_self (Or.inl List.mem_cons_self) (N63 1 (by decide))
  have z69 : S66.I qa5 2 = 0 := by rw [← hS66]; exact z51
  have z70 : S66.I qa35 2 = 0 := by rw [← hS66]; exact y46
  have F71 : S66.F o1 1 = some qa35 := by rw [← hS66]; exact sF_eq
  refine lv_aload_n hx hb dX12_init_26 rfl (lv_at hl 0 rfl) ?_
  refine lv_bipush (v := 16) hx hb dX12_init_27 (by decide +kernel) ?_
  refine va_newa (atype := .int) hx hb (hts (.arrayClass .int) (by decide +kernel)) (ty := .int) rfl hK hP hD hS hA (N' := 16) (a0 := (16, .inl (fun _ => 0))) (fun _ => rfl) (by decide) (by decide) (by decide) (Nat.le_of_ble_eq_true rfl) (Nat.le_of_ble_eq_true rfl) dX12_init_29 (fun qa72 cqa72 H hK2 hP2 hD2 hS => ?_)
  obtain rfl : cqa72 = cy 2 := cls_int hK hK2
  have hqa72 : qa72 ∉ S66.L := nw_q hD2
  have e9 := wNw (cy := cy) (X := X) (S := S66) (a := qa72) (k := 31) (z := 16) (f := fun _ => 0) (g := fun _ => none) hqa72 rfl
  obtain ⟨S73, hS73⟩ : ∃ z, S66.nw qa72 31 16 (fun _ => 0) (fun _ => none) = z := ⟨_, rfl⟩
  replace hP : va_P D vwCl (X ++ PL cy S73) H := by rw [← hS73, ← e9]; exact hP2
  replace hD : va_D A (X ++ PL cy S73) := by rw [← hS73, ← e9]; exact hD2
  clear hP2 hD2 e9
  have xe74 : ext S66 S73 := by rw [← hS73]; exact ext.nw hqa72
  have t75 : stp ([] : List (Nat × Nat)) [o1] (o1 :: R) S S73 := by rw [← hS73]; exact t68.nwA hqa72 (by decide)
  have xm77 : ext S15 S48 := xm52.tr xe50
  have xm78 : ext S15 S66 := xm77.tr xe67
  have am79 : isA S66 qa5 14 := xm78.A (xe17.A aqa5)
  have z76 : S73.I qa5 2 = 0 := by rw [← hS73]; exact (nw_Io hqa72 am79.1).trans z69
  have am81 : isA S66 qa35 14 := xe67.A (xe50.A aqa35)
  have z80 : S73.I qa35 2 = 0 := by rw [← hS73]; exact (nw_Io hqa72 am81.1).trans z70
  refine W.widen (k := 3) (n := 22) (Nat.le_of_ble_eq_true rfl) (Nat.le_of_ble_eq_true rfl) ?_
  have aqa72 : isA S73 qa72 31 := by rw [← hS73]; exact nw_A (by decide)
  have nqa72 : S73.n qa72 = 16 := by rw [← hS73]; exact nw_n
  have xm82 : ext S S66 := xm55.tr xe67
  have xm83 : ext S S73 := xm82.tr xe74
  have am84 : isA S73 o1 12 := xm83.A h_o1
  obtain ⟨k85, gk85, hk85⟩ := wGt (cy := cy) X S73 am84.1 am84.2.1
  refine va_putF (D := D) (ci := 16) (v := .ref qa72) (ty := (tyX12 2)) (C := RX12) (T := TX12) (N := 34) hx hb hts hi_X12_init_X12 tyX12 tyX12_ok nmX12 hown hK hP hD hS k85 hk85 rfl 2 (by decide) (hts (.fieldLink RX12 31 "HobhouseModel" "wheels" "[I") (by decide +kernel)) (fun _ h9 => h9) rfl hin rfl (by decide +kernel) (rfl) (rfl) (Nat.le_of_ble_eq_true rfl) dX12_init_31 (fun H locs hP2 hD2 hS => ?_)
  have e9 := wPuF (cy := cy) (j := 2) (v := (some qa72)) hD am84.1 am84.2.1 gk85 rfl
  have N86 : ∀ j9, j9 ∉ (1 :: 0 :: 77 :: [] : List Nat) → S66.F o1 j9 = none := by rw [← hS66]; exact fun j9 h9 => (sF_ne (fun q9 => h9 (by rw [q9.2]; exact List.mem_cons_self))).trans (N63 j9 (fun q9 => h9 (List.mem_cons_of_mem _ q9)))
  have Z87 : ∀ j9, j9 ∉ ([] : List Nat) → S66.I o1 j9 = 0 := by rw [← hS66]; exact Z64
  have am90 : isA S66 o1 12 := xm82.A h_o1
  have N88 : ∀ j9, j9 ∉ (1 :: 0 :: 77 :: [] : List Nat) → S73.F o1 j9 = none := by rw [← hS73]; exact fun j9 h9 => (nw_Fo hqa72 am90.1).trans (N86 j9 h9)
  have Z89 : ∀ j9, j9 ∉ ([] : List Nat) → S73.I o1 j9 = 0 := by rw [← hS73]; exact fun j9 h9 => (nw_Io hqa72 am90.1).trans (Z87 j9 h9)
  obtain ⟨S91, hS91⟩ : ∃ z, S73.sF o1 2 (some qa72) = z := ⟨_, rfl⟩
  replace hP : va_P D vwCl (X ++ PL cy S91) H := by rw [← hS91, ← e9]; exact hP2
  replace hD : va_D A (X ++ PL cy S91) := by rw [← hS91, ← e9]; exact hD2
  clear hP2 hD2 e9
  have xe92 : ext S73 S91 := by rw [← hS91]; exact ext.sF (N88 2 (by decide))
  have t93 : stp ([] : List (Nat × Nat)) [o1] (o1 :: R) S S91 := by rw [← hS91]; exact t75.F 2 qa72 List.mem_cons_self (Or.inl List.mem_cons_self) (N88 2 (by decide))
  have z94 : S91.I qa5 2 = 0 := by rw [← hS91]; exact z76
  have z95 : S91.I qa35 2 = 0 := by rw [← hS91]; exact z80
  have F96 : S91.F o1 2 = some qa72 := by rw [← hS91]; exact sF_eq
  refine lv_aload_n hx hb dX12_init_34 rfl (lv_at hl 0 rfl) ?_
  refine lv_iconst (v := 4) hx hb dX12_init_35 (by decide) ?_
  refine va_newa (atype := .int) hx hb (hts (.arrayClass .int) (by decide +kernel)) (ty := .int) rfl hK hP hD hS hA (N' := 4) (a0 := (4, .inl (fun _ => 0))) (fun _ => rfl) (by decide) (by decide) (by decide) (Nat.le_of_ble_eq_true rfl) (Nat.le_of_ble_eq_true rfl) dX12_init_36 (fun qa97 cqa97 H hK2 hP2 hD2 hS => ?_)
  obtain rfl : cqa97 = cy 2 := cls_int hK hK2
  have hqa97 : qa97 ∉ S91.L := nw_q hD2
  have e9 := wNw (cy := cy) (X := X) (S := S91) (a := qa97) (k := 17) (z := 4) (f := fun _ => 0) (g := fun _ => none) hqa97 rfl
  obtain ⟨S98, hS98⟩ : ∃ z, S91.nw qa97 17 4 (fun _ => 0) (fun _ => none) = z := ⟨_, rfl⟩
  replace hP : va_P D vwCl (X ++ PL cy S98) H := by rw [← hS98, ← e9]; exact hP2
  replace hD : va_D A (X ++ PL cy S98) := by rw [← hS98, ← e9]; exact hD2
  clear hP2 hD2 e9
  have xe99 : ext S91 S98 := by rw [← hS98]; exact ext.nw hqa97
  have t100 : stp ([] : List (Nat × Nat)) [o1] (o1 :: R) S S98 := by rw [← hS98]; exact t93.nwA hqa97 (by decide)
  have xm102 : ext S15 S73 := xm78.tr xe74
  have xm103 : ext S15 S91 := xm102.tr xe92
  have am104 : isA S91 qa5 14 := xm103.A (xe17.A aqa5)
  have z101 : S98.I qa5 2 = 0 := by rw [← hS98]; exact (nw_Io hqa97 am104.1).trans z94
  have xm106 : ext S48 S73 := xe67.tr xe74
  have xm107 : ext S48 S91 := xm106.tr xe92
  have am108 : isA S91 qa35 14 := xm107.A (xe50.A aqa35)
  have z105 : S98.I qa35 2 = 0 := by rw [← hS98]; exact (nw_Io hqa97 am108.1).trans z95
  refine W.widen (k := 4) (n := 26) (Nat.le_of_ble_eq_true rfl) (Nat.le_of_ble_eq_true rfl) ?_
  have aqa97 : isA S98 qa97 17 := by rw [← hS98]; exact nw_A (by decide)
  have nqa97 : S98.n qa97 = 4 := by rw [← hS98]; exact nw_n
  have xm109 : ext S S91 := xm83.tr xe92
  have xm110 : ext S S98 := xm109.tr xe99
  have am111 : isA S98 o1 12 := xm110.A h_o1
  obtain ⟨k112, gk112, hk112⟩ := wGt (cy := cy) X S98 am111.1 am111.2.1
  refine va_putF (D := D) (ci := 16) (v := .ref qa97) (ty := (tyX12 3)) (C := RX12) (T := TX12) (N := 34) hx hb hts hi_X12_init_X12 tyX12 tyX12_ok nmX12 hown hK hP hD hS k112 hk112 rfl 3 (by decide) (hts (.fieldLink RX12 35 "HobhouseModel" "four" "[I") (by decide +kernel)) (fun _ h9 => h9) rfl hin rfl (by decide +kernel) (rfl) (rfl) (Nat.le_of_ble_eq_true rfl) dX12_init_38 (fun H locs hP2 hD2 hS => ?_)
  have e9 := wPuF (cy := cy) (j := 3) (v := (some qa97)) hD am111.1 am111.2.1 gk112 rfl
  have N113 : ∀ j9, j9 ∉ (2 :: 1 :: 0 :: 77 :: [] : List Nat) → S91.F o1 j9 = none := by rw [← hS91]; exact fun j9 h9 => (sF_ne (fun q9 => h9 (by rw [q9.2]; exact List.mem_cons_self))).trans (N88 j9 (fun q9 => h9 (List.mem_cons_of_mem _ q9)))
  have Z114 : ∀ j9, j9 ∉ ([] : List Nat) → S91.I o1 j9 = 0 := by rw [← hS91]; exact Z89
  have am117 : isA S91 o1 12 := xm109.A h_o1
  have N115 : ∀ j9, j9 ∉ (2 :: 1 :: 0 :: 77 :: [] : List Nat) → S98.F o1 j9 = none := by rw [← hS98]; exact fun j9 h9 => (nw_Fo hqa97 am117.1).trans (N113 j9 h9)
  have Z116 : ∀ j9, j9 ∉ ([] : List Nat) → S98.I o1 j9 = 0 := by rw [← hS98]; exact fun j9 h9 => (nw_Io hqa97 am117.1).trans (Z114 j9 h9)
  obtain ⟨S118, hS118⟩ : ∃ z, S98.sF o1 3 (some qa97) = z := ⟨_, rfl⟩
  replace hP : va_P D vwCl (X ++ PL cy S118) H := by rw [← hS118, ← e9]; exact hP2
  replace hD : va_D A (X ++ PL cy S118) := by rw [← hS118, ← e9]; exact hD2
  clear hP2 hD2 e9
  have xe119 : ext S98 S118 := by rw [← hS118]; exact ext.sF (N115 3 (by decide))
  have t120 : stp ([] : List (Nat × Nat)) [o1] (o1 :: R) S S118 := by rw [← hS118]; exact t100.F 3 qa97 List.mem_cons_self (Or.inl List.mem_cons_self) (N115 3 (by decide))
  have z121 : S118.I qa5 2 = 0 := by rw [← hS118]; exact z101
  have z122 : S118.I qa35 2 = 0 := by rw [← hS118]; exact z105
  have F123 : S118.F o1 3 = some qa97 := by rw [← hS118]; exact sF_eq
  refine lv_aload_n hx hb dX12_init_41 rfl (lv_at hl 0 rfl) ?_
  refine lv_iconst (v := 4) hx hb dX12_init_42 (by decide) ?_
  refine va_newa (atype := .int) hx hb (hts (.arrayClass .int) (by decide +kernel)) (ty := .int) rfl hK hP hD hS hA (N' := 4) (a0 := (4, .inl (fun _ => 0))) (fun _ => rfl) (by decide) (by decide) (by decide) (Nat.le_of_ble_eq_true rfl) (Nat.le_of_ble_eq_true rfl) dX12_init_43 (fun qa124 cqa124 H hK2 hP2 hD2 hS => ?_)
  obtain rfl : cqa124 = cy 2 := cls_int hK hK2
  have hqa124 : qa124 ∉ S118.L := nw_q hD2
  have e9 := wNw (cy := cy) (X := X) (S := S118) (a := qa124) (k := 17) (z := 4) (f := fun _ => 0) (g := fun _ => none) hqa124 rfl
  obtain ⟨S125, hS125⟩ : ∃ z, S118.nw qa124 17 4 (fun _ => 0) (fun _ => none) = z := ⟨_, rfl⟩
  replace hP : va_P D vwCl (X ++ PL cy S125) H := by rw [← hS125, ← e9]; exact hP2
  replace hD : va_D A (X ++ PL cy S125) := by rw [← hS125, ← e9]; exact hD2
  clear hP2 hD2 e9
  have xe126 : ext S118 S125 := by rw [← hS125]; exact ext.nw hqa124
  have t127 : stp ([] : List (Nat × Nat)) [o1] (o1 :: R) S S125 := by rw [← hS125]; exact t120.nwA hqa124 (by decide)
  have xm129 : ext S15 S98 := xm103.tr xe99
  have xm130 : ext S15 S118 := xm129.tr xe119
  have am131 : isA S118 qa5 14 := xm130.A (xe17.A aqa5)
  have z128 : S125.I qa5 2 = 0 := by rw [← hS125]; exact (nw_Io hqa124 am131.1).trans z121
  have xm133 : ext S48 S98 := xm107.tr xe99
  have xm134 : ext S48 S118 := xm133.tr xe119
  have am135 : isA S118 qa35 14 := xm134.A (xe50.A aqa35)
  have z132 : S125.I qa35 2 = 0 := by rw [← hS125]; exact (nw_Io hqa124 am135.1).trans z122
  refine W.widen (k := 5) (n := 30) (Nat.le_of_ble_eq_true rfl) (Nat.le_of_ble_eq_true rfl) ?_
  have aqa124 : isA S125 qa124 17 := by rw [← hS125]; exact nw_A (by decide)
  have nqa124 : S125.n qa124 = 4 := by rw [← hS125]; exact nw_n
  have xm136 : ext S S118 := xm110.tr xe119
  have xm137 : ext S S125 := xm136.tr xe126
  have am138 : isA S125 o1 12 := xm137.A h_o1
  obtain ⟨k139, gk139, hk139⟩ := wGt (cy := cy) X S125 am138.1 am138.2.1
  refine va_putF (D := D) (ci := 16) (v := .ref qa124) (ty := (tyX12 4)) (C := RX12) (T := TX12) (N := 34) hx hb hts hi_X12_init_X12 tyX12 tyX12_ok nmX12 hown hK hP hD hS k139 hk139 rfl 4 (by decide) (hts (.fieldLink RX12 38 "HobhouseModel" "trial" "[I") (by decide +kernel)) (fun _ h9 => h9) rfl hin rfl (by decide +kernel) (rfl) (rfl) (Nat.le_of_ble_eq_true rfl) dX12_init_45 (fun H locs hP2 hD2 hS => ?_)
  have e9 := wPuF (cy := cy) (j := 4) (v := (some qa124)) hD am138.1 am138.2.1 gk139 rfl
  have N140 : ∀ j9, j9 ∉ (3 :: 2 :: 1 :: 0 :: 77 :: [] : List Nat) → S118.F o1 j9 = none := by rw [← hS118]; exact fun j9 h9 => (sF_ne (fun q9 => h9 (by rw [q9.2]; exact List.mem_cons_self))).trans (N115 j9 (fun q9 => h9 (List.mem_cons_of_mem _ q9)))
  have Z141 : ∀ j9, j9 ∉ ([] : List Nat) → S118.I o1 j9 = 0 := by rw [← hS118]; exact Z116
  have am144 : isA S118 o1 12 := xm136.A h_o1
  have N142 : ∀ j9, j9 ∉ (3 :: 2 :: 1 :: 0 :: 77 :: [] : List Nat) → S125.F o1 j9 = none := by rw [← hS125]; exact fun j9 h9 => (nw_Fo hqa124 am144.1).trans (N140 j9 h9)
  have Z143 : ∀ j9, j9 ∉ ([] : List Nat) → S125.I o1 j9 = 0 := by rw [← hS125]; exact fun j9 h9 => (nw_Io hqa124 am144.1).trans (Z141 j9 h9)
  obtain ⟨S145, hS145⟩ : ∃ z, S125.sF o1 4 (some qa124) = z := ⟨_, rfl⟩
  replace hP : va_P D vwCl (X ++ PL cy S145) H := by rw [← hS145, ← e9]; exact hP2
  replace hD : va_D A (X ++ PL cy S145) := by rw [← hS145, ← e9]; exact hD2
  clear hP2 hD2 e9
  have xe146 : ext S125 S145 := by rw [← hS145]; exact ext.sF (N142 4 (by decide))
  have t147 : stp ([] : List (Nat × Nat)) [o1] (o1 :: R) S S145 := by rw [← hS145]; exact t127.F 4 qa124 List.mem_cons_self (Or.inl List.mem_cons_self) (N142 4 (by decide))
  have z148 : S145.I qa5 2 = 0 := by rw [← hS145]; exact z128
  have z149 : S145.I qa35 2 = 0 := by rw [← hS145]; exact z132
  have F150 : S145.F o1 4 = some qa124 := by rw [← hS145]; exact sF_eq
  refine lv_aload_n hx hb dX12_init_48 rfl (lv_at hl 0 rfl) ?_
  refine lv_bipush (v := 6) hx hb dX12_init_49 (by decide +kernel) ?_
  refine va_newa (atype := .char) hx hb (hts (.arrayClass .char) (by decide +kernel)) (ty := .char) rfl hK hP hD hS hA (N' := 6) (a0 := (6, .inl (fun _ => 0))) (fun _ => rfl) (by decide) (by decide) (by decide) (Nat.le_of_ble_eq_true rfl) (Nat.le_of_ble_eq_true rfl) dX12_init_51 (fun qa151 cqa151 H hK2 hP2 hD2 hS => ?_)
  obtain rfl : cqa151 = cy 1 := cls_char hK hK2
  have hqa151 : qa151 ∉ S145.L := nw_q hD2
  have e9 := wNw (cy := cy) (X := X) (S := S145) (a := qa151) (k := 38) (z := 6) (f := fun _ => 0) (g := fun _ => none) hqa151 rfl
  obtain ⟨S152, hS152⟩ : ∃ z, S145.nw qa151 38 6 (fun _ => 0) (fun _ => none) = z := ⟨_, rfl⟩
  replace hP : va_P D vwCl (X ++ PL cy S152) H := by rw [← hS152, ← e9]; exact hP2
  replace hD : va_D A (X ++ PL cy S152) := by rw [← hS152, ← e9]; exact hD2
  clear hP2 hD2 e9
  have xe153 : ext S145 S152 := by rw [← hS152]; exact ext.nw hqa151
  have t154 : stp ([] : List (Nat × Nat)) [o1] (o1 :: R) S S152 := by rw [← hS152]; exact t147.nwA hqa151 (by decide)
  have xm156 : ext S15 S125 := xm130.tr xe126
  have xm157 : ext S15 S145 := xm156.tr xe146
  have am158 : isA S145 qa5 14 := xm157.A (xe17.A aqa5)
  have z155 : S152.I qa5 2 = 0 := by rw [← hS152]; exact (nw_Io hqa151 am158.1).trans z148
  have xm160 : ext S48 S125 := xm134.tr xe126
  have xm161 : ext S48 S145 := xm160.tr xe146
  have am162 : isA S145 qa35 14 := xm161.A (xe50.A aqa35)
  have z159 : S152.I qa35 2 = 0 := by rw [← hS152]; exact (nw_Io hqa151 am162.1).trans z149
  refine W.widen (k := 6) (n := 36) (Nat.le_of_ble_eq_true rfl) (Nat.le_of_ble_eq_true rfl) ?_
  have aqa151 : isA S152 qa151 38 := by rw [← hS152]; exact nw_A (by decide)
  have nqa151 : S152.n qa151 = 6 := by rw [← hS152]; exact nw_n
  have xm163 : ext S S145 := xm137.tr xe146
  have xm164 : ext S S152 := xm163.tr xe153
  have am165 : isA S152 o1 12 := xm164.A h_o1
  obtain ⟨k166, gk166, hk166⟩ := wGt (cy := cy) X S152 am165.1 am165.2.1
  refine va_putF (D := D) (ci := 16) (v := .ref qa151) (ty := (tyX12 5)) (C := RX12) (T := TX12) (N := 34) hx hb hts hi_X12_init_X12 tyX12 tyX12_ok nmX12 hown hK hP hD hS k166 hk166 rfl 5 (by decide) (hts (.fieldLink RX12 41 "HobhouseModel" "kinds" "[C") (by decide +kernel)) (fun _ h9 => h9) rfl hin rfl (by decide +kernel) (rfl) (rfl) (Nat.le_of_ble_eq_true rfl) dX12_init_53 (fun H locs hP2 hD2 hS => ?_)
  have e9 := wPuF (cy := cy) (j := 5) (v := (some qa151)) hD am165.1 am165.2.1 gk166 rfl
  have N167 : ∀ j9, j9 ∉ (4 :: 3 :: 2 :: 1 :: 0 :: 77 :: [] : List Nat) → S145.F o1 j9 = none := by rw [← hS145]; exact fun j9 h9 => (sF_ne (fun q9 => h9 (by rw [q9.2]; exact List.mem_cons_self))).trans (N142 j9 (fun q9 => h9 (List.mem_cons_of_mem _ q9)))
  have Z168 : ∀ j9, j9 ∉ ([] : List Nat) → S145.I o1 j9 = 0 := by rw [← hS145]; exact Z143
  have am171 : isA S145 o1 12 := xm163.A h_o1
  have N169 : ∀ j9, j9 ∉ (4 :: 3 :: 2 :: 1 :: 0 :: 77 :: [] : List Nat) → S152.F o1 j9 = none := by rw [← hS152]; exact fun j9 h9 => (nw_Fo hqa151 am171.1).trans (N167 j9 h9)
  have Z170 : ∀ j9, j9 ∉ ([] : List Nat) → S152.I o1 j9 = 0 := by rw [← hS152]; exact fun j9 h9 => (nw_Io hqa151 am171.1).trans (Z168 j9 h9)
  obtain ⟨S172, hS172⟩ : ∃ z, S152.sF o1 5 (some qa151) = z := ⟨_, rfl⟩
  replace hP : va_P D vwCl (X ++ PL cy S172) H := by rw [← hS172, ← e9]; exact hP2
  replace hD : va_D A (X ++ PL cy S172) := by rw [← hS172, ← e9]; exact hD2
  clear hP2 hD2 e9
  have xe173 : ext S152 S172 := by rw [← hS172]; exact ext.sF (N169 5 (by decide))
  have t174 : stp ([] : List (Nat × Nat)) [o1] (o1 :: R) S S172 := by rw [← hS172]; exact t154.F 5 qa151 List.mem_cons_self (Or.inl List.mem_cons_self) (N169 5 (by decide))
  have z175 : S172.I qa5 2 = 0 := by rw [← hS172]; exact z155
  have z176 : S172.I qa35 2 = 0 := by rw [← hS172]; exact z159
  have F177 : S172.F o1 5 = some qa151 := by rw [← hS172]; exact sF_eq
  refine lv_aload_n hx hb dX12_init_56 rfl (lv_at hl 0 rfl) ?_
  refine lv_bipush (v := 6) hx hb dX12_init_57 (by decide +kernel) ?_
  refine va_newa (atype := .int) hx hb (hts (.arrayClass .int) (by decide +kernel)) (ty := .int) rfl hK hP hD hS hA (N' := 6) (a0 := (6, .inl (fun _ => 0))) (fun _ => rfl) (by decide) (by decide) (by decide) (Nat.le_of_ble_eq_true rfl) (Nat.le_of_ble_eq_true rfl) dX12_init_59 (fun qa178 cqa178 H hK2 hP2 hD2 hS => ?_)
  obtain rfl : cqa178 = cy 2 := cls_int hK hK2
  have hqa178 : qa178 ∉ S172.L := nw_q hD2
  have e9 := wNw (cy := cy) (X := X) (S := S172) (a := qa178) (k := 34) (z := 6) (f := fun _ => 0) (g := fun _ => none) hqa178 rfl
  obtain ⟨S179, hS179⟩ : ∃ z, S172.nw qa178 34 6 (fun _ => 0) (fun _ => none) = z := ⟨_, rfl⟩
  replace hP : va_P D vwCl (X ++ PL cy S179) H := by rw [← hS179, ← e9]; exact hP2
  replace hD : va_D A (X ++ PL cy S179) := by rw [← hS179, ← e9]; exact hD2
  clear hP2 hD2 e9
  have xe180 : ext S172 S179 := by rw [← hS179]; exact ext.nw hqa178
  have t181 : stp ([] : List (Nat × Nat)) [o1] (o1 :: R) S S179 := by rw [← hS179]; exact t174.nwA hqa178 (by decide)
  have xm183 : ext S15 S152 := xm157.tr xe153
  have xm184 : ext S15 S172 := xm183.tr xe173
  have am185 : isA S172 qa5 14 := xm184.A (xe17.A aqa5)
  have z182 : S179.I qa5 2 = 0 := by rw [← hS179]; exact (nw_Io hqa178 am185.1).trans z175
  have xm187 : ext S48 S152 := xm161.tr xe153
  have xm188 : ext S48 S172 := xm187.tr xe173
  have am189 : isA S172 qa35 14 := xm188.A (xe50.A aqa35)
  have z186 : S179.I qa35 2 = 0 := by rw [← hS179]; exact (nw_Io hqa178 am189.1).trans z176
  refine W.widen (k := 7) (n := 42) (Nat.le_of_ble_eq_true rfl) (Nat.le_of_ble_eq_true rfl) ?_
  have aqa178 : isA S179 qa178 34 := by rw [← hS179]; exact nw_A (by decide)
  have nqa178 : S179.n qa178 = 6 := by rw [← hS179]; exact nw_n
  have xm190 : ext S S172 := xm164.tr xe173
  have xm191 : ext S S179 := xm190.tr xe180
  have am192 : isA S179 o1 12 := xm191.A h_o1
  obtain ⟨k193, gk193, hk193⟩ := wGt (cy := cy) X S179 am192.1 am192.2.1
  refine va_putF (D := D) (ci := 16) (v := .ref qa178) (ty := (tyX12 6)) (C := RX12) (T := TX12) (N := 34) hx hb hts hi_X12_init_X12 tyX12 tyX12_ok nmX12 hown hK hP hD hS k193 hk193 rfl 6 (by decide) (hts (.fieldLink RX12 45 "HobhouseModel" "times" "[I") (by decide +kernel)) (fun _ h9 => h9) rfl hin rfl (by decide +kernel) (rfl) (rfl) (Nat.le_of_ble_eq_true rfl) dX12_init_61 (fun H locs hP2 hD2 hS => ?_)
  have e9 := wPuF (cy := cy) (j := 6) (v := (some qa178)) hD am192.1 am192.2.1 gk193 rfl
  have N194 : ∀ j9, j9 ∉ (5 :: 4 :: 3 :: 2 :: 1 :: 0 :: 77 :: [] : List Nat) → S172.F o1 j9 = none := by rw [← hS172]; exact fun j9 h9 => (sF_ne (fun q9 => h9 (by rw [q9.2]; exact List.mem_cons_self))).trans (N169 j9 (fun q9 => h9 (List.mem_cons_of_mem _ q9)))
  have Z195 : ∀ j9, j9 ∉ ([] : List Nat) → S172.I o1 j9 = 0 := by rw [← hS172]; exact Z170
  have am198 : isA S172 o1 12 := xm190.A h_o1
  have N196 : ∀ j9, j9 ∉ (5 :: 4 :: 3 :: 2 :: 1 :: 0 :: 77 :: [] : List Nat) → S179.F o1 j9 = none := by rw [← hS179]; exact fun j9 h9 => (nw_Fo hqa178 am198.1).trans (N194 j9 h9)
  have Z197 : ∀ j9, j9 ∉ ([] : List Nat) → S179.I o1 j9 = 0 := by rw [← hS179]; exact fun j9 h9 => (nw_Io hqa178 am198.1).trans (Z195 j9 h9)
  obtain ⟨S199, hS199⟩ : ∃ z, S179.sF o1 6 (some qa178) = z := ⟨_, rfl⟩
  replace hP : va_P D vwCl (X ++ PL cy S199) H := by rw [← hS199, ← e9]; exact hP2
  replace hD : va_D A (X ++ PL cy S199) := by rw [← hS199, ← e9]; exact hD2
  clear hP2 hD2 e9
  have xe200 : ext S179 S199 := by rw [← hS199]; exact ext.sF (N196 6 (by decide))
  have t201 : stp ([] : List (Nat × Nat)) [o1] (o1 :: R) S S199 := by rw [← hS199]; exact t181.F 6 qa178 List.mem_cons_self (Or.inl List.mem_cons_self) (N196 6 (by decide))
  have z202 : S199.I qa5 2 = 0 := by rw [← hS199]; exact z182
  have z203 : S199.I qa35 2 = 0 := by rw [← hS199]; exact z186
  have F204 : S199.F o1 6 = some qa178 := by rw [← hS199]; exact sF_eq
  refine lv_aload_n hx hb dX12_init_64 rfl (lv_at hl 0 rfl) ?_
  refine lv_bipush (v := 6) hx hb dX12_init_65 (by decide +kernel) ?_
  refine va_newa (atype := .int) hx hb (hts (.arrayClass .int) (by decide +kernel)) (ty := .int) rfl hK hP hD hS hA (N' := 6) (a0 := (6, .inl (fun _ => 0))) (fun _ => rfl) (by decide) (by decide) (by decide) (Nat.le_of_ble_eq_true rfl) (Nat.le_of_ble_eq_true rfl) dX12_init_67 (fun qa205 cqa205 H hK2 hP2 hD2 hS => ?_)
  obtain rfl : cqa205 = cy 2 := cls_int hK hK2
  have hqa205 : qa205 ∉ S199.L := nw_q hD2
  have e9 := wNw (cy := cy) (X := X) (S := S199) (a := qa205) (k := 35) (z := 6) (f := fun _ => 0) (g := fun _ => none) hqa205 rfl
  obtain ⟨S206, hS206⟩ : ∃ z, S199.nw qa205 35 6 (fun _ => 0) (fun _ => none) = z := ⟨_, rfl⟩
  replace hP : va_P D vwCl (X ++ PL cy S206) H := by rw [← hS206, ← e9]; exact hP2
  replace hD : va_D A (X ++ PL cy S206) := by rw [← hS206, ← e9]; exact hD2
  clear hP2 hD2 e9
  have xe207 : ext S199 S206 := by rw [← hS206]; exact ext.nw hqa205
  have t208 : stp ([] : List (Nat × Nat)) [o1] (o1 :: R) S S206 := by rw [← hS206]; exact t201.nwA hqa205 (by decide)
  have xm210 : ext S15 S179 := xm184.tr xe180
  have xm211 : ext S15 S199 := xm210.tr xe200
  have am212 : isA S199 qa5 14 := xm211.A (xe17.A aqa5)
  have z209 : S206.I qa5 2 = 0 := by rw [← hS206]; exact (nw_Io hqa205 am212.1).trans z202
  have xm214 : ext S48 S179 := xm188.tr xe180
  have xm215 : ext S48 S199 := xm214.tr xe200
  have am216 : isA S199 qa35 14 := xm215.A (xe50.A aqa35)
  have z213 : S206.I qa35 2 = 0 := by rw [← hS206]; exact (nw_Io hqa205 am216.1).trans z203
  refine W.widen (k := 8) (n := 48) (Nat.le_of_ble_eq_true rfl) (Nat.le_of_ble_eq_true rfl) ?_
  have aqa205 : isA S206 qa205 35 := by rw [← hS206]; exact nw_A (by decide)
  have nqa205 : S206.n qa205 = 6 := by rw [← hS206]; exact nw_n
  have xm217 : ext S S199 := xm191.tr xe200
  have xm218 : ext S S206 := xm217.tr xe207
  have am219 : isA S206 o1 12 := xm218.A h_o1
  obtain ⟨k220, gk220, hk220⟩ := wGt (cy := cy) X S206 am219.1 am219.2.1
  refine va_putF (D := D) (ci := 16) (v := .ref qa205) (ty := (tyX12 7)) (C := RX12) (T := TX12) (N := 34) hx hb hts hi_X12_init_X12 tyX12 tyX12_ok nmX12 hown hK hP hD hS k220 hk220 rfl 7 (by decide) (hts (.fieldLink RX12 48 "HobhouseModel" "tools" "[I") (by decide +kernel)) (fun _ h9 => h9) rfl hin rfl (by decide +kernel) (rfl) (rfl) (Nat.le_of_ble_eq_true rfl) dX12_init_69 (fun H locs hP2 hD2 hS => ?_)
  have e9 := wPuF (cy := cy) (j := 7) (v := (some qa205)) hD am219.1 am219.2.1 gk220 rfl
  have N221 : ∀ j9, j9 ∉ (6 :: 5 :: 4 :: 3 :: 2 :: 1 :: 0 :: 77 :: [] : List Nat) → S199.F o1 j9 = none := by rw [← hS199]; exact fun j9 h9 => (sF_ne (fun q9 => h9 (by rw [q9.2]; exact List.mem_cons_self))).trans (N196 j9 (fun q9 => h9 (List.mem_cons_of_mem _ q9)))
  have Z222 : ∀ j9, j9 ∉ ([] : List Nat) → S199.I o1 j9 = 0 := by rw [← hS199]; exact Z197
  have am225 : isA S199 o1 12 := xm217.A h_o1
  have N223 : ∀ j9, j9 ∉ (6 :: 5 :: 4 :: 3 :: 2 :: 1 :: 0 :: 77 :: [] : List Nat) → S206.F o1 j9 = none := by rw [← hS206]; exact fun j9 h9 => (nw_Fo hqa205 am225.1).trans (N221 j9 h9)
  have Z224 : ∀ j9, j9 ∉ ([] : List Nat) → S206.I o1 j9 = 0 := by rw [← hS206]; exact fun j9 h9 => (nw_Io hqa205 am225.1).trans (Z222 j9 h9)
  obtain ⟨S226, hS226⟩ : ∃ z, S206.sF o1 7 (some qa205) = z := ⟨_, rfl⟩
  replace hP : va_P D vwCl (X ++ PL cy S226) H := by rw [← hS226, ← e9]; exact hP2
  replace hD : va_D A (X ++ PL cy S226) := by rw [← hS226, ← e9]; exact hD2
  clear hP2 hD2 e9
  have xe227 : ext S206 S226 := by rw [← hS226]; exact ext.sF (N223 7 (by decide))
  have t228 : stp ([] : List (Nat × Nat)) [o1] (o1 :: R) S S226 := by rw [← hS226]; exact t208.F 7 qa205 List.mem_cons_self (Or.inl List.mem_cons_self) (N223 7 (by decide))
  have z229 : S226.I qa5 2 = 0 := by rw [← hS226]; exact z209
  have z230 : S226.I qa35 2 = 0 := by rw [← hS226]; exact z213
  have F231 : S226.F o1 7 = some qa205 := by rw [← hS226]; exact sF_eq
  refine lv_aload_n hx hb dX12_init_72 rfl (lv_at hl 0 rfl) ?_
  refine lv_bipush (v := 6) hx hb dX12_init_73 (by decide +kernel) ?_
  refine va_newa (atype := .int) hx hb (hts (.arrayClass .int) (by decide +kernel)) (ty := .int) rfl hK hP hD hS hA (N' := 6) (a0 := (6, .inl (fun _ => 0))) (fun _ => rfl) (by decide) (by decide) (by decide) (Nat.le_of_ble_eq_true rfl) (Nat.le_of_ble_eq_true rfl) dX12_init_75 (fun qa232 cqa232 H hK2 hP2 hD2 hS => ?_)
  obtain rfl : cqa232 = cy 2 := cls_int hK hK2
  have hqa232 : qa232 ∉ S226.L := nw_q hD2
  have e9 := wNw (cy := cy) (X := X) (S := S226) (a := qa232) (k := 36) (z := 6) (f := fun _ => 0) (g := fun _ => none) hqa232 rfl
  obtain ⟨S233, hS233⟩ : ∃ z, S226.nw qa232 36 6 (fun _ => 0) (fun _ => none) = z := ⟨_, rfl⟩
  replace hP : va_P D vwCl (X ++ PL cy S233) H := by rw [← hS233, ← e9]; exact hP2
  replace hD : va_D A (X ++ PL cy S233) := by rw [← hS233, ← e9]; exact hD2
  clear hP2 hD2 e9
  have xe234 : ext S226 S233 := by rw [← hS233]; exact ext.nw hqa232
  have t235 : stp ([] : List (Nat × Nat)) [o1] (o1 :: R) S S233 := by rw [← hS233]; exact t228.nwA hqa232 (by decide)
  have xm237 : ext S15 S206 := xm211.tr xe207
  have xm238 : ext S15 S226 := xm237.tr xe227
  have am239 : isA S226 qa5 14 := xm238.A (xe17.A aqa5)
  have z236 : S233.I qa5 2 = 0 := by rw [← hS233]; exact (nw_Io hqa232 am239.1).trans z229
  have xm241 : ext S48 S206 := xm215.tr xe207
  have xm242 : ext S48 S226 := xm241.tr xe227
  have am243 : isA S226 qa35 14 := xm242.A (xe50.A aqa35)
  have z240 : S233.I qa35 2 = 0 := by rw [← hS233]; exact (nw_Io hqa232 am243.1).trans z230
  refine W.widen (k := 9) (n := 54) (Nat.le_of_ble_eq_true rfl) (Nat.le_of_ble_eq_true rfl) ?_
  have aqa232 : isA S233 qa232 36 := by rw [← hS233]; exact nw_A (by decide)
  have nqa232 : S233.n qa232 = 6 := by rw [← hS233]; exact nw_n
  have xm244 : ext S S226 := xm218.tr xe227
  have xm245 : ext S S233 := xm244.tr xe234
  have am246 : isA S233 o1 12 := xm245.A h_o1
  obtain ⟨k247, gk247, hk247⟩ := wGt (cy := cy) X S233 am246.1 am246.2.1
  refine va_putF (D := D) (ci := 16) (v := .ref qa232) (ty := (tyX12 8)) (C := RX12) (T := TX12) (N := 34) hx hb hts hi_X12_init_X12 tyX12 tyX12_ok nmX12 hown hK hP hD hS k247 hk247 rfl 8 (by decide) (hts (.fieldLink RX12 51 "HobhouseModel" "frees" "[I") (by decide +kernel)) (fun _ h9 => h9) rfl hin rfl (by decide +kernel) (rfl) (rfl) (Nat.le_of_ble_eq_true rfl) dX12_init_77 (fun H locs hP2 hD2 hS => ?_)
  have e9 := wPuF (cy := cy) (j := 8) (v := (some qa232)) hD am246.1 am246.2.1 gk247 rfl
  have N248 : ∀ j9, j9 ∉ (7 :: 6 :: 5 :: 4 :: 3 :: 2 :: 1 :: 0 :: 77 :: [] : List Nat) → S226.F o1 j9 = none := by rw [← hS226]; exact fun j9 h9 => (sF_ne (fun q9 => h9 (by rw [q9.2]; exact List.mem_cons_self))).trans (N223 j9 (fun q9 => h9 (List.mem_cons_of_mem _ q9)))
  have Z249 : ∀ j9, j9 ∉ ([] : List Nat) → S226.I o1 j9 = 0 := by rw [← hS226]; exact Z224
  have am252 : isA S226 o1 12 := xm244.A h_o1
  have N250 : ∀ j9, j9 ∉ (7 :: 6 :: 5 :: 4 :: 3 :: 2 :: 1 :: 0 :: 77 :: [] : List Nat) → S233.F o1 j9 = none := by rw [← hS233]; exact fun j9 h9 => (nw_Fo hqa232 am252.1).trans (N248 j9 h9)
  have Z251 : ∀ j9, j9 ∉ ([] : List Nat) → S233.I o1 j9 = 0 := by rw [← hS233]; exact fun j9 h9 => (nw_Io hqa232 am252.1).trans (Z249 j9 h9)
  obtain ⟨S253, hS253⟩ : ∃ z, S233.sF o1 8 (some qa232) = z := ⟨_, rfl⟩
  replace hP : va_P D vwCl (X ++ PL cy S253) H := by rw [← hS253, ← e9]; exact hP2
  replace hD : va_D A (X ++ PL cy S253) := by rw [← hS253, ← e9]; exact hD2
  clear hP2 hD2 e9
  have xe254 : ext S233 S253 := by rw [← hS253]; exact ext.sF (N250 8 (by decide))
  have t255 : stp ([] : List (Nat × Nat)) [o1] (o1 :: R) S S253 := by rw [← hS253]; exact t235.F 8 qa232 List.mem_cons_self (Or.inl List.mem_cons_self) (N250 8 (by decide))
  have z256 : S253.I qa5 2 = 0 := by rw [← hS253]; exact z236
  have z257 : S253.I qa35 2 = 0 := by rw [← hS253]; exact z240
  have F258 : S253.F o1 8 = some qa232 := by rw [← hS253]; exact sF_eq
  refine lv_aload_n hx hb dX12_init_80 rfl (lv_at hl 0 rfl) ?_
  refine lv_iconst (v := 4) hx hb dX12_init_81 (by decide) ?_
  refine va_newa (atype := .int) hx hb (hts (.arrayClass .int) (by decide +kernel)) (ty := .int) rfl hK hP hD hS hA (N' := 4) (a0 := (4, .inl (fun _ => 0))) (fun _ => rfl) (by decide) (by decide) (by decide) (Nat.le_of_ble_eq_true rfl) (Nat.le_of_ble_eq_true rfl) dX12_init_82 (fun qa259 cqa259 H hK2 hP2 hD2 hS => ?_)
  obtain rfl : cqa259 = cy 2 := cls_int hK hK2
  have hqa259 : qa259 ∉ S253.L := nw_q hD2
  have e9 := wNw (cy := cy) (X := X) (S := S253) (a := qa259) (k := 23) (z := 4) (f := fun _ => 0) (g := fun _ => none) hqa259 rfl
  obtain ⟨S260, hS260⟩ : ∃ z, S253.nw qa259 23 4 (fun _ => 0) (fun _ => none) = z := ⟨_, rfl⟩
  replace hP : va_P D vwCl (X ++ PL cy S260) H := by rw [← hS260, ← e9]; exact hP2
  replace hD : va_D A (X ++ PL cy S260) := by rw [← hS260, ← e9]; exact hD2
  clear hP2 hD2 e9
  have xe261 : ext S253 S260 := by rw [← hS260]; exact ext.nw hqa259
  have t262 : stp ([] : List (Nat × Nat)) [o1] (o1 :: R) S S260 := by rw [← hS260]; exact t255.nwA hqa259 (by decide)
  have xm264 : ext S15 S233 := xm238.tr xe234
  have xm265 : ext S15 S253 := xm264.tr xe254
  have am266 : isA S253 qa5 14 := xm265.A (xe17.A aqa5)
  have z263 : S260.I qa5 2 = 0 := by rw [← hS260]; exact (nw_Io hqa259 am266.1).trans z256
  have xm268 : ext S48 S233 := xm242.tr xe234
  have xm269 : ext S48 S253 := xm268.tr xe254
  have am270 : isA S253 qa35 14 := xm269.A (xe50.A aqa35)
  have z267 : S260.I qa35 2 = 0 := by rw [← hS260]; exact (nw_Io hqa259 am270.1).trans z257
  refine W.widen (k := 10) (n := 58) (Nat.le_of_ble_eq_true rfl) (Nat.le_of_ble_eq_true rfl) ?_
  have aqa259 : isA S260 qa259 23 := by rw [← hS260]; exact nw_A (by decide)
  have nqa259 : S260.n qa259 = 4 := by rw [← hS260]; exact nw_n
  have zqa259 : ∀ j9, S260.i qa259 j9 = 0 := by rw [← hS260]; exact fun j9 => congrFun (up_qq (f := S253.i)) j9
  have xm271 : ext S S253 := xm245.tr xe254
  have xm272 : ext S S260 := xm271.tr xe261
  have am273 : isA S260 o1 12 := xm272.A h_o1
  obtain ⟨k274, gk274, hk274⟩ := wGt (cy := cy) X S260 am273.1 am273.2.1
  refine va_putF (D := D) (ci := 16) (v := .ref qa259) (ty := (tyX12 9)) (C := RX12) (T := TX12) (N := 34) hx hb hts hi_X12_init_X12 tyX12 tyX12_ok nmX12 hown hK hP hD hS k274 hk274 rfl 9 (by decide) (hts (.fieldLink RX12 54 "HobhouseModel" "pairFirst" "[I") (by decide +kernel)) (fun _ h9 => h9) rfl hin rfl (by decide +kernel) (rfl) (rfl) (Nat.le_of_ble_eq_true rfl) dX12_init_84 (fun H locs hP2 hD2 hS => ?_)
  have e9 := wPuF (cy := cy) (j := 9) (v := (some qa259)) hD am273.1 am273.2.1 gk274 rfl
  have N275 : ∀ j9, j9 ∉ (8 :: 7 :: 6 :: 5 :: 4 :: 3 :: 2 :: 1 :: 0 :: 77 :: [] : List Nat) → S253.F o1 j9 = none := by rw [← hS253]; exact fun j9 h9 => (sF_ne (fun q9 => h9 (by rw [q9.2]; exact List.mem_cons_self))).trans (N250 j9 (fun q9 => h9 (List.mem_cons_of_mem _ q9)))
  have Z276 : ∀ j9, j9 ∉ ([] : List Nat) → S253.I o1 j9 = 0 := by rw [← hS253]; exact Z251
  have am279 : isA S253 o1 12 := xm271.A h_o1
  have N277 : ∀ j9, j9 ∉ (8 :: 7 :: 6 :: 5 :: 4 :: 3 :: 2 :: 1 :: 0 :: 77 :: [] : List Nat) → S260.F o1 j9 = none := by rw [← hS260]; exact fun j9 h9 => (nw_Fo hqa259 am279.1).trans (N275 j9 h9)
  have Z278 : ∀ j9, j9 ∉ ([] : List Nat) → S260.I o1 j9 = 0 := by rw [← hS260]; exact fun j9 h9 => (nw_Io hqa259 am279.1).trans (Z276 j9 h9)
  obtain ⟨S280, hS280⟩ : ∃ z, S260.sF o1 9 (some qa259) = z := ⟨_, rfl⟩
  replace hP : va_P D vwCl (X ++ PL cy S280) H := by rw [← hS280, ← e9]; exact hP2
  replace hD : va_D A (X ++ PL cy S280) := by rw [← hS280, ← e9]; exact hD2
  clear hP2 hD2 e9
  have xe281 : ext S260 S280 := by rw [← hS280]; exact ext.sF (N277 9 (by decide))
  have t282 : stp ([] : List (Nat × Nat)) [o1] (o1 :: R) S S280 := by rw [← hS280]; exact t262.F 9 qa259 List.mem_cons_self (Or.inl List.mem_cons_self) (N277 9 (by decide))
  have z283 : ∀ j9, S280.i qa259 j9 = 0 := by rw [← hS280]; exact zqa259
  have z284 : S280.I qa5 2 = 0 := by rw [← hS280]; exact z263
  have z285 : S280.I qa35 2 = 0 := by rw [← hS280]; exact z267
  have F286 : S280.F o1 9 = some qa259 := by rw [← hS280]; exact sF_eq
  refine lv_aload_n hx hb dX12_init_87 rfl (lv_at hl 0 rfl) ?_
  refine lv_iconst (v := 4) hx hb dX12_init_88 (by decide) ?_
  refine va_newa (atype := .int) hx hb (hts (.arrayClass .int) (by decide +kernel)) (ty := .int) rfl hK hP hD hS hA (N' := 4) (a0 := (4, .inl (fun _ => 0))) (fun _ => rfl) (by decide) (by decide) (by decide) (Nat.le_of_ble_eq_true rfl) (Nat.le_of_ble_eq_true rfl) dX12_init_89 (fun qa287 cqa287 H hK2 hP2 hD2 hS => ?_)
  obtain rfl : cqa287 = cy 2 := cls_int hK hK2
  have hqa287 : qa287 ∉ S280.L := nw_q hD2
  have e9 := wNw (cy := cy) (X := X) (S := S280) (a := qa287) (k := 23) (z := 4) (f := fun _ => 0) (g := fun _ => none) hqa287 rfl
  obtain ⟨S288, hS288⟩ : ∃ z, S280.nw qa287 23 4 (fun _ => 0) (fun _ => none) = z := ⟨_, rfl⟩
  replace hP : va_P D vwCl (X ++ PL cy S288) H := by rw [← hS288, ← e9]; exact hP2
  replace hD : va_D A (X ++ PL cy S288) := by rw [← hS288, ← e9]; exact hD2
  clear hP2 hD2 e9
  have xe289 : ext S280 S288 := by rw [← hS288]; exact ext.nw hqa287
  have t290 : stp ([] : List (Nat × Nat)) [o1] (o1 :: R) S S288 := by rw [← hS288]; exact t282.nwA hqa287 (by decide)
  have am292 : isA S280 qa259 23 := xe281.A aqa259
  have z291 : ∀ j9, S288.i qa259 j9 = 0 := by rw [← hS288]; exact fun j9 => (congrFun (up_nq (f := S280.i) (fun e9 : qa259 = qa287 => hqa287 (e9 ▸ am292.1))) j9).trans (z283 j9)
  have xm294 : ext S15 S260 := xm265.tr xe261
  have xm295 : ext S15 S280 := xm294.tr xe281
  have am296 : isA S280 qa5 14 := xm295.A (xe17.A aqa5)
  have z293 : S288.I qa5 2 = 0 := by rw [← hS288]; exact (nw_Io hqa287 am296.1).trans z284
  have xm298 : ext S48 S260 := xm269.tr xe261
  have xm299 : ext S48 S280 := xm298.tr xe281
  have am300 : isA S280 qa35 14 := xm299.A (xe50.A aqa35)
  have z297 : S288.I qa35 2 = 0 := by rw [← hS288]; exact (nw_Io hqa287 am300.1).trans z285
  refine W.widen (k := 11) (n := 62) (Nat.le_of_ble_eq_true rfl) (Nat.le_of_ble_eq_true rfl) ?_
  have aqa287 : isA S288 qa287 23 := by rw [← hS288]; exact nw_A (by decide)
  have nqa287 : S288.n qa287 = 4 := by rw [← hS288]; exact nw_n
  have zqa287 : ∀ j9, S288.i qa287 j9 = 0 := by rw [← hS288]; exact fun j9 => congrFun (up_qq (f := S280.i)) j9
  have xm301 : ext S S280 := xm272.tr xe281
  have xm302 : ext S S288 := xm301.tr xe289
  have am303 : isA S288 o1 12 := xm302.A h_o1
  obtain ⟨k304, gk304, hk304⟩ := wGt (cy := cy) X S288 am303.1 am303.2.1
  refine va_putF (D := D) (ci := 16) (v := .ref qa287) (ty := (tyX12 10)) (C := RX12) (T := TX12) (N := 34) hx hb hts hi_X12_init_X12 tyX12 tyX12_ok nmX12 hown hK hP hD hS k304 hk304 rfl 10 (by decide) (hts (.fieldLink RX12 57 "HobhouseModel" "pairSecond" "[I") (by decide +kernel)) (fun _ h9 => h9) rfl hin rfl (by decide +kernel) (rfl) (rfl) (Nat.le_of_ble_eq_true rfl) dX12_init_91 (fun H locs hP2 hD2 hS => ?_)
  have e9 := wPuF (cy := cy) (j := 10) (v := (some qa287)) hD am303.1 am303.2.1 gk304 rfl
  have N305 : ∀ j9, j9 ∉ (9 :: 8 :: 7 :: 6 :: 5 :: 4 :: 3 :: 2 :: 1 :: 0 :: 77 :: [] : List Nat) → S280.F o1 j9 = none := by rw [← hS280]; exact fun j9 h9 => (sF_ne (fun q9 => h9 (by rw [q9.2]; exact List.mem_cons_self))).trans (N277 j9 (fun q9 => h9 (List.mem_cons_of_mem _ q9)))
  have Z306 : ∀ j9, j9 ∉ ([] : List Nat) → S280.I o1 j9 = 0 := by rw [← hS280]; exact Z278
  have am309 : isA S280 o1 12 := xm301.A h_o1
  have N307 : ∀ j9, j9 ∉ (9 :: 8 :: 7 :: 6 :: 5 :: 4 :: 3 :: 2 :: 1 :: 0 :: 77 :: [] : List Nat) → S288.F o1 j9 = none := by rw [← hS288]; exact fun j9 h9 => (nw_Fo hqa287 am309.1).trans (N305 j9 h9)
  have Z308 : ∀ j9, j9 ∉ ([] : List Nat) → S288.I o1 j9 = 0 := by rw [← hS288]; exact fun j9 h9 => (nw_Io hqa287 am309.1).trans (Z306 j9 h9)
  obtain ⟨S310, hS310⟩ : ∃ z, S288.sF o1 10 (some qa287) = z := ⟨_, rfl⟩
  replace hP : va_P D vwCl (X ++ PL cy S310) H := by rw [← hS310, ← e9]; exact hP2
  replace hD : va_D A (X ++ PL cy S310) := by rw [← hS310, ← e9]; exact hD2
  clear hP2 hD2 e9
  have xe311 : ext S288 S310 := by rw [← hS310]; exact ext.sF (N307 10 (by decide))
  have t312 : stp ([] : List (Nat × Nat)) [o1] (o1 :: R) S S310 := by rw [← hS310]; exact t290.F 10 qa287 List.mem_cons_self (Or.inl List.mem_cons_self) (N307 10 (by decide))
  have z313 : ∀ j9, S310.i qa259 j9 = 0 := by rw [← hS310]; exact z291
  have z314 : ∀ j9, S310.i qa287 j9 = 0 := by rw [← hS310]; exact zqa287
  have z315 : S310.I qa5 2 = 0 := by rw [← hS310]; exact z293
  have z316 : S310.I qa35 2 = 0 := by rw [← hS310]; exact z297
  have F317 : S310.F o1 10 = some qa287 := by rw [← hS310]; exact sF_eq
  refine lv_aload_n hx hb dX12_init_94 rfl (lv_at hl 0 rfl) ?_
  refine lv_iconst (v := 4) hx hb dX12_init_95 (by decide) ?_
  refine va_newa (atype := .int) hx hb (hts (.arrayClass .int) (by decide +kernel)) (ty := .int) rfl hK hP hD hS hA (N' := 4) (a0 := (4, .inl (fun _ => 0))) (fun _ => rfl) (by decide) (by decide) (by decide) (Nat.le_of_ble_eq_true rfl) (Nat.le_of_ble_eq_true rfl) dX12_init_96 (fun qa318 cqa318 H hK2 hP2 hD2 hS => ?_)
  obtain rfl : cqa318 = cy 2 := cls_int hK hK2
  have hqa318 : qa318 ∉ S310.L := nw_q hD2
  have e9 := wNw (cy := cy) (X := X) (S := S310) (a := qa318) (k := 23) (z := 4) (f := fun _ => 0) (g := fun _ => none) hqa318 rfl
  obtain ⟨S319, hS319⟩ : ∃ z, S310.nw qa318 23 4 (fun _ => 0) (fun _ => none) = z := ⟨_, rfl⟩
  replace hP : va_P D vwCl (X ++ PL cy S319) H := by rw [← hS319, ← e9]; exact hP2
  replace hD : va_D A (X ++ PL cy S319) := by rw [← hS319, ← e9]; exact hD2
  clear hP2 hD2 e9
  have xe320 : ext S310 S319 := by rw [← hS319]; exact ext.nw hqa318
  have t321 : stp ([] : List (Nat × Nat)) [o1] (o1 :: R) S S319 := by rw [← hS319]; exact t312.nwA hqa318 (by decide)
  have xm323 : ext S260 S288 := xe281.tr xe289
  have xm324 : ext S260 S310 := xm323.tr xe311
  have am325 : isA S310 qa259 23 := xm324.A aqa259
  have z322 : ∀ j9, S319.i qa259 j9 = 0 := by rw [← hS319]; exact fun j9 => (congrFun (up_nq (f := S310.i) (fun e9 : qa259 = qa318 => hqa318 (e9 ▸ am325.1))) j9).trans (z313 j9)
  have am327 : isA S310 qa287 23 := xe311.A aqa287
  have z326 : ∀ j9, S319.i qa287 j9 = 0 := by rw [← hS319]; exact fun j9 => (congrFun (up_nq (f := S310.i) (fun e9 : qa287 = qa318 => hqa318 (e9 ▸ am327.1))) j9).trans (z314 j9)
  have xm329 : ext S15 S288 := xm295.tr xe289
  have xm330 : ext S15 S310 := xm329.tr xe311
  have am331 : isA S310 qa5 14 := xm330.A (xe17.A aqa5)
  have z328 : S319.I qa5 2 = 0 := by rw [← hS319]; exact (nw_Io hqa318 am331.1).trans z315
  have xm333 : ext S48 S288 := xm299.tr xe289
  have xm334 : ext S48 S310 := xm333.tr xe311
  have am335 : isA S310 qa35 14 := xm334.A (xe50.A aqa35)
  have z332 : S319.I qa35 2 = 0 := by rw [← hS319]; exact (nw_Io hqa318 am335.1).trans z316
  refine W.widen (k := 12) (n := 66) (Nat.le_of_ble_eq_true rfl) (Nat.le_of_ble_eq_true rfl) ?_
  have aqa318 : isA S319 qa318 23 := by rw [← hS319]; exact nw_A (by decide)
  have nqa318 : S319.n qa318 = 4 := by rw [← hS319]; exact nw_n
  have zqa318 : ∀ j9, S319.i qa318 j9 = 0 := by rw [← hS319]; exact fun j9 => congrFun (up_qq (f := S310.i)) j9
  have xm336 : ext S S310 := xm302.tr xe311
  have xm337 : ext S S319 := xm336.tr xe320
  have am338 : isA S319 o1 12 := xm337.A h_o1
  obtain ⟨k339, gk339, hk339⟩ := wGt (cy := cy) X S319 am338.1 am338.2.1
  refine va_putF (D := D) (ci := 16) (v := .ref qa318) (ty := (tyX12 11)) (C := RX12) (T := TX12) (N := 34) hx hb hts hi_X12_init_X12 tyX12 tyX12_ok nmX12 hown hK hP hD hS k339 hk339 rfl 11 (by decide) (hts (.fieldLink RX12 60 "HobhouseModel" "bestFirst" "[I") (by decide +kernel)) (fun _ h9 => h9) rfl hin rfl (by decide +kernel) (rfl) (rfl) (Nat.le_of_ble_eq_true rfl) dX12_init_98 (fun H locs hP2 hD2 hS => ?_)
  have e9 := wPuF (cy := cy) (j := 11) (v := (some qa318)) hD am338.1 am338.2.1 gk339 rfl
  have N340 : ∀ j9, j9 ∉ (10 :: 9 :: 8 :: 7 :: 6 :: 5 :: 4 :: 3 :: 2 :: 1 :: 0 :: 77 :: [] : List Nat) → S310.F o1 j9 = none := by rw [← hS310]; exact fun j9 h9 => (sF_ne (fun q9 => h9 (by rw [q9.2]; exact List.mem_cons_self))).trans (N307 j9 (fun q9 => h9 (List.mem_cons_of_mem _ q9)))
  have Z341 : ∀ j9, j9 ∉ ([] : List Nat) → S310.I o1 j9 = 0 := by rw [← hS310]; exact Z308
  have am344 : isA S310 o1 12 := xm336.A h_o1
  have N342 : ∀ j9, j9 ∉ (10 :: 9 :: 8 :: 7 :: 6 :: 5 :: 4 :: 3 :: 2 :: 1 :: 0 :: 77 :: [] : List Nat) → S319.F o1 j9 = none := by rw [← hS319]; exact fun j9 h9 => (nw_Fo hqa318 am344.1).trans (N340 j9 h9)
  have Z343 : ∀ j9, j9 ∉ ([] : List Nat) → S319.I o1 j9 = 0 := by rw [← hS319]; exact fun j9 h9 => (nw_Io hqa318 am344.1).trans (Z341 j9 h9)
  obtain ⟨S345, hS345⟩ : ∃ z, S319.sF o1 11 (some qa318) = z := ⟨_, rfl⟩
  replace hP : va_P D vwCl (X ++ PL cy S345) H := by rw [← hS345, ← e9]; exact hP2
  replace hD : va_D A (X ++ PL cy S345) := by rw [← hS345, ← e9]; exact hD2
  clear hP2 hD2 e9
  have xe346 : ext S319 S345 := by rw [← hS345]; exact ext.sF (N342 11 (by decide))
  have t347 : stp ([] : List (Nat × Nat)) [o1] (o1 :: R) S S345 := by rw [← hS345]; exact t321.F 11 qa318 List.mem_cons_self (Or.inl List.mem_cons_self) (N342 11 (by decide))
  have z348 : ∀ j9, S345.i qa259 j9 = 0 := by rw [← hS345]; exact z322
  have z349 : ∀ j9, S345.i qa287 j9 = 0 := by rw [← hS345]; exact z326
  have z350 : ∀ j9, S345.i qa318 j9 = 0 := by rw [← hS345]; exact zqa318
  have z351 : S345.I qa5 2 = 0 := by rw [← hS345]; exact z328
  have z352 : S345.I qa35 2 = 0 := by rw [← hS345]; exact z332
  have F353 : S345.F o1 11 = some qa318 := by rw [← hS345]; exact sF_eq
  refine lv_aload_n hx hb dX12_init_101 rfl (lv_at hl 0 rfl) ?_
  refine lv_iconst (v := 4) hx hb dX12_init_102 (by decide) ?_
  refine va_newa (atype := .int) hx hb (hts (.arrayClass .int) (by decide +kernel)) (ty := .int) rfl hK hP hD hS hA (N' := 4) (a0 := (4, .inl (fun _ => 0))) (fun _ => rfl) (by decide) (by decide) (by decide) (Nat.le_of_ble_eq_true rfl) (Nat.le_of_ble_eq_true rfl) dX12_init_103 (fun qa354 cqa354 H hK2 hP2 hD2 hS => ?_)
  obtain rfl : cqa354 = cy 2 := cls_int hK hK2
  have hqa354 : qa354 ∉ S345.L := nw_q hD2
  have e9 := wNw (cy := cy) (X := X) (S := S345) (a := qa354) (k := 23) (z := 4) (f := fun _ => 0) (g := fun _ => none) hqa354 rfl
  obtain ⟨S355, hS355⟩ : ∃ z, S345.nw qa354 23 4 (fun _ => 0) (fun _ => none) = z := ⟨_, rfl⟩
  replace hP : va_P D vwCl (X ++ PL cy S355) H := by rw [← hS355, ← e9]; exact hP2
  replace hD : va_D A (X ++ PL cy S355) := by rw [← hS355, ← e9]; exact hD2
  clear hP2 hD2 e9
  have xe356 : ext S345 S355 := by rw [← hS355]; exact ext.nw hqa354
  have t357 : stp ([] : List (Nat × Nat)) [o1] (o1 :: R) S S355 := by rw [← hS355]; exact t347.nwA hqa354 (by decide)
  have xm359 : ext S260 S319 := xm324.tr xe320
  have xm360 : ext S260 S345 := xm359.tr xe346
  have am361 : isA S345 qa259 23 := xm360.A aqa259
  have z358 : ∀ j9, S355.i qa259 j9 = 0 := by rw [← hS355]; exact fun j9 => (congrFun (up_nq (f := S345.i) (fun e9 : qa259 = qa354 => hqa354 (e9 ▸ am361.1))) j9).trans (z348 j9)
  have xm363 : ext S288 S319 := xe311.tr xe320
  have xm364 : ext S288 S345 := xm363.tr xe346
  have am365 : isA S345 qa287 23 := xm364.A aqa287
  have z362 : ∀ j9, S355.i qa287 j9 = 0 := by rw [← hS355]; exact fun j9 => (congrFun (up_nq (f := S345.i) (fun e9 : qa287 = qa354 => hqa354 (e9 ▸ am365.1))) j9).trans (z349 j9)
  have am367 : isA S345 qa318 23 := xe346.A aqa318
  have z366 : ∀ j9, S355.i qa318 j9 = 0 := by rw [← hS355]; exact fun j9 => (congrFun (up_nq (f := S345.i) (fun e9 : qa318 = qa354 => hqa354 (e9 ▸ am367.1))) j9).trans (z350 j9)
  have xm369 : ext S15 S319 := xm330.tr xe320
  have xm370 : ext S15 S345 := xm369.tr xe346
  have am371 : isA S345 qa5 14 := xm370.A (xe17.A aqa5)
  have z368 : S355.I qa5 2 = 0 := by rw [← hS355]; exact (nw_Io hqa354 am371.1).trans z351
  have xm373 : ext S48 S319 := xm334.tr xe320
  have xm374 : ext S48 S345 := xm373.tr xe346
  have am375 : isA S345 qa35 14 := xm374.A (xe50.A aqa35)
  have z372 : S355.I qa35 2 = 0 := by rw [← hS355]; exact (nw_Io hqa354 am375.1).trans z352
  refine W.widen (k := 13) (n := 70) (Nat.le_of_ble_eq_true rfl) (Nat.le_of_ble_eq_true rfl) ?_
  have aqa354 : isA S355 qa354 23 := by rw [← hS355]; exact nw_A (by decide)
  have nqa354 : S355.n qa354 = 4 := by rw [← hS355]; exact nw_n
  have zqa354 : ∀ j9, S355.i qa354 j9 = 0 := by rw [← hS355]; exact fun j9 => congrFun (up_qq (f := S345.i)) j9
  have xm376 : ext S S345 := xm337.tr xe346
  have xm377 : ext S S355 := xm376.tr xe356
  have am378 : isA S355 o1 12 := xm377.A h_o1
  obtain ⟨k379, gk379, hk379⟩ := wGt (cy := cy) X S355 am378.1 am378.2.1
  refine va_putF (D := D) (ci := 16) (v := .ref qa354) (ty := (tyX12 12)) (C := RX12) (T := TX12) (N := 34) hx hb hts hi_X12_init_X12 tyX12 tyX12_ok nmX12 hown hK hP hD hS k379 hk379 rfl 12 (by decide) (hts (.fieldLink RX12 63 "HobhouseModel" "bestSecond" "[I") (by decide +kernel)) (fun _ h9 => h9) rfl hin rfl (by decide +kernel) (rfl) (rfl) (Nat.le_of_ble_eq_true rfl) dX12_init_105 (fun H locs hP2 hD2 hS => ?_)
  have e9 := wPuF (cy := cy) (j := 12) (v := (some qa354)) hD am378.1 am378.2.1 gk379 rfl
  have N380 : ∀ j9, j9 ∉ (11 :: 10 :: 9 :: 8 :: 7 :: 6 :: 5 :: 4 :: 3 :: 2 :: 1 :: 0 :: 77 :: [] : List Nat) → S345.F o1 j9 = none := by rw [← hS345]; exact fun j9 h9 => (sF_ne (fun q9 => h9 (by rw [q9.2]; exact List.mem_cons_self))).trans (N342 j9 (fun q9 => h9 (List.mem_cons_of_mem _ q9)))
  have Z381 : ∀ j9, j9 ∉ ([] : List Nat) → S345.I o1 j9 = 0 := by rw [← hS345]; exact Z343
  have am384 : isA S345 o1 12 := xm376.A h_o1
  have N382 : ∀ j9, j9 ∉ (11 :: 10 :: 9 :: 8 :: 7 :: 6 :: 5 :: 4 :: 3 :: 2 :: 1 :: 0 :: 77 :: [] : List Nat) → S355.F o1 j9 = none := by rw [← hS355]; exact fun j9 h9 => (nw_Fo hqa354 am384.1).trans (N380 j9 h9)
  have Z383 : ∀ j9, j9 ∉ ([] : List Nat) → S355.I o1 j9 = 0 := by rw [← hS355]; exact fun j9 h9 => (nw_Io hqa354 am384.1).trans (Z381 j9 h9)
  obtain ⟨S385, hS385⟩ : ∃ z, S355.sF o1 12 (some qa354) = z := ⟨_, rfl⟩
  replace hP : va_P D vwCl (X ++ PL cy S385) H := by rw [← hS385, ← e9]; exact hP2
  replace hD : va_D A (X ++ PL cy S385) := by rw [← hS385, ← e9]; exact hD2
  clear hP2 hD2 e9
  have xe386 : ext S355 S385 := by rw [← hS385]; exact ext.sF (N382 12 (by decide))
  have t387 : stp ([] : List (Nat × Nat)) [o1] (o1 :: R) S S385 := by rw [← hS385]; exact t357.F 12 qa354 List.mem_cons_self (Or.inl List.mem_cons_self) (N382 12 (by decide))
  have z388 : ∀ j9, S385.i qa259 j9 = 0 := by rw [← hS385]; exact z358
  have z389 : ∀ j9, S385.i qa287 j9 = 0 := by rw [← hS385]; exact z362
  have z390 : ∀ j9, S385.i qa318 j9 = 0 := by rw [← hS385]; exact z366
  have z391 : ∀ j9, S385.i qa354 j9 = 0 := by rw [← hS385]; exact zqa354
  have z392 : S385.I qa5 2 = 0 := by rw [← hS385]; exact z368
  have z393 : S385.I qa35 2 = 0 := by rw [← hS385]; exact z372
  have F394 : S385.F o1 12 = some qa354 := by rw [← hS385]; exact sF_eq
  refine lv_aload_n hx hb dX12_init_108 rfl (lv_at hl 0 rfl) ?_
  refine lv_iconst (v := 5) hx hb dX12_init_109 (by decide) ?_
  refine va_newa (atype := .int) hx hb (hts (.arrayClass .int) (by decide +kernel)) (ty := .int) rfl hK hP hD hS hA (N' := 5) (a0 := (5, .inl (fun _ => 0))) (fun _ => rfl) (by decide) (by decide) (by decide) (Nat.le_of_ble_eq_true rfl) (Nat.le_of_ble_eq_true rfl) dX12_init_110 (fun qa395 cqa395 H hK2 hP2 hD2 hS => ?_)
  obtain rfl : cqa395 = cy 2 := cls_int hK hK2
  have hqa395 : qa395 ∉ S385.L := nw_q hD2
  have e9 := wNw (cy := cy) (X := X) (S := S385) (a := qa395) (k := 23) (z := 5) (f := fun _ => 0) (g := fun _ => none) hqa395 rfl
  obtain ⟨S396, hS396⟩ : ∃ z, S385.nw qa395 23 5 (fun _ => 0) (fun _ => none) = z := ⟨_, rfl⟩
  replace hP : va_P D vwCl (X ++ PL cy S396) H := by rw [← hS396, ← e9]; exact hP2
  replace hD : va_D A (X ++ PL cy S396) := by rw [← hS396, ← e9]; exact hD2
  clear hP2 hD2 e9
  have xe397 : ext S385 S396 := by rw [← hS396]; exact ext.nw hqa395
  have t398 : stp ([] : List (Nat × Nat)) [o1] (o1 :: R) S S396 := by rw [← hS396]; exact t387.nwA hqa395 (by decide)
  have xm400 : ext S260 S355 := xm360.tr xe356
  have xm401 : ext S260 S385 := xm400.tr xe386
  have am402 : isA S385 qa259 23 := xm401.A aqa259
  have z399 : ∀ j9, S396.i qa259 j9 = 0 := by rw [← hS396]; exact fun j9 => (congrFun (up_nq (f := S385.i) (fun e9 : qa259 = qa395 => hqa395 (e9 ▸ am402.1))) j9).trans (z388 j9)
  have xm404 : ext S288 S355 := xm364.tr xe356
  have xm405 : ext S288 S385 := xm404.tr xe386
  have am406 : isA S385 qa287 23 := xm405.A aqa287
  have z403 : ∀ j9, S396.i qa287 j9 = 0 := by rw [← hS396]; exact fun j9 => (congrFun (up_nq (f := S385.i) (fun e9 : qa287 = qa395 => hqa395 (e9 ▸ am406.1))) j9).trans (z389 j9)
  have xm408 : ext S319 S355 := xe346.tr xe356
  have xm409 : ext S319 S385 := xm408.tr xe386
  have am410 : isA S385 qa318 23 := xm409.A aqa318
  have z407 : ∀ j9, S396.i qa318 j9 = 0 := by rw [← hS396]; exact fun j9 => (congrFun (up_nq (f := S385.i) (fun e9 : qa318 = qa395 => hqa395 (e9 ▸ am410.1))) j9).trans (z390 j9)
  have am412 : isA S385 qa354 23 := xe386.A aqa354
  have z411 : ∀ j9, S396.i qa354 j9 = 0 := by rw [← hS396]; exact fun j9 => (congrFun (up_nq (f := S385.i) (fun e9 : qa354 = qa395 => hqa395 (e9 ▸ am412.1))) j9).trans (z391 j9)
  have xm414 : ext S15 S355 := xm370.tr xe356
  have xm415 : ext S15 S385 := xm414.tr xe386
  have am416 : isA S385 qa5 14 := xm415.A (xe17.A aqa5)
  have z413 : S396.I qa5 2 = 0 := by rw [← hS396]; exact (nw_Io hqa395 am416.1).trans z392
  have xm418 : ext S48 S355 := xm374.tr xe356
  have xm419 : ext S48 S385 := xm418.tr xe386
  have am420 : isA S385 qa35 14 := xm419.A (xe50.A aqa35)
  have z417 : S396.I qa35 2 = 0 := by rw [← hS396]; exact (nw_Io hqa395 am420.1).trans z393
  refine W.widen (k := 14) (n := 75) (Nat.le_of_ble_eq_true rfl) (Nat.le_of_ble_eq_true rfl) ?_
  have aqa395 : isA S396 qa395 23 := by rw [← hS396]; exact nw_A (by decide)
  have nqa395 : S396.n qa395 = 5 := by rw [← hS396]; exact nw_n
  have zqa395 : ∀ j9, S396.i qa395 j9 = 0 := by rw [← hS396]; exact fun j9 => congrFun (up_qq (f := S385.i)) j9
  have xm421 : ext S S385 := xm377.tr xe386
  have xm422 : ext S S396 := xm421.tr xe397
  have am423 : isA S396 o1 12 := xm422.A h_o1
  obtain ⟨k424, gk424, hk424⟩ := wGt (cy := cy) X S396 am423.1 am423.2.1
  refine va_putF (D := D) (ci := 16) (v := .ref qa395) (ty := (tyX12 13)) (C := RX12) (T := TX12) (N := 34) hx hb hts hi_X12_init_X12 tyX12 tyX12_ok nmX12 hown hK hP hD hS k424 hk424 rfl 13 (by decide) (hts (.fieldLink RX12 66 "HobhouseModel" "firsts" "[I") (by decide +kernel)) (fun _ h9 => h9) rfl hin rfl (by decide +kernel) (rfl) (rfl) (Nat.le_of_ble_eq_true rfl) dX12_init_112 (fun H locs hP2 hD2 hS => ?_)
  have e9 := wPuF (cy := cy) (j := 13) (v := (some qa395)) hD am423.1 am423.2.1 gk424 rfl
  have N425 : ∀ j9, j9 ∉ (12 :: 11 :: 10 :: 9 :: 8 :: 7 :: 6 :: 5 :: 4 :: 3 :: 2 :: 1 :: 0 :: 77 :: [] : List Nat) → S385.F o1 j9 = none := by rw [← hS385]; exact fun j9 h9 => (sF_ne (fun q9 => h9 (by rw [q9.2]; exact List.mem_cons_self))).trans (N382 j9 (fun q9 => h9 (List.mem_cons_of_mem _ q9)))
  have Z426 : ∀ j9, j9 ∉ ([] : List Nat) → S385.I o1 j9 = 0 := by rw [← hS385]; exact Z383
  have am429 : isA S385 o1 12 := xm421.A h_o1
  have N427 : ∀ j9, j9 ∉ (12 :: 11 :: 10 :: 9 :: 8 :: 7 :: 6 :: 5 :: 4 :: 3 :: 2 :: 1 :: 0 :: 77 :: [] : List Nat) → S396.F o1 j9 = none := by rw [← hS396]; exact fun j9 h9 => (nw_Fo hqa395 am429.1).trans (N425 j9 h9)
  have Z428 : ∀ j9, j9 ∉ ([] : List Nat) → S396.I o1 j9 = 0 := by rw [← hS396]; exact fun j9 h9 => (nw_Io hqa395 am429.1).trans (Z426 j9 h9)
  obtain ⟨S430, hS430⟩ : ∃ z, S396.sF o1 13 (some qa395) = z := ⟨_, rfl⟩
  replace hP : va_P D vwCl (X ++ PL cy S430) H := by rw [← hS430, ← e9]; exact hP2
  replace hD : va_D A (X ++ PL cy S430) := by rw [← hS430, ← e9]; exact hD2
  clear hP2 hD2 e9
  have xe431 : ext S396 S430 := by rw [← hS430]; exact ext.sF (N427 13 (by decide))
  have t432 : stp ([] : List (Nat × Nat)) [o1] (o1 :: R) S S430 := by rw [← hS430]; exact t398.F 13 qa395 List.mem_cons_self (Or.inl List.mem_cons_self) (N427 13 (by decide))
  have z433 : ∀ j9, S430.i qa259 j9 = 0 := by rw [← hS430]; exact z399
  have z434 : ∀ j9, S430.i qa287 j9 = 0 := by rw [← hS430]; exact z403
  have z435 : ∀ j9, S430.i qa318 j9 = 0 := by rw [← hS430]; exact z407
  have z436 : ∀ j9, S430.i qa354 j9 = 0 := by rw [← hS430]; exact z411
  have z437 : ∀ j9, S430.i qa395 j9 = 0 := by rw [← hS430]; exact zqa395
  have z438 : S430.I qa5 2 = 0 := by rw [← hS430]; exact z413
  have z439 : S430.I qa35 2 = 0 := by rw [← hS430]; exact z417
  have F440 : S430.F o1 13 = some qa395 := by rw [← hS430]; exact sF_eq
  refine lv_aload_n hx hb dX12_init_115 rfl (lv_at hl 0 rfl) ?_
  refine lv_iconst (v := 5) hx hb dX12_init_116 (by decide) ?_
  refine va_newa (atype := .int) hx hb (hts (.arrayClass .int) (by decide +kernel)) (ty := .int) rfl hK hP hD hS hA (N' := 5) (a0 := (5, .inl (fun _ => 0))) (fun _ => rfl) (by decide) (by decide) (by decide) (Nat.le_of_ble_eq_true rfl) (Nat.le_of_ble_eq_true rfl) dX12_init_117 (fun qa441 cqa441 H hK2 hP2 hD2 hS => ?_)
  obtain rfl : cqa441 = cy 2 := cls_int hK hK2
  have hqa441 : qa441 ∉ S430.L := nw_q hD2
  have e9 := wNw (cy := cy) (X := X) (S := S430) (a := qa441) (k := 23) (z := 5) (f := fun _ => 0) (g := fun _ => none) hqa441 rfl
  obtain ⟨S442, hS442⟩ : ∃ z, S430.nw qa441 23 5 (fun _ => 0) (fun _ => none) = z := ⟨_, rfl⟩
  replace hP : va_P D vwCl (X ++ PL cy S442) H := by rw [← hS442, ← e9]; exact hP2
  replace hD : va_D A (X ++ PL cy S442) := by rw [← hS442, ← e9]; exact hD2
  clear hP2 hD2 e9
  have xe443 : ext S430 S442 := by rw [← hS442]; exact ext.nw hqa441
  have t444 : stp ([] : List (Nat × Nat)) [o1] (o1 :: R) S S442 := by rw [← hS442]; exact t432.nwA hqa441 (by decide)
  have xm446 : ext S260 S396 := xm401.tr xe397
  have xm447 : ext S260 S430 := xm446.tr xe431
  have am448 : isA S430 qa259 23 := xm447.A aqa259
  have z445 : ∀ j9, S442.i qa259 j9 = 0 := by rw [← hS442]; exact fun j9 => (congrFun (up_nq (f := S430.i) (fun e9 : qa259 = qa441 => hqa441 (e9 ▸ am448.1))) j9).trans (z433 j9)
  have xm450 : ext S288 S396 := xm405.tr xe397
  have xm451 : ext S288 S430 := xm450.tr xe431
  have am452 : isA S430 qa287 23 := xm451.A aqa287
  have z449 : ∀ j9, S442.i qa287 j9 = 0 := by rw [← hS442]; exact fun j9 => (congrFun (up_nq (f := S430.i) (fun e9 : qa287 = qa441 => hqa441 (e9 ▸ am452.1))) j9).trans (z434 j9)
  have xm454 : ext S319 S396 := xm409.tr xe397
  have xm455 : ext S319 S430 := xm454.tr xe431
  have am456 : isA S430 qa318 23 := xm455.A aqa318
  have z453 : ∀ j9, S442.i qa318 j9 = 0 := by rw [← hS442]; exact fun j9 => (congrFun (up_nq (f := S430.i) (fun e9 : qa318 = qa441 => hqa441 (e9 ▸ am456.1))) j9).trans (z435 j9)
  have xm458 : ext S355 S396 := xe386.tr xe397
  have xm459 : ext S355 S430 := xm458.tr xe431
  have am460 : isA S430 qa354 23 := xm459.A aqa354
  have z457 : ∀ j9, S442.i qa354 j9 = 0 := by rw [← hS442]; exact fun j9 => (congrFun (up_nq (f := S430.i) (fun e9 : qa354 = qa441 => hqa441 (e9 ▸ am460.1))) j9).trans (z436 j9)
  have am462 : isA S430 qa395 23 := xe431.A aqa395
  have z461 : ∀ j9, S442.i qa395 j9 = 0 := by rw [← hS442]; exact fun j9 => (congrFun (up_nq (f := S430.i) (fun e9 : qa395 = qa441 => hqa441 (e9 ▸ am462.1))) j9).trans (z437 j9)
  have xm464 : ext S15 S396 := xm415.tr xe397
  have xm465 : ext S15 S430 := xm464.tr xe431
  have am466 : isA S430 qa5 14 := xm465.A (xe17.A aqa5)
  have z463 : S442.I qa5 2 = 0 := by rw [← hS442]; exact (nw_Io hqa441 am466.1).trans z438
  have xm468 : ext S48 S396 := xm419.tr xe397
  have xm469 : ext S48 S430 := xm468.tr xe431
  have am470 : isA S430 qa35 14 := xm469.A (xe50.A aqa35)
  have z467 : S442.I qa35 2 = 0 := by rw [← hS442]; exact (nw_Io hqa441 am470.1).trans z439
  refine W.widen (k := 15) (n := 80) (Nat.le_of_ble_eq_true rfl) (Nat.le_of_ble_eq_true rfl) ?_
  have aqa441 : isA S442 qa441 23 := by rw [← hS442]; exact nw_A (by decide)
  have nqa441 : S442.n qa441 = 5 := by rw [← hS442]; exact nw_n
  have zqa441 : ∀ j9, S442.i qa441 j9 = 0 := by rw [← hS442]; exact fun j9 => congrFun (up_qq (f := S430.i)) j9
  have xm471 : ext S S430 := xm422.tr xe431
  have xm472 : ext S S442 := xm471.tr xe443
  have am473 : isA S442 o1 12 := xm472.A h_o1
  obtain ⟨k474, gk474, hk474⟩ := wGt (cy := cy) X S442 am473.1 am473.2.1
  refine va_putF (D := D) (ci := 16) (v := .ref qa441) (ty := (tyX12 14)) (C := RX12) (T := TX12) (N := 34) hx hb hts hi_X12_init_X12 tyX12 tyX12_ok nmX12 hown hK hP hD hS k474 hk474 rfl 14 (by decide) (hts (.fieldLink RX12 69 "HobhouseModel" "seconds" "[I") (by decide +kernel)) (fun _ h9 => h9) rfl hin rfl (by decide +kernel) (rfl) (rfl) (Nat.le_of_ble_eq_true rfl) dX12_init_119 (fun H locs hP2 hD2 hS => ?_)
  have e9 := wPuF (cy := cy) (j := 14) (v := (some qa441)) hD am473.1 am473.2.1 gk474 rfl
  have N475 : ∀ j9, j9 ∉ (13 :: 12 :: 11 :: 10 :: 9 :: 8 :: 7 :: 6 :: 5 :: 4 :: 3 :: 2 :: 1 :: 0 :: 77 :: [] : List Nat) → S430.F o1 j9 = none := by rw [← hS430]; exact fun j9 h9 => (sF_ne (fun q9 => h9 (by rw [q9.2]; exact List.mem_cons_self))).trans (N427 j9 (fun q9 => h9 (List.mem_cons_of_mem _ q9)))
  have Z476 : ∀ j9, j9 ∉ ([] : List Nat) → S430.I o1 j9 = 0 := by rw [← hS430]; exact Z428
  have am479 : isA S430 o1 12 := xm471.A h_o1
  have N477 : ∀ j9, j9 ∉ (13 :: 12 :: 11 :: 10 :: 9 :: 8 :: 7 :: 6 :: 5 :: 4 :: 3 :: 2 :: 1 :: 0 :: 77 :: [] : List Nat) → S442.F o1 j9 = none := by rw [← hS442]; exact fun j9 h9 => (nw_Fo hqa441 am479.1).trans (N475 j9 h9)
  have Z478 : ∀ j9, j9 ∉ ([] : List Nat) → S442.I o1 j9 = 0 := by rw [← hS442]; exact fun j9 h9 => (nw_Io hqa441 am479.1).trans (Z476 j9 h9)
  obtain ⟨S480, hS480⟩ : ∃ z, S442.sF o1 14 (some qa441) = z := ⟨_, rfl⟩
  replace hP : va_P D vwCl (X ++ PL cy S480) H := by rw [← hS480, ← e9]; exact hP2
  replace hD : va_D A (X ++ PL cy S480) := by rw [← hS480, ← e9]; exact hD2
  clear hP2 hD2 e9
  have xe481 : ext S442 S480 := by rw [← hS480]; exact ext.sF (N477 14 (by decide))
  have t482 : stp ([] : List (Nat × Nat)) [o1] (o1 :: R) S S480 := by rw [← hS480]; exact t444.F 14 qa441 List.mem_cons_self (Or.inl List.mem_cons_self) (N477 14 (by decide))
  have z483 : ∀ j9, S480.i qa259 j9 = 0 := by rw [← hS480]; exact z445
  have z484 : ∀ j9, S480.i qa287 j9 = 0 := by rw [← hS480]; exact z449
  have z485 : ∀ j9, S480.i qa318 j9 = 0 := by rw [← hS480]; exact z453
  have z486 : ∀ j9, S480.i qa354 j9 = 0 := by rw [← hS480]; exact z457
  have z487 : ∀ j9, S480.i qa395 j9 = 0 := by rw [← hS480]; exact z461
  have z488 : ∀ j9, S480.i qa441 j9 = 0 := by rw [← hS480]; exact zqa441
  have z489 : S480.I qa5 2 = 0 := by rw [← hS480]; exact z463
  have z490 : S480.I qa35 2 = 0 := by rw [← hS480]; exact z467
  have F491 : S480.F o1 14 = some qa441 := by rw [← hS480]; exact sF_eq
  refine lv_aload_n hx hb dX12_init_122 rfl (lv_at hl 0 rfl) ?_
  refine lv_bipush (v := 24) hx hb dX12_init_123 (by decide +kernel) ?_
  have xm492 : ext S S480 := xm472.tr xe481
  have am493 : isA S480 o1 12 := xm492.A h_o1
  obtain ⟨k494, gk494, hk494⟩ := wGt (cy := cy) X S480 am493.1 am493.2.1
  refine va_put (D := D) (ci := 16) (v := .int (24 : Int32)) (ty := .int) (C := RX12) (T := TX12) (N := 34) hx hb hts hi_X12_init_X12 tyX12 tyX12_ok nmX12 hown hK hP hD hS k494 hk494 rfl 17 (by decide) (hts (.fieldLink RX12 72 "HobhouseModel" "constant" "I") (by decide +kernel)) (fun _ h9 => h9) rfl (by decide +kernel) (rfl) (rfl) (Nat.le_of_ble_eq_true rfl) dX12_init_125 (fun H locs hP2 hD2 hS => ?_)
  have e9 := wPuI (cy := cy) (j := 17) (v := (24 : Int32)) hD am493.1 am493.2.1 gk494 rfl
  obtain ⟨S495, hS495⟩ : ∃ z, S480.sI o1 17 (24 : Int32) = z := ⟨_, rfl⟩
  replace hP : va_P D vwCl (X ++ PL cy S495) H := by rw [← hS495, ← e9]; exact hP2
  replace hD : va_D A (X ++ PL cy S495) := by rw [← hS495, ← e9]; exact hD2
  clear hP2 hD2 e9
  have xe496 : ext S480 S495 := by rw [← hS495]; exact ext.sI _ _ _ _
  have t497 : stp ([] : List (Nat × Nat)) [o1] (o1 :: R) S S495 := by rw [← hS495]; exact t482.Ir 17 (24 : Int32) List.mem_cons_self (Or.inl List.mem_cons_self)
  have z498 : ∀ j9, S495.i qa259 j9 = 0 := by rw [← hS495]; exact z483
  have z499 : ∀ j9, S495.i qa287 j9 = 0 := by rw [← hS495]; exact z484
  have z500 : ∀ j9, S495.i qa318 j9 = 0 := by rw [← hS495]; exact z485
  have z501 : ∀ j9, S495.i qa354 j9 = 0 := by rw [← hS495]; exact z486
  have z502 : ∀ j9, S495.i qa395 j9 = 0 := by rw [← hS495]; exact z487
  have z503 : ∀ j9, S495.i qa441 j9 = 0 := by rw [← hS495]; exact z488
  have xm505 : ext S15 S442 := xm465.tr xe443
  have xm506 : ext S15 S480 := xm505.tr xe481
  have am507 : isA S480 qa5 14 := xm506.A (xe17.A aqa5)
  have z504 : S495.I qa5 2 = 0 := by rw [← hS495]; exact (congrFun (sI_no (fun e9 : qa5 = o1 => absurd (am507.2.1.symm.trans ((congrArg S480.K e9).trans am493.2.1)) (by decide))) 2).trans z489
  have xm509 : ext S48 S442 := xm469.tr xe443
  have xm510 : ext S48 S480 := xm509.tr xe481
  have am511 : isA S480 qa35 14 := xm510.A (xe50.A aqa35)
  have z508 : S495.I qa35 2 = 0 := by rw [← hS495]; exact (congrFun (sI_no (fun e9 : qa35 = o1 => absurd (am511.2.1.symm.trans ((congrArg S480.K e9).trans am493.2.1)) (by decide))) 2).trans z490
  refine lv_aload_n hx hb dX12_init_128 rfl (lv_at hl 0 rfl) ?_
  refine lv_bipush (v := 60) hx hb dX12_init_129 (by decide +kernel) ?_
  have xm512 : ext S S495 := xm492.tr xe496
  have am513 : isA S495 o1 12 := xm512.A h_o1
  obtain ⟨k514, gk514, hk514⟩ := wGt (cy := cy) X S495 am513.1 am513.2.1
  refine va_put (D := D) (ci := 16) (v := .int (60 : Int32)) (ty := .int) (C := RX12) (T := TX12) (N := 34) hx hb hts hi_X12_init_X12 tyX12 tyX12_ok nmX12 hown hK hP hD hS k514 hk514 rfl 18 (by decide) (hts (.fieldLink RX12 76 "HobhouseModel" "wheelTeeth" "I") (by decide +kernel)) (fun _ h9 => h9) rfl (by decide +kernel) (rfl) (rfl) (Nat.le_of_ble_eq_true rfl) dX12_init_131 (fun H locs hP2 hD2 hS => ?_)
  have e9 := wPuI (cy := cy) (j := 18) (v := (60 : Int32)) hD am513.1 am513.2.1 gk514 rfl
  obtain ⟨S515, hS515⟩ : ∃ z, S495.sI o1 18 (60 : Int32) = z := ⟨_, rfl⟩
  replace hP : va_P D vwCl (X ++ PL cy S515) H := by rw [← hS515, ← e9]; exact hP2
  replace hD : va_D A (X ++ PL cy S515) := by rw [← hS515, ← e9]; exact hD2
  clear hP2 hD2 e9
  have xe516 : ext S495 S515 := by rw [← hS515]; exact ext.sI _ _ _ _
  have t517 : stp ([] : List (Nat × Nat)) [o1] (o1 :: R) S S515 := by rw [← hS515]; exact t497.Ir 18 (60 : Int32) List.mem_cons_self (Or.inl List.mem_cons_self)
  have z518 : ∀ j9, S515.i qa259 j9 = 0 := by rw [← hS515]; exact z498
  have z519 : ∀ j9, S515.i qa287 j9 = 0 := by rw [← hS515]; exact z499
  have z520 : ∀ j9, S515.i qa318 j9 = 0 := by rw [← hS515]; exact z500
  have z521 : ∀ j9, S515.i qa354 j9 = 0 := by rw [← hS515]; exact z501
  have z522 : ∀ j9, S515.i qa395 j9 = 0 := by rw [← hS515]; exact z502
  have z523 : ∀ j9, S515.i qa441 j9 = 0 := by rw [← hS515]; exact z503
  have xm525 : ext S15 S495 := xm506.tr xe496
  have am526 : isA S495 qa5 14 := xm525.A (xe17.A aqa5)
  have z524 : S515.I qa5 2 = 0 := by rw [← hS515]; exact (congrFun (sI_no (fun e9 : qa5 = o1 => absurd (am526.2.1.symm.trans ((congrArg S495.K e9).trans am513.2.1)) (by decide))) 2).trans z504
  have xm528 : ext S48 S495 := xm510.tr xe496
  have am529 : isA S495 qa35 14 := xm528.A (xe50.A aqa35)
  have z527 : S515.I qa35 2 = 0 := by rw [← hS515]; exact (congrFun (sI_no (fun e9 : qa35 = o1 => absurd (am529.2.1.symm.trans ((congrArg S495.K e9).trans am513.2.1)) (by decide))) 2).trans z508
  refine lv_aload_n hx hb dX12_init_134 rfl (lv_at hl 0 rfl) ?_
  refine lv_sipush (v := 200) hx hb dX12_init_135 (by decide +kernel) ?_
  refine va_newa (atype := .int) hx hb (hts (.arrayClass .int) (by decide +kernel)) (ty := .int) rfl hK hP hD hS hA (N' := 200) (a0 := (200, .inl (fun _ => 0))) (fun _ => rfl) (by decide) (by decide) (by decide) (Nat.le_of_ble_eq_true rfl) (Nat.le_of_ble_eq_true rfl) dX12_init_138 (fun qa530 cqa530 H hK2 hP2 hD2 hS => ?_)
  obtain rfl : cqa530 = cy 2 := cls_int hK hK2
  have hqa530 : qa530 ∉ S515.L := nw_q hD2
  have e9 := wNw (cy := cy) (X := X) (S := S515) (a := qa530) (k := 17) (z := 200) (f := fun _ => 0) (g := fun _ => none) hqa530 rfl
  obtain ⟨S531, hS531⟩ : ∃ z, S515.nw qa530 17 200 (fun _ => 0) (fun _ => none) = z := ⟨_, rfl⟩
  replace hP : va_P D vwCl (X ++ PL cy S531) H := by rw [← hS531, ← e9]; exact hP2
  replace hD : va_D A (X ++ PL cy S531) := by rw [← hS531, ← e9]; exact hD2
  clear hP2 hD2 e9
  have xe532 : ext S515 S531 := by rw [← hS531]; exact ext.nw hqa530
  have t533 : stp ([] : List (Nat × Nat)) [o1] (o1 :: R) S S531 := by rw [← hS531]; exact t517.nwA hqa530 (by decide)
  have xm535 : ext S260 S442 := xm447.tr xe443
  have xm536 : ext S260 S480 := xm535.tr xe481
  have xm537 : ext S260 S495 := xm536.tr xe496
  have xm538 : ext S260 S515 := xm537.tr xe516
  have am539 : isA S515 qa259 23 := xm538.A aqa259
  have z534 : ∀ j9, S531.i qa259 j9 = 0 := by rw [← hS531]; exact fun j9 => (congrFun (up_nq (f := S515.i) (fun e9 : qa259 = qa530 => hqa530 (e9 ▸ am539.1))) j9).trans (z518 j9)
  have xm541 : ext S288 S442 := xm451.tr xe443
  have xm542 : ext S288 S480 := xm541.tr xe481
  have xm543 : ext S288 S495 := xm542.tr xe496
  have xm544 : ext S288 S515 := xm543.tr xe516
  have am545 : isA S515 qa287 23 := xm544.A aqa287
  have z540 : ∀ j9, S531.i qa287 j9 = 0 := by rw [← hS531]; exact fun j9 => (congrFun (up_nq (f := S515.i) (fun e9 : qa287 = qa530 => hqa530 (e9 ▸ am545.1))) j9).trans (z519 j9)
  have xm547 : ext S319 S442 := xm455.tr xe443
  have xm548 : ext S319 S480 := xm547.tr xe481
  have xm549 : ext S319 S495 := xm548.tr xe496
  have xm550 : ext S319 S515 := xm549.tr xe516
  have am551 : isA S515 qa318 23 := xm550.A aqa318
  have z546 : ∀ j9, S531.i qa318 j9 = 0 := by rw [← hS531]; exact fun j9 => (congrFun (up_nq (f := S515.i) (fun e9 : qa318 = qa530 => hqa530 (e9 ▸ am551.1))) j9).trans (z520 j9)
  have xm553 : ext S355 S442 := xm459.tr xe443
  have xm554 : ext S355 S480 := xm553.tr xe481
  have xm555 : ext S355 S495 := xm554.tr xe496
  have xm556 : ext S355 S515 := xm555.tr xe516
  have am557 : isA S515 qa354 23 := xm556.A aqa354
  have z552 : ∀ j9, S531.i qa354 j9 = 0 := by rw [← hS531]; exact fun j9 => (congrFun (up_nq (f := S515.i) (fun e9 : qa354 = qa530 => hqa530 (e9 ▸ am557.1))) j9).trans (z521 j9)
  have xm559 : ext S396 S442 := xe431.tr xe443
  have xm560 : ext S396 S480 := xm559.tr xe481
  have xm561 : ext S396 S495 := xm560.tr xe496
  have xm562 : ext S396 S515 := xm561.tr xe516
  have am563 : isA S515 qa395 23 := xm562.A aqa395
  have z558 : ∀ j9, S531.i qa395 j9 = 0 := by rw [← hS531]; exact fun j9 => (congrFun (up_nq (f := S515.i) (fun e9 : qa395 = qa530 => hqa530 (e9 ▸ am563.1))) j9).trans (z522 j9)
  have xm565 : ext S442 S495 := xe481.tr xe496
  have xm566 : ext S442 S515 := xm565.tr xe516
  have am567 : isA S515 qa441 23 := xm566.A aqa441
  have z564 : ∀ j9, S531.i qa441 j9 = 0 := by rw [← hS531]; exact fun j9 => (congrFun (up_nq (f := S515.i) (fun e9 : qa441 = qa530 => hqa530 (e9 ▸ am567.1))) j9).trans (z523 j9)
  have xm569 : ext S15 S515 := xm525.tr xe516
  have am570 : isA S515 qa5 14 := xm569.A (xe17.A aqa5)
  have z568 : S531.I qa5 2 = 0 := by rw [← hS531]; exact (nw_Io hqa530 am570.1).trans z524
  have xm572 : ext S48 S515 := xm528.tr xe516
  have am573 : isA S515 qa35 14 := xm572.A (xe50.A aqa35)
  have z571 : S531.I qa35 2 = 0 := by rw [← hS531]; exact (nw_Io hqa530 am573.1).trans z527
  refine W.widen (k := 16) (n := 280) (Nat.le_of_ble_eq_true rfl) (Nat.le_of_ble_eq_true rfl) ?_
  have aqa530 : isA S531 qa530 17 := by rw [← hS531]; exact nw_A (by decide)
  have nqa530 : S531.n qa530 = 200 := by rw [← hS531]; exact nw_n
  have xm574 : ext S S515 := xm512.tr xe516
  have xm575 : ext S S531 := xm574.tr xe532
  have am576 : isA S531 o1 12 := xm575.A h_o1
  obtain ⟨k577, gk577, hk577⟩ := wGt (cy := cy) X S531 am576.1 am576.2.1
  refine va_putF (D := D) (ci := 16) (v := .ref qa530) (ty := (tyX12 29)) (C := RX12) (T := TX12) (N := 34) hx hb hts hi_X12_init_X12 tyX12 tyX12_ok nmX12 hown hK hP hD hS k577 hk577 rfl 29 (by decide) (hts (.fieldLink RX12 79 "HobhouseModel" "highOne" "[I") (by decide +kernel)) (fun _ h9 => h9) rfl hin rfl (by decide +kernel) (rfl) (rfl) (Nat.le_of_ble_eq_true rfl) dX12_init_140 (fun H locs hP2 hD2 hS => ?_)
  have e9 := wPuF (cy := cy) (j := 29) (v := (some qa530)) hD am576.1 am576.2.1 gk577 rfl
  have N578 : ∀ j9, j9 ∉ (14 :: 13 :: 12 :: 11 :: 10 :: 9 :: 8 :: 7 :: 6 :: 5 :: 4 :: 3 :: 2 :: 1 :: 0 :: 77 :: [] : List Nat) → S480.F o1 j9 = none := by rw [← hS480]; exact fun j9 h9 => (sF_ne (fun q9 => h9 (by rw [q9.2]; exact List.mem_cons_self))).trans (N477 j9 (fun q9 => h9 (List.mem_cons_of_mem _ q9)))
  have Z579 : ∀ j9, j9 ∉ ([] : List Nat) → S480.I o1 j9 = 0 := by rw [← hS480]; exact Z478
  have N580 : ∀ j9, j9 ∉ (14 :: 13 :: 12 :: 11 :: 10 :: 9 :: 8 :: 7 :: 6 :: 5 :: 4 :: 3 :: 2 :: 1 :: 0 :: 77 :: [] : List Nat) → S495.F o1 j9 = none := by rw [← hS495]; exact N578
  have Z581 : ∀ j9, j9 ∉ (17 :: [] : List Nat) → S495.I o1 j9 = 0 := by rw [← hS495]; exact fun j9 h9 => (sI_I (fun q9 => h9 (by rw [q9.2]; exact List.mem_cons_self))).trans (Z579 j9 (fun q9 => h9 (List.mem_cons_of_mem _ q9)))
  have N582 : ∀ j9, j9 ∉ (14 :: 13 :: 12 :: 11 :: 10 :: 9 :: 8 :: 7 :: 6 :: 5 :: 4 :: 3 :: 2 :: 1 :: 0 :: 77 :: [] : List Nat) → S515.F o1 j9 = none := by rw [← hS515]; exact N580
  have Z583 : ∀ j9, j9 ∉ (18 :: 17 :: [] : List Nat) → S515.I o1 j9 = 0 := by rw [← hS515]; exact fun j9 h9 => (sI_I (fun q9 => h9 (by rw [q9.2]; exact List.mem_cons_self))).trans (Z581 j9 (fun q9 => h9 (List.mem_cons_of_mem _ q9)))
  have am586 : isA S515 o1 12 := xm574.A h_o1
  have N584 : ∀ j9, j9 ∉ (14 :: 13 :: 12 :: 11 :: 10 :: 9 :: 8 :: 7 :: 6 :: 5 :: 4 :: 3 :: 2 :: 1 :: 0 :: 77 :: [] : List Nat) → S531.F o1 j9 = none := by rw [← hS531]; exact fun j9 h9 => (nw_Fo hqa530 am586.1).trans (N582 j9 h9)
  have Z585 : ∀ j9, j9 ∉ (18 :: 17 :: [] : List Nat) → S531.I o1 j9 = 0 := by rw [← hS531]; exact fun j9 h9 => (nw_Io hqa530 am586.1).trans (Z583 j9 h9)
  obtain ⟨S587, hS587⟩ : ∃ z, S531.sF o1 29 (some qa530) = z := ⟨_, rfl⟩
  replace hP : va_P D vwCl (X ++ PL cy S587) H := by rw [← hS587, ← e9]; exact hP2
  replace hD : va_D A (X ++ PL cy S587) := by rw [← hS587, ← e9]; exact hD2
  clear hP2 hD2 e9
  have xe588 : ext S531 S587 := by rw [← hS587]; exact ext.sF (N584 29 (by decide))
  have t589 : stp ([] : List (Nat × Nat)) [o1] (o1 :: R) S S587 := by rw [← hS587]; exact t533.F 29 qa530 List.mem_cons_self (Or.inl List.mem_cons_self) (N584 29 (by decide))
  have z590 : ∀ j9, S587.i qa259 j9 = 0 := by rw [← hS587]; exact z534
  have z591 : ∀ j9, S587.i qa287 j9 = 0 := by rw [← hS587]; exact z540
  have z592 : ∀ j9, S587.i qa318 j9 = 0 := by rw [← hS587]; exact z546
  have z593 : ∀ j9, S587.i qa354 j9 = 0 := by rw [← hS587]; exact z552
  have z594 : ∀ j9, S587.i qa395 j9 = 0 := by rw [← hS587]; exact z558
  have z595 : ∀ j9, S587.i qa441 j9 = 0 := by rw [← hS587]; exact z564
  have z596 : S587.I qa5 2 = 0 := by rw [← hS587]; exact z568
  have z597 : S587.I qa35 2 = 0 := by rw [← hS587]; exact z571
  have F598 : S587.F o1 29 = some qa530 := by rw [← hS587]; exact sF_eq
  refine lv_aload_n hx hb dX12_init_143 rfl (lv_at hl 0 rfl) ?_
  refine lv_sipush (v := 200) hx hb dX12_init_144 (by decide +kernel) ?_
  refine va_newa (atype := .int) hx hb (hts (.arrayClass .int) (by decide +kernel)) (ty := .int) rfl hK hP hD hS hA (N' := 200) (a0 := (200, .inl (fun _ => 0))) (fun _ => rfl) (by decide) (by decide) (by decide) (Nat.le_of_ble_eq_true rfl) (Nat.le_of_ble_eq_true rfl) dX12_init_147 (fun qa599 cqa599 H hK2 hP2 hD2 hS => ?_)
  obtain rfl : cqa599 = cy 2 := cls_int hK hK2
  have hqa599 : qa599 ∉ S587.L := nw_q hD2
  have e9 := wNw (cy := cy) (X := X) (S := S587) (a := qa599) (k := 17) (z := 200) (f := fun _ => 0) (g := fun _ => none) hqa599 rfl
  obtain ⟨S600, hS600⟩ : ∃ z, S587.nw qa599 17 200 (fun _ => 0) (fun _ => none) = z := ⟨_, rfl⟩
  replace hP : va_P D vwCl (X ++ PL cy S600) H := by rw [← hS600, ← e9]; exact hP2
  replace hD : va_D A (X ++ PL cy S600) := by rw [← hS600, ← e9]; exact hD2
  clear hP2 hD2 e9
  have xe601 : ext S587 S600 := by rw [← hS600]; exact ext.nw hqa599
  have t602 : stp ([] : List (Nat × Nat)) [o1] (o1 :: R) S S600 := by rw [← hS600]; exact t589.nwA hqa599 (by decide)
  have xm604 : ext S260 S531 := xm538.tr xe532
  have xm605 : ext S260 S587 := xm604.tr xe588
  have am606 : isA S587 qa259 23 := xm605.A aqa259
  have z603 : ∀ j9, S600.i qa259 j9 = 0 := by rw [← hS600]; exact fun j9 => (congrFun (up_nq (f := S587.i) (fun e9 : qa259 = qa599 => hqa599 (e9 ▸ am606.1))) j9).trans (z590 j9)
  have xm608 : ext S288 S531 := xm544.tr xe532
  have xm609 : ext S288 S587 := xm608.tr xe588
  have am610 : isA S587 qa287 23 := xm609.A aqa287
  have z607 : ∀ j9, S600.i qa287 j9 = 0 := by rw [← hS600]; exact fun j9 => (congrFun (up_nq (f := S587.i) (fun e9 : qa287 = qa599 => hqa599 (e9 ▸ am610.1))) j9).trans (z591 j9)
  have xm612 : ext S319 S531 := xm550.tr xe532
  have xm613 : ext S319 S587 := xm612.tr xe588
  have am614 : isA S587 qa318 23 := xm613.A aqa318
  have z611 : ∀ j9, S600.i qa318 j9 = 0 := by rw [← hS600]; exact fun j9 => (congrFun (up_nq (f := S587.i) (fun e9 : qa318 = qa599 => hqa599 (e9 ▸ am614.1))) j9).trans (z592 j9)
  have xm616 : ext S355 S531 := xm556.tr xe532
  have xm617 : ext S355 S587 := xm616.tr xe588
  have am618 : isA S587 qa354 23 := xm617.A aqa354
  have z615 : ∀ j9, S600.i qa354 j9 = 0 := by rw [← hS600]; exact fun j9 => (congrFun (up_nq (f := S587.i) (fun e9 : qa354 = qa599 => hqa599 (e9 ▸ am618.1))) j9).trans (z593 j9)
  have xm620 : ext S396 S531 := xm562.tr xe532
  have xm621 : ext S396 S587 := xm620.tr xe588
  have am622 : isA S587 qa395 23 := xm621.A aqa395
  have z619 : ∀ j9, S600.i qa395 j9 = 0 := by rw [← hS600]; exact fun j9 => (congrFun (up_nq (f := S587.i) (fun e9 : qa395 = qa599 => hqa599 (e9 ▸ am622.1))) j9).trans (z594 j9)
  have xm624 : ext S442 S531 := xm566.tr xe532
  have xm625 : ext S442 S587 := xm624.tr xe588
  have am626 : isA S587 qa441 23 := xm625.A aqa441
  have z623 : ∀ j9, S600.i qa441 j9 = 0 := by rw [← hS600]; exact fun j9 => (congrFun (up_nq (f := S587.i) (fun e9 : qa441 = qa599 => hqa599 (e9 ▸ am626.1))) j9).trans (z595 j9)
  have xm628 : ext S15 S531 := xm569.tr xe532
  have xm629 : ext S15 S587 := xm628.tr xe588
  have am630 : isA S587 qa5 14 := xm629.A (xe17.A aqa5)
  have z627 : S600.I qa5 2 = 0 := by rw [← hS600]; exact (nw_Io hqa599 am630.1).trans z596
  have xm632 : ext S48 S531 := xm572.tr xe532
  have xm633 : ext S48 S587 := xm632.tr xe588
  have am634 : isA S587 qa35 14 := xm633.A (xe50.A aqa35)
  have z631 : S600.I qa35 2 = 0 := by rw [← hS600]; exact (nw_Io hqa599 am634.1).trans z597
  refine W.widen (k := 17) (n := 480) (Nat.le_of_ble_eq_true rfl) (Nat.le_of_ble_eq_true rfl) ?_
  have aqa599 : isA S600 qa599 17 := by rw [← hS600]; exact nw_A (by decide)
  have nqa599 : S600.n qa599 = 200 := by rw [← hS600]; exact nw_n
  have xm635 : ext S S587 := xm575.tr xe588
  have xm636 : ext S S600 := xm635.tr xe601
  have am637 : isA S600 o1 12 := xm636.A h_o1
  obtain ⟨k638, gk638, hk638⟩ := wGt (cy := cy) X S600 am637.1 am637.2.1
  refine va_putF (D := D) (ci := 16) (v := .ref qa599) (ty := (tyX12 30)) (C := RX12) (T := TX12) (N := 34) hx hb hts hi_X12_init_X12 tyX12 tyX12_ok nmX12 hown hK hP hD hS k638 hk638 rfl 30 (by decide) (hts (.fieldLink RX12 82 "HobhouseModel" "lowOne" "[I") (by decide +kernel)) (fun _ h9 => h9) rfl hin rfl (by decide +kernel) (rfl) (rfl) (Nat.le_of_ble_eq_true rfl) dX12_init_149 (fun H locs hP2 hD2 hS => ?_)
  have e9 := wPuF (cy := cy) (j := 30) (v := (some qa599)) hD am637.1 am637.2.1 gk638 rfl
  have N639 : ∀ j9, j9 ∉ (29 :: 14 :: 13 :: 12 :: 11 :: 10 :: 9 :: 8 :: 7 :: 6 :: 5 :: 4 :: 3 :: 2 :: 1 :: 0 :: 77 :: [] : List Nat) → S587.F o1 j9 = none := by rw [← hS587]; exact fun j9 h9 => (sF_ne (fun q9 => h9 (by rw [q9.2]; exact List.mem_cons_self))).trans (N584 j9 (fun q9 => h9 (List.mem_cons_of_mem _ q9)))
  have Z640 : ∀ j9, j9 ∉ (18 :: 17 :: [] : List Nat) → S587.I o1 j9 = 0 := by rw [← hS587]; exact Z585
  have am643 : isA S587 o1 12 := xm635.A h_o1
  have N641 : ∀ j9, j9 ∉ (29 :: 14 :: 13 :: 12 :: 11 :: 10 :: 9 :: 8 :: 7 :: 6 :: 5 :: 4 :: 3 :: 2 :: 1 :: 0 :: 77 :: [] : List Nat) → S600.F o1 j9 = none := by rw [← hS600]; exact fun j9 h9 => (nw_Fo hqa599 am643.1).trans (N639 j9 h9)
  have Z642 : ∀ j9, j9 ∉ (18 :: 17 :: [] : List Nat) → S600.I o1 j9 = 0 := by rw [← hS600]; exact fun j9 h9 => (nw_Io hqa599 am643.1).trans (Z640 j9 h9)
  obtain ⟨S644, hS644⟩ : ∃ z, S600.sF o1 30 (some qa599) = z := ⟨_, rfl⟩
  replace hP : va_P D vwCl (X ++ PL cy S644) H := by rw [← hS644, ← e9]; exact hP2
  replace hD : va_D A (X ++ PL cy S644) := by rw [← hS644, ← e9]; exact hD2
  clear hP2 hD2 e9
  have xe645 : ext S600 S644 := by rw [← hS644]; exact ext.sF (N641 30 (by decide))
  have t646 : stp ([] : List (Nat × Nat)) [o1] (o1 :: R) S S644 := by rw [← hS644]; exact t602.F 30 qa599 List.mem_cons_self (Or.inl List.mem_cons_self) (N641 30 (by decide))
  have z647 : ∀ j9, S644.i qa259 j9 = 0 := by rw [← hS644]; exact z603
  have z648 : ∀ j9, S644.i qa287 j9 = 0 := by rw [← hS644]; exact z607
  have z649 : ∀ j9, S644.i qa318 j9 = 0 := by rw [← hS644]; exact z611
  have z650 : ∀ j9, S644.i qa354 j9 = 0 := by rw [← hS644]; exact z615
  have z651 : ∀ j9, S644.i qa395 j9 = 0 := by rw [← hS644]; exact z619
  have z652 : ∀ j9, S644.i qa441 j9 = 0 := by rw [← hS644]; exact z623
  have z653 : S644.I qa5 2 = 0 := by rw [← hS644]; exact z627
  have z654 : S644.I qa35 2 = 0 := by rw [← hS644]; exact z631
  have F655 : S644.F o1 30 = some qa599 := by rw [← hS644]; exact sF_eq
  refine lv_aload_n hx hb dX12_init_152 rfl (lv_at hl 0 rfl) ?_
  refine lv_sipush (v := 200) hx hb dX12_init_153 (by decide +kernel) ?_
  refine va_newa (atype := .int) hx hb (hts (.arrayClass .int) (by decide +kernel)) (ty := .int) rfl hK hP hD hS hA (N' := 200) (a0 := (200, .inl (fun _ => 0))) (fun _ => rfl) (by decide) (by decide) (by decide) (Nat.le_of_ble_eq_true rfl) (Nat.le_of_ble_eq_true rfl) dX12_init_156 (fun qa656 cqa656 H hK2 hP2 hD2 hS => ?_)
  obtain rfl : cqa656 = cy 2 := cls_int hK hK2
  have hqa656 : qa656 ∉ S644.L := nw_q hD2
  have e9 := wNw (cy := cy) (X := X) (S := S644) (a := qa656) (k := 17) (z := 200) (f := fun _ => 0) (g := fun _ => none) hqa656 rfl
  obtain ⟨S657, hS657⟩ : ∃ z, S644.nw qa656 17 200 (fun _ => 0) (fun _ => none) = z := ⟨_, rfl⟩
  replace hP : va_P D vwCl (X ++ PL cy S657) H := by rw [← hS657, ← e9]; exact hP2
  replace hD : va_D A (X ++ PL cy S657) := by rw [← hS657, ← e9]; exact hD2
  clear hP2 hD2 e9
  have xe658 : ext S644 S657 := by rw [← hS657]; exact ext.nw hqa656
  have t659 : stp ([] : List (Nat × Nat)) [o1] (o1 :: R) S S657 := by rw [← hS657]; exact t646.nwA hqa656 (by decide)
  have xm661 : ext S260 S600 := xm605.tr xe601
  have xm662 : ext S260 S644 := xm661.tr xe645
  have am663 : isA S644 qa259 23 := xm662.A aqa259
  have z660 : ∀ j9, S657.i qa259 j9 = 0 := by rw [← hS657]; exact fun j9 => (congrFun (up_nq (f := S644.i) (fun e9 : qa259 = qa656 => hqa656 (e9 ▸ am663.1))) j9).trans (z647 j9)
  have xm665 : ext S288 S600 := xm609.tr xe601
  have xm666 : ext S288 S644 := xm665.tr xe645
  have am667 : isA S644 qa287 23 := xm666.A aqa287
  have z664 : ∀ j9, S657.i qa287 j9 = 0 := by rw [← hS657]; exact fun j9 => (congrFun (up_nq (f := S644.i) (fun e9 : qa287 = qa656 => hqa656 (e9 ▸ am667.1))) j9).trans (z648 j9)
  have xm669 : ext S319 S600 := xm613.tr xe601
  have xm670 : ext S319 S644 := xm669.tr xe645
  have am671 : isA S644 qa318 23 := xm670.A aqa318
  have z668 : ∀ j9, S657.i qa318 j9 = 0 := by rw [← hS657]; exact fun j9 => (congrFun (up_nq (f := S644.i) (fun e9 : qa318 = qa656 => hqa656 (e9 ▸ am671.1))) j9).trans (z649 j9)
  have xm673 : ext S355 S600 := xm617.tr xe601
  have xm674 : ext S355 S644 := xm673.tr xe645
  have am675 : isA S644 qa354 23 := xm674.A aqa354
  have z672 : ∀ j9, S657.i qa354 j9 = 0 := by rw [← hS657]; exact fun j9 => (congrFun (up_nq (f := S644.i) (fun e9 : qa354 = qa656 => hqa656 (e9 ▸ am675.1))) j9).trans (z650 j9)
  have xm677 : ext S396 S600 := xm621.tr xe601
  have xm678 : ext S396 S644 := xm677.tr xe645
  have am679 : isA S644 qa395 23 := xm678.A aqa395
  have z676 : ∀ j9, S657.i qa395 j9 = 0 := by rw [← hS657]; exact fun j9 => (congrFun (up_nq (f := S644.i) (fun e9 : qa395 = qa656 => hqa656 (e9 ▸ am679.1))) j9).trans (z651 j9)
  have xm681 : ext S442 S600 := xm625.tr xe601
  have xm682 : ext S442 S644 := xm681.tr xe645
  have am683 : isA S644 qa441 23 := xm682.A aqa441
  have z680 : ∀ j9, S657.i qa441 j9 = 0 := by rw [← hS657]; exact fun j9 => (congrFun (up_nq (f := S644.i) (fun e9 : qa441 = qa656 => hqa656 (e9 ▸ am683.1))) j9).trans (z652 j9)
  have xm685 : ext S15 S600 := xm629.tr xe601
  have xm686 : ext S15 S644 := xm685.tr xe645
  have am687 : isA S644 qa5 14 := xm686.A (xe17.A aqa5)
  have z684 : S657.I qa5 2 = 0 := by rw [← hS657]; exact (nw_Io hqa656 am687.1).trans z653
  have xm689 : ext S48 S600 := xm633.tr xe601
  have xm690 : ext S48 S644 := xm689.tr xe645
  have am691 : isA S644 qa35 14 := xm690.A (xe50.A aqa35)
  have z688 : S657.I qa35 2 = 0 := by rw [← hS657]; exact (nw_Io hqa656 am691.1).trans z654
  refine W.widen (k := 18) (n := 680) (Nat.le_of_ble_eq_true rfl) (Nat.le_of_ble_eq_true rfl) ?_
  have aqa656 : isA S657 qa656 17 := by rw [← hS657]; exact nw_A (by decide)
  have nqa656 : S657.n qa656 = 200 := by rw [← hS657]; exact nw_n
  have xm692 : ext S S644 := xm636.tr xe645
  have xm693 : ext S S657 := xm692.tr xe658
  have am694 : isA S657 o1 12 := xm693.A h_o1
  obtain ⟨k695, gk695, hk695⟩ := wGt (cy := cy) X S657 am694.1 am694.2.1
  refine va_putF (D := D) (ci := 16) (v := .ref qa656) (ty := (tyX12 31)) (C := RX12) (T := TX12) (N := 34) hx hb hts hi_X12_init_X12 tyX12 tyX12_ok nmX12 hown hK hP hD hS k695 hk695 rfl 31 (by decide) (hts (.fieldLink RX12 85 "HobhouseModel" "highOther" "[I") (by decide +kernel)) (fun _ h9 => h9) rfl hin rfl (by decide +kernel) (rfl) (rfl) (Nat.le_of_ble_eq_true rfl) dX12_init_158 (fun H locs hP2 hD2 hS => ?_)
  have e9 := wPuF (cy := cy) (j := 31) (v := (some qa656)) hD am694.1 am694.2.1 gk695 rfl
  have N696 : ∀ j9, j9 ∉ (30 :: 29 :: 14 :: 13 :: 12 :: 11 :: 10 :: 9 :: 8 :: 7 :: 6 :: 5 :: 4 :: 3 :: 2 :: 1 :: 0 :: 77 :: [] : List Nat) → S644.F o1 j9 = none := by rw [← hS644]; exact fun j9 h9 => (sF_ne (fun q9 => h9 (by rw [q9.2]; exact List.mem_cons_self))).trans (N641 j9 (fun q9 => h9 (List.mem_cons_of_mem _ q9)))
  have Z697 : ∀ j9, j9 ∉ (18 :: 17 :: [] : List Nat) → S644.I o1 j9 = 0 := by rw [← hS644]; exact Z642
  have am700 : isA S644 o1 12 := xm692.A h_o1
  have N698 : ∀ j9, j9 ∉ (30 :: 29 :: 14 :: 13 :: 12 :: 11 :: 10 :: 9 :: 8 :: 7 :: 6 :: 5 :: 4 :: 3 :: 2 :: 1 :: 0 :: 77 :: [] : List Nat) → S657.F o1 j9 = none := by rw [← hS657]; exact fun j9 h9 => (nw_Fo hqa656 am700.1).trans (N696 j9 h9)
  have Z699 : ∀ j9, j9 ∉ (18 :: 17 :: [] : List Nat) → S657.I o1 j9 = 0 := by rw [← hS657]; exact fun j9 h9 => (nw_Io hqa656 am700.1).trans (Z697 j9 h9)
  obtain ⟨S701, hS701⟩ : ∃ z, S657.sF o1 31 (some qa656) = z := ⟨_, rfl⟩
  replace hP : va_P D vwCl (X ++ PL cy S701) H := by rw [← hS701, ← e9]; exact hP2
  replace hD : va_D A (X ++ PL cy S701) := by rw [← hS701, ← e9]; exact hD2
  clear hP2 hD2 e9
  have xe702 : ext S657 S701 := by rw [← hS701]; exact ext.sF (N698 31 (by decide))
  have t703 : stp ([] : List (Nat × Nat)) [o1] (o1 :: R) S S701 := by rw [← hS701]; exact t659.F 31 qa656 List.mem_cons_self (Or.inl List.mem_cons_self) (N698 31 (by decide))
  have z704 : ∀ j9, S701.i qa259 j9 = 0 := by rw [← hS701]; exact z660
  have z705 : ∀ j9, S701.i qa287 j9 = 0 := by rw [← hS701]; exact z664
  have z706 : ∀ j9, S701.i qa318 j9 = 0 := by rw [← hS701]; exact z668
  have z707 : ∀ j9, S701.i qa354 j9 = 0 := by rw [← hS701]; exact z672
  have z708 : ∀ j9, S701.i qa395 j9 = 0 := by rw [← hS701]; exact z676
  have z709 : ∀ j9, S701.i qa441 j9 = 0 := by rw [← hS701]; exact z680
  have z710 : S701.I qa5 2 = 0 := by rw [← hS701]; exact z684
  have z711 : S701.I qa35 2 = 0 := by rw [← hS701]; exact z688
  have F712 : S701.F o1 31 = some qa656 := by rw [← hS701]; exact sF_eq
  refine lv_aload_n hx hb dX12_init_161 rfl (lv_at hl 0 rfl) ?_
  refine lv_sipush (v := 200) hx hb dX12_init_162 (by decide +kernel) ?_
  refine va_newa (atype := .int) hx hb (hts (.arrayClass .int) (by decide +kernel)) (ty := .int) rfl hK hP hD hS hA (N' := 200) (a0 := (200, .inl (fun _ => 0))) (fun _ => rfl) (by decide) (by decide) (by decide) (Nat.le_of_ble_eq_true rfl) (Nat.le_of_ble_eq_true rfl) dX12_init_165 (fun qa713 cqa713 H hK2 hP2 hD2 hS => ?_)
  obtain rfl : cqa713 = cy 2 := cls_int hK hK2
  have hqa713 : qa713 ∉ S701.L := nw_q hD2
  have e9 := wNw (cy := cy) (X := X) (S := S701) (a := qa713) (k := 17) (z := 200) (f := fun _ => 0) (g := fun _ => none) hqa713 rfl
  obtain ⟨S714, hS714⟩ : ∃ z, S701.nw qa713 17 200 (fun _ => 0) (fun _ => none) = z := ⟨_, rfl⟩
  replace hP : va_P D vwCl (X ++ PL cy S714) H := by rw [← hS714, ← e9]; exact hP2
  replace hD : va_D A (X ++ PL cy S714) := by rw [← hS714, ← e9]; exact hD2
  clear hP2 hD2 e9
  have xe715 : ext S701 S714 := by rw [← hS714]; exact ext.nw hqa713
  have t716 : stp ([] : List (Nat × Nat)) [o1] (o1 :: R) S S714 := by rw [← hS714]; exact t703.nwA hqa713 (by decide)
  have xm718 : ext S260 S657 := xm662.tr xe658
  have xm719 : ext S260 S701 := xm718.tr xe702
  have am720 : isA S701 qa259 23 := xm719.A aqa259
  have z717 : ∀ j9, S714.i qa259 j9 = 0 := by rw [← hS714]; exact fun j9 => (congrFun (up_nq (f := S701.i) (fun e9 : qa259 = qa713 => hqa713 (e9 ▸ am720.1))) j9).trans (z704 j9)
  have xm722 : ext S288 S657 := xm666.tr xe658
  have xm723 : ext S288 S701 := xm722.tr xe702
  have am724 : isA S701 qa287 23 := xm723.A aqa287
  have z721 : ∀ j9, S714.i qa287 j9 = 0 := by rw [← hS714]; exact fun j9 => (congrFun (up_nq (f := S701.i) (fun e9 : qa287 = qa713 => hqa713 (e9 ▸ am724.1))) j9).trans (z705 j9)
  have xm726 : ext S319 S657 := xm670.tr xe658
  have xm727 : ext S319 S701 := xm726.tr xe702
  have am728 : isA S701 qa318 23 := xm727.A aqa318
  have z725 : ∀ j9, S714.i qa318 j9 = 0 := by rw [← hS714]; exact fun j9 => (congrFun (up_nq (f := S701.i) (fun e9 : qa318 = qa713 => hqa713 (e9 ▸ am728.1))) j9).trans (z706 j9)
  have xm730 : ext S355 S657 := xm674.tr xe658
  have xm731 : ext S355 S701 := xm730.tr xe702
  have am732 : isA S701 qa354 23 := xm731.A aqa354
  have z729 : ∀ j9, S714.i qa354 j9 = 0 := by rw [← hS714]; exact fun j9 => (congrFun (up_nq (f := S701.i) (fun e9 : qa354 = qa713 => hqa713 (e9 ▸ am732.1))) j9).trans (z707 j9)
  have xm734 : ext S396 S657 := xm678.tr xe658
  have xm735 : ext S396 S701 := xm734.tr xe702
  have am736 : isA S701 qa395 23 := xm735.A aqa395
  have z733 : ∀ j9, S714.i qa395 j9 = 0 := by rw [← hS714]; exact fun j9 => (congrFun (up_nq (f := S701.i) (fun e9 : qa395 = qa713 => hqa713 (e9 ▸ am736.1))) j9).trans (z708 j9)
  have xm738 : ext S442 S657 := xm682.tr xe658
  have xm739 : ext S442 S701 := xm738.tr xe702
  have am740 : isA S701 qa441 23 := xm739.A aqa441
  have z737 : ∀ j9, S714.i qa441 j9 = 0 := by rw [← hS714]; exact fun j9 => (congrFun (up_nq (f := S701.i) (fun e9 : qa441 = qa713 => hqa713 (e9 ▸ am740.1))) j9).trans (z709 j9)
  have xm742 : ext S15 S657 := xm686.tr xe658
  have xm743 : ext S15 S701 := xm742.tr xe702
  have am744 : isA S701 qa5 14 := xm743.A (xe17.A aqa5)
  have z741 : S714.I qa5 2 = 0 := by rw [← hS714]; exact (nw_Io hqa713 am744.1).trans z710
  have xm746 : ext S48 S657 := xm690.tr xe658
  have xm747 : ext S48 S701 := xm746.tr xe702
  have am748 : isA S701 qa35 14 := xm747.A (xe50.A aqa35)
  have z745 : S714.I qa35 2 = 0 := by rw [← hS714]; exact (nw_Io hqa713 am748.1).trans z711
  refine W.widen (k := 19) (n := 880) (Nat.le_of_ble_eq_true rfl) (Nat.le_of_ble_eq_true rfl) ?_
  have aqa713 : isA S714 qa713 17 := by rw [← hS714]; exact nw_A (by decide)
  have nqa713 : S714.n qa713 = 200 := by rw [← hS714]; exact nw_n
  have xm749 : ext S S701 := xm693.tr xe702
  have xm750 : ext S S714 := xm749.tr xe715
  have am751 : isA S714 o1 12 := xm750.A h_o1
  obtain ⟨k752, gk752, hk752⟩ := wGt (cy := cy) X S714 am751.1 am751.2.1
  refine va_putF (D := D) (ci := 16) (v := .ref qa713) (ty := (tyX12 32)) (C := RX12) (T := TX12) (N := 34) hx hb hts hi_X12_init_X12 tyX12 tyX12_ok nmX12 hown hK hP hD hS k752 hk752 rfl 32 (by decide) (hts (.fieldLink RX12 88 "HobhouseModel" "lowOther" "[I") (by decide +kernel)) (fun _ h9 => h9) rfl hin rfl (by decide +kernel) (rfl) (rfl) (Nat.le_of_ble_eq_true rfl) dX12_init_167 (fun H locs hP2 hD2 hS => ?_)
  have e9 := wPuF (cy := cy) (j := 32) (v := (some qa713)) hD am751.1 am751.2.1 gk752 rfl
  have N753 : ∀ j9, j9 ∉ (31 :: 30 :: 29 :: 14 :: 13 :: 12 :: 11 :: 10 :: 9 :: 8 :: 7 :: 6 :: 5 :: 4 :: 3 :: 2 :: 1 :: 0 :: 77 :: [] : List Nat) → S701.F o1 j9 = none := by rw [← hS701]; exact fun j9 h9 => (sF_ne (fun q9 => h9 (by rw [q9.2]; exact List.mem_cons_self))).trans (N698 j9 (fun q9 => h9 (List.mem_cons_of_mem _ q9)))
  have Z754 : ∀ j9, j9 ∉ (18 :: 17 :: [] : List Nat) → S701.I o1 j9 = 0 := by rw [← hS701]; exact Z699
  have am757 : isA S701 o1 12 := xm749.A h_o1
  have N755 : ∀ j9, j9 ∉ (31 :: 30 :: 29 :: 14 :: 13 :: 12 :: 11 :: 10 :: 9 :: 8 :: 7 :: 6 :: 5 :: 4 :: 3 :: 2 :: 1 :: 0 :: 77 :: [] : List Nat) → S714.F o1 j9 = none := by rw [← hS714]; exact fun j9 h9 => (nw_Fo hqa713 am757.1).trans (N753 j9 h9)
  have Z756 : ∀ j9, j9 ∉ (18 :: 17 :: [] : List Nat) → S714.I o1 j9 = 0 := by rw [← hS714]; exact fun j9 h9 => (nw_Io hqa713 am757.1).trans (Z754 j9 h9)
  obtain ⟨S758, hS758⟩ : ∃ z, S714.sF o1 32 (some qa713) = z := ⟨_, rfl⟩
  replace hP : va_P D vwCl (X ++ PL cy S758) H := by rw [← hS758, ← e9]; exact hP2
  replace hD : va_D A (X ++ PL cy S758) := by rw [← hS758, ← e9]; exact hD2
  clear hP2 hD2 e9
  have xe759 : ext S714 S758 := by rw [← hS758]; exact ext.sF (N755 32 (by decide))
  have t760 : stp ([] : List (Nat × Nat)) [o1] (o1 :: R) S S758 := by rw [← hS758]; exact t716.F 32 qa713 List.mem_cons_self (Or.inl List.mem_cons_self) (N755 32 (by decide))
  have z761 : ∀ j9, S758.i qa259 j9 = 0 := by rw [← hS758]; exact z717
  have z762 : ∀ j9, S758.i qa287 j9 = 0 := by rw [← hS758]; exact z721
  have z763 : ∀ j9, S758.i qa318 j9 = 0 := by rw [← hS758]; exact z725
  have z764 : ∀ j9, S758.i qa354 j9 = 0 := by rw [← hS758]; exact z729
  have z765 : ∀ j9, S758.i qa395 j9 = 0 := by rw [← hS758]; exact z733
  have z766 : ∀ j9, S758.i qa441 j9 = 0 := by rw [← hS758]; exact z737
  have z767 : S758.I qa5 2 = 0 := by rw [← hS758]; exact z741
  have z768 : S758.I qa35 2 = 0 := by rw [← hS758]; exact z745
  have F769 : S758.F o1 32 = some qa713 := by rw [← hS758]; exact sF_eq
  refine lv_aload_n hx hb dX12_init_170 rfl (lv_at hl 0 rfl) ?_
  refine lv_bipush (v := 25) hx hb dX12_init_171 (by decide +kernel) ?_
  refine va_newa (atype := .int) hx hb (hts (.arrayClass .int) (by decide +kernel)) (ty := .int) rfl hK hP hD hS hA (N' := 25) (a0 := (25, .inl (fun _ => 0))) (fun _ => rfl) (by decide) (by decide) (by decide) (Nat.le_of_ble_eq_true rfl) (Nat.le_of_ble_eq_true rfl) dX12_init_173 (fun qa770 cqa770 H hK2 hP2 hD2 hS => ?_)
  obtain rfl : cqa770 = cy 2 := cls_int hK hK2
  have hqa770 : qa770 ∉ S758.L := nw_q hD2
  have e9 := wNw (cy := cy) (X := X) (S := S758) (a := qa770) (k := 17) (z := 25) (f := fun _ => 0) (g := fun _ => none) hqa770 rfl
  obtain ⟨S771, hS771⟩ : ∃ z, S758.nw qa770 17 25 (fun _ => 0) (fun _ => none) = z := ⟨_, rfl⟩
  replace hP : va_P D vwCl (X ++ PL cy S771) H := by rw [← hS771, ← e9]; exact hP2
  replace hD : va_D A (X ++ PL cy S771) := by rw [← hS771, ← e9]; exact hD2
  clear hP2 hD2 e9
  have xe772 : ext S758 S771 := by rw [← hS771]; exact ext.nw hqa770
  have t773 : stp ([] : List (Nat × Nat)) [o1] (o1 :: R) S S771 := by rw [← hS771]; exact t760.nwA hqa770 (by decide)
  have xm775 : ext S260 S714 := xm719.tr xe715
  have xm776 : ext S260 S758 := xm775.tr xe759
  have am777 : isA S758 qa259 23 := xm776.A aqa259
  have z774 : ∀ j9, S771.i qa259 j9 = 0 := by rw [← hS771]; exact fun j9 => (congrFun (up_nq (f := S758.i) (fun e9 : qa259 = qa770 => hqa770 (e9 ▸ am777.1))) j9).trans (z761 j9)
  have xm779 : ext S288 S714 := xm723.tr xe715
  have xm780 : ext S288 S758 := xm779.tr xe759
  have am781 : isA S758 qa287 23 := xm780.A aqa287
  have z778 : ∀ j9, S771.i qa287 j9 = 0 := by rw [← hS771]; exact fun j9 => (congrFun (up_nq (f := S758.i) (fun e9 : qa287 = qa770 => hqa770 (e9 ▸ am781.1))) j9).trans (z762 j9)
  have xm783 : ext S319 S714 := xm727.tr xe715
  have xm784 : ext S319 S758 := xm783.tr xe759
  have am785 : isA S758 qa318 23 := xm784.A aqa318
  have z782 : ∀ j9, S771.i qa318 j9 = 0 := by rw [← hS771]; exact fun j9 => (congrFun (up_nq (f := S758.i) (fun e9 : qa318 = qa770 => hqa770 (e9 ▸ am785.1))) j9).trans (z763 j9)
  have xm787 : ext S355 S714 := xm731.tr xe715
  have xm788 : ext S355 S758 := xm787.tr xe759
  have am789 : isA S758 qa354 23 := xm788.A aqa354
  have z786 : ∀ j9, S771.i qa354 j9 = 0 := by rw [← hS771]; exact fun j9 => (congrFun (up_nq (f := S758.i) (fun e9 : qa354 = qa770 => hqa770 (e9 ▸ am789.1))) j9).trans (z764 j9)
  have xm791 : ext S396 S714 := xm735.tr xe715
  have xm792 : ext S396 S758 := xm791.tr xe759
  have am793 : isA S758 qa395 23 := xm792.A aqa395
  have z790 : ∀ j9, S771.i qa395 j9 = 0 := by rw [← hS771]; exact fun j9 => (congrFun (up_nq (f := S758.i) (fun e9 : qa395 = qa770 => hqa770 (e9 ▸ am793.1))) j9).trans (z765 j9)
  have xm795 : ext S442 S714 := xm739.tr xe715
  have xm796 : ext S442 S758 := xm795.tr xe759
  have am797 : isA S758 qa441 23 := xm796.A aqa441
  have z794 : ∀ j9, S771.i qa441 j9 = 0 := by rw [← hS771]; exact fun j9 => (congrFun (up_nq (f := S758.i) (fun e9 : qa441 = qa770 => hqa770 (e9 ▸ am797.1))) j9).trans (z766 j9)
  have xm799 : ext S15 S714 := xm743.tr xe715
  have xm800 : ext S15 S758 := xm799.tr xe759
  have am801 : isA S758 qa5 14 := xm800.A (xe17.A aqa5)
  have z798 : S771.I qa5 2 = 0 := by rw [← hS771]; exact (nw_Io hqa770 am801.1).trans z767
  have xm803 : ext S48 S714 := xm747.tr xe715
  have xm804 : ext S48 S758 := xm803.tr xe759
  have am805 : isA S758 qa35 14 := xm804.A (xe50.A aqa35)
  have z802 : S771.I qa35 2 = 0 := by rw [← hS771]; exact (nw_Io hqa770 am805.1).trans z768
  refine W.widen (k := 20) (n := 905) (Nat.le_of_ble_eq_true rfl) (Nat.le_of_ble_eq_true rfl) ?_
  have aqa770 : isA S771 qa770 17 := by rw [← hS771]; exact nw_A (by decide)
  have nqa770 : S771.n qa770 = 25 := by rw [← hS771]; exact nw_n
  have xm806 : ext S S758 := xm750.tr xe759
  have xm807 : ext S S771 := xm806.tr xe772
  have am808 : isA S771 o1 12 := xm807.A h_o1
  obtain ⟨k809, gk809, hk809⟩ := wGt (cy := cy) X S771 am808.1 am808.2.1
  refine va_putF (D := D) (ci := 16) (v := .ref qa770) (ty := (tyX12 33)) (C := RX12) (T := TX12) (N := 34) hx hb hts hi_X12_init_X12 tyX12 tyX12_ok nmX12 hown hK hP hD hS k809 hk809 rfl 33 (by decide) (hts (.fieldLink RX12 91 "HobhouseModel" "peaks" "[I") (by decide +kernel)) (fun _ h9 => h9) rfl hin rfl (by decide +kernel) (rfl) (rfl) (Nat.le_of_ble_eq_true rfl) dX12_init_175 (fun H locs hP2 hD2 hS => ?_)
  have e9 := wPuF (cy := cy) (j := 33) (v := (some qa770)) hD am808.1 am808.2.1 gk809 rfl
  have N810 : ∀ j9, j9 ∉ (32 :: 31 :: 30 :: 29 :: 14 :: 13 :: 12 :: 11 :: 10 :: 9 :: 8 :: 7 :: 6 :: 5 :: 4 :: 3 :: 2 :: 1 :: 0 :: 77 :: [] : List Nat) → S758.F o1 j9 = none := by rw [← hS758]; exact fun j9 h9 => (sF_ne (fun q9 => h9 (by rw [q9.2]; exact List.mem_cons_self))).trans (N755 j9 (fun q9 => h9 (List.mem_cons_of_mem _ q9)))
  have Z811 : ∀ j9, j9 ∉ (18 :: 17 :: [] : List Nat) → S758.I o1 j9 = 0 := by rw [← hS758]; exact Z756
  have am814 : isA S758 o1 12 := xm806.A h_o1
  have N812 : ∀ j9, j9 ∉ (32 :: 31 :: 30 :: 29 :: 14 :: 13 :: 12 :: 11 :: 10 :: 9 :: 8 :: 7 :: 6 :: 5 :: 4 :: 3 :: 2 :: 1 :: 0 :: 77 :: [] : List Nat) → S771.F o1 j9 = none := by rw [← hS771]; exact fun j9 h9 => (nw_Fo hqa770 am814.1).trans (N810 j9 h9)
  have Z813 : ∀ j9, j9 ∉ (18 :: 17 :: [] : List Nat) → S771.I o1 j9 = 0 := by rw [← hS771]; exact fun j9 h9 => (nw_Io hqa770 am814.1).trans (Z811 j9 h9)
  obtain ⟨S815, hS815⟩ : ∃ z, S771.sF o1 33 (some qa770) = z := ⟨_, rfl⟩
  replace hP : va_P D vwCl (X ++ PL cy S815) H := by rw [← hS815, ← e9]; exact hP2
  replace hD : va_D A (X ++ PL cy S815) := by rw [← hS815, ← e9]; exact hD2
  clear hP2 hD2 e9
  have xe816 : ext S771 S815 := by rw [← hS815]; exact ext.sF (N812 33 (by decide))
  have t817 : stp ([] : List (Nat × Nat)) [o1] (o1 :: R) S S815 := by rw [← hS815]; exact t773.F 33 qa770 List.mem_cons_self (Or.inl List.mem_cons_self) (N812 33 (by decide))
  have z818 : ∀ j9, S815.i qa259 j9 = 0 := by rw [← hS815]; exact z774
  have z819 : ∀ j9, S815.i qa287 j9 = 0 := by rw [← hS815]; exact z778
  have z820 : ∀ j9, S815.i qa318 j9 = 0 := by rw [← hS815]; exact z782
  have z821 : ∀ j9, S815.i qa354 j9 = 0 := by rw [← hS815]; exact z786
  have z822 : ∀ j9, S815.i qa395 j9 = 0 := by rw [← hS815]; exact z790
  have z823 : ∀ j9, S815.i qa441 j9 = 0 := by rw [← hS815]; exact z794
  have z824 : S815.I qa5 2 = 0 := by rw [← hS815]; exact z798
  have z825 : S815.I qa35 2 = 0 := by rw [← hS815]; exact z802
  have F826 : S815.F o1 33 = some qa770 := by rw [← hS815]; exact sF_eq
  have xm827 : ext S S815 := xm807.tr xe816
  have am828 : isA S815 o1 12 := xm827.A h_o1
  have oo : isA S815 o1 12 := am828
  have N829 : ∀ j9, j9 ∉ (33 :: 32 :: 31 :: 30 :: 29 :: 14 :: 13 :: 12 :: 11 :: 10 :: 9 :: 8 :: 7 :: 6 :: 5 :: 4 :: 3 :: 2 :: 1 :: 0 :: 77 :: [] : List Nat) → S815.F o1 j9 = none := by rw [← hS815]; exact fun j9 h9 => (sF_ne (fun q9 => h9 (by rw [q9.2]; exact List.mem_cons_self))).trans (N812 j9 (fun q9 => h9 (List.mem_cons_of_mem _ q9)))
  have Z830 : ∀ j9, j9 ∉ (18 :: 17 :: [] : List Nat) → S815.I o1 j9 = 0 := by rw [← hS815]; exact Z813
  have I15 : S815.I o1 15 = (0 : Int32) := (Z830 15 (by decide))
  have I16 : S815.I o1 16 = (0 : Int32) := (Z830 16 (by decide))
  have I17 : S815.I o1 17 = (24 : Int32) := (by rw [← hS815]; show S771.I o1 17 = _; rw [← hS771, nw_Io hqa770 am814.1]; rw [← hS758]; show S714.I o1 17 = _; rw [← hS714, nw_Io hqa713 am757.1]; rw [← hS701]; show S657.I o1 17 = _; rw [← hS657, nw_Io hqa656 am700.1]; rw [← hS644]; show S600.I o1 17 = _; rw [← hS600, nw_Io hqa599 am643.1]; rw [← hS587]; show S531.I o1 17 = _; rw [← hS531, nw_Io hqa530 am586.1]; rw [← hS515, sI_I (by rintro ⟨e1, e2⟩; exact absurd e2 (by decide))]; rw [← hS495, sI_eq])
  have I18 : S815.I o1 18 = (60 : Int32) := (by rw [← hS815]; show S771.I o1 18 = _; rw [← hS771, nw_Io hqa770 am814.1]; rw [← hS758]; show S714.I o1 18 = _; rw [← hS714, nw_Io hqa713 am757.1]; rw [← hS701]; show S657.I o1 18 = _; rw [← hS657, nw_Io hqa656 am700.1]; rw [← hS644]; show S600.I o1 18 = _; rw [← hS600, nw_Io hqa599 am643.1]; rw [← hS587]; show S531.I o1 18 = _; rw [← hS531, nw_Io hqa530 am586.1]; rw [← hS515, sI_eq])
  have I19 : S815.I o1 19 = (0 : Int32) := (Z830 19 (by decide))
  have I20 : S815.I o1 20 = (0 : Int32) := (Z830 20 (by decide))
  have I21 : S815.I o1 21 = (0 : Int32) := (Z830 21 (by decide))
  have I22 : S815.I o1 22 = (0 : Int32) := (Z830 22 (by decide))
  have I23 : S815.I o1 23 = (0 : Int32) := (Z830 23 (by decide))
  have I24 : S815.I o1 24 = (0 : Int32) := (Z830 24 (by decide))
  have I25 : S815.I o1 25 = (0 : Int32) := (Z830 25 (by decide))
  have I26 : S815.I o1 26 = (0 : Int32) := (Z830 26 (by decide))
  have xm831 : ext S30 S48 := xe37.tr xe50
  have xm832 : ext S30 S66 := xm831.tr xe67
  have xm833 : ext S30 S73 := xm832.tr xe74
  have xm834 : ext S30 S91 := xm833.tr xe92
  have xm835 : ext S30 S98 := xm834.tr xe99
  have xm836 : ext S30 S118 := xm835.tr xe119
  have xm837 : ext S30 S125 := xm836.tr xe126
  have xm838 : ext S30 S145 := xm837.tr xe146
  have xm839 : ext S30 S152 := xm838.tr xe153
  have xm840 : ext S30 S172 := xm839.tr xe173
  have xm841 : ext S30 S179 := xm840.tr xe180
  have xm842 : ext S30 S199 := xm841.tr xe200
  have xm843 : ext S30 S206 := xm842.tr xe207
  have xm844 : ext S30 S226 := xm843.tr xe227
  have xm845 : ext S30 S233 := xm844.tr xe234
  have xm846 : ext S30 S253 := xm845.tr xe254
  have xm847 : ext S30 S260 := xm846.tr xe261
  have xm848 : ext S30 S280 := xm847.tr xe281
  have xm849 : ext S30 S288 := xm848.tr xe289
  have xm850 : ext S30 S310 := xm849.tr xe311
  have xm851 : ext S30 S319 := xm850.tr xe320
  have xm852 : ext S30 S345 := xm851.tr xe346
  have xm853 : ext S30 S355 := xm852.tr xe356
  have xm854 : ext S30 S385 := xm853.tr xe386
  have xm855 : ext S30 S396 := xm854.tr xe397
  have xm856 : ext S30 S430 := xm855.tr xe431
  have xm857 : ext S30 S442 := xm856.tr xe443
  have xm858 : ext S30 S480 := xm857.tr xe481
  have xm859 : ext S30 S495 := xm858.tr xe496
  have xm860 : ext S30 S515 := xm859.tr xe516
  have xm861 : ext S30 S531 := xm860.tr xe532
  have xm862 : ext S30 S587 := xm861.tr xe588
  have xm863 : ext S30 S600 := xm862.tr xe601
  have xm864 : ext S30 S644 := xm863.tr xe645
  have xm865 : ext S30 S657 := xm864.tr xe658
  have xm866 : ext S30 S701 := xm865.tr xe702
  have xm867 : ext S30 S714 := xm866.tr xe715
  have xm868 : ext S30 S758 := xm867.tr xe759
  have xm869 : ext S30 S771 := xm868.tr xe772
  have xm870 : ext S30 S815 := xm869.tr xe816
  have xm871 : ext S15 S771 := xm800.tr xe772
  have xm872 : ext S15 S815 := xm871.tr xe816
  have am873 : isA S815 qa5 14 := xm872.A (xe17.A aqa5)
  have xm874 : ext S6 S30 := xe17.tr xe31
  have xm875 : ext S6 S36 := xm874.tr xe37
  have xm876 : ext S6 S48 := xm875.tr xe50
  have xm877 : ext S6 S66 := xm876.tr xe67
  have xm878 : ext S6 S73 := xm877.tr xe74
  have xm879 : ext S6 S91 := xm878.tr xe92
  have xm880 : ext S6 S98 := xm879.tr xe99
  have xm881 : ext S6 S118 := xm880.tr xe119
  have xm882 : ext S6 S125 := xm881.tr xe126
  have xm883 : ext S6 S145 := xm882.tr xe146
  have xm884 : ext S6 S152 := xm883.tr xe153
  have xm885 : ext S6 S172 := xm884.tr xe173
  have xm886 : ext S6 S179 := xm885.tr xe180
  have xm887 : ext S6 S199 := xm886.tr xe200
  have xm888 : ext S6 S206 := xm887.tr xe207
  have xm889 : ext S6 S226 := xm888.tr xe227
  have xm890 : ext S6 S233 := xm889.tr xe234
  have xm891 : ext S6 S253 := xm890.tr xe254
  have xm892 : ext S6 S260 := xm891.tr xe261
  have xm893 : ext S6 S280 := xm892.tr xe281
  have xm894 : ext S6 S288 := xm893.tr xe289
  have xm895 : ext S6 S310 := xm894.tr xe311
  have xm896 : ext S6 S319 := xm895.tr xe320
  have xm897 : ext S6 S345 := xm896.tr xe346
  have xm898 : ext S6 S355 := xm897.tr xe356
  have xm899 : ext S6 S385 := xm898.tr xe386
  have xm900 : ext S6 S396 := xm899.tr xe397
  have xm901 : ext S6 S430 := xm900.tr xe431
  have xm902 : ext S6 S442 := xm901.tr xe443
  have xm903 : ext S6 S480 := xm902.tr xe481
  have xm904 : ext S6 S495 := xm903.tr xe496
  have xm905 : ext S6 S515 := xm904.tr xe516
  have xm906 : ext S6 S531 := xm905.tr xe532
  have xm907 : ext S6 S587 := xm906.tr xe588
  have xm908 : ext S6 S600 := xm907.tr xe601
  have xm909 : ext S6 S644 := xm908.tr xe645
  have xm910 : ext S6 S657 := xm909.tr xe658
  have xm911 : ext S6 S701 := xm910.tr xe702
  have xm912 : ext S6 S714 := xm911.tr xe715
  have xm913 : ext S6 S758 := xm912.tr xe759
  have xm914 : ext S6 S771 := xm913.tr xe772
  have xm915 : ext S6 S815 := xm914.tr xe816
  have xm916 : ext S66 S91 := xe74.tr xe92
  have xm917 : ext S66 S98 := xm916.tr xe99
  have xm918 : ext S66 S118 := xm917.tr xe119
  have xm919 : ext S66 S125 := xm918.tr xe126
  have xm920 : ext S66 S145 := xm919.tr xe146
  have xm921 : ext S66 S152 := xm920.tr xe153
  have xm922 : ext S66 S172 := xm921.tr xe173
  have xm923 : ext S66 S179 := xm922.tr xe180
  have xm924 : ext S66 S199 := xm923.tr xe200
  have xm925 : ext S66 S206 := xm924.tr xe207
  have xm926 : ext S66 S226 := xm925.tr xe227
  have xm927 : ext S66 S233 := xm926.tr xe234
  have xm928 : ext S66 S253 := xm927.tr xe254
  have xm929 : ext S66 S260 := xm928.tr xe261
  have xm930 : ext S66 S280 := xm929.tr xe281
  have xm931 : ext S66 S288 := xm930.tr xe289
  have xm932 : ext S66 S310 := xm931.tr xe311
  have xm933 : ext S66 S319 := xm932.tr xe320
  have xm934 : ext S66 S345 := xm933.tr xe346
  have xm935 : ext S66 S355 := xm934.tr xe356
  have xm936 : ext S66 S385 := xm935.tr xe386
  have xm937 : ext S66 S396 := xm936.tr xe397
  have xm938 : ext S66 S430 := xm937.tr xe431
  have xm939 : ext S66 S442 := xm938.tr xe443
  have xm940 : ext S66 S480 := xm939.tr xe481
  have xm941 : ext S66 S495 := xm940.tr xe496
  have xm942 : ext S66 S515 := xm941.tr xe516
  have xm943 : ext S66 S531 := xm942.tr xe532
  have xm944 : ext S66 S587 := xm943.tr xe588
  have xm945 : ext S66 S600 := xm944.tr xe601
  have xm946 : ext S66 S644 := xm945.tr xe645
  have xm947 : ext S66 S657 := xm946.tr xe658
  have xm948 : ext S66 S701 := xm947.tr xe702
  have xm949 : ext S66 S714 := xm948.tr xe715
  have xm950 : ext S66 S758 := xm949.tr xe759
  have xm951 : ext S66 S771 := xm950.tr xe772
  have xm952 : ext S66 S815 := xm951.tr xe816
  have xm953 : ext S48 S771 := xm804.tr xe772
  have xm954 : ext S48 S815 := xm953.tr xe816
  have am955 : isA S815 qa35 14 := xm954.A (xe50.A aqa35)
  have xm956 : ext S36 S66 := xe50.tr xe67
  have xm957 : ext S36 S73 := xm956.tr xe74
  have xm958 : ext S36 S91 := xm957.tr xe92
  have xm959 : ext S36 S98 := xm958.tr xe99
  have xm960 : ext S36 S118 := xm959.tr xe119
  have xm961 : ext S36 S125 := xm960.tr xe126
  have xm962 : ext S36 S145 := xm961.tr xe146
  have xm963 : ext S36 S152 := xm962.tr xe153
  have xm964 : ext S36 S172 := xm963.tr xe173
  have xm965 : ext S36 S179 := xm964.tr xe180
  have xm966 : ext S36 S199 := xm965.tr xe200
  have xm967 : ext S36 S206 := xm966.tr xe207
  have xm968 : ext S36 S226 := xm967.tr xe227
  have xm969 : ext S36 S233 := xm968.tr xe234
  have xm970 : ext S36 S253 := xm969.tr xe254
  have xm971 : ext S36 S260 := xm970.tr xe261
  have xm972 : ext S36 S280 := xm971.tr xe281
  have xm973 : ext S36 S288 := xm972.tr xe289
  have xm974 : ext S36 S310 := xm973.tr xe311
  have xm975 : ext S36 S319 := xm974.tr xe320
  have xm976 : ext S36 S345 := xm975.tr xe346
  have xm977 : ext S36 S355 := xm976.tr xe356
  have xm978 : ext S36 S385 := xm977.tr xe386
  have xm979 : ext S36 S396 := xm978.tr xe397
  have xm980 : ext S36 S430 := xm979.tr xe431
  have xm981 : ext S36 S442 := xm980.tr xe443
  have xm982 : ext S36 S480 := xm981.tr xe481
  have xm983 : ext S36 S495 := xm982.tr xe496
  have xm984 : ext S36 S515 := xm983.tr xe516
  have xm985 : ext S36 S531 := xm984.tr xe532
  have xm986 : ext S36 S587 := xm985.tr xe588
  have xm987 : ext S36 S600 := xm986.tr xe601
  have xm988 : ext S36 S644 := xm987.tr xe645
  have xm989 : ext S36 S657 := xm988.tr xe658
  have xm990 : ext S36 S701 := xm989.tr xe702
  have xm991 : ext S36 S714 := xm990.tr xe715
  have xm992 : ext S36 S758 := xm991.tr xe759
  have xm993 : ext S36 S771 := xm992.tr xe772
  have xm994 : ext S36 S815 := xm993.tr xe816
  have xm995 : ext S91 S118 := xe99.tr xe119
  have xm996 : ext S91 S125 := xm995.tr xe126
  have xm997 : ext S91 S145 := xm996.tr xe146
  have xm998 : ext S91 S152 := xm997.tr xe153
  have xm999 : ext S91 S172 := xm998.tr xe173
  have xm1000 : ext S91 S179 := xm999.tr xe180
  have xm1001 : ext S91 S199 := xm1000.tr xe200
  have xm1002 : ext S91 S206 := xm1001.tr xe207
  have xm1003 : ext S91 S226 := xm1002.tr xe227
  have xm1004 : ext S91 S233 := xm1003.tr xe234
  have xm1005 : ext S91 S253 := xm1004.tr xe254
  have xm1006 : ext S91 S260 := xm1005.tr xe261
  have xm1007 : ext S91 S280 := xm1006.tr xe281
  have xm1008 : ext S91 S288 := xm1007.tr xe289
  have xm1009 : ext S91 S310 := xm1008.tr xe311
  have xm1010 : ext S91 S319 := xm1009.tr xe320
  have xm1011 : ext S91 S345 := xm1010.tr xe346
  have xm1012 : ext S91 S355 := xm1011.tr xe356
  have xm1013 : ext S91 S385 := xm1012.tr xe386
  have xm1014 : ext S91 S396 := xm1013.tr xe397
  have xm1015 : ext S91 S430 := xm1014.tr xe431
  have xm1016 : ext S91 S442 := xm1015.tr xe443
  have xm1017 : ext S91 S480 := xm1016.tr xe481
  have xm1018 : ext S91 S495 := xm1017.tr xe496
  have xm1019 : ext S91 S515 := xm1018.tr xe516
  have xm1020 : ext S91 S531 := xm1019.tr xe532
  have xm1021 : ext S91 S587 := xm1020.tr xe588
  have xm1022 : ext S91 S600 := xm1021.tr xe601
  have xm1023 : ext S91 S644 := xm1022.tr xe645
  have xm1024 : ext S91 S657 := xm1023.tr xe658
  have xm1025 : ext S91 S701 := xm1024.tr xe702
  have xm1026 : ext S91 S714 := xm1025.tr xe715
  have xm1027 : ext S91 S758 := xm1026.tr xe759
  have xm1028 : ext S91 S771 := xm1027.tr xe772
  have xm1029 : ext S91 S815 := xm1028.tr xe816
  have xm1030 : ext S73 S98 := xe92.tr xe99
  have xm1031 : ext S73 S118 := xm1030.tr xe119
  have xm1032 : ext S73 S125 := xm1031.tr xe126
  have xm1033 : ext S73 S145 := xm1032.tr xe146
  have xm1034 : ext S73 S152 := xm1033.tr xe153
  have xm1035 : ext S73 S172 := xm1034.tr xe173
  have xm1036 : ext S73 S179 := xm1035.tr xe180
  have xm1037 : ext S73 S199 := xm1036.tr xe200
  have xm1038 : ext S73 S206 := xm1037.tr xe207
  have xm1039 : ext S73 S226 := xm1038.tr xe227
  have xm1040 : ext S73 S233 := xm1039.tr xe234
  have xm1041 : ext S73 S253 := xm1040.tr xe254
  have xm1042 : ext S73 S260 := xm1041.tr xe261
  have xm1043 : ext S73 S280 := xm1042.tr xe281
  have xm1044 : ext S73 S288 := xm1043.tr xe289
  have xm1045 : ext S73 S310 := xm1044.tr xe311
  have xm1046 : ext S73 S319 := xm1045.tr xe320
  have xm1047 : ext S73 S345 := xm1046.tr xe346
  have xm1048 : ext S73 S355 := xm1047.tr xe356
  have xm1049 : ext S73 S385 := xm1048.tr xe386
  have xm1050 : ext S73 S396 := xm1049.tr xe397
  have xm1051 : ext S73 S430 := xm1050.tr xe431
  have xm1052 : ext S73 S442 := xm1051.tr xe443
  have xm1053 : ext S73 S480 := xm1052.tr xe481
  have xm1054 : ext S73 S495 := xm1053.tr xe496
  have xm1055 : ext S73 S515 := xm1054.tr xe516
  have xm1056 : ext S73 S531 := xm1055.tr xe532
  have xm1057 : ext S73 S587 := xm1056.tr xe588
  have xm1058 : ext S73 S600 := xm1057.tr xe601
  have xm1059 : ext S73 S644 := xm1058.tr xe645
  have xm1060 : ext S73 S657 := xm1059.tr xe658
  have xm1061 : ext S73 S701 := xm1060.tr xe702
  have xm1062 : ext S73 S714 := xm1061.tr xe715
  have xm1063 : ext S73 S758 := xm1062.tr xe759
  have xm1064 : ext S73 S771 := xm1063.tr xe772
  have xm1065 : ext S73 S815 := xm1064.tr xe816
  have am1066 : isA S815 qa72 31 := xm1065.A aqa72
  have xm1067 : ext S118 S145 := xe126.tr xe146
  have xm1068 : ext S118 S152 := xm1067.tr xe153
  have xm1069 : ext S118 S172 := xm1068.tr xe173
  have xm1070 : ext S118 S179 := xm1069.tr xe180
  have xm1071 : ext S118 S199 := xm1070.tr xe200
  have xm1072 : ext S118 S206 := xm1071.tr xe207
  have xm1073 : ext S118 S226 := xm1072.tr xe227
  have xm1074 : ext S118 S233 := xm1073.tr xe234
  have xm1075 : ext S118 S253 := xm1074.tr xe254
  have xm1076 : ext S118 S260 := xm1075.tr xe261
  have xm1077 : ext S118 S280 := xm1076.tr xe281
  have xm1078 : ext S118 S288 := xm1077.tr xe289
  have xm1079 : ext S118 S310 := xm1078.tr xe311
  have xm1080 : ext S118 S319 := xm1079.tr xe320
  have xm1081 : ext S118 S345 := xm1080.tr xe346
  have xm1082 : ext S118 S355 := xm1081.tr xe356
  have xm1083 : ext S118 S385 := xm1082.tr xe386
  have xm1084 : ext S118 S396 := xm1083.tr xe397
  have xm1085 : ext S118 S430 := xm1084.tr xe431
  have xm1086 : ext S118 S442 := xm1085.tr xe443
  have xm1087 : ext S118 S480 := xm1086.tr xe481
  have xm1088 : ext S118 S495 := xm1087.tr xe496
  have xm1089 : ext S118 S515 := xm1088.tr xe516
  have xm1090 : ext S118 S531 := xm1089.tr xe532
  have xm1091 : ext S118 S587 := xm1090.tr xe588
  have xm1092 : ext S118 S600 := xm1091.tr xe601
  have xm1093 : ext S118 S644 := xm1092.tr xe645
  have xm1094 : ext S118 S657 := xm1093.tr xe658
  have xm1095 : ext S118 S701 := xm1094.tr xe702
  have xm1096 : ext S118 S714 := xm1095.tr xe715
  have xm1097 : ext S118 S758 := xm1096.tr xe759
  have xm1098 : ext S118 S771 := xm1097.tr xe772
  have xm1099 : ext S118 S815 := xm1098.tr xe816
  have xm1100 : ext S98 S125 := xe119.tr xe126
  have xm1101 : ext S98 S145 := xm1100.tr xe146
  have xm1102 : ext S98 S152 := xm1101.tr xe153
  have xm1103 : ext S98 S172 := xm1102.tr xe173
  have xm1104 : ext S98 S179 := xm1103.tr xe180
  have xm1105 : ext S98 S199 := xm1104.tr xe200
  have xm1106 : ext S98 S206 := xm1105.tr xe207
  have xm1107 : ext S98 S226 := xm1106.tr xe227
  have xm1108 : ext S98 S233 := xm1107.tr xe234
  have xm1109 : ext S98 S253 := xm1108.tr xe254
  have xm1110 : ext S98 S260 := xm1109.tr xe261
  have xm1111 : ext S98 S280 := xm1110.tr xe281
  have xm1112 : ext S98 S288 := xm1111.tr xe289
  have xm1113 : ext S98 S310 := xm1112.tr xe311
  have xm1114 : ext S98 S319 := xm1113.tr xe320
  have xm1115 : ext S98 S345 := xm1114.tr xe346
  have xm1116 : ext S98 S355 := xm1115.tr xe356
  have xm1117 : ext S98 S385 := xm1116.tr xe386
  have xm1118 : ext S98 S396 := xm1117.tr xe397
  have xm1119 : ext S98 S430 := xm1118.tr xe431
  have xm1120 : ext S98 S442 := xm1119.tr xe443
  have xm1121 : ext S98 S480 := xm1120.tr xe481
  have xm1122 : ext S98 S495 := xm1121.tr xe496
  have xm1123 : ext S98 S515 := xm1122.tr xe516
  have xm1124 : ext S98 S531 := xm1123.tr xe532
  have xm1125 : ext S98 S587 := xm1124.tr xe588
  have xm1126 : ext S98 S600 := xm1125.tr xe601
  have xm1127 : ext S98 S644 := xm1126.tr xe645
  have xm1128 : ext S98 S657 := xm1127.tr xe658
  have xm1129 : ext S98 S701 := xm1128.tr xe702
  have xm1130 : ext S98 S714 := xm1129.tr xe715
  have xm1131 : ext S98 S758 := xm1130.tr xe759
  have xm1132 : ext S98 S771 := xm1131.tr xe772
  have xm1133 : ext S98 S815 := xm1132.tr xe816
  have am1134 : isA S815 qa97 17 := xm1133.A aqa97
  have xm1135 : ext S145 S172 := xe153.tr xe173
  have xm1136 : ext S145 S179 := xm1135.tr xe180
  have xm1137 : ext S145 S199 := xm1136.tr xe200
  have xm1138 : ext S145 S206 := xm1137.tr xe207
  have xm1139 : ext S145 S226 := xm1138.tr xe227
  have xm1140 : ext S145 S233 := xm1139.tr xe234
  have xm1141 : ext S145 S253 := xm1140.tr xe254
  have xm1142 : ext S145 S260 := xm1141.tr xe261
  have xm1143 : ext S145 S280 := xm1142.tr xe281
  have xm1144 : ext S145 S288 := xm1143.tr xe289
  have xm1145 : ext S145 S310 := xm1144.tr xe311
  have xm1146 : ext S145 S319 := xm1145.tr xe320
  have xm1147 : ext S145 S345 := xm1146.tr xe346
  have xm1148 : ext S145 S355 := xm1147.tr xe356
  have xm1149 : ext S145 S385 := xm1148.tr xe386
  have xm1150 : ext S145 S396 := xm1149.tr xe397
  have xm1151 : ext S145 S430 := xm1150.tr xe431
  have xm1152 : ext S145 S442 := xm1151.tr xe443
  have xm1153 : ext S145 S480 := xm1152.tr xe481
  have xm1154 : ext S145 S495 := xm1153.tr xe496
  have xm1155 : ext S145 S515 := xm1154.tr xe516
  have xm1156 : ext S145 S531 := xm1155.tr xe532
  have xm1157 : ext S145 S587 := xm1156.tr xe588
  have xm1158 : ext S145 S600 := xm1157.tr xe601
  have xm1159 : ext S145 S644 := xm1158.tr xe645
  have xm1160 : ext S145 S657 := xm1159.tr xe658
  have xm1161 : ext S145 S701 := xm1160.tr xe702
  have xm1162 : ext S145 S714 := xm1161.tr xe715
  have xm1163 : ext S145 S758 := xm1162.tr xe759
  have xm1164 : ext S145 S771 := xm1163.tr xe772
  have xm1165 : ext S145 S815 := xm1164.tr xe816
  have xm1166 : ext S125 S152 := xe146.tr xe153
  have xm1167 : ext S125 S172 := xm1166.tr xe173
  have xm1168 : ext S125 S179 := xm1167.tr xe180
  have xm1169 : ext S125 S199 := xm1168.tr xe200
  have xm1170 : ext S125 S206 := xm1169.tr xe207
  have xm1171 : ext S125 S226 := xm1170.tr xe227
  have xm1172 : ext S125 S233 := xm1171.tr xe234
  have xm1173 : ext S125 S253 := xm1172.tr xe254
  have xm1174 : ext S125 S260 := xm1173.tr xe261
  have xm1175 : ext S125 S280 := xm1174.tr xe281
  have xm1176 : ext S125 S288 := xm1175.tr xe289
  have xm1177 : ext S125 S310 := xm1176.tr xe311
  have xm1178 : ext S125 S319 := xm1177.tr xe320
  have xm1179 : ext S125 S345 := xm1178.tr xe346
  have xm1180 : ext S125 S355 := xm1179.tr xe356
  have xm1181 : ext S125 S385 := xm1180.tr xe386
  have xm1182 : ext S125 S396 := xm1181.tr xe397
  have xm1183 : ext S125 S430 := xm1182.tr xe431
  have xm1184 : ext S125 S442 := xm1183.tr xe443
  have xm1185 : ext S125 S480 := xm1184.tr xe481
  have xm1186 : ext S125 S495 := xm1185.tr xe496
  have xm1187 : ext S125 S515 := xm1186.tr xe516
  have xm1188 : ext S125 S531 := xm1187.tr xe532
  have xm1189 : ext S125 S587 := xm1188.tr xe588
  have xm1190 : ext S125 S600 := xm1189.tr xe601
  have xm1191 : ext S125 S644 := xm1190.tr xe645
  have xm1192 : ext S125 S657 := xm1191.tr xe658
  have xm1193 : ext S125 S701 := xm1192.tr xe702
  have xm1194 : ext S125 S714 := xm1193.tr xe715
  have xm1195 : ext S125 S758 := xm1194.tr xe759
  have xm1196 : ext S125 S771 := xm1195.tr xe772
  have xm1197 : ext S125 S815 := xm1196.tr xe816
  have am1198 : isA S815 qa124 17 := xm1197.A aqa124
  have xm1199 : ext S172 S199 := xe180.tr xe200
  have xm1200 : ext S172 S206 := xm1199.tr xe207
  have xm1201 : ext S172 S226 := xm1200.tr xe227
  have xm1202 : ext S172 S233 := xm1201.tr xe234
  have xm1203 : ext S172 S253 := xm1202.tr xe254
  have xm1204 : ext S172 S260 := xm1203.tr xe261
  have xm1205 : ext S172 S280 := xm1204.tr xe281
  have xm1206 : ext S172 S288 := xm1205.tr xe289
  have xm1207 : ext S172 S310 := xm1206.tr xe311
  have xm1208 : ext S172 S319 := xm1207.tr xe320
  have xm1209 : ext S172 S345 := xm1208.tr xe346
  have xm1210 : ext S172 S355 := xm1209.tr xe356
  have xm1211 : ext S172 S385 := xm1210.tr xe386
  have xm1212 : ext S172 S396 := xm1211.tr xe397
  have xm1213 : ext S172 S430 := xm1212.tr xe431
  have xm1214 : ext S172 S442 := xm1213.tr xe443
  have xm1215 : ext S172 S480 := xm1214.tr xe481
  have xm1216 : ext S172 S495 := xm1215.tr xe496
  have xm1217 : ext S172 S515 := xm1216.tr xe516
  have xm1218 : ext S172 S531 := xm1217.tr xe532
  have xm1219 : ext S172 S587 := xm1218.tr xe588
  have xm1220 : ext S172 S600 := xm1219.tr xe601
  have xm1221 : ext S172 S644 := xm1220.tr xe645
  have xm1222 : ext S172 S657 := xm1221.tr xe658
  have xm1223 : ext S172 S701 := xm1222.tr xe702
  have xm1224 : ext S172 S714 := xm1223.tr xe715
  have xm1225 : ext S172 S758 := xm1224.tr xe759
  have xm1226 : ext S172 S771 := xm1225.tr xe772
  have xm1227 : ext S172 S815 := xm1226.tr xe816
  have xm1228 : ext S152 S179 := xe173.tr xe180
  have xm1229 : ext S152 S199 := xm1228.tr xe200
  have xm1230 : ext S152 S206 := xm1229.tr xe207
  have xm1231 : ext S152 S226 := xm1230.tr xe227
  have xm1232 : ext S152 S233 := xm1231.tr xe234
  have xm1233 : ext S152 S253 := xm1232.tr xe254
  have xm1234 : ext S152 S260 := xm1233.tr xe261
  have xm1235 : ext S152 S280 := xm1234.tr xe281
  have xm1236 : ext S152 S288 := xm1235.tr xe289
  have xm1237 : ext S152 S310 := xm1236.tr xe311
  have xm1238 : ext S152 S319 := xm1237.tr xe320
  have xm1239 : ext S152 S345 := xm1238.tr xe346
  have xm1240 : ext S152 S355 := xm1239.tr xe356
  have xm1241 : ext S152 S385 := xm1240.tr xe386
  have xm1242 : ext S152 S396 := xm1241.tr xe397
  have xm1243 : ext S152 S430 := xm1242.tr xe431
  have xm1244 : ext S152 S442 := xm1243.tr xe443
  have xm1245 : ext S152 S480 := xm1244.tr xe481
  have xm1246 : ext S152 S495 := xm1245.tr xe496
  have xm1247 : ext S152 S515 := xm1246.tr xe516
  have xm1248 : ext S152 S531 := xm1247.tr xe532
  have xm1249 : ext S152 S587 := xm1248.tr xe588
  have xm1250 : ext S152 S600 := xm1249.tr xe601
  have xm1251 : ext S152 S644 := xm1250.tr xe645
  have xm1252 : ext S152 S657 := xm1251.tr xe658
  have xm1253 : ext S152 S701 := xm1252.tr xe702
  have xm1254 : ext S152 S714 := xm1253.tr xe715
  have xm1255 : ext S152 S758 := xm1254.tr xe759
  have xm1256 : ext S152 S771 := xm1255.tr xe772
  have xm1257 : ext S152 S815 := xm1256.tr xe816
  have am1258 : isA S815 qa151 38 := xm1257.A aqa151
  have xm1259 : ext S199 S226 := xe207.tr xe227
  have xm1260 : ext S199 S233 := xm1259.tr xe234
  have xm1261 : ext S199 S253 := xm1260.tr xe254
  have xm1262 : ext S199 S260 := xm1261.tr xe261
  have xm1263 : ext S199 S280 := xm1262.tr xe281
  have xm1264 : ext S199 S288 := xm1263.tr xe289
  have xm1265 : ext S199 S310 := xm1264.tr xe311
  have xm1266 : ext S199 S319 := xm1265.tr xe320
  have xm1267 : ext S199 S345 := xm1266.tr xe346
  have xm1268 : ext S199 S355 := xm1267.tr xe356
  have xm1269 : ext S199 S385 := xm1268.tr xe386
  have xm1270 : ext S199 S396 := xm1269.tr xe397
  have xm1271 : ext S199 S430 := xm1270.tr xe431
  have xm1272 : ext S199 S442 := xm1271.tr xe443
  have xm1273 : ext S199 S480 := xm1272.tr xe481
  have xm1274 : ext S199 S495 := xm1273.tr xe496
  have xm1275 : ext S199 S515 := xm1274.tr xe516
  have xm1276 : ext S199 S531 := xm1275.tr xe532
  have xm1277 : ext S199 S587 := xm1276.tr xe588
  have xm1278 : ext S199 S600 := xm1277.tr xe601
  have xm1279 : ext S199 S644 := xm1278.tr xe645
  have xm1280 : ext S199 S657 := xm1279.tr xe658
  have xm1281 : ext S199 S701 := xm1280.tr xe702
  have xm1282 : ext S199 S714 := xm1281.tr xe715
  have xm1283 : ext S199 S758 := xm1282.tr xe759
  have xm1284 : ext S199 S771 := xm1283.tr xe772
  have xm1285 : ext S199 S815 := xm1284.tr xe816
  have xm1286 : ext S179 S206 := xe200.tr xe207
  have xm1287 : ext S179 S226 := xm1286.tr xe227
  have xm1288 : ext S179 S233 := xm1287.tr xe234
  have xm1289 : ext S179 S253 := xm1288.tr xe254
  have xm1290 : ext S179 S260 := xm1289.tr xe261
  have xm1291 : ext S179 S280 := xm1290.tr xe281
  have xm1292 : ext S179 S288 := xm1291.tr xe289
  have xm1293 : ext S179 S310 := xm1292.tr xe311
  have xm1294 : ext S179 S319 := xm1293.tr xe320
  have xm1295 : ext S179 S345 := xm1294.tr xe346
  have xm1296 : ext S179 S355 := xm1295.tr xe356
  have xm1297 : ext S179 S385 := xm1296.tr xe386
  have xm1298 : ext S179 S396 := xm1297.tr xe397
  have xm1299 : ext S179 S430 := xm1298.tr xe431
  have xm1300 : ext S179 S442 := xm1299.tr xe443
  have xm1301 : ext S179 S480 := xm1300.tr xe481
  have xm1302 : ext S179 S495 := xm1301.tr xe496
  have xm1303 : ext S179 S515 := xm1302.tr xe516
  have xm1304 : ext S179 S531 := xm1303.tr xe532
  have xm1305 : ext S179 S587 := xm1304.tr xe588
  have xm1306 : ext S179 S600 := xm1305.tr xe601
  have xm1307 : ext S179 S644 := xm1306.tr xe645
  have xm1308 : ext S179 S657 := xm1307.tr xe658
  have xm1309 : ext S179 S701 := xm1308.tr xe702
  have xm1310 : ext S179 S714 := xm1309.tr xe715
  have xm1311 : ext S179 S758 := xm1310.tr xe759
  have xm1312 : ext S179 S771 := xm1311.tr xe772
  have xm1313 : ext S179 S815 := xm1312.tr xe816
  have am1314 : isA S815 qa178 34 := xm1313.A aqa178
  have xm1315 : ext S226 S253 := xe234.tr xe254
  have xm1316 : ext S226 S260 := xm1315.tr xe261
  have xm1317 : ext S226 S280 := xm1316.tr xe281
  have xm1318 : ext S226 S288 := xm1317.tr xe289
  have xm1319 : ext S226 S310 := xm1318.tr xe311
  have xm1320 : ext S226 S319 := xm1319.tr xe320
  have xm1321 : ext S226 S345 := xm1320.tr xe346
  have xm1322 : ext S226 S355 := xm1321.tr xe356
  have xm1323 : ext S226 S385 := xm1322.tr xe386
  have xm1324 : ext S226 S396 := xm1323.tr xe397
  have xm1325 : ext S226 S430 := xm1324.tr xe431
  have xm1326 : ext S226 S442 := xm1325.tr xe443
  have xm1327 : ext S226 S480 := xm1326.tr xe481
  have xm1328 : ext S226 S495 := xm1327.tr xe496
  have xm1329 : ext S226 S515 := xm1328.tr xe516
  have xm1330 : ext S226 S531 := xm1329.tr xe532
  have xm1331 : ext S226 S587 := xm1330.tr xe588
  have xm1332 : ext S226 S600 := xm1331.tr xe601
  have xm1333 : ext S226 S644 := xm1332.tr xe645
  have xm1334 : ext S226 S657 := xm1333.tr xe658
  have xm1335 : ext S226 S701 := xm1334.tr xe702
  have xm1336 : ext S226 S714 := xm1335.tr xe715
  have xm1337 : ext S226 S758 := xm1336.tr xe759
  have xm1338 : ext S226 S771 := xm1337.tr xe772
  have xm1339 : ext S226 S815 := xm1338.tr xe816
  have xm1340 : ext S206 S233 := xe227.tr xe234
  have xm1341 : ext S206 S253 := xm1340.tr xe254
  have xm1342 : ext S206 S260 := xm1341.tr xe261
  have xm1343 : ext S206 S280 := xm1342.tr xe281
  have xm1344 : ext S206 S288 := xm1343.tr xe289
  have xm1345 : ext S206 S310 := xm1344.tr xe311
  have xm1346 : ext S206 S319 := xm1345.tr xe320
  have xm1347 : ext S206 S345 := xm1346.tr xe346
  have xm1348 : ext S206 S355 := xm1347.tr xe356
  have xm1349 : ext S206 S385 := xm1348.tr xe386
  have xm1350 : ext S206 S396 := xm1349.tr xe397
  have xm1351 : ext S206 S430 := xm1350.tr xe431
  have xm1352 : ext S206 S442 := xm1351.tr xe443
  have xm1353 : ext S206 S480 := xm1352.tr xe481
  have xm1354 : ext S206 S495 := xm1353.tr xe496
  have xm1355 : ext S206 S515 := xm1354.tr xe516
  have xm1356 : ext S206 S531 := xm1355.tr xe532
  have xm1357 : ext S206 S587 := xm1356.tr xe588
  have xm1358 : ext S206 S600 := xm1357.tr xe601
  have xm1359 : ext S206 S644 := xm1358.tr xe645
  have xm1360 : ext S206 S657 := xm1359.tr xe658
  have xm1361 : ext S206 S701 := xm1360.tr xe702
  have xm1362 : ext S206 S714 := xm1361.tr xe715
  have xm1363 : ext S206 S758 := xm1362.tr xe759
  have xm1364 : ext S206 S771 := xm1363.tr xe772
  have xm1365 : ext S206 S815 := xm1364.tr xe816
  have am1366 : isA S815 qa205 35 := xm1365.A aqa205
  have xm1367 : ext S253 S280 := xe261.tr xe281
  have xm1368 : ext S253 S288 := xm1367.tr xe289
  have xm1369 : ext S253 S310 := xm1368.tr xe311
  have xm1370 : ext S253 S319 := xm1369.tr xe320
  have xm1371 : ext S253 S345 := xm1370.tr xe346
  have xm1372 : ext S253 S355 := xm1371.tr xe356
  have xm1373 : ext S253 S385 := xm1372.tr xe386
  have xm1374 : ext S253 S396 := xm1373.tr xe397
  have xm1375 : ext S253 S430 := xm1374.tr xe431
  have xm1376 : ext S253 S442 := xm1375.tr xe443
  have xm1377 : ext S253 S480 := xm1376.tr xe481
  have xm1378 : ext S253 S495 := xm1377.tr xe496
  have xm1379 : ext S253 S515 := xm1378.tr xe516
  have xm1380 : ext S253 S531 := xm1379.tr xe532
  have xm1381 : ext S253 S587 := xm1380.tr xe588
  have xm1382 : ext S253 S600 := xm1381.tr xe601
  have xm1383 : ext S253 S644 := xm1382.tr xe645
  have xm1384 : ext S253 S657 := xm1383.tr xe658
  have xm1385 : ext S253 S701 := xm1384.tr xe702
  have xm1386 : ext S253 S714 := xm1385.tr xe715
  have xm1387 : ext S253 S758 := xm1386.tr xe759
  have xm1388 : ext S253 S771 := xm1387.tr xe772
  have xm1389 : ext S253 S815 := xm1388.tr xe816
  have xm1390 : ext S233 S260 := xe254.tr xe261
  have xm1391 : ext S233 S280 := xm1390.tr xe281
  have xm1392 : ext S233 S288 := xm1391.tr xe289
  have xm1393 : ext S233 S310 := xm1392.tr xe311
  have xm1394 : ext S233 S319 := xm1393.tr xe320
  have xm1395 : ext S233 S345 := xm1394.tr xe346
  have xm1396 : ext S233 S355 := xm1395.tr xe356
  have xm1397 : ext S233 S385 := xm1396.tr xe386
  have xm1398 : ext S233 S396 := xm1397.tr xe397
  have xm1399 : ext S233 S430 := xm1398.tr xe431
  have xm1400 : ext S233 S442 := xm1399.tr xe443
  have xm1401 : ext S233 S480 := xm1400.tr xe481
  have xm1402 : ext S233 S495 := xm1401.tr xe496
  have xm1403 : ext S233 S515 := xm1402.tr xe516
  have xm1404 : ext S233 S531 := xm1403.tr xe532
  have xm1405 : ext S233 S587 := xm1404.tr xe588
  have xm1406 : ext S233 S600 := xm1405.tr xe601
  have xm1407 : ext S233 S644 := xm1406.tr xe645
  have xm1408 : ext S233 S657 := xm1407.tr xe658
  have xm1409 : ext S233 S701 := xm1408.tr xe702
  have xm1410 : ext S233 S714 := xm1409.tr xe715
  have xm1411 : ext S233 S758 := xm1410.tr xe759
  have xm1412 : ext S233 S771 := xm1411.tr xe772
  have xm1413 : ext S233 S815 := xm1412.tr xe816
  have am1414 : isA S815 qa232 36 := xm1413.A aqa232
  have xm1415 : ext S587 S644 := xe601.tr xe645
  have xm1416 : ext S587 S657 := xm1415.tr xe658
  have xm1417 : ext S587 S701 := xm1416.tr xe702
  have xm1418 : ext S587 S714 := xm1417.tr xe715
  have xm1419 : ext S587 S758 := xm1418.tr xe759
  have xm1420 : ext S587 S771 := xm1419.tr xe772
  have xm1421 : ext S587 S815 := xm1420.tr xe816
  have xm1422 : ext S531 S600 := xe588.tr xe601
  have xm1423 : ext S531 S644 := xm1422.tr xe645
  have xm1424 : ext S531 S657 := xm1423.tr xe658
  have xm1425 : ext S531 S701 := xm1424.tr xe702
  have xm1426 : ext S531 S714 := xm1425.tr xe715
  have xm1427 : ext S531 S758 := xm1426.tr xe759
  have xm1428 : ext S531 S771 := xm1427.tr xe772
  have xm1429 : ext S531 S815 := xm1428.tr xe816
  have am1430 : isA S815 qa530 17 := xm1429.A aqa530
  have xm1431 : ext S644 S701 := xe658.tr xe702
  have xm1432 : ext S644 S714 := xm1431.tr xe715
  have xm1433 : ext S644 S758 := xm1432.tr xe759
  have xm1434 : ext S644 S771 := xm1433.tr xe772
  have xm1435 : ext S644 S815 := xm1434.tr xe816
  have xm1436 : ext S600 S657 := xe645.tr xe658
  have xm1437 : ext S600 S701 := xm1436.tr xe702
  have xm1438 : ext S600 S714 := xm1437.tr xe715
  have xm1439 : ext S600 S758 := xm1438.tr xe759
  have xm1440 : ext S600 S771 := xm1439.tr xe772
  have xm1441 : ext S600 S815 := xm1440.tr xe816
  have am1442 : isA S815 qa599 17 := xm1441.A aqa599
  have xm1443 : ext S701 S758 := xe715.tr xe759
  have xm1444 : ext S701 S771 := xm1443.tr xe772
  have xm1445 : ext S701 S815 := xm1444.tr xe816
  have xm1446 : ext S657 S714 := xe702.tr xe715
  have xm1447 : ext S657 S758 := xm1446.tr xe759
  have xm1448 : ext S657 S771 := xm1447.tr xe772
  have xm1449 : ext S657 S815 := xm1448.tr xe816
  have am1450 : isA S815 qa656 17 := xm1449.A aqa656
  have xm1451 : ext S758 S815 := xe772.tr xe816
  have xm1452 : ext S714 S771 := xe759.tr xe772
  have xm1453 : ext S714 S815 := xm1452.tr xe816
  have am1454 : isA S815 qa713 17 := xm1453.A aqa713
  have am1455 : isA S815 qa770 17 := xe816.A aqa770
  have xm1456 : ext S280 S310 := xe289.tr xe311
  have xm1457 : ext S280 S319 := xm1456.tr xe320
  have xm1458 : ext S280 S345 := xm1457.tr xe346
  have xm1459 : ext S280 S355 := xm1458.tr xe356
  have xm1460 : ext S280 S385 := xm1459.tr xe386
  have xm1461 : ext S280 S396 := xm1460.tr xe397
  have xm1462 : ext S280 S430 := xm1461.tr xe431
  have xm1463 : ext S280 S442 := xm1462.tr xe443
  have xm1464 : ext S280 S480 := xm1463.tr xe481
  have xm1465 : ext S280 S495 := xm1464.tr xe496
  have xm1466 : ext S280 S515 := xm1465.tr xe516
  have xm1467 : ext S280 S531 := xm1466.tr xe532
  have xm1468 : ext S280 S587 := xm1467.tr xe588
  have xm1469 : ext S280 S600 := xm1468.tr xe601
  have xm1470 : ext S280 S644 := xm1469.tr xe645
  have xm1471 : ext S280 S657 := xm1470.tr xe658
  have xm1472 : ext S280 S701 := xm1471.tr xe702
  have xm1473 : ext S280 S714 := xm1472.tr xe715
  have xm1474 : ext S280 S758 := xm1473.tr xe759
  have xm1475 : ext S280 S771 := xm1474.tr xe772
  have xm1476 : ext S280 S815 := xm1475.tr xe816
  have xm1477 : ext S260 S771 := xm776.tr xe772
  have xm1478 : ext S260 S815 := xm1477.tr xe816
  have am1479 : isA S815 qa259 23 := xm1478.A aqa259
  have xm1480 : ext S310 S345 := xe320.tr xe346
  have xm1481 : ext S310 S355 := xm1480.tr xe356
  have xm1482 : ext S310 S385 := xm1481.tr xe386
  have xm1483 : ext S310 S396 := xm1482.tr xe397
  have xm1484 : ext S310 S430 := xm1483.tr xe431
  have xm1485 : ext S310 S442 := xm1484.tr xe443
  have xm1486 : ext S310 S480 := xm1485.tr xe481
  have xm1487 : ext S310 S495 := xm1486.tr xe496
  have xm1488 : ext S310 S515 := xm1487.tr xe516
  have xm1489 : ext S310 S531 := xm1488.tr xe532
  have xm1490 : ext S310 S587 := xm1489.tr xe588
  have xm1491 : ext S310 S600 := xm1490.tr xe601
  have xm1492 : ext S310 S644 := xm1491.tr xe645
  have xm1493 : ext S310 S657 := xm1492.tr xe658
  have xm1494 : ext S310 S701 := xm1493.tr xe702
  have xm1495 : ext S310 S714 := xm1494.tr xe715
  have xm1496 : ext S310 S758 := xm1495.tr xe759
  have xm1497 : ext S310 S771 := xm1496.tr xe772
  have xm1498 : ext S310 S815 := xm1497.tr xe816
  have xm1499 : ext S288 S771 := xm780.tr xe772
  have xm1500 : ext S288 S815 := xm1499.tr xe816
  have am1501 : isA S815 qa287 23 := xm1500.A aqa287
  have xm1502 : ext S345 S385 := xe356.tr xe386
  have xm1503 : ext S345 S396 := xm1502.tr xe397
  have xm1504 : ext S345 S430 := xm1503.tr xe431
  have xm1505 : ext S345 S442 := xm1504.tr xe443
  have xm1506 : ext S345 S480 := xm1505.tr xe481
  have xm1507 : ext S345 S495 := xm1506.tr xe496
  have xm1508 : ext S345 S515 := xm1507.tr xe516
  have xm1509 : ext S345 S531 := xm1508.tr xe532
  have xm1510 : ext S345 S587 := xm1509.tr xe588
  have xm1511 : ext S345 S600 := xm1510.tr xe601
  have xm1512 : ext S345 S644 := xm1511.tr xe645
  have xm1513 : ext S345 S657 := xm1512.tr xe658
  have xm1514 : ext S345 S701 := xm1513.tr xe702
  have xm1515 : ext S345 S714 := xm1514.tr xe715
  have xm1516 : ext S345 S758 := xm1515.tr xe759
  have xm1517 : ext S345 S771 := xm1516.tr xe772
  have xm1518 : ext S345 S815 := xm1517.tr xe816
  have xm1519 : ext S319 S771 := xm784.tr xe772
  have xm1520 : ext S319 S815 := xm1519.tr xe816
  have am1521 : isA S815 qa318 23 := xm1520.A aqa318
  have xm1522 : ext S385 S430 := xe397.tr xe431
  have xm1523 : ext S385 S442 := xm1522.tr xe443
  have xm1524 : ext S385 S480 := xm1523.tr xe481
  have xm1525 : ext S385 S495 := xm1524.tr xe496
  have xm1526 : ext S385 S515 := xm1525.tr xe516
  have xm1527 : ext S385 S531 := xm1526.tr xe532
  have xm1528 : ext S385 S587 := xm1527.tr xe588
  have xm1529 : ext S385 S600 := xm1528.tr xe601
  have xm1530 : ext S385 S644 := xm1529.tr xe645
  have xm1531 : ext S385 S657 := xm1530.tr xe658
  have xm1532 : ext S385 S701 := xm1531.tr xe702
  have xm1533 : ext S385 S714 := xm1532.tr xe715
  have xm1534 : ext S385 S758 := xm1533.tr xe759
  have xm1535 : ext S385 S771 := xm1534.tr xe772
  have xm1536 : ext S385 S815 := xm1535.tr xe816
  have xm1537 : ext S355 S771 := xm788.tr xe772
  have xm1538 : ext S355 S815 := xm1537.tr xe816
  have am1539 : isA S815 qa354 23 := xm1538.A aqa354
  have xm1540 : ext S430 S480 := xe443.tr xe481
  have xm1541 : ext S430 S495 := xm1540.tr xe496
  have xm1542 : ext S430 S515 := xm1541.tr xe516
  have xm1543 : ext S430 S531 := xm1542.tr xe532
  have xm1544 : ext S430 S587 := xm1543.tr xe588
  have xm1545 : ext S430 S600 := xm1544.tr xe601
  have xm1546 : ext S430 S644 := xm1545.tr xe645
  have xm1547 : ext S430 S657 := xm1546.tr xe658
  have xm1548 : ext S430 S701 := xm1547.tr xe702
  have xm1549 : ext S430 S714 := xm1548.tr xe715
  have xm1550 : ext S430 S758 := xm1549.tr xe759
  have xm1551 : ext S430 S771 := xm1550.tr xe772
  have xm1552 : ext S430 S815 := xm1551.tr xe816
  have xm1553 : ext S396 S771 := xm792.tr xe772
  have xm1554 : ext S396 S815 := xm1553.tr xe816
  have am1555 : isA S815 qa395 23 := xm1554.A aqa395
  have xm1556 : ext S480 S515 := xe496.tr xe516
  have xm1557 : ext S480 S531 := xm1556.tr xe532
  have xm1558 : ext S480 S587 := xm1557.tr xe588
  have xm1559 : ext S480 S600 := xm1558.tr xe601
  have xm1560 : ext S480 S644 := xm1559.tr xe645
  have xm1561 : ext S480 S657 := xm1560.tr xe658
  have xm1562 : ext S480 S701 := xm1561.tr xe702
  have xm1563 : ext S480 S714 := xm1562.tr xe715
  have xm1564 : ext S480 S758 := xm1563.tr xe759
  have xm1565 : ext S480 S771 := xm1564.tr xe772
  have xm1566 : ext S480 S815 := xm1565.tr xe816
  have xm1567 : ext S442 S771 := xm796.tr xe772
  have xm1568 : ext S442 S815 := xm1567.tr xe816
  have am1569 : isA S815 qa441 23 := xm1568.A aqa441
  have xm1570 : ext S1 S15 := xe7.tr xe17
  have xm1571 : ext S1 S30 := xm1570.tr xe31
  have xm1572 : ext S1 S36 := xm1571.tr xe37
  have xm1573 : ext S1 S48 := xm1572.tr xe50
  have xm1574 : ext S1 S66 := xm1573.tr xe67
  have xm1575 : ext S1 S73 := xm1574.tr xe74
  have xm1576 : ext S1 S91 := xm1575.tr xe92
  have xm1577 : ext S1 S98 := xm1576.tr xe99
  have xm1578 : ext S1 S118 := xm1577.tr xe119
  have xm1579 : ext S1 S125 := xm1578.tr xe126
  have xm1580 : ext S1 S145 := xm1579.tr xe146
  have xm1581 : ext S1 S152 := xm1580.tr xe153
  have xm1582 : ext S1 S172 := xm1581.tr xe173
  have xm1583 : ext S1 S179 := xm1582.tr xe180
  have xm1584 : ext S1 S199 := xm1583.tr xe200
  have xm1585 : ext S1 S206 := xm1584.tr xe207
  have xm1586 : ext S1 S226 := xm1585.tr xe227
  have xm1587 : ext S1 S233 := xm1586.tr xe234
  have xm1588 : ext S1 S253 := xm1587.tr xe254
  have xm1589 : ext S1 S260 := xm1588.tr xe261
  have xm1590 : ext S1 S280 := xm1589.tr xe281
  have xm1591 : ext S1 S288 := xm1590.tr xe289
  have xm1592 : ext S1 S310 := xm1591.tr xe311
  have xm1593 : ext S1 S319 := xm1592.tr xe320
  have xm1594 : ext S1 S345 := xm1593.tr xe346
  have xm1595 : ext S1 S355 := xm1594.tr xe356
  have xm1596 : ext S1 S385 := xm1595.tr xe386
  have xm1597 : ext S1 S396 := xm1596.tr xe397
  have xm1598 : ext S1 S430 := xm1597.tr xe431
  have xm1599 : ext S1 S442 := xm1598.tr xe443
  have xm1600 : ext S1 S480 := xm1599.tr xe481
  have xm1601 : ext S1 S495 := xm1600.tr xe496
  have xm1602 : ext S1 S515 := xm1601.tr xe516
  have xm1603 : ext S1 S531 := xm1602.tr xe532
  have xm1604 : ext S1 S587 := xm1603.tr xe588
  have xm1605 : ext S1 S600 := xm1604.tr xe601
  have xm1606 : ext S1 S644 := xm1605.tr xe645
  have xm1607 : ext S1 S657 := xm1606.tr xe658
  have xm1608 : ext S1 S701 := xm1607.tr xe702
  have xm1609 : ext S1 S714 := xm1608.tr xe715
  have xm1610 : ext S1 S758 := xm1609.tr xe759
  have xm1611 : ext S1 S771 := xm1610.tr xe772
  have xm1612 : ext S1 S815 := xm1611.tr xe816
  have tt : stp ([] : List (Nat × Nat)) [o1] R S S815 := t817.un (okAt.of_12 oo.2.1 ⟨(by rw [f_of (xm870.F (xm41.A h_o1) (by decide) F34)]; exact ⟨(xm870.F (xm41.A h_o1) (by decide) F34), am873, ((xm915.n aqa5).trans nqa5)⟩), (by rw [f_of (xm952.F (xm82.A h_o1) (by decide) F71)]; exact ⟨(xm952.F (xm82.A h_o1) (by decide) F71), am955, ((xm994.n aqa35).trans nqa35)⟩), (by rw [f_of (xm1029.F (xm109.A h_o1) (by decide) F96)]; exact ⟨(xm1029.F (xm109.A h_o1) (by decide) F96), am1066, ((xm1065.n aqa72).trans nqa72)⟩), (by rw [f_of (xm1099.F (xm136.A h_o1) (by decide) F123)]; exact ⟨(xm1099.F (xm136.A h_o1) (by decide) F123), am1134, ((xm1133.n aqa97).trans nqa97)⟩), (by rw [f_of (xm1165.F (xm163.A h_o1) (by decide) F150)]; exact ⟨(xm1165.F (xm163.A h_o1) (by decide) F150), am1198, ((xm1197.n aqa124).trans nqa124)⟩), (by rw [f_of (xm1227.F (xm190.A h_o1) (by decide) F177)]; exact ⟨(xm1227.F (xm190.A h_o1) (by decide) F177), am1258, ((xm1257.n aqa151).trans nqa151)⟩), (by rw [f_of (xm1285.F (xm217.A h_o1) (by decide) F204)]; exact ⟨(xm1285.F (xm217.A h_o1) (by decide) F204), am1314, ((xm1313.n aqa178).trans nqa178)⟩), (by rw [f_of (xm1339.F (xm244.A h_o1) (by decide) F231)]; exact ⟨(xm1339.F (xm244.A h_o1) (by decide) F231), am1366, ((xm1365.n aqa205).trans nqa205)⟩), (by rw [f_of (xm1389.F (xm271.A h_o1) (by decide) F258)]; exact ⟨(xm1389.F (xm271.A h_o1) (by decide) F258), am1414, ((xm1413.n aqa232).trans nqa232)⟩), (by rw [f_of (xm1421.F (xm635.A h_o1) (by decide) F598)]; exact ⟨(xm1421.F (xm635.A h_o1) (by decide) F598), am1430, ((xm1429.n aqa530).trans nqa530)⟩), (by rw [f_of (xm1435.F (xm692.A h_o1) (by decide) F655)]; exact ⟨(xm1435.F (xm692.A h_o1) (by decide) F655), am1442, ((xm1441.n aqa599).trans nqa599)⟩), (by rw [f_of (xm1445.F (xm749.A h_o1) (by decide) F712)]; exact ⟨(xm1445.F (xm749.A h_o1) (by decide) F712), am1450, ((xm1449.n aqa656).trans nqa656)⟩), (by rw [f_of (xm1451.F (xm806.A h_o1) (by decide) F769)]; exact ⟨(xm1451.F (xm806.A h_o1) (by decide) F769), am1454, ((xm1453.n aqa713).trans nqa713)⟩), (by rw [f_of F826]; exact ⟨F826, am1455, ((xe816.n aqa770).trans nqa770)⟩), (by rw [f_of (xm1476.F (xm301.A h_o1) (by decide) F286)]; exact ⟨(xm1476.F (xm301.A h_o1) (by decide) F286), am1479, ((xm1478.n aqa259).trans nqa259)⟩), (by rw [f_of (xm1498.F (xm336.A h_o1) (by decide) F317)]; exact ⟨(xm1498.F (xm336.A h_o1) (by decide) F317), am1501, ((xm1500.n aqa287).trans nqa287)⟩), (by rw [f_of (xm1518.F (xm376.A h_o1) (by decide) F353)]; exact ⟨(xm1518.F (xm376.A h_o1) (by decide) F353), am1521, ((xm1520.n aqa318).trans nqa318)⟩), (by rw [f_of (xm1536.F (xm421.A h_o1) (by decide) F394)]; exact ⟨(xm1536.F (xm421.A h_o1) (by decide) F394), am1539, ((xm1538.n aqa354).trans nqa354)⟩), (by rw [f_of (xm1552.F (xm471.A h_o1) (by decide) F440)]; exact ⟨(xm1552.F (xm471.A h_o1) (by decide) F440), am1555, ((xm1554.n aqa395).trans nqa395)⟩), (by rw [f_of (xm1566.F (xm492.A h_o1) (by decide) F491)]; exact ⟨(xm1566.F (xm492.A h_o1) (by decide) F491), am1569, ((xm1568.n aqa441).trans nqa441)⟩), (by rw [I16]; exact ⟨by decide, by decide⟩), (by rw [I18]; exact ⟨by decide, by decide⟩), (by rw [I19]; exact ⟨by decide, by decide⟩), (by rw [I20]; exact ⟨by decide, by decide⟩), (by rw [I21]; exact ⟨by decide, by decide⟩), (by rw [I24]; exact ⟨by decide, by decide⟩), (by rw [I25]; exact ⟨by decide, by decide⟩), (by rw [I26]; exact ⟨by decide, by decide⟩), (by rw [f_of (xm1612.F (xe2.A h_o1) (by decide) F4)]; exact (xm1612.F (xe2.A h_o1) (by decide) F4)), (by rw [f_of (xm870.F (xm41.A h_o1) (by decide) F34), f_of (xm1612.F (xe2.A h_o1) (by decide) F4)]; exact (xm872.F (xe17.A aqa5) (by decide) y14)), (by rw [f_of (xm952.F (xm82.A h_o1) (by decide) F71), f_of (xm1612.F (xe2.A h_o1) (by decide) F4)]; exact (xm954.F (xe50.A aqa35) (by decide) y47))⟩)
  have am1613 : isA S118 qa97 17 := xe119.A aqa97
  refine W.widen (k := 20) (n := 905) (Nat.le_of_ble_eq_true rfl) (Nat.le_of_ble_eq_true rfl) ?_
  exact W.vret hx hb hr (fun t ht hW9 => ⟨⟨S815, rfl, ⟨tt, oo, I15, I16, I17, I18, I19, I20, I21, I22, I23, I24, I25, I26, ((xm1612.F (xe2.A h_o1) (by decide) F4)), (by rw [f_of ((xm870.F (xm41.A h_o1) (by decide) F34))]; exact z824), (by rw [f_of ((xm952.F (xm82.A h_o1) (by decide) F71))]; exact z825), (by rw [f_of ((xm1476.F (xm301.A h_o1) (by decide) F286))]; exact z818), (by rw [f_of ((xm1498.F (xm336.A h_o1) (by decide) F317))]; exact z819), (by rw [f_of ((xm1518.F (xm376.A h_o1) (by decide) F353))]; exact z820), (by rw [f_of ((xm1536.F (xm421.A h_o1) (by decide) F394))]; exact z821), (by rw [f_of ((xm1552.F (xm471.A h_o1) (by decide) F440))]; exact z822), (by rw [f_of ((xm1566.F (xm492.A h_o1) (by decide) F491))]; exact z823), (by rw [f_of (xm1099.F (xm136.A h_o1) (by decide) F123), f_of (xm1165.F (xm163.A h_o1) (by decide) F150)]; exact fun e9 => hqa124 (e9 ▸ am1613.1))⟩, wd_end hP hK hD ht hW9.alike⟩, hS.F ht⟩) hS.2.2 dX12_init_178 hlocks

def wc_wheel (E : String) : Int32 := if E = "java/lang/IllegalArgumentException" then 1 else if E = "java/lang/IllegalStateException" then 2 else (0 : Int32)
def wc_setMachine (E : String) : Int32 := if E = "java/lang/IllegalArgumentException" then 1 else (0 : Int32)
def wc_hob (E : String) : Int32 := if E = "java/lang/IllegalArgumentException" then 1 else if E = "java/lang/IllegalStateException" then 2 else (0 : Int32)
def wc_differs (E : String) : Int32 := if E = "java/lang/IndexOutOfBoundsException" then 1 else if E = "java/lang/IllegalArgumentException" then 2 else if E = "java/lang/UnsupportedOperationException" then 3 else if E = "java/util/NoSuchElementException" then 4 else (0 : Int32)
/-- the same gears on both sides -/
def GRG (S : wPS) (i a b : Nat) : Prop := isA S a 2 ∧ isA S b 10 ∧ S.I a 0 = nI i ∧ S.I a 1 = S.I b 1 ∧ S.I a 2 = S.I b 2 ∧ S.I a 3 = S.I b 3
def RG (o2 : Nat) (S : wPS) (o : Nat) : Prop := isA S o2 9 ∧ (S.F o 0 = some (S.f o 0) ∧ isA S (S.f o 0) 14 ∧ S.n (S.f o 0) = 10) ∧ (S.I o2 1).toInt = (S.I (S.f o 0) 2).toInt ∧ (∀ i : Nat, (i : Int) < (S.I o2 1).toInt → GRG S i (S.q (S.f o2 0) i) (S.q (S.f (S.f o 0) 1) i)) ∧ (∀ i j : Nat, (i : Int) < (S.I o2 1).toInt → (j : Int) < (S.I o2 1).toInt → ¬ i = j → ¬ S.q (S.f o2 0) i = S.q (S.f o2 0) j ∧ ¬ S.q (S.f (S.f o 0) 1) i = S.q (S.f (S.f o 0) 1) j)
theorem GRG.fr {W : List (Nat × Nat)} {S U : wPS} {i a b : Nat} (h : stp W [] [] S U) (h1 : ∀ p ∈ ([(2, 0), (2, 1), (2, 2), (2, 3), (9, 1), (10, 1), (10, 2), (10, 3), (19, 101), (114, 10), (122, 10)] : List (Nat × Nat)), p ∉ W) (m : GRG S i a b) : GRG U i a b := by
  obtain ⟨ga, gb, g0, p1, p2, p3⟩ := m
  have fa := (h.fR a ga.1 List.not_mem_nil).1
  have fb := (h.fR b gb.1 List.not_mem_nil).1
  rw [ga.2.1] at fa
  rw [gb.2.1] at fb
  exact ⟨h.x.A ga, h.x.A gb, by rw [(fa 0 (h1 _ (by decide))).1]; exact g0, by rw [(fa 1 (h1 _ (by decide))).1, (fb 1 (h1 _ (by decide))).1]; exact p1, by rw [(fa 2 (h1 _ (by decide))).1, (fb 2 (h1 _ (by decide))).1]; exact p2, by rw [(fa 3 (h1 _ (by decide))).1, (fb 3 (h1 _ (by decide))).1]; exact p3⟩
theorem RG.st {W : List (Nat × Nat)} {S U : wPS} {o2 o : Nat} (h : stp W [] [] S U) (hW : wtB S []) (hA : isA S o 12) (hl : (114, 10) ∉ W ∧ (122, 10) ∉ W) (m : RG o2 S o) : U.f o 0 = S.f o 0 ∧ (U.F o 0 = some (U.f o 0) ∧ isA U (U.f o 0) 14 ∧ U.n (U.f o 0) = 10) ∧ U.I (S.f o 0) 2 = S.I (S.f o 0) 2 ∧ U.f (S.f o 0) 1 = S.f (S.f o 0) 1 ∧ ∀ i : Nat, (i : Int) < (S.I o2 1).toInt → U.r (S.f (S.f o 0) 1) i = S.r (S.f (S.f o 0) 1) i := by
  obtain ⟨hA2, ⟨e0, l0, n0⟩, mc, -, -⟩ := m
  have e' := h.x.F hA (Or.inl (by decide)) e0
  have f' : U.f o 0 = S.f o 0 := f_of e'
  have q := h.2.2.2.2.2 (S.f o 0) l0.1 List.not_mem_nil
  have q2 : U.I (S.f o 0) 2 = S.I (S.f o 0) 2 ∧ U.F (S.f o 0) = S.F (S.f o 0) := by
    rcases (q.1 l0.2.1).2 with w | w
    · rw [n0] at w; exact absurd w hl.1
    · exact w
  refine ⟨f', ⟨by rw [f']; exact e', by rw [f']; exact h.x.A l0, by rw [f', h.x.n l0]; exact n0⟩, q2.1, by show (U.F (S.f o 0) 1).getD 0 = (S.F (S.f o 0) 1).getD 0; rw [q2.2], fun i hi => ?_⟩
  rcases (hW.at l0 List.not_mem_nil).to_14 l0.2.1 with ⟨-, z⟩ | ⟨-, a2, -, a4, -, -, -⟩
  · omega
  · rcases (h.2.2.2.2.2 _ a2.1 List.not_mem_nil).2 a2.2.1 10 (by rw [a4, n0]) with w | w
    · exact absurd w hl.2
    · rw [w]
theorem RG.keep {W : List (Nat × Nat)} {S U : wPS} {o2 o : Nat} (h : stp W [] [] S U) (hW : wtB S []) (hA : isA S o 12) (h1 : ∀ p ∈ ([(2, 0), (2, 1), (2, 2), (2, 3), (9, 1), (10, 1), (10, 2), (10, 3), (19, 101), (114, 10), (122, 10)] : List (Nat × Nat)), p ∉ W) (_ : True) (m : RG o2 S o) : RG o2 U o := by
  have m0 := m
  obtain ⟨hA2, ⟨e0, l0, n0⟩, mc, mg, md⟩ := m
  obtain ⟨f', m1, q2, fl, rl⟩ := RG.st h hW hA ⟨h1 _ (by decide), h1 _ (by decide)⟩ m0
  have c1 : U.I o2 1 = S.I o2 1 := ((h.fR o2 hA2.1 List.not_mem_nil).1 1 (by rw [hA2.2.1]; exact h1 _ (by decide))).1
  have k9 := (hW.at hA2 List.not_mem_nil).to_9 hA2.2.1
  have fa : U.f o2 0 = S.f o2 0 := f_of (h.x.F hA2 (Or.inl (by decide)) k9.F0.1)
  have ra : U.r (S.f o2 0) = S.r (S.f o2 0) := (h.fR _ k9.F0.2.1.1 List.not_mem_nil).2.2.1 (by rw [k9.F0.2.1.2.1]; exact h1 _ (by decide))
  have qa : ∀ i, U.q (U.f o2 0) i = S.q (S.f o2 0) i := fun i => by unfold wPS.q; rw [fa, ra]
  have qb : ∀ i : Nat, (i : Int) < (S.I o2 1).toInt → U.q (U.f (U.f o 0) 1) i = S.q (S.f (S.f o 0) 1) i := fun i hi => by unfold wPS.q; rw [f', fl, rl i hi]
  refine ⟨h.x.A hA2, m1, by rw [c1, f', q2]; exact mc, fun i hi => ?_, fun i j hi hj hn => ?_⟩
  · rw [c1] at hi
    rw [qa, qb i hi]
    exact (mg i hi).fr h h1
  · rw [c1] at hi hj
    rw [qa, qa, qb i hi, qb j hj]
    exact md i j hi hj hn
theorem RG.sI {S : wPS} {o2 o j : Nat} {t : Int32} (hA : isA S o 12) (m : RG o2 S o) : RG o2 (S.sI o j t) o := by
  have ne : ∀ {x k : Nat}, isA S x k → k ≠ 12 → (S.sI o j t).I x = S.I x := fun hx hk => sI_no (fun e => hk (by rw [← hx.2.1, e]; exact hA.2.1))
  obtain ⟨hA2, ⟨e0, l0, n0⟩, mc, mg, md⟩ := m
  refine ⟨hA2, ⟨e0, l0, n0⟩, ?_, fun i hi => ?_, fun i j hi hj hn => ?_⟩
  · show ((S.sI o j t).I o2 1).toInt = ((S.sI o j t).I (S.f o 0) 2).toInt
    rw [ne hA2 (by decide), ne l0 (by decide)]; exact mc
  · rw [ne hA2 (by decide)] at hi
    obtain ⟨ga, gb, g0, p1, p2, p3⟩ := mg i hi
    show GRG (S.sI o j t) i (S.q (S.f o2 0) i) (S.q (S.f (S.f o 0) 1) i)
    exact ⟨ga, gb, by rw [ne ga (by decide)]; exact g0, by rw [ne ga (by decide), ne gb (by decide)]; exact p1, by rw [ne ga (by decide), ne gb (by decide)]; exact p2, by rw [ne ga (by decide), ne gb (by decide)]; exact p3⟩
  · rw [ne hA2 (by decide)] at hi hj
    exact md i j hi hj hn
theorem nI_cl {x : Int32} (h : 0 ≤ x.toInt) : x = nI x.toNatClampNeg := by
  obtain ⟨j, hj, e⟩ := nI_of (x := x) (nneg_i h)
  have h1 := cl_int (i := x) h
  have h2 : x.toInt = (j : Int) := by rw [e]; exact nI_toInt hj
  have h3 : x.toNatClampNeg = j := by omega
  rw [h3]; exact e
theorem RG.add {WC WM : List (Nat × Nat)} {S S4 S16 : wPS} {o2 o : Nat} {x1 x2 x3 x4 : Int32} (m : RG o2 S o) (hA : isA S o 12) (hW : wtB S []) (hw : stp WC [] [] S S4) (hm : stp WM [] [] S4 S16) (hc : ∀ p ∈ ([(2, 0), (2, 1), (2, 2), (2, 3), (10, 1), (10, 2), (10, 3), (114, 10), (122, 10)] : List (Nat × Nat)), p ∉ WC) (hk : ∀ p ∈ ([(2, 0), (2, 1), (2, 2), (2, 3), (9, 1), (10, 1), (10, 2), (10, 3), (19, 101)] : List (Nat × Nat)), p ∉ WM)
    (c4 : (S4.I o2 1).toInt = (S.I o2 1).toInt + 1) (N : ∃ g : Nat, g ∉ S.L ∧ isA S4 g 2 ∧ S4.r (S.f o2 0) (S.I o2 1).toNatClampNeg = some g ∧ (∀ i : Nat, i ≠ (S.I o2 1).toNatClampNeg → S4.r (S.f o2 0) i = S.r (S.f o2 0) i) ∧ S4.I g 0 = S.I o2 1 ∧ S4.I g 1 = x1 ∧ S4.I g 2 = x2 ∧ S4.I g 3 = x3 ∧ S4.I g 4 = x4 ∧ S4.I g 7 = (0 : Int32) ∧ S4.I g 8 = (-1 : Int32) ∧ S4.I g 9 = (0 : Int32) ∧ S4.I g 10 = (0 : Int32) ∧ S4.I g 11 = (0 : Int32))
    (n1 : (S16.I (S4.f o 0) 2).toInt = (S4.I (S4.f o 0) 2).toInt + 1) (M : ∃ g a : Nat, g ∉ S4.L ∧ isA S16 g 10 ∧ S16.F (S4.f o 0) 1 = some a ∧ isA S16 a 22 ∧ S16.r a (S4.I (S4.f o 0) 2).toNatClampNeg = some g ∧ (∀ i : Nat, (i : Int) < (S4.I (S4.f o 0) 2).toInt → S16.r a i = S4.r (S4.f (S4.f o 0) 1) i) ∧ S16.I g 1 = x1 ∧ S16.I g 2 = x2 ∧ S16.I g 3 = x3 ∧ S16.I g 4 = x4 ∧ S16.I g 7 = (0 : Int32) ∧ S16.I g 8 = (-1 : Int32) ∧ S16.I g 10 = (0 : Int32) ∧ S16.I g 11 = (0 : Int32) ∧ S16.I g 18 = (0 : Int32)) : RG o2 S16 o := by
  have m0 := m
  obtain ⟨hA2, ⟨e0, l0, n0⟩, mc, mg, md⟩ := m
  obtain ⟨f4, m4, q4, fl4, rl4⟩ := RG.st hw hW hA ⟨hc _ (by decide), hc _ (by decide)⟩ m0
  obtain ⟨g, ng, gA, gr, go, cv0, cv1, cv2, cv3, cv4, cv7, cv8, cv9, cv10, cv11⟩ := N
  obtain ⟨b, a, nb, bA, aF, aA, br, bo, dv1, dv2, dv3, dv4, dv7, dv8, dv10, dv11, dv18⟩ := M
  rw [f4] at n1 aF br bo
  rw [q4] at n1 br bo
  rw [fl4] at bo
  have R9 := ((hW.at hA2 List.not_mem_nil).to_9 hA2.2.1).R1
  have k9 := (hW.at hA2 List.not_mem_nil).to_9 hA2.2.1
  have e16 := hm.x.F (hw.x.A hA) (Or.inl (by decide)) m4.1
  rw [f4] at e16
  have f16 : S16.f o 0 = (S.f o 0) := f_of e16
  have cI : S16.I o2 1 = S4.I o2 1 := ((hm.fR o2 (hw.x.A hA2).1 List.not_mem_nil).1 1 (by rw [(hw.x.A hA2).2.1]; exact hk _ (by decide))).1
  have fa4 : S4.f o2 0 = S.f o2 0 := f_of (hw.x.F hA2 (Or.inl (by decide)) k9.F0.1)
  have fa : S16.f o2 0 = S.f o2 0 := f_of (hm.x.F (hw.x.A hA2) (Or.inl (by decide)) (hw.x.F hA2 (Or.inl (by decide)) k9.F0.1))
  have aA4 := hw.x.A k9.F0.2.1
  have ra : S16.r (S.f o2 0) = S4.r (S.f o2 0) := (hm.fR _ aA4.1 List.not_mem_nil).2.2.1 (by rw [aA4.2.1]; exact hk _ (by decide))
  have fl16 : S16.f (S.f o 0) 1 = a := f_of aF
  have ck := cl_int (i := S.I o2 1) R9.1
  have ck2 := cl_int (i := S.I (S.f o 0) 2) (by omega)
  have qa0 : ∀ i, S16.q (S16.f o2 0) i = S4.q (S.f o2 0) i := fun i => by unfold wPS.q; rw [fa, ra]
  have qb0 : ∀ i, S16.q (S16.f (S16.f o 0) 1) i = S16.q a i := fun i => by rw [f16, fl16]
  have eaN : ∀ i, i = (S.I o2 1).toNatClampNeg → S4.q (S.f o2 0) i = g := fun i hik => by rw [hik]; exact q_of gr
  have ebN : ∀ i, i = (S.I o2 1).toNatClampNeg → S16.q a i = b := fun i hik => by rw [show i = (S.I (S.f o 0) 2).toNatClampNeg by omega]; exact q_of br
  have eaO : ∀ i, ¬ i = (S.I o2 1).toNatClampNeg → S4.q (S.f o2 0) i = S.q (S.f o2 0) i := fun i hik => by unfold wPS.q; rw [go i hik]
  have ebO : ∀ i : Nat, (i : Int) < (S.I o2 1).toInt → S16.q a i = S.q (S.f (S.f o 0) 1) i := fun i hi' => by unfold wPS.q; rw [bo i (by omega), rl4 i hi']
  refine ⟨(hw.x.tr hm.x).A hA2, ⟨by rw [f16]; exact e16, by rw [f16]; exact (hw.x.tr hm.x).A l0, by rw [f16, (hw.x.tr hm.x).n l0]; exact n0⟩, by rw [cI, f16, c4, n1, mc], fun i hi => ?_, fun i j hi hj hn => ?_⟩
  · rw [cI, c4] at hi
    rw [qa0, qb0]
    by_cases hik : i = (S.I o2 1).toNatClampNeg
    · rw [eaN i hik, ebN i hik]
      have fg := (hm.fR g gA.1 List.not_mem_nil).1
      rw [gA.2.1] at fg
      exact ⟨hm.x.A gA, bA, by rw [(fg 0 (hk _ (by decide))).1, cv0, hik]; exact nI_cl R9.1, by rw [(fg 1 (hk _ (by decide))).1, cv1, dv1], by rw [(fg 2 (hk _ (by decide))).1, cv2, dv2], by rw [(fg 3 (hk _ (by decide))).1, cv3, dv3]⟩
    · have hi' : (i : Int) < (S.I o2 1).toInt := by omega
      rw [eaO i hik, ebO i hi']
      obtain ⟨ga, gb, g0, p1, p2, p3⟩ := mg i hi'
      have f1 := (hw.fR _ ga.1 List.not_mem_nil).1
      have f2 := (hw.fR _ gb.1 List.not_mem_nil).1
      have f3 := (hm.fR _ (hw.x.A ga).1 List.not_mem_nil).1
      have f5 := (hm.fR _ (hw.x.A gb).1 List.not_mem_nil).1
      rw [ga.2.1] at f1
      rw [gb.2.1] at f2
      rw [(hw.x.A ga).2.1] at f3
      rw [(hw.x.A gb).2.1] at f5
      exact ⟨hm.x.A (hw.x.A ga), hm.x.A (hw.x.A gb), by rw [(f3 0 (hk _ (by decide))).1, (f1 0 (hc _ (by decide))).1]; exact g0, by rw [(f3 1 (hk _ (by decide))).1, (f1 1 (hc _ (by decide))).1, (f5 1 (hk _ (by decide))).1, (f2 1 (hc _ (by decide))).1]; exact p1, by rw [(f3 2 (hk _ (by decide))).1, (f1 2 (hc _ (by decide))).1, (f5 2 (hk _ (by decide))).1, (f2 2 (hc _ (by decide))).1]; exact p2, by rw [(f3 3 (hk _ (by decide))).1, (f1 3 (hc _ (by decide))).1, (f5 3 (hk _ (by decide))).1, (f2 3 (hc _ (by decide))).1]; exact p3⟩
  · rw [cI, c4] at hi hj
    rw [qa0, qa0, qb0, qb0]
    have nA : ∀ i : Nat, (i : Int) < (S.I o2 1).toInt → ¬ S.q (S.f o2 0) i = g := fun i hi e => ng (by rw [← e]; exact (mg i hi).1.1)
    have nB : ∀ i : Nat, (i : Int) < (S.I o2 1).toInt → ¬ S.q (S.f (S.f o 0) 1) i = b := fun i hi e => nb (by rw [← e]; exact (hw.x.A (mg i hi).2.1).1)
    by_cases hik : i = (S.I o2 1).toNatClampNeg
    · have hj' : (j : Int) < (S.I o2 1).toInt := by omega
      rw [eaN i hik, ebN i hik, eaO j (by omega), ebO j hj']
      exact ⟨fun e => nA j hj' e.symm, fun e => nB j hj' e.symm⟩
    · have hi' : (i : Int) < (S.I o2 1).toInt := by omega
      by_cases hjk : j = (S.I o2 1).toNatClampNeg
      · rw [eaN j hjk, ebN j hjk, eaO i hik, ebO i hi']
        exact ⟨nA i hi', nB i hi'⟩
      · have hj' : (j : Int) < (S.I o2 1).toInt := by omega
        rw [eaO i hik, ebO i hi', eaO j hjk, ebO j hj']
        exact md i j hi' hj' hn
/-- the same hobs on both sides -/
def GRH (S : wPS) (i a b : Nat) : Prop := isA S a 3 ∧ isA S b 11 ∧ S.I a 1 = S.I b 1
def RH (o2 : Nat) (S : wPS) (o : Nat) : Prop := isA S o2 9 ∧ (S.F o 1 = some (S.f o 1) ∧ isA S (S.f o 1) 14 ∧ S.n (S.f o 1) = 11) ∧ (S.I o2 3).toInt = (S.I (S.f o 1) 2).toInt ∧ (∀ i : Nat, (i : Int) < (S.I o2 3).toInt → GRH S i (S.q (S.f o2 2) i) (S.q (S.f (S.f o 1) 1) i)) ∧ (∀ i j : Nat, (i : Int) < (S.I o2 3).toInt → (j : Int) < (S.I o2 3).toInt → ¬ i = j → ¬ S.q (S.f o2 2) i = S.q (S.f o2 2) j ∧ ¬ S.q (S.f (S.f o 1) 1) i = S.q (S.f (S.f o 1) 1) j)
theorem GRH.fr {W : List (Nat × Nat)} {S U : wPS} {i a b : Nat} (h : stp W [] [] S U) (h1 : ∀ p ∈ ([(3, 1), (9, 3), (11, 1), (20, 101), (114, 11), (122, 11)] : List (Nat × Nat)), p ∉ W) (m : GRH S i a b) : GRH U i a b := by
  obtain ⟨ga, gb, p1⟩ := m
  have fa := (h.fR a ga.1 List.not_mem_nil).1
  have fb := (h.fR b gb.1 List.not_mem_nil).1
  rw [ga.2.1] at fa
  rw [gb.2.1] at fb
  exact ⟨h.x.A ga, h.x.A gb, by rw [(fa 1 (h1 _ (by decide))).1, (fb 1 (h1 _ (by decide))).1]; exact p1⟩
theorem RH.st {W : List (Nat × Nat)} {S U : wPS} {o2 o : Nat} (h : stp W [] [] S U) (hW : wtB S []) (hA : isA S o 12) (hl : (114, 11) ∉ W ∧ (122, 11) ∉ W) (m : RH o2 S o) : U.f o 1 = S.f o 1 ∧ (U.F o 1 = some (U.f o 1) ∧ isA U (U.f o 1) 14 ∧ U.n (U.f o 1) = 11) ∧ U.I (S.f o 1) 2 = S.I (S.f o 1) 2 ∧ U.f (S.f o 1) 1 = S.f (S.f o 1) 1 ∧ ∀ i : Nat, (i : Int) < (S.I o2 3).toInt → U.r (S.f (S.f o 1) 1) i = S.r (S.f (S.f o 1) 1) i := by
  obtain ⟨hA2, ⟨e0, l0, n0⟩, mc, -, -⟩ := m
  have e' := h.x.F hA (Or.inl (by decide)) e0
  have f' : U.f o 1 = S.f o 1 := f_of e'
  have q := h.2.2.2.2.2 (S.f o 1) l0.1 List.not_mem_nil
  have q2 : U.I (S.f o 1) 2 = S.I (S.f o 1) 2 ∧ U.F (S.f o 1) = S.F (S.f o 1) := by
    rcases (q.1 l0.2.1).2 with w | w
    · rw [n0] at w; exact absurd w hl.1
    · exact w
  refine ⟨f', ⟨by rw [f']; exact e', by rw [f']; exact h.x.A l0, by rw [f', h.x.n l0]; exact n0⟩, q2.1, by show (U.F (S.f o 1) 1).getD 0 = (S.F (S.f o 1) 1).getD 0; rw [q2.2], fun i hi => ?_⟩
  rcases (hW.at l0 List.not_mem_nil).to_14 l0.2.1 with ⟨-, z⟩ | ⟨-, a2, -, a4, -, -, -⟩
  · omega
  · rcases (h.2.2.2.2.2 _ a2.1 List.not_mem_nil).2 a2.2.1 11 (by rw [a4, n0]) with w | w
    · exact absurd w hl.2
    · rw [w]
theorem RH.keep {W : List (Nat × Nat)} {S U : wPS} {o2 o : Nat} (h : stp W [] [] S U) (hW : wtB S []) (hA : isA S o 12) (h1 : ∀ p ∈ ([(3, 1), (9, 3), (11, 1), (20, 101), (114, 11), (122, 11)] : List (Nat × Nat)), p ∉ W) (_ : True) (m : RH o2 S o) : RH o2 U o := by
  have m0 := m
  obtain ⟨hA2, ⟨e0, l0, n0⟩, mc, mg, md⟩ := m
  obtain ⟨f', m1, q2, fl, rl⟩ := RH.st h hW hA ⟨h1 _ (by decide), h1 _ (by decide)⟩ m0
  have c1 : U.I o2 3 = S.I o2 3 := ((h.fR o2 hA2.1 List.not_mem_nil).1 3 (by rw [hA2.2.1]; exact h1 _ (by decide))).1
  have k9 := (hW.at hA2 List.not_mem_nil).to_9 hA2.2.1
  have fa : U.f o2 2 = S.f o2 2 := f_of (h.x.F hA2 (Or.inl (by decide)) k9.F2.1)
  have ra : U.r (S.f o2 2) = S.r (S.f o2 2) := (h.fR _ k9.F2.2.1.1 List.not_mem_nil).2.2.1 (by rw [k9.F2.2.1.2.1]; exact h1 _ (by decide))
  have qa : ∀ i, U.q (U.f o2 2) i = S.q (S.f o2 2) i := fun i => by unfold wPS.q; rw [fa, ra]
  have qb : ∀ i : Nat, (i : Int) < (S.I o2 3).toInt → U.q (U.f (U.f o 1) 1) i = S.q (S.f (S.f o 1) 1) i := fun i hi => by unfold wPS.q; rw [f', fl, rl i hi]
  refine ⟨h.x.A hA2, m1, by rw [c1, f', q2]; exact mc, fun i hi => ?_, fun i j hi hj hn => ?_⟩
  · rw [c1] at hi
    rw [qa, qb i hi]
    exact (mg i hi).fr h h1
  · rw [c1] at hi hj
    rw [qa, qa, qb i hi, qb j hj]
    exact md i j hi hj hn
theorem RH.sI {S : wPS} {o2 o j : Nat} {t : Int32} (hA : isA S o 12) (m : RH o2 S o) : RH o2 (S.sI o j t) o := by
  have ne : ∀ {x k : Nat}, isA S x k → k ≠ 12 → (S.sI o j t).I x = S.I x := fun hx hk => sI_no (fun e => hk (by rw [← hx.2.1, e]; exact hA.2.1))
  obtain ⟨hA2, ⟨e0, l0, n0⟩, mc, mg, md⟩ := m
  refine ⟨hA2, ⟨e0, l0, n0⟩, ?_, fun i hi => ?_, fun i j hi hj hn => ?_⟩
  · show ((S.sI o j t).I o2 3).toInt = ((S.sI o j t).I (S.f o 1) 2).toInt
    rw [ne hA2 (by decide), ne l0 (by decide)]; exact mc
  · rw [ne hA2 (by decide)] at hi
    obtain ⟨ga, gb, p1⟩ := mg i hi
    show GRH (S.sI o j t) i (S.q (S.f o2 2) i) (S.q (S.f (S.f o 1) 1) i)
    exact ⟨ga, gb, by rw [ne ga (by decide), ne gb (by decide)]; exact p1⟩
  · rw [ne hA2 (by decide)] at hi hj
    exact md i j hi hj hn
theorem RH.add {WC WM : List (Nat × Nat)} {S S4 S16 : wPS} {o2 o : Nat} {x1 x2 x3 x4 : Int32} (m : RH o2 S o) (hA : isA S o 12) (hW : wtB S []) (hw : stp WC [] [] S S4) (hm : stp WM [] [] S4 S16) (hc : ∀ p ∈ ([(3, 1), (11, 1), (114, 11), (122, 11)] : List (Nat × Nat)), p ∉ WC) (hk : ∀ p ∈ ([(3, 1), (9, 3), (11, 1), (20, 101)] : List (Nat × Nat)), p ∉ WM)
    (c4 : (S4.I o2 3).toInt = (S.I o2 3).toInt + 1) (N : ∃ g : Nat, g ∉ S.L ∧ isA S4 g 3 ∧ S4.r (S.f o2 2) (S.I o2 3).toNatClampNeg = some g ∧ (∀ i : Nat, i ≠ (S.I o2 3).toNatClampNeg → S4.r (S.f o2 2) i = S.r (S.f o2 2) i) ∧ S4.I g 0 = x1 ∧ S4.I g 1 = x2 ∧ S4.I g 3 = x3 ∧ S4.I g 4 = (0 : Int32) ∧ S4.I g 5 = (0 : Int32))
    (n1 : (S16.I (S4.f o 1) 2).toInt = (S4.I (S4.f o 1) 2).toInt + 1) (M : ∃ g a : Nat, g ∉ S4.L ∧ isA S16 g 11 ∧ S16.F (S4.f o 1) 1 = some a ∧ isA S16 a 22 ∧ S16.r a (S4.I (S4.f o 1) 2).toNatClampNeg = some g ∧ (∀ i : Nat, (i : Int) < (S4.I (S4.f o 1) 2).toInt → S16.r a i = S4.r (S4.f (S4.f o 1) 1) i) ∧ S16.I g 0 = x1 ∧ S16.I g 1 = x2 ∧ S16.I g 4 = x3 ∧ S16.I g 3 = x4 ∧ S16.I g 5 = (0 : Int32) ∧ S16.I g 6 = (0 : Int32)) : RH o2 S16 o := by
  have m0 := m
  obtain ⟨hA2, ⟨e0, l0, n0⟩, mc, mg, md⟩ := m
  obtain ⟨f4, m4, q4, fl4, rl4⟩ := RH.st hw hW hA ⟨hc _ (by decide), hc _ (by decide)⟩ m0
  obtain ⟨g, ng, gA, gr, go, cv0, cv1, cv3, cv4, cv5⟩ := N
  obtain ⟨b, a, nb, bA, aF, aA, br, bo, dv0, dv1, dv4, dv3, dv5, dv6⟩ := M
  rw [f4] at n1 aF br bo
  rw [q4] at n1 br bo
  rw [fl4] at bo
  have R9 := ((hW.at hA2 List.not_mem_nil).to_9 hA2.2.1).R3
  have k9 := (hW.at hA2 List.not_mem_nil).to_9 hA2.2.1
  have e16 := hm.x.F (hw.x.A hA) (Or.inl (by decide)) m4.1
  rw [f4] at e16
  have f16 : S16.f o 1 = (S.f o 1) := f_of e16
  have cI : S16.I o2 3 = S4.I o2 3 := ((hm.fR o2 (hw.x.A hA2).1 List.not_mem_nil).1 3 (by rw [(hw.x.A hA2).2.1]; exact hk _ (by decide))).1
  have fa4 : S4.f o2 2 = S.f o2 2 := f_of (hw.x.F hA2 (Or.inl (by decide)) k9.F2.1)
  have fa : S16.f o2 2 = S.f o2 2 := f_of (hm.x.F (hw.x.A hA2) (Or.inl (by decide)) (hw.x.F hA2 (Or.inl (by decide)) k9.F2.1))
  have aA4 := hw.x.A k9.F2.2.1
  have ra : S16.r (S.f o2 2) = S4.r (S.f o2 2) := (hm.fR _ aA4.1 List.not_mem_nil).2.2.1 (by rw [aA4.2.1]; exact hk _ (by decide))
  have fl16 : S16.f (S.f o 1) 1 = a := f_of aF
  have ck := cl_int (i := S.I o2 3) R9.1
  have ck2 := cl_int (i := S.I (S.f o 1) 2) (by omega)
  have qa0 : ∀ i, S16.q (S16.f o2 2) i = S4.q (S.f o2 2) i := fun i => by unfold wPS.q; rw [fa, ra]
  have qb0 : ∀ i, S16.q (S16.f (S16.f o 1) 1) i = S16.q a i := fun i => by rw [f16, fl16]
  have eaN : ∀ i, i = (S.I o2 3).toNatClampNeg → S4.q (S.f o2 2) i = g := fun i hik => by rw [hik]; exact q_of gr
  have ebN : ∀ i, i = (S.I o2 3).toNatClampNeg → S16.q a i = b := fun i hik => by rw [show i = (S.I (S.f o 1) 2).toNatClampNeg by omega]; exact q_of br
  have eaO : ∀ i, ¬ i = (S.I o2 3).toNatClampNeg → S4.q (S.f o2 2) i = S.q (S.f o2 2) i := fun i hik => by unfold wPS.q; rw [go i hik]
  have ebO : ∀ i : Nat, (i : Int) < (S.I o2 3).toInt → S16.q a i = S.q (S.f (S.f o 1) 1) i := fun i hi' => by unfold wPS.q; rw [bo i (by omega), rl4 i hi']
  refine ⟨(hw.x.tr hm.x).A hA2, ⟨by rw [f16]; exact e16, by rw [f16]; exact (hw.x.tr hm.x).A l0, by rw [f16, (hw.x.tr hm.x).n l0]; exact n0⟩, by rw [cI, f16, c4, n1, mc], fun i hi => ?_, fun i j hi hj hn => ?_⟩
  · rw [cI, c4] at hi
    rw [qa0, qb0]
    by_cases hik : i = (S.I o2 3).toNatClampNeg
    · rw [eaN i hik, ebN i hik]
      have fg := (hm.fR g gA.1 List.not_mem_nil).1
      rw [gA.2.1] at fg
      exact ⟨hm.x.A gA, bA, by rw [(fg 1 (hk _ (by decide))).1, cv1, dv1]⟩
    · have hi' : (i : Int) < (S.I o2 3).toInt := by omega
      rw [eaO i hik, ebO i hi']
      obtain ⟨ga, gb, p1⟩ := mg i hi'
      have f1 := (hw.fR _ ga.1 List.not_mem_nil).1
      have f2 := (hw.fR _ gb.1 List.not_mem_nil).1
      have f3 := (hm.fR _ (hw.x.A ga).1 List.not_mem_nil).1
      have f5 := (hm.fR _ (hw.x.A gb).1 List.not_mem_nil).1
      rw [ga.2.1] at f1
      rw [gb.2.1] at f2
      rw [(hw.x.A ga).2.1] at f3
      rw [(hw.x.A gb).2.1] at f5
      exact ⟨hm.x.A (hw.x.A ga), hm.x.A (hw.x.A gb), by rw [(f3 1 (hk _ (by decide))).1, (f1 1 (hc _ (by decide))).1, (f5 1 (hk _ (by decide))).1, (f2 1 (hc _ (by decide))).1]; exact p1⟩
  · rw [cI, c4] at hi hj
    rw [qa0, qa0, qb0, qb0]
    have nA : ∀ i : Nat, (i : Int) < (S.I o2 3).toInt → ¬ S.q (S.f o2 2) i = g := fun i hi e => ng (by rw [← e]; exact (mg i hi).1.1)
    have nB : ∀ i : Nat, (i : Int) < (S.I o2 3).toInt → ¬ S.q (S.f (S.f o 1) 1) i = b := fun i hi e => nb (by rw [← e]; exact (hw.x.A (mg i hi).2.1).1)
    by_cases hik : i = (S.I o2 3).toNatClampNeg
    · have hj' : (j : Int) < (S.I o2 3).toInt := by omega
      rw [eaN i hik, ebN i hik, eaO j (by omega), ebO j hj']
      exact ⟨fun e => nA j hj' e.symm, fun e => nB j hj' e.symm⟩
    · have hi' : (i : Int) < (S.I o2 3).toInt := by omega
      by_cases hjk : j = (S.I o2 3).toNatClampNeg
      · rw [eaN j hjk, ebN j hjk, eaO i hik, ebO i hi']
        exact ⟨nA i hi', nB i hi'⟩
      · have hj' : (j : Int) < (S.I o2 3).toInt := by omega
        rw [eaO i hik, ebO i hi', eaO j hjk, ebO j hj']
        exact md i j hi' hj' hn
/-- the machine's constant, the same on both sides -/
def RCN (o2 : Nat) (S : wPS) (o : Nat) : Prop := isA S o2 9 ∧ S.I o2 9 = S.I o 17 ∧ 1 ≤ (S.I o2 9).toInt ∧ (S.I o2 9).toInt ≤ 99
theorem RCN.keep {W : List (Nat × Nat)} {S U : wPS} {o2 o : Nat} (h : stp W [] [] S U) (_ : wtB S []) (hA : isA S o 12) (h1 : ∀ p ∈ ([(9, 9), (12, 17)] : List (Nat × Nat)), p ∉ W) (_ : True) (m : RCN o2 S o) : RCN o2 U o := by
  obtain ⟨hA2, m1, m2⟩ := m
  have c0 : U.I o2 9 = S.I o2 9 := ((h.fR _ hA2.1 List.not_mem_nil).1 9 (by rw [hA2.2.1]; exact h1 _ (by decide))).1
  have c1 : U.I o 17 = S.I o 17 := ((h.fR _ hA.1 List.not_mem_nil).1 17 (by rw [hA.2.1]; exact h1 _ (by decide))).1
  exact ⟨h.x.A hA2, by rw [c0, c1]; exact m1, by rw [c0]; exact m2⟩
theorem RCN.sI {S : wPS} {o2 o : Nat} {t : Int32} (hA : isA S o 12) (m : RCN o2 S o) : RCN o2 (S.sI o 15 t) o := by
  obtain ⟨hA2, m1, m2⟩ := m
  have c0 : (S.sI o 15 t).I o2 9 = S.I o2 9 := congrFun (sI_no (fun e => by have k := hA.2.1; rw [← e, hA2.2.1] at k; exact absurd k (by decide))) 9
  have c1 : (S.sI o 15 t).I o 17 = S.I o 17 := sI_ne (by decide)
  exact ⟨hA2, by rw [c0, c1]; exact m1, by rw [c0]; exact m2⟩
/-- the wheels of both sides are the same, the class's in order -/
def WB (n : Nat) (X W : Nat → Int32) : Prop := (∀ i, i < n → 15 ≤ (W i).toInt ∧ (W i).toInt ≤ 127) ∧ (∀ i j, i ≤ j → j < n → (X i).toInt ≤ (X j).toInt) ∧ ∃ σ τ : Nat → Nat, ((∀ i, i < n → σ i < n ∧ X i = W (σ i)) ∧ ∀ i j, i < n → j < n → σ i = σ j → i = j) ∧ (∀ i, i < n → τ i < n ∧ W i = X (τ i)) ∧ ∀ i j, i < n → j < n → τ i = τ j → i = j
/-- the same wheels in both boxes -/
def RBX (o2 : Nat) (S : wPS) (o : Nat) : Prop := isA S o2 9 ∧ (S.F o2 6 = some (S.f o2 6) ∧ isA S (S.f o2 6) 0) ∧ (¬ S.f o 3 = S.f o 4) ∧ S.I (S.f o2 6) 2 = S.I o 16 ∧ WB (S.I o 16).toNatClampNeg (S.i (S.f (S.f o2 6) 0)) (S.i (S.f o 2))
theorem RBX.keep {W : List (Nat × Nat)} {S U : wPS} {o2 o : Nat} (h : stp W [] [] S U) (hW : wtB S []) (hA : isA S o 12) (h1 : ∀ p ∈ ([(0, 2), (12, 16), (27, 100), (31, 100)] : List (Nat × Nat)), p ∉ W) (_ : True) (m : RBX o2 S o) : RBX o2 U o := by
  obtain ⟨hA2, ⟨e6, hb⟩, n34, mc, mw⟩ := m
  have x6 := h.x.F hA2 (Or.inl (by decide)) e6
  have f6 : U.f o2 6 = S.f o2 6 := f_of x6
  have k0 := (hW.at hb List.not_mem_nil).to_0 hb.2.1
  have k12 := (hW.at hA List.not_mem_nil).to_12 hA.2.1
  have f0 : U.f (S.f o2 6) 0 = S.f (S.f o2 6) 0 := f_of (h.x.F hb (Or.inl (by decide)) k0.F0.1)
  have f2 : U.f o 2 = S.f o 2 := f_of (h.x.F hA (Or.inl (by decide)) k12.F2.1)
  have f3 : U.f o 3 = S.f o 3 := f_of (h.x.F hA (Or.inl (by decide)) k12.F3.1)
  have f4 : U.f o 4 = S.f o 4 := f_of (h.x.F hA (Or.inl (by decide)) k12.F4.1)
  have i0 : U.i (S.f (S.f o2 6) 0) = S.i (S.f (S.f o2 6) 0) := (h.fR _ k0.F0.2.1.1 List.not_mem_nil).2.1 (by rw [k0.F0.2.1.2.1]; exact h1 _ (by decide))
  have i2 : U.i (S.f o 2) = S.i (S.f o 2) := (h.fR _ k12.F2.2.1.1 List.not_mem_nil).2.1 (by rw [k12.F2.2.1.2.1]; exact h1 _ (by decide))
  have c0 : U.I (S.f o2 6) 2 = S.I (S.f o2 6) 2 := ((h.fR _ hb.1 List.not_mem_nil).1 2 (by rw [hb.2.1]; exact h1 _ (by decide))).1
  have c1 : U.I o 16 = S.I o 16 := ((h.fR _ hA.1 List.not_mem_nil).1 16 (by rw [hA.2.1]; exact h1 _ (by decide))).1
  exact ⟨h.x.A hA2, ⟨by rw [f6]; exact x6, by rw [f6]; exact h.x.A hb⟩, by rw [f3, f4]; exact n34, by rw [f6, c0, c1]; exact mc, by rw [f6, f0, f2, i0, i2, c1]; exact mw⟩
theorem RBX.sI {S : wPS} {o2 o : Nat} {t : Int32} (hA : isA S o 12) (m : RBX o2 S o) : RBX o2 (S.sI o 15 t) o := by
  obtain ⟨hA2, ⟨e6, hb⟩, n34, mc, mw⟩ := m
  have c0 : (S.sI o 15 t).I (S.f o2 6) 2 = S.I (S.f o2 6) 2 := congrFun (sI_no (fun e => by have k := hA.2.1; rw [← e, hb.2.1] at k; exact absurd k (by decide))) 2
  have c1 : (S.sI o 15 t).I o 16 = S.I o 16 := sI_ne (by decide)
  refine ⟨hA2, ⟨e6, hb⟩, n34, ?_, ?_⟩
  · show (S.sI o 15 t).I (S.f o2 6) 2 = (S.sI o 15 t).I o 16
    rw [c0, c1]; exact mc
  · rw [c1]; exact mw
/-- what holds all through the law's body -/
def LC (p : Program) (l : Launch) (s : State) (m : MethodId) (c : Code) (b L : Nat) (xs : Nat → Int32) (D : va_G) (cy : Nat → ClassId) (c8 c9 : ClassId) (e0 mi : Nat) : Prop :=
  p.tables.exec = Jvm.exec ∧ c.code = cL_law ∧ c.maxLocals = 9 ∧ s.vm.findClass RL = some m.cls ∧ (∀ w ∈ wsL_law, w.before #[Value.ref b] s = true) ∧ va_X b L xs s s.heap ∧ b < s.heap.size ∧ NW s ∧ TH (fun q => s.heap.size ≤ q) s ∧ OU e0 mi (fun q => s.heap.size ≤ q) s s.heap ∧ va_K D vwCl (tyX cy c8 c9) s ∧ l.stackTraces = false ∧ NC s
/-- what holds at the head of each round: the shop, the reference, the two rows of answers -/
def LI (D : va_G) (cy : Nat → ClassId) (c8 c9 : ClassId) (e0 : Nat) (A : Nat → Prop) (o1 o2 qo qd : Nat) (fo : Nat → Int64) (fd : Nat → UInt64) (S : wPS) (H : Heap) : Prop :=
  va_P D vwCl (XO c8 c9 qo qd fo fd ++ PL cy S) H ∧ va_D A (XO c8 c9 qo qd fo fd ++ PL cy S) ∧ wtB S [] ∧ isA S o2 9 ∧ isA S o1 12 ∧ S.F o1 77 = some e0 ∧ MV S o1 ∧ IV S o1 ∧ RG o2 S o1 ∧ RH o2 S o1 ∧ RCN o2 S o1 ∧ RBX o2 S o1
theorem lcmp_self (x : Int64) : lg_cmp x x = 0 := by
  unfold lg_cmp
  simp
theorem rng_ok {x a b : Int32} (h : a.toInt ≤ x.toInt ∧ x.toInt ≤ b.toInt) : f_X9_needRange x a b = .ok () := by
  unfold f_X9_needRange
  rw [if_neg (fun q => by have := lt_i q; omega), if_pos (Int32.le_iff_toInt_le.mpr h.2)]
theorem rng_er {x a b : Int32} (h : ¬ (a.toInt ≤ x.toInt ∧ x.toInt ≤ b.toInt)) : f_X9_needRange x a b = .error "java/lang/IllegalArgumentException" := by
  unfold f_X9_needRange
  split
  · rfl
  · rename_i h1
    rw [if_neg (fun q => h ⟨nlt_i h1, le_i q⟩)]
theorem in_ok {x lo hi : Int64} (h : lo.toInt ≤ x.toInt ∧ x.toInt ≤ hi.toInt) : f_X12_in x lo hi = 1 := by
  unfold f_X12_in
  rw [if_neg (fun q => by have := lc_lt q; omega), if_neg (fun q => by have := lc_gt q; omega)]
theorem in_no {x lo hi : Int64} (h : ¬ (lo.toInt ≤ x.toInt ∧ x.toInt ≤ hi.toInt)) : f_X12_in x lo hi = 0 := by
  unfold f_X12_in
  split
  · rfl
  · rename_i h1
    split
    · rfl
    · rename_i h2
      exact absurd ⟨lc_nlt h1, lc_ngt h2⟩ h
theorem eqH {α : Type} {call : Except String α} {cv : α → Int64} {wc : String → Int32} {r3 r20 : Int32} {ans : Int64} {fo f5 : Nat → Int64} (h : (∃ v, call = .ok v ∧ r3 = 0 ∧ f5 = vp_updL fo (0 : Int32).toNatClampNeg (cv v)) ∨ ∃ E, call = .error E ∧ r3 = wc E ∧ f5 = fo) (hc : (∃ v, call = .ok v ∧ r20 = 0 ∧ cv v = ans) ∨ ∃ E, call = .error E ∧ r20 = wc E ∧ ¬ wc E = 0) : r20 = r3 ∧ (r3 = 0 → f5 (0 : Int32).toNatClampNeg = ans) := by
  rcases hc with ⟨v, e1, e2, e3⟩ | ⟨E, e1, e2, e3⟩
  · rcases h with ⟨w, g1, g2, g3⟩ | ⟨E, g1, -, -⟩
    · rw [e1] at g1; cases g1
      exact ⟨e2.trans g2.symm, fun _ => by rw [g3, ← e3]; simp [vp_updL]⟩
    · rw [e1] at g1; cases g1
  · rcases h with ⟨w, g1, -, -⟩ | ⟨E2, g1, g2, -⟩
    · rw [e1] at g1; cases g1
    · rw [e1] at g1; cases g1
      exact ⟨e2.trans g2.symm, fun q => absurd (g2.symm.trans q) e3⟩
theorem nt_ok {x : Int32} (h : 6 ≤ x.toInt ∧ x.toInt ≤ 200) : f_X9_needTeeth x = .ok () := by
  have a1 : (6 : Int32).toInt = 6 := rfl
  have a2 : (200 : Int32).toInt = 200 := rfl
  unfold f_X9_needTeeth
  rw [eB_ok (rng_ok (by rw [a1, a2]; exact h))]
theorem nt_er {x : Int32} (h : ¬ (6 ≤ x.toInt ∧ x.toInt ≤ 200)) : f_X9_needTeeth x = .error "java/lang/IllegalArgumentException" := by
  have a1 : (6 : Int32).toInt = 6 := rfl
  have a2 : (200 : Int32).toInt = 200 := rfl
  unfold f_X9_needTeeth
  exact eB_er (rng_er (by rw [a1, a2]; exact h))
theorem li64 {x : Int32} {a b : Int} {la lb : Int64} (ha : la.toInt = a) (hb : lb.toInt = b) (h : a ≤ x.toInt ∧ x.toInt ≤ b) : f_X12_in x.toInt64 la lb = 1 := in_ok (by rw [i64_i, ha, hb]; exact h)
theorem li64n {x : Int32} {a b : Int} {la lb : Int64} (ha : la.toInt = a) (hb : lb.toInt = b) (h : ¬ (a ≤ x.toInt ∧ x.toInt ≤ b)) : f_X12_in x.toInt64 la lb = 0 := in_no (by rw [i64_i, ha, hb]; exact h)
/-! gear: refused alike on both sides, or one more on both -/
theorem ca_gear {S S4 S16 : wPS} {o1 o2 : Nat} {y1 y2 y3 y4 r12 : Int32} (hc : (S.I o2 1).toInt = (S4.I (S4.f o1 0) 2).toInt) (rr : 0 ≤ (S.I o2 1).toInt ∧ (S.I o2 1).toInt ≤ 20) (h2 : ((((f_X12_in y1.toInt64 (6 : Int64) (200 : Int64)).toInt = 0 ∨ (f_X12_in y2.toInt64 (500 : Int64) (10000 : Int64)).toInt = 0 ∨ (f_X12_in y3.toInt64 (-500 : Int64) (500 : Int64)).toInt = 0 ∨ (f_X12_in y4.toInt64 (1000 : Int64) (99999 : Int64)).toInt = 0) ∧ r12.toInt = 0 ∧ (S16.I o1 15).toInt = 1 ∧ (S16.I (S4.f o1 0) 2).toInt = (S4.I (S4.f o1 0) 2).toInt) ∨ ((¬ (f_X12_in y1.toInt64 (6 : Int64) (200 : Int64)).toInt = 0 ∧ ¬ (f_X12_in y2.toInt64 (500 : Int64) (10000 : Int64)).toInt = 0 ∧ ¬ (f_X12_in y3.toInt64 (-500 : Int64) (500 : Int64)).toInt = 0 ∧ ¬ (f_X12_in y4.toInt64 (1000 : Int64) (99999 : Int64)).toInt = 0) ∧ (S4.I (S4.f o1 0) 2).toInt = 20 ∧ r12.toInt = 0 ∧ (S16.I o1 15).toInt = 2 ∧ (S16.I (S4.f o1 0) 2).toInt = (S4.I (S4.f o1 0) 2).toInt) ∨ ((¬ (f_X12_in y1.toInt64 (6 : Int64) (200 : Int64)).toInt = 0 ∧ ¬ (f_X12_in y2.toInt64 (500 : Int64) (10000 : Int64)).toInt = 0 ∧ ¬ (f_X12_in y3.toInt64 (-500 : Int64) (500 : Int64)).toInt = 0 ∧ ¬ (f_X12_in y4.toInt64 (1000 : Int64) (99999 : Int64)).toInt = 0) ∧ ¬ (S4.I (S4.f o1 0) 2).toInt = 20 ∧ r12.toInt = (S4.I (S4.f o1 0) 2).toInt ∧ (S16.I o1 15).toInt = 0 ∧ (S16.I (S4.f o1 0) 2).toInt = (S4.I (S4.f o1 0) 2).toInt + 1))) : (∃ (E : String) (n : Int32), f_X9_gear S o2 y1 y2 y3 y4 = .error E ∧ wc_gear E = n ∧ ¬ n = 0 ∧ (S16.I o1 15).toInt = n.toInt ∧ (S16.I (S4.f o1 0) 2).toInt = (S4.I (S4.f o1 0) 2).toInt) ∨ (f_X9_gear S o2 y1 y2 y3 y4 = .ok (S.I o2 1) ∧ (S16.I o1 15).toInt = 0 ∧ r12.toInt = (S4.I (S4.f o1 0) 2).toInt ∧ (S16.I (S4.f o1 0) 2).toInt = (S4.I (S4.f o1 0) 2).toInt + 1) := by
  have l20 : (20 : Int32).toInt = 20 := rfl
  have bad : ∀ (E : String) (n : Int32), f_X9_gear S o2 y1 y2 y3 y4 = .error E → wc_gear E = n → ¬ n = 0 → (S16.I o1 15).toInt = n.toInt → (S16.I (S4.f o1 0) 2).toInt = (S4.I (S4.f o1 0) 2).toInt → (∃ (E : String) (n : Int32), f_X9_gear S o2 y1 y2 y3 y4 = .error E ∧ wc_gear E = n ∧ ¬ n = 0 ∧ (S16.I o1 15).toInt = n.toInt ∧ (S16.I (S4.f o1 0) 2).toInt = (S4.I (S4.f o1 0) 2).toInt) ∨ (f_X9_gear S o2 y1 y2 y3 y4 = .ok (S.I o2 1) ∧ (S16.I o1 15).toInt = 0 ∧ r12.toInt = (S4.I (S4.f o1 0) 2).toInt ∧ (S16.I (S4.f o1 0) 2).toInt = (S4.I (S4.f o1 0) 2).toInt + 1) := fun E n e1 e2 e3 e4 e5 => Or.inl ⟨E, n, e1, e2, e3, e4, e5⟩
  have am500 : (-500 : Int32).toInt = -500 := rfl
  have a6 : (6 : Int32).toInt = 6 := rfl
  have a200 : (200 : Int32).toInt = 200 := rfl
  have a500 : (500 : Int32).toInt = 500 := rfl
  have a1000 : (1000 : Int32).toInt = 1000 := rfl
  have a10000 : (10000 : Int32).toInt = 10000 := rfl
  have a99999 : (99999 : Int32).toInt = 99999 := rfl
  by_cases c0 : (6 : Int) ≤ y1.toInt ∧ y1.toInt ≤ 200
  · have z0 : (f_X12_in y1.toInt64 (6 : Int64) (200 : Int64)).toInt = 1 := by rw [li64 (a := 6) (b := 200) rfl rfl c0]; rfl
    by_cases c1 : (500 : Int) ≤ y2.toInt ∧ y2.toInt ≤ 10000
    · have z1 : (f_X12_in y2.toInt64 (500 : Int64) (10000 : Int64)).toInt = 1 := by rw [li64 (a := 500) (b := 10000) rfl rfl c1]; rfl
      by_cases c2 : (-500 : Int) ≤ y3.toInt ∧ y3.toInt ≤ 500
      · have z2 : (f_X12_in y3.toInt64 (-500 : Int64) (500 : Int64)).toInt = 1 := by rw [li64 (a := -500) (b := 500) rfl rfl c2]; rfl
        by_cases c3 : (1000 : Int) ≤ y4.toInt ∧ y4.toInt ≤ 99999
        · have z3 : (f_X12_in y4.toInt64 (1000 : Int64) (99999 : Int64)).toInt = 1 := by rw [li64 (a := 1000) (b := 99999) rfl rfl c3]; rfl
          by_cases c5 : (S.I o2 1).toInt < 20
          · have e1 : f_X9_gear S o2 y1 y2 y3 y4 = .ok (S.I o2 1) := by
              unfold f_X9_gear
              rw [eB_ok (nt_ok c0), eB_ok (rng_ok (by rw [a500, a10000]; exact c1)), eB_ok (rng_ok (by rw [am500, a500]; exact c2)), eB_ok (rng_ok (by rw [a1000, a99999]; exact c3)), if_pos (Int32.lt_iff_toInt_lt.mpr (by rw [l20]; exact c5))]
            exact Or.inr ⟨e1, by omega, by omega, by omega⟩
          · refine bad "java/lang/IllegalStateException" 2 ?_ ((if_neg (by decide)).trans (if_pos rfl)) (by decide) (show _ = (2 : Int) by omega) (by omega)
            unfold f_X9_gear
            rw [eB_ok (nt_ok c0), eB_ok (rng_ok (by rw [a500, a10000]; exact c1)), eB_ok (rng_ok (by rw [am500, a500]; exact c2)), eB_ok (rng_ok (by rw [a1000, a99999]; exact c3)), if_neg (fun q => c5 (by have := Int32.lt_iff_toInt_lt.mp q; rw [l20] at this; exact this))]
        · have z3 : (f_X12_in y4.toInt64 (1000 : Int64) (99999 : Int64)).toInt = 0 := by rw [li64n (a := 1000) (b := 99999) rfl rfl c3]; rfl
          refine bad "java/lang/IllegalArgumentException" 1 ?_ (if_pos rfl) (by decide) (show _ = (1 : Int) by omega) (by omega)
          unfold f_X9_gear
          rw [eB_ok (nt_ok c0), eB_ok (rng_ok (by rw [a500, a10000]; exact c1)), eB_ok (rng_ok (by rw [am500, a500]; exact c2))]
          exact eB_er (rng_er (by rw [a1000, a99999]; exact c3))
      · have z2 : (f_X12_in y3.toInt64 (-500 : Int64) (500 : Int64)).toInt = 0 := by rw [li64n (a := -500) (b := 500) rfl rfl c2]; rfl
        refine bad "java/lang/IllegalArgumentException" 1 ?_ (if_pos rfl) (by decide) (show _ = (1 : Int) by omega) (by omega)
        unfold f_X9_gear
        rw [eB_ok (nt_ok c0), eB_ok (rng_ok (by rw [a500, a10000]; exact c1))]
        exact eB_er (rng_er (by rw [am500, a500]; exact c2))
    · have z1 : (f_X12_in y2.toInt64 (500 : Int64) (10000 : Int64)).toInt = 0 := by rw [li64n (a := 500) (b := 10000) rfl rfl c1]; rfl
      refine bad "java/lang/IllegalArgumentException" 1 ?_ (if_pos rfl) (by decide) (show _ = (1 : Int) by omega) (by omega)
      unfold f_X9_gear
      rw [eB_ok (nt_ok c0)]
      exact eB_er (rng_er (by rw [a500, a10000]; exact c1))
  · have z0 : (f_X12_in y1.toInt64 (6 : Int64) (200 : Int64)).toInt = 0 := by rw [li64n (a := 6) (b := 200) rfl rfl c0]; rfl
    refine bad "java/lang/IllegalArgumentException" 1 ?_ (if_pos rfl) (by decide) (show _ = (1 : Int) by omega) (by omega)
    unfold f_X9_gear
    exact eB_er (nt_er c0)
theorem RG.gear {S S4 S16 : wPS} {o1 o2 : Nat} {y1 y2 y3 y4 r3 r12 : Int32} {fo f5 : Nat → Int64} (m : RG o2 S o1) (hA : isA S o1 12) (hW : wtB S []) (hw : stp [(9, 1), (19, 101)] [] [] S S4) (hm : stp [(12, 15), (14, 0), (14, 1), (14, 2), (22, 101), (110, 10), (114, 10), (122, 10)] [] [] S4 S16) (h : (∃ v, f_X9_gear S o2 y1 y2 y3 y4 = .ok v ∧ r3 = 0 ∧ f5 = vp_updL fo (0 : Int32).toNatClampNeg (v.toInt64) ∧ (S4.I o2 1).toInt = (S.I o2 1).toInt + 1 ∧ (∃ g : Nat, g ∉ S.L ∧ isA S4 g 2 ∧ S4.r (S.f o2 0) (S.I o2 1).toNatClampNeg = some g ∧ (∀ i : Nat, i ≠ (S.I o2 1).toNatClampNeg → S4.r (S.f o2 0) i = S.r (S.f o2 0) i) ∧ S4.I g 0 = S.I o2 1 ∧ S4.I g 1 = y1 ∧ S4.I g 2 = y2 ∧ S4.I g 3 = y3 ∧ S4.I g 4 = y4 ∧ S4.I g 7 = (0 : Int32) ∧ S4.I g 8 = (-1 : Int32) ∧ S4.I g 9 = (0 : Int32) ∧ S4.I g 10 = (0 : Int32) ∧ S4.I g 11 = (0 : Int32))) ∨ (∃ E, f_X9_gear S o2 y1 y2 y3 y4 = .error E ∧ r3 = wc_gear E ∧ f5 = fo ∧ S4 = S)) (h2 : ((((f_X12_in y1.toInt64 (6 : Int64) (200 : Int64)).toInt = 0 ∨ (f_X12_in y2.toInt64 (500 : Int64) (10000 : Int64)).toInt = 0 ∨ (f_X12_in y3.toInt64 (-500 : Int64) (500 : Int64)).toInt = 0 ∨ (f_X12_in y4.toInt64 (1000 : Int64) (99999 : Int64)).toInt = 0) ∧ r12.toInt = 0 ∧ (S16.I o1 15).toInt = 1 ∧ (S16.I (S4.f o1 0) 2).toInt = (S4.I (S4.f o1 0) 2).toInt) ∨ ((¬ (f_X12_in y1.toInt64 (6 : Int64) (200 : Int64)).toInt = 0 ∧ ¬ (f_X12_in y2.toInt64 (500 : Int64) (10000 : Int64)).toInt = 0 ∧ ¬ (f_X12_in y3.toInt64 (-500 : Int64) (500 : Int64)).toInt = 0 ∧ ¬ (f_X12_in y4.toInt64 (1000 : Int64) (99999 : Int64)).toInt = 0) ∧ (S4.I (S4.f o1 0) 2).toInt = 20 ∧ r12.toInt = 0 ∧ (S16.I o1 15).toInt = 2 ∧ (S16.I (S4.f o1 0) 2).toInt = (S4.I (S4.f o1 0) 2).toInt) ∨ ((¬ (f_X12_in y1.toInt64 (6 : Int64) (200 : Int64)).toInt = 0 ∧ ¬ (f_X12_in y2.toInt64 (500 : Int64) (10000 : Int64)).toInt = 0 ∧ ¬ (f_X12_in y3.toInt64 (-500 : Int64) (500 : Int64)).toInt = 0 ∧ ¬ (f_X12_in y4.toInt64 (1000 : Int64) (99999 : Int64)).toInt = 0) ∧ ¬ (S4.I (S4.f o1 0) 2).toInt = 20 ∧ r12.toInt = (S4.I (S4.f o1 0) 2).toInt ∧ (S16.I o1 15).toInt = 0 ∧ (S16.I (S4.f o1 0) 2).toInt = (S4.I (S4.f o1 0) 2).toInt + 1)) ∧ ((S16.I (S4.f o1 0) 2).toInt = (S4.I (S4.f o1 0) 2).toInt → ∃ t : Int32, S16 = S4.sI o1 15 t) ∧ ((S16.I (S4.f o1 0) 2).toInt = (S4.I (S4.f o1 0) 2).toInt + 1 → ∃ g a : Nat, g ∉ S4.L ∧ isA S16 g 10 ∧ S16.F (S4.f o1 0) 1 = some a ∧ isA S16 a 22 ∧ S16.r a (S4.I (S4.f o1 0) 2).toNatClampNeg = some g ∧ (∀ i : Nat, (i : Int) < (S4.I (S4.f o1 0) 2).toInt → S16.r a i = S4.r (S4.f (S4.f o1 0) 1) i) ∧ S16.I g 1 = y1 ∧ S16.I g 2 = y2 ∧ S16.I g 3 = y3 ∧ S16.I g 4 = y4 ∧ S16.I g 7 = (0 : Int32) ∧ S16.I g 8 = (-1 : Int32) ∧ S16.I g 10 = (0 : Int32) ∧ S16.I g 11 = (0 : Int32) ∧ S16.I g 18 = (0 : Int32))) : RG o2 S16 o1 := by
  obtain ⟨f4, m4, q4, -, -⟩ := RG.st hw hW hA (by decide) m
  have hc : (S.I o2 1).toInt = (S4.I (S4.f o1 0) 2).toInt := by rw [f4, q4]; exact m.2.2.1
  have rr := ((hW.at m.1 List.not_mem_nil).to_9 m.1.2.1).R1
  obtain ⟨hF, h3, h4⟩ := h2
  rcases ca_gear hc rr hF with ⟨E, n, e1, e2, e3, e4, e5⟩ | ⟨e1, e2, e3, e4⟩
  · rcases h with ⟨v, g, -⟩ | ⟨E2, g, -, -, g4⟩
    · rw [e1] at g; cases g
    · obtain ⟨t, ht⟩ := h3 e5
      rw [ht, g4]; exact RG.sI hA m
  · rcases h with ⟨v, g, -, -, c4, N⟩ | ⟨E2, g, -⟩
    · exact RG.add m hA hW hw hm (by decide) (by decide) c4 N e4 (h4 e4)
    · rw [e1] at g; cases g
/-! hob: refused alike on both sides, or one more on both -/
theorem ca_hob {S S4 S16 : wPS} {o1 o2 : Nat} {y1 y2 y3 y4 r12 : Int32} (hc : (S.I o2 3).toInt = (S4.I (S4.f o1 1) 2).toInt) (rr : 0 ≤ (S.I o2 3).toInt ∧ (S.I o2 3).toInt ≤ 8) (h2 : ((((f_X12_in y1.toInt64 (500 : Int64) (10000 : Int64)).toInt = 0 ∨ (f_X12_in y2.toInt64 (1 : Int64) (4 : Int64)).toInt = 0 ∨ (f_X12_in y3.toInt64 (20000 : Int64) (200000 : Int64)).toInt = 0 ∨ (f_X12_in y4.toInt64 (1 : Int64) (20 : Int64)).toInt = 0) ∧ r12.toInt = 0 ∧ (S16.I o1 15).toInt = 1 ∧ (S16.I (S4.f o1 1) 2).toInt = (S4.I (S4.f o1 1) 2).toInt) ∨ ((¬ (f_X12_in y1.toInt64 (500 : Int64) (10000 : Int64)).toInt = 0 ∧ ¬ (f_X12_in y2.toInt64 (1 : Int64) (4 : Int64)).toInt = 0 ∧ ¬ (f_X12_in y3.toInt64 (20000 : Int64) (200000 : Int64)).toInt = 0 ∧ ¬ (f_X12_in y4.toInt64 (1 : Int64) (20 : Int64)).toInt = 0) ∧ (S4.I (S4.f o1 1) 2).toInt = 8 ∧ r12.toInt = 0 ∧ (S16.I o1 15).toInt = 2 ∧ (S16.I (S4.f o1 1) 2).toInt = (S4.I (S4.f o1 1) 2).toInt) ∨ ((¬ (f_X12_in y1.toInt64 (500 : Int64) (10000 : Int64)).toInt = 0 ∧ ¬ (f_X12_in y2.toInt64 (1 : Int64) (4 : Int64)).toInt = 0 ∧ ¬ (f_X12_in y3.toInt64 (20000 : Int64) (200000 : Int64)).toInt = 0 ∧ ¬ (f_X12_in y4.toInt64 (1 : Int64) (20 : Int64)).toInt = 0) ∧ ¬ (S4.I (S4.f o1 1) 2).toInt = 8 ∧ r12.toInt = (S4.I (S4.f o1 1) 2).toInt ∧ (S16.I o1 15).toInt = 0 ∧ (S16.I (S4.f o1 1) 2).toInt = (S4.I (S4.f o1 1) 2).toInt + 1))) : (∃ (E : String) (n : Int32), f_X9_hob S o2 y1 y2 y3 y4 = .error E ∧ wc_hob E = n ∧ ¬ n = 0 ∧ (S16.I o1 15).toInt = n.toInt ∧ (S16.I (S4.f o1 1) 2).toInt = (S4.I (S4.f o1 1) 2).toInt) ∨ (f_X9_hob S o2 y1 y2 y3 y4 = .ok (S.I o2 3) ∧ (S16.I o1 15).toInt = 0 ∧ r12.toInt = (S4.I (S4.f o1 1) 2).toInt ∧ (S16.I (S4.f o1 1) 2).toInt = (S4.I (S4.f o1 1) 2).toInt + 1) := by
  have l8 : (8 : Int32).toInt = 8 := rfl
  have bad : ∀ (E : String) (n : Int32), f_X9_hob S o2 y1 y2 y3 y4 = .error E → wc_hob E = n → ¬ n = 0 → (S16.I o1 15).toInt = n.toInt → (S16.I (S4.f o1 1) 2).toInt = (S4.I (S4.f o1 1) 2).toInt → (∃ (E : String) (n : Int32), f_X9_hob S o2 y1 y2 y3 y4 = .error E ∧ wc_hob E = n ∧ ¬ n = 0 ∧ (S16.I o1 15).toInt = n.toInt ∧ (S16.I (S4.f o1 1) 2).toInt = (S4.I (S4.f o1 1) 2).toInt) ∨ (f_X9_hob S o2 y1 y2 y3 y4 = .ok (S.I o2 3) ∧ (S16.I o1 15).toInt = 0 ∧ r12.toInt = (S4.I (S4.f o1 1) 2).toInt ∧ (S16.I (S4.f o1 1) 2).toInt = (S4.I (S4.f o1 1) 2).toInt + 1) := fun E n e1 e2 e3 e4 e5 => Or.inl ⟨E, n, e1, e2, e3, e4, e5⟩
  have a1 : (1 : Int32).toInt = 1 := rfl
  have a4 : (4 : Int32).toInt = 4 := rfl
  have a20 : (20 : Int32).toInt = 20 := rfl
  have a500 : (500 : Int32).toInt = 500 := rfl
  have a10000 : (10000 : Int32).toInt = 10000 := rfl
  have a20000 : (20000 : Int32).toInt = 20000 := rfl
  have a200000 : (200000 : Int32).toInt = 200000 := rfl
  by_cases c0 : (500 : Int) ≤ y1.toInt ∧ y1.toInt ≤ 10000
  · have z0 : (f_X12_in y1.toInt64 (500 : Int64) (10000 : Int64)).toInt = 1 := by rw [li64 (a := 500) (b := 10000) rfl rfl c0]; rfl
    by_cases c1 : (1 : Int) ≤ y2.toInt ∧ y2.toInt ≤ 4
    · have z1 : (f_X12_in y2.toInt64 (1 : Int64) (4 : Int64)).toInt = 1 := by rw [li64 (a := 1) (b := 4) rfl rfl c1]; rfl
      by_cases c2 : (20000 : Int) ≤ y3.toInt ∧ y3.toInt ≤ 200000
      · have z2 : (f_X12_in y3.toInt64 (20000 : Int64) (200000 : Int64)).toInt = 1 := by rw [li64 (a := 20000) (b := 200000) rfl rfl c2]; rfl
        by_cases c3 : (1 : Int) ≤ y4.toInt ∧ y4.toInt ≤ 20
        · have z3 : (f_X12_in y4.toInt64 (1 : Int64) (20 : Int64)).toInt = 1 := by rw [li64 (a := 1) (b := 20) rfl rfl c3]; rfl
          by_cases c5 : (S.I o2 3).toInt < 8
          · have e1 : f_X9_hob S o2 y1 y2 y3 y4 = .ok (S.I o2 3) := by
              unfold f_X9_hob
              rw [eB_ok (rng_ok (by rw [a500, a10000]; exact c0)), eB_ok (rng_ok (by rw [a1, a4]; exact c1)), eB_ok (rng_ok (by rw [a20000, a200000]; exact c2)), eB_ok (rng_ok (by rw [a1, a20]; exact c3)), if_pos (Int32.lt_iff_toInt_lt.mpr (by rw [l8]; exact c5))]
            exact Or.inr ⟨e1, by omega, by omega, by omega⟩
          · refine bad "java/lang/IllegalStateException" 2 ?_ ((if_neg (by decide)).trans (if_pos rfl)) (by decide) (show _ = (2 : Int) by omega) (by omega)
            unfold f_X9_hob
            rw [eB_ok (rng_ok (by rw [a500, a10000]; exact c0)), eB_ok (rng_ok (by rw [a1, a4]; exact c1)), eB_ok (rng_ok (by rw [a20000, a200000]; exact c2)), eB_ok (rng_ok (by rw [a1, a20]; exact c3)), if_neg (fun q => c5 (by have := Int32.lt_iff_toInt_lt.mp q; rw [l8] at this; exact this))]
        · have z3 : (f_X12_in y4.toInt64 (1 : Int64) (20 : Int64)).toInt = 0 := by rw [li64n (a := 1) (b := 20) rfl rfl c3]; rfl
          refine bad "java/lang/IllegalArgumentException" 1 ?_ (if_pos rfl) (by decide) (show _ = (1 : Int) by omega) (by omega)
          unfold f_X9_hob
          rw [eB_ok (rng_ok (by rw [a500, a10000]; exact c0)), eB_ok (rng_ok (by rw [a1, a4]; exact c1)), eB_ok (rng_ok (by rw [a20000, a200000]; exact c2))]
          exact eB_er (rng_er (by rw [a1, a20]; exact c3))
      · have z2 : (f_X12_in y3.toInt64 (20000 : Int64) (200000 : Int64)).toInt = 0 := by rw [li64n (a := 20000) (b := 200000) rfl rfl c2]; rfl
        refine bad "java/lang/IllegalArgumentException" 1 ?_ (if_pos rfl) (by decide) (show _ = (1 : Int) by omega) (by omega)
        unfold f_X9_hob
        rw [eB_ok (rng_ok (by rw [a500, a10000]; exact c0)), eB_ok (rng_ok (by rw [a1, a4]; exact c1))]
        exact eB_er (rng_er (by rw [a20000, a200000]; exact c2))
    · have z1 : (f_X12_in y2.toInt64 (1 : Int64) (4 : Int64)).toInt = 0 := by rw [li64n (a := 1) (b := 4) rfl rfl c1]; rfl
      refine bad "java/lang/IllegalArgumentException" 1 ?_ (if_pos rfl) (by decide) (show _ = (1 : Int) by omega) (by omega)
      unfold f_X9_hob
      rw [eB_ok (rng_ok (by rw [a500, a10000]; exact c0))]
      exact eB_er (rng_er (by rw [a1, a4]; exact c1))
  · have z0 : (f_X12_in y1.toInt64 (500 : Int64) (10000 : Int64)).toInt = 0 := by rw [li64n (a := 500) (b := 10000) rfl rfl c0]; rfl
    refine bad "java/lang/IllegalArgumentException" 1 ?_ (if_pos rfl) (by decide) (show _ = (1 : Int) by omega) (by omega)
    unfold f_X9_hob
    exact eB_er (rng_er (by rw [a500, a10000]; exact c0))
theorem RH.hob {S S4 S16 : wPS} {o1 o2 : Nat} {y1 y2 y3 y4 r3 r12 : Int32} {fo f5 : Nat → Int64} (m : RH o2 S o1) (hA : isA S o1 12) (hW : wtB S []) (hw : stp [(9, 3), (20, 101)] [] [] S S4) (hm : stp [(12, 15), (14, 0), (14, 1), (14, 2), (22, 101), (114, 11), (122, 11)] [] [] S4 S16) (h : (∃ v, f_X9_hob S o2 y1 y2 y3 y4 = .ok v ∧ r3 = 0 ∧ f5 = vp_updL fo (0 : Int32).toNatClampNeg (v.toInt64) ∧ (S4.I o2 3).toInt = (S.I o2 3).toInt + 1 ∧ (∃ g : Nat, g ∉ S.L ∧ isA S4 g 3 ∧ S4.r (S.f o2 2) (S.I o2 3).toNatClampNeg = some g ∧ (∀ i : Nat, i ≠ (S.I o2 3).toNatClampNeg → S4.r (S.f o2 2) i = S.r (S.f o2 2) i) ∧ S4.I g 0 = y1 ∧ S4.I g 1 = y2 ∧ S4.I g 3 = y3 ∧ S4.I g 4 = (0 : Int32) ∧ S4.I g 5 = (0 : Int32))) ∨ (∃ E, f_X9_hob S o2 y1 y2 y3 y4 = .error E ∧ r3 = wc_hob E ∧ f5 = fo ∧ S4 = S)) (h2 : ((((f_X12_in y1.toInt64 (500 : Int64) (10000 : Int64)).toInt = 0 ∨ (f_X12_in y2.toInt64 (1 : Int64) (4 : Int64)).toInt = 0 ∨ (f_X12_in y3.toInt64 (20000 : Int64) (200000 : Int64)).toInt = 0 ∨ (f_X12_in y4.toInt64 (1 : Int64) (20 : Int64)).toInt = 0) ∧ r12.toInt = 0 ∧ (S16.I o1 15).toInt = 1 ∧ (S16.I (S4.f o1 1) 2).toInt = (S4.I (S4.f o1 1) 2).toInt) ∨ ((¬ (f_X12_in y1.toInt64 (500 : Int64) (10000 : Int64)).toInt = 0 ∧ ¬ (f_X12_in y2.toInt64 (1 : Int64) (4 : Int64)).toInt = 0 ∧ ¬ (f_X12_in y3.toInt64 (20000 : Int64) (200000 : Int64)).toInt = 0 ∧ ¬ (f_X12_in y4.toInt64 (1 : Int64) (20 : Int64)).toInt = 0) ∧ (S4.I (S4.f o1 1) 2).toInt = 8 ∧ r12.toInt = 0 ∧ (S16.I o1 15).toInt = 2 ∧ (S16.I (S4.f o1 1) 2).toInt = (S4.I (S4.f o1 1) 2).toInt) ∨ ((¬ (f_X12_in y1.toInt64 (500 : Int64) (10000 : Int64)).toInt = 0 ∧ ¬ (f_X12_in y2.toInt64 (1 : Int64) (4 : Int64)).toInt = 0 ∧ ¬ (f_X12_in y3.toInt64 (20000 : Int64) (200000 : Int64)).toInt = 0 ∧ ¬ (f_X12_in y4.toInt64 (1 : Int64) (20 : Int64)).toInt = 0) ∧ ¬ (S4.I (S4.f o1 1) 2).toInt = 8 ∧ r12.toInt = (S4.I (S4.f o1 1) 2).toInt ∧ (S16.I o1 15).toInt = 0 ∧ (S16.I (S4.f o1 1) 2).toInt = (S4.I (S4.f o1 1) 2).toInt + 1)) ∧ ((S16.I (S4.f o1 1) 2).toInt = (S4.I (S4.f o1 1) 2).toInt → ∃ t : Int32, S16 = S4.sI o1 15 t) ∧ ((S16.I (S4.f o1 1) 2).toInt = (S4.I (S4.f o1 1) 2).toInt + 1 → ∃ g a : Nat, g ∉ S4.L ∧ isA S16 g 11 ∧ S16.F (S4.f o1 1) 1 = some a ∧ isA S16 a 22 ∧ S16.r a (S4.I (S4.f o1 1) 2).toNatClampNeg = some g ∧ (∀ i : Nat, (i : Int) < (S4.I (S4.f o1 1) 2).toInt → S16.r a i = S4.r (S4.f (S4.f o1 1) 1) i) ∧ S16.I g 0 = y1 ∧ S16.I g 1 = y2 ∧ S16.I g 4 = y3 ∧ S16.I g 3 = y4 ∧ S16.I g 5 = (0 : Int32) ∧ S16.I g 6 = (0 : Int32))) : RH o2 S16 o1 := by
  obtain ⟨f4, m4, q4, -, -⟩ := RH.st hw hW hA (by decide) m
  have hc : (S.I o2 3).toInt = (S4.I (S4.f o1 1) 2).toInt := by rw [f4, q4]; exact m.2.2.1
  have rr := ((hW.at m.1 List.not_mem_nil).to_9 m.1.2.1).R3
  obtain ⟨hF, h3, h4⟩ := h2
  rcases ca_hob hc rr hF with ⟨E, n, e1, e2, e3, e4, e5⟩ | ⟨e1, e2, e3, e4⟩
  · rcases h with ⟨v, g, -⟩ | ⟨E2, g, -, -, g4⟩
    · rw [e1] at g; cases g
    · obtain ⟨t, ht⟩ := h3 e5
      rw [ht, g4]; exact RH.sI hA m
  · rcases h with ⟨v, g, -, -, c4, N⟩ | ⟨E2, g, -⟩
    · exact RH.add m hA hW hw hm (by decide) (by decide) c4 N e4 (h4 e4)
    · rw [e1] at g; cases g
theorem ga_cases {S : wPS} {o2 o : Nat} (y : Int32) (m : RG o2 S o) (hW : wtB S []) (hA : isA S o 12) : (∃ (i a b : Nat), y = nI i ∧ (i : Int) < (S.I o2 1).toInt ∧ f_X9_gearAt S o2 y = .ok a ∧ ¬ f_X12_isGear S o y = 0 ∧ f_X12_gearAt S o y = b ∧ S.q (S.f o2 0) i = a ∧ S.q (S.f (S.f o 0) 1) i = b ∧ GRG S i a b) ∨ (f_X9_gearAt S o2 y = .error "java/lang/IndexOutOfBoundsException" ∧ f_X12_isGear S o y = 0) := by
  obtain ⟨hA2, ⟨e0, l0, n0⟩, mc, mg, -⟩ := m
  have R1 := ((hW.at hA2 List.not_mem_nil).to_9 hA2.2.1).R1
  have z0 : (0 : Int32).toInt = 0 := rfl
  have b0 : (0 : Int64).toInt = 0 := rfl
  have e6 : (S.I (S.f o 0) 2 - (1 : Int32)).toInt = (S.I (S.f o 0) 2).toInt - 1 := t_subr (n := 1) rfl (by omega)
  have hin : f_X12_isGear S o y = f_X12_in y.toInt64 0 ((S.I (S.f o 0) 2 - (1 : Int32)).toInt64) := rfl
  by_cases c : 0 ≤ y.toInt ∧ y.toInt < (S.I o2 1).toInt
  · have hc := cl_int (i := y) c.1
    refine Or.inl ⟨y.toNatClampNeg, S.q (S.f o2 0) y.toNatClampNeg, S.q (S.f (S.f o 0) 1) y.toNatClampNeg, nI_cl c.1, by omega, ?_, ?_, rfl, rfl, rfl, mg _ (by omega)⟩
    · unfold f_X9_gearAt
      rw [if_neg (fun q => by have := Int32.lt_iff_toInt_lt.mp q; omega), if_pos (Int32.lt_iff_toInt_lt.mpr c.2)]
    · rw [hin, in_ok (by rw [i64_i, i64_i, b0, e6]; omega)]; decide
  · refine Or.inr ⟨?_, ?_⟩
    · unfold f_X9_gearAt
      split
      · rfl
      · rename_i h1
        rw [if_neg (fun q => by have h2 := Int32.lt_iff_toInt_lt.mp q; have h3 : ¬ y.toInt < (0 : Int32).toInt := fun q => h1 (Int32.lt_iff_toInt_lt.mpr q); omega)]
    · rw [hin, in_no (by rw [i64_i, i64_i, b0, e6]; omega)]
theorem nI_inj {i j : Nat} {n : Int} (hi : (i : Int) < n) (hj : (j : Int) < n) (hn : n ≤ 100) (e : nI i = nI j) : i = j := by
  have h1 : (nI i).toInt = (i : Int) := nI_toInt (by omega)
  have h2 : (nI j).toInt = (j : Int) := nI_toInt (by omega)
  rw [e] at h1
  omega
theorem neg_add0 {x y : Int32} : x = -y ↔ x + y = 0 := by
  refine ⟨fun h => by rw [h]; exact Int32.add_left_neg y, fun h => ?_⟩
  have h1 : x + y + -y = 0 + -y := by rw [h]
  rw [Int32.add_assoc, Int32.add_right_neg, Int32.add_zero, Int32.zero_add] at h1
  exact h1
theorem nI_s {k : Nat} (h : k < 1000000) : nI k + (1 : Int32) = nI (k + 1) := by
  have e1 : (nI k).toInt = (k : Int) := nI_toInt (by omega)
  have e2 : (nI (k + 1)).toInt = ((k + 1 : Nat) : Int) := nI_toInt (by omega)
  exact Int32.toInt_inj.mp (by rw [t_addr (n := 1) rfl (by omega), e1, e2]; omega)
theorem nI_cN {k : Nat} (h : k < 1000000) : (nI k).toNatClampNeg = k := by
  have e1 : (nI k).toInt = (k : Int) := nI_toInt (by omega)
  have := cl_int (i := nI k) (by omega)
  omega
/-! fours of wheels: errors, orders, and that both searches end with the same four -/
def er (up dn a b c d : Int) : Int := if 0 < a * c * dn - b * d * up then a * c * dn - b * d * up else -(a * c * dn - b * d * up)
theorem er_ac (up dn a b c d : Int) : er up dn a b c d = er up dn c b a d := by unfold er; rw [Int.mul_comm a c]
theorem er_bd (up dn a b c d : Int) : er up dn a b c d = er up dn a d c b := by unfold er; rw [Int.mul_comm b d]
theorem er_0 (up dn a b c d : Int) : 0 ≤ er up dn a b c d := by
  unfold er
  by_cases h : 0 < a * c * dn - b * d * up
  · rw [if_pos h]; omega
  · rw [if_neg h]; omega
def enu (n a b c d : Nat) : Prop := (a < n ∧ b < n ∧ c < n ∧ d < n) ∧ a < c ∧ b < d ∧ ¬ a = b ∧ ¬ c = b ∧ ¬ c = d ∧ ¬ d = a
def dis (n a b c d : Nat) : Prop := (a < n ∧ b < n ∧ c < n ∧ d < n) ∧ ¬ a = b ∧ ¬ a = c ∧ ¬ a = d ∧ ¬ b = c ∧ ¬ b = d ∧ ¬ c = d
def key (a b c d : Nat) : Nat := a * 4096 + b * 256 + c * 16 + d
theorem kl4 {a b c x a' b' c' d' : Nat} (hb : b < 16) (hc : c < 16) (hx : x ≤ 16) (h1 : b' < 16) (h2 : c' < 16) (h3 : d' < 16) : key a' b' c' d' < key a b c x ↔ (a' < a ∨ (a' = a ∧ (b' < b ∨ (b' = b ∧ (c' < c ∨ (c' = c ∧ d' < x)))))) := by
  unfold key
  rcases Nat.lt_trichotomy a' a with p | p | p
  · exact ⟨fun _ => Or.inl p, fun _ => by omega⟩
  · subst p
    rcases Nat.lt_trichotomy b' b with q | q | q
    · exact ⟨fun _ => Or.inr ⟨rfl, Or.inl q⟩, fun _ => by omega⟩
    · subst q
      rcases Nat.lt_trichotomy c' c with r | r | r
      · exact ⟨fun _ => Or.inr ⟨rfl, Or.inr ⟨rfl, Or.inl r⟩⟩, fun _ => by omega⟩
      · subst r
        exact ⟨fun z => Or.inr ⟨rfl, Or.inr ⟨rfl, Or.inr ⟨rfl, by omega⟩⟩⟩, fun z => by omega⟩
      · exact ⟨fun z => absurd z (by omega), fun z => by omega⟩
    · exact ⟨fun z => absurd z (by omega), fun z => by omega⟩
  · exact ⟨fun z => absurd z (by omega), fun z => by omega⟩
theorem kl3 {a b x a' b' c' d' : Nat} (hb : b < 16) (hx : x ≤ 16) (h1 : b' < 16) (h2 : c' < 16) (h3 : d' < 16) : key a' b' c' d' < key a b x 0 ↔ (a' < a ∨ (a' = a ∧ (b' < b ∨ (b' = b ∧ c' < x)))) := by
  unfold key
  rcases Nat.lt_trichotomy a' a with p | p | p
  · exact ⟨fun _ => Or.inl p, fun _ => by omega⟩
  · subst p
    rcases Nat.lt_trichotomy b' b with q | q | q
    · exact ⟨fun _ => Or.inr ⟨rfl, Or.inl q⟩, fun _ => by omega⟩
    · subst q
      exact ⟨fun z => Or.inr ⟨rfl, Or.inr ⟨rfl, by omega⟩⟩, fun z => by omega⟩
    · exact ⟨fun z => absurd z (by omega), fun z => by omega⟩
  · exact ⟨fun z => absurd z (by omega), fun z => by omega⟩
theorem kl2 {a x a' b' c' d' : Nat} (hx : x ≤ 16) (h1 : b' < 16) (h2 : c' < 16) (h3 : d' < 16) : key a' b' c' d' < key a x 0 0 ↔ (a' < a ∨ (a' = a ∧ b' < x)) := by
  unfold key
  rcases Nat.lt_trichotomy a' a with p | p | p
  · exact ⟨fun _ => Or.inl p, fun _ => by omega⟩
  · subst p
    exact ⟨fun z => Or.inr ⟨rfl, by omega⟩, fun z => by omega⟩
  · exact ⟨fun z => absurd z (by omega), fun z => by omega⟩
theorem kl1 {x a' b' c' d' : Nat} (h1 : b' < 16) (h2 : c' < 16) (h3 : d' < 16) : key a' b' c' d' < key x 0 0 0 ↔ a' < x := by
  unfold key
  exact ⟨fun z => by omega, fun z => by omega⟩
theorem enu_of {n a b c d : Nat} (h : dis n a b c d) : ∃ a' b' c' d', enu n a' b' c' d' ∧ key a' b' c' d' ≤ key a b c d ∧ ∀ (X : Nat → Int) (up dn : Int), er up dn (X a') (X b') (X c') (X d') = er up dn (X a) (X b) (X c) (X d) ∧ X b' * X d' = X b * X d := by
  unfold dis at h
  by_cases p : a < c
  · by_cases q : b < d
    · exact ⟨a, b, c, d, by unfold enu; omega, Nat.le_refl _, fun X up dn => ⟨rfl, rfl⟩⟩
    · exact ⟨a, d, c, b, by unfold enu; omega, by unfold key; omega, fun X up dn => ⟨er_bd _ _ _ _ _ _, Int.mul_comm _ _⟩⟩
  · by_cases q : b < d
    · exact ⟨c, b, a, d, by unfold enu; omega, by unfold key; omega, fun X up dn => ⟨er_ac _ _ _ _ _ _, rfl⟩⟩
    · exact ⟨c, d, a, b, by unfold enu; omega, by unfold key; omega, fun X up dn => ⟨(er_ac _ _ _ _ _ _).trans (er_bd _ _ _ _ _ _), Int.mul_comm _ _⟩⟩
theorem mv {n a b c d e : Nat} {X : Nat → Int} (h : dis n a b c d) (he : e < n) (hx : X e = X a) : ∃ b' c' d', dis n e b' c' d' ∧ (X b' = X b ∧ X c' = X c ∧ X d' = X d) ∧ (¬ b = e → b' = b) ∧ (¬ c = e → c' = c) ∧ (¬ d = e → d' = d) := by
  unfold dis at h
  by_cases p : b = e
  · subst p
    exact ⟨a, c, d, by unfold dis; omega, ⟨hx.symm, rfl, rfl⟩, fun q => absurd rfl q, fun _ => rfl, fun _ => rfl⟩
  · by_cases q : c = e
    · subst q
      exact ⟨b, a, d, by unfold dis; omega, ⟨rfl, hx.symm, rfl⟩, fun _ => rfl, fun q => absurd rfl q, fun _ => rfl⟩
    · by_cases r : d = e
      · subst r
        exact ⟨b, c, a, by unfold dis; omega, ⟨rfl, rfl, hx.symm⟩, fun _ => rfl, fun _ => rfl, fun q => absurd rfl q⟩
      · exact ⟨b, c, d, by unfold dis; omega, ⟨rfl, rfl, rfl⟩, fun _ => rfl, fun _ => rfl, fun _ => rfl⟩
def lex4 (u0 u1 u2 u3 v0 v1 v2 v3 : Int) : Prop := u0 < v0 ∨ (u0 = v0 ∧ (u1 < v1 ∨ (u1 = v1 ∧ (u2 < v2 ∨ (u2 = v2 ∧ u3 ≤ v3)))))
/-- not later than: by its error, then by its wheels -/
def le4 (up dn u0 u1 u2 u3 v0 v1 v2 v3 : Int) : Prop := er up dn u0 u1 u2 u3 * (v1 * v3) < er up dn v0 v1 v2 v3 * (u1 * u3) ∨ (er up dn u0 u1 u2 u3 * (v1 * v3) = er up dn v0 v1 v2 v3 * (u1 * u3) ∧ lex4 u0 u1 u2 u3 v0 v1 v2 v3)
/-- what the class has found -/
def CFo (n : Nat) (X : Nat → Int) (up dn : Int) (a b c d : Nat) : Prop := enu n a b c d ∧ ∀ a' b' c' d', enu n a' b' c' d' → er up dn (X a) (X b) (X c) (X d) * (X b' * X d') ≤ er up dn (X a') (X b') (X c') (X d') * (X b * X d) ∧ (key a' b' c' d' < key a b c d → er up dn (X a) (X b) (X c) (X d) * (X b' * X d') < er up dn (X a') (X b') (X c') (X d') * (X b * X d))
/-- what the model has found -/
def RFo (n : Nat) (W : Nat → Int) (up dn : Int) (p q r s : Nat) : Prop := dis n p q r s ∧ ∀ p' q' r' s', dis n p' q' r' s' → le4 up dn (W p) (W q) (W r) (W s) (W p') (W q') (W r') (W s')
theorem four_eq {n : Nat} {X W : Nat → Int} {up dn : Int} {σ τ : Nat → Nat} (h16 : n ≤ 16) (hs : ∀ i j, i ≤ j → j < n → X i ≤ X j) (hσ : ∀ i, i < n → σ i < n ∧ X i = W (σ i)) (iσ : ∀ i j, i < n → j < n → σ i = σ j → i = j) (hτ : ∀ i, i < n → τ i < n ∧ W i = X (τ i)) (iτ : ∀ i j, i < n → j < n → τ i = τ j → i = j) {a b c d p q r s : Nat} (hC : CFo n X up dn a b c d) (hR : RFo n W up dn p q r s) : X a = W p ∧ X b = W q ∧ X c = W r ∧ X d = W s := by
  obtain ⟨hE, hmin⟩ := hC
  obtain ⟨hD, hle⟩ := hR
  have hE' := hE
  have hD' := hD
  unfold enu at hE'
  unfold dis at hD'
  obtain ⟨⟨ea, eb, ec, ed⟩, e1, e2, e3, e4, e5, e6⟩ := hE'
  obtain ⟨⟨dp, dq, dr, ds⟩, d1, d2, d3, d4, d5, d6⟩ := hD'
  have dG : dis n (τ p) (τ q) (τ r) (τ s) := ⟨⟨(hτ p dp).1, (hτ q dq).1, (hτ r dr).1, (hτ s ds).1⟩, fun z => d1 (iτ _ _ dp dq z), fun z => d2 (iτ _ _ dp dr z), fun z => d3 (iτ _ _ dp ds z), fun z => d4 (iτ _ _ dq dr z), fun z => d5 (iτ _ _ dq ds z), fun z => d6 (iτ _ _ dr ds z)⟩
  have dS : dis n (σ a) (σ b) (σ c) (σ d) := ⟨⟨(hσ a ea).1, (hσ b eb).1, (hσ c ec).1, (hσ d ed).1⟩, fun z => e3 (iσ _ _ ea eb z), fun z => absurd (iσ _ _ ea ec z) (by omega), fun z => e6 (iσ _ _ ea ed z).symm, fun z => e4 (iσ _ _ eb ec z).symm, fun z => absurd (iσ _ _ eb ed z) (by omega), fun z => e5 (iσ _ _ ec ed z)⟩
  have L := hle _ _ _ _ dS
  rw [← (hσ a ea).2, ← (hσ b eb).2, ← (hσ c ec).2, ← (hσ d ed).2] at L
  obtain ⟨g0, G0⟩ : ∃ z, τ p = z := ⟨_, rfl⟩
  obtain ⟨g1, G1⟩ : ∃ z, τ q = z := ⟨_, rfl⟩
  obtain ⟨g2, G2⟩ : ∃ z, τ r = z := ⟨_, rfl⟩
  obtain ⟨g3, G3⟩ : ∃ z, τ s = z := ⟨_, rfl⟩
  have w0 := (hτ p dp).2
  have w1 := (hτ q dq).2
  have w2 := (hτ r dr).2
  have w3 := (hτ s ds).2
  rw [G0] at w0 dG
  rw [G1] at w1 dG
  rw [G2] at w2 dG
  rw [G3] at w3 dG
  obtain ⟨a1, b1, c1, d1', E1, k1, f1⟩ := enu_of dG
  have M := (hmin _ _ _ _ E1).1
  rw [(f1 X up dn).1, (f1 X up dn).2, ← w0, ← w1, ← w2, ← w3] at M
  rcases L with L | ⟨EQ, L⟩
  · exact absurd L (Int.not_lt.mpr M)
  · have lt_of : ∀ i j, i < n → j < n → X i < X j → i < j := fun i j hi hj h => by
      by_cases z : i < j
      · exact z
      · have := hs j i (by omega) hi
        omega
    have fin : ∀ h0 h1 h2 h3, dis n h0 h1 h2 h3 → X h0 = W p → X h1 = W q → X h2 = W r → X h3 = W s → key h0 h1 h2 h3 < key a b c d → False := fun h0 h1 h2 h3 hd x0 x1 x2 x3 hk => by
      obtain ⟨a2, b2, c2, d2', E2, k2, f2⟩ := enu_of hd
      have M2 := (hmin _ _ _ _ E2).2 (by omega)
      rw [(f2 X up dn).1, (f2 X up dn).2, x0, x1, x2, x3, EQ] at M2
      exact absurd M2 (Int.lt_irrefl _)
    have gB := dG.1
    rcases L with L | ⟨L0, L⟩
    · exact (fin g0 g1 g2 g3 dG w0.symm w1.symm w2.symm w3.symm (by
        have z := lt_of g0 a gB.1 ea (by rw [← w0]; exact L)
        unfold key; omega)).elim
    · obtain ⟨b', c', d', D, ⟨x1, x2, x3⟩, -⟩ := mv (e := a) (X := X) dG ea (by rw [← L0, w0])
      have B1 := D.1
      rcases L with L | ⟨L1, L⟩
      · exact (fin a b' c' d' D L0.symm (by rw [x1, w1]) (by rw [x2, w2]) (by rw [x3, w3]) (by
          have z := lt_of b' b B1.2.1 eb (by rw [x1, ← w1]; exact L)
          unfold key; omega)).elim
      · have D' : dis n b' a c' d' := by unfold dis at D ⊢; omega
        obtain ⟨a2, c2, d2', D2, ⟨y0, y2, y3⟩, ya, -⟩ := mv (e := b) (X := X) D' eb (by rw [← L1, w1, x1])
        have ha := ya e3
        subst ha
        have B2 := D2.1
        have D2' : dis n a2 b c2 d2' := by unfold dis at D2 ⊢; omega
        rcases L with L | ⟨L2, L⟩
        · exact (fin a2 b c2 d2' D2' L0.symm L1.symm (by rw [y2, x2, w2]) (by rw [y3, x3, w3]) (by
            have z := lt_of c2 c B2.2.2.1 ec (by rw [y2, x2, ← w2]; exact L)
            unfold key; omega)).elim
        · have D3 : dis n c2 a2 b d2' := by unfold dis at D2 ⊢; omega
          obtain ⟨a3, b3, d3, D4, ⟨z0, z1, z3⟩, za, zb, -⟩ := mv (e := c) (X := X) D3 ec (by rw [← L2, w2, y2, x2])
          have ha := za (by omega)
          have hb := zb (fun q => e4 q.symm)
          subst ha
          subst hb
          have B4 := D4.1
          by_cases h : W s < X d
          · exact (fin a3 b3 c d3 (by unfold dis at D4 ⊢; omega) L0.symm L1.symm L2.symm (by rw [z3, y3, x3, w3]) (by
              have z := lt_of d3 d B4.2.2.2 ed (by rw [z3, y3, x3, ← w3]; exact h)
              unfold key; omega)).elim
          · exact ⟨L0.symm, L1.symm, L2.symm, by omega⟩
theorem rt_tr1 {e1 b1 e2 b2 e3 b3 : Int} (h1 : 0 < b1) (h2 : 0 < b2) (h3 : 0 < b3) (x : e1 * b2 < e2 * b1) (y : e2 * b3 ≤ e3 * b2) : e1 * b3 < e3 * b1 := by
  have p := Int.mul_lt_mul_of_pos_right x h3
  have q := Int.mul_le_mul_of_nonneg_right y (Int.le_of_lt h1)
  have r1 : e1 * b2 * b3 = e1 * b3 * b2 := by ac_rfl
  have r2 : e2 * b1 * b3 = e2 * b3 * b1 := by ac_rfl
  have r3 : e3 * b2 * b1 = e3 * b1 * b2 := by ac_rfl
  rw [r1, r2] at p
  rw [r3] at q
  exact Int.lt_of_mul_lt_mul_right (Int.lt_of_lt_of_le p q) (Int.le_of_lt h2)
theorem rt_tr2 {e1 b1 e2 b2 e3 b3 : Int} (h1 : 0 < b1) (h2 : 0 < b2) (h3 : 0 < b3) (x : e1 * b2 ≤ e2 * b1) (y : e2 * b3 < e3 * b2) : e1 * b3 < e3 * b1 := by
  have p := Int.mul_le_mul_of_nonneg_right x (Int.le_of_lt h3)
  have q := Int.mul_lt_mul_of_pos_right y h1
  have r1 : e1 * b2 * b3 = e1 * b3 * b2 := by ac_rfl
  have r2 : e2 * b1 * b3 = e2 * b3 * b1 := by ac_rfl
  have r3 : e3 * b2 * b1 = e3 * b1 * b2 := by ac_rfl
  rw [r1, r2] at p
  rw [r3] at q
  exact Int.lt_of_mul_lt_mul_right (Int.lt_of_le_of_lt p q) (Int.le_of_lt h2)
theorem rt_e3 {e1 b1 e2 b2 e3 b3 : Int} (h2 : 0 < b2) (x : e1 * b2 = e2 * b1) (y : e2 * b3 = e3 * b2) : e1 * b3 = e3 * b1 := by
  have r1 : e1 * b3 * b2 = e1 * b2 * b3 := by ac_rfl
  have r2 : e2 * b1 * b3 = e2 * b3 * b1 := by ac_rfl
  have r3 : e3 * b2 * b1 = e3 * b1 * b2 := by ac_rfl
  exact Int.eq_of_mul_eq_mul_right (by omega : b2 ≠ 0) (by rw [r1, x, r2, y, r3])
theorem le4_tr {up dn u0 u1 u2 u3 v0 v1 v2 v3 w0 w1 w2 w3 : Int} (hu : 0 < u1 * u3) (hv : 0 < v1 * v3) (hw : 0 < w1 * w3) (h : le4 up dn u0 u1 u2 u3 v0 v1 v2 v3) (g : le4 up dn v0 v1 v2 v3 w0 w1 w2 w3) : le4 up dn u0 u1 u2 u3 w0 w1 w2 w3 := by
  rcases h with h | ⟨h, hl⟩
  · rcases g with g | ⟨g, -⟩
    · exact Or.inl (rt_tr1 hu hv hw h (Int.le_of_lt g))
    · exact Or.inl (rt_tr1 hu hv hw h (Int.le_of_eq g))
  · rcases g with g | ⟨g, gl⟩
    · exact Or.inl (rt_tr2 hu hv hw (Int.le_of_eq h) g)
    · refine Or.inr ⟨rt_e3 hv h g, ?_⟩
      unfold lex4 at hl gl ⊢
      omega
theorem le4_rf (up dn u0 u1 u2 u3 : Int) : le4 up dn u0 u1 u2 u3 u0 u1 u2 u3 := Or.inr ⟨rfl, Or.inr ⟨rfl, Or.inr ⟨rfl, Or.inr ⟨rfl, Int.le_refl _⟩⟩⟩⟩
/-- products of wheels stay small -/
theorem sm2 {x y : Int} (hx : 15 ≤ x ∧ x ≤ 127) (hy : 15 ≤ y ∧ y ≤ 127) : 225 ≤ x * y ∧ x * y ≤ 16129 := by
  have p := Int.mul_le_mul hx.1 hy.1 (by decide) (by omega)
  have q := Int.mul_le_mul hx.2 hy.2 (by omega) (by decide)
  omega
theorem sm3 {x y : Int} (hx : 225 ≤ x ∧ x ≤ 16129) (hy : 1 ≤ y ∧ y ≤ 1000000) : 225 ≤ x * y ∧ x * y ≤ 16129000000 := by
  have p := Int.mul_le_mul hx.1 hy.1 (by decide) (by omega)
  have q := Int.mul_le_mul hx.2 hy.2 (by omega) (by decide)
  omega
theorem er_b {up dn a b c d : Int} (hu : 1 ≤ up ∧ up ≤ 1000000) (hd : 1 ≤ dn ∧ dn ≤ 1000000) (ha : 15 ≤ a ∧ a ≤ 127) (hb : 15 ≤ b ∧ b ≤ 127) (hc : 15 ≤ c ∧ c ≤ 127) (h4 : 15 ≤ d ∧ d ≤ 127) : 0 ≤ er up dn a b c d ∧ er up dn a b c d ≤ 16129000000 := by
  have p := sm3 (sm2 ha hc) hd
  have q := sm3 (sm2 hb h4) hu
  refine ⟨er_0 _ _ _ _ _ _, ?_⟩
  unfold er
  by_cases h : 0 < a * c * dn - b * d * up
  · rw [if_pos h]; omega
  · rw [if_neg h]; omega
theorem sm4 {e b : Int} (he : 0 ≤ e ∧ e ≤ 16129000000) (hb : 225 ≤ b ∧ b ≤ 16129) : 0 ≤ e * b ∧ e * b ≤ 300000000000000 := by
  have p := Int.mul_nonneg he.1 (by omega : 0 ≤ b)
  have q := Int.mul_le_mul he.2 hb.2 (by omega) (by decide)
  omega
theorem neg64 {x : Int64} (h : -9223372036854775807 ≤ x.toInt) : (-x).toInt = -x.toInt := by
  have r := t64_rng x
  rw [Int64.toInt_neg]
  exact Int.bmod_eq_of_le (by omega) (by omega)
theorem er_i {x1 x2 x3 x4 : Int32} {up dn : Int64} (h1 : 15 ≤ x1.toInt ∧ x1.toInt ≤ 127) (h2 : 15 ≤ x2.toInt ∧ x2.toInt ≤ 127) (h3 : 15 ≤ x3.toInt ∧ x3.toInt ≤ 127) (h4 : 15 ≤ x4.toInt ∧ x4.toInt ≤ 127) (hu : 1 ≤ up.toInt ∧ up.toInt ≤ 1000000) (hd : 1 ≤ dn.toInt ∧ dn.toInt ≤ 1000000) : ((if 0 < (((x1.toInt64 * x3.toInt64) * dn) - ((x2.toInt64 * x4.toInt64) * up)) then (((x1.toInt64 * x3.toInt64) * dn) - ((x2.toInt64 * x4.toInt64) * up)) else -(((x1.toInt64 * x3.toInt64) * dn) - ((x2.toInt64 * x4.toInt64) * up)))).toInt = er up.toInt dn.toInt x1.toInt x2.toInt x3.toInt x4.toInt ∧ (x2.toInt64 * x4.toInt64).toInt = x2.toInt * x4.toInt := by
  have p2 := sm2 h1 h3
  have q2 := sm2 h2 h4
  have p3 := sm3 p2 hd
  have q3 := sm3 q2 hu
  have e1 : (x1.toInt64 * x3.toInt64).toInt = x1.toInt * x3.toInt := by rw [t64_mul (by rw [i64_i, i64_i]; omega), i64_i, i64_i]
  have e2 : (x2.toInt64 * x4.toInt64).toInt = x2.toInt * x4.toInt := by rw [t64_mul (by rw [i64_i, i64_i]; omega), i64_i, i64_i]
  have e3 : ((x1.toInt64 * x3.toInt64) * dn).toInt = x1.toInt * x3.toInt * dn.toInt := by rw [t64_mul (by rw [e1]; omega), e1]
  have e4 : ((x2.toInt64 * x4.toInt64) * up).toInt = x2.toInt * x4.toInt * up.toInt := by rw [t64_mul (by rw [e2]; omega), e2]
  have e5 : (((x1.toInt64 * x3.toInt64) * dn) - ((x2.toInt64 * x4.toInt64) * up)).toInt = x1.toInt * x3.toInt * dn.toInt - x2.toInt * x4.toInt * up.toInt := by rw [t64_sub (by rw [e3, e4]; omega), e3, e4]
  refine ⟨?_, e2⟩
  have z0 : (0 : Int64).toInt = 0 := rfl
  unfold er
  by_cases c : 0 < (((x1.toInt64 * x3.toInt64) * dn) - ((x2.toInt64 * x4.toInt64) * up))
  · have c' := Int64.lt_iff_toInt_lt.mp c
    rw [z0, e5] at c'
    rw [if_pos c, if_pos c', e5]
  · have c' : ¬ 0 < x1.toInt * x3.toInt * dn.toInt - x2.toInt * x4.toInt * up.toInt := fun z => c (Int64.lt_iff_toInt_lt.mpr (by rw [z0, e5]; exact z))
    rw [if_neg c, if_neg c', neg64 (by rw [e5]; omega), e5]
/-- the box while it looks: all else as in S -/
def BV (S U : wPS) (b : Nat) : Prop := (U.F = S.F ∧ U.r = S.r ∧ U.I = S.I) ∧ (U.L = S.L ∧ U.K = S.K ∧ U.n = S.n) ∧ (∀ x, ¬ x = S.f b 1 → U.i x = S.i x) ∧ U.J b 3 = S.J b 3 ∧ U.J b 4 = S.J b 4
theorem BV.f {S U : wPS} {b : Nat} (h : BV S U b) : ∀ a j, U.f a j = S.f a j := fun a j => by unfold wPS.f; rw [h.1.1]
/-- the wheels of the box -/
def BX (n : Nat) (S : wPS) (b : Nat) (x : Nat → Int32) : Prop := (S.I b 2).toInt = (n : Int) ∧ n ≤ 16 ∧ ¬ S.f b 0 = S.f b 1 ∧ (∀ i, i < n → S.i (S.f b 0) i = x i ∧ 15 ≤ (x i).toInt ∧ (x i).toInt ≤ 127) ∧ (1 ≤ (S.J b 3).toInt ∧ (S.J b 3).toInt ≤ 1000000) ∧ 1 ≤ (S.J b 4).toInt ∧ (S.J b 4).toInt ≤ 1000000
/-- the four that is kept -/
def B4 (S U : wPS) (b : Nat) (x : Nat → Int32) (a c e d : Nat) : Prop := (U.i (S.f b 1) 0 = x a ∧ U.i (S.f b 1) 1 = x c ∧ U.i (S.f b 1) 2 = x e ∧ U.i (S.f b 1) 3 = x d) ∧ (U.J b 5).toInt = er (S.J b 3).toInt (S.J b 4).toInt (x a).toInt (x c).toInt (x e).toInt (x d).toInt ∧ (U.J b 6).toInt = (x c).toInt * (x d).toInt
/-- what has been looked at: all fours below k -/
def CI (n : Nat) (S U : wPS) (b : Nat) (x : Nat → Int32) (k : Nat) : Prop := BV S U b ∧ (((∀ a c e d, enu n a c e d → ¬ key a c e d < k) ∧ U.J b 6 = 0) ∨ ∃ a c e d, enu n a c e d ∧ key a c e d < k ∧ B4 S U b x a c e d ∧ ∀ a' c' e' d', enu n a' c' e' d' → key a' c' e' d' < k → er (S.J b 3).toInt (S.J b 4).toInt (x a).toInt (x c).toInt (x e).toInt (x d).toInt * ((x c').toInt * (x d').toInt) ≤ er (S.J b 3).toInt (S.J b 4).toInt (x a').toInt (x c').toInt (x e').toInt (x d').toInt * ((x c).toInt * (x d).toInt) ∧ (key a' c' e' d' < key a c e d → er (S.J b 3).toInt (S.J b 4).toInt (x a).toInt (x c).toInt (x e).toInt (x d).toInt * ((x c').toInt * (x d').toInt) < er (S.J b 3).toInt (S.J b 4).toInt (x a').toInt (x c').toInt (x e').toInt (x d').toInt * ((x c).toInt * (x d).toInt)))
theorem CI.skip {n b k k' : Nat} {S U : wPS} {x : Nat → Int32} (h : CI n S U b x k) (hle : k ≤ k') (hk : ∀ a c e d, enu n a c e d → key a c e d < k' → key a c e d < k) : CI n S U b x k' := by
  refine ⟨h.1, ?_⟩
  rcases h.2 with ⟨p, q⟩ | ⟨a, c, e, d, p1, p2, p3, p4⟩
  · exact Or.inl ⟨fun a c e d he z => p a c e d he (hk a c e d he z), q⟩
  · exact Or.inr ⟨a, c, e, d, p1, by omega, p3, fun a' c' e' d' he z => p4 a' c' e' d' he (hk _ _ _ _ he z)⟩
theorem si_qB {S : wPS} {a : Nat} {g : Nat → Int32} : (S.si a g).i a = g := by show va_up S.i a g a = g; rw [up_qq]
theorem si_nB {S : wPS} {a y : Nat} {g : Nat → Int32} (h : ¬ y = a) : (S.si a g).i y = S.i y := by show va_up S.i a g y = _; rw [up_nq h]
theorem B4.set {S U W0 W1 W2 W3 V : wPS} {b : Nat} {x : Nat → Int32} {a c e d : Nat} {E B : Int64} (hV : BV S U b) (h0 : E.toInt = er (S.J b 3).toInt (S.J b 4).toInt (x a).toInt (x c).toInt (x e).toInt (x d).toInt) (h1 : B.toInt = (x c).toInt * (x d).toInt) (e0 : W0 = (U.sJ b 5 E).sJ b 6 B) (e1 : W1 = W0.si (U.f b 1) (upd (W0.i (U.f b 1)) 0 (x a))) (e2 : W2 = W1.si (U.f b 1) (upd (W1.i (U.f b 1)) 1 (x c))) (e3 : W3 = W2.si (U.f b 1) (upd (W2.i (U.f b 1)) 2 (x e))) (e4 : V = W3.si (U.f b 1) (upd (W3.i (U.f b 1)) 3 (x d))) : BV S V b ∧ B4 S V b x a c e d := by
  have f1 : U.f b 1 = S.f b 1 := hV.f b 1
  rw [f1] at e1 e2 e3 e4
  have i1 : W1.i (S.f b 1) = upd (W0.i (S.f b 1)) 0 (x a) := by rw [e1, si_qB]
  have i2 : W2.i (S.f b 1) = upd (upd (W0.i (S.f b 1)) 0 (x a)) 1 (x c) := by rw [e2, si_qB, i1]
  have i3 : W3.i (S.f b 1) = upd (upd (upd (W0.i (S.f b 1)) 0 (x a)) 1 (x c)) 2 (x e) := by rw [e3, si_qB, i2]
  have i4 : V.i (S.f b 1) = upd (upd (upd (upd (W0.i (S.f b 1)) 0 (x a)) 1 (x c)) 2 (x e)) 3 (x d) := by rw [e4, si_qB, i3]
  have vJ : V.J = ((U.sJ b 5 E).sJ b 6 B).J := by rw [e4, e3, e2, e1, e0]; rfl
  have vF : V.F = U.F := by rw [e4, e3, e2, e1, e0]; rfl
  have vr : V.r = U.r := by rw [e4, e3, e2, e1, e0]; rfl
  have vI : V.I = U.I := by rw [e4, e3, e2, e1, e0]; rfl
  have vL : V.L = U.L := by rw [e4, e3, e2, e1, e0]; rfl
  have vK : V.K = U.K := by rw [e4, e3, e2, e1, e0]; rfl
  have vn : V.n = U.n := by rw [e4, e3, e2, e1, e0]; rfl
  have io : ∀ y, ¬ y = S.f b 1 → V.i y = U.i y := fun y hy => by rw [e4, si_nB hy, e3, si_nB hy, e2, si_nB hy, e1, si_nB hy, e0]; rfl
  refine ⟨⟨⟨vF.trans hV.1.1, vr.trans hV.1.2.1, vI.trans hV.1.2.2⟩, ⟨vL.trans hV.2.1.1, vK.trans hV.2.1.2.1, vn.trans hV.2.1.2.2⟩, fun y hy => (io y hy).trans (hV.2.2.1 y hy), ?_, ?_⟩, ⟨?_, ?_, ?_, ?_⟩, ?_, ?_⟩
  · rw [vJ, sJ_J (by omega), sJ_J (by omega)]; exact hV.2.2.2.1
  · rw [vJ, sJ_J (by omega), sJ_J (by omega)]; exact hV.2.2.2.2
  · rw [i4]; simp [upd]
  · rw [i4]; simp [upd]
  · rw [i4]; simp [upd]
  · rw [i4]; simp [upd]
  · rw [vJ, sJ_J (by omega), sJ_eq]; exact h0
  · rw [vJ, sJ_eq]; exact h1
theorem lc_eq {x y : Int64} (h : lg_cmp x y = 0) : x.toInt = y.toInt := by
  have a := lc_ngt (x := x) (y := y) (by rw [h]; decide)
  have b := lc_nlt (x := x) (y := y) (by rw [h]; decide)
  omega
theorem key_inj {n a c e d a' c' e' d' : Nat} (h16 : n ≤ 16) (h : enu n a c e d) (h' : enu n a' c' e' d') (e9 : key a' c' e' d' = key a c e d) : a' = a ∧ c' = c ∧ e' = e ∧ d' = d := by
  unfold enu at h h'
  unfold key at e9
  omega
theorem cmp_step {n b k a c e d : Nat} {S U V : wPS} {x : Nat → Int32} (hX : BX n S b x) (hI : CI n S U b x k) (hk : k = key a c e d) (he : enu n a c e d) (hq : f_X0_compare U b (x a) (x c) (x e) (x d) = V) : CI n S V b x (k + 1) := by
  obtain ⟨hn, h16, hne, hx, hu, hd⟩ := hX
  obtain ⟨hV, hst⟩ := hI
  have xa := (hx a he.1.1).2
  have xc := (hx c he.1.2.1).2
  have xe := (hx e he.1.2.2.1).2
  have xd := (hx d he.1.2.2.2).2
  obtain ⟨E1, E2⟩ := er_i (x1 := x a) (x2 := x c) (x3 := x e) (x4 := x d) xa xc xe xd hu hd
  unfold f_X0_compare at hq
  rw [hV.2.2.2.1, hV.2.2.2.2] at hq
  obtain ⟨E, eE⟩ : ∃ z, (if 0 < ((((x a).toInt64 * (x e).toInt64) * S.J b 4) - (((x c).toInt64 * (x d).toInt64) * S.J b 3)) then ((((x a).toInt64 * (x e).toInt64) * S.J b 4) - (((x c).toInt64 * (x d).toInt64) * S.J b 3)) else -((((x a).toInt64 * (x e).toInt64) * S.J b 4) - (((x c).toInt64 * (x d).toInt64) * S.J b 3))) = z := ⟨_, rfl⟩
  obtain ⟨B, eB9⟩ : ∃ z, (x c).toInt64 * (x d).toInt64 = z := ⟨_, rfl⟩
  rw [eE] at E1 hq
  rw [eB9] at E2 hq
  have eb := er_b hu hd xa xc xe xd
  have bb := sm2 xc xd
  have same : ∀ a' c' e' d', enu n a' c' e' d' → key a' c' e' d' = k → a' = a ∧ c' = c ∧ e' = e ∧ d' = d := fun a' c' e' d' h' q => key_inj h16 he h' (q.trans hk)
  rcases hst with ⟨h1, h2⟩ | ⟨a0, c0, e0, d0, p1, p2, p3, p4⟩
  · rw [if_pos (by rw [h2]; decide)] at hq
    have R := B4.set (V := V) hV E1 E2 rfl rfl rfl rfl hq.symm
    refine ⟨R.1, Or.inr ⟨a, c, e, d, he, by omega, R.2, fun a' c' e' d' h' q => ?_⟩⟩
    obtain ⟨q1, q2, q3, q4⟩ := same a' c' e' d' h' (by have := h1 a' c' e' d' h'; omega)
    subst q1; subst q2; subst q3; subst q4
    exact ⟨Int.le_refl _, fun z => absurd z (Nat.lt_irrefl _)⟩
  · have ya := (hx a0 p1.1.1).2
    have yc := (hx c0 p1.1.2.1).2
    have ye := (hx e0 p1.1.2.2.1).2
    have yd := (hx d0 p1.1.2.2.2).2
    have eb0 := er_b hu hd ya yc ye yd
    have bb0 := sm2 yc yd
    obtain ⟨q4, j5, j6⟩ := id p3
    have z0 : (0 : Int64).toInt = 0 := rfl
    rw [if_neg (fun z => by have := lc_eq z; rw [j6, z0] at this; omega)] at hq
    have m1 : (E * U.J b 6).toInt = er (S.J b 3).toInt (S.J b 4).toInt (x a).toInt (x c).toInt (x e).toInt (x d).toInt * ((x c0).toInt * (x d0).toInt) := by
      have s := sm4 eb bb0
      rw [t64_mul (by rw [E1, j6]; omega), E1, j6]
    have m2 : (U.J b 5 * B).toInt = er (S.J b 3).toInt (S.J b 4).toInt (x a0).toInt (x c0).toInt (x e0).toInt (x d0).toInt * ((x c).toInt * (x d).toInt) := by
      have s := sm4 eb0 bb
      rw [t64_mul (by rw [E2, j5]; omega), E2, j5]
    by_cases cc : (0 : Int32) ≤ lg_cmp (E * U.J b 6) (U.J b 5 * B)
    · have g := lc_ge cc
      rw [m1, m2] at g
      rw [if_pos cc] at hq
      rw [← hq]
      refine ⟨hV, Or.inr ⟨a0, c0, e0, d0, p1, by omega, p3, fun a' c' e' d' h' q => ?_⟩⟩
      by_cases q9 : key a' c' e' d' < k
      · exact p4 a' c' e' d' h' q9
      · obtain ⟨q1, q2, q3, q4⟩ := same a' c' e' d' h' (by omega)
        subst q1; subst q2; subst q3; subst q4
        exact ⟨g, fun z => absurd z (by omega)⟩
    · have g := lc_nge cc
      rw [m1, m2] at g
      rw [if_neg cc] at hq
      have R := B4.set (V := V) hV E1 E2 rfl rfl rfl rfl hq.symm
      refine ⟨R.1, Or.inr ⟨a, c, e, d, he, by omega, R.2, fun a' c' e' d' h' q => ?_⟩⟩
      by_cases q9 : key a' c' e' d' < k
      · have t := rt_tr1 (by omega) (by omega) (by have := sm2 (hx c' h'.1.2.1).2 (hx d' h'.1.2.2.2).2; omega) g (p4 a' c' e' d' h' q9).1
        exact ⟨Int.le_of_lt t, fun _ => t⟩
      · obtain ⟨q1, q2, q3, q4⟩ := same a' c' e' d' h' (by omega)
        subst q1; subst q2; subst q3; subst q4
        exact ⟨Int.le_refl _, fun z => absurd z (Nat.lt_irrefl _)⟩
theorem sl_17 {n b a c e : Nat} {S U0 U4 : wPS} {x : Nat → Int32} (hX : BX n S b x) (h0 : BV S U0 b) (ha : a < n) (hc : c < n) (he : e < n) (hae : a < e) (hac : ¬ a = c) : ∀ (fuel d : Nat) (U : wPS), c < d → d ≤ n → n < d + fuel → CI n S U b x (key a c e d) → ∃ (V : wPS) (z : Int32), f_X0_searchWith_L17 U0 b (nI a) (nI c) U4 (nI e) fuel U (nI d) = (V, z) ∧ CI n S V b x (key a c (e + 1) 0) := by
  obtain ⟨hn, h16, hne, hx, -⟩ := id hX
  intro fuel
  induction fuel with
  | zero => intro d U h1 h2 h3; omega
  | succ fuel ih =>
    intro d U h1 h2 h3 hI
    have ed : (nI d).toInt = (d : Int) := nI_toInt (by omega)
    have inj : ∀ i j : Nat, i < 17 → j < 17 → nI i = nI j → i = j := fun i j hi hj q => by
      have q1 : (nI i).toInt = (i : Int) := nI_toInt (by omega)
      have q2 : (nI j).toInt = (j : Int) := nI_toInt (by omega)
      rw [q] at q1; omega
    have un : (U.I b 2).toInt = (n : Int) := by rw [hI.1.1.2.2]; exact hn
    rw [f_X0_searchWith_L17_s]
    by_cases hd : n = d
    · rw [if_pos (Int32.le_iff_toInt_le.mpr (by omega))]
      exact ⟨U, nI d, rfl, hI.skip (by unfold key; omega) (fun a' c' e' d' h' q => by unfold enu at h'; exact (kl4 (by omega) (by omega) (by omega) (by omega) (by omega) (by omega)).mpr (by have q2 := (kl3 (by omega) (by omega) (by omega) (by omega) (by omega)).mp q; omega))⟩
    · have hlt : d < n := by omega
      rw [if_neg (fun q => by have := Int32.le_iff_toInt_le.mp q; omega), nI_s (by omega)]
      have go : (e = c ∨ e = d ∨ d = a) → CI n S U b x (key a c e (d + 1)) := fun q => hI.skip (by unfold key; omega) (fun a' c' e' d' h' q => by unfold enu at h'; exact (kl4 (by omega) (by omega) (by omega) (by omega) (by omega) (by omega)).mpr (by have q2 := (kl4 (by omega) (by omega) (by omega) (by omega) (by omega) (by omega)).mp q; omega))
      by_cases c1 : e = c
      · rw [if_pos (by rw [c1])]
        exact ih (d + 1) U (by omega) (by omega) (by omega) (go (Or.inl c1))
      · rw [if_neg (fun q => c1 (inj _ _ (by omega) (by omega) q))]
        by_cases c2 : e = d
        · rw [if_pos (by rw [c2])]
          exact ih (d + 1) U (by omega) (by omega) (by omega) (go (Or.inr (Or.inl c2)))
        · rw [if_neg (fun q => c2 (inj _ _ (by omega) (by omega) q))]
          by_cases c3 : d = a
          · rw [if_pos (by rw [c3])]
            exact ih (d + 1) U (by omega) (by omega) (by omega) (go (Or.inr (Or.inr c3)))
          · rw [if_neg (fun q => c3 (inj _ _ (by omega) (by omega) q)), h0.f, hI.1.2.2.1 _ hne, nI_cN (k := a) (by omega), nI_cN (k := c) (by omega), nI_cN (k := e) (by omega), nI_cN (k := d) (by omega), (hx a ha).1, (hx c hc).1, (hx e he).1, (hx d hlt).1]
            obtain ⟨V, eV⟩ : ∃ V, f_X0_compare U b (x a) (x c) (x e) (x d) = V := ⟨_, rfl⟩
            rw [eV]
            have st := cmp_step hX hI rfl (by unfold enu; omega) eV
            have k1 : key a c e d + 1 = key a c e (d + 1) := by unfold key; omega
            rw [k1] at st
            exact ih (d + 1) V (by omega) (by omega) (by omega) st
theorem sl_4 {n b a c : Nat} {S U0 : wPS} {x : Nat → Int32} (hX : BX n S b x) (h0 : BV S U0 b) (ha : a < n) (hc : c < n) (hac : ¬ a = c) (hI : CI n S U0 b x (key a c 0 0)) : ∃ V : wPS, f_X0_searchWith U0 b (nI a) (nI c) = V ∧ CI n S V b x (key a (c + 1) 0 0) := by
  obtain ⟨hn, h16, hne, hx, -⟩ := id hX
  have lp : ∀ (fuel e : Nat) (U : wPS), a < e → e ≤ n → n < e + fuel → CI n S U b x (key a c e 0) → ∃ (V : wPS) (z : Int32), f_X0_searchWith_L4 U0 b (nI a) (nI c) fuel U (nI e) = (V, z) ∧ CI n S V b x (key a (c + 1) 0 0) := by
    intro fuel
    induction fuel with
    | zero => intro e U h1 h2 h3; omega
    | succ fuel ih =>
      intro e U h1 h2 h3 hI
      have ee : (nI e).toInt = (e : Int) := nI_toInt (by omega)
      have un : (U.I b 2).toInt = (n : Int) := by rw [hI.1.1.2.2]; exact hn
      rw [f_X0_searchWith_L4_s]
      by_cases hd : n = e
      · rw [if_pos (Int32.le_iff_toInt_le.mpr (by omega))]
        exact ⟨U, nI e, rfl, hI.skip (by unfold key; omega) (fun a' c' e' d' h' q => by unfold enu at h'; exact (kl3 (by omega) (by omega) (by omega) (by omega) (by omega)).mpr (by have q2 := (kl2 (by omega) (by omega) (by omega) (by omega)).mp q; omega))⟩
      · rw [if_neg (fun q => by have := Int32.le_iff_toInt_le.mp q; omega), nI_s (k := c) (by omega), nI_s (k := e) (by omega)]
        obtain ⟨V, z, eV, hV⟩ := sl_17 (U4 := U) hX h0 ha hc (by omega) h1 hac 21 (c + 1) U (by omega) (by omega) (by omega) (hI.skip (by unfold key; omega) (fun a' c' e' d' h' q => by unfold enu at h'; exact (kl3 (by omega) (by omega) (by omega) (by omega) (by omega)).mpr (by have q2 := (kl4 (by omega) (by omega) (by omega) (by omega) (by omega) (by omega)).mp q; omega)))
        rw [eV]
        exact ih (e + 1) V (by omega) (by omega) (by omega) hV
  obtain ⟨V, z, eV, hV⟩ := lp 21 (a + 1) U0 (by omega) (by omega) (by omega) (hI.skip (by unfold key; omega) (fun a' c' e' d' h' q => by unfold enu at h'; exact (kl2 (by omega) (by omega) (by omega) (by omega)).mpr (by have q2 := (kl3 (by omega) (by omega) (by omega) (by omega) (by omega)).mp q; omega)))
  refine ⟨V, ?_, hV⟩
  unfold f_X0_searchWith
  rw [nI_s (by omega), eV]; rfl
theorem sl_37 {n b a : Nat} {S U0 A1 A2 A3 A4 A5 : wPS} {up dn : Int64} {x : Nat → Int32} (hX : BX n S b x) (ha : a < n) : ∀ (fuel c : Nat) (U : wPS), c ≤ n → n < c + fuel → CI n S U b x (key a c 0 0) → ∃ (V : wPS) (z : Int32), f_X0_search_L37 U0 b up dn A1 A2 A3 A4 A5 (nI a) fuel U (nI c) = (V, z) ∧ CI n S V b x (key (a + 1) 0 0 0) := by
  obtain ⟨hn, h16, hne, hx, -⟩ := id hX
  intro fuel
  induction fuel with
  | zero => intro c U h1 h2; omega
  | succ fuel ih =>
    intro c U h1 h2 hI
    have ec : (nI c).toInt = (c : Int) := nI_toInt (by omega)
    have ea : (nI a).toInt = (a : Int) := nI_toInt (by omega)
    have un : (U.I b 2).toInt = (n : Int) := by rw [hI.1.1.2.2]; exact hn
    rw [f_X0_search_L37_s]
    by_cases hd : n = c
    · rw [if_pos (Int32.le_iff_toInt_le.mpr (by omega))]
      exact ⟨U, nI c, rfl, hI.skip (by unfold key; omega) (fun a' c' e' d' h' q => by unfold enu at h'; exact (kl2 (by omega) (by omega) (by omega) (by omega)).mpr (by have q2 := (kl1 (by omega) (by omega) (by omega)).mp q; omega))⟩
    · rw [if_neg (fun q => by have := Int32.le_iff_toInt_le.mp q; omega), nI_s (by omega)]
      by_cases c1 : a = c
      · rw [if_pos (by rw [c1])]
        exact ih (c + 1) U (by omega) (by omega) (hI.skip (by unfold key; omega) (fun a' c' e' d' h' q => by unfold enu at h'; exact (kl2 (by omega) (by omega) (by omega) (by omega)).mpr (by have q2 := (kl2 (by omega) (by omega) (by omega) (by omega)).mp q; omega)))
      · rw [if_neg (fun q => c1 (by rw [q] at ea; omega))]
        obtain ⟨V, eV, hV⟩ := sl_4 hX hI.1 ha (by omega) c1 hI
        rw [eV]
        exact ih (c + 1) V (by omega) (by omega) hV
theorem sl_25 {n b : Nat} {S U0 A1 A2 A3 A4 : wPS} {up dn : Int64} {x : Nat → Int32} (hX : BX n S b x) : ∀ (fuel a : Nat) (U : wPS), a ≤ n → n < a + fuel → CI n S U b x (key a 0 0 0) → ∃ (V : wPS) (z : Int32), f_X0_search_L25 U0 b up dn A1 A2 A3 A4 fuel U (nI a) = (V, z) ∧ CI n S V b x (key n 0 0 0) := by
  obtain ⟨hn, h16, hne, hx, -⟩ := id hX
  intro fuel
  induction fuel with
  | zero => intro a U h1 h2; omega
  | succ fuel ih =>
    intro a U h1 h2 hI
    have ea : (nI a).toInt = (a : Int) := nI_toInt (by omega)
    have un : (U.I b 2).toInt = (n : Int) := by rw [hI.1.1.2.2]; exact hn
    rw [f_X0_search_L25_s]
    by_cases hd : n = a
    · rw [if_pos (Int32.le_iff_toInt_le.mpr (by omega)), hd]
      exact ⟨U, nI a, rfl, by rw [← hd] at hI ⊢; exact hI⟩
    · rw [if_neg (fun q => by have := Int32.le_iff_toInt_le.mp q; omega), nI_s (by omega)]
      obtain ⟨V, z, eV, hV⟩ := sl_37 (U0 := U0) (A1 := A1) (A2 := A2) (A3 := A3) (A4 := A4) (A5 := U) (up := up) (dn := dn) hX (by omega : a < n) 21 0 U (by omega) (by omega) hI
      have eV' : f_X0_search_L37 U0 b up dn A1 A2 A3 A4 U (nI a) 21 U (0 : Int32) = (V, z) := eV
      rw [eV']
      exact ih (a + 1) V (by omega) (by omega) hV
/-- the model while it looks: all else as in S -/
def MV2 (S T : wPS) (o : Nat) : Prop := (T.F = S.F ∧ T.r = S.r ∧ T.I = S.I) ∧ (T.L = S.L ∧ T.K = S.K ∧ T.n = S.n) ∧ ∀ x, ¬ x = S.f o 3 → ¬ x = S.f o 4 → T.i x = S.i x
theorem MV2.f {S U : wPS} {b : Nat} (h : MV2 S U b) : ∀ a j, U.f a j = S.f a j := fun a j => by unfold wPS.f; rw [h.1.1]
/-- the model's wheels -/
def MX2 (n : Nat) (S : wPS) (o : Nat) (w : Nat → Int32) : Prop := ((S.I o 16).toInt = (n : Int) ∧ n ≤ 16) ∧ (¬ S.f o 3 = S.f o 4 ∧ ¬ S.f o 2 = S.f o 3 ∧ ¬ S.f o 2 = S.f o 4) ∧ ∀ i, i < n → S.i (S.f o 2) i = w i ∧ 15 ≤ (w i).toInt ∧ (w i).toInt ≤ 127
/-- four wheels in a row -/
def R4 (T : wPS) (q : Nat) (w : Nat → Int32) (a b c d : Nat) : Prop := T.i q 0 = w a ∧ T.i q 1 = w b ∧ T.i q 2 = w c ∧ T.i q 3 = w d
def L4 (up dn : Int) (w : Nat → Int32) (a b c d a' b' c' d' : Nat) : Prop := le4 up dn (w a).toInt (w b).toInt (w c).toInt (w d).toInt (w a').toInt (w b').toInt (w c').toInt (w d').toInt
def RI (n : Nat) (up dn : Int) (S T : wPS) (o : Nat) (w : Nat → Int32) (k : Nat) : Prop := MV2 S T o ∧ (((∀ a b c d, dis n a b c d → ¬ key a b c d < k) ∧ T.i (S.f o 3) 0 = 0) ∨ ∃ a b c d, dis n a b c d ∧ key a b c d < k ∧ R4 T (S.f o 3) w a b c d ∧ ∀ a' b' c' d', dis n a' b' c' d' → key a' b' c' d' < k → L4 up dn w a b c d a' b' c' d')
theorem RI.skip {n o k k' : Nat} {up dn : Int} {S T : wPS} {w : Nat → Int32} (h : RI n up dn S T o w k) (hle : k ≤ k') (hk : ∀ a c e d, dis n a c e d → key a c e d < k' → key a c e d < k) : RI n up dn S T o w k' := by
  refine ⟨h.1, ?_⟩
  rcases h.2 with ⟨p, q⟩ | ⟨a, c, e, d, p1, p2, p3, p4⟩
  · exact Or.inl ⟨fun a c e d he z => p a c e d he (hk a c e d he z), q⟩
  · exact Or.inr ⟨a, c, e, d, p1, by omega, p3, fun a' c' e' d' he z => p4 a' c' e' d' he (hk _ _ _ _ he z)⟩
theorem keyd_inj {n a c e d a' c' e' d' : Nat} (h16 : n ≤ 16) (h : dis n a c e d) (h' : dis n a' c' e' d') (e9 : key a' c' e' d' = key a c e d) : a' = a ∧ c' = c ∧ e' = e ∧ d' = d := by
  unfold dis at h h'
  unfold key at e9
  omega
theorem of_i {T : wPS} {q : Nat} {up dn : Int64} {w : Nat → Int32} {a b c d : Nat} (h : R4 T q w a b c d) (ha : 15 ≤ (w a).toInt ∧ (w a).toInt ≤ 127) (hb : 15 ≤ (w b).toInt ∧ (w b).toInt ≤ 127) (hc : 15 ≤ (w c).toInt ∧ (w c).toInt ≤ 127) (hd : 15 ≤ (w d).toInt ∧ (w d).toInt ≤ 127) (hu : 1 ≤ up.toInt ∧ up.toInt ≤ 1000000) (hn : 1 ≤ dn.toInt ∧ dn.toInt ≤ 1000000) : (f_X12_offOf T q up dn).toInt = er up.toInt dn.toInt (w a).toInt (w b).toInt (w c).toInt (w d).toInt := by
  obtain ⟨h0, h1, h2, h3⟩ := h
  obtain ⟨E1, -⟩ := er_i (x1 := w a) (x2 := w b) (x3 := w c) (x4 := w d) ha hb hc hd hu hn
  rw [← E1]
  unfold f_X12_offOf
  rw [show (0 : Int32).toNatClampNeg = 0 from rfl, show (1 : Int32).toNatClampNeg = 1 from rfl, show (2 : Int32).toNatClampNeg = 2 from rfl, show (3 : Int32).toNatClampNeg = 3 from rfl, h0, h1, h2, h3]
  have e9 : up * (w b).toInt64 * (w d).toInt64 = (w b).toInt64 * (w d).toInt64 * up := by rw [Int64.mul_assoc, Int64.mul_comm]
  rw [e9]
theorem bt_i {T : wPS} {o : Nat} {up dn : Int64} {w : Nat → Int32} {a b c d a' b' c' d' : Nat} (hf : R4 T (T.f o 3) w a b c d) (ht : R4 T (T.f o 4) w a' b' c' d') (hw : ∀ i, (i = a ∨ i = b ∨ i = c ∨ i = d) ∨ i = a' ∨ i = b' ∨ i = c' ∨ i = d' → 15 ≤ (w i).toInt ∧ (w i).toInt ≤ 127) (hu : 1 ≤ up.toInt ∧ up.toInt ≤ 1000000) (hn : 1 ≤ dn.toInt ∧ dn.toInt ≤ 1000000) : (f_X12_isBetterFour T o up dn = 0 ∧ L4 up.toInt dn.toInt w a b c d a' b' c' d') ∨ (¬ f_X12_isBetterFour T o up dn = 0 ∧ L4 up.toInt dn.toInt w a' b' c' d' a b c d) := by
  have wa := hw a (Or.inl (Or.inl rfl))
  have wb := hw b (Or.inl (Or.inr (Or.inl rfl)))
  have wc := hw c (Or.inl (Or.inr (Or.inr (Or.inl rfl))))
  have wd := hw d (Or.inl (Or.inr (Or.inr (Or.inr rfl))))
  have va := hw a' (Or.inr (Or.inl rfl))
  have vb := hw b' (Or.inr (Or.inr (Or.inl rfl)))
  have vc := hw c' (Or.inr (Or.inr (Or.inr (Or.inl rfl))))
  have vd := hw d' (Or.inr (Or.inr (Or.inr (Or.inr rfl))))
  have O1 := of_i hf wa wb wc wd hu hn
  have O2 := of_i ht va vb vc vd hu hn
  have b1 := er_b hu hn wa wb wc wd
  have b2 := er_b hu hn va vb vc vd
  have s1 := sm2 wb wd
  have s2 := sm2 vb vd
  obtain ⟨f0, f1, f2, f3⟩ := hf
  obtain ⟨t0, t1, t2, t3⟩ := ht
  have now : ((f_X12_offOf T (T.f o 4) up dn * (w b).toInt64) * (w d).toInt64).toInt = er up.toInt dn.toInt (w a').toInt (w b').toInt (w c').toInt (w d').toInt * ((w b).toInt * (w d).toInt) := by
    have m := sm4 b2 s1
    have m2 : 0 ≤ er up.toInt dn.toInt (w a').toInt (w b').toInt (w c').toInt (w d').toInt * (w b).toInt ∧ er up.toInt dn.toInt (w a').toInt (w b').toInt (w c').toInt (w d').toInt * (w b).toInt ≤ 300000000000000 := ⟨Int.mul_nonneg b2.1 (by omega), by have := Int.mul_le_mul b2.2 wb.2 (by omega) (by decide); omega⟩
    have e1 : (f_X12_offOf T (T.f o 4) up dn * (w b).toInt64).toInt = er up.toInt dn.toInt (w a').toInt (w b').toInt (w c').toInt (w d').toInt * (w b).toInt := by rw [t64_mul (by rw [O2, i64_i]; omega), O2, i64_i]
    rw [← Int.mul_assoc] at m ⊢
    rw [t64_mul (by rw [e1, i64_i]; omega), e1, i64_i]
  have best : ((f_X12_offOf T (T.f o 3) up dn * (w b').toInt64) * (w d').toInt64).toInt = er up.toInt dn.toInt (w a).toInt (w b).toInt (w c).toInt (w d).toInt * ((w b').toInt * (w d').toInt) := by
    have m := sm4 b1 s2
    have m2 : 0 ≤ er up.toInt dn.toInt (w a).toInt (w b).toInt (w c).toInt (w d).toInt * (w b').toInt ∧ er up.toInt dn.toInt (w a).toInt (w b).toInt (w c).toInt (w d).toInt * (w b').toInt ≤ 300000000000000 := ⟨Int.mul_nonneg b1.1 (by omega), by have := Int.mul_le_mul b1.2 vb.2 (by omega) (by decide); omega⟩
    have e1 : (f_X12_offOf T (T.f o 3) up dn * (w b').toInt64).toInt = er up.toInt dn.toInt (w a).toInt (w b).toInt (w c).toInt (w d).toInt * (w b').toInt := by rw [t64_mul (by rw [O1, i64_i]; omega), O1, i64_i]
    rw [← Int.mul_assoc] at m ⊢
    rw [t64_mul (by rw [e1, i64_i]; omega), e1, i64_i]
  unfold f_X12_isBetterFour
  rw [show (1 : Int32).toNatClampNeg = 1 from rfl, show (3 : Int32).toNatClampNeg = 3 from rfl, f1, f3, t1, t3]
  by_cases h : lg_cmp ((f_X12_offOf T (T.f o 4) up dn * (w b).toInt64) * (w d).toInt64) ((f_X12_offOf T (T.f o 3) up dn * (w b').toInt64) * (w d').toInt64) = 0
  · have q := lc_eq h
    rw [now, best] at q
    rw [if_pos h]
    have stp : ∀ (kt : Int32 → Int32) (fu i : Nat), i < 4 → f_X12_isBetterFour_L79 T o up dn kt (fu + 1) (nI i) = if T.i (T.f o 4) i = T.i (T.f o 3) i then f_X12_isBetterFour_L79 T o up dn kt fu (nI (i + 1)) else if T.i (T.f o 3) i ≤ T.i (T.f o 4) i then (0 : Int32) else (1 : Int32) := fun kt fu i hi => by
      have ei : (nI i).toInt = (i : Int) := nI_toInt (by omega)
      have i4 : (4 : Int32).toInt = 4 := rfl
      rw [f_X12_isBetterFour_L79_s, if_neg (fun z => by have := Int32.le_iff_toInt_le.mp z; omega), nI_s (by omega), nI_cN (by omega)]
    have s0 := stp (fun (_ : Int32) => (0 : Int32)) 4 0 (by decide)
    have s1' := stp (fun (_ : Int32) => (0 : Int32)) 3 1 (by decide)
    have s2' := stp (fun (_ : Int32) => (0 : Int32)) 2 2 (by decide)
    have s3 := stp (fun (_ : Int32) => (0 : Int32)) 1 3 (by decide)
    have s4 : f_X12_isBetterFour_L79 T o up dn (fun (_ : Int32) => (0 : Int32)) 1 (nI 4) = 0 := by
      rw [f_X12_isBetterFour_L79_s, if_pos (by decide)]
    rw [t0, f0] at s0
    rw [t1, f1] at s1'
    rw [t2, f2] at s2'
    rw [t3, f3] at s3
    have fin : ∀ (u v : Int32), ¬ u = v → (v ≤ u → v.toInt < u.toInt) ∧ (¬ v ≤ u → u.toInt < v.toInt) := fun u v hn => ⟨fun z => by
      have z1 := Int32.le_iff_toInt_le.mp z
      have z2 : ¬ u.toInt = v.toInt := fun y => hn (Int32.toInt_inj.mp y)
      omega, fun z => by
      have z1 : ¬ v.toInt ≤ u.toInt := fun y => z (Int32.le_iff_toInt_le.mpr y)
      omega⟩
    show (f_X12_isBetterFour_L79 T o up dn (fun (_ : Int32) => (0 : Int32)) 5 (nI 0) = 0 ∧ _) ∨ (¬ f_X12_isBetterFour_L79 T o up dn (fun (_ : Int32) => (0 : Int32)) 5 (nI 0) = 0 ∧ _)
    have one : ¬ (1 : Int32) = 0 := by decide
    rw [s0]
    by_cases c0 : w a' = w a
    · have d0 : (w a').toInt = (w a).toInt := by rw [c0]
      rw [if_pos c0, s1']
      by_cases c1 : w b' = w b
      · have d1 : (w b').toInt = (w b).toInt := by rw [c1]
        rw [if_pos c1, s2']
        by_cases c2 : w c' = w c
        · have d2 : (w c').toInt = (w c).toInt := by rw [c2]
          rw [if_pos c2, s3]
          by_cases c3 : w d' = w d
          · have d3 : (w d').toInt = (w d).toInt := by rw [c3]
            rw [if_pos c3, s4]
            exact Or.inl ⟨rfl, Or.inr ⟨q.symm, Or.inr ⟨d0.symm, Or.inr ⟨d1.symm, Or.inr ⟨d2.symm, by omega⟩⟩⟩⟩⟩
          · obtain ⟨g1, g2⟩ := fin _ _ c3
            rw [if_neg c3]
            by_cases g : w d ≤ w d'
            · rw [if_pos g]; exact Or.inl ⟨rfl, Or.inr ⟨q.symm, Or.inr ⟨d0.symm, Or.inr ⟨d1.symm, Or.inr ⟨d2.symm, Int.le_of_lt (g1 g)⟩⟩⟩⟩⟩
            · rw [if_neg g]; exact Or.inr ⟨one, Or.inr ⟨q, Or.inr ⟨d0, Or.inr ⟨d1, Or.inr ⟨d2, Int.le_of_lt (g2 g)⟩⟩⟩⟩⟩
        · obtain ⟨g1, g2⟩ := fin _ _ c2
          rw [if_neg c2]
          by_cases g : w c ≤ w c'
          · rw [if_pos g]; exact Or.inl ⟨rfl, Or.inr ⟨q.symm, Or.inr ⟨d0.symm, Or.inr ⟨d1.symm, Or.inl (g1 g)⟩⟩⟩⟩
          · rw [if_neg g]; exact Or.inr ⟨one, Or.inr ⟨q, Or.inr ⟨d0, Or.inr ⟨d1, Or.inl (g2 g)⟩⟩⟩⟩
      · obtain ⟨g1, g2⟩ := fin _ _ c1
        rw [if_neg c1]
        by_cases g : w b ≤ w b'
        · rw [if_pos g]; exact Or.inl ⟨rfl, Or.inr ⟨q.symm, Or.inr ⟨d0.symm, Or.inl (g1 g)⟩⟩⟩
        · rw [if_neg g]; exact Or.inr ⟨one, Or.inr ⟨q, Or.inr ⟨d0, Or.inl (g2 g)⟩⟩⟩
    · obtain ⟨g1, g2⟩ := fin _ _ c0
      rw [if_neg c0]
      by_cases g : w a ≤ w a'
      · rw [if_pos g]; exact Or.inl ⟨rfl, Or.inr ⟨q.symm, Or.inl (g1 g)⟩⟩
      · rw [if_neg g]; exact Or.inr ⟨one, Or.inr ⟨q, Or.inl (g2 g)⟩⟩
  · rw [if_neg h]
    by_cases g : (0 : Int32) ≤ lg_cmp ((f_X12_offOf T (T.f o 4) up dn * (w b).toInt64) * (w d).toInt64) ((f_X12_offOf T (T.f o 3) up dn * (w b').toInt64) * (w d').toInt64)
    · have z := lc_ge g
      rw [now, best] at z
      rw [if_pos g]
      refine Or.inl ⟨rfl, Or.inl ?_⟩
      have ne : ¬ er up.toInt dn.toInt (w a).toInt (w b).toInt (w c).toInt (w d).toInt * ((w b').toInt * (w d').toInt) = er up.toInt dn.toInt (w a').toInt (w b').toInt (w c').toInt (w d').toInt * ((w b).toInt * (w d).toInt) := fun y => h (by
        have y2 := Int64.toInt_inj.mp (now.trans (y.symm.trans best.symm))
        rw [y2]; exact lcmp_self _)
      omega
    · have z := lc_nge g
      rw [now, best] at z
      rw [if_neg g]
      exact Or.inr ⟨by decide, Or.inl z⟩
theorem l1_r {α ρ : Type} (x : α) (k : α → ρ) : l1 x k = k x := rfl
theorem RI.trial {n o k j : Nat} {up dn : Int} {S T : wPS} {w : Nat → Int32} {y : Int32} (n34 : ¬ S.f o 3 = S.f o 4) (h : RI n up dn S T o w k) : RI n up dn S (T.si (S.f o 4) (upd (T.i (S.f o 4)) j y)) o w k := by
  have e3 : (T.si (S.f o 4) (upd (T.i (S.f o 4)) j y)).i (S.f o 3) = T.i (S.f o 3) := si_nB n34
  refine ⟨⟨h.1.1, h.1.2.1, fun x h3 h4 => (si_nB h4).trans (h.1.2.2 x h3 h4)⟩, ?_⟩
  rcases h.2 with ⟨p, q⟩ | ⟨a, b, c, d, p1, p2, p3, p4⟩
  · exact Or.inl ⟨p, by rw [e3]; exact q⟩
  · exact Or.inr ⟨a, b, c, d, p1, p2, by unfold R4; rw [e3]; exact p3, p4⟩
theorem tr_4 {n o a b c d : Nat} {S T : wPS} {x1 tk : Int32} {up dn : Int64} {w : Nat → Int32} (hX : MX2 n S o w) (hu : 1 ≤ up.toInt ∧ up.toInt ≤ 1000000) (hn : 1 ≤ dn.toInt ∧ dn.toInt ≤ 1000000) (ha : a < n) (hb : b < n) (hc : c < n) (hd : d < n) (dab : ¬ a = b) (dac : ¬ a = c) (dbc : ¬ b = c) (dad : ¬ a = d) (dbd : ¬ b = d) (dcd : ¬ c = d) (hx : x1 = (4 : Int32)) (hI : RI n up.toInt dn.toInt S T o w (key a b c d)) (hT : T.i (S.f o 4) 0 = w a ∧ T.i (S.f o 4) 1 = w b ∧ T.i (S.f o 4) 2 = w c ∧ T.i (S.f o 4) 3 = w d) : ∃ V : wPS, f_X12_tries_4 T o x1 tk up dn = V ∧ RI n up.toInt dn.toInt S V o w (key a b c (d + 1)) ∧ (V.i (S.f o 4) 0 = T.i (S.f o 4) 0 ∧ V.i (S.f o 4) 1 = T.i (S.f o 4) 1 ∧ V.i (S.f o 4) 2 = T.i (S.f o 4) 2 ∧ V.i (S.f o 4) 3 = T.i (S.f o 4) 3) := by
  subst hx
  obtain ⟨⟨h16, hle⟩, ⟨n34, n23, n24⟩, hw⟩ := id hX
  have hD : dis n a b c d := ⟨⟨ha, hb, hc, hd⟩, dab, dac, dad, dbc, dbd, dcd⟩
  have k1 : key a b c (d + 1) = key a b c d + 1 := by unfold key; omega
  rw [k1]
  have f3 : T.f o 3 = S.f o 3 := hI.1.f o 3
  have f4 : T.f o 4 = S.f o 4 := hI.1.f o 4
  have z0 : (0 : Int32).toInt = 0 := rfl
  -- the copy
  have cp : ∃ (V : wPS) (z : Int32), f_X12_tries_4_L28 T o (4 : Int32) tk up dn 5 T (0 : Int32) = (V, z) ∧ MV2 S V o ∧ R4 V (S.f o 3) w a b c d ∧ V.i (S.f o 4) = T.i (S.f o 4) := by
    have i4 : (4 : Int32).toInt = 4 := rfl
    have stp : ∀ (fu i : Nat) (U : wPS), i < 4 → f_X12_tries_4_L28 T o (4 : Int32) tk up dn (fu + 1) U (nI i) = f_X12_tries_4_L28 T o (4 : Int32) tk up dn fu (U.si (S.f o 3) (upd (U.i (S.f o 3)) i (U.i (S.f o 4) i))) (nI (i + 1)) := fun fu i U hi => by
      have ei : (nI i).toInt = (i : Int) := nI_toInt (by omega)
      rw [f_X12_tries_4_L28_s, if_neg (fun z => by have := Int32.le_iff_toInt_le.mp z; omega), nI_s (by omega), nI_cN (by omega), f3, f4]; rfl
    obtain ⟨V1, e1⟩ : ∃ V, T.si (S.f o 3) (upd (T.i (S.f o 3)) 0 (T.i (S.f o 4) 0)) = V := ⟨_, rfl⟩
    obtain ⟨V2, e2⟩ : ∃ V, V1.si (S.f o 3) (upd (V1.i (S.f o 3)) 1 (V1.i (S.f o 4) 1)) = V := ⟨_, rfl⟩
    obtain ⟨V3, e3⟩ : ∃ V, V2.si (S.f o 3) (upd (V2.i (S.f o 3)) 2 (V2.i (S.f o 4) 2)) = V := ⟨_, rfl⟩
    obtain ⟨V4, e4⟩ : ∃ V, V3.si (S.f o 3) (upd (V3.i (S.f o 3)) 3 (V3.i (S.f o 4) 3)) = V := ⟨_, rfl⟩
    have n43 : ¬ S.f o 4 = S.f o 3 := fun q => n34 q.symm
    have q1 : V1.i (S.f o 4) = T.i (S.f o 4) := by rw [← e1, si_nB n43]
    have q2 : V2.i (S.f o 4) = T.i (S.f o 4) := by rw [← e2, si_nB n43, q1]
    have q3 : V3.i (S.f o 4) = T.i (S.f o 4) := by rw [← e3, si_nB n43, q2]
    have q4 : V4.i (S.f o 4) = T.i (S.f o 4) := by rw [← e4, si_nB n43, q3]
    have p1 : V1.i (S.f o 3) = upd (T.i (S.f o 3)) 0 (w a) := by rw [← e1, si_qB, hT.1]
    have p2 : V2.i (S.f o 3) = upd (upd (T.i (S.f o 3)) 0 (w a)) 1 (w b) := by rw [← e2, si_qB, p1, q1, hT.2.1]
    have p3 : V3.i (S.f o 3) = upd (upd (upd (T.i (S.f o 3)) 0 (w a)) 1 (w b)) 2 (w c) := by rw [← e3, si_qB, p2, q2, hT.2.2.1]
    have p4 : V4.i (S.f o 3) = upd (upd (upd (upd (T.i (S.f o 3)) 0 (w a)) 1 (w b)) 2 (w c)) 3 (w d) := by rw [← e4, si_qB, p3, q3, hT.2.2.2]
    have io : ∀ y, ¬ y = S.f o 3 → V4.i y = T.i y := fun y hy => by rw [← e4, si_nB hy, ← e3, si_nB hy, ← e2, si_nB hy, ← e1, si_nB hy]
    have vF : V4.F = T.F := by rw [← e4, ← e3, ← e2, ← e1]; rfl
    have vr : V4.r = T.r := by rw [← e4, ← e3, ← e2, ← e1]; rfl
    have vI : V4.I = T.I := by rw [← e4, ← e3, ← e2, ← e1]; rfl
    have vL : V4.L = T.L := by rw [← e4, ← e3, ← e2, ← e1]; rfl
    have vK : V4.K = T.K := by rw [← e4, ← e3, ← e2, ← e1]; rfl
    have vn : V4.n = T.n := by rw [← e4, ← e3, ← e2, ← e1]; rfl
    refine ⟨V4, nI 4, ?_, ⟨⟨vF.trans hI.1.1.1, vr.trans hI.1.1.2.1, vI.trans hI.1.1.2.2⟩, ⟨vL.trans hI.1.2.1.1, vK.trans hI.1.2.1.2.1, vn.trans hI.1.2.1.2.2⟩, fun y h3 h4 => (io y h3).trans (hI.1.2.2 y h3 h4)⟩, ⟨by rw [p4]; simp [upd], by rw [p4]; simp [upd], by rw [p4]; simp [upd], by rw [p4]; simp [upd]⟩, q4⟩
    show f_X12_tries_4_L28 T o (4 : Int32) tk up dn 5 T (nI 0) = _
    rw [stp 4 0 T (by decide), e1, stp 3 1 V1 (by decide), e2, stp 2 2 V2 (by decide), e3, stp 1 3 V3 (by decide), e4, f_X12_tries_4_L28_s, if_pos (by decide)]
  obtain ⟨V, z, eC, c1, c2, c3⟩ := cp
  have same : ∀ a' b' c' d', dis n a' b' c' d' → key a' b' c' d' = key a b c d → a' = a ∧ b' = b ∧ c' = c ∧ d' = d := fun a' b' c' d' h' q => keyd_inj hle hD h' q
  have kpV : V.i (S.f o 4) 0 = T.i (S.f o 4) 0 ∧ V.i (S.f o 4) 1 = T.i (S.f o 4) 1 ∧ V.i (S.f o 4) 2 = T.i (S.f o 4) 2 ∧ V.i (S.f o 4) 3 = T.i (S.f o 4) 3 := by rw [c3]; exact ⟨rfl, rfl, rfl, rfl⟩
  unfold f_X12_tries_4
  rw [if_pos rfl, eC, show (0 : Int32).toNatClampNeg = 0 from rfl, f3]
  rcases hI.2 with ⟨p, q⟩ | ⟨a0, b0, c0, d0, p1, p2, p3, p4⟩
  · rw [if_pos (by rw [q]; decide)]
    refine ⟨V, rfl, ⟨c1, Or.inr ⟨a, b, c, d, hD, by omega, c2, fun a' b' c' d' h' g => ?_⟩⟩, kpV⟩
    obtain ⟨q1, q2, q3, q4⟩ := same a' b' c' d' h' (by have := p a' b' c' d' h'; omega)
    subst q1; subst q2; subst q3; subst q4
    exact le4_rf _ _ _ _ _ _
  · have wl0 := (hw a0 p1.1.1).2
    rw [if_neg (fun y => by have := Int32.le_iff_toInt_le.mp y; rw [p3.1, z0] at this; omega)]
    have hf9 : R4 T (T.f o 3) w a0 b0 c0 d0 := by rw [f3]; exact p3
    have ht9 : R4 T (T.f o 4) w a b c d := by rw [f4]; exact hT
    have hall : ∀ i, (i = a0 ∨ i = b0 ∨ i = c0 ∨ i = d0) ∨ i = a ∨ i = b ∨ i = c ∨ i = d → 15 ≤ (w i).toInt ∧ (w i).toInt ≤ 127 := fun i hi => (hw i (by have := p1.1; omega)).2
    rcases bt_i hf9 ht9 hall hu hn with ⟨g, l⟩ | ⟨g, l⟩
    · rw [if_pos g]
      refine ⟨T, rfl, ⟨hI.1, Or.inr ⟨a0, b0, c0, d0, p1, by omega, p3, fun a' b' c' d' h' g9 => ?_⟩⟩, rfl, rfl, rfl, rfl⟩
      by_cases q9 : key a' b' c' d' < key a b c d
      · exact p4 a' b' c' d' h' q9
      · obtain ⟨q1, q2, q3, q4⟩ := same a' b' c' d' h' (by omega)
        subst q1; subst q2; subst q3; subst q4
        exact l
    · rw [if_neg g]
      refine ⟨V, rfl, ⟨c1, Or.inr ⟨a, b, c, d, hD, by omega, c2, fun a' b' c' d' h' g9 => ?_⟩⟩, kpV⟩
      by_cases q9 : key a' b' c' d' < key a b c d
      · have po : ∀ i j, i < n → j < n → 0 < (w i).toInt * (w j).toInt := fun i j hi hj => by have := sm2 (hw i hi).2 (hw j hj).2; omega
        exact le4_tr (po b d hb hd) (po b0 d0 p1.1.2.1 p1.1.2.2.2) (po b' d' h'.1.2.1 h'.1.2.2.2) l (p4 a' b' c' d' h' q9)
      · obtain ⟨q1, q2, q3, q4⟩ := same a' b' c' d' h' (by omega)
        subst q1; subst q2; subst q3; subst q4
        exact le4_rf _ _ _ _ _ _
theorem bits0 {v : Nat} (hv : v < 16) : ((((0 : Int32) >>> (nI v &&& 31)) &&& (1 : Int32)) = (1 : Int32)) ↔ False := by
  have d : ∀ v : Fin 16, ((((0 : Int32) >>> (nI v.val &&& 31)) &&& (1 : Int32)) = (1 : Int32)) ↔ False := by decide +kernel
  exact d ⟨v, hv⟩
theorem bits1 {a v : Nat} (ha : a < 16) (hv : v < 16) : (((((0 : Int32) ||| ((1 : Int32) <<< (nI a &&& 31))) >>> (nI v &&& 31)) &&& (1 : Int32)) = (1 : Int32)) ↔ (v = a) := by
  have d : ∀ a v : Fin 16, (((((0 : Int32) ||| ((1 : Int32) <<< (nI a.val &&& 31))) >>> (nI v.val &&& 31)) &&& (1 : Int32)) = (1 : Int32)) ↔ (v.val = a.val) := by decide +kernel
  exact d ⟨a, ha⟩ ⟨v, hv⟩
theorem bits2 {a b v : Nat} (ha : a < 16) (hb : b < 16) (hv : v < 16) : ((((((0 : Int32) ||| ((1 : Int32) <<< (nI a &&& 31))) ||| ((1 : Int32) <<< (nI b &&& 31))) >>> (nI v &&& 31)) &&& (1 : Int32)) = (1 : Int32)) ↔ (v = a ∨ v = b) := by
  have d : ∀ a b v : Fin 16, ((((((0 : Int32) ||| ((1 : Int32) <<< (nI a.val &&& 31))) ||| ((1 : Int32) <<< (nI b.val &&& 31))) >>> (nI v.val &&& 31)) &&& (1 : Int32)) = (1 : Int32)) ↔ (v.val = a.val ∨ v.val = b.val) := by decide +kernel
  exact d ⟨a, ha⟩ ⟨b, hb⟩ ⟨v, hv⟩
theorem bits3 {a b c v : Nat} (ha : a < 16) (hb : b < 16) (hc : c < 16) (hv : v < 16) : (((((((0 : Int32) ||| ((1 : Int32) <<< (nI a &&& 31))) ||| ((1 : Int32) <<< (nI b &&& 31))) ||| ((1 : Int32) <<< (nI c &&& 31))) >>> (nI v &&& 31)) &&& (1 : Int32)) = (1 : Int32)) ↔ (v = a ∨ v = b ∨ v = c) := by
  have d : ∀ a b c v : Fin 16, (((((((0 : Int32) ||| ((1 : Int32) <<< (nI a.val &&& 31))) ||| ((1 : Int32) <<< (nI b.val &&& 31))) ||| ((1 : Int32) <<< (nI c.val &&& 31))) >>> (nI v.val &&& 31)) &&& (1 : Int32)) = (1 : Int32)) ↔ (v.val = a.val ∨ v.val = b.val ∨ v.val = c.val) := by decide +kernel
  exact d ⟨a, ha⟩ ⟨b, hb⟩ ⟨c, hc⟩ ⟨v, hv⟩
theorem tr_3 {n o a b c : Nat} {S T : wPS} {x1 : Int32} {up dn : Int64} {w : Nat → Int32} (hX : MX2 n S o w) (hu : 1 ≤ up.toInt ∧ up.toInt ≤ 1000000) (hn : 1 ≤ dn.toInt ∧ dn.toInt ≤ 1000000) (ha : a < n) (hb : b < n) (hc : c < n) (dab : ¬ a = b) (dac : ¬ a = c) (dbc : ¬ b = c) (hx : x1 = (3 : Int32)) (hI : RI n up.toInt dn.toInt S T o w (key a b c 0)) (hT : T.i (S.f o 4) 0 = w a ∧ T.i (S.f o 4) 1 = w b ∧ T.i (S.f o 4) 2 = w c) : ∃ V : wPS, f_X12_tries_3 T o x1 ((((0 : Int32) ||| ((1 : Int32) <<< (nI a &&& 31))) ||| ((1 : Int32) <<< (nI b &&& 31))) ||| ((1 : Int32) <<< (nI c &&& 31))) up dn = V ∧ RI n up.toInt dn.toInt S V o w (key a b (c + 1) 0) ∧ (V.i (S.f o 4) 0 = T.i (S.f o 4) 0 ∧ V.i (S.f o 4) 1 = T.i (S.f o 4) 1 ∧ V.i (S.f o 4) 2 = T.i (S.f o 4) 2) := by
  subst hx
  obtain ⟨⟨h16, hle⟩, ⟨n34, n23, n24⟩, hw⟩ := id hX
  have lp : ∀ (fuel d : Nat) (U : wPS), d ≤ n → n < d + fuel → RI n up.toInt dn.toInt S U o w (key a b c d) → (U.i (S.f o 4) 0 = T.i (S.f o 4) 0 ∧ U.i (S.f o 4) 1 = T.i (S.f o 4) 1 ∧ U.i (S.f o 4) 2 = T.i (S.f o 4) 2) → ∃ (V : wPS) (z : Int32), f_X12_tries_3_L58 T o (3 : Int32) ((((0 : Int32) ||| ((1 : Int32) <<< (nI a &&& 31))) ||| ((1 : Int32) <<< (nI b &&& 31))) ||| ((1 : Int32) <<< (nI c &&& 31))) up dn fuel U (nI d) = (V, z) ∧ RI n up.toInt dn.toInt S V o w (key a b (c + 1) 0) ∧ (V.i (S.f o 4) 0 = T.i (S.f o 4) 0 ∧ V.i (S.f o 4) 1 = T.i (S.f o 4) 1 ∧ V.i (S.f o 4) 2 = T.i (S.f o 4) 2) := by
    intro fuel
    induction fuel with
    | zero => intro d U h1 h2; omega
    | succ fuel ih =>
      intro d U h1 h2 hU kU
      have ev : (nI d).toInt = (d : Int) := nI_toInt (by omega)
      have un : (U.I o 16).toInt = (n : Int) := by rw [hU.1.1.2.2]; exact h16
      rw [f_X12_tries_3_L58_s]
      by_cases hd9 : n = d
      · rw [if_pos (Int32.le_iff_toInt_le.mpr (by omega))]
        exact ⟨U, nI d, rfl, hU.skip (by unfold key; omega) (fun a' c' e' d' h' q => by unfold dis at h'; exact (kl4 (by omega) (by omega) (by omega) (by omega) (by omega) (by omega)).mpr (by have q2 := (kl3 (by omega) (by omega) (by omega) (by omega) (by omega)).mp q; omega)), kU⟩
      · have hlt : d < n := by omega
        rw [if_neg (fun q => by have := Int32.le_iff_toInt_le.mp q; omega), nI_s (k := d) (by omega)]
        have bt : (((((((0 : Int32) ||| ((1 : Int32) <<< (nI a &&& 31))) ||| ((1 : Int32) <<< (nI b &&& 31))) ||| ((1 : Int32) <<< (nI c &&& 31))) >>> (nI d &&& 31)) &&& (1 : Int32)) = (1 : Int32)) ↔ (d = a ∨ d = b ∨ d = c) := bits3 (by omega : a < 16) (by omega : b < 16) (by omega : c < 16) (by omega : d < 16)
        by_cases hq9 : d = a ∨ d = b ∨ d = c
        · rw [if_pos (bt.mpr hq9)]
          exact ih (d + 1) U (by omega) (by omega) (hU.skip (by unfold key; omega) (fun a' c' e' d' h' q => by unfold dis at h'; exact (kl4 (by omega) (by omega) (by omega) (by omega) (by omega) (by omega)).mpr (by have q2 := (kl4 (by omega) (by omega) (by omega) (by omega) (by omega) (by omega)).mp q; omega))) kU
        · rw [if_neg (fun q => hq9 (bt.mp q)), (show T.f o 4 = S.f o 4 from hI.1.f o 4), (show T.f o 2 = S.f o 2 from hI.1.f o 2), hU.1.2.2 _ n23 n24, nI_cN (k := d) (by omega), (hw d hlt).1]
          rw [show (3 : Int32).toNatClampNeg = 3 from rfl]
          have hV1 : RI n up.toInt dn.toInt S (U.si (S.f o 4) (upd (U.i (S.f o 4)) 3 (w d))) o w (key a b c d) := RI.trial n34 hU
          have hT1 : (U.si (S.f o 4) (upd (U.i (S.f o 4)) 3 (w d))).i (S.f o 4) 0 = w a ∧ (U.si (S.f o 4) (upd (U.i (S.f o 4)) 3 (w d))).i (S.f o 4) 1 = w b ∧ (U.si (S.f o 4) (upd (U.i (S.f o 4)) 3 (w d))).i (S.f o 4) 2 = w c ∧ (U.si (S.f o 4) (upd (U.i (S.f o 4)) 3 (w d))).i (S.f o 4) 3 = w d := by
            rw [si_qB]
            obtain ⟨t0, t1, t2⟩ := hT
            obtain ⟨k0, k1, k2⟩ := kU
            exact ⟨by unfold upd; rw [if_neg (by decide), k0]; exact t0, by unfold upd; rw [if_neg (by decide), k1]; exact t1, by unfold upd; rw [if_neg (by decide), k2]; exact t2, by simp [upd]⟩
          obtain ⟨V, eV, hV, kV⟩ := tr_4 (T := U.si (S.f o 4) (upd (U.i (S.f o 4)) 3 (w d))) (x1 := (3 : Int32) + (1 : Int32)) (tk := (((((0 : Int32) ||| ((1 : Int32) <<< (nI a &&& 31))) ||| ((1 : Int32) <<< (nI b &&& 31))) ||| ((1 : Int32) <<< (nI c &&& 31))) ||| ((1 : Int32) <<< (nI d &&& 31)))) hX hu hn ha hb hc hlt dab dac dbc (by omega : ¬ a = d) (by omega : ¬ b = d) (by omega : ¬ c = d) (by decide) hV1 hT1
          rw [l1_r, eV, l1_r]
          exact ih (d + 1) V (by omega) (by omega) hV ⟨by have q := kV.1; rw [si_qB] at q; rw [q]; unfold upd; rw [if_neg (by decide)]; exact kU.1, by have q := kV.2.1; rw [si_qB] at q; rw [q]; unfold upd; rw [if_neg (by decide)]; exact kU.2.1, by have q := kV.2.2.1; rw [si_qB] at q; rw [q]; unfold upd; rw [if_neg (by decide)]; exact kU.2.2⟩
  obtain ⟨V, z, eV, hV, kV⟩ := lp 18 0 T (by omega) (by omega) hI ⟨rfl, rfl, rfl⟩
  have eV' : f_X12_tries_3_L58 T o (3 : Int32) ((((0 : Int32) ||| ((1 : Int32) <<< (nI a &&& 31))) ||| ((1 : Int32) <<< (nI b &&& 31))) ||| ((1 : Int32) <<< (nI c &&& 31))) up dn 18 T (0 : Int32) = (V, z) := eV
  refine ⟨V, ?_, hV, kV⟩
  unfold f_X12_tries_3
  rw [if_neg (by decide), eV']; rfl
theorem tr_2 {n o a b : Nat} {S T : wPS} {x1 : Int32} {up dn : Int64} {w : Nat → Int32} (hX : MX2 n S o w) (hu : 1 ≤ up.toInt ∧ up.toInt ≤ 1000000) (hn : 1 ≤ dn.toInt ∧ dn.toInt ≤ 1000000) (ha : a < n) (hb : b < n) (dab : ¬ a = b) (hx : x1 = (2 : Int32)) (hI : RI n up.toInt dn.toInt S T o w (key a b 0 0)) (hT : T.i (S.f o 4) 0 = w a ∧ T.i (S.f o 4) 1 = w b) : ∃ V : wPS, f_X12_tries_2 T o x1 (((0 : Int32) ||| ((1 : Int32) <<< (nI a &&& 31))) ||| ((1 : Int32) <<< (nI b &&& 31))) up dn = V ∧ RI n up.toInt dn.toInt S V o w (key a (b + 1) 0 0) ∧ (V.i (S.f o 4) 0 = T.i (S.f o 4) 0 ∧ V.i (S.f o 4) 1 = T.i (S.f o 4) 1) := by
  subst hx
  obtain ⟨⟨h16, hle⟩, ⟨n34, n23, n24⟩, hw⟩ := id hX
  have lp : ∀ (fuel c : Nat) (U : wPS), c ≤ n → n < c + fuel → RI n up.toInt dn.toInt S U o w (key a b c 0) → (U.i (S.f o 4) 0 = T.i (S.f o 4) 0 ∧ U.i (S.f o 4) 1 = T.i (S.f o 4) 1) → ∃ (V : wPS) (z : Int32), f_X12_tries_2_L58 T o (2 : Int32) (((0 : Int32) ||| ((1 : Int32) <<< (nI a &&& 31))) ||| ((1 : Int32) <<< (nI b &&& 31))) up dn fuel U (nI c) = (V, z) ∧ RI n up.toInt dn.toInt S V o w (key a (b + 1) 0 0) ∧ (V.i (S.f o 4) 0 = T.i (S.f o 4) 0 ∧ V.i (S.f o 4) 1 = T.i (S.f o 4) 1) := by
    intro fuel
    induction fuel with
    | zero => intro c U h1 h2; omega
    | succ fuel ih =>
      intro c U h1 h2 hU kU
      have ev : (nI c).toInt = (c : Int) := nI_toInt (by omega)
      have un : (U.I o 16).toInt = (n : Int) := by rw [hU.1.1.2.2]; exact h16
      rw [f_X12_tries_2_L58_s]
      by_cases hd9 : n = c
      · rw [if_pos (Int32.le_iff_toInt_le.mpr (by omega))]
        exact ⟨U, nI c, rfl, hU.skip (by unfold key; omega) (fun a' c' e' d' h' q => by unfold dis at h'; exact (kl3 (by omega) (by omega) (by omega) (by omega) (by omega)).mpr (by have q2 := (kl2 (by omega) (by omega) (by omega) (by omega)).mp q; omega)), kU⟩
      · have hlt : c < n := by omega
        rw [if_neg (fun q => by have := Int32.le_iff_toInt_le.mp q; omega), nI_s (k := c) (by omega)]
        have bt : ((((((0 : Int32) ||| ((1 : Int32) <<< (nI a &&& 31))) ||| ((1 : Int32) <<< (nI b &&& 31))) >>> (nI c &&& 31)) &&& (1 : Int32)) = (1 : Int32)) ↔ (c = a ∨ c = b) := bits2 (by omega : a < 16) (by omega : b < 16) (by omega : c < 16)
        by_cases hq9 : c = a ∨ c = b
        · rw [if_pos (bt.mpr hq9)]
          exact ih (c + 1) U (by omega) (by omega) (hU.skip (by unfold key; omega) (fun a' c' e' d' h' q => by unfold dis at h'; exact (kl3 (by omega) (by omega) (by omega) (by omega) (by omega)).mpr (by have q2 := (kl3 (by omega) (by omega) (by omega) (by omega) (by omega)).mp q; omega))) kU
        · rw [if_neg (fun q => hq9 (bt.mp q)), (show T.f o 4 = S.f o 4 from hI.1.f o 4), (show T.f o 2 = S.f o 2 from hI.1.f o 2), hU.1.2.2 _ n23 n24, nI_cN (k := c) (by omega), (hw c hlt).1]
          rw [show (2 : Int32).toNatClampNeg = 2 from rfl]
          have hV1 : RI n up.toInt dn.toInt S (U.si (S.f o 4) (upd (U.i (S.f o 4)) 2 (w c))) o w (key a b c 0) := RI.trial n34 hU
          have hT1 : (U.si (S.f o 4) (upd (U.i (S.f o 4)) 2 (w c))).i (S.f o 4) 0 = w a ∧ (U.si (S.f o 4) (upd (U.i (S.f o 4)) 2 (w c))).i (S.f o 4) 1 = w b ∧ (U.si (S.f o 4) (upd (U.i (S.f o 4)) 2 (w c))).i (S.f o 4) 2 = w c := by
            rw [si_qB]
            obtain ⟨t0, t1⟩ := hT
            obtain ⟨k0, k1⟩ := kU
            exact ⟨by unfold upd; rw [if_neg (by decide), k0]; exact t0, by unfold upd; rw [if_neg (by decide), k1]; exact t1, by simp [upd]⟩
          obtain ⟨V, eV, hV, kV⟩ := tr_3 (T := U.si (S.f o 4) (upd (U.i (S.f o 4)) 2 (w c))) (x1 := (2 : Int32) + (1 : Int32)) hX hu hn ha hb hlt dab (by omega : ¬ a = c) (by omega : ¬ b = c) (by decide) hV1 hT1
          rw [l1_r, eV, l1_r]
          exact ih (c + 1) V (by omega) (by omega) hV ⟨by have q := kV.1; rw [si_qB] at q; rw [q]; unfold upd; rw [if_neg (by decide)]; exact kU.1, by have q := kV.2.1; rw [si_qB] at q; rw [q]; unfold upd; rw [if_neg (by decide)]; exact kU.2⟩
  obtain ⟨V, z, eV, hV, kV⟩ := lp 18 0 T (by omega) (by omega) hI ⟨rfl, rfl⟩
  have eV' : f_X12_tries_2_L58 T o (2 : Int32) (((0 : Int32) ||| ((1 : Int32) <<< (nI a &&& 31))) ||| ((1 : Int32) <<< (nI b &&& 31))) up dn 18 T (0 : Int32) = (V, z) := eV
  refine ⟨V, ?_, hV, kV⟩
  unfold f_X12_tries_2
  rw [if_neg (by decide), eV']; rfl
theorem tr_1 {n o a : Nat} {S T : wPS} {x1 : Int32} {up dn : Int64} {w : Nat → Int32} (hX : MX2 n S o w) (hu : 1 ≤ up.toInt ∧ up.toInt ≤ 1000000) (hn : 1 ≤ dn.toInt ∧ dn.toInt ≤ 1000000) (ha : a < n)  (hx : x1 = (1 : Int32)) (hI : RI n up.toInt dn.toInt S T o w (key a 0 0 0)) (hT : T.i (S.f o 4) 0 = w a) : ∃ V : wPS, f_X12_tries_1 T o x1 ((0 : Int32) ||| ((1 : Int32) <<< (nI a &&& 31))) up dn = V ∧ RI n up.toInt dn.toInt S V o w (key (a + 1) 0 0 0) ∧ (V.i (S.f o 4) 0 = T.i (S.f o 4) 0) := by
  subst hx
  obtain ⟨⟨h16, hle⟩, ⟨n34, n23, n24⟩, hw⟩ := id hX
  have lp : ∀ (fuel b : Nat) (U : wPS), b ≤ n → n < b + fuel → RI n up.toInt dn.toInt S U o w (key a b 0 0) → (U.i (S.f o 4) 0 = T.i (S.f o 4) 0) → ∃ (V : wPS) (z : Int32), f_X12_tries_1_L58 T o (1 : Int32) ((0 : Int32) ||| ((1 : Int32) <<< (nI a &&& 31))) up dn fuel U (nI b) = (V, z) ∧ RI n up.toInt dn.toInt S V o w (key (a + 1) 0 0 0) ∧ (V.i (S.f o 4) 0 = T.i (S.f o 4) 0) := by
    intro fuel
    induction fuel with
    | zero => intro b U h1 h2; omega
    | succ fuel ih =>
      intro b U h1 h2 hU kU
      have ev : (nI b).toInt = (b : Int) := nI_toInt (by omega)
      have un : (U.I o 16).toInt = (n : Int) := by rw [hU.1.1.2.2]; exact h16
      rw [f_X12_tries_1_L58_s]
      by_cases hd9 : n = b
      · rw [if_pos (Int32.le_iff_toInt_le.mpr (by omega))]
        exact ⟨U, nI b, rfl, hU.skip (by unfold key; omega) (fun a' c' e' d' h' q => by unfold dis at h'; exact (kl2 (by omega) (by omega) (by omega) (by omega)).mpr (by have q2 := (kl1 (by omega) (by omega) (by omega)).mp q; omega)), kU⟩
      · have hlt : b < n := by omega
        rw [if_neg (fun q => by have := Int32.le_iff_toInt_le.mp q; omega), nI_s (k := b) (by omega)]
        have bt : (((((0 : Int32) ||| ((1 : Int32) <<< (nI a &&& 31))) >>> (nI b &&& 31)) &&& (1 : Int32)) = (1 : Int32)) ↔ (b = a) := bits1 (by omega : a < 16) (by omega : b < 16)
        by_cases hq9 : b = a
        · rw [if_pos (bt.mpr hq9)]
          exact ih (b + 1) U (by omega) (by omega) (hU.skip (by unfold key; omega) (fun a' c' e' d' h' q => by unfold dis at h'; exact (kl2 (by omega) (by omega) (by omega) (by omega)).mpr (by have q2 := (kl2 (by omega) (by omega) (by omega) (by omega)).mp q; omega))) kU
        · rw [if_neg (fun q => hq9 (bt.mp q)), (show T.f o 4 = S.f o 4 from hI.1.f o 4), (show T.f o 2 = S.f o 2 from hI.1.f o 2), hU.1.2.2 _ n23 n24, nI_cN (k := b) (by omega), (hw b hlt).1]
          rw [show (1 : Int32).toNatClampNeg = 1 from rfl]
          have hV1 : RI n up.toInt dn.toInt S (U.si (S.f o 4) (upd (U.i (S.f o 4)) 1 (w b))) o w (key a b 0 0) := RI.trial n34 hU
          have hT1 : (U.si (S.f o 4) (upd (U.i (S.f o 4)) 1 (w b))).i (S.f o 4) 0 = w a ∧ (U.si (S.f o 4) (upd (U.i (S.f o 4)) 1 (w b))).i (S.f o 4) 1 = w b := by
            rw [si_qB]
            have t0 := hT
            have k0 := kU
            exact ⟨by unfold upd; rw [if_neg (by decide), k0]; exact t0, by simp [upd]⟩
          obtain ⟨V, eV, hV, kV⟩ := tr_2 (T := U.si (S.f o 4) (upd (U.i (S.f o 4)) 1 (w b))) (x1 := (1 : Int32) + (1 : Int32)) hX hu hn ha hlt  (by omega : ¬ a = b) (by decide) hV1 hT1
          rw [l1_r, eV, l1_r]
          exact ih (b + 1) V (by omega) (by omega) hV (by have q := kV.1; rw [si_qB] at q; rw [q]; unfold upd; rw [if_neg (by decide)]; exact kU)
  obtain ⟨V, z, eV, hV, kV⟩ := lp 18 0 T (by omega) (by omega) hI rfl
  have eV' : f_X12_tries_1_L58 T o (1 : Int32) ((0 : Int32) ||| ((1 : Int32) <<< (nI a &&& 31))) up dn 18 T (0 : Int32) = (V, z) := eV
  refine ⟨V, ?_, hV, kV⟩
  unfold f_X12_tries_1
  rw [if_neg (by decide), eV']; rfl
theorem tr_0 {n o  : Nat} {S T : wPS} {x1 : Int32} {up dn : Int64} {w : Nat → Int32} (hX : MX2 n S o w) (hu : 1 ≤ up.toInt ∧ up.toInt ≤ 1000000) (hn : 1 ≤ dn.toInt ∧ dn.toInt ≤ 1000000)   (hx : x1 = (0 : Int32)) (hI : RI n up.toInt dn.toInt S T o w (key 0 0 0 0)) (hT : True) : ∃ V : wPS, f_X12_tries_0 T o x1 (0 : Int32) up dn = V ∧ RI n up.toInt dn.toInt S V o w (key n 0 0 0) ∧ (True) := by
  subst hx
  obtain ⟨⟨h16, hle⟩, ⟨n34, n23, n24⟩, hw⟩ := id hX
  have lp : ∀ (fuel a : Nat) (U : wPS), a ≤ n → n < a + fuel → RI n up.toInt dn.toInt S U o w (key a 0 0 0) → (True) → ∃ (V : wPS) (z : Int32), f_X12_tries_0_L58 T o (0 : Int32) (0 : Int32) up dn fuel U (nI a) = (V, z) ∧ RI n up.toInt dn.toInt S V o w (key n 0 0 0) ∧ (True) := by
    intro fuel
    induction fuel with
    | zero => intro a U h1 h2; omega
    | succ fuel ih =>
      intro a U h1 h2 hU kU
      have ev : (nI a).toInt = (a : Int) := nI_toInt (by omega)
      have un : (U.I o 16).toInt = (n : Int) := by rw [hU.1.1.2.2]; exact h16
      rw [f_X12_tries_0_L58_s]
      by_cases hd9 : n = a
      · rw [if_pos (Int32.le_iff_toInt_le.mpr (by omega))]
        exact ⟨U, nI a, rfl, hU.skip (by unfold key; omega) (fun a' c' e' d' h' q => by unfold dis at h'; exact (kl1 (by omega) (by omega) (by omega)).mpr (by have q2 := (kl1 (by omega) (by omega) (by omega)).mp q; omega)), kU⟩
      · have hlt : a < n := by omega
        rw [if_neg (fun q => by have := Int32.le_iff_toInt_le.mp q; omega), nI_s (k := a) (by omega)]
        have bt : ((((0 : Int32) >>> (nI a &&& 31)) &&& (1 : Int32)) = (1 : Int32)) ↔ (False) := bits0 (by omega : a < 16)
        by_cases hq9 : False
        · rw [if_pos (bt.mpr hq9)]
          exact ih (a + 1) U (by omega) (by omega) (hU.skip (by unfold key; omega) (fun a' c' e' d' h' q => by unfold dis at h'; exact (kl1 (by omega) (by omega) (by omega)).mpr (by have q2 := (kl1 (by omega) (by omega) (by omega)).mp q; omega))) kU
        · rw [if_neg (fun q => hq9 (bt.mp q)), (show T.f o 4 = S.f o 4 from hI.1.f o 4), (show T.f o 2 = S.f o 2 from hI.1.f o 2), hU.1.2.2 _ n23 n24, nI_cN (k := a) (by omega), (hw a hlt).1]
          rw [show (0 : Int32).toNatClampNeg = 0 from rfl]
          have hV1 : RI n up.toInt dn.toInt S (U.si (S.f o 4) (upd (U.i (S.f o 4)) 0 (w a))) o w (key a 0 0 0) := RI.trial n34 hU
          have hT1 : (U.si (S.f o 4) (upd (U.i (S.f o 4)) 0 (w a))).i (S.f o 4) 0 = w a := by
            rw [si_qB]
            skip
            skip
            simp [upd]
          obtain ⟨V, eV, hV, kV⟩ := tr_1 (T := U.si (S.f o 4) (upd (U.i (S.f o 4)) 0 (w a))) (x1 := (0 : Int32) + (1 : Int32)) hX hu hn  hlt   (by decide) hV1 hT1
          rw [l1_r, eV, l1_r]
          exact ih (a + 1) V (by omega) (by omega) hV trivial
  obtain ⟨V, z, eV, hV, kV⟩ := lp 18 0 T (by omega) (by omega) hI trivial
  have eV' : f_X12_tries_0_L58 T o (0 : Int32) (0 : Int32) up dn 18 T (0 : Int32) = (V, z) := eV
  refine ⟨V, ?_, hV, kV⟩
  unfold f_X12_tries_0
  rw [if_neg (by decide), eV']; rfl
/-- what the class's search leaves -/
theorem cls_find {n b : Nat} {S : wPS} {up dn : Int64} {x : Nat → Int32} (hn : (S.I b 2).toInt = (n : Int)) (h4 : 4 ≤ n) (h16 : n ≤ 16) (hne : ¬ S.f b 0 = S.f b 1) (hx : ∀ i, i < n → S.i (S.f b 0) i = x i ∧ 15 ≤ (x i).toInt ∧ (x i).toInt ≤ 127) (hu : 1 ≤ up.toInt ∧ up.toInt ≤ 1000000) (hd : 1 ≤ dn.toInt ∧ dn.toInt ≤ 1000000) : ∃ V : wPS, f_X0_search S b up dn = V ∧ ((V.F = S.F ∧ V.r = S.r ∧ V.I = S.I) ∧ (V.L = S.L ∧ V.K = S.K ∧ V.n = S.n) ∧ ∀ y, ¬ y = S.f b 1 → V.i y = S.i y) ∧ (V.J b 3 = up ∧ V.J b 4 = dn) ∧ ∃ a c e d, CFo n (fun i => (x i).toInt) up.toInt dn.toInt a c e d ∧ (V.i (S.f b 1) 0 = x a ∧ V.i (S.f b 1) 1 = x c ∧ V.i (S.f b 1) 2 = x e ∧ V.i (S.f b 1) 3 = x d) ∧ (V.J b 5).toInt = er up.toInt dn.toInt (x a).toInt (x c).toInt (x e).toInt (x d).toInt ∧ (V.J b 6).toInt = (x c).toInt * (x d).toInt := by
  obtain ⟨S1, e1⟩ : ∃ z, S.sJ b 3 up = z := ⟨_, rfl⟩
  obtain ⟨S2, e2⟩ : ∃ z, S1.sJ b 4 dn = z := ⟨_, rfl⟩
  obtain ⟨S3, e3⟩ : ∃ z, S2.sJ b 5 (9223372036854775807 : Int64) = z := ⟨_, rfl⟩
  obtain ⟨S4, e4⟩ : ∃ z, S3.sJ b 6 (0 : Int64) = z := ⟨_, rfl⟩
  have qF : S4.F = S.F := by rw [← e4, ← e3, ← e2, ← e1]; rfl
  have qr : S4.r = S.r := by rw [← e4, ← e3, ← e2, ← e1]; rfl
  have qI : S4.I = S.I := by rw [← e4, ← e3, ← e2, ← e1]; rfl
  have qi : S4.i = S.i := by rw [← e4, ← e3, ← e2, ← e1]; rfl
  have qL : S4.L = S.L := by rw [← e4, ← e3, ← e2, ← e1]; rfl
  have qK : S4.K = S.K := by rw [← e4, ← e3, ← e2, ← e1]; rfl
  have qn : S4.n = S.n := by rw [← e4, ← e3, ← e2, ← e1]; rfl
  have j3 : S4.J b 3 = up := by rw [← e4, sJ_J (by omega), ← e3, sJ_J (by omega), ← e2, sJ_J (by omega), ← e1, sJ_eq]
  have j4 : S4.J b 4 = dn := by rw [← e4, sJ_J (by omega), ← e3, sJ_J (by omega), ← e2, sJ_eq]
  have j6 : S4.J b 6 = 0 := by rw [← e4, sJ_eq]
  have qf : ∀ a j, S4.f a j = S.f a j := fun a j => by unfold wPS.f; rw [qF]
  have hX : BX n S4 b x := ⟨by rw [qI]; exact hn, h16, by rw [qf, qf]; exact hne, fun i hi => by rw [qf, qi]; exact hx i hi, by rw [j3]; exact hu, by rw [j4]; exact hd⟩
  have h0 : CI n S4 S4 b x (key 0 0 0 0) := ⟨⟨⟨rfl, rfl, rfl⟩, ⟨rfl, rfl, rfl⟩, fun _ _ => rfl, rfl, rfl⟩, Or.inl ⟨fun a c e d _ => by unfold key; omega, j6⟩⟩
  obtain ⟨V, z, eV, hV⟩ := sl_25 (U0 := S) (A1 := S1) (A2 := S2) (A3 := S3) (A4 := S4) (up := up) (dn := dn) hX 21 0 S4 (by omega) (by omega) h0
  have eV' : f_X0_search_L25 S b up dn S1 S2 S3 S4 21 S4 (0 : Int32) = (V, z) := eV
  refine ⟨V, ?_, ⟨⟨hV.1.1.1.trans qF, hV.1.1.2.1.trans qr, hV.1.1.2.2.trans qI⟩, ⟨hV.1.2.1.1.trans qL, hV.1.2.1.2.1.trans qK, hV.1.2.1.2.2.trans qn⟩, fun y hy => by rw [hV.1.2.2.1 y (by rw [qf]; exact hy), qi]⟩, ⟨hV.1.2.2.2.1.trans j3, hV.1.2.2.2.2.trans j4⟩, ?_⟩
  · unfold f_X0_search
    rw [l1_r, e1, l1_r, e2, l1_r, e3, l1_r, e4, eV']; rfl
  · rcases hV.2 with ⟨p, -⟩ | ⟨a, c, e, d, p1, p2, p3, p4⟩
    · exact absurd (by unfold key; omega) (p 0 1 2 3 (by unfold enu; omega))
    · refine ⟨a, c, e, d, ⟨p1, fun a' c' e' d' h' => ?_⟩, ?_, ?_, p3.2.2⟩
      · have q := p4 a' c' e' d' h' (by unfold enu at h'; unfold key; omega)
        rw [j3, j4] at q
        exact q
      · have q := p3.1
        rw [qf] at q
        exact q
      · have q := p3.2.1
        rw [j3, j4] at q
        exact q
/-- what the model's search leaves -/
theorem rf_find {n o : Nat} {S : wPS} {up dn : Int64} {w : Nat → Int32} (hX : MX2 n S o w) (h4 : 4 ≤ n) (hu : 1 ≤ up.toInt ∧ up.toInt ≤ 1000000) (hd : 1 ≤ dn.toInt ∧ dn.toInt ≤ 1000000) : ∃ V : wPS, f_X12_finds S o up dn = V ∧ MV2 S V o ∧ ∃ a b c d, RFo n (fun i => (w i).toInt) up.toInt dn.toInt a b c d ∧ R4 V (S.f o 3) w a b c d := by
  obtain ⟨S1, e1⟩ : ∃ z, S.si (S.f o 3) (upd (S.i (S.f o 3)) 0 (0 : Int32)) = z := ⟨_, rfl⟩
  have m1 : MV2 S S1 o := by rw [← e1]; exact ⟨⟨rfl, rfl, rfl⟩, ⟨rfl, rfl, rfl⟩, fun x h3 _ => si_nB h3⟩
  have z1 : S1.i (S.f o 3) 0 = 0 := by rw [← e1, si_qB]; simp [upd]
  have h0 : RI n up.toInt dn.toInt S S1 o w (key 0 0 0 0) := ⟨m1, Or.inl ⟨fun a c e d _ => by unfold key; omega, z1⟩⟩
  obtain ⟨V, eV, hV, -⟩ := tr_0 (x1 := (0 : Int32)) hX hu hd rfl h0 trivial
  refine ⟨V, ?_, hV.1, ?_⟩
  · unfold f_X12_finds
    rw [l1_r, show (0 : Int32).toNatClampNeg = 0 from rfl, e1, eV]; rfl
  · have h16 := hX.1.2
    rcases hV.2 with ⟨p, -⟩ | ⟨a, b, c, d, p1, p2, p3, p4⟩
    · exact absurd (by unfold key; omega) (p 0 1 2 3 (by unfold dis; omega))
    · exact ⟨a, b, c, d, ⟨p1, fun a' b' c' d' h' => p4 a' b' c' d' h' (by unfold dis at h'; unfold key; omega)⟩, p3⟩
theorem WB.rX {n i : Nat} {X W : Nat → Int32} (h : WB n X W) (hi : i < n) : 15 ≤ (X i).toInt ∧ (X i).toInt ≤ 127 := by
  obtain ⟨h1, -, σ, τ, ⟨s1, -⟩, -⟩ := h
  rw [(s1 i hi).2]; exact h1 _ (s1 i hi).1
theorem WB.four {n : Nat} {X W : Nat → Int32} {up dn : Int} {a b c d p q r s : Nat} (h : WB n X W) (h16 : n ≤ 16) (hC : CFo n (fun i => (X i).toInt) up dn a b c d) (hR : RFo n (fun i => (W i).toInt) up dn p q r s) : X a = W p ∧ X b = W q ∧ X c = W r ∧ X d = W s := by
  obtain ⟨-, hs, σ, τ, ⟨s1, s2⟩, t1, t2⟩ := h
  obtain ⟨e1, e2, e3, e4⟩ := four_eq h16 hs (fun i hi => ⟨(s1 i hi).1, by rw [(s1 i hi).2]⟩) s2 (fun i hi => ⟨(t1 i hi).1, by rw [(t1 i hi).2]⟩) t2 hC hR
  exact ⟨Int32.toInt_inj.mp e1, Int32.toInt_inj.mp e2, Int32.toInt_inj.mp e3, Int32.toInt_inj.mp e4⟩
theorem WB.put {n p : Nat} {X W Y V : Nat → Int32} {v : Int32} (h : WB n X W) (hv : 15 ≤ v.toInt ∧ v.toInt ≤ 127) (hp : p ≤ n) (h1 : ∀ i, i < p → Y i = X i) (h2 : Y p = v) (h3 : ∀ i, p < i → i ≤ n → Y i = X (i - 1)) (lo : p = 0 ∨ (X (p - 1)).toInt ≤ v.toInt) (hi : ∀ i, p ≤ i → i < n → v.toInt ≤ (X i).toInt) (g1 : ∀ i, i < n → V i = W i) (g2 : V n = v) : WB (n + 1) Y V := by
  obtain ⟨rW, hs, σ, τ, ⟨s1, s2⟩, t1, t2⟩ := h
  have lo' : ∀ i, i < p → (X i).toInt ≤ v.toInt := fun i hip => by
    rcases lo with lo | lo
    · omega
    · have := hs i (p - 1) (by omega) (by omega)
      omega
  refine ⟨fun i hi9 => ?_, fun i j hij hj => ?_, fun i => if i < p then σ i else if i = p then n else σ (i - 1), fun j => if j = n then p else if τ j < p then τ j else τ j + 1, ⟨fun i hi9 => ?_, fun i j hi9 hj e => ?_⟩, fun j hj => ?_, fun i j hi9 hj e => ?_⟩
  · by_cases q : i = n
    · rw [q, g2]; exact hv
    · rw [g1 i (by omega)]; exact rW i (by omega)
  · by_cases a1 : i < p
    · rw [h1 i a1]
      by_cases b1 : j < p
      · rw [h1 j b1]; exact hs i j hij (by omega)
      · by_cases b2 : j = p
        · rw [b2, h2]; exact lo' i a1
        · rw [h3 j (by omega) (by omega)]; exact hs i (j - 1) (by omega) (by omega)
    · by_cases a2 : i = p
      · rw [a2, h2]
        by_cases b2 : j = p
        · rw [b2, h2]; exact Int.le_refl _
        · rw [h3 j (by omega) (by omega)]; exact hi (j - 1) (by omega) (by omega)
      · rw [h3 i (by omega) (by omega), h3 j (by omega) (by omega)]; exact hs (i - 1) (j - 1) (by omega) (by omega)
  · show (if i < p then σ i else if i = p then n else σ (i - 1)) < n + 1 ∧ Y i = V (if i < p then σ i else if i = p then n else σ (i - 1))
    by_cases a1 : i < p
    · rw [if_pos a1, h1 i a1]
      have s := s1 i (by omega)
      exact ⟨by omega, by rw [g1 _ s.1]; exact s.2⟩
    · rw [if_neg a1]
      by_cases a2 : i = p
      · rw [if_pos a2, a2, h2]; exact ⟨by omega, g2.symm⟩
      · rw [if_neg a2, h3 i (by omega) (by omega)]
        have s := s1 (i - 1) (by omega)
        exact ⟨by omega, by rw [g1 _ s.1]; exact s.2⟩
  · have e' : (if i < p then σ i else if i = p then n else σ (i - 1)) = (if j < p then σ j else if j = p then n else σ (j - 1)) := e
    by_cases a1 : i < p
    · rw [if_pos a1] at e'
      have si := (s1 i (by omega)).1
      by_cases b1 : j < p
      · rw [if_pos b1] at e'; exact s2 i j (by omega) (by omega) e'
      · rw [if_neg b1] at e'
        by_cases b2 : j = p
        · rw [if_pos b2] at e'; omega
        · rw [if_neg b2] at e'
          have := s2 i (j - 1) (by omega) (by omega) e'
          omega
    · rw [if_neg a1] at e'
      by_cases a2 : i = p
      · rw [if_pos a2] at e'
        by_cases b1 : j < p
        · rw [if_pos b1] at e'
          have := (s1 j (by omega)).1
          omega
        · rw [if_neg b1] at e'
          by_cases b2 : j = p
          · omega
          · rw [if_neg b2] at e'
            have := (s1 (j - 1) (by omega)).1
            omega
      · rw [if_neg a2] at e'
        have si := (s1 (i - 1) (by omega)).1
        by_cases b1 : j < p
        · rw [if_pos b1] at e'
          have := s2 (i - 1) j (by omega) (by omega) e'
          omega
        · rw [if_neg b1] at e'
          by_cases b2 : j = p
          · rw [if_pos b2] at e'; omega
          · rw [if_neg b2] at e'
            have := s2 (i - 1) (j - 1) (by omega) (by omega) e'
            omega
  · show (if j = n then p else if τ j < p then τ j else τ j + 1) < n + 1 ∧ V j = Y (if j = n then p else if τ j < p then τ j else τ j + 1)
    by_cases a1 : j = n
    · rw [if_pos a1, a1, g2, h2]; exact ⟨by omega, rfl⟩
    · rw [if_neg a1, g1 j (by omega)]
      have t := t1 j (by omega)
      by_cases a2 : τ j < p
      · rw [if_pos a2, h1 _ a2]; exact ⟨by omega, t.2⟩
      · rw [if_neg a2, h3 (τ j + 1) (by omega) (by omega)]; exact ⟨by omega, t.2⟩
  · have e' : (if i = n then p else if τ i < p then τ i else τ i + 1) = (if j = n then p else if τ j < p then τ j else τ j + 1) := e
    by_cases a1 : i = n
    · rw [if_pos a1] at e'
      by_cases b1 : j = n
      · omega
      · rw [if_neg b1] at e'
        by_cases b2 : τ j < p
        · rw [if_pos b2] at e'; omega
        · rw [if_neg b2] at e'; omega
    · rw [if_neg a1] at e'
      by_cases b1 : j = n
      · rw [if_pos b1] at e'
        by_cases a2 : τ i < p
        · rw [if_pos a2] at e'; omega
        · rw [if_neg a2] at e'; omega
      · rw [if_neg b1] at e'
        refine t2 i j (by omega) (by omega) ?_
        by_cases a2 : τ i < p
        · rw [if_pos a2] at e'
          by_cases b2 : τ j < p
          · rw [if_pos b2] at e'; exact e'
          · rw [if_neg b2] at e'; omega
        · rw [if_neg a2] at e'
          by_cases b2 : τ j < p
          · rw [if_pos b2] at e'; omega
          · rw [if_neg b2] at e'; omega
/-- how a wheel is put among the others -/
theorem pt_put {S : wPS} {b n : Nat} {v : Int32} (hn : (S.I b 2).toInt = (n : Int)) (h16 : n < 16) : ∃ (V : wPS) (p : Nat), f_X0_put S b v = (S.I b 2 + (1 : Int32), V) ∧ p ≤ n ∧ ((V.F = S.F ∧ V.r = S.r) ∧ (V.L = S.L ∧ V.K = S.K ∧ V.n = S.n) ∧ (∀ x j, ¬ (x = b ∧ j = 2) → V.I x j = S.I x j) ∧ V.I b 2 = S.I b 2 + (1 : Int32) ∧ ∀ y, ¬ y = S.f b 0 → V.i y = S.i y) ∧ ((∀ i, i < p → V.i (S.f b 0) i = S.i (S.f b 0) i) ∧ V.i (S.f b 0) p = v ∧ (∀ i, p < i → i ≤ n → V.i (S.f b 0) i = S.i (S.f b 0) (i - 1))) ∧ (p = 0 ∨ (S.i (S.f b 0) (p - 1)).toInt ≤ v.toInt) ∧ ∀ i, p ≤ i → i < n → v.toInt ≤ (S.i (S.f b 0) i).toInt := by
  have z0 : (0 : Int32).toInt = 0 := rfl
  have m1 : (-1 : Int32).toInt = -1 := rfl
  have lp : ∀ (fuel k : Nat) (U : wPS), k ≤ n → k < fuel → ((U.F = S.F ∧ U.r = S.r ∧ U.I = S.I) ∧ (U.L = S.L ∧ U.K = S.K ∧ U.n = S.n) ∧ ∀ y, ¬ y = S.f b 0 → U.i y = S.i y) → (∀ i, i < k → U.i (S.f b 0) i = S.i (S.f b 0) i) → (∀ i, k < i → i ≤ n → U.i (S.f b 0) i = S.i (S.f b 0) (i - 1)) → (∀ i, k ≤ i → i < n → v.toInt ≤ (S.i (S.f b 0) i).toInt) → ∃ (V : wPS) (p : Nat), f_X0_put_L14 S b v fuel U (nI k) = (V, nI p) ∧ p ≤ n ∧ ((V.F = S.F ∧ V.r = S.r ∧ V.I = S.I) ∧ (V.L = S.L ∧ V.K = S.K ∧ V.n = S.n) ∧ ∀ y, ¬ y = S.f b 0 → V.i y = S.i y) ∧ (∀ i, i < p → V.i (S.f b 0) i = S.i (S.f b 0) i) ∧ (∀ i, p < i → i ≤ n → V.i (S.f b 0) i = S.i (S.f b 0) (i - 1)) ∧ (p = 0 ∨ (S.i (S.f b 0) (p - 1)).toInt ≤ v.toInt) ∧ ∀ i, p ≤ i → i < n → v.toInt ≤ (S.i (S.f b 0) i).toInt := by
    intro fuel
    induction fuel with
    | zero => intro k U h1 h2; omega
    | succ fuel ih =>
      intro k U h1 h2 hU a1 a2 a3
      have ek : (nI k).toInt = (k : Int) := nI_toInt (by omega)
      rw [f_X0_put_L14_s]
      by_cases hk : k = 0
      · rw [if_pos (Int32.le_iff_toInt_le.mpr (by omega))]
        exact ⟨U, k, rfl, h1, hU, a1, a2, Or.inl hk, a3⟩
      · rw [if_neg (fun q => by have := Int32.le_iff_toInt_le.mp q; omega)]
        have ek1 : (nI (k - 1)).toInt = ((k - 1 : Nat) : Int) := nI_toInt (by omega)
        have s1 : nI k - (1 : Int32) = nI (k - 1) := Int32.toInt_inj.mp (by rw [t_subr (n := 1) rfl (by omega), ek, ek1]; omega)
        have s2 : nI k + (-1 : Int32) = nI (k - 1) := Int32.toInt_inj.mp (by rw [t_addr (n := -1) rfl (by omega), ek, ek1]; omega)
        rw [s1, nI_cN (k := k - 1) (by omega), nI_cN (k := k) (by omega), a1 (k - 1) (by omega)]
        by_cases c : S.i (S.f b 0) (k - 1) ≤ v
        · rw [if_pos c]
          exact ⟨U, k, rfl, h1, hU, a1, a2, Or.inr (Int32.le_iff_toInt_le.mp c), a3⟩
        · have c' : ¬ (S.i (S.f b 0) (k - 1)).toInt ≤ v.toInt := fun q => c (Int32.le_iff_toInt_le.mpr q)
          rw [if_neg c, l1_r, l1_r, s2]
          refine ih (k - 1) _ (by omega) (by omega) ⟨hU.1, hU.2.1, fun y hy => (si_nB hy).trans (hU.2.2 y hy)⟩ (fun i hi => ?_) (fun i hi hi2 => ?_) (fun i hi hi2 => ?_)
          · rw [si_qB]
            unfold upd
            rw [if_neg (by omega)]; exact a1 i (by omega)
          · rw [si_qB]
            unfold upd
            by_cases q : i = k
            · rw [if_pos q, q]
            · rw [if_neg q]; exact a2 i (by omega) hi2
          · by_cases q : i = k - 1
            · rw [q]; omega
            · exact a3 i (by omega) hi2
  obtain ⟨V, p, e, hp, ⟨⟨vF, vr, vI⟩, vL, vi⟩, b1, b2, b3, b4⟩ := lp 17 n S (Nat.le_refl _) (by omega) ⟨⟨rfl, rfl, rfl⟩, ⟨rfl, rfl, rfl⟩, fun _ _ => rfl⟩ (fun _ _ => rfl) (fun i h1 h2 => absurd h1 (by omega)) (fun i h1 h2 => absurd h1 (by omega))
  have en : nI n = S.I b 2 := Int32.toInt_inj.mp (by rw [nI_toInt (by omega), hn])
  rw [en] at e
  have i16 : (16 : Int32).toInt = 16 := rfl
  have uf : V.f b 0 = S.f b 0 := by unfold wPS.f; rw [vF]
  refine ⟨(V.si (S.f b 0) (upd (V.i (S.f b 0)) p v)).sI b 2 (S.I b 2 + (1 : Int32)), p, ?_, hp, ⟨⟨vF, vr⟩, vL, fun x j hx => ?_, sI_eq, fun y hy => (si_nB hy).trans (vi y hy)⟩, ⟨fun i hi => ?_, ?_, fun i h1 h2 => ?_⟩, b3, b4⟩
  · unfold f_X0_put
    rw [if_neg (fun q => by have := Int32.le_iff_toInt_le.mp q; omega), e]
    show (((V.si (S.f b 0) (upd (V.i (S.f b 0)) (nI p).toNatClampNeg v)).sI b 2 (V.I b 2 + (1 : Int32))).I b 2, (V.si (S.f b 0) (upd (V.i (S.f b 0)) (nI p).toNatClampNeg v)).sI b 2 (V.I b 2 + (1 : Int32))) = _
    rw [sI_eq, vI, nI_cN (by omega)]
  · by_cases q : x = b
    · rw [q, sI_ne (fun z => hx ⟨q, z⟩)]
      show V.I b j = _
      rw [vI]
    · rw [sI_no q]
      show V.I x j = _
      rw [vI]
  · show (V.si (S.f b 0) (upd (V.i (S.f b 0)) p v)).i (S.f b 0) i = _
    rw [si_qB]
    unfold upd
    rw [if_neg (by omega)]; exact b1 i hi
  · show (V.si (S.f b 0) (upd (V.i (S.f b 0)) p v)).i (S.f b 0) p = _
    rw [si_qB]
    unfold upd
    rw [if_pos rfl]
  · show (V.si (S.f b 0) (upd (V.i (S.f b 0)) p v)).i (S.f b 0) i = _
    rw [si_qB]
    unfold upd
    rw [if_neg (by omega)]; exact b2 i h1 h2
/-- both searches find one four -/
theorem bx_find {S : wPS} {o2 o : Nat} {up dn : Int64} (m : RBX o2 S o) (hW : wtB S []) (hA : isA S o 12) (h4 : 4 ≤ (S.I o 16).toInt) (hu : 1 ≤ up.toInt ∧ up.toInt ≤ 1000000) (hd : 1 ≤ dn.toInt ∧ dn.toInt ≤ 1000000) : ∃ (U V : wPS) (x0 x1 x2 x3 : Int32), f_X0_search S (S.f o2 6) up dn = U ∧ f_X12_finds U o up dn = V ∧ (U.F = S.F ∧ U.r = S.r ∧ U.I = S.I) ∧ (V.F = S.F ∧ V.r = S.r ∧ V.I = S.I) ∧ (U.i (S.f (S.f o2 6) 1) 0 = x0 ∧ U.i (S.f (S.f o2 6) 1) 1 = x1 ∧ U.i (S.f (S.f o2 6) 1) 2 = x2 ∧ U.i (S.f (S.f o2 6) 1) 3 = x3) ∧ (V.i (S.f o 3) 0 = x0 ∧ V.i (S.f o 3) 1 = x1 ∧ V.i (S.f o 3) 2 = x2 ∧ V.i (S.f o 3) 3 = x3) ∧ (U.J (S.f o2 6) 3 = up ∧ U.J (S.f o2 6) 4 = dn ∧ (U.J (S.f o2 6) 5).toInt = er up.toInt dn.toInt x0.toInt x1.toInt x2.toInt x3.toInt ∧ (U.J (S.f o2 6) 6).toInt = x1.toInt * x3.toInt) ∧ (15 ≤ x0.toInt ∧ x0.toInt ≤ 127) ∧ (15 ≤ x1.toInt ∧ x1.toInt ≤ 127) ∧ (15 ≤ x2.toInt ∧ x2.toInt ≤ 127) ∧ 15 ≤ x3.toInt ∧ x3.toInt ≤ 127 := by
  obtain ⟨hA2, ⟨e6, hb⟩, n34, mc, mw⟩ := m
  have kb := (hW.at hb List.not_mem_nil).to_0 hb.2.1
  have k12 := (hW.at hA List.not_mem_nil).to_12 hA.2.1
  have R2 := kb.R2
  have mc' : (S.I (S.f o2 6) 2).toInt = (S.I o 16).toInt := by rw [mc]
  have ck := cl_int (i := S.I o 16) (by omega)
  obtain ⟨n, en⟩ : ∃ z, (S.I o 16).toNatClampNeg = z := ⟨_, rfl⟩
  rw [en] at mw ck
  have kne : ∀ {x y k l : Nat}, isA S x k → isA S y l → k ≠ l → ¬ x = y := fun hx hy hk q => hk (by rw [← hx.2.1, q]; exact hy.2.1)
  have n01 : ¬ S.f (S.f o2 6) 0 = S.f (S.f o2 6) 1 := kne kb.F0.2.1 kb.F1.2.1 (by decide)
  have n23 : ¬ S.f o 2 = S.f o 3 := kne k12.F2.2.1 k12.F3.2.1 (by decide)
  have n24 : ¬ S.f o 2 = S.f o 4 := kne k12.F2.2.1 k12.F4.2.1 (by decide)
  have n21 : ¬ S.f o 2 = S.f (S.f o2 6) 1 := kne k12.F2.2.1 kb.F1.2.1 (by decide)
  obtain ⟨U, eU, ⟨⟨uF, ur, uI⟩, ⟨uL, uK, un⟩, ui⟩, ⟨uj3, uj4⟩, a, c, e, d, hC, ⟨u0, u1, u2, u3⟩, u5, u6⟩ := cls_find (S := S) (b := S.f o2 6) (n := n) (x := S.i (S.f (S.f o2 6) 0)) (up := up) (dn := dn) (by omega) (by omega) (by omega) n01 (fun i hi => ⟨rfl, mw.rX hi⟩) hu hd
  have uf : ∀ a j, U.f a j = S.f a j := fun a j => by unfold wPS.f; rw [uF]
  have hX : MX2 n U o (S.i (S.f o 2)) := ⟨⟨by rw [uI]; omega, by omega⟩, ⟨by rw [uf, uf]; exact n34, by rw [uf, uf]; exact n23, by rw [uf, uf]; exact n24⟩, fun i hi => ⟨by rw [uf, ui _ n21], mw.1 i hi⟩⟩
  obtain ⟨V, eV, hV, p, q, r, s, hR, v0, v1, v2, v3⟩ := rf_find hX (by omega) hu hd
  obtain ⟨w0, w1, w2, w3⟩ := WB.four mw (by omega) hC hR
  obtain ⟨⟨ea, ec, ee, ed⟩, -⟩ := hC.1
  rw [uf] at v0 v1 v2 v3
  exact ⟨U, V, _, _, _, _, eU, eV, ⟨uF, ur, uI⟩, ⟨hV.1.1.trans uF, hV.1.2.1.trans ur, hV.1.2.2.trans uI⟩, ⟨u0, u1, u2, u3⟩, ⟨v0.trans w0.symm, v1.trans w1.symm, v2.trans w2.symm, v3.trans w3.symm⟩, ⟨uj3, uj4, u5, u6⟩, mw.rX ea, mw.rX ec, mw.rX ee, mw.rX ed⟩
/-- whether the four is near enough: alike on both sides -/
theorem bx_met {S : wPS} {o2 o : Nat} {up dn : Int64} {y : Int32} (m : RBX o2 S o) (hW : wtB S []) (hA : isA S o 12) (h4 : 4 ≤ (S.I o 16).toInt) (hu : 1 ≤ up.toInt ∧ up.toInt ≤ 1000000) (hd : 1 ≤ dn.toInt ∧ dn.toInt ≤ 1000000) (hy : 0 ≤ y.toInt ∧ y.toInt ≤ 999999) : ∃ (U V : wPS) (t : Int32), f_X0_search S (S.f o2 6) up dn = U ∧ f_X0_isMet U (S.f o2 6) y = t ∧ f_X12_isMet U o up dn y = (t, V) ∧ (U.F = S.F ∧ U.r = S.r ∧ U.I = S.I) ∧ V.I = S.I := by
  obtain ⟨U, V, x0, x1, x2, x3, eU, eV, hU, hV, -, ⟨v0, v1, v2, v3⟩, ⟨j3, j4, j5, j6⟩, r0, r1, r2, r3⟩ := bx_find m hW hA h4 hu hd
  have vf : V.f o 3 = S.f o 3 := by unfold wPS.f; rw [hV.1]
  have uf : U.f o 3 = S.f o 3 := by unfold wPS.f; rw [hU.1]
  refine ⟨U, V, f_X0_isMet U (S.f o2 6) y, eU, rfl, ?_, hU, hV.2.2⟩
  have O := of_i (T := V) (q := V.f o 3) (w := fun i => if i = 0 then x0 else if i = 1 then x1 else if i = 2 then x2 else x3) (a := 0) (b := 1) (c := 2) (d := 3) ⟨by rw [vf]; exact v0, by rw [vf]; exact v1, by rw [vf]; exact v2, by rw [vf]; exact v3⟩ r0 r1 r2 r3 hu hd
  rw [vf] at O
  have O' : (f_X12_offOf V (S.f o 3) up dn).toInt = er up.toInt dn.toInt x0.toInt x1.toInt x2.toInt x3.toInt := O
  have eo : f_X12_offOf V (S.f o 3) up dn = U.J (S.f o2 6) 5 := Int64.toInt_inj.mp (O'.trans j5.symm)
  have s := sm2 r1 r3
  have e6 : U.J (S.f o2 6) 6 = x1.toInt64 * x3.toInt64 := Int64.toInt_inj.mp (by rw [j6, t64_mul (by rw [i64_i, i64_i]; omega), i64_i, i64_i])
  unfold f_X12_isMet f_X0_isMet
  rw [l1_r, eV, uf, eo, show (1 : Int32).toNatClampNeg = 1 from rfl, show (3 : Int32).toNatClampNeg = 3 from rfl, v1, v3, j3, e6, Int64.mul_assoc (y.toInt64 * up) x1.toInt64 x3.toInt64]
  by_cases hq : (0 : Int32) < lg_cmp ((1000000 : Int64) * U.J (S.f o2 6) 5) ((y.toInt64 * up) * (x1.toInt64 * x3.toInt64))
  · rw [if_pos hq, if_pos hq]
  · rw [if_neg hq, if_neg hq]
theorem ha_cases {S : wPS} {o2 o : Nat} (y : Int32) (m : RH o2 S o) (hW : wtB S []) (hA : isA S o 12) : (∃ (i a b : Nat), y = nI i ∧ (i : Int) < (S.I o2 3).toInt ∧ f_X9_hobAt S o2 y = .ok a ∧ ¬ f_X12_isHob S o y = 0 ∧ f_Jx4a65c_get_915e3 S (S.f o 1) y = b ∧ S.q (S.f o2 2) i = a ∧ S.q (S.f (S.f o 1) 1) i = b ∧ GRH S i a b) ∨ (f_X9_hobAt S o2 y = .error "java/lang/IndexOutOfBoundsException" ∧ f_X12_isHob S o y = 0) := by
  obtain ⟨hA2, ⟨e0, l0, n0⟩, mc, mg, -⟩ := m
  have R3 := ((hW.at hA2 List.not_mem_nil).to_9 hA2.2.1).R3
  have z0 : (0 : Int32).toInt = 0 := rfl
  have b0 : (0 : Int64).toInt = 0 := rfl
  have e6 : (S.I (S.f o 1) 2 - (1 : Int32)).toInt = (S.I (S.f o 1) 2).toInt - 1 := t_subr (n := 1) rfl (by omega)
  have hin : f_X12_isHob S o y = f_X12_in y.toInt64 0 ((S.I (S.f o 1) 2 - (1 : Int32)).toInt64) := rfl
  by_cases c : 0 ≤ y.toInt ∧ y.toInt < (S.I o2 3).toInt
  · have hc := cl_int (i := y) c.1
    refine Or.inl ⟨y.toNatClampNeg, S.q (S.f o2 2) y.toNatClampNeg, S.q (S.f (S.f o 1) 1) y.toNatClampNeg, nI_cl c.1, by omega, ?_, ?_, rfl, rfl, rfl, mg _ (by omega)⟩
    · unfold f_X9_hobAt
      rw [if_neg (fun q => by have := Int32.lt_iff_toInt_lt.mp q; omega), if_pos (Int32.lt_iff_toInt_lt.mpr c.2)]
    · rw [hin, in_ok (by rw [i64_i, i64_i, b0, e6]; omega)]; decide
  · refine Or.inr ⟨?_, ?_⟩
    · unfold f_X9_hobAt
      split
      · rfl
      · rename_i h1
        rw [if_neg (fun q => by have h2 := Int32.lt_iff_toInt_lt.mp q; have h3 : ¬ y.toInt < (0 : Int32).toInt := fun q => h1 (Int32.lt_iff_toInt_lt.mpr q); omega)]
    · rw [hin, in_no (by rw [i64_i, i64_i, b0, e6]; omega)]
theorem al_ok {b : Int32} (h : b = 1) : f_X9_allowOnly b = .ok () := by subst h; decide
theorem al_er {b : Int32} (h : b = 0) : f_X9_allowOnly b = .error "java/lang/UnsupportedOperationException" := by subst h; decide
theorem eq_differs {S S4 S16 : wPS} {o1 o2 : Nat} {y1 y2 y3 r3 r20 r12 : Int32} {fo f5 : Nat → Int64} (mRG : RG o2 S o1) (mRH : RH o2 S o1) (mRCN : RCN o2 S o1) (mRBX : RBX o2 S o1) (hA : isA S o1 12) (hW : wtB S []) (hw : stp [(0, 3), (0, 4), (0, 5), (0, 6), (17, 100)] [] [] S S4) (hm : stp [(12, 15), (17, 100)] [] [] S4 S16) (h : (∃ v, f_X9_differs S o2 y1 y2 y3 = .ok (v, S4) ∧ r3 = 0 ∧ f5 = vp_updL fo (0 : Int32).toNatClampNeg (v.toInt64)) ∨ (∃ E, f_X9_differs S o2 y1 y2 y3 = .error E ∧ r3 = wc_differs E ∧ f5 = fo ∧ S4 = S)) (h2 : (r12, S16) = f_X12_differs S4 o1 y1 y2 y3) (h3 : r20 = f_X12_thrown S16 o1) : r20 = r3 ∧ (r3 = 0 → f5 (0 : Int32).toNatClampNeg = r12.toInt64) := by
  have ok : ∀ v z U T, f_X9_differs S o2 y1 y2 y3 = .ok (v, U) → f_X12_differs U o1 y1 y2 y3 = (z, T) → T.I o1 15 = 0 → v.toInt64 = z.toInt64 → r20 = r3 ∧ (r3 = 0 → f5 (0 : Int32).toNatClampNeg = r12.toInt64) := fun v z U T e1 e2 e3 e4 => by
    rcases h with ⟨w, g, g2, g3⟩ | ⟨E, g, -⟩
    · rw [e1] at g
      obtain ⟨rfl, rfl⟩ := Prod.mk.inj (Except.ok.inj g)
      rw [e2] at h2
      obtain ⟨rfl, rfl⟩ := Prod.mk.inj h2
      exact ⟨(h3.trans e3).trans g2.symm, fun _ => by rw [g3, ← e4]; simp [vp_updL]⟩
    · rw [e1] at g; cases g
  have er : ∀ E n z, f_X9_differs S o2 y1 y2 y3 = .error E → wc_differs E = n → ¬ n = 0 → f_X12_differs S o1 y1 y2 y3 = (z, S.sI o1 15 n) → r20 = r3 ∧ (r3 = 0 → f5 (0 : Int32).toNatClampNeg = r12.toInt64) := fun E n z e1 e2 e3 e4 => by
    rcases h with ⟨w, g, -⟩ | ⟨E2, g, g2, g3, g4⟩
    · rw [e1] at g; cases g
    · rw [e1] at g; cases g
      rw [g4, e4] at h2
      obtain ⟨rfl, rfl⟩ := Prod.mk.inj h2
      have t20 : r20 = n := h3.trans sI_eq
      have t3 : r3 = n := g2.trans e2
      exact ⟨t20.trans t3.symm, fun q => absurd (t3.symm.trans q) e3⟩
  have a0 : (0 : Int32).toInt = 0 := rfl
  have a4 : (4 : Int32).toInt = 4 := rfl
  have aM : (999999 : Int32).toInt = 999999 := rfl
  have mc' : (S.I (S.f o2 6) 2).toInt = (S.I o1 16).toInt := by rw [mRBX.2.2.2.1]
  have nf : (4 ≤ (S.I o1 16).toInt → f_X9_needFourWheels S o2 = .ok ()) ∧ (¬ 4 ≤ (S.I o1 16).toInt → f_X9_needFourWheels S o2 = .error "java/util/NoSuchElementException") := by
    unfold f_X9_needFourWheels
    refine ⟨fun h => ?_, fun h => ?_⟩
    · have hf : f_X0_hasFour S (S.f o2 6) = 1 := by
        unfold f_X0_hasFour
        rw [if_neg (fun q => by have := Int32.lt_iff_toInt_lt.mp q; omega)]
      rw [hf, if_neg (by decide)]
    · have hf : f_X0_hasFour S (S.f o2 6) = 0 := by
        unfold f_X0_hasFour
        rw [if_pos (Int32.lt_iff_toInt_lt.mpr (by omega))]
      rw [hf, if_pos rfl]
  have sm : ∀ s m : Int, 1 ≤ s → s ≤ 4 → 1 ≤ m → m ≤ 10000 → 1 ≤ m * s ∧ m * s ≤ 40000 := fun s m h1 h2 h3 h4 => by
    rcases (show s = 1 ∨ s = 2 ∨ s = 3 ∨ s = 4 by omega) with q | q | q | q <;> subst q <;> omega
  rcases ga_cases y1 mRG hW hA with ⟨i, a, b, hy, hi, c1, c2, c3, ea, eb, g⟩ | ⟨c1, c2⟩
  · rcases ha_cases y2 mRH hW hA with ⟨i', a', b', hy', hi', d1, d2, d3, ea', eb', g'⟩ | ⟨d1, d2⟩
    · by_cases k3 : 0 ≤ y3.toInt ∧ y3.toInt ≤ 999999
      · obtain ⟨ga, gb, g0, p1, p2, p3⟩ := g
        obtain ⟨ga', gb', q1⟩ := g'
        have ka := (hW.at ga List.not_mem_nil).to_2 ga.2.1
        have r1 := ((hW.at gb' List.not_mem_nil).to_11 gb'.2.1).R1
        have q1' : (S.I a' 1).toInt = (S.I b' 1).toInt := by rw [q1]
        obtain ⟨-, n1, n2⟩ := id mRCN
        have cs := fun U (hU : (U : wPS).F = S.F ∧ U.r = S.r ∧ U.I = S.I) => (show f_X12_isGear U o1 y1 = f_X12_isGear S o1 y1 ∧ f_X12_isHob U o1 y2 = f_X12_isHob S o1 y2 ∧ f_X12_gearAt U o1 y1 = b ∧ f_Jx4a65c_get_915e3 U (U.f o1 1) y2 = b' from by
          have uf : ∀ a j, U.f a j = S.f a j := fun a j => by unfold wPS.f; rw [hU.1]
          refine ⟨?_, ?_, ?_, ?_⟩
          · show f_X12_in y1.toInt64 0 ((U.I (U.f o1 0) 2 - (1 : Int32)).toInt64) = f_X12_in y1.toInt64 0 ((S.I (S.f o1 0) 2 - (1 : Int32)).toInt64)
            rw [uf, hU.2.2]
          · show f_X12_in y2.toInt64 0 ((U.I (U.f o1 1) 2 - (1 : Int32)).toInt64) = f_X12_in y2.toInt64 0 ((S.I (S.f o1 1) 2 - (1 : Int32)).toInt64)
            rw [uf, hU.2.2]
          · rw [← c3]
            show ((U.r ((U.F ((U.F o1 0).getD 0) 1).getD 0) y1.toNatClampNeg).getD 0) = ((S.r ((S.F ((S.F o1 0).getD 0) 1).getD 0) y1.toNatClampNeg).getD 0)
            rw [hU.1, hU.2.1]
          · rw [← d3]
            show ((U.r ((U.F ((U.F o1 1).getD 0) 1).getD 0) y2.toNatClampNeg).getD 0) = ((S.r ((S.F ((S.F o1 1).getD 0) 1).getD 0) y2.toNatClampNeg).getD 0)
            rw [hU.1, hU.2.1])
        have b3 := ka.R3
        have b2 := ka.R2
        have z3 : (S.I b 3 = (0 : Int32)) ↔ (S.I a 3 = (0 : Int32)) := by rw [p3]
        have ab : ∀ h : Int32, h = S.I a 3 → (if 0 ≤ h then h else 0 - h).toInt = (if 0 ≤ (S.I a 3).toInt then (S.I a 3).toInt else 0 - (S.I a 3).toInt) := fun h e => by
          rw [e]
          by_cases q : 0 ≤ S.I a 3
          · have q' := Int32.le_iff_toInt_le.mp q
            rw [a0] at q'
            rw [if_pos q, if_pos q']
          · have q' : ¬ 0 ≤ (S.I a 3).toInt := fun z => q (Int32.le_iff_toInt_le.mpr (by rw [a0]; exact z))
            rw [if_neg q, if_neg q', t_sub (by rw [a0]; omega), a0]
        obtain ⟨H, eH⟩ : ∃ z, (if 0 ≤ (S.I a 3).toInt then (S.I a 3).toInt else 0 - (S.I a 3).toInt) = z := ⟨_, rfl⟩
        rw [eH] at ab
        have hH : 0 ≤ H ∧ H ≤ 500 := by
          rw [← eH]
          by_cases q : 0 ≤ (S.I a 3).toInt
          · rw [if_pos q]; omega
          · rw [if_neg q]; omega
        have s := sm (S.I a' 1).toInt (S.I a 2).toInt (by omega) (by omega) (by omega) (by omega)
        have md : ((S.I a 2) * (S.I a' 1)).toInt = (S.I a 2).toInt * (S.I a' 1).toInt := t_mulx (by omega)
        have e2 : ((S.I b 2).toInt64) * ((S.I b' 1).toInt64) = ((S.I a 2) * (S.I a' 1)).toInt64 := Int64.toInt_inj.mp (by rw [i64_i, md, ← p2, ← q1, t64_mul (by rw [i64_i, i64_i]; omega), i64_i, i64_i])
        have hc : 0 ≤ H * (S.I o2 9).toInt ∧ H * (S.I o2 9).toInt ≤ 49500 := ⟨Int.mul_nonneg hH.1 (by omega), by have := Int.mul_le_mul hH.2 n2.2 (by omega) (by decide); omega⟩
        by_cases k5 : S.I a 3 = (0 : Int32)
        · refine er "java/lang/UnsupportedOperationException" 3 0 ?_ (by decide +kernel) (by decide) ?_
          · unfold f_X9_differs
            rw [eB_ok c1, eB_ok d1, eB_ok (rng_ok (by rw [a0, aM]; exact k3)), if_pos k5]; exact eB_er (al_er rfl)
          · unfold f_X12_differs
            rw [if_neg c2, if_neg d2, li64 (a := 0) (b := 999999) rfl rfl k3, if_neg (by decide), l1_r, c3, if_pos (z3.mpr k5)]; rfl
        · have hH1 : 1 ≤ H := by
            have k6 : ¬ (S.I a 3).toInt = 0 := fun z => k5 (Int32.toInt_inj.mp (by rw [z]; rfl))
            rw [← eH]
            by_cases q : 0 ≤ (S.I a 3).toInt
            · rw [if_pos q]; omega
            · rw [if_neg q]; omega
          have hc1 : 1 ≤ H * (S.I o2 9).toInt := by have := Int.mul_le_mul hH1 n2.1 (by decide) (by omega); omega
          have mu : ((if 0 ≤ S.I a 3 then S.I a 3 else 0 - S.I a 3) * (S.I o2 9)).toInt = H * (S.I o2 9).toInt := by rw [t_mulx (by rw [ab _ rfl]; omega), ab _ rfl]
          have e1 : ((if 0 ≤ S.I b 3 then S.I b 3 else 0 - S.I b 3).toInt64) * ((S.I o1 17).toInt64) = ((if 0 ≤ S.I a 3 then S.I a 3 else 0 - S.I a 3) * (S.I o2 9)).toInt64 := Int64.toInt_inj.mp (by rw [i64_i, mu, ← n1, ← p3, t64_mul (by rw [i64_i, i64_i, ab _ rfl]; omega), i64_i, i64_i, ab _ rfl])
          by_cases k4 : 4 ≤ (S.I o1 16).toInt
          · obtain ⟨U, V, t, eU, x1, x2, hU, hV⟩ := bx_met (up := ((if 0 ≤ S.I a 3 then S.I a 3 else 0 - S.I a 3) * (S.I o2 9)).toInt64) (dn := ((S.I a 2) * (S.I a' 1)).toInt64) (y := y3) mRBX hW hA k4 (by rw [i64_i, mu]; omega) (by rw [i64_i, md]; omega) k3
            obtain ⟨u1, u2, u3, u4⟩ := cs U hU
            refine ok t t U (V.sI o1 15 0) ?_ ?_ sI_eq rfl
            · unfold f_X9_differs
              rw [eB_ok c1, eB_ok d1, eB_ok (rng_ok (by rw [a0, aM]; exact k3)), if_neg k5, eB_ok (al_ok rfl), eB_ok (nf.1 k4), l1_r, eU, x1]
            · unfold f_X12_differs
              rw [u1, if_neg c2, u2, if_neg d2, li64 (a := 0) (b := 999999) rfl rfl k3, if_neg (by decide), l1_r, u3, hU.2.2, if_neg (fun q => k5 (z3.mp q)), if_pos (Int32.le_iff_toInt_le.mpr (by rw [a4]; exact k4)), l1_r, u4, e1, e2, x2]; rfl
          · refine er "java/util/NoSuchElementException" 4 0 ?_ (by decide +kernel) (by decide) ?_
            · unfold f_X9_differs
              rw [eB_ok c1, eB_ok d1, eB_ok (rng_ok (by rw [a0, aM]; exact k3)), if_neg k5, eB_ok (al_ok rfl)]; exact eB_er (nf.2 k4)
            · unfold f_X12_differs
              rw [if_neg c2, if_neg d2, li64 (a := 0) (b := 999999) rfl rfl k3, if_neg (by decide), l1_r, c3, if_neg (fun q => k5 (z3.mp q)), if_neg (fun q => k4 (by have := Int32.le_iff_toInt_le.mp q; omega))]; rfl
      · refine er "java/lang/IllegalArgumentException" 2 0 ?_ (by decide +kernel) (by decide) ?_
        · unfold f_X9_differs
          rw [eB_ok c1, eB_ok d1]; exact eB_er (rng_er (by rw [a0, aM]; exact k3))
        · unfold f_X12_differs
          rw [if_neg c2, if_neg d2, li64n (a := 0) (b := 999999) rfl rfl k3, if_pos rfl]; rfl
    · refine er "java/lang/IndexOutOfBoundsException" 1 0 ?_ (by decide +kernel) (by decide) ?_
      · unfold f_X9_differs
        rw [eB_ok c1]; exact eB_er d1
      · unfold f_X12_differs
        rw [if_neg c2, if_pos d2]; rfl
  · refine er "java/lang/IndexOutOfBoundsException" 1 0 ?_ (by decide +kernel) (by decide) ?_
    · unfold f_X9_differs; exact eB_er c1
    · unfold f_X12_differs; rw [if_pos c2]; rfl
theorem eq_setMachine {S S4 S16 : wPS} {o1 o2 : Nat} {y1 y2 r3 r20 : Int32} {r12 : Int32} {fo f5 : Nat → Int64} (mRCN : RCN o2 S o1) (hA : isA S o1 12) (hW : wtB S []) (hw : stp [(9, 9), (9, 10)] [] [] S S4) (hm : stp [(12, 15), (12, 17), (12, 18)] [] [] S4 S16) (h : (∃ v, f_X9_setMachine S o2 y1 y2 = .ok (v, S4) ∧ r3 = 0 ∧ f5 = vp_updL fo (0 : Int32).toNatClampNeg (v.toInt64)) ∨ (∃ E, f_X9_setMachine S o2 y1 y2 = .error E ∧ r3 = wc_setMachine E ∧ f5 = fo ∧ S4 = S)) (h2 : (r12, S16) = f_X12_setMachine S4 o1 y1 y2) (h3 : r20 = f_X12_thrown S16 o1) : (r20 = r3 ∧ (r3 = 0 → f5 (0 : Int32).toNatClampNeg = r12.toInt64)) ∧ RCN o2 S16 o1 := by
  have ok : ∀ v z U T, f_X9_setMachine S o2 y1 y2 = .ok (v, U) → f_X12_setMachine U o1 y1 y2 = (z, T) → T.I o1 15 = 0 → ((v.toInt64) : Int64) = z.toInt64 → (RCN o2 T o1) → (r20 = r3 ∧ (r3 = 0 → f5 (0 : Int32).toNatClampNeg = r12.toInt64)) ∧ RCN o2 S16 o1 := fun v z U T e1 e2 e3 e4 e5 => by
    rcases h with ⟨w, g, g2, g3⟩ | ⟨E, g, -⟩
    · rw [e1] at g
      obtain ⟨rfl, rfl⟩ := Prod.mk.inj (Except.ok.inj g)
      rw [e2] at h2
      obtain ⟨rfl, rfl⟩ := Prod.mk.inj h2
      exact ⟨⟨(h3.trans e3).trans g2.symm, fun _ => by rw [g3, ← e4]; simp [vp_updL]⟩, e5⟩
    · rw [e1] at g; cases g
  have er : ∀ E n z, f_X9_setMachine S o2 y1 y2 = .error E → wc_setMachine E = n → ¬ n = 0 → f_X12_setMachine S o1 y1 y2 = (z, S.sI o1 15 n) → (r20 = r3 ∧ (r3 = 0 → f5 (0 : Int32).toNatClampNeg = r12.toInt64)) ∧ RCN o2 S16 o1 := fun E n z e1 e2 e3 e4 => by
    rcases h with ⟨w, g, -⟩ | ⟨E2, g, g2, g3, g4⟩
    · rw [e1] at g; cases g
    · rw [e1] at g; cases g
      rw [g4, e4] at h2
      obtain ⟨rfl, rfl⟩ := Prod.mk.inj h2
      have t20 : r20 = n := h3.trans sI_eq
      have t3 : r3 = n := g2.trans e2
      exact ⟨⟨t20.trans t3.symm, fun q => absurd (t3.symm.trans q) e3⟩, RCN.sI hA mRCN⟩
  have a1 : (1 : Int32).toInt = 1 := rfl
  have a99 : (99 : Int32).toInt = 99 := rfl
  have a2 : (2 : Int32).toInt = 2 := rfl
  have a200 : (200 : Int32).toInt = 200 := rfl
  obtain ⟨hA2, m1, m2⟩ := id mRCN
  have hne : ¬ o1 = o2 := fun e => by have k1 := hA.2.1; rw [e, hA2.2.1] at k1; exact absurd k1 (by decide)
  by_cases c1 : 1 ≤ y1.toInt ∧ y1.toInt ≤ 99
  · by_cases c2 : 2 ≤ y2.toInt ∧ y2.toInt ≤ 200
    · obtain ⟨U, eU⟩ : ∃ z, (S.sI o2 9 y1).sI o2 10 y2 = z := ⟨_, rfl⟩
      have u17 : U.I o1 17 = S.I o1 17 := by rw [← eU, sI_no hne, sI_no hne]
      have u9 : U.I o2 9 = y1 := by rw [← eU, sI_ne (by decide), sI_eq]
      have uA : ∀ {x k : Nat}, isA S x k → isA U x k := fun h => by rw [← eU]; exact h
      obtain ⟨T, eT⟩ : ∃ z, (U.sI o1 17 y1).sI o1 18 y2 = z := ⟨_, rfl⟩
      have t17 : T.I o1 17 = y1 := by rw [← eT, sI_ne (by decide), sI_eq]
      have t9 : T.I o2 9 = y1 := by rw [← eT, sI_no (fun e => hne e.symm), sI_no (fun e => hne e.symm)]; exact u9
      have tA : ∀ {x k : Nat}, isA S x k → isA T x k := fun h => by rw [← eT]; exact uA h
      refine ok (S.I o2 9) (U.I o1 17) U (T.sI o1 15 0) ?_ ?_ sI_eq (by rw [u17, m1]) (RCN.sI (tA hA) ⟨tA hA2, by rw [t9, t17], by rw [t9]; exact c1⟩)
      · unfold f_X9_setMachine
        rw [eB_ok (rng_ok (by rw [a1, a99]; exact c1)), eB_ok (rng_ok (by rw [a2, a200]; exact c2)), ← eU]; rfl
      · unfold f_X12_setMachine
        rw [li64 (a := 1) (b := 99) rfl rfl c1, li64 (a := 2) (b := 200) rfl rfl c2, if_neg (by decide), if_neg (by decide), ← eT]; rfl
    · refine er "java/lang/IllegalArgumentException" 1 0 ?_ (by decide +kernel) (by decide) ?_
      · unfold f_X9_setMachine
        rw [eB_ok (rng_ok (by rw [a1, a99]; exact c1))]; exact eB_er (rng_er (by rw [a2, a200]; exact c2))
      · unfold f_X12_setMachine
        rw [li64 (a := 1) (b := 99) rfl rfl c1, if_neg (by decide), li64n (a := 2) (b := 200) rfl rfl c2, if_pos rfl]; rfl
  · refine er "java/lang/IllegalArgumentException" 1 0 ?_ (by decide +kernel) (by decide) ?_
    · unfold f_X9_setMachine; exact eB_er (rng_er (by rw [a1, a99]; exact c1))
    · unfold f_X12_setMachine; rw [li64n (a := 1) (b := 99) rfl rfl c1, if_pos rfl]; rfl
theorem eq_wheel {S S4 S16 : wPS} {o1 o2 : Nat} {y1 r3 r20 : Int32} {r12 : Int32} {fo f5 : Nat → Int64} (mRBX : RBX o2 S o1) (hA : isA S o1 12) (hW : wtB S []) (hw : stp [(0, 2), (27, 100)] [] [] S S4) (hm : stp [(12, 15), (12, 16), (31, 100)] [] [] S4 S16) (h : (∃ v, f_X9_wheel S o2 y1 = .ok (v, S4) ∧ r3 = 0 ∧ f5 = vp_updL fo (0 : Int32).toNatClampNeg (v.toInt64)) ∨ (∃ E, f_X9_wheel S o2 y1 = .error E ∧ r3 = wc_wheel E ∧ f5 = fo ∧ S4 = S)) (h2 : (r12, S16) = f_X12_wheel S4 o1 y1) (h3 : r20 = f_X12_thrown S16 o1) : (r20 = r3 ∧ (r3 = 0 → f5 (0 : Int32).toNatClampNeg = r12.toInt64)) ∧ RBX o2 S16 o1 := by
  have ok : ∀ v z U T, f_X9_wheel S o2 y1 = .ok (v, U) → f_X12_wheel U o1 y1 = (z, T) → T.I o1 15 = 0 → ((v.toInt64) : Int64) = z.toInt64 → (RBX o2 T o1) → (r20 = r3 ∧ (r3 = 0 → f5 (0 : Int32).toNatClampNeg = r12.toInt64)) ∧ RBX o2 S16 o1 := fun v z U T e1 e2 e3 e4 e5 => by
    rcases h with ⟨w, g, g2, g3⟩ | ⟨E, g, -⟩
    · rw [e1] at g
      obtain ⟨rfl, rfl⟩ := Prod.mk.inj (Except.ok.inj g)
      rw [e2] at h2
      obtain ⟨rfl, rfl⟩ := Prod.mk.inj h2
      exact ⟨⟨(h3.trans e3).trans g2.symm, fun _ => by rw [g3, ← e4]; simp [vp_updL]⟩, e5⟩
    · rw [e1] at g; cases g
  have er : ∀ E n z, f_X9_wheel S o2 y1 = .error E → wc_wheel E = n → ¬ n = 0 → f_X12_wheel S o1 y1 = (z, S.sI o1 15 n) → (r20 = r3 ∧ (r3 = 0 → f5 (0 : Int32).toNatClampNeg = r12.toInt64)) ∧ RBX o2 S16 o1 := fun E n z e1 e2 e3 e4 => by
    rcases h with ⟨w, g, -⟩ | ⟨E2, g, g2, g3, g4⟩
    · rw [e1] at g; cases g
    · rw [e1] at g; cases g
      rw [g4, e4] at h2
      obtain ⟨rfl, rfl⟩ := Prod.mk.inj h2
      have t20 : r20 = n := h3.trans sI_eq
      have t3 : r3 = n := g2.trans e2
      exact ⟨⟨t20.trans t3.symm, fun q => absurd (t3.symm.trans q) e3⟩, RBX.sI hA mRBX⟩
  have a15 : (15 : Int32).toInt = 15 := rfl
  have a127 : (127 : Int32).toInt = 127 := rfl
  have a16 : (16 : Int32).toInt = 16 := rfl
  have R2 := ((hW.at mRBX.2.1.2 List.not_mem_nil).to_0 mRBX.2.1.2.2.1).R2
  have k12 := (hW.at hA List.not_mem_nil).to_12 hA.2.1
  obtain ⟨hA2, ⟨e6, hb⟩, n34, mc, mw⟩ := id mRBX
  have ck := cl_int (i := S.I o1 16) (by rw [← mc]; exact R2.1)
  have mc' : (S.I (S.f o2 6) 2).toInt = (S.I o1 16).toInt := by rw [mc]
  by_cases c : 15 ≤ y1.toInt ∧ y1.toInt ≤ 127
  · by_cases d : (16 : Int32) ≤ S.I (S.f o2 6) 2
    · have d2 := Int32.le_iff_toInt_le.mp d
      have d3 : S.I (S.f o2 6) 2 = 16 := Int32.toInt_inj.mp (by omega)
      refine er "java/lang/IllegalStateException" 2 0 ?_ (by decide +kernel) (by decide) ?_
      · unfold f_X9_wheel
        rw [eB_ok (rng_ok (by rw [a15, a127]; exact c)), show f_X0_isFull S (S.f o2 6) = 1 from by unfold f_X0_isFull; rw [if_neg (fun q => by have := Int32.lt_iff_toInt_lt.mp q; omega)], if_neg (by decide)]
      · unfold f_X12_wheel
        rw [li64 (a := 15) (b := 127) rfl rfl c, if_neg (by decide), if_pos (by rw [← mc]; exact d3)]; rfl
    · have d2 : ¬ (16 : Int32).toInt ≤ (S.I (S.f o2 6) 2).toInt := fun q => d (Int32.le_iff_toInt_le.mpr q)
      obtain ⟨U, p, eU, hp, ⟨⟨uF, ur⟩, ⟨uL, uK, un⟩, uI, uI2, ui⟩, ⟨b1, b2, b3⟩, b4, b5⟩ := pt_put (S := S) (b := S.f o2 6) (n := (S.I o1 16).toNatClampNeg) (v := y1) (by omega) (by omega)
      have uf : ∀ a j, U.f a j = S.f a j := fun a j => by unfold wPS.f; rw [uF]
      have hb1 : ¬ o1 = S.f o2 6 := fun e => by have k := hA.2.1; rw [e, hb.2.1] at k; exact absurd k (by decide)
      have u16 : U.I o1 16 = S.I o1 16 := uI o1 16 (fun z => hb1 z.1)
      have n20 : ¬ S.f o1 2 = S.f (S.f o2 6) 0 := fun e => by
        have k := k12.F2.2.1.2.1
        rw [e, ((hW.at hb List.not_mem_nil).to_0 hb.2.1).F0.2.1.2.1] at k
        exact absurd k (by decide)
      have ui2 : U.i (S.f o1 2) = S.i (S.f o1 2) := ui _ n20
      obtain ⟨T, eT⟩ : ∃ T, T = (U.si (S.f o1 2) (upd (S.i (S.f o1 2)) (S.I o1 16).toNatClampNeg y1)).sI o1 16 (S.I o1 16 + (1 : Int32)) := ⟨_, rfl⟩
      have tF : T.F = S.F := by rw [eT]; exact uF
      have tf : ∀ a j, T.f a j = S.f a j := fun a j => by unfold wPS.f; rw [tF]
      have tA : ∀ {x k : Nat}, isA S x k → isA T x k := fun h => by
        unfold isA at h ⊢
        rw [show T.L = S.L by rw [eT]; exact uL, show T.K = S.K by rw [eT]; exact uK, show T.n = S.n by rw [eT]; exact un]; exact h
      have t16 : T.I o1 16 = S.I o1 16 + (1 : Int32) := by rw [eT]; exact sI_eq
      have tb : T.I (S.f o2 6) 2 = S.I (S.f o2 6) 2 + (1 : Int32) := by
        rw [eT, sI_no (fun e => hb1 e.symm)]; exact uI2
      have ti2 : T.i (S.f o1 2) = upd (S.i (S.f o1 2)) (S.I o1 16).toNatClampNeg y1 := by rw [eT]; exact si_qB
      have ti0 : T.i (S.f (S.f o2 6) 0) = U.i (S.f (S.f o2 6) 0) := by rw [eT]; exact si_nB (fun e => n20 e.symm)
      have e1 : (S.I o1 16 + (1 : Int32)).toInt = (S.I o1 16).toInt + 1 := t_addr (n := 1) rfl (by omega)
      have cN : (S.I o1 16 + (1 : Int32)).toNatClampNeg = (S.I o1 16).toNatClampNeg + 1 := by
        have := cl_int (i := S.I o1 16 + (1 : Int32)) (by omega)
        omega
      have mT : RBX o2 T o1 := by
        refine ⟨tA hA2, ⟨by rw [tF, tf]; exact e6, by rw [tf]; exact tA hb⟩, by rw [tf, tf]; exact n34, by rw [tf, tb, t16, mc], ?_⟩
        rw [t16, cN, tf, tf, tf, ti0, ti2]
        exact WB.put mw c hp b1 b2 b3 b4 b5 (fun i hi => by unfold upd; rw [if_neg (by omega)]) (by unfold upd; rw [if_pos rfl])
      have hAT : isA T o1 12 := tA hA
      refine ok (S.I (S.f o2 6) 2 + (1 : Int32)) (T.I o1 16) U (T.sI o1 15 0) ?_ ?_ sI_eq (by rw [t16, mc]) (RBX.sI hAT mT)
      · unfold f_X9_wheel
        rw [eB_ok (rng_ok (by rw [a15, a127]; exact c)), show f_X0_isFull S (S.f o2 6) = 0 from by unfold f_X0_isFull; rw [if_pos (Int32.lt_iff_toInt_lt.mpr (by omega))], if_pos rfl, eU]; rfl
      · have n6 : ¬ U.I o1 16 = (16 : Int32) := fun q => d (by rw [mc, ← u16, q]; exact Int32.le_refl _)
        unfold f_X12_wheel
        rw [li64 (a := 15) (b := 127) rfl rfl c, if_neg (by decide), if_neg n6, l1_r, l1_r, uf, ui2, u16]
        show ((((U.si (S.f o1 2) (upd (S.i (S.f o1 2)) (S.I o1 16).toNatClampNeg y1)).sI o1 16 (U.I o1 16 + (1 : Int32))).I o1 16), ((U.si (S.f o1 2) (upd (S.i (S.f o1 2)) (S.I o1 16).toNatClampNeg y1)).sI o1 16 (U.I o1 16 + (1 : Int32))).sI o1 15 0) = _
        rw [u16, ← eT]
  · refine er "java/lang/IllegalArgumentException" 1 0 ?_ (by decide +kernel) (by decide) ?_
    · unfold f_X9_wheel
      exact eB_er (rng_er (by rw [a15, a127]; exact c))
    · unfold f_X12_wheel
      rw [li64n (a := 15) (b := 127) rfl rfl c, if_pos rfl]; rfl
