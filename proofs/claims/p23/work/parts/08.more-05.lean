def f_X8_compare (S : wPS) (o1 : Nat) (x1 : Int32) (x2 : Int32) : wPS := if (S.I o1 3) = (0 : Int32) then ((S.sI o1 2 x1).sI o1 3 x2).sJ o1 4 (if 0 < ((x1.toInt64 * ((S.I o1 1).toInt64)) - (x2.toInt64 * ((S.I o1 0).toInt64))) then ((x1.toInt64 * ((S.I o1 1).toInt64)) - (x2.toInt64 * ((S.I o1 0).toInt64))) else -((x1.toInt64 * ((S.I o1 1).toInt64)) - (x2.toInt64 * ((S.I o1 0).toInt64)))) else if (lg_cmp ((if 0 < ((x1.toInt64 * ((S.I o1 1).toInt64)) - (x2.toInt64 * ((S.I o1 0).toInt64))) then ((x1.toInt64 * ((S.I o1 1).toInt64)) - (x2.toInt64 * ((S.I o1 0).toInt64))) else -((x1.toInt64 * ((S.I o1 1).toInt64)) - (x2.toInt64 * ((S.I o1 0).toInt64)))) * ((S.I o1 3).toInt64)) ((S.J o1 4) * x2.toInt64)) < (0 : Int32) then ((S.sI o1 2 x1).sI o1 3 x2).sJ o1 4 (if 0 < ((x1.toInt64 * ((S.I o1 1).toInt64)) - (x2.toInt64 * ((S.I o1 0).toInt64))) then ((x1.toInt64 * ((S.I o1 1).toInt64)) - (x2.toInt64 * ((S.I o1 0).toInt64))) else -((x1.toInt64 * ((S.I o1 1).toInt64)) - (x2.toInt64 * ((S.I o1 0).toInt64)))) else if (lg_cmp ((if 0 < ((x1.toInt64 * ((S.I o1 1).toInt64)) - (x2.toInt64 * ((S.I o1 0).toInt64))) then ((x1.toInt64 * ((S.I o1 1).toInt64)) - (x2.toInt64 * ((S.I o1 0).toInt64))) else -((x1.toInt64 * ((S.I o1 1).toInt64)) - (x2.toInt64 * ((S.I o1 0).toInt64)))) * ((S.I o1 3).toInt64)) ((S.J o1 4) * x2.toInt64)) = (0 : Int32) then if (f_X8_comesFirst S o1 x1 x2) = (0 : Int32) then S else ((S.sI o1 2 x1).sI o1 3 x2).sJ o1 4 (if 0 < ((x1.toInt64 * ((S.I o1 1).toInt64)) - (x2.toInt64 * ((S.I o1 0).toInt64))) then ((x1.toInt64 * ((S.I o1 1).toInt64)) - (x2.toInt64 * ((S.I o1 0).toInt64))) else -((x1.toInt64 * ((S.I o1 1).toInt64)) - (x2.toInt64 * ((S.I o1 0).toInt64)))) else S
set_option maxHeartbeats 4000000 in
set_option maxRecDepth 100000 in
theorem c_X8_compare (l : Launch) {D : va_G} {cy : Nat → ClassId} {X : va_W} (S : wPS) (sz : Nat) (o1 : Nat) (h_o1 : ok8 S o1) (x1 : Int32) (x2 : Int32)  : Met l yX8_compare wsX8_compare ({ frames := 3, cells := 0, slots := 0, locals := 62 }) (va_Pc [.ref o1, .int x1, .int x2] (fun U => U.heap.size = sz ∧ WD D cy X (fun _ => True) S U ∧ NW U)) (va_Qv (fun (u : wPS) => u = f_X8_compare S o1 x1 x2 ∧ sh S u) (fun u t => WD D cy X (va_A (X ++ PL cy S) sz) u t) (va_A (X ++ PL cy S) sz)) 0 0 (va_A (X ++ PL cy S) sz) := by
  refine Met.ofW (cc := cX8_compare) (maxL := 9) (ret := none) (by decide) rfl ?_
  intro p e s m args below meth c s₁ B hml hv
  obtain ⟨rfl, hsz, ⟨hP, hK, hD0⟩, hN⟩ := hv
  have hx := B.exec
  have hb := B.bytes
  have hr := B.returns
  have hts := atoms_spec (ws := wsX8_compare) B.pre
  have hown : s.vm.findClass RX8 = some m.cls := findClass_of_methodNamed B.named
  have hlocks := B.notSynchronized
  subst hsz
  have hD := hD0.self (sz := s.heap.size)
  generalize hAe : va_A (X ++ PL cy S) s.heap.size = A at hD ⊢
  have hA : ∀ q : Nat, s.heap.size ≤ q → A q := fun q h => by rw [← hAe]; exact Or.inr h
  have hS : va_S A s.heap s.heap [] := va_S.rf
  have hl := lv_entry ([.ref o1, .int x1, .int x2]) (n := 9) (Nat.le_of_ble_eq_true rfl)
  rw [lg_entry_eq]
  generalize (lg_sl ([.ref o1, .int x1, .int x2]) ++ List.replicate (9 - (lg_sl ([.ref o1, .int x1, .int x2])).length) Slot.unset).toArray = ls at hl ⊢
  have hl : lv_has ls 9 [(0, .ref o1), (1, .int x1), (2, .int x2)] := hl
  refine lv_iload_n hx hb dX8_compare_0 rfl (lv_at hl 1 rfl) ?_
  refine lv_i2l hx hb dX8_compare_1 rfl ?_
  refine lv_aload_n hx hb dX8_compare_2 rfl (lv_at hl 0 rfl) ?_
  obtain ⟨k1, gk1, hk1⟩ := wGt (cy := cy) X S h_o1.1.1 h_o1.1.2.1
  refine va_get (D := D) (ci := 12) (v := .int (S.I o1 1)) (C := RX8) (T := TX8) (N := 5) hx hb hts (by decide +kernel) hown hK hP k1 hk1 rfl 1 (by decide) (hts (.fieldLink RX8 13 "Hobhouse$Train" "down" "I") (by decide +kernel)) (fun _ h9 => h9) rfl dX8_compare_3 ?_
  refine lv_i2l hx hb dX8_compare_6 rfl ?_
  refine lv_lmul hx hb dX8_compare_7 ?_
  refine lv_iload_n hx hb dX8_compare_8 rfl (lv_at hl 2 rfl) ?_
  refine lv_i2l hx hb dX8_compare_9 rfl ?_
  refine lv_aload_n hx hb dX8_compare_10 rfl (lv_at hl 0 rfl) ?_
  obtain ⟨k2, gk2, hk2⟩ := wGt (cy := cy) X S h_o1.1.1 h_o1.1.2.1
  refine va_get (D := D) (ci := 12) (v := .int (S.I o1 0)) (C := RX8) (T := TX8) (N := 5) hx hb hts (by decide +kernel) hown hK hP k2 hk2 rfl 0 (by decide) (hts (.fieldLink RX8 7 "Hobhouse$Train" "up" "I") (by decide +kernel)) (fun _ h9 => h9) rfl dX8_compare_11 ?_
  refine lv_i2l hx hb dX8_compare_14 rfl ?_
  refine lv_lmul hx hb dX8_compare_15 ?_
  refine lv_lsub hx hb dX8_compare_16 ?_
  refine va_mabs_long hx hb (hml.trans hl.1.symm) hown (hts (.methodLink RX8 32 Lib.MathLoose.abs_long.x) (by decide +kernel)) (hts (.static Lib.MathLoose.abs_long.x) (by decide +kernel)) (hts (.initialized "java/lang/Math") (by decide +kernel)) (hts (.code Lib.MathLoose.abs_long.x Lib.MathLoose.abs_long.code 2 (some .long)) (by decide +kernel)) (Nat.le_of_ble_eq_true rfl) (Nat.le_of_ble_eq_true rfl) (Nat.zero_le _) (Nat.zero_le _) dX8_compare_17 ?_
  refine lv_lstore_n (lv' := [(3, .long (if 0 < ((x1.toInt64 * ((S.I o1 1).toInt64)) - (x2.toInt64 * ((S.I o1 0).toInt64))) then ((x1.toInt64 * ((S.I o1 1).toInt64)) - (x2.toInt64 * ((S.I o1 0).toInt64))) else -((x1.toInt64 * ((S.I o1 1).toInt64)) - (x2.toInt64 * ((S.I o1 0).toInt64))))), (0, .ref o1), (1, .int x1), (2, .int x2)]) hx hb dX8_compare_20 rfl hl (by decide) rfl (fun ls hl => ?_)
  refine lv_lload_n hx hb dX8_compare_21 rfl (lv_at hl 0 rfl) ?_
  refine lv_aload_n hx hb dX8_compare_22 rfl (lv_at hl 1 rfl) ?_
  obtain ⟨k3, gk3, hk3⟩ := wGt (cy := cy) X S h_o1.1.1 h_o1.1.2.1
  refine va_get (D := D) (ci := 12) (v := .int (S.I o1 3)) (C := RX8) (T := TX8) (N := 5) hx hb hts (by decide +kernel) hown hK hP k3 hk3 rfl 3 (by decide) (hts (.fieldLink RX8 36 "Hobhouse$Train" "second" "I") (by decide +kernel)) (fun _ h9 => h9) rfl dX8_compare_23 ?_
  refine lv_i2l hx hb dX8_compare_26 rfl ?_
  refine lv_lmul hx hb dX8_compare_27 ?_
  refine lv_lstore (lv' := [(5, .long ((if 0 < ((x1.toInt64 * ((S.I o1 1).toInt64)) - (x2.toInt64 * ((S.I o1 0).toInt64))) then ((x1.toInt64 * ((S.I o1 1).toInt64)) - (x2.toInt64 * ((S.I o1 0).toInt64))) else -((x1.toInt64 * ((S.I o1 1).toInt64)) - (x2.toInt64 * ((S.I o1 0).toInt64)))) * ((S.I o1 3).toInt64))), (3, .long (if 0 < ((x1.toInt64 * ((S.I o1 1).toInt64)) - (x2.toInt64 * ((S.I o1 0).toInt64))) then ((x1.toInt64 * ((S.I o1 1).toInt64)) - (x2.toInt64 * ((S.I o1 0).toInt64))) else -((x1.toInt64 * ((S.I o1 1).toInt64)) - (x2.toInt64 * ((S.I o1 0).toInt64))))), (0, .ref o1), (1, .int x1), (2, .int x2)]) hx hb dX8_compare_28 hl (by decide) rfl (fun ls hl => ?_)
  refine lv_aload_n hx hb dX8_compare_30 rfl (lv_at hl 2 rfl) ?_
  obtain ⟨k4, gk4, hk4⟩ := wGt (cy := cy) X S h_o1.1.1 h_o1.1.2.1
  refine va_get (D := D) (ci := 12) (v := .long (S.J o1 4)) (C := RX8) (T := TX8) (N := 5) hx hb hts (by decide +kernel) hown hK hP k4 hk4 rfl 4 (by decide) (hts (.fieldLink RX8 39 "Hobhouse$Train" "leastError" "J") (by decide +kernel)) (fun _ h9 => h9) rfl dX8_compare_31 ?_
  refine lv_iload_n hx hb dX8_compare_34 rfl (lv_at hl 4 rfl) ?_
  refine lv_i2l hx hb dX8_compare_35 rfl ?_
  refine lv_lmul hx hb dX8_compare_36 ?_
  refine lv_lstore (lv' := [(7, .long ((S.J o1 4) * x2.toInt64)), (5, .long ((if 0 < ((x1.toInt64 * ((S.I o1 1).toInt64)) - (x2.toInt64 * ((S.I o1 0).toInt64))) then ((x1.toInt64 * ((S.I o1 1).toInt64)) - (x2.toInt64 * ((S.I o1 0).toInt64))) else -((x1.toInt64 * ((S.I o1 1).toInt64)) - (x2.toInt64 * ((S.I o1 0).toInt64)))) * ((S.I o1 3).toInt64))), (3, .long (if 0 < ((x1.toInt64 * ((S.I o1 1).toInt64)) - (x2.toInt64 * ((S.I o1 0).toInt64))) then ((x1.toInt64 * ((S.I o1 1).toInt64)) - (x2.toInt64 * ((S.I o1 0).toInt64))) else -((x1.toInt64 * ((S.I o1 1).toInt64)) - (x2.toInt64 * ((S.I o1 0).toInt64))))), (0, .ref o1), (1, .int x1), (2, .int x2)]) hx hb dX8_compare_37 hl (by decide) rfl (fun ls hl => ?_)
  refine lv_aload_n hx hb dX8_compare_39 rfl (lv_at hl 3 rfl) ?_
  obtain ⟨k5, gk5, hk5⟩ := wGt (cy := cy) X S h_o1.1.1 h_o1.1.2.1
  refine va_get (D := D) (ci := 12) (v := .int (S.I o1 3)) (C := RX8) (T := TX8) (N := 5) hx hb hts (by decide +kernel) hown hK hP k5 hk5 rfl 3 (by decide) (hts (.fieldLink RX8 36 "Hobhouse$Train" "second" "I") (by decide +kernel)) (fun _ h9 => h9) rfl dX8_compare_40 ?_
  refine lv_if_eq (tgt := 71) hx hb dX8_compare_43 (by decide) (fun c6 => ?_) (fun c6 => ?_)
  · refine lv_aload_n hx hb dX8_compare_71 rfl (lv_at hl 3 rfl) ?_
    refine lv_iload_n hx hb dX8_compare_72 rfl (lv_at hl 4 rfl) ?_
    obtain ⟨k7, gk7, hk7⟩ := wGt (cy := cy) X S h_o1.1.1 h_o1.1.2.1
    refine va_put (D := D) (ci := 12) (v := .int x1) (ty := .int) (C := RX8) (T := TX8) (N := 5) hx hb hts (by decide +kernel) tyX8 tyX8_ok nmX8 hown hK hP hD hS k7 hk7 rfl 2 (by decide) (hts (.fieldLink RX8 47 "Hobhouse$Train" "first" "I") (by decide +kernel)) (fun _ h9 => h9) rfl (by decide +kernel) (rfl) (rfl) (Nat.le_of_ble_eq_true rfl) dX8_compare_73 (fun H locs hP2 hD2 hS => ?_)
    have e9 := wPuI (cy := cy) (j := 2) (v := x1) hD h_o1.1.1 h_o1.1.2.1 gk7 rfl
    have hP : va_P D vwCl (X ++ PL cy (S.sI o1 2 x1)) H := by rw [← e9]; exact hP2
    have hD : va_D A (X ++ PL cy (S.sI o1 2 x1)) := by rw [← e9]; exact hD2
    refine lv_aload_n hx hb dX8_compare_76 rfl (lv_at hl 3 rfl) ?_
    refine lv_iload_n hx hb dX8_compare_77 rfl (lv_at hl 5 rfl) ?_
    obtain ⟨k8, gk8, hk8⟩ := wGt (cy := cy) X (S.sI o1 2 x1) (((sh.rf S).I o1 2 x1).L h_o1.1.1) (((sh.rf S).I o1 2 x1).K h_o1.1.2.1)
    refine va_put (D := D) (ci := 12) (v := .int x2) (ty := .int) (C := RX8) (T := TX8) (N := 5) hx hb hts (by decide +kernel) tyX8 tyX8_ok nmX8 hown hK hP hD hS k8 hk8 rfl 3 (by decide) (hts (.fieldLink RX8 36 "Hobhouse$Train" "second" "I") (by decide +kernel)) (fun _ h9 => h9) rfl (by decide +kernel) (rfl) (rfl) (Nat.le_of_ble_eq_true rfl) dX8_compare_78 (fun H locs hP2 hD2 hS => ?_)
    have e9 := wPuI (cy := cy) (j := 3) (v := x2) hD (((sh.rf S).I o1 2 x1).L h_o1.1.1) (((sh.rf S).I o1 2 x1).K h_o1.1.2.1) gk8 rfl
    have hP : va_P D vwCl (X ++ PL cy ((S.sI o1 2 x1).sI o1 3 x2)) H := by rw [← e9]; exact hP2
    have hD : va_D A (X ++ PL cy ((S.sI o1 2 x1).sI o1 3 x2)) := by rw [← e9]; exact hD2
    refine lv_aload_n hx hb dX8_compare_81 rfl (lv_at hl 3 rfl) ?_
    refine lv_lload_n hx hb dX8_compare_82 rfl (lv_at hl 2 rfl) ?_
    obtain ⟨k9, gk9, hk9⟩ := wGt (cy := cy) X ((S.sI o1 2 x1).sI o1 3 x2) ((((sh.rf S).I o1 2 x1).I o1 3 x2).L h_o1.1.1) ((((sh.rf S).I o1 2 x1).I o1 3 x2).K h_o1.1.2.1)
    refine va_put (D := D) (ci := 12) (v := .long (if 0 < ((x1.toInt64 * ((S.I o1 1).toInt64)) - (x2.toInt64 * ((S.I o1 0).toInt64))) then ((x1.toInt64 * ((S.I o1 1).toInt64)) - (x2.toInt64 * ((S.I o1 0).toInt64))) else -((x1.toInt64 * ((S.I o1 1).toInt64)) - (x2.toInt64 * ((S.I o1 0).toInt64))))) (ty := .long) (C := RX8) (T := TX8) (N := 5) hx hb hts (by decide +kernel) tyX8 tyX8_ok nmX8 hown hK hP hD hS k9 hk9 rfl 4 (by decide) (hts (.fieldLink RX8 39 "Hobhouse$Train" "leastError" "J") (by decide +kernel)) (fun _ h9 => h9) rfl (by decide +kernel) (rfl) (rfl) (Nat.le_of_ble_eq_true rfl) dX8_compare_83 (fun H locs hP2 hD2 hS => ?_)
    have e9 := wPuJ (cy := cy) (j := 4) (v := (if 0 < ((x1.toInt64 * ((S.I o1 1).toInt64)) - (x2.toInt64 * ((S.I o1 0).toInt64))) then ((x1.toInt64 * ((S.I o1 1).toInt64)) - (x2.toInt64 * ((S.I o1 0).toInt64))) else -((x1.toInt64 * ((S.I o1 1).toInt64)) - (x2.toInt64 * ((S.I o1 0).toInt64))))) hD ((((sh.rf S).I o1 2 x1).I o1 3 x2).L h_o1.1.1) ((((sh.rf S).I o1 2 x1).I o1 3 x2).K h_o1.1.2.1) gk9 rfl
    have hP : va_P D vwCl (X ++ PL cy (((S.sI o1 2 x1).sI o1 3 x2).sJ o1 4 (if 0 < ((x1.toInt64 * ((S.I o1 1).toInt64)) - (x2.toInt64 * ((S.I o1 0).toInt64))) then ((x1.toInt64 * ((S.I o1 1).toInt64)) - (x2.toInt64 * ((S.I o1 0).toInt64))) else -((x1.toInt64 * ((S.I o1 1).toInt64)) - (x2.toInt64 * ((S.I o1 0).toInt64)))))) H := by rw [← e9]; exact hP2
    have hD : va_D A (X ++ PL cy (((S.sI o1 2 x1).sI o1 3 x2).sJ o1 4 (if 0 < ((x1.toInt64 * ((S.I o1 1).toInt64)) - (x2.toInt64 * ((S.I o1 0).toInt64))) then ((x1.toInt64 * ((S.I o1 1).toInt64)) - (x2.toInt64 * ((S.I o1 0).toInt64))) else -((x1.toInt64 * ((S.I o1 1).toInt64)) - (x2.toInt64 * ((S.I o1 0).toInt64)))))) := by rw [← e9]; exact hD2
    exact W.vret hx hb hr (fun t ht hW => ⟨⟨((S.sI o1 2 x1).sI o1 3 x2).sJ o1 4 (if 0 < ((x1.toInt64 * ((S.I o1 1).toInt64)) - (x2.toInt64 * ((S.I o1 0).toInt64))) then ((x1.toInt64 * ((S.I o1 1).toInt64)) - (x2.toInt64 * ((S.I o1 0).toInt64))) else -((x1.toInt64 * ((S.I o1 1).toInt64)) - (x2.toInt64 * ((S.I o1 0).toInt64)))), rfl, (⟨(by show (((S.sI o1 2 x1).sI o1 3 x2).sJ o1 4 (if 0 < ((x1.toInt64 * ((S.I o1 1).toInt64)) - (x2.toInt64 * ((S.I o1 0).toInt64))) then ((x1.toInt64 * ((S.I o1 1).toInt64)) - (x2.toInt64 * ((S.I o1 0).toInt64))) else -((x1.toInt64 * ((S.I o1 1).toInt64)) - (x2.toInt64 * ((S.I o1 0).toInt64))))) = f_X8_compare S o1 x1 x2; unfold f_X8_compare; rw [if_pos c6]), ((((sh.rf S).I o1 2 x1).I o1 3 x2).J o1 4 (if 0 < ((x1.toInt64 * ((S.I o1 1).toInt64)) - (x2.toInt64 * ((S.I o1 0).toInt64))) then ((x1.toInt64 * ((S.I o1 1).toInt64)) - (x2.toInt64 * ((S.I o1 0).toInt64))) else -((x1.toInt64 * ((S.I o1 1).toInt64)) - (x2.toInt64 * ((S.I o1 0).toInt64)))))⟩), wd_end hP hK hD ht hW.alike⟩, hS.F ht⟩) hS.2.2 dX8_compare_86 hlocks
  · refine lv_lload hx hb dX8_compare_46 (lv_at hl 1 rfl) ?_
    refine lv_lload hx hb dX8_compare_48 (lv_at hl 0 rfl) ?_
    refine W.lcmp hx hb dX8_compare_50 ?_
    refine lv_if_lt (tgt := 71) hx hb dX8_compare_51 (by decide) (fun c10 => ?_) (fun c10 => ?_)
    · refine lv_aload_n hx hb dX8_compare_71 rfl (lv_at hl 3 rfl) ?_
      refine lv_iload_n hx hb dX8_compare_72 rfl (lv_at hl 4 rfl) ?_
      obtain ⟨k11, gk11, hk11⟩ := wGt (cy := cy) X S h_o1.1.1 h_o1.1.2.1
      refine va_put (D := D) (ci := 12) (v := .int x1) (ty := .int) (C := RX8) (T := TX8) (N := 5) hx hb hts (by decide +kernel) tyX8 tyX8_ok nmX8 hown hK hP hD hS k11 hk11 rfl 2 (by decide) (hts (.fieldLink RX8 47 "Hobhouse$Train" "first" "I") (by decide +kernel)) (fun _ h9 => h9) rfl (by decide +kernel) (rfl) (rfl) (Nat.le_of_ble_eq_true rfl) dX8_compare_73 (fun H locs hP2 hD2 hS => ?_)
      have e9 := wPuI (cy := cy) (j := 2) (v := x1) hD h_o1.1.1 h_o1.1.2.1 gk11 rfl
      have hP : va_P D vwCl (X ++ PL cy (S.sI o1 2 x1)) H := by rw [← e9]; exact hP2
      have hD : va_D A (X ++ PL cy (S.sI o1 2 x1)) := by rw [← e9]; exact hD2
      refine lv_aload_n hx hb dX8_compare_76 rfl (lv_at hl 3 rfl) ?_
      refine lv_iload_n hx hb dX8_compare_77 rfl (lv_at hl 5 rfl) ?_
      obtain ⟨k12, gk12, hk12⟩ := wGt (cy := cy) X (S.sI o1 2 x1) (((sh.rf S).I o1 2 x1).L h_o1.1.1) (((sh.rf S).I o1 2 x1).K h_o1.1.2.1)
      refine va_put (D := D) (ci := 12) (v := .int x2) (ty := .int) (C := RX8) (T := TX8) (N := 5) hx hb hts (by decide +kernel) tyX8 tyX8_ok nmX8 hown hK hP hD hS k12 hk12 rfl 3 (by decide) (hts (.fieldLink RX8 36 "Hobhouse$Train" "second" "I") (by decide +kernel)) (fun _ h9 => h9) rfl (by decide +kernel) (rfl) (rfl) (Nat.le_of_ble_eq_true rfl) dX8_compare_78 (fun H locs hP2 hD2 hS => ?_)
      have e9 := wPuI (cy := cy) (j := 3) (v := x2) hD (((sh.rf S).I o1 2 x1).L h_o1.1.1) (((sh.rf S).I o1 2 x1).K h_o1.1.2.1) gk12 rfl
      have hP : va_P D vwCl (X ++ PL cy ((S.sI o1 2 x1).sI o1 3 x2)) H := by rw [← e9]; exact hP2
      have hD : va_D A (X ++ PL cy ((S.sI o1 2 x1).sI o1 3 x2)) := by rw [← e9]; exact hD2
      refine lv_aload_n hx hb dX8_compare_81 rfl (lv_at hl 3 rfl) ?_
      refine lv_lload_n hx hb dX8_compare_82 rfl (lv_at hl 2 rfl) ?_
      obtain ⟨k13, gk13, hk13⟩ := wGt (cy := cy) X ((S.sI o1 2 x1).sI o1 3 x2) ((((sh.rf S).I o1 2 x1).I o1 3 x2).L h_o1.1.1) ((((sh.rf S).I o1 2 x1).I o1 3 x2).K h_o1.1.2.1)
      refine va_put (D := D) (ci := 12) (v := .long (if 0 < ((x1.toInt64 * ((S.I o1 1).toInt64)) - (x2.toInt64 * ((S.I o1 0).toInt64))) then ((x1.toInt64 * ((S.I o1 1).toInt64)) - (x2.toInt64 * ((S.I o1 0).toInt64))) else -((x1.toInt64 * ((S.I o1 1).toInt64)) - (x2.toInt64 * ((S.I o1 0).toInt64))))) (ty := .long) (C := RX8) (T := TX8) (N := 5) hx hb hts (by decide +kernel) tyX8 tyX8_ok nmX8 hown hK hP hD hS k13 hk13 rfl 4 (by decide) (hts (.fieldLink RX8 39 "Hobhouse$Train" "leastError" "J") (by decide +kernel)) (fun _ h9 => h9) rfl (by decide +kernel) (rfl) (rfl) (Nat.le_of_ble_eq_true rfl) dX8_compare_83 (fun H locs hP2 hD2 hS => ?_)
      have e9 := wPuJ (cy := cy) (j := 4) (v := (if 0 < ((x1.toInt64 * ((S.I o1 1).toInt64)) - (x2.toInt64 * ((S.I o1 0).toInt64))) then ((x1.toInt64 * ((S.I o1 1).toInt64)) - (x2.toInt64 * ((S.I o1 0).toInt64))) else -((x1.toInt64 * ((S.I o1 1).toInt64)) - (x2.toInt64 * ((S.I o1 0).toInt64))))) hD ((((sh.rf S).I o1 2 x1).I o1 3 x2).L h_o1.1.1) ((((sh.rf S).I o1 2 x1).I o1 3 x2).K h_o1.1.2.1) gk13 rfl
      have hP : va_P D vwCl (X ++ PL cy (((S.sI o1 2 x1).sI o1 3 x2).sJ o1 4 (if 0 < ((x1.toInt64 * ((S.I o1 1).toInt64)) - (x2.toInt64 * ((S.I o1 0).toInt64))) then ((x1.toInt64 * ((S.I o1 1).toInt64)) - (x2.toInt64 * ((S.I o1 0).toInt64))) else -((x1.toInt64 * ((S.I o1 1).toInt64)) - (x2.toInt64 * ((S.I o1 0).toInt64)))))) H := by rw [← e9]; exact hP2
      have hD : va_D A (X ++ PL cy (((S.sI o1 2 x1).sI o1 3 x2).sJ o1 4 (if 0 < ((x1.toInt64 * ((S.I o1 1).toInt64)) - (x2.toInt64 * ((S.I o1 0).toInt64))) then ((x1.toInt64 * ((S.I o1 1).toInt64)) - (x2.toInt64 * ((S.I o1 0).toInt64))) else -((x1.toInt64 * ((S.I o1 1).toInt64)) - (x2.toInt64 * ((S.I o1 0).toInt64)))))) := by rw [← e9]; exact hD2
      exact W.vret hx hb hr (fun t ht hW => ⟨⟨((S.sI o1 2 x1).sI o1 3 x2).sJ o1 4 (if 0 < ((x1.toInt64 * ((S.I o1 1).toInt64)) - (x2.toInt64 * ((S.I o1 0).toInt64))) then ((x1.toInt64 * ((S.I o1 1).toInt64)) - (x2.toInt64 * ((S.I o1 0).toInt64))) else -((x1.toInt64 * ((S.I o1 1).toInt64)) - (x2.toInt64 * ((S.I o1 0).toInt64)))), rfl, (⟨(by show (((S.sI o1 2 x1).sI o1 3 x2).sJ o1 4 (if 0 < ((x1.toInt64 * ((S.I o1 1).toInt64)) - (x2.toInt64 * ((S.I o1 0).toInt64))) then ((x1.toInt64 * ((S.I o1 1).toInt64)) - (x2.toInt64 * ((S.I o1 0).toInt64))) else -((x1.toInt64 * ((S.I o1 1).toInt64)) - (x2.toInt64 * ((S.I o1 0).toInt64))))) = f_X8_compare S o1 x1 x2; unfold f_X8_compare; rw [if_neg c6, if_pos c10]), ((((sh.rf S).I o1 2 x1).I o1 3 x2).J o1 4 (if 0 < ((x1.toInt64 * ((S.I o1 1).toInt64)) - (x2.toInt64 * ((S.I o1 0).toInt64))) then ((x1.toInt64 * ((S.I o1 1).toInt64)) - (x2.toInt64 * ((S.I o1 0).toInt64))) else -((x1.toInt64 * ((S.I o1 1).toInt64)) - (x2.toInt64 * ((S.I o1 0).toInt64)))))⟩), wd_end hP hK hD ht hW.alike⟩, hS.F ht⟩) hS.2.2 dX8_compare_86 hlocks
    · refine lv_lload hx hb dX8_compare_54 (lv_at hl 1 rfl) ?_
      refine lv_lload hx hb dX8_compare_56 (lv_at hl 0 rfl) ?_
      refine W.lcmp hx hb dX8_compare_58 ?_
      refine lv_if_ne (tgt := 86) hx hb dX8_compare_59 (by decide) (fun c14 => ?_) (fun c14 => ?_)
      · exact W.vret hx hb hr (fun t ht hW => ⟨⟨S, rfl, (⟨(by show S = f_X8_compare S o1 x1 x2; unfold f_X8_compare; rw [if_neg c6, if_neg c10, if_neg c14]), (sh.rf S)⟩), wd_end hP hK hD ht hW.alike⟩, hS.F ht⟩) hS.2.2 dX8_compare_86 hlocks
      · refine lv_aload_n hx hb dX8_compare_62 rfl (lv_at hl 3 rfl) ?_
        refine lv_iload_n hx hb dX8_compare_63 rfl (lv_at hl 4 rfl) ?_
        refine lv_iload_n hx hb dX8_compare_64 rfl (lv_at hl 5 rfl) ?_
        have hFc := free_all hD hS hA
        obtain ⟨k15, gk15, hk15⟩ := wGt (cy := cy) X S h_o1.1.1 h_o1.1.2.1
        refine va_calli (va_runV (As := [.int x1, .int x2]) (rest := []) ⟨hx, hb, hml, hown, hts⟩ (c_X8_comesFirst l (cy := cy) (X := X) (D := D) S _ o1 h_o1 x1 x2) (cwV 2 hts gX8_compare_X8_comesFirst rfl rfl rfl (by decide +kernel) ⟨Nat.le_of_ble_eq_true rfl, Nat.le_of_ble_eq_true rfl⟩) ⟨fun a U g mk q => ⟨q.1, q.2.1, q.2.2.1.calling, NW.same (u := U) (U := U.calling g mk a) rfl q.2.2.2⟩, va_recv hK hP (ci := 12) (q0 := k15) rfl hk15, fun U hU hW => ⟨rfl, by rw [hU], wd_pre hP hK hD hU hW, hN.warm hW⟩⟩ rfl rfl hl.1 rfl (lv_room (Nat.le_of_ble_eq_true rfl)) dX8_compare_65 ⟨(Nat.zero_le _), (Nat.zero_le _)⟩) hS (fun q _ h => hFc q h) hFc (fun r16 u t H1 locs ht hvm hw hB hz1 hk1 hS => ?_)
        obtain ⟨hP, hD⟩ := wd_post hFc ht hB
        generalize H1 = H at hP hS ⊢
        obtain rfl : r16 = f_X8_comesFirst S o1 x1 x2 := hw
        refine lv_if_eq (tgt := 86) hx hb dX8_compare_68 (by decide) (fun c17 => ?_) (fun c17 => ?_)
        · exact W.vret hx hb hr (fun t ht hW => ⟨⟨S, rfl, (⟨(by show S = f_X8_compare S o1 x1 x2; unfold f_X8_compare; rw [if_neg c6, if_neg c10, if_pos c14, if_pos c17]), (sh.rf S)⟩), wd_end hP hK hD ht hW.alike⟩, hS.F ht⟩) hS.2.2 dX8_compare_86 hlocks
        · refine lv_aload_n hx hb dX8_compare_71 rfl (lv_at hl 3 rfl) ?_
          refine lv_iload_n hx hb dX8_compare_72 rfl (lv_at hl 4 rfl) ?_
          obtain ⟨k18, gk18, hk18⟩ := wGt (cy := cy) X S h_o1.1.1 h_o1.1.2.1
          refine va_put (D := D) (ci := 12) (v := .int x1) (ty := .int) (C := RX8) (T := TX8) (N := 5) hx hb hts (by decide +kernel) tyX8 tyX8_ok nmX8 hown hK hP hD hS k18 hk18 rfl 2 (by decide) (hts (.fieldLink RX8 47 "Hobhouse$Train" "first" "I") (by decide +kernel)) (fun _ h9 => h9) rfl (by decide +kernel) (rfl) (rfl) (Nat.le_of_ble_eq_true rfl) dX8_compare_73 (fun H locs hP2 hD2 hS => ?_)
          have e9 := wPuI (cy := cy) (j := 2) (v := x1) hD h_o1.1.1 h_o1.1.2.1 gk18 rfl
          have hP : va_P D vwCl (X ++ PL cy (S.sI o1 2 x1)) H := by rw [← e9]; exact hP2
          have hD : va_D A (X ++ PL cy (S.sI o1 2 x1)) := by rw [← e9]; exact hD2
          refine lv_aload_n hx hb dX8_compare_76 rfl (lv_at hl 3 rfl) ?_
          refine lv_iload_n hx hb dX8_compare_77 rfl (lv_at hl 5 rfl) ?_
          obtain ⟨k19, gk19, hk19⟩ := wGt (cy := cy) X (S.sI o1 2 x1) (((sh.rf S).I o1 2 x1).L h_o1.1.1) (((sh.rf S).I o1 2 x1).K h_o1.1.2.1)
          refine va_put (D := D) (ci := 12) (v := .int x2) (ty := .int) (C := RX8) (T := TX8) (N := 5) hx hb hts (by decide +kernel) tyX8 tyX8_ok nmX8 hown hK hP hD hS k19 hk19 rfl 3 (by decide) (hts (.fieldLink RX8 36 "Hobhouse$Train" "second" "I") (by decide +kernel)) (fun _ h9 => h9) rfl (by decide +kernel) (rfl) (rfl) (Nat.le_of_ble_eq_true rfl) dX8_compare_78 (fun H locs hP2 hD2 hS => ?_)
          have e9 := wPuI (cy := cy) (j := 3) (v := x2) hD (((sh.rf S).I o1 2 x1).L h_o1.1.1) (((sh.rf S).I o1 2 x1).K h_o1.1.2.1) gk19 rfl
          have hP : va_P D vwCl (X ++ PL cy ((S.sI o1 2 x1).sI o1 3 x2)) H := by rw [← e9]; exact hP2
          have hD : va_D A (X ++ PL cy ((S.sI o1 2 x1).sI o1 3 x2)) := by rw [← e9]; exact hD2
          refine lv_aload_n hx hb dX8_compare_81 rfl (lv_at hl 3 rfl) ?_
          refine lv_lload_n hx hb dX8_compare_82 rfl (lv_at hl 2 rfl) ?_
          obtain ⟨k20, gk20, hk20⟩ := wGt (cy := cy) X ((S.sI o1 2 x1).sI o1 3 x2) ((((sh.rf S).I o1 2 x1).I o1 3 x2).L h_o1.1.1) ((((sh.rf S).I o1 2 x1).I o1 3 x2).K h_o1.1.2.1)
          refine va_put (D := D) (ci := 12) (v := .long (if 0 < ((x1.toInt64 * ((S.I o1 1).toInt64)) - (x2.toInt64 * ((S.I o1 0).toInt64))) then ((x1.toInt64 * ((S.I o1 1).toInt64)) - (x2.toInt64 * ((S.I o1 0).toInt64))) else -((x1.toInt64 * ((S.I o1 1).toInt64)) - (x2.toInt64 * ((S.I o1 0).toInt64))))) (ty := .long) (C := RX8) (T := TX8) (N := 5) hx hb hts (by decide +kernel) tyX8 tyX8_ok nmX8 hown hK hP hD hS k20 hk20 rfl 4 (by decide) (hts (.fieldLink RX8 39 "Hobhouse$Train" "leastError" "J") (by decide +kernel)) (fun _ h9 => h9) rfl (by decide +kernel) (rfl) (rfl) (Nat.le_of_ble_eq_true rfl) dX8_compare_83 (fun H locs hP2 hD2 hS => ?_)
          have e9 := wPuJ (cy := cy) (j := 4) (v := (if 0 < ((x1.toInt64 * ((S.I o1 1).toInt64)) - (x2.toInt64 * ((S.I o1 0).toInt64))) then ((x1.toInt64 * ((S.I o1 1).toInt64)) - (x2.toInt64 * ((S.I o1 0).toInt64))) else -((x1.toInt64 * ((S.I o1 1).toInt64)) - (x2.toInt64 * ((S.I o1 0).toInt64))))) hD ((((sh.rf S).I o1 2 x1).I o1 3 x2).L h_o1.1.1) ((((sh.rf S).I o1 2 x1).I o1 3 x2).K h_o1.1.2.1) gk20 rfl
          have hP : va_P D vwCl (X ++ PL cy (((S.sI o1 2 x1).sI o1 3 x2).sJ o1 4 (if 0 < ((x1.toInt64 * ((S.I o1 1).toInt64)) - (x2.toInt64 * ((S.I o1 0).toInt64))) then ((x1.toInt64 * ((S.I o1 1).toInt64)) - (x2.toInt64 * ((S.I o1 0).toInt64))) else -((x1.toInt64 * ((S.I o1 1).toInt64)) - (x2.toInt64 * ((S.I o1 0).toInt64)))))) H := by rw [← e9]; exact hP2
          have hD : va_D A (X ++ PL cy (((S.sI o1 2 x1).sI o1 3 x2).sJ o1 4 (if 0 < ((x1.toInt64 * ((S.I o1 1).toInt64)) - (x2.toInt64 * ((S.I o1 0).toInt64))) then ((x1.toInt64 * ((S.I o1 1).toInt64)) - (x2.toInt64 * ((S.I o1 0).toInt64))) else -((x1.toInt64 * ((S.I o1 1).toInt64)) - (x2.toInt64 * ((S.I o1 0).toInt64)))))) := by rw [← e9]; exact hD2
          exact W.vret hx hb hr (fun t ht hW => ⟨⟨((S.sI o1 2 x1).sI o1 3 x2).sJ o1 4 (if 0 < ((x1.toInt64 * ((S.I o1 1).toInt64)) - (x2.toInt64 * ((S.I o1 0).toInt64))) then ((x1.toInt64 * ((S.I o1 1).toInt64)) - (x2.toInt64 * ((S.I o1 0).toInt64))) else -((x1.toInt64 * ((S.I o1 1).toInt64)) - (x2.toInt64 * ((S.I o1 0).toInt64)))), rfl, (⟨(by show (((S.sI o1 2 x1).sI o1 3 x2).sJ o1 4 (if 0 < ((x1.toInt64 * ((S.I o1 1).toInt64)) - (x2.toInt64 * ((S.I o1 0).toInt64))) then ((x1.toInt64 * ((S.I o1 1).toInt64)) - (x2.toInt64 * ((S.I o1 0).toInt64))) else -((x1.toInt64 * ((S.I o1 1).toInt64)) - (x2.toInt64 * ((S.I o1 0).toInt64))))) = f_X8_compare S o1 x1 x2; unfold f_X8_compare; rw [if_neg c6, if_neg c10, if_pos c14, if_neg c17]), ((((sh.rf S).I o1 2 x1).I o1 3 x2).J o1 4 (if 0 < ((x1.toInt64 * ((S.I o1 1).toInt64)) - (x2.toInt64 * ((S.I o1 0).toInt64))) then ((x1.toInt64 * ((S.I o1 1).toInt64)) - (x2.toInt64 * ((S.I o1 0).toInt64))) else -((x1.toInt64 * ((S.I o1 1).toInt64)) - (x2.toInt64 * ((S.I o1 0).toInt64)))))⟩), wd_end hP hK hD ht hW.alike⟩, hS.F ht⟩) hS.2.2 dX8_compare_86 hlocks
