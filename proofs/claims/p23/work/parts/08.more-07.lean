def f_X5_compare (S : wPS) (o1 : Nat) (x1 : Int32) (x2 : Int32) : wPS := if (f_X9_tipOf (S.I o1 0) x1 x2) < (S.I o1 1) then if (0 : Int32) = (0 : Int32) then S else if (S.I o1 5) ≤ (f_X9_tipOf (S.I o1 0) x1 x2) then S else ((S.sI o1 5 (f_X9_tipOf (S.I o1 0) x1 x2)).sI o1 3 x1).sI o1 4 x2 else if (S.I o1 2) < ((f_X9_tipOf (S.I o1 0) x1 x2) - (S.I o1 1)) then if (0 : Int32) = (0 : Int32) then S else if (S.I o1 5) ≤ (f_X9_tipOf (S.I o1 0) x1 x2) then S else ((S.sI o1 5 (f_X9_tipOf (S.I o1 0) x1 x2)).sI o1 3 x1).sI o1 4 x2 else if (1 : Int32) = (0 : Int32) then S else if (S.I o1 5) ≤ (f_X9_tipOf (S.I o1 0) x1 x2) then S else ((S.sI o1 5 (f_X9_tipOf (S.I o1 0) x1 x2)).sI o1 3 x1).sI o1 4 x2
set_option maxHeartbeats 4000000 in
set_option maxRecDepth 100000 in
theorem c_X5_compare (l : Launch) {D : va_G} {cy : Nat → ClassId} {X : va_W} (S : wPS) (sz : Nat) (o1 : Nat) (h_o1 : ok5 S o1) (x1 : Int32) (x2 : Int32)  : Met l yX5_compare wsX5_compare ({ frames := 1, cells := 0, slots := 0, locals := 22 }) (va_Pc [.ref o1, .int x1, .int x2] (fun U => U.heap.size = sz ∧ WD D cy X (fun _ => True) S U ∧ NW U)) (va_Qv (fun (u : wPS) => u = f_X5_compare S o1 x1 x2 ∧ sh S u) (fun u t => WD D cy X (va_A (X ++ PL cy S) sz) u t) (va_A (X ++ PL cy S) sz)) 0 0 (va_A (X ++ PL cy S) sz) := by
  refine Met.ofW (cc := cX5_compare) (maxL := 5) (ret := none) (by decide) rfl ?_
  intro p e s m args below meth c s₁ B hml hv
  obtain ⟨rfl, hsz, ⟨hP, hK, hD0⟩, hN⟩ := hv
  have hx := B.exec
  have hb := B.bytes
  have hr := B.returns
  have hts := atoms_spec (ws := wsX5_compare) B.pre
  have hown : s.vm.findClass RX5 = some m.cls := findClass_of_methodNamed B.named
  have hlocks := B.notSynchronized
  subst hsz
  have hD := hD0.self (sz := s.heap.size)
  generalize hAe : va_A (X ++ PL cy S) s.heap.size = A at hD ⊢
  have hA : ∀ q : Nat, s.heap.size ≤ q → A q := fun q h => by rw [← hAe]; exact Or.inr h
  have hS : va_S A s.heap s.heap [] := va_S.rf
  have hl := lv_entry ([.ref o1, .int x1, .int x2]) (n := 5) (Nat.le_of_ble_eq_true rfl)
  rw [lg_entry_eq]
  generalize (lg_sl ([.ref o1, .int x1, .int x2]) ++ List.replicate (5 - (lg_sl ([.ref o1, .int x1, .int x2])).length) Slot.unset).toArray = ls at hl ⊢
  have hl : lv_has ls 5 [(0, .ref o1), (1, .int x1), (2, .int x2)] := hl
  refine lv_aload_n hx hb dX5_compare_0 rfl (lv_at hl 0 rfl) ?_
  obtain ⟨k1, gk1, hk1⟩ := wGt (cy := cy) X S h_o1.1.1 h_o1.1.2.1
  refine va_get (D := D) (ci := 9) (v := .int (S.I o1 0)) (C := RX5) (T := TX5) (N := 6) hx hb hts (by decide +kernel) hown hK hP k1 hk1 rfl 0 (by decide) (hts (.fieldLink RX5 16 "Hobhouse$OldGear" "teeth" "I") (by decide +kernel)) (fun _ h9 => h9) rfl dX5_compare_1 ?_
  refine lv_iload_n hx hb dX5_compare_4 rfl (lv_at hl 1 rfl) ?_
  refine lv_iload_n hx hb dX5_compare_5 rfl (lv_at hl 2 rfl) ?_
  have hFc := free_all hD hS hA
  refine va_calli (va_runSN (As := [.int (S.I o1 0), .int x1, .int x2]) (rest := []) ⟨hx, hb, hml, hown, hts⟩ (c_X9_tipOf l (cy := cy) (X := X) (D := D) S _ (S.I o1 0) x1 x2) ⟨va_cnB 3 hts gX5_compare_X9_tipOf_n33 rfl rfl rfl (hN (.methodLinkNest RX5 33 yX9_tipOf RX9) (by decide +kernel)) (hts (.initialized RX9) (by decide +kernel)) (by decide +kernel) ⟨Nat.le_of_ble_eq_true rfl, Nat.le_of_ble_eq_true rfl⟩, hts (.static yX9_tipOf) (by decide +kernel), trivial⟩ ⟨fun a U g mk q => ⟨q.1, q.2.1, q.2.2.1.calling, NW.same (u := U) (U := U.calling g mk a) rfl q.2.2.2⟩, fun U hU hW => ⟨rfl, by rw [hU], wd_pre hP hK hD hU hW, hN.warm hW⟩⟩ rfl rfl hl.1 rfl (lv_room (Nat.le_of_ble_eq_true rfl)) dX5_compare_6 ⟨(Nat.zero_le _), (Nat.zero_le _)⟩) hS (fun q _ h => hFc q h) hFc (fun r2 u t H1 locs ht hvm hw hB hz1 hk1 hS => ?_)
  obtain ⟨hP, hD⟩ := wd_post hFc ht hB
  generalize H1 = H at hP hS ⊢
  obtain rfl : r2 = f_X9_tipOf (S.I o1 0) x1 x2 := hw
  refine lv_istore_n (lv' := [(3, .int (f_X9_tipOf (S.I o1 0) x1 x2)), (0, .ref o1), (1, .int x1), (2, .int x2)]) hx hb dX5_compare_9 rfl hl (by decide) rfl (fun ls hl => ?_)
  refine lv_iload_n hx hb dX5_compare_10 rfl (lv_at hl 0 rfl) ?_
  refine lv_aload_n hx hb dX5_compare_11 rfl (lv_at hl 1 rfl) ?_
  obtain ⟨k3, gk3, hk3⟩ := wGt (cy := cy) X S h_o1.1.1 h_o1.1.2.1
  refine va_get (D := D) (ci := 9) (v := .int (S.I o1 1)) (C := RX5) (T := TX5) (N := 6) hx hb hts (by decide +kernel) hown hK hP k3 hk3 rfl 1 (by decide) (hts (.fieldLink RX5 19 "Hobhouse$OldGear" "measured" "I") (by decide +kernel)) (fun _ h9 => h9) rfl dX5_compare_12 ?_
  refine lv_icmp_lt (tgt := 35) hx hb dX5_compare_15 (by decide) (fun c4 => ?_) (fun c4 => ?_)
  · refine lv_iconst (v := 0) hx hb dX5_compare_35 (by decide) ?_
    refine lv_istore (lv' := [(4, .int (0 : Int32)), (3, .int (f_X9_tipOf (S.I o1 0) x1 x2)), (0, .ref o1), (1, .int x1), (2, .int x2)]) hx hb dX5_compare_36 hl (by decide) rfl (fun ls hl => ?_)
    refine lv_iload hx hb dX5_compare_38 (lv_at hl 0 rfl) ?_
    refine lv_if_eq (tgt := 66) hx hb dX5_compare_40 (by decide) (fun c5 => ?_) (fun c5 => ?_)
    · exact W.vret hx hb hr (fun t ht hW => ⟨⟨S, rfl, (⟨(by show S = f_X5_compare S o1 x1 x2; unfold f_X5_compare; rw [if_pos c4, if_pos c5]), (sh.rf S)⟩), wd_end hP hK hD ht hW.alike⟩, hS.F ht⟩) hS.2.2 dX5_compare_66 hlocks
    · refine lv_iload_n hx hb dX5_compare_43 rfl (lv_at hl 1 rfl) ?_
      refine lv_aload_n hx hb dX5_compare_44 rfl (lv_at hl 2 rfl) ?_
      obtain ⟨k6, gk6, hk6⟩ := wGt (cy := cy) X S h_o1.1.1 h_o1.1.2.1
      refine va_get (D := D) (ci := 9) (v := .int (S.I o1 5)) (C := RX5) (T := TX5) (N := 6) hx hb hts (by decide +kernel) hown hK hP k6 hk6 rfl 5 (by decide) (hts (.fieldLink RX5 10 "Hobhouse$OldGear" "leastTip" "I") (by decide +kernel)) (fun _ h9 => h9) rfl dX5_compare_45 ?_
      refine lv_icmp_ge (tgt := 66) hx hb dX5_compare_48 (by decide) (fun c7 => ?_) (fun c7 => ?_)
      · exact W.vret hx hb hr (fun t ht hW => ⟨⟨S, rfl, (⟨(by show S = f_X5_compare S o1 x1 x2; unfold f_X5_compare; rw [if_pos c4, if_neg c5, if_pos c7]), (sh.rf S)⟩), wd_end hP hK hD ht hW.alike⟩, hS.F ht⟩) hS.2.2 dX5_compare_66 hlocks
      · refine lv_aload_n hx hb dX5_compare_51 rfl (lv_at hl 2 rfl) ?_
        refine lv_iload_n hx hb dX5_compare_52 rfl (lv_at hl 1 rfl) ?_
        obtain ⟨k8, gk8, hk8⟩ := wGt (cy := cy) X S h_o1.1.1 h_o1.1.2.1
        refine va_put (D := D) (ci := 9) (v := .int (f_X9_tipOf (S.I o1 0) x1 x2)) (ty := .int) (C := RX5) (T := TX5) (N := 6) hx hb hts (by decide +kernel) tyX5 tyX5_ok nmX5 hown hK hP hD hS k8 hk8 rfl 5 (by decide) (hts (.fieldLink RX5 10 "Hobhouse$OldGear" "leastTip" "I") (by decide +kernel)) (fun _ h9 => h9) rfl (by decide +kernel) (rfl) (rfl) (Nat.le_of_ble_eq_true rfl) dX5_compare_53 (fun H locs hP2 hD2 hS => ?_)
        have e9 := wPuI (cy := cy) (j := 5) (v := f_X9_tipOf (S.I o1 0) x1 x2) hD h_o1.1.1 h_o1.1.2.1 gk8 rfl
        have hP : va_P D vwCl (X ++ PL cy (S.sI o1 5 (f_X9_tipOf (S.I o1 0) x1 x2))) H := by rw [← e9]; exact hP2
        have hD : va_D A (X ++ PL cy (S.sI o1 5 (f_X9_tipOf (S.I o1 0) x1 x2))) := by rw [← e9]; exact hD2
        refine lv_aload_n hx hb dX5_compare_56 rfl (lv_at hl 2 rfl) ?_
        refine lv_iload_n hx hb dX5_compare_57 rfl (lv_at hl 3 rfl) ?_
        obtain ⟨k9, gk9, hk9⟩ := wGt (cy := cy) X (S.sI o1 5 (f_X9_tipOf (S.I o1 0) x1 x2)) (((sh.rf S).I o1 5 (f_X9_tipOf (S.I o1 0) x1 x2)).L h_o1.1.1) (((sh.rf S).I o1 5 (f_X9_tipOf (S.I o1 0) x1 x2)).K h_o1.1.2.1)
        refine va_put (D := D) (ci := 9) (v := .int x1) (ty := .int) (C := RX5) (T := TX5) (N := 6) hx hb hts (by decide +kernel) tyX5 tyX5_ok nmX5 hown hK hP hD hS k9 hk9 rfl 3 (by decide) (hts (.fieldLink RX5 37 "Hobhouse$OldGear" "module" "I") (by decide +kernel)) (fun _ h9 => h9) rfl (by decide +kernel) (rfl) (rfl) (Nat.le_of_ble_eq_true rfl) dX5_compare_58 (fun H locs hP2 hD2 hS => ?_)
        have e9 := wPuI (cy := cy) (j := 3) (v := x1) hD (((sh.rf S).I o1 5 (f_X9_tipOf (S.I o1 0) x1 x2)).L h_o1.1.1) (((sh.rf S).I o1 5 (f_X9_tipOf (S.I o1 0) x1 x2)).K h_o1.1.2.1) gk9 rfl
        have hP : va_P D vwCl (X ++ PL cy ((S.sI o1 5 (f_X9_tipOf (S.I o1 0) x1 x2)).sI o1 3 x1)) H := by rw [← e9]; exact hP2
        have hD : va_D A (X ++ PL cy ((S.sI o1 5 (f_X9_tipOf (S.I o1 0) x1 x2)).sI o1 3 x1)) := by rw [← e9]; exact hD2
        refine lv_aload_n hx hb dX5_compare_61 rfl (lv_at hl 2 rfl) ?_
        refine lv_iload_n hx hb dX5_compare_62 rfl (lv_at hl 4 rfl) ?_
        obtain ⟨k10, gk10, hk10⟩ := wGt (cy := cy) X ((S.sI o1 5 (f_X9_tipOf (S.I o1 0) x1 x2)).sI o1 3 x1) ((((sh.rf S).I o1 5 (f_X9_tipOf (S.I o1 0) x1 x2)).I o1 3 x1).L h_o1.1.1) ((((sh.rf S).I o1 5 (f_X9_tipOf (S.I o1 0) x1 x2)).I o1 3 x1).K h_o1.1.2.1)
        refine va_put (D := D) (ci := 9) (v := .int x2) (ty := .int) (C := RX5) (T := TX5) (N := 6) hx hb hts (by decide +kernel) tyX5 tyX5_ok nmX5 hown hK hP hD hS k10 hk10 rfl 4 (by decide) (hts (.fieldLink RX5 40 "Hobhouse$OldGear" "shift" "I") (by decide +kernel)) (fun _ h9 => h9) rfl (by decide +kernel) (rfl) (rfl) (Nat.le_of_ble_eq_true rfl) dX5_compare_63 (fun H locs hP2 hD2 hS => ?_)
        have e9 := wPuI (cy := cy) (j := 4) (v := x2) hD ((((sh.rf S).I o1 5 (f_X9_tipOf (S.I o1 0) x1 x2)).I o1 3 x1).L h_o1.1.1) ((((sh.rf S).I o1 5 (f_X9_tipOf (S.I o1 0) x1 x2)).I o1 3 x1).K h_o1.1.2.1) gk10 rfl
        have hP : va_P D vwCl (X ++ PL cy (((S.sI o1 5 (f_X9_tipOf (S.I o1 0) x1 x2)).sI o1 3 x1).sI o1 4 x2)) H := by rw [← e9]; exact hP2
        have hD : va_D A (X ++ PL cy (((S.sI o1 5 (f_X9_tipOf (S.I o1 0) x1 x2)).sI o1 3 x1).sI o1 4 x2)) := by rw [← e9]; exact hD2
        exact W.vret hx hb hr (fun t ht hW => ⟨⟨((S.sI o1 5 (f_X9_tipOf (S.I o1 0) x1 x2)).sI o1 3 x1).sI o1 4 x2, rfl, (⟨(by show (((S.sI o1 5 (f_X9_tipOf (S.I o1 0) x1 x2)).sI o1 3 x1).sI o1 4 x2) = f_X5_compare S o1 x1 x2; unfold f_X5_compare; rw [if_pos c4, if_neg c5, if_neg c7]), ((((sh.rf S).I o1 5 (f_X9_tipOf (S.I o1 0) x1 x2)).I o1 3 x1).I o1 4 x2)⟩), wd_end hP hK hD ht hW.alike⟩, hS.F ht⟩) hS.2.2 dX5_compare_66 hlocks
  · refine lv_iload_n hx hb dX5_compare_18 rfl (lv_at hl 0 rfl) ?_
    refine lv_aload_n hx hb dX5_compare_19 rfl (lv_at hl 1 rfl) ?_
    obtain ⟨k11, gk11, hk11⟩ := wGt (cy := cy) X S h_o1.1.1 h_o1.1.2.1
    refine va_get (D := D) (ci := 9) (v := .int (S.I o1 1)) (C := RX5) (T := TX5) (N := 6) hx hb hts (by decide +kernel) hown hK hP k11 hk11 rfl 1 (by decide) (hts (.fieldLink RX5 19 "Hobhouse$OldGear" "measured" "I") (by decide +kernel)) (fun _ h9 => h9) rfl dX5_compare_20 ?_
    refine lv_isub hx hb dX5_compare_23 ?_
    refine lv_aload_n hx hb dX5_compare_24 rfl (lv_at hl 1 rfl) ?_
    obtain ⟨k12, gk12, hk12⟩ := wGt (cy := cy) X S h_o1.1.1 h_o1.1.2.1
    refine va_get (D := D) (ci := 9) (v := .int (S.I o1 2)) (C := RX5) (T := TX5) (N := 6) hx hb hts (by decide +kernel) hown hK hP k12 hk12 rfl 2 (by decide) (hts (.fieldLink RX5 22 "Hobhouse$OldGear" "worn" "I") (by decide +kernel)) (fun _ h9 => h9) rfl dX5_compare_25 ?_
    refine lv_icmp_gt (tgt := 35) hx hb dX5_compare_28 (by decide) (fun c13 => ?_) (fun c13 => ?_)
    · refine lv_iconst (v := 0) hx hb dX5_compare_35 (by decide) ?_
      refine lv_istore (lv' := [(4, .int (0 : Int32)), (3, .int (f_X9_tipOf (S.I o1 0) x1 x2)), (0, .ref o1), (1, .int x1), (2, .int x2)]) hx hb dX5_compare_36 hl (by decide) rfl (fun ls hl => ?_)
      refine lv_iload hx hb dX5_compare_38 (lv_at hl 0 rfl) ?_
      refine lv_if_eq (tgt := 66) hx hb dX5_compare_40 (by decide) (fun c14 => ?_) (fun c14 => ?_)
      · exact W.vret hx hb hr (fun t ht hW => ⟨⟨S, rfl, (⟨(by show S = f_X5_compare S o1 x1 x2; unfold f_X5_compare; rw [if_neg c4, if_pos c13, if_pos c14]), (sh.rf S)⟩), wd_end hP hK hD ht hW.alike⟩, hS.F ht⟩) hS.2.2 dX5_compare_66 hlocks
      · refine lv_iload_n hx hb dX5_compare_43 rfl (lv_at hl 1 rfl) ?_
        refine lv_aload_n hx hb dX5_compare_44 rfl (lv_at hl 2 rfl) ?_
        obtain ⟨k15, gk15, hk15⟩ := wGt (cy := cy) X S h_o1.1.1 h_o1.1.2.1
        refine va_get (D := D) (ci := 9) (v := .int (S.I o1 5)) (C := RX5) (T := TX5) (N := 6) hx hb hts (by decide +kernel) hown hK hP k15 hk15 rfl 5 (by decide) (hts (.fieldLink RX5 10 "Hobhouse$OldGear" "leastTip" "I") (by decide +kernel)) (fun _ h9 => h9) rfl dX5_compare_45 ?_
        refine lv_icmp_ge (tgt := 66) hx hb dX5_compare_48 (by decide) (fun c16 => ?_) (fun c16 => ?_)
        · exact W.vret hx hb hr (fun t ht hW => ⟨⟨S, rfl, (⟨(by show S = f_X5_compare S o1 x1 x2; unfold f_X5_compare; rw [if_neg c4, if_pos c13, if_neg c14, if_pos c16]), (sh.rf S)⟩), wd_end hP hK hD ht hW.alike⟩, hS.F ht⟩) hS.2.2 dX5_compare_66 hlocks
        · refine lv_aload_n hx hb dX5_compare_51 rfl (lv_at hl 2 rfl) ?_
          refine lv_iload_n hx hb dX5_compare_52 rfl (lv_at hl 1 rfl) ?_
          obtain ⟨k17, gk17, hk17⟩ := wGt (cy := cy) X S h_o1.1.1 h_o1.1.2.1
          refine va_put (D := D) (ci := 9) (v := .int (f_X9_tipOf (S.I o1 0) x1 x2)) (ty := .int) (C := RX5) (T := TX5) (N := 6) hx hb hts (by decide +kernel) tyX5 tyX5_ok nmX5 hown hK hP hD hS k17 hk17 rfl 5 (by decide) (hts (.fieldLink RX5 10 "Hobhouse$OldGear" "leastTip" "I") (by decide +kernel)) (fun _ h9 => h9) rfl (by decide +kernel) (rfl) (rfl) (Nat.le_of_ble_eq_true rfl) dX5_compare_53 (fun H locs hP2 hD2 hS => ?_)
          have e9 := wPuI (cy := cy) (j := 5) (v := f_X9_tipOf (S.I o1 0) x1 x2) hD h_o1.1.1 h_o1.1.2.1 gk17 rfl
          have hP : va_P D vwCl (X ++ PL cy (S.sI o1 5 (f_X9_tipOf (S.I o1 0) x1 x2))) H := by rw [← e9]; exact hP2
          have hD : va_D A (X ++ PL cy (S.sI o1 5 (f_X9_tipOf (S.I o1 0) x1 x2))) := by rw [← e9]; exact hD2
          refine lv_aload_n hx hb dX5_compare_56 rfl (lv_at hl 2 rfl) ?_
          refine lv_iload_n hx hb dX5_compare_57 rfl (lv_at hl 3 rfl) ?_
          obtain ⟨k18, gk18, hk18⟩ := wGt (cy := cy) X (S.sI o1 5 (f_X9_tipOf (S.I o1 0) x1 x2)) (((sh.rf S).I o1 5 (f_X9_tipOf (S.I o1 0) x1 x2)).L h_o1.1.1) (((sh.rf S).I o1 5 (f_X9_tipOf (S.I o1 0) x1 x2)).K h_o1.1.2.1)
          refine va_put (D := D) (ci := 9) (v := .int x1) (ty := .int) (C := RX5) (T := TX5) (N := 6) hx hb hts (by decide +kernel) tyX5 tyX5_ok nmX5 hown hK hP hD hS k18 hk18 rfl 3 (by decide) (hts (.fieldLink RX5 37 "Hobhouse$OldGear" "module" "I") (by decide +kernel)) (fun _ h9 => h9) rfl (by decide +kernel) (rfl) (rfl) (Nat.le_of_ble_eq_true rfl) dX5_compare_58 (fun H locs hP2 hD2 hS => ?_)
          have e9 := wPuI (cy := cy) (j := 3) (v := x1) hD (((sh.rf S).I o1 5 (f_X9_tipOf (S.I o1 0) x1 x2)).L h_o1.1.1) (((sh.rf S).I o1 5 (f_X9_tipOf (S.I o1 0) x1 x2)).K h_o1.1.2.1) gk18 rfl
          have hP : va_P D vwCl (X ++ PL cy ((S.sI o1 5 (f_X9_tipOf (S.I o1 0) x1 x2)).sI o1 3 x1)) H := by rw [← e9]; exact hP2
          have hD : va_D A (X ++ PL cy ((S.sI o1 5 (f_X9_tipOf (S.I o1 0) x1 x2)).sI o1 3 x1)) := by rw [← e9]; exact hD2
          refine lv_aload_n hx hb dX5_compare_61 rfl (lv_at hl 2 rfl) ?_
          refine lv_iload_n hx hb dX5_compare_62 rfl (lv_at hl 4 rfl) ?_
          obtain ⟨k19, gk19, hk19⟩ := wGt (cy := cy) X ((S.sI o1 5 (f_X9_tipOf (S.I o1 0) x1 x2)).sI o1 3 x1) ((((sh.rf S).I o1 5 (f_X9_tipOf (S.I o1 0) x1 x2)).I o1 3 x1).L h_o1.1.1) ((((sh.rf S).I o1 5 (f_X9_tipOf (S.I o1 0) x1 x2)).I o1 3 x1).K h_o1.1.2.1)
          refine va_put (D := D) (ci := 9) (v := .int x2) (ty := .int) (C := RX5) (T := TX5) (N := 6) hx hb hts (by decide +kernel) tyX5 tyX5_ok nmX5 hown hK hP hD hS k19 hk19 rfl 4 (by decide) (hts (.fieldLink RX5 40 "Hobhouse$OldGear" "shift" "I") (by decide +kernel)) (fun _ h9 => h9) rfl (by decide +kernel) (rfl) (rfl) (Nat.le_of_ble_eq_true rfl) dX5_compare_63 (fun H locs hP2 hD2 hS => ?_)
          have e9 := wPuI (cy := cy) (j := 4) (v := x2) hD ((((sh.rf S).I o1 5 (f_X9_tipOf (S.I o1 0) x1 x2)).I o1 3 x1).L h_o1.1.1) ((((sh.rf S).I o1 5 (f_X9_tipOf (S.I o1 0) x1 x2)).I o1 3 x1).K h_o1.1.2.1) gk19 rfl
          have hP : va_P D vwCl (X ++ PL cy (((S.sI o1 5 (f_X9_tipOf (S.I o1 0) x1 x2)).sI o1 3 x1).sI o1 4 x2)) H := by rw [← e9]; exact hP2
          have hD : va_D A (X ++ PL cy (((S.sI o1 5 (f_X9_tipOf (S.I o1 0) x1 x2)).sI o1 3 x1).sI o1 4 x2)) := by rw [← e9]; exact hD2
          exact W.vret hx hb hr (fun t ht hW => ⟨⟨((S.sI o1 5 (f_X9_tipOf (S.I o1 0) x1 x2)).sI o1 3 x1).sI o1 4 x2, rfl, (⟨(by show (((S.sI o1 5 (f_X9_tipOf (S.I o1 0) x1 x2)).sI o1 3 x1).sI o1 4 x2) = f_X5_compare S o1 x1 x2; unfold f_X5_compare; rw [if_neg c4, if_pos c13, if_neg c14, if_neg c16]), ((((sh.rf S).I o1 5 (f_X9_tipOf (S.I o1 0) x1 x2)).I o1 3 x1).I o1 4 x2)⟩), wd_end hP hK hD ht hW.alike⟩, hS.F ht⟩) hS.2.2 dX5_compare_66 hlocks
    · refine lv_iconst (v := 1) hx hb dX5_compare_31 (by decide) ?_
      refine lv_goto (tgt := 36) hx hb dX5_compare_32 (by decide) ?_
      refine lv_istore (lv' := [(4, .int (1 : Int32)), (3, .int (f_X9_tipOf (S.I o1 0) x1 x2)), (0, .ref o1), (1, .int x1), (2, .int x2)]) hx hb dX5_compare_36 hl (by decide) rfl (fun ls hl => ?_)
      refine lv_iload hx hb dX5_compare_38 (lv_at hl 0 rfl) ?_
      refine lv_if_eq (tgt := 66) hx hb dX5_compare_40 (by decide) (fun c20 => ?_) (fun c20 => ?_)
      · exact W.vret hx hb hr (fun t ht hW => ⟨⟨S, rfl, (⟨(by show S = f_X5_compare S o1 x1 x2; unfold f_X5_compare; rw [if_neg c4, if_neg c13, if_pos c20]), (sh.rf S)⟩), wd_end hP hK hD ht hW.alike⟩, hS.F ht⟩) hS.2.2 dX5_compare_66 hlocks
      · refine lv_iload_n hx hb dX5_compare_43 rfl (lv_at hl 1 rfl) ?_
        refine lv_aload_n hx hb dX5_compare_44 rfl (lv_at hl 2 rfl) ?_
        obtain ⟨k21, gk21, hk21⟩ := wGt (cy := cy) X S h_o1.1.1 h_o1.1.2.1
        refine va_get (D := D) (ci := 9) (v := .int (S.I o1 5)) (C := RX5) (T := TX5) (N := 6) hx hb hts (by decide +kernel) hown hK hP k21 hk21 rfl 5 (by decide) (hts (.fieldLink RX5 10 "Hobhouse$OldGear" "leastTip" "I") (by decide +kernel)) (fun _ h9 => h9) rfl dX5_compare_45 ?_
        refine lv_icmp_ge (tgt := 66) hx hb dX5_compare_48 (by decide) (fun c22 => ?_) (fun c22 => ?_)
        · exact W.vret hx hb hr (fun t ht hW => ⟨⟨S, rfl, (⟨(by show S = f_X5_compare S o1 x1 x2; unfold f_X5_compare; rw [if_neg c4, if_neg c13, if_neg c20, if_pos c22]), (sh.rf S)⟩), wd_end hP hK hD ht hW.alike⟩, hS.F ht⟩) hS.2.2 dX5_compare_66 hlocks
        · refine lv_aload_n hx hb dX5_compare_51 rfl (lv_at hl 2 rfl) ?_
          refine lv_iload_n hx hb dX5_compare_52 rfl (lv_at hl 1 rfl) ?_
          obtain ⟨k23, gk23, hk23⟩ := wGt (cy := cy) X S h_o1.1.1 h_o1.1.2.1
          refine va_put (D := D) (ci := 9) (v := .int (f_X9_tipOf (S.I o1 0) x1 x2)) (ty := .int) (C := RX5) (T := TX5) (N := 6) hx hb hts (by decide +kernel) tyX5 tyX5_ok nmX5 hown hK hP hD hS k23 hk23 rfl 5 (by decide) (hts (.fieldLink RX5 10 "Hobhouse$OldGear" "leastTip" "I") (by decide +kernel)) (fun _ h9 => h9) rfl (by decide +kernel) (rfl) (rfl) (Nat.le_of_ble_eq_true rfl) dX5_compare_53 (fun H locs hP2 hD2 hS => ?_)
          have e9 := wPuI (cy := cy) (j := 5) (v := f_X9_tipOf (S.I o1 0) x1 x2) hD h_o1.1.1 h_o1.1.2.1 gk23 rfl
          have hP : va_P D vwCl (X ++ PL cy (S.sI o1 5 (f_X9_tipOf (S.I o1 0) x1 x2))) H := by rw [← e9]; exact hP2
          have hD : va_D A (X ++ PL cy (S.sI o1 5 (f_X9_tipOf (S.I o1 0) x1 x2))) := by rw [← e9]; exact hD2
          refine lv_aload_n hx hb dX5_compare_56 rfl (lv_at hl 2 rfl) ?_
          refine lv_iload_n hx hb dX5_compare_57 rfl (lv_at hl 3 rfl) ?_
          obtain ⟨k24, gk24, hk24⟩ := wGt (cy := cy) X (S.sI o1 5 (f_X9_tipOf (S.I o1 0) x1 x2)) (((sh.rf S).I o1 5 (f_X9_tipOf (S.I o1 0) x1 x2)).L h_o1.1.1) (((sh.rf S).I o1 5 (f_X9_tipOf (S.I o1 0) x1 x2)).K h_o1.1.2.1)
          refine va_put (D := D) (ci := 9) (v := .int x1) (ty := .int) (C := RX5) (T := TX5) (N := 6) hx hb hts (by decide +kernel) tyX5 tyX5_ok nmX5 hown hK hP hD hS k24 hk24 rfl 3 (by decide) (hts (.fieldLink RX5 37 "Hobhouse$OldGear" "module" "I") (by decide +kernel)) (fun _ h9 => h9) rfl (by decide +kernel) (rfl) (rfl) (Nat.le_of_ble_eq_true rfl) dX5_compare_58 (fun H locs hP2 hD2 hS => ?_)
          have e9 := wPuI (cy := cy) (j := 3) (v := x1) hD (((sh.rf S).I o1 5 (f_X9_tipOf (S.I o1 0) x1 x2)).L h_o1.1.1) (((sh.rf S).I o1 5 (f_X9_tipOf (S.I o1 0) x1 x2)).K h_o1.1.2.1) gk24 rfl
          have hP : va_P D vwCl (X ++ PL cy ((S.sI o1 5 (f_X9_tipOf (S.I o1 0) x1 x2)).sI o1 3 x1)) H := by rw [← e9]; exact hP2
          have hD : va_D A (X ++ PL cy ((S.sI o1 5 (f_X9_tipOf (S.I o1 0) x1 x2)).sI o1 3 x1)) := by rw [← e9]; exact hD2
          refine lv_aload_n hx hb dX5_compare_61 rfl (lv_at hl 2 rfl) ?_
          refine lv_iload_n hx hb dX5_compare_62 rfl (lv_at hl 4 rfl) ?_
          obtain ⟨k25, gk25, hk25⟩ := wGt (cy := cy) X ((S.sI o1 5 (f_X9_tipOf (S.I o1 0) x1 x2)).sI o1 3 x1) ((((sh.rf S).I o1 5 (f_X9_tipOf (S.I o1 0) x1 x2)).I o1 3 x1).L h_o1.1.1) ((((sh.rf S).I o1 5 (f_X9_tipOf (S.I o1 0) x1 x2)).I o1 3 x1).K h_o1.1.2.1)
          refine va_put (D := D) (ci := 9) (v := .int x2) (ty := .int) (C := RX5) (T := TX5) (N := 6) hx hb hts (by decide +kernel) tyX5 tyX5_ok nmX5 hown hK hP hD hS k25 hk25 rfl 4 (by decide) (hts (.fieldLink RX5 40 "Hobhouse$OldGear" "shift" "I") (by decide +kernel)) (fun _ h9 => h9) rfl (by decide +kernel) (rfl) (rfl) (Nat.le_of_ble_eq_true rfl) dX5_compare_63 (fun H locs hP2 hD2 hS => ?_)
          have e9 := wPuI (cy := cy) (j := 4) (v := x2) hD ((((sh.rf S).I o1 5 (f_X9_tipOf (S.I o1 0) x1 x2)).I o1 3 x1).L h_o1.1.1) ((((sh.rf S).I o1 5 (f_X9_tipOf (S.I o1 0) x1 x2)).I o1 3 x1).K h_o1.1.2.1) gk25 rfl
          have hP : va_P D vwCl (X ++ PL cy (((S.sI o1 5 (f_X9_tipOf (S.I o1 0) x1 x2)).sI o1 3 x1).sI o1 4 x2)) H := by rw [← e9]; exact hP2
          have hD : va_D A (X ++ PL cy (((S.sI o1 5 (f_X9_tipOf (S.I o1 0) x1 x2)).sI o1 3 x1).sI o1 4 x2)) := by rw [← e9]; exact hD2
          exact W.vret hx hb hr (fun t ht hW => ⟨⟨((S.sI o1 5 (f_X9_tipOf (S.I o1 0) x1 x2)).sI o1 3 x1).sI o1 4 x2, rfl, (⟨(by show (((S.sI o1 5 (f_X9_tipOf (S.I o1 0) x1 x2)).sI o1 3 x1).sI o1 4 x2) = f_X5_compare S o1 x1 x2; unfold f_X5_compare; rw [if_neg c4, if_neg c13, if_neg c20, if_neg c22]), ((((sh.rf S).I o1 5 (f_X9_tipOf (S.I o1 0) x1 x2)).I o1 3 x1).I o1 4 x2)⟩), wd_end hP hK hD ht hW.alike⟩, hS.F ht⟩) hS.2.2 dX5_compare_66 hlocks
