def f_X3_turnToNext (S : wPS) (o1 : Nat) (x1 : Int32) : Int32 × wPS := if (nI (S.n (S.f o1 2))) ≤ (S.I o1 5) then (S.I o1 5, S) else if (S.I o1 1) ≤ (0 : Int32) then (S.I o1 5, S) else if (nI (S.n (S.f o1 2))) ≤ ((S.I o1 5) + (1 : Int32)) then (S.I o1 5, (S.si (S.f o1 2) (upd (S.i (S.f o1 2)) (S.I o1 5).toNatClampNeg ((S.i (S.f o1 2) (S.I o1 5).toNatClampNeg) + (x1 / (S.I o1 1))))).sI o1 5 (0 : Int32)) else (S.I o1 5, (S.si (S.f o1 2) (upd (S.i (S.f o1 2)) (S.I o1 5).toNatClampNeg ((S.i (S.f o1 2) (S.I o1 5).toNatClampNeg) + (x1 / (S.I o1 1))))).sI o1 5 ((S.I o1 5) + (1 : Int32)))
set_option maxHeartbeats 4000000 in
set_option maxRecDepth 100000 in
theorem c_X3_turnToNext (l : Launch) {D : va_G} {cy : Nat → ClassId} {X : va_W} (S : wPS) (sz : Nat) (o1 : Nat) (h_o1 : ok3 S o1) (x1 : Int32) (hz : ¬ S.I o1 5 < 0) (hln : S.n (S.f o1 2) ≤ 1000000) : Met l yX3_turnToNext wsX3_turnToNext ({ frames := 0, cells := 0, slots := 0, locals := 0 }) (va_Pc [.ref o1, .int x1] (fun U => U.heap.size = sz ∧ WD D cy X (fun _ => True) S U ∧ NW U)) (va_Qi (fun r (u : wPS) => (r, u) = f_X3_turnToNext S o1 x1 ∧ sh S u) (fun u t => WD D cy X (va_A (X ++ PL cy S) sz) u t) (va_A (X ++ PL cy S) sz)) 0 0 (va_A (X ++ PL cy S) sz) := by
  refine Met.ofW (cc := cX3_turnToNext) (maxL := 3) (ret := (some .int)) (by decide) rfl ?_
  intro p e s m args below meth c s₁ B hml hv
  obtain ⟨rfl, hsz, ⟨hP, hK, hD0⟩, hN⟩ := hv
  have hx := B.exec
  have hb := B.bytes
  have hr := B.returns
  have hts := atoms_spec (ws := wsX3_turnToNext) B.pre
  have hown : s.vm.findClass RX3 = some m.cls := findClass_of_methodNamed B.named
  have hlocks := B.notSynchronized
  subst hsz
  have hD := hD0.self (sz := s.heap.size)
  generalize hAe : va_A (X ++ PL cy S) s.heap.size = A at hD ⊢
  have hA : ∀ q : Nat, s.heap.size ≤ q → A q := fun q h => by rw [← hAe]; exact Or.inr h
  have hS : va_S A s.heap s.heap [] := va_S.rf
  have hl := lv_entry ([.ref o1, .int x1]) (n := 3) (Nat.le_of_ble_eq_true rfl)
  rw [lg_entry_eq]
  generalize (lg_sl ([.ref o1, .int x1]) ++ List.replicate (3 - (lg_sl ([.ref o1, .int x1])).length) Slot.unset).toArray = ls at hl ⊢
  have hl : lv_has ls 3 [(0, .ref o1), (1, .int x1)] := hl
  refine lv_aload_n hx hb dX3_turnToNext_0 rfl (lv_at hl 0 rfl) ?_
  obtain ⟨k1, gk1, hk1⟩ := wGt (cy := cy) X S h_o1.1.1 h_o1.1.2.1
  refine va_get (D := D) (ci := 7) (v := .int (S.I o1 5)) (C := RX3) (T := TX3) (N := 6) hx hb hts (by decide +kernel) hown hK hP k1 hk1 rfl 5 (by decide) (hts (.fieldLink RX3 49 "Hobhouse$Hob" "next" "I") (by decide +kernel)) (fun _ h9 => h9) rfl dX3_turnToNext_1 ?_
  refine lv_istore_n (lv' := [(2, .int (S.I o1 5)), (0, .ref o1), (1, .int x1)]) hx hb dX3_turnToNext_4 rfl hl (by decide) rfl (fun ls hl => ?_)
  refine lv_iload_n hx hb dX3_turnToNext_5 rfl (lv_at hl 0 rfl) ?_
  refine lv_aload_n hx hb dX3_turnToNext_6 rfl (lv_at hl 1 rfl) ?_
  obtain ⟨k2, gk2, hk2⟩ := wGt (cy := cy) X S h_o1.1.1 h_o1.1.2.1
  simp only [kE, h_o1.2.1.1] at hk2
  refine va_get (D := D) (ci := 7) (v := .ref (S.f o1 2)) (C := RX3) (T := TX3) (N := 6) hx hb hts (by decide +kernel) hown hK hP k2 hk2 rfl 2 (by decide) (hts (.fieldLink RX3 21 "Hobhouse$Hob" "worn" "[I") (by decide +kernel)) (fun _ h9 => h9) rfl dX3_turnToNext_7 ?_
  obtain ⟨k3, gk3, hk3⟩ := wGt (cy := cy) X S h_o1.2.1.2.1 h_o1.2.1.2.2.1
  refine va_alen (D := D) (cl := vwCl) (tys := tyL cy) hx hb hK hP k3 2 hk3 rfl (v := nI (S.n (S.f o1 2))) rfl dX3_turnToNext_10 ?_
  refine lv_icmp_ge (tgt := 58) hx hb dX3_turnToNext_11 (by decide) (fun c4 => ?_) (fun c4 => ?_)
  · refine lv_iload_n hx hb dX3_turnToNext_58 rfl (lv_at hl 0 rfl) ?_
    exact W.iret (v := S.I o1 5) hx hb hr (fun t ht hW => ⟨⟨S.I o1 5, S, rfl, (⟨(by show (S.I o1 5, S) = f_X3_turnToNext S o1 x1; unfold f_X3_turnToNext; rw [if_pos c4]), (sh.rf S)⟩), wd_end hP hK hD ht hW.alike⟩, hS.F ht⟩) hS.2.2 dX3_turnToNext_59 hlocks
  · refine lv_aload_n hx hb dX3_turnToNext_14 rfl (lv_at hl 1 rfl) ?_
    obtain ⟨k5, gk5, hk5⟩ := wGt (cy := cy) X S h_o1.1.1 h_o1.1.2.1
    refine va_get (D := D) (ci := 7) (v := .int (S.I o1 1)) (C := RX3) (T := TX3) (N := 6) hx hb hts (by decide +kernel) hown hK hP k5 hk5 rfl 1 (by decide) (hts (.fieldLink RX3 15 "Hobhouse$Hob" "starts" "I") (by decide +kernel)) (fun _ h9 => h9) rfl dX3_turnToNext_15 ?_
    refine lv_if_le (tgt := 58) hx hb dX3_turnToNext_18 (by decide) (fun c6 => ?_) (fun c6 => ?_)
    · refine lv_iload_n hx hb dX3_turnToNext_58 rfl (lv_at hl 0 rfl) ?_
      exact W.iret (v := S.I o1 5) hx hb hr (fun t ht hW => ⟨⟨S.I o1 5, S, rfl, (⟨(by show (S.I o1 5, S) = f_X3_turnToNext S o1 x1; unfold f_X3_turnToNext; rw [if_neg c4, if_pos c6]), (sh.rf S)⟩), wd_end hP hK hD ht hW.alike⟩, hS.F ht⟩) hS.2.2 dX3_turnToNext_59 hlocks
    · refine lv_aload_n hx hb dX3_turnToNext_21 rfl (lv_at hl 1 rfl) ?_
      obtain ⟨k7, gk7, hk7⟩ := wGt (cy := cy) X S h_o1.1.1 h_o1.1.2.1
      simp only [kE, h_o1.2.1.1] at hk7
      refine va_get (D := D) (ci := 7) (v := .ref (S.f o1 2)) (C := RX3) (T := TX3) (N := 6) hx hb hts (by decide +kernel) hown hK hP k7 hk7 rfl 2 (by decide) (hts (.fieldLink RX3 21 "Hobhouse$Hob" "worn" "[I") (by decide +kernel)) (fun _ h9 => h9) rfl dX3_turnToNext_22 ?_
      refine lv_iload_n hx hb dX3_turnToNext_25 rfl (lv_at hl 0 rfl) ?_
      refine lv_dup2_11 hx hb dX3_turnToNext_26 rfl rfl ?_
      obtain ⟨k8, gk8, hk8⟩ := wGt (cy := cy) X S h_o1.2.1.2.1 h_o1.2.1.2.2.1
      refine va_iald hx hb hK hP k8 2 hk8 rfl (in_len (by assumption) (le_of_nlt hz) (by omega)) dX3_turnToNext_27 ?_
      refine lv_iload_n hx hb dX3_turnToNext_28 rfl (lv_at hl 2 rfl) ?_
      refine lv_aload_n hx hb dX3_turnToNext_29 rfl (lv_at hl 1 rfl) ?_
      obtain ⟨k9, gk9, hk9⟩ := wGt (cy := cy) X S h_o1.1.1 h_o1.1.2.1
      refine va_get (D := D) (ci := 7) (v := .int (S.I o1 1)) (C := RX3) (T := TX3) (N := 6) hx hb hts (by decide +kernel) hown hK hP k9 hk9 rfl 1 (by decide) (hts (.fieldLink RX3 15 "Hobhouse$Hob" "starts" "I") (by decide +kernel)) (fun _ h9 => h9) rfl dX3_turnToNext_30 ?_
      refine lv_idiv hx hb dX3_turnToNext_33 (ne_le0 (by assumption)) ?_
      refine lv_iadd hx hb dX3_turnToNext_34 ?_
      obtain ⟨k10, gk10, hk10⟩ := wGt (cy := cy) X S h_o1.2.1.2.1 h_o1.2.1.2.2.1
      refine va_iast hx hb hK hP hD hS k10 2 hk10 rfl (in_len (by assumption) (le_of_nlt hz) (by omega)) dX3_turnToNext_35 (fun H locs hP2 hD2 hS => ?_)
      have e9 := wPui (cy := cy) (f := (upd (S.i (S.f o1 2)) (S.I o1 5).toNatClampNeg ((S.i (S.f o1 2) (S.I o1 5).toNatClampNeg) + (x1 / (S.I o1 1))))) hD h_o1.2.1.2.1 h_o1.2.1.2.2.1 gk10 rfl
      have hP : va_P D vwCl (X ++ PL cy (S.si (S.f o1 2) (upd (S.i (S.f o1 2)) (S.I o1 5).toNatClampNeg ((S.i (S.f o1 2) (S.I o1 5).toNatClampNeg) + (x1 / (S.I o1 1)))))) H := by rw [← e9]; exact hP2
      have hD : va_D A (X ++ PL cy (S.si (S.f o1 2) (upd (S.i (S.f o1 2)) (S.I o1 5).toNatClampNeg ((S.i (S.f o1 2) (S.I o1 5).toNatClampNeg) + (x1 / (S.I o1 1)))))) := by rw [← e9]; exact hD2
      refine lv_aload_n hx hb dX3_turnToNext_36 rfl (lv_at hl 1 rfl) ?_
      refine lv_iload_n hx hb dX3_turnToNext_37 rfl (lv_at hl 0 rfl) ?_
      refine lv_iconst (v := 1) hx hb dX3_turnToNext_38 (by decide) ?_
      refine lv_iadd hx hb dX3_turnToNext_39 ?_
      refine lv_aload_n hx hb dX3_turnToNext_40 rfl (lv_at hl 1 rfl) ?_
      obtain ⟨k11, gk11, hk11⟩ := wGt (cy := cy) X (S.si (S.f o1 2) (upd (S.i (S.f o1 2)) (S.I o1 5).toNatClampNeg ((S.i (S.f o1 2) (S.I o1 5).toNatClampNeg) + (x1 / (S.I o1 1))))) (((sh.rf S).i (S.f o1 2) (upd (S.i (S.f o1 2)) (S.I o1 5).toNatClampNeg ((S.i (S.f o1 2) (S.I o1 5).toNatClampNeg) + (x1 / (S.I o1 1))))).L h_o1.1.1) (((sh.rf S).i (S.f o1 2) (upd (S.i (S.f o1 2)) (S.I o1 5).toNatClampNeg ((S.i (S.f o1 2) (S.I o1 5).toNatClampNeg) + (x1 / (S.I o1 1))))).K h_o1.1.2.1)
      simp only [kE, (((sh.rf S).i (S.f o1 2) (upd (S.i (S.f o1 2)) (S.I o1 5).toNatClampNeg ((S.i (S.f o1 2) (S.I o1 5).toNatClampNeg) + (x1 / (S.I o1 1))))).F h_o1.2.1.1)] at hk11
      refine va_get (D := D) (ci := 7) (v := .ref (S.f o1 2)) (C := RX3) (T := TX3) (N := 6) hx hb hts (by decide +kernel) hown hK hP k11 hk11 rfl 2 (by decide) (hts (.fieldLink RX3 21 "Hobhouse$Hob" "worn" "[I") (by decide +kernel)) (fun _ h9 => h9) rfl dX3_turnToNext_41 ?_
      obtain ⟨k12, gk12, hk12⟩ := wGt (cy := cy) X (S.si (S.f o1 2) (upd (S.i (S.f o1 2)) (S.I o1 5).toNatClampNeg ((S.i (S.f o1 2) (S.I o1 5).toNatClampNeg) + (x1 / (S.I o1 1))))) (((sh.rf S).i (S.f o1 2) (upd (S.i (S.f o1 2)) (S.I o1 5).toNatClampNeg ((S.i (S.f o1 2) (S.I o1 5).toNatClampNeg) + (x1 / (S.I o1 1))))).L h_o1.2.1.2.1) (((sh.rf S).i (S.f o1 2) (upd (S.i (S.f o1 2)) (S.I o1 5).toNatClampNeg ((S.i (S.f o1 2) (S.I o1 5).toNatClampNeg) + (x1 / (S.I o1 1))))).K h_o1.2.1.2.2.1)
      refine va_alen (D := D) (cl := vwCl) (tys := tyL cy) hx hb hK hP k12 2 hk12 rfl (v := nI (S.n (S.f o1 2))) (((sh.rf S).i (S.f o1 2) (upd (S.i (S.f o1 2)) (S.I o1 5).toNatClampNeg ((S.i (S.f o1 2) (S.I o1 5).toNatClampNeg) + (x1 / (S.I o1 1))))).n _) dX3_turnToNext_44 ?_
      refine lv_icmp_ge (tgt := 54) hx hb dX3_turnToNext_45 (by decide) (fun c13 => ?_) (fun c13 => ?_)
      · refine lv_iconst (v := 0) hx hb dX3_turnToNext_54 (by decide) ?_
        obtain ⟨k14, gk14, hk14⟩ := wGt (cy := cy) X (S.si (S.f o1 2) (upd (S.i (S.f o1 2)) (S.I o1 5).toNatClampNeg ((S.i (S.f o1 2) (S.I o1 5).toNatClampNeg) + (x1 / (S.I o1 1))))) (((sh.rf S).i (S.f o1 2) (upd (S.i (S.f o1 2)) (S.I o1 5).toNatClampNeg ((S.i (S.f o1 2) (S.I o1 5).toNatClampNeg) + (x1 / (S.I o1 1))))).L h_o1.1.1) (((sh.rf S).i (S.f o1 2) (upd (S.i (S.f o1 2)) (S.I o1 5).toNatClampNeg ((S.i (S.f o1 2) (S.I o1 5).toNatClampNeg) + (x1 / (S.I o1 1))))).K h_o1.1.2.1)
        refine va_put (D := D) (ci := 7) (v := .int (0 : Int32)) (ty := .int) (C := RX3) (T := TX3) (N := 6) hx hb hts (by decide +kernel) tyX3 tyX3_ok nmX3 hown hK hP hD hS k14 hk14 rfl 5 (by decide) (hts (.fieldLink RX3 49 "Hobhouse$Hob" "next" "I") (by decide +kernel)) (fun _ h9 => h9) rfl (by decide +kernel) (rfl) (rfl) (Nat.le_of_ble_eq_true rfl) dX3_turnToNext_55 (fun H locs hP2 hD2 hS => ?_)
        have e9 := wPuI (cy := cy) (j := 5) (v := (0 : Int32)) hD (((sh.rf S).i (S.f o1 2) (upd (S.i (S.f o1 2)) (S.I o1 5).toNatClampNeg ((S.i (S.f o1 2) (S.I o1 5).toNatClampNeg) + (x1 / (S.I o1 1))))).L h_o1.1.1) (((sh.rf S).i (S.f o1 2) (upd (S.i (S.f o1 2)) (S.I o1 5).toNatClampNeg ((S.i (S.f o1 2) (S.I o1 5).toNatClampNeg) + (x1 / (S.I o1 1))))).K h_o1.1.2.1) gk14 rfl
        have hP : va_P D vwCl (X ++ PL cy ((S.si (S.f o1 2) (upd (S.i (S.f o1 2)) (S.I o1 5).toNatClampNeg ((S.i (S.f o1 2) (S.I o1 5).toNatClampNeg) + (x1 / (S.I o1 1))))).sI o1 5 (0 : Int32))) H := by rw [← e9]; exact hP2
        have hD : va_D A (X ++ PL cy ((S.si (S.f o1 2) (upd (S.i (S.f o1 2)) (S.I o1 5).toNatClampNeg ((S.i (S.f o1 2) (S.I o1 5).toNatClampNeg) + (x1 / (S.I o1 1))))).sI o1 5 (0 : Int32))) := by rw [← e9]; exact hD2
        refine lv_iload_n hx hb dX3_turnToNext_58 rfl (lv_at hl 0 rfl) ?_
        exact W.iret (v := S.I o1 5) hx hb hr (fun t ht hW => ⟨⟨S.I o1 5, (S.si (S.f o1 2) (upd (S.i (S.f o1 2)) (S.I o1 5).toNatClampNeg ((S.i (S.f o1 2) (S.I o1 5).toNatClampNeg) + (x1 / (S.I o1 1))))).sI o1 5 (0 : Int32), rfl, (⟨(by show (S.I o1 5, (S.si (S.f o1 2) (upd (S.i (S.f o1 2)) (S.I o1 5).toNatClampNeg ((S.i (S.f o1 2) (S.I o1 5).toNatClampNeg) + (x1 / (S.I o1 1))))).sI o1 5 (0 : Int32)) = f_X3_turnToNext S o1 x1; unfold f_X3_turnToNext; rw [if_neg c4, if_neg c6, if_pos c13]), (((sh.rf S).i (S.f o1 2) (upd (S.i (S.f o1 2)) (S.I o1 5).toNatClampNeg ((S.i (S.f o1 2) (S.I o1 5).toNatClampNeg) + (x1 / (S.I o1 1))))).I o1 5 (0 : Int32))⟩), wd_end hP hK hD ht hW.alike⟩, hS.F ht⟩) hS.2.2 dX3_turnToNext_59 hlocks
      · refine lv_iload_n hx hb dX3_turnToNext_48 rfl (lv_at hl 0 rfl) ?_
        refine lv_iconst (v := 1) hx hb dX3_turnToNext_49 (by decide) ?_
        refine lv_iadd hx hb dX3_turnToNext_50 ?_
        refine lv_goto (tgt := 55) hx hb dX3_turnToNext_51 (by decide) ?_
        obtain ⟨k15, gk15, hk15⟩ := wGt (cy := cy) X (S.si (S.f o1 2) (upd (S.i (S.f o1 2)) (S.I o1 5).toNatClampNeg ((S.i (S.f o1 2) (S.I o1 5).toNatClampNeg) + (x1 / (S.I o1 1))))) (((sh.rf S).i (S.f o1 2) (upd (S.i (S.f o1 2)) (S.I o1 5).toNatClampNeg ((S.i (S.f o1 2) (S.I o1 5).toNatClampNeg) + (x1 / (S.I o1 1))))).L h_o1.1.1) (((sh.rf S).i (S.f o1 2) (upd (S.i (S.f o1 2)) (S.I o1 5).toNatClampNeg ((S.i (S.f o1 2) (S.I o1 5).toNatClampNeg) + (x1 / (S.I o1 1))))).K h_o1.1.2.1)
        refine va_put (D := D) (ci := 7) (v := .int ((S.I o1 5) + (1 : Int32))) (ty := .int) (C := RX3) (T := TX3) (N := 6) hx hb hts (by decide +kernel) tyX3 tyX3_ok nmX3 hown hK hP hD hS k15 hk15 rfl 5 (by decide) (hts (.fieldLink RX3 49 "Hobhouse$Hob" "next" "I") (by decide +kernel)) (fun _ h9 => h9) rfl (by decide +kernel) (rfl) (rfl) (Nat.le_of_ble_eq_true rfl) dX3_turnToNext_55 (fun H locs hP2 hD2 hS => ?_)
        have e9 := wPuI (cy := cy) (j := 5) (v := (S.I o1 5) + (1 : Int32)) hD (((sh.rf S).i (S.f o1 2) (upd (S.i (S.f o1 2)) (S.I o1 5).toNatClampNeg ((S.i (S.f o1 2) (S.I o1 5).toNatClampNeg) + (x1 / (S.I o1 1))))).L h_o1.1.1) (((sh.rf S).i (S.f o1 2) (upd (S.i (S.f o1 2)) (S.I o1 5).toNatClampNeg ((S.i (S.f o1 2) (S.I o1 5).toNatClampNeg) + (x1 / (S.I o1 1))))).K h_o1.1.2.1) gk15 rfl
        have hP : va_P D vwCl (X ++ PL cy ((S.si (S.f o1 2) (upd (S.i (S.f o1 2)) (S.I o1 5).toNatClampNeg ((S.i (S.f o1 2) (S.I o1 5).toNatClampNeg) + (x1 / (S.I o1 1))))).sI o1 5 ((S.I o1 5) + (1 : Int32)))) H := by rw [← e9]; exact hP2
        have hD : va_D A (X ++ PL cy ((S.si (S.f o1 2) (upd (S.i (S.f o1 2)) (S.I o1 5).toNatClampNeg ((S.i (S.f o1 2) (S.I o1 5).toNatClampNeg) + (x1 / (S.I o1 1))))).sI o1 5 ((S.I o1 5) + (1 : Int32)))) := by rw [← e9]; exact hD2
        refine lv_iload_n hx hb dX3_turnToNext_58 rfl (lv_at hl 0 rfl) ?_
        exact W.iret (v := S.I o1 5) hx hb hr (fun t ht hW => ⟨⟨S.I o1 5, (S.si (S.f o1 2) (upd (S.i (S.f o1 2)) (S.I o1 5).toNatClampNeg ((S.i (S.f o1 2) (S.I o1 5).toNatClampNeg) + (x1 / (S.I o1 1))))).sI o1 5 ((S.I o1 5) + (1 : Int32)), rfl, (⟨(by show (S.I o1 5, (S.si (S.f o1 2) (upd (S.i (S.f o1 2)) (S.I o1 5).toNatClampNeg ((S.i (S.f o1 2) (S.I o1 5).toNatClampNeg) + (x1 / (S.I o1 1))))).sI o1 5 ((S.I o1 5) + (1 : Int32))) = f_X3_turnToNext S o1 x1; unfold f_X3_turnToNext; rw [if_neg c4, if_neg c6, if_neg c13]), (((sh.rf S).i (S.f o1 2) (upd (S.i (S.f o1 2)) (S.I o1 5).toNatClampNeg ((S.i (S.f o1 2) (S.I o1 5).toNatClampNeg) + (x1 / (S.I o1 1))))).I o1 5 ((S.I o1 5) + (1 : Int32)))⟩), wd_end hP hK hD ht hW.alike⟩, hS.F ht⟩) hS.2.2 dX3_turnToNext_59 hlocks
