def f_X8_comesFirst (S : wPS) (o1 : Nat) (x1 : Int32) (x2 : Int32) : Int32 := if (f_X9_commonDivisor x1 x2) = (1 : Int32) then if (f_X9_commonDivisor (S.I o1 2) (S.I o1 3)) = (1 : Int32) then if (1 : Int32) = (1 : Int32) then if (x1 + x2) = ((S.I o1 2) + (S.I o1 3)) then if (S.I o1 2) ≤ x1 then (0 : Int32) else (1 : Int32) else if ((S.I o1 2) + (S.I o1 3)) ≤ (x1 + x2) then (0 : Int32) else (1 : Int32) else (1 : Int32) else if (1 : Int32) = (0 : Int32) then if (x1 + x2) = ((S.I o1 2) + (S.I o1 3)) then if (S.I o1 2) ≤ x1 then (0 : Int32) else (1 : Int32) else if ((S.I o1 2) + (S.I o1 3)) ≤ (x1 + x2) then (0 : Int32) else (1 : Int32) else (1 : Int32) else if (f_X9_commonDivisor (S.I o1 2) (S.I o1 3)) = (1 : Int32) then if (0 : Int32) = (1 : Int32) then if (x1 + x2) = ((S.I o1 2) + (S.I o1 3)) then if (S.I o1 2) ≤ x1 then (0 : Int32) else (1 : Int32) else if ((S.I o1 2) + (S.I o1 3)) ≤ (x1 + x2) then (0 : Int32) else (1 : Int32) else (0 : Int32) else if (0 : Int32) = (0 : Int32) then if (x1 + x2) = ((S.I o1 2) + (S.I o1 3)) then if (S.I o1 2) ≤ x1 then (0 : Int32) else (1 : Int32) else if ((S.I o1 2) + (S.I o1 3)) ≤ (x1 + x2) then (0 : Int32) else (1 : Int32) else (0 : Int32)
theorem f_X8_comesFirst_b (S : wPS) (o1 : Nat) (x1 : Int32) (x2 : Int32) : narrow .boolean (.int (f_X8_comesFirst S o1 x1 x2)) = .int (f_X8_comesFirst S o1 x1 x2) := by
  unfold f_X8_comesFirst; (repeat' split) <;> rfl
set_option maxHeartbeats 4000000 in
set_option maxRecDepth 100000 in
theorem c_X8_comesFirst (l : Launch) {D : va_G} {cy : Nat → ClassId} {X : va_W} (S : wPS) (sz : Nat) (o1 : Nat) (h_o1 : ok8 S o1) (x1 : Int32) (x2 : Int32)  : Met l yX8_comesFirst wsX8_comesFirst ({ frames := 2, cells := 0, slots := 0, locals := 38 }) (va_Pc [.ref o1, .int x1, .int x2] (fun U => U.heap.size = sz ∧ WD D cy X (fun _ => True) S U ∧ NW U)) (va_Qi (fun r (_ : Unit) => r = f_X8_comesFirst S o1 x1 x2) (fun _ t => WD D cy X (va_A (X ++ PL cy S) sz) S t) (va_A (X ++ PL cy S) sz)) 0 0 (va_A (X ++ PL cy S) sz) := by
  refine Met.ofW (cc := cX8_comesFirst) (maxL := 5) (ret := (some .boolean)) (by decide) rfl ?_
  intro p e s m args below meth c s₁ B hml hv
  obtain ⟨rfl, hsz, ⟨hP, hK, hD0⟩, hN⟩ := hv
  have hx := B.exec
  have hb := B.bytes
  have hr := B.returns
  have hts := atoms_spec (ws := wsX8_comesFirst) B.pre
  have hown : s.vm.findClass RX8 = some m.cls := findClass_of_methodNamed B.named
  have hlocks := B.notSynchronized
  subst hsz
  have hD := hD0.self (sz := s.heap.size)
  generalize hAe : va_A (X ++ PL cy S) s.heap.size = A at hD ⊢
  have hA : ∀ q : Nat, s.heap.size ≤ q → A q := fun q h => by rw [← hAe]; exact Or.inr h
  have hS : va_S A s.heap s.heap [] := va_S.rf
  have hl := lv_entry ([.ref o1, .int x1, .int x2]) (n := 5) (Nat.le_of_ble_eq_true rfl)
  rw [lg_entry_eq]
  generalize (lg_sl ([.ref o1, .int x1, .int x2]) ++ List.replicate (5 - (lg_sl ([.ref o1, .int x1, .int x2])).length) Slot.unset).toArray = ls at hl ⊢
  have hl : lv_has ls 5 [(0, .ref o1), (1, .int x1), (2, .int x2)] := hl
  refine lv_iload_n hx hb dX8_comesFirst_0 rfl (lv_at hl 1 rfl) ?_
  refine lv_iload_n hx hb dX8_comesFirst_1 rfl (lv_at hl 2 rfl) ?_
  have hFc := free_all hD hS hA
  refine va_calli (va_runSN (As := [.int x1, .int x2]) (rest := []) ⟨hx, hb, hml, hown, hts⟩ (c_X9_commonDivisor l (cy := cy) (X := X) (D := D) S _ x1 x2) ⟨va_cnB 2 hts gX8_comesFirst_X9_commonDivisor_n50 rfl rfl rfl (hN (.methodLinkNest RX8 50 yX9_commonDivisor RX9) (by decide +kernel)) (hts (.initialized RX9) (by decide +kernel)) (by decide +kernel) ⟨Nat.le_of_ble_eq_true rfl, Nat.le_of_ble_eq_true rfl⟩, hts (.static yX9_commonDivisor) (by decide +kernel), trivial⟩ ⟨fun a U g mk q => ⟨q.1, q.2.1, q.2.2.1.calling, NW.same (u := U) (U := U.calling g mk a) rfl q.2.2.2⟩, fun U hU hW => ⟨rfl, by rw [hU], wd_pre hP hK hD hU hW, hN.warm hW⟩⟩ rfl rfl hl.1 rfl (lv_room (Nat.le_of_ble_eq_true rfl)) dX8_comesFirst_2 ⟨(Nat.zero_le _), (Nat.zero_le _)⟩) hS (fun q _ h => hFc q h) hFc (fun r1 u t H1 locs ht hvm hw hB hz1 hk1 hS => ?_)
  obtain ⟨hP, hD⟩ := wd_post hFc ht hB
  generalize H1 = H at hP hS ⊢
  obtain rfl : r1 = f_X9_commonDivisor x1 x2 := hw
  refine lv_iconst (v := 1) hx hb dX8_comesFirst_5 (by decide) ?_
  refine lv_icmp_ne (tgt := 13) hx hb dX8_comesFirst_6 (by decide) (fun c2 => ?_) (fun c2 => ?_)
  · refine lv_iconst (v := 0) hx hb dX8_comesFirst_13 (by decide) ?_
    refine lv_istore_n (lv' := [(3, .int (0 : Int32)), (0, .ref o1), (1, .int x1), (2, .int x2)]) hx hb dX8_comesFirst_14 rfl hl (by decide) rfl (fun ls hl => ?_)
    refine lv_aload_n hx hb dX8_comesFirst_15 rfl (lv_at hl 1 rfl) ?_
    obtain ⟨k3, gk3, hk3⟩ := wGt (cy := cy) X S h_o1.1.1 h_o1.1.2.1
    refine va_get (D := D) (ci := 12) (v := .int (S.I o1 2)) (C := RX8) (T := TX8) (N := 5) hx hb hts (by decide +kernel) hown hK hP k3 hk3 rfl 2 (by decide) (hts (.fieldLink RX8 47 "Hobhouse$Train" "first" "I") (by decide +kernel)) (fun _ h9 => h9) rfl dX8_comesFirst_16 ?_
    refine lv_aload_n hx hb dX8_comesFirst_19 rfl (lv_at hl 1 rfl) ?_
    obtain ⟨k4, gk4, hk4⟩ := wGt (cy := cy) X S h_o1.1.1 h_o1.1.2.1
    refine va_get (D := D) (ci := 12) (v := .int (S.I o1 3)) (C := RX8) (T := TX8) (N := 5) hx hb hts (by decide +kernel) hown hK hP k4 hk4 rfl 3 (by decide) (hts (.fieldLink RX8 36 "Hobhouse$Train" "second" "I") (by decide +kernel)) (fun _ h9 => h9) rfl dX8_comesFirst_20 ?_
    have hFc := free_all hD hS hA
    refine va_calli (va_runSN (As := [.int (S.I o1 2), .int (S.I o1 3)]) (rest := []) ⟨hx, hb, hml, hown, hts⟩ (c_X9_commonDivisor l (cy := cy) (X := X) (D := D) S _ (S.I o1 2) (S.I o1 3)) ⟨va_cnB 2 hts gX8_comesFirst_X9_commonDivisor_n50 rfl rfl rfl (hN (.methodLinkNest RX8 50 yX9_commonDivisor RX9) (by decide +kernel)) (hts (.initialized RX9) (by decide +kernel)) (by decide +kernel) ⟨Nat.le_of_ble_eq_true rfl, Nat.le_of_ble_eq_true rfl⟩, hts (.static yX9_commonDivisor) (by decide +kernel), trivial⟩ ⟨fun a U g mk q => ⟨q.1, q.2.1, q.2.2.1.calling, NW.same (u := U) (U := U.calling g mk a) rfl q.2.2.2⟩, fun U hU hW => ⟨rfl, by rw [hU], wd_pre hP hK hD hU hW, hN.warm hW⟩⟩ rfl rfl hl.1 rfl (lv_room (Nat.le_of_ble_eq_true rfl)) dX8_comesFirst_23 ⟨(Nat.zero_le _), (Nat.zero_le _)⟩) hS (fun q _ h => hFc q h) hFc (fun r5 u t H1 locs ht hvm hw hB hz1 hk1 hS => ?_)
    obtain ⟨hP, hD⟩ := wd_post hFc ht hB
    generalize H1 = H at hP hS ⊢
    obtain rfl : r5 = f_X9_commonDivisor (S.I o1 2) (S.I o1 3) := hw
    refine lv_iconst (v := 1) hx hb dX8_comesFirst_26 (by decide) ?_
    refine lv_icmp_ne (tgt := 34) hx hb dX8_comesFirst_27 (by decide) (fun c6 => ?_) (fun c6 => ?_)
    · refine lv_iconst (v := 0) hx hb dX8_comesFirst_34 (by decide) ?_
      refine lv_istore (lv' := [(4, .int (0 : Int32)), (3, .int (0 : Int32)), (0, .ref o1), (1, .int x1), (2, .int x2)]) hx hb dX8_comesFirst_35 hl (by decide) rfl (fun ls hl => ?_)
      refine lv_iload_n hx hb dX8_comesFirst_37 rfl (lv_at hl 1 rfl) ?_
      refine lv_iload hx hb dX8_comesFirst_38 (lv_at hl 0 rfl) ?_
      refine lv_icmp_eq (tgt := 45) hx hb dX8_comesFirst_40 (by decide) (fun c7 => ?_) (fun c7 => ?_)
      · refine lv_iload_n hx hb dX8_comesFirst_45 rfl (lv_at hl 3 rfl) ?_
        refine lv_iload_n hx hb dX8_comesFirst_46 rfl (lv_at hl 4 rfl) ?_
        refine lv_iadd hx hb dX8_comesFirst_47 ?_
        refine lv_aload_n hx hb dX8_comesFirst_48 rfl (lv_at hl 2 rfl) ?_
        obtain ⟨k8, gk8, hk8⟩ := wGt (cy := cy) X S h_o1.1.1 h_o1.1.2.1
        refine va_get (D := D) (ci := 12) (v := .int (S.I o1 2)) (C := RX8) (T := TX8) (N := 5) hx hb hts (by decide +kernel) hown hK hP k8 hk8 rfl 2 (by decide) (hts (.fieldLink RX8 47 "Hobhouse$Train" "first" "I") (by decide +kernel)) (fun _ h9 => h9) rfl dX8_comesFirst_49 ?_
        refine lv_aload_n hx hb dX8_comesFirst_52 rfl (lv_at hl 2 rfl) ?_
        obtain ⟨k9, gk9, hk9⟩ := wGt (cy := cy) X S h_o1.1.1 h_o1.1.2.1
        refine va_get (D := D) (ci := 12) (v := .int (S.I o1 3)) (C := RX8) (T := TX8) (N := 5) hx hb hts (by decide +kernel) hown hK hP k9 hk9 rfl 3 (by decide) (hts (.fieldLink RX8 36 "Hobhouse$Train" "second" "I") (by decide +kernel)) (fun _ h9 => h9) rfl dX8_comesFirst_53 ?_
        refine lv_iadd hx hb dX8_comesFirst_56 ?_
        refine lv_icmp_eq (tgt := 81) hx hb dX8_comesFirst_57 (by decide) (fun c10 => ?_) (fun c10 => ?_)
        · refine lv_iload_n hx hb dX8_comesFirst_81 rfl (lv_at hl 3 rfl) ?_
          refine lv_aload_n hx hb dX8_comesFirst_82 rfl (lv_at hl 2 rfl) ?_
          obtain ⟨k11, gk11, hk11⟩ := wGt (cy := cy) X S h_o1.1.1 h_o1.1.2.1
          refine va_get (D := D) (ci := 12) (v := .int (S.I o1 2)) (C := RX8) (T := TX8) (N := 5) hx hb hts (by decide +kernel) hown hK hP k11 hk11 rfl 2 (by decide) (hts (.fieldLink RX8 47 "Hobhouse$Train" "first" "I") (by decide +kernel)) (fun _ h9 => h9) rfl dX8_comesFirst_83 ?_
          refine lv_icmp_ge (tgt := 93) hx hb dX8_comesFirst_86 (by decide) (fun c12 => ?_) (fun c12 => ?_)
          · refine lv_iconst (v := 0) hx hb dX8_comesFirst_93 (by decide) ?_
            exact W.zret (v := (0 : Int32)) hx hb hr (by rfl) (fun t ht hW => ⟨⟨(0 : Int32), (), rfl, (by show (0 : Int32) = f_X8_comesFirst S o1 x1 x2; unfold f_X8_comesFirst; rw [if_neg c2, if_neg c6, if_pos c7, if_pos c10, if_pos c12]), wd_end hP hK hD ht hW.alike⟩, hS.F ht⟩) hS.2.2 dX8_comesFirst_94 hlocks
          · refine lv_iconst (v := 1) hx hb dX8_comesFirst_89 (by decide) ?_
            refine lv_goto (tgt := 94) hx hb dX8_comesFirst_90 (by decide) ?_
            exact W.zret (v := (1 : Int32)) hx hb hr (by rfl) (fun t ht hW => ⟨⟨(1 : Int32), (), rfl, (by show (1 : Int32) = f_X8_comesFirst S o1 x1 x2; unfold f_X8_comesFirst; rw [if_neg c2, if_neg c6, if_pos c7, if_pos c10, if_neg c12]), wd_end hP hK hD ht hW.alike⟩, hS.F ht⟩) hS.2.2 dX8_comesFirst_94 hlocks
        · refine lv_iload_n hx hb dX8_comesFirst_60 rfl (lv_at hl 3 rfl) ?_
          refine lv_iload_n hx hb dX8_comesFirst_61 rfl (lv_at hl 4 rfl) ?_
          refine lv_iadd hx hb dX8_comesFirst_62 ?_
          refine lv_aload_n hx hb dX8_comesFirst_63 rfl (lv_at hl 2 rfl) ?_
          obtain ⟨k13, gk13, hk13⟩ := wGt (cy := cy) X S h_o1.1.1 h_o1.1.2.1
          refine va_get (D := D) (ci := 12) (v := .int (S.I o1 2)) (C := RX8) (T := TX8) (N := 5) hx hb hts (by decide +kernel) hown hK hP k13 hk13 rfl 2 (by decide) (hts (.fieldLink RX8 47 "Hobhouse$Train" "first" "I") (by decide +kernel)) (fun _ h9 => h9) rfl dX8_comesFirst_64 ?_
          refine lv_aload_n hx hb dX8_comesFirst_67 rfl (lv_at hl 2 rfl) ?_
          obtain ⟨k14, gk14, hk14⟩ := wGt (cy := cy) X S h_o1.1.1 h_o1.1.2.1
          refine va_get (D := D) (ci := 12) (v := .int (S.I o1 3)) (C := RX8) (T := TX8) (N := 5) hx hb hts (by decide +kernel) hown hK hP k14 hk14 rfl 3 (by decide) (hts (.fieldLink RX8 36 "Hobhouse$Train" "second" "I") (by decide +kernel)) (fun _ h9 => h9) rfl dX8_comesFirst_68 ?_
          refine lv_iadd hx hb dX8_comesFirst_71 ?_
          refine lv_icmp_ge (tgt := 79) hx hb dX8_comesFirst_72 (by decide) (fun c15 => ?_) (fun c15 => ?_)
          · refine lv_iconst (v := 0) hx hb dX8_comesFirst_79 (by decide) ?_
            exact W.zret (v := (0 : Int32)) hx hb hr (by rfl) (fun t ht hW => ⟨⟨(0 : Int32), (), rfl, (by show (0 : Int32) = f_X8_comesFirst S o1 x1 x2; unfold f_X8_comesFirst; rw [if_neg c2, if_neg c6, if_pos c7, if_neg c10, if_pos c15]), wd_end hP hK hD ht hW.alike⟩, hS.F ht⟩) hS.2.2 dX8_comesFirst_80 hlocks
          · refine lv_iconst (v := 1) hx hb dX8_comesFirst_75 (by decide) ?_
            refine lv_goto (tgt := 80) hx hb dX8_comesFirst_76 (by decide) ?_
            exact W.zret (v := (1 : Int32)) hx hb hr (by rfl) (fun t ht hW => ⟨⟨(1 : Int32), (), rfl, (by show (1 : Int32) = f_X8_comesFirst S o1 x1 x2; unfold f_X8_comesFirst; rw [if_neg c2, if_neg c6, if_pos c7, if_neg c10, if_neg c15]), wd_end hP hK hD ht hW.alike⟩, hS.F ht⟩) hS.2.2 dX8_comesFirst_80 hlocks
      · refine lv_iload_n hx hb dX8_comesFirst_43 rfl (lv_at hl 1 rfl) ?_
        exact W.zret (v := (0 : Int32)) hx hb hr (by rfl) (fun t ht hW => ⟨⟨(0 : Int32), (), rfl, (by show (0 : Int32) = f_X8_comesFirst S o1 x1 x2; unfold f_X8_comesFirst; rw [if_neg c2, if_neg c6, if_neg c7]), wd_end hP hK hD ht hW.alike⟩, hS.F ht⟩) hS.2.2 dX8_comesFirst_44 hlocks
    · refine lv_iconst (v := 1) hx hb dX8_comesFirst_30 (by decide) ?_
      refine lv_goto (tgt := 35) hx hb dX8_comesFirst_31 (by decide) ?_
      refine lv_istore (lv' := [(4, .int (1 : Int32)), (3, .int (0 : Int32)), (0, .ref o1), (1, .int x1), (2, .int x2)]) hx hb dX8_comesFirst_35 hl (by decide) rfl (fun ls hl => ?_)
      refine lv_iload_n hx hb dX8_comesFirst_37 rfl (lv_at hl 1 rfl) ?_
      refine lv_iload hx hb dX8_comesFirst_38 (lv_at hl 0 rfl) ?_
      refine lv_icmp_eq (tgt := 45) hx hb dX8_comesFirst_40 (by decide) (fun c16 => ?_) (fun c16 => ?_)
      · refine lv_iload_n hx hb dX8_comesFirst_45 rfl (lv_at hl 3 rfl) ?_
        refine lv_iload_n hx hb dX8_comesFirst_46 rfl (lv_at hl 4 rfl) ?_
        refine lv_iadd hx hb dX8_comesFirst_47 ?_
        refine lv_aload_n hx hb dX8_comesFirst_48 rfl (lv_at hl 2 rfl) ?_
        obtain ⟨k17, gk17, hk17⟩ := wGt (cy := cy) X S h_o1.1.1 h_o1.1.2.1
        refine va_get (D := D) (ci := 12) (v := .int (S.I o1 2)) (C := RX8) (T := TX8) (N := 5) hx hb hts (by decide +kernel) hown hK hP k17 hk17 rfl 2 (by decide) (hts (.fieldLink RX8 47 "Hobhouse$Train" "first" "I") (by decide +kernel)) (fun _ h9 => h9) rfl dX8_comesFirst_49 ?_
        refine lv_aload_n hx hb dX8_comesFirst_52 rfl (lv_at hl 2 rfl) ?_
        obtain ⟨k18, gk18, hk18⟩ := wGt (cy := cy) X S h_o1.1.1 h_o1.1.2.1
        refine va_get (D := D) (ci := 12) (v := .int (S.I o1 3)) (C := RX8) (T := TX8) (N := 5) hx hb hts (by decide +kernel) hown hK hP k18 hk18 rfl 3 (by decide) (hts (.fieldLink RX8 36 "Hobhouse$Train" "second" "I") (by decide +kernel)) (fun _ h9 => h9) rfl dX8_comesFirst_53 ?_
        refine lv_iadd hx hb dX8_comesFirst_56 ?_
        refine lv_icmp_eq (tgt := 81) hx hb dX8_comesFirst_57 (by decide) (fun c19 => ?_) (fun c19 => ?_)
        · refine lv_iload_n hx hb dX8_comesFirst_81 rfl (lv_at hl 3 rfl) ?_
          refine lv_aload_n hx hb dX8_comesFirst_82 rfl (lv_at hl 2 rfl) ?_
          obtain ⟨k20, gk20, hk20⟩ := wGt (cy := cy) X S h_o1.1.1 h_o1.1.2.1
          refine va_get (D := D) (ci := 12) (v := .int (S.I o1 2)) (C := RX8) (T := TX8) (N := 5) hx hb hts (by decide +kernel) hown hK hP k20 hk20 rfl 2 (by decide) (hts (.fieldLink RX8 47 "Hobhouse$Train" "first" "I") (by decide +kernel)) (fun _ h9 => h9) rfl dX8_comesFirst_83 ?_
          refine lv_icmp_ge (tgt := 93) hx hb dX8_comesFirst_86 (by decide) (fun c21 => ?_) (fun c21 => ?_)
          · refine lv_iconst (v := 0) hx hb dX8_comesFirst_93 (by decide) ?_
            exact W.zret (v := (0 : Int32)) hx hb hr (by rfl) (fun t ht hW => ⟨⟨(0 : Int32), (), rfl, (by show (0 : Int32) = f_X8_comesFirst S o1 x1 x2; unfold f_X8_comesFirst; rw [if_neg c2, if_pos c6, if_pos c16, if_pos c19, if_pos c21]), wd_end hP hK hD ht hW.alike⟩, hS.F ht⟩) hS.2.2 dX8_comesFirst_94 hlocks
          · refine lv_iconst (v := 1) hx hb dX8_comesFirst_89 (by decide) ?_
            refine lv_goto (tgt := 94) hx hb dX8_comesFirst_90 (by decide) ?_
            exact W.zret (v := (1 : Int32)) hx hb hr (by rfl) (fun t ht hW => ⟨⟨(1 : Int32), (), rfl, (by show (1 : Int32) = f_X8_comesFirst S o1 x1 x2; unfold f_X8_comesFirst; rw [if_neg c2, if_pos c6, if_pos c16, if_pos c19, if_neg c21]), wd_end hP hK hD ht hW.alike⟩, hS.F ht⟩) hS.2.2 dX8_comesFirst_94 hlocks
        · refine lv_iload_n hx hb dX8_comesFirst_60 rfl (lv_at hl 3 rfl) ?_
          refine lv_iload_n hx hb dX8_comesFirst_61 rfl (lv_at hl 4 rfl) ?_
          refine lv_iadd hx hb dX8_comesFirst_62 ?_
          refine lv_aload_n hx hb dX8_comesFirst_63 rfl (lv_at hl 2 rfl) ?_
          obtain ⟨k22, gk22, hk22⟩ := wGt (cy := cy) X S h_o1.1.1 h_o1.1.2.1
          refine va_get (D := D) (ci := 12) (v := .int (S.I o1 2)) (C := RX8) (T := TX8) (N := 5) hx hb hts (by decide +kernel) hown hK hP k22 hk22 rfl 2 (by decide) (hts (.fieldLink RX8 47 "Hobhouse$Train" "first" "I") (by decide +kernel)) (fun _ h9 => h9) rfl dX8_comesFirst_64 ?_
          refine lv_aload_n hx hb dX8_comesFirst_67 rfl (lv_at hl 2 rfl) ?_
          obtain ⟨k23, gk23, hk23⟩ := wGt (cy := cy) X S h_o1.1.1 h_o1.1.2.1
          refine va_get (D := D) (ci := 12) (v := .int (S.I o1 3)) (C := RX8) (T := TX8) (N := 5) hx hb hts (by decide +kernel) hown hK hP k23 hk23 rfl 3 (by decide) (hts (.fieldLink RX8 36 "Hobhouse$Train" "second" "I") (by decide +kernel)) (fun _ h9 => h9) rfl dX8_comesFirst_68 ?_
          refine lv_iadd hx hb dX8_comesFirst_71 ?_
          refine lv_icmp_ge (tgt := 79) hx hb dX8_comesFirst_72 (by decide) (fun c24 => ?_) (fun c24 => ?_)
          · refine lv_iconst (v := 0) hx hb dX8_comesFirst_79 (by decide) ?_
            exact W.zret (v := (0 : Int32)) hx hb hr (by rfl) (fun t ht hW => ⟨⟨(0 : Int32), (), rfl, (by show (0 : Int32) = f_X8_comesFirst S o1 x1 x2; unfold f_X8_comesFirst; rw [if_neg c2, if_pos c6, if_pos c16, if_neg c19, if_pos c24]), wd_end hP hK hD ht hW.alike⟩, hS.F ht⟩) hS.2.2 dX8_comesFirst_80 hlocks
          · refine lv_iconst (v := 1) hx hb dX8_comesFirst_75 (by decide) ?_
            refine lv_goto (tgt := 80) hx hb dX8_comesFirst_76 (by decide) ?_
            exact W.zret (v := (1 : Int32)) hx hb hr (by rfl) (fun t ht hW => ⟨⟨(1 : Int32), (), rfl, (by show (1 : Int32) = f_X8_comesFirst S o1 x1 x2; unfold f_X8_comesFirst; rw [if_neg c2, if_pos c6, if_pos c16, if_neg c19, if_neg c24]), wd_end hP hK hD ht hW.alike⟩, hS.F ht⟩) hS.2.2 dX8_comesFirst_80 hlocks
      · refine lv_iload_n hx hb dX8_comesFirst_43 rfl (lv_at hl 1 rfl) ?_
        exact W.zret (v := (0 : Int32)) hx hb hr (by rfl) (fun t ht hW => ⟨⟨(0 : Int32), (), rfl, (by show (0 : Int32) = f_X8_comesFirst S o1 x1 x2; unfold f_X8_comesFirst; rw [if_neg c2, if_pos c6, if_neg c16]), wd_end hP hK hD ht hW.alike⟩, hS.F ht⟩) hS.2.2 dX8_comesFirst_44 hlocks
  · refine lv_iconst (v := 1) hx hb dX8_comesFirst_9 (by decide) ?_
    refine lv_goto (tgt := 14) hx hb dX8_comesFirst_10 (by decide) ?_
    refine lv_istore_n (lv' := [(3, .int (1 : Int32)), (0, .ref o1), (1, .int x1), (2, .int x2)]) hx hb dX8_comesFirst_14 rfl hl (by decide) rfl (fun ls hl => ?_)
    refine lv_aload_n hx hb dX8_comesFirst_15 rfl (lv_at hl 1 rfl) ?_
    obtain ⟨k25, gk25, hk25⟩ := wGt (cy := cy) X S h_o1.1.1 h_o1.1.2.1
    refine va_get (D := D) (ci := 12) (v := .int (S.I o1 2)) (C := RX8) (T := TX8) (N := 5) hx hb hts (by decide +kernel) hown hK hP k25 hk25 rfl 2 (by decide) (hts (.fieldLink RX8 47 "Hobhouse$Train" "first" "I") (by decide +kernel)) (fun _ h9 => h9) rfl dX8_comesFirst_16 ?_
    refine lv_aload_n hx hb dX8_comesFirst_19 rfl (lv_at hl 1 rfl) ?_
    obtain ⟨k26, gk26, hk26⟩ := wGt (cy := cy) X S h_o1.1.1 h_o1.1.2.1
    refine va_get (D := D) (ci := 12) (v := .int (S.I o1 3)) (C := RX8) (T := TX8) (N := 5) hx hb hts (by decide +kernel) hown hK hP k26 hk26 rfl 3 (by decide) (hts (.fieldLink RX8 36 "Hobhouse$Train" "second" "I") (by decide +kernel)) (fun _ h9 => h9) rfl dX8_comesFirst_20 ?_
    have hFc := free_all hD hS hA
    refine va_calli (va_runSN (As := [.int (S.I o1 2), .int (S.I o1 3)]) (rest := []) ⟨hx, hb, hml, hown, hts⟩ (c_X9_commonDivisor l (cy := cy) (X := X) (D := D) S _ (S.I o1 2) (S.I o1 3)) ⟨va_cnB 2 hts gX8_comesFirst_X9_commonDivisor_n50 rfl rfl rfl (hN (.methodLinkNest RX8 50 yX9_commonDivisor RX9) (by decide +kernel)) (hts (.initialized RX9) (by decide +kernel)) (by decide +kernel) ⟨Nat.le_of_ble_eq_true rfl, Nat.le_of_ble_eq_true rfl⟩, hts (.static yX9_commonDivisor) (by decide +kernel), trivial⟩ ⟨fun a U g mk q => ⟨q.1, q.2.1, q.2.2.1.calling, NW.same (u := U) (U := U.calling g mk a) rfl q.2.2.2⟩, fun U hU hW => ⟨rfl, by rw [hU], wd_pre hP hK hD hU hW, hN.warm hW⟩⟩ rfl rfl hl.1 rfl (lv_room (Nat.le_of_ble_eq_true rfl)) dX8_comesFirst_23 ⟨(Nat.zero_le _), (Nat.zero_le _)⟩) hS (fun q _ h => hFc q h) hFc (fun r27 u t H1 locs ht hvm hw hB hz1 hk1 hS => ?_)
    obtain ⟨hP, hD⟩ := wd_post hFc ht hB
    generalize H1 = H at hP hS ⊢
    obtain rfl : r27 = f_X9_commonDivisor (S.I o1 2) (S.I o1 3) := hw
    refine lv_iconst (v := 1) hx hb dX8_comesFirst_26 (by decide) ?_
    refine lv_icmp_ne (tgt := 34) hx hb dX8_comesFirst_27 (by decide) (fun c28 => ?_) (fun c28 => ?_)
    · refine lv_iconst (v := 0) hx hb dX8_comesFirst_34 (by decide) ?_
      refine lv_istore (lv' := [(4, .int (0 : Int32)), (3, .int (1 : Int32)), (0, .ref o1), (1, .int x1), (2, .int x2)]) hx hb dX8_comesFirst_35 hl (by decide) rfl (fun ls hl => ?_)
      refine lv_iload_n hx hb dX8_comesFirst_37 rfl (lv_at hl 1 rfl) ?_
      refine lv_iload hx hb dX8_comesFirst_38 (lv_at hl 0 rfl) ?_
      refine lv_icmp_eq (tgt := 45) hx hb dX8_comesFirst_40 (by decide) (fun c29 => ?_) (fun c29 => ?_)
      · refine lv_iload_n hx hb dX8_comesFirst_45 rfl (lv_at hl 3 rfl) ?_
        refine lv_iload_n hx hb dX8_comesFirst_46 rfl (lv_at hl 4 rfl) ?_
        refine lv_iadd hx hb dX8_comesFirst_47 ?_
        refine lv_aload_n hx hb dX8_comesFirst_48 rfl (lv_at hl 2 rfl) ?_
        obtain ⟨k30, gk30, hk30⟩ := wGt (cy := cy) X S h_o1.1.1 h_o1.1.2.1
        refine va_get (D := D) (ci := 12) (v := .int (S.I o1 2)) (C := RX8) (T := TX8) (N := 5) hx hb hts (by decide +kernel) hown hK hP k30 hk30 rfl 2 (by decide) (hts (.fieldLink RX8 47 "Hobhouse$Train" "first" "I") (by decide +kernel)) (fun _ h9 => h9) rfl dX8_comesFirst_49 ?_
        refine lv_aload_n hx hb dX8_comesFirst_52 rfl (lv_at hl 2 rfl) ?_
        obtain ⟨k31, gk31, hk31⟩ := wGt (cy := cy) X S h_o1.1.1 h_o1.1.2.1
        refine va_get (D := D) (ci := 12) (v := .int (S.I o1 3)) (C := RX8) (T := TX8) (N := 5) hx hb hts (by decide +kernel) hown hK hP k31 hk31 rfl 3 (by decide) (hts (.fieldLink RX8 36 "Hobhouse$Train" "second" "I") (by decide +kernel)) (fun _ h9 => h9) rfl dX8_comesFirst_53 ?_
        refine lv_iadd hx hb dX8_comesFirst_56 ?_
        refine lv_icmp_eq (tgt := 81) hx hb dX8_comesFirst_57 (by decide) (fun c32 => ?_) (fun c32 => ?_)
        · refine lv_iload_n hx hb dX8_comesFirst_81 rfl (lv_at hl 3 rfl) ?_
          refine lv_aload_n hx hb dX8_comesFirst_82 rfl (lv_at hl 2 rfl) ?_
          obtain ⟨k33, gk33, hk33⟩ := wGt (cy := cy) X S h_o1.1.1 h_o1.1.2.1
          refine va_get (D := D) (ci := 12) (v := .int (S.I o1 2)) (C := RX8) (T := TX8) (N := 5) hx hb hts (by decide +kernel) hown hK hP k33 hk33 rfl 2 (by decide) (hts (.fieldLink RX8 47 "Hobhouse$Train" "first" "I") (by decide +kernel)) (fun _ h9 => h9) rfl dX8_comesFirst_83 ?_
          refine lv_icmp_ge (tgt := 93) hx hb dX8_comesFirst_86 (by decide) (fun c34 => ?_) (fun c34 => ?_)
          · refine lv_iconst (v := 0) hx hb dX8_comesFirst_93 (by decide) ?_
            exact W.zret (v := (0 : Int32)) hx hb hr (by rfl) (fun t ht hW => ⟨⟨(0 : Int32), (), rfl, (by show (0 : Int32) = f_X8_comesFirst S o1 x1 x2; unfold f_X8_comesFirst; rw [if_pos c2, if_neg c28, if_pos c29, if_pos c32, if_pos c34]), wd_end hP hK hD ht hW.alike⟩, hS.F ht⟩) hS.2.2 dX8_comesFirst_94 hlocks
          · refine lv_iconst (v := 1) hx hb dX8_comesFirst_89 (by decide) ?_
            refine lv_goto (tgt := 94) hx hb dX8_comesFirst_90 (by decide) ?_
            exact W.zret (v := (1 : Int32)) hx hb hr (by rfl) (fun t ht hW => ⟨⟨(1 : Int32), (), rfl, (by show (1 : Int32) = f_X8_comesFirst S o1 x1 x2; unfold f_X8_comesFirst; rw [if_pos c2, if_neg c28, if_pos c29, if_pos c32, if_neg c34]), wd_end hP hK hD ht hW.alike⟩, hS.F ht⟩) hS.2.2 dX8_comesFirst_94 hlocks
        · refine lv_iload_n hx hb dX8_comesFirst_60 rfl (lv_at hl 3 rfl) ?_
          refine lv_iload_n hx hb dX8_comesFirst_61 rfl (lv_at hl 4 rfl) ?_
          refine lv_iadd hx hb dX8_comesFirst_62 ?_
          refine lv_aload_n hx hb dX8_comesFirst_63 rfl (lv_at hl 2 rfl) ?_
          obtain ⟨k35, gk35, hk35⟩ := wGt (cy := cy) X S h_o1.1.1 h_o1.1.2.1
          refine va_get (D := D) (ci := 12) (v := .int (S.I o1 2)) (C := RX8) (T := TX8) (N := 5) hx hb hts (by decide +kernel) hown hK hP k35 hk35 rfl 2 (by decide) (hts (.fieldLink RX8 47 "Hobhouse$Train" "first" "I") (by decide +kernel)) (fun _ h9 => h9) rfl dX8_comesFirst_64 ?_
          refine lv_aload_n hx hb dX8_comesFirst_67 rfl (lv_at hl 2 rfl) ?_
          obtain ⟨k36, gk36, hk36⟩ := wGt (cy := cy) X S h_o1.1.1 h_o1.1.2.1
          refine va_get (D := D) (ci := 12) (v := .int (S.I o1 3)) (C := RX8) (T := TX8) (N := 5) hx hb hts (by decide +kernel) hown hK hP k36 hk36 rfl 3 (by decide) (hts (.fieldLink RX8 36 "Hobhouse$Train" "second" "I") (by decide +kernel)) (fun _ h9 => h9) rfl dX8_comesFirst_68 ?_
          refine lv_iadd hx hb dX8_comesFirst_71 ?_
          refine lv_icmp_ge (tgt := 79) hx hb dX8_comesFirst_72 (by decide) (fun c37 => ?_) (fun c37 => ?_)
          · refine lv_iconst (v := 0) hx hb dX8_comesFirst_79 (by decide) ?_
            exact W.zret (v := (0 : Int32)) hx hb hr (by rfl) (fun t ht hW => ⟨⟨(0 : Int32), (), rfl, (by show (0 : Int32) = f_X8_comesFirst S o1 x1 x2; unfold f_X8_comesFirst; rw [if_pos c2, if_neg c28, if_pos c29, if_neg c32, if_pos c37]), wd_end hP hK hD ht hW.alike⟩, hS.F ht⟩) hS.2.2 dX8_comesFirst_80 hlocks
          · refine lv_iconst (v := 1) hx hb dX8_comesFirst_75 (by decide) ?_
            refine lv_goto (tgt := 80) hx hb dX8_comesFirst_76 (by decide) ?_
            exact W.zret (v := (1 : Int32)) hx hb hr (by rfl) (fun t ht hW => ⟨⟨(1 : Int32), (), rfl, (by show (1 : Int32) = f_X8_comesFirst S o1 x1 x2; unfold f_X8_comesFirst; rw [if_pos c2, if_neg c28, if_pos c29, if_neg c32, if_neg c37]), wd_end hP hK hD ht hW.alike⟩, hS.F ht⟩) hS.2.2 dX8_comesFirst_80 hlocks
      · refine lv_iload_n hx hb dX8_comesFirst_43 rfl (lv_at hl 1 rfl) ?_
        exact W.zret (v := (1 : Int32)) hx hb hr (by rfl) (fun t ht hW => ⟨⟨(1 : Int32), (), rfl, (by show (1 : Int32) = f_X8_comesFirst S o1 x1 x2; unfold f_X8_comesFirst; rw [if_pos c2, if_neg c28, if_neg c29]), wd_end hP hK hD ht hW.alike⟩, hS.F ht⟩) hS.2.2 dX8_comesFirst_44 hlocks
    · refine lv_iconst (v := 1) hx hb dX8_comesFirst_30 (by decide) ?_
      refine lv_goto (tgt := 35) hx hb dX8_comesFirst_31 (by decide) ?_
      refine lv_istore (lv' := [(4, .int (1 : Int32)), (3, .int (1 : Int32)), (0, .ref o1), (1, .int x1), (2, .int x2)]) hx hb dX8_comesFirst_35 hl (by decide) rfl (fun ls hl => ?_)
      refine lv_iload_n hx hb dX8_comesFirst_37 rfl (lv_at hl 1 rfl) ?_
      refine lv_iload hx hb dX8_comesFirst_38 (lv_at hl 0 rfl) ?_
      refine lv_icmp_eq (tgt := 45) hx hb dX8_comesFirst_40 (by decide) (fun c38 => ?_) (fun c38 => ?_)
      · refine lv_iload_n hx hb dX8_comesFirst_45 rfl (lv_at hl 3 rfl) ?_
        refine lv_iload_n hx hb dX8_comesFirst_46 rfl (lv_at hl 4 rfl) ?_
        refine lv_iadd hx hb dX8_comesFirst_47 ?_
        refine lv_aload_n hx hb dX8_comesFirst_48 rfl (lv_at hl 2 rfl) ?_
        obtain ⟨k39, gk39, hk39⟩ := wGt (cy := cy) X S h_o1.1.1 h_o1.1.2.1
        refine va_get (D := D) (ci := 12) (v := .int (S.I o1 2)) (C := RX8) (T := TX8) (N := 5) hx hb hts (by decide +kernel) hown hK hP k39 hk39 rfl 2 (by decide) (hts (.fieldLink RX8 47 "Hobhouse$Train" "first" "I") (by decide +kernel)) (fun _ h9 => h9) rfl dX8_comesFirst_49 ?_
        refine lv_aload_n hx hb dX8_comesFirst_52 rfl (lv_at hl 2 rfl) ?_
        obtain ⟨k40, gk40, hk40⟩ := wGt (cy := cy) X S h_o1.1.1 h_o1.1.2.1
        refine va_get (D := D) (ci := 12) (v := .int (S.I o1 3)) (C := RX8) (T := TX8) (N := 5) hx hb hts (by decide +kernel) hown hK hP k40 hk40 rfl 3 (by decide) (hts (.fieldLink RX8 36 "Hobhouse$Train" "second" "I") (by decide +kernel)) (fun _ h9 => h9) rfl dX8_comesFirst_53 ?_
        refine lv_iadd hx hb dX8_comesFirst_56 ?_
        refine lv_icmp_eq (tgt := 81) hx hb dX8_comesFirst_57 (by decide) (fun c41 => ?_) (fun c41 => ?_)
        · refine lv_iload_n hx hb dX8_comesFirst_81 rfl (lv_at hl 3 rfl) ?_
          refine lv_aload_n hx hb dX8_comesFirst_82 rfl (lv_at hl 2 rfl) ?_
          obtain ⟨k42, gk42, hk42⟩ := wGt (cy := cy) X S h_o1.1.1 h_o1.1.2.1
          refine va_get (D := D) (ci := 12) (v := .int (S.I o1 2)) (C := RX8) (T := TX8) (N := 5) hx hb hts (by decide +kernel) hown hK hP k42 hk42 rfl 2 (by decide) (hts (.fieldLink RX8 47 "Hobhouse$Train" "first" "I") (by decide +kernel)) (fun _ h9 => h9) rfl dX8_comesFirst_83 ?_
          refine lv_icmp_ge (tgt := 93) hx hb dX8_comesFirst_86 (by decide) (fun c43 => ?_) (fun c43 => ?_)
          · refine lv_iconst (v := 0) hx hb dX8_comesFirst_93 (by decide) ?_
            exact W.zret (v := (0 : Int32)) hx hb hr (by rfl) (fun t ht hW => ⟨⟨(0 : Int32), (), rfl, (by show (0 : Int32) = f_X8_comesFirst S o1 x1 x2; unfold f_X8_comesFirst; rw [if_pos c2, if_pos c28, if_pos c38, if_pos c41, if_pos c43]), wd_end hP hK hD ht hW.alike⟩, hS.F ht⟩) hS.2.2 dX8_comesFirst_94 hlocks
          · refine lv_iconst (v := 1) hx hb dX8_comesFirst_89 (by decide) ?_
            refine lv_goto (tgt := 94) hx hb dX8_comesFirst_90 (by decide) ?_
            exact W.zret (v := (1 : Int32)) hx hb hr (by rfl) (fun t ht hW => ⟨⟨(1 : Int32), (), rfl, (by show (1 : Int32) = f_X8_comesFirst S o1 x1 x2; unfold f_X8_comesFirst; rw [if_pos c2, if_pos c28, if_pos c38, if_pos c41, if_neg c43]), wd_end hP hK hD ht hW.alike⟩, hS.F ht⟩) hS.2.2 dX8_comesFirst_94 hlocks
        · refine lv_iload_n hx hb dX8_comesFirst_60 rfl (lv_at hl 3 rfl) ?_
          refine lv_iload_n hx hb dX8_comesFirst_61 rfl (lv_at hl 4 rfl) ?_
          refine lv_iadd hx hb dX8_comesFirst_62 ?_
          refine lv_aload_n hx hb dX8_comesFirst_63 rfl (lv_at hl 2 rfl) ?_
          obtain ⟨k44, gk44, hk44⟩ := wGt (cy := cy) X S h_o1.1.1 h_o1.1.2.1
          refine va_get (D := D) (ci := 12) (v := .int (S.I o1 2)) (C := RX8) (T := TX8) (N := 5) hx hb hts (by decide +kernel) hown hK hP k44 hk44 rfl 2 (by decide) (hts (.fieldLink RX8 47 "Hobhouse$Train" "first" "I") (by decide +kernel)) (fun _ h9 => h9) rfl dX8_comesFirst_64 ?_
          refine lv_aload_n hx hb dX8_comesFirst_67 rfl (lv_at hl 2 rfl) ?_
          obtain ⟨k45, gk45, hk45⟩ := wGt (cy := cy) X S h_o1.1.1 h_o1.1.2.1
          refine va_get (D := D) (ci := 12) (v := .int (S.I o1 3)) (C := RX8) (T := TX8) (N := 5) hx hb hts (by decide +kernel) hown hK hP k45 hk45 rfl 3 (by decide) (hts (.fieldLink RX8 36 "Hobhouse$Train" "second" "I") (by decide +kernel)) (fun _ h9 => h9) rfl dX8_comesFirst_68 ?_
          refine lv_iadd hx hb dX8_comesFirst_71 ?_
          refine lv_icmp_ge (tgt := 79) hx hb dX8_comesFirst_72 (by decide) (fun c46 => ?_) (fun c46 => ?_)
          · refine lv_iconst (v := 0) hx hb dX8_comesFirst_79 (by decide) ?_
            exact W.zret (v := (0 : Int32)) hx hb hr (by rfl) (fun t ht hW => ⟨⟨(0 : Int32), (), rfl, (by show (0 : Int32) = f_X8_comesFirst S o1 x1 x2; unfold f_X8_comesFirst; rw [if_pos c2, if_pos c28, if_pos c38, if_neg c41, if_pos c46]), wd_end hP hK hD ht hW.alike⟩, hS.F ht⟩) hS.2.2 dX8_comesFirst_80 hlocks
          · refine lv_iconst (v := 1) hx hb dX8_comesFirst_75 (by decide) ?_
            refine lv_goto (tgt := 80) hx hb dX8_comesFirst_76 (by decide) ?_
            exact W.zret (v := (1 : Int32)) hx hb hr (by rfl) (fun t ht hW => ⟨⟨(1 : Int32), (), rfl, (by show (1 : Int32) = f_X8_comesFirst S o1 x1 x2; unfold f_X8_comesFirst; rw [if_pos c2, if_pos c28, if_pos c38, if_neg c41, if_neg c46]), wd_end hP hK hD ht hW.alike⟩, hS.F ht⟩) hS.2.2 dX8_comesFirst_80 hlocks
      · refine lv_iload_n hx hb dX8_comesFirst_43 rfl (lv_at hl 1 rfl) ?_
        exact W.zret (v := (1 : Int32)) hx hb hr (by rfl) (fun t ht hW => ⟨⟨(1 : Int32), (), rfl, (by show (1 : Int32) = f_X8_comesFirst S o1 x1 x2; unfold f_X8_comesFirst; rw [if_pos c2, if_pos c28, if_neg c38]), wd_end hP hK hD ht hW.alike⟩, hS.F ht⟩) hS.2.2 dX8_comesFirst_44 hlocks
