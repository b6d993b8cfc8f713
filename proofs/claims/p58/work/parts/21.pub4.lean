theorem hi_X9_peak_X2 : ∀ w ∈ u_ws RX2 TX2 20, w ∈ wsX9_peak := by decide +kernel
theorem hi_X9_peak_X9 : ∀ w ∈ u_ws RX9 TX9 11, w ∈ wsX9_peak := by decide +kernel
theorem hd_X9_peak : yX9_peak.cls = RX9 ∧ yX9_peak.cls ≠ "java/lang/invoke/MethodHandle" ∧ yX9_peak.cls ≠ "java/lang/invoke/VarHandle" ∧ (parseMethodDescriptor yX9_peak.desc).map (fun d => d.parameters.length) = some 3 := by decide +kernel
set_option maxHeartbeats 4000000 in
set_option maxRecDepth 100000 in
theorem c_X9_peak (l : Launch) (hst : l.stackTraces = false) {D : va_G} {cy : Nat → ClassId} {X : va_W} (S : wPS) (sz : Nat) (o1 : Nat) (h_o1 : isA S o1 9) (x1 : Int32) (x2 : Int32) (x3 : Int32) (hW : wtB S [])  : vx_Met l yX9_peak wsX9_peak ({ frames := 8, cells := 4, slots := 24, locals := 123 }) (va_Pc [.ref o1, .int x1, .int x2, .int x3] (fun U => U.heap.size = sz ∧ WD D cy X (fun _ => True) S U ∧ NW U ∧ TH (va_A (X ++ PL cy S) sz) U)) (va_Qi (fun r (u : wPS) => stp [(6, 4), (17, 100)] [] [] S u) (fun u t => WD D cy X (va_A (X ++ PL cy S) sz) u t) (va_A (X ++ PL cy S) sz)) (vx_X (fun (u : wPS) => stp [(6, 4), (17, 100)] [] [] S u) (fun E u t => E ∈ ["java/lang/IllegalArgumentException", "java/lang/IndexOutOfBoundsException", "java/lang/UnsupportedOperationException"] ∧ WD D cy X (va_A (X ++ PL cy S) sz) u t) (va_A (X ++ PL cy S) sz)) 4 24 (va_A (X ++ PL cy S) sz) := by
  refine vx_ofW (cc := cX9_peak) (maxL := 6) (ret := (some .int)) (by decide) rfl ?_
  intro p e s m args below meth c s₁ B hml hno hv
  obtain ⟨rfl, hsz, ⟨hP, hK, hD0⟩, hN, hTH⟩ := hv
  have hx := B.exec
  have hb := B.bytes
  have hr := B.returns
  have hts := atoms_spec (ws := wsX9_peak) B.pre
  have hown : s.vm.findClass RX9 = some m.cls := findClass_of_methodNamed (x := yX9_peak) B.named
  have hlocks := B.notSynchronized
  subst hsz
  have hD := hD0.self (sz := s.heap.size)
  generalize hAe : va_A (X ++ PL cy S) s.heap.size = A at hD hTH ⊢
  have hA : ∀ q : Nat, s.heap.size ≤ q → A q := fun q h => by rw [← hAe]; exact Or.inr h
  have hS : va_S A s.heap s.heap [] := va_S.rf
  have hl := lv_entry ([.ref o1, .int x1, .int x2, .int x3]) (n := 6) (Nat.le_of_ble_eq_true rfl)
  rw [lg_entry_eq]
  generalize (lg_sl ([.ref o1, .int x1, .int x2, .int x3]) ++ List.replicate (6 - (lg_sl ([.ref o1, .int x1, .int x2, .int x3])).length) Slot.unset).toArray = ls at hl ⊢
  have hl : lv_has ls 6 [(0, .ref o1), (1, .int x1), (2, .int x2), (3, .int x3)] := hl
  have t0 : stp [(6, 4), (17, 100)] [] [] S S := stp.rf hW
  refine lv_aload_n hx hb dX9_peak_0 rfl (lv_at hl 0 rfl) ?_
  refine lv_iload_n hx hb dX9_peak_1 rfl (lv_at hl 1 rfl) ?_
  have hFc := free_all hD hS hA
  obtain ⟨k1, gk1, hk1⟩ := wGt (cy := cy) X S h_o1.1 h_o1.2.1
  refine vx_callq (vx_runV (As := [.int x1]) (rest := []) ⟨hx, hb, hml, hown, hts⟩ (c_X9_gearAt l hst (cy := cy) (X := X) (D := D) S _ o1 h_o1 x1 (hW)) (cwV 1 hts gX9_peak_X9_gearAt rfl rfl rfl hd_X9_gearAt ⟨Nat.le_of_ble_eq_true rfl, Nat.le_of_ble_eq_true rfl⟩) (pVt (va_recv hK hP (q := (RX9, TX9, 11)) (ci := 13) (q0 := k1) rfl hk1) hP hK hD hN hTH hS hFc) rfl rfl hl.1 rfl (lv_room (Nat.le_of_ble_eq_true rfl)) dX9_peak_2 ⟨Nat.le_of_ble_eq_true rfl, Nat.le_of_ble_eq_true rfl⟩) hS (fun q _ h => hFc q h) hFc (fun q _ h => hFc q h) (fun E ce q9 u t H1 locs ht hvm hw hB hz1 hk1 hS hq9 hce hcl => ?_) (fun r2 u t H1 locs ht hvm hw hB hz1 hk1 hS => ?_)
  · obtain ⟨c3, hEc3, hB2⟩ := hB
    obtain ⟨hP, hD⟩ := wd_post hFc ht hB2
    exact vx_out (fun x h => (hno x h).elim) hlocks hq9 hce hcl (fun t2 ht2 hA2 => ⟨S, t0, ⟨(el_in (by decide) hEc3), wd_end hP hK hD ht2 hA2⟩, hS.F ht2⟩) hS.2.2 (Nat.le_of_ble_eq_true rfl) (Nat.le_of_ble_eq_true rfl)
  · obtain ⟨r2, rfl, c4, o5⟩ := hw
    obtain ⟨hP, hD⟩ := wd_post hFc ht hB
    generalize H1 = H at hP hS ⊢
    refine W.eq (g2 := F0 m 5 ls [.ref r2]) rfl ?_
    refine lv_astore (lv' := [(4, .ref r2), (0, .ref o1), (1, .int x1), (2, .int x2), (3, .int x3)]) hx hb dX9_peak_5 hl (by decide) rfl (fun ls hl => ?_)
    refine lv_aload_n hx hb dX9_peak_7 rfl (lv_at hl 1 rfl) ?_
    refine lv_iload_n hx hb dX9_peak_8 rfl (lv_at hl 3 rfl) ?_
    have hFc := free_all hD hS hA
    obtain ⟨k6, gk6, hk6⟩ := wGt (cy := cy) X S h_o1.1 h_o1.2.1
    refine vx_callq (vx_runV (As := [.int x2]) (rest := []) ⟨hx, hb, hml, hown, hts⟩ (c_X9_gearAt l hst (cy := cy) (X := X) (D := D) S _ o1 h_o1 x2 (hW)) (cwV 1 hts gX9_peak_X9_gearAt rfl rfl rfl hd_X9_gearAt ⟨Nat.le_of_ble_eq_true rfl, Nat.le_of_ble_eq_true rfl⟩) (pVt (va_recv hK hP (q := (RX9, TX9, 11)) (ci := 13) (q0 := k6) rfl hk6) hP hK hD hN hTH hS hFc) rfl rfl hl.1 rfl (lv_room (Nat.le_of_ble_eq_true rfl)) dX9_peak_9 ⟨Nat.le_of_ble_eq_true rfl, Nat.le_of_ble_eq_true rfl⟩) hS (fun q _ h => hFc q h) hFc (fun q _ h => hFc q h) (fun E ce q9 u t H1 locs ht hvm hw hB hz1 hk1 hS hq9 hce hcl => ?_) (fun r7 u t H1 locs ht hvm hw hB hz1 hk1 hS => ?_)
    · obtain ⟨c8, hEc8, hB2⟩ := hB
      obtain ⟨hP, hD⟩ := wd_post hFc ht hB2
      exact vx_out (fun x h => (hno x h).elim) hlocks hq9 hce hcl (fun t2 ht2 hA2 => ⟨S, t0, ⟨(el_in (by decide) hEc8), wd_end hP hK hD ht2 hA2⟩, hS.F ht2⟩) hS.2.2 (Nat.le_of_ble_eq_true rfl) (Nat.le_of_ble_eq_true rfl)
    · obtain ⟨r7, rfl, c9, o10⟩ := hw
      obtain ⟨hP, hD⟩ := wd_post hFc ht hB
      generalize H1 = H at hP hS ⊢
      refine W.eq (g2 := F0 m 12 ls [.ref r7]) rfl ?_
      refine lv_astore (lv' := [(5, .ref r7), (4, .ref r2), (0, .ref o1), (1, .int x1), (2, .int x2), (3, .int x3)]) hx hb dX9_peak_12 hl (by decide) rfl (fun ls hl => ?_)
      refine lv_iload_n hx hb dX9_peak_14 rfl (lv_at hl 5 rfl) ?_
      refine lv_iconst (v := 0) hx hb dX9_peak_15 (by decide) ?_
      refine lv_aload hx hb dX9_peak_16 (lv_at hl 0 rfl) ?_
      obtain ⟨k11, gk11, hk11⟩ := wGt (cy := cy) X S o10.1 o10.2.1
      have i12 := ((hW.at o10 List.not_mem_nil).to_2 o10.2.1).R1
      refine va_get (D := D) (ci := 6) (v := .int (S.I r7 1)) (C := RX2) (T := TX2) (N := 20) hx hb hts hi_X9_peak_X2 hown hK hP k11 hk11 rfl 1 (by decide) (hts (.fieldLink RX9 100 "Hobhouse$Gear" "teeth" "I") (by decide +kernel)) (fun _ h9 => h9) rfl dX9_peak_18 ?_
      refine lv_iconst (v := 1) hx hb dX9_peak_21 (by decide) ?_
      refine lv_isub hx hb dX9_peak_22 ?_
      have l32_0 : (0 : Int32).toInt = 0 := rfl
      have l32_1 : (1 : Int32).toInt = 1 := rfl
      have hFc := free_all hD hS hA
      refine vx_callv (vx_runS (As := [.int x3, .int (0 : Int32), .int ((S.I r7 1) - (1 : Int32))]) (rest := []) ⟨hx, hb, hml, hown, hts⟩ (c_X9_needRange l hst (cy := cy) (X := X) (D := D) S _ x3 (0 : Int32) ((S.I r7 1) - (1 : Int32))) (cwS 3 hts gX9_peak_X9_needRange rfl rfl rfl hd_X9_needRange ⟨Nat.le_of_ble_eq_true rfl, Nat.le_of_ble_eq_true rfl⟩) (pSt hP hK hD hN hTH hS hFc) rfl rfl hl.1 rfl (lv_room (Nat.le_of_ble_eq_true rfl)) dX9_peak_23 ⟨Nat.le_of_ble_eq_true rfl, Nat.le_of_ble_eq_true rfl⟩) hS (fun q _ h => hFc q h) hFc (fun q _ h => hFc q h) (fun E ce q9 u t H1 locs ht hvm hw hB hz1 hk1 hS hq9 hce hcl => ?_) (fun u t H1 locs ht hvm hw hB hz1 hk1 hS => ?_)
      · obtain ⟨c14, hEc14, hB2⟩ := hB
        obtain ⟨hP, hD⟩ := wd_post hFc ht hB2
        exact vx_out (fun x h => (hno x h).elim) hlocks hq9 hce hcl (fun t2 ht2 hA2 => ⟨S, t0, ⟨(el_in (by decide) hEc14), wd_end hP hK hD ht2 hA2⟩, hS.F ht2⟩) hS.2.2 (Nat.le_of_ble_eq_true rfl) (Nat.le_of_ble_eq_true rfl)
      · have c15 := hw
        obtain ⟨hP, hD⟩ := wd_post hFc ht hB
        generalize H1 = H at hP hS ⊢
        have i16 := nr_i c15
        have i16l := i16.1
        have i16h := i16.2
        have l17 : (0 : Int32).toInt = 0 := rfl
        refine lv_aload hx hb dX9_peak_26 (lv_at hl 1 rfl) ?_
        refine lv_aload hx hb dX9_peak_28 (lv_at hl 0 rfl) ?_
        have hFc := free_all hD hS hA
        refine vx_callv (vx_runS (As := [.ref r2, .ref r7]) (rest := []) ⟨hx, hb, hml, hown, hts⟩ (c_X9_needPair l hst (cy := cy) (X := X) (D := D) S _ r2 o5 r7 o10) (cwS 2 hts gX9_peak_X9_needPair rfl rfl rfl hd_X9_needPair ⟨Nat.le_of_ble_eq_true rfl, Nat.le_of_ble_eq_true rfl⟩) (pSt hP hK hD hN hTH hS hFc) rfl rfl hl.1 rfl (lv_room (Nat.le_of_ble_eq_true rfl)) dX9_peak_30 ⟨Nat.le_of_ble_eq_true rfl, Nat.le_of_ble_eq_true rfl⟩) hS (fun q _ h => hFc q h) hFc (fun q _ h => hFc q h) (fun E ce q9 u t H1 locs ht hvm hw hB hz1 hk1 hS hq9 hce hcl => ?_) (fun u t H1 locs ht hvm hw hB hz1 hk1 hS => ?_)
        · obtain ⟨c19, hEc19, hB2⟩ := hB
          obtain ⟨hP, hD⟩ := wd_post hFc ht hB2
          exact vx_out (fun x h => (hno x h).elim) hlocks hq9 hce hcl (fun t2 ht2 hA2 => ⟨S, t0, ⟨(el_in (by decide) hEc19), wd_end hP hK hD ht2 hA2⟩, hS.F ht2⟩) hS.2.2 (Nat.le_of_ble_eq_true rfl) (Nat.le_of_ble_eq_true rfl)
        · have c20 := hw
          obtain ⟨hP, hD⟩ := wd_post hFc ht hB
          generalize H1 = H at hP hS ⊢
          refine lv_aload_n hx hb dX9_peak_33 rfl (lv_at hl 2 rfl) ?_
          have F21 := ((hW.at h_o1 List.not_mem_nil).to_9 h_o1.2.1).F7
          obtain ⟨k22, gk22, hk22⟩ := wGt (cy := cy) X S h_o1.1 h_o1.2.1
          simp only [kE, F21.1] at hk22
          refine va_get (D := D) (ci := 13) (v := .ref (S.f o1 7)) (C := RX9) (T := TX9) (N := 11) hx hb hts hi_X9_peak_X9 hown hK hP k22 hk22 rfl 7 (by decide) (hts (.fieldLink RX9 37 "Hobhouse" "rolling" "LHobhouse$Rolling;") (by decide +kernel)) (fun _ h9 => h9) rfl dX9_peak_34 ?_
          refine lv_aload hx hb dX9_peak_37 (lv_at hl 1 rfl) ?_
          have F23 := ((hW.at o5 List.not_mem_nil).to_2 o5.2.1).F5
          obtain ⟨k24, gk24, hk24⟩ := wGt (cy := cy) X S o5.1 o5.2.1
          simp only [kE, F23.1] at hk24
          refine va_get (D := D) (ci := 6) (v := .ref (S.f r2 5)) (C := RX2) (T := TX2) (N := 20) hx hb hts hi_X9_peak_X2 hown hK hP k24 hk24 rfl 5 (by decide) (hts (.fieldLink RX9 339 "Hobhouse$Gear" "chart" "LHobhouse$Chart;") (by decide +kernel)) (fun _ h9 => h9) rfl dX9_peak_39 ?_
          refine lv_aload hx hb dX9_peak_42 (lv_at hl 0 rfl) ?_
          have F25 := ((hW.at o10 List.not_mem_nil).to_2 o10.2.1).F5
          obtain ⟨k26, gk26, hk26⟩ := wGt (cy := cy) X S o10.1 o10.2.1
          simp only [kE, F25.1] at hk26
          refine va_get (D := D) (ci := 6) (v := .ref (S.f r7 5)) (C := RX2) (T := TX2) (N := 20) hx hb hts hi_X9_peak_X2 hown hK hP k26 hk26 rfl 5 (by decide) (hts (.fieldLink RX9 339 "Hobhouse$Gear" "chart" "LHobhouse$Chart;") (by decide +kernel)) (fun _ h9 => h9) rfl dX9_peak_44 ?_
          have hFc := free_all hD hS hA
          obtain ⟨k27, gk27, hk27⟩ := wGt (cy := cy) X S F21.2.1 F21.2.2.1
          refine va_callv (va_runV (As := [.ref (S.f r2 5), .ref (S.f r7 5)]) (rest := []) ⟨hx, hb, hml, hown, hts⟩ (c_X6_take l (cy := cy) (X := X) (D := D) S _ (S.f o1 7) F21.2 (S.f r2 5) F23.2 (S.f r7 5) F25.2 (hW)) (cwV 2 hts gX9_peak_X6_take rfl rfl rfl hd_X6_take ⟨Nat.le_of_ble_eq_true rfl, Nat.le_of_ble_eq_true rfl⟩) (pV (va_recv hK hP (q := (RX6, TX6, 5)) (ci := 10) (q0 := k27) rfl hk27) hP hK hD hN) rfl rfl hl.1 rfl (lv_room (Nat.le_of_ble_eq_true rfl)) dX9_peak_47 ⟨Nat.le_of_ble_eq_true rfl, Nat.le_of_ble_eq_true rfl⟩) hS (fun q _ h => hFc q h) hFc (fun u t H1 locs ht hvm hw hB hz1 hk1 hS => ?_)
          have w29 := hw
          obtain ⟨hP, hD⟩ := wd_post hFc ht hB
          generalize H1 = H at hP hS ⊢
          obtain ⟨S30, rfl⟩ : ∃ z, z = u := ⟨_, rfl⟩
          have t31 : stp [(6, 4), (17, 100)] [] [] S S30 := t0.tr w29 (by decide) (fun _ q => absurd q List.not_mem_nil)
          have xe32 : ext S S30 := w29.x
          refine lv_aload_n hx hb dX9_peak_50 rfl (lv_at hl 2 rfl) ?_
          obtain ⟨k33, gk33, hk33⟩ := wGt (cy := cy) X S30 (xe32.A h_o1).1 (xe32.A h_o1).2.1
          simp only [kE, (xe32.F h_o1 (by decide) F21.1)] at hk33
          refine va_get (D := D) (ci := 13) (v := .ref (S.f o1 7)) (C := RX9) (T := TX9) (N := 11) hx hb hts hi_X9_peak_X9 hown hK hP k33 hk33 rfl 7 (by decide) (hts (.fieldLink RX9 37 "Hobhouse" "rolling" "LHobhouse$Rolling;") (by decide +kernel)) (fun _ h9 => h9) rfl dX9_peak_51 ?_
          refine lv_iload_n hx hb dX9_peak_54 rfl (lv_at hl 5 rfl) ?_
          have hFc := free_all hD hS hA
          obtain ⟨k34, gk34, hk34⟩ := wGt (cy := cy) X S30 (xe32.A F21.2).1 (xe32.A F21.2).2.1
          refine va_calli (va_runV (As := [.int x3]) (rest := []) ⟨hx, hb, hml, hown, hts⟩ (c_X6_peakFrom l (cy := cy) (X := X) (D := D) S30 _ (S.f o1 7) (xe32.A F21.2) x3 (t31.w)) (cwV 1 hts gX9_peak_X6_peakFrom rfl rfl rfl hd_X6_peakFrom ⟨Nat.le_of_ble_eq_true rfl, Nat.le_of_ble_eq_true rfl⟩) (pV (va_recv hK hP (q := (RX6, TX6, 5)) (ci := 10) (q0 := k34) rfl hk34) hP hK hD hN) rfl rfl hl.1 rfl (lv_room (Nat.le_of_ble_eq_true rfl)) dX9_peak_55 ⟨Nat.le_of_ble_eq_true rfl, Nat.le_of_ble_eq_true rfl⟩) hS (fun q _ h => hFc q h) hFc (fun r35 u t H1 locs ht hvm hw hB hz1 hk1 hS => ?_)
          have c36 := hw
          obtain ⟨hP, hD⟩ := wd_post hFc ht hB
          generalize H1 = H at hP hS ⊢
          obtain rfl : f_X6_peakFrom S30 (S.f o1 7) x3 = r35 := c36.symm
          refine vx_ret ?_
          refine W.widen (k := 4) (n := 24) (Nat.le_of_ble_eq_true rfl) (Nat.le_of_ble_eq_true rfl) ?_
          exact W.iret (v := f_X6_peakFrom S30 (S.f o1 7) x3) hx hb hr (fun t ht hW9 => ⟨⟨f_X6_peakFrom S30 (S.f o1 7) x3, S30, rfl, t31, wd_end hP hK hD ht hW9.alike⟩, hS.F ht⟩) hS.2.2 dX9_peak_58 hlocks
theorem hi_X9_quietest_X2 : ∀ w ∈ u_ws RX2 TX2 20, w ∈ wsX9_quietest := by decide +kernel
theorem hi_X9_quietest_X9 : ∀ w ∈ u_ws RX9 TX9 11, w ∈ wsX9_quietest := by decide +kernel
theorem hd_X9_quietest : yX9_quietest.cls = RX9 ∧ yX9_quietest.cls ≠ "java/lang/invoke/MethodHandle" ∧ yX9_quietest.cls ≠ "java/lang/invoke/VarHandle" ∧ (parseMethodDescriptor yX9_quietest.desc).map (fun d => d.parameters.length) = some 2 := by decide +kernel
set_option maxHeartbeats 4000000 in
set_option maxRecDepth 100000 in
theorem c_X9_quietest (l : Launch) (hst : l.stackTraces = false) {D : va_G} {cy : Nat → ClassId} {X : va_W} (S : wPS) (sz : Nat) (o1 : Nat) (h_o1 : isA S o1 9) (x1 : Int32) (x2 : Int32) (hW : wtB S [])  : vx_Met l yX9_quietest wsX9_quietest ({ frames := 8, cells := 3, slots := 18, locals := 123 }) (va_Pc [.ref o1, .int x1, .int x2] (fun U => U.heap.size = sz ∧ WD D cy X (fun _ => True) S U ∧ NW U ∧ TH (va_A (X ++ PL cy S) sz) U)) (va_Qi (fun r (u : wPS) => stp [(6, 4), (17, 100)] [] [] S u) (fun u t => WD D cy X (va_A (X ++ PL cy S) sz) u t) (va_A (X ++ PL cy S) sz)) (vx_X (fun (u : wPS) => stp [(6, 4), (17, 100)] [] [] S u) (fun E u t => E ∈ ["java/lang/IndexOutOfBoundsException", "java/lang/UnsupportedOperationException"] ∧ WD D cy X (va_A (X ++ PL cy S) sz) u t) (va_A (X ++ PL cy S) sz)) 3 18 (va_A (X ++ PL cy S) sz) := by
  refine vx_ofW (cc := cX9_quietest) (maxL := 5) (ret := (some .int)) (by decide) rfl ?_
  intro p e s m args below meth c s₁ B hml hno hv
  obtain ⟨rfl, hsz, ⟨hP, hK, hD0⟩, hN, hTH⟩ := hv
  have hx := B.exec
  have hb := B.bytes
  have hr := B.returns
  have hts := atoms_spec (ws := wsX9_quietest) B.pre
  have hown : s.vm.findClass RX9 = some m.cls := findClass_of_methodNamed (x := yX9_quietest) B.named
  have hlocks := B.notSynchronized
  subst hsz
  have hD := hD0.self (sz := s.heap.size)
  generalize hAe : va_A (X ++ PL cy S) s.heap.size = A at hD hTH ⊢
  have hA : ∀ q : Nat, s.heap.size ≤ q → A q := fun q h => by rw [← hAe]; exact Or.inr h
  have hS : va_S A s.heap s.heap [] := va_S.rf
  have hl := lv_entry ([.ref o1, .int x1, .int x2]) (n := 5) (Nat.le_of_ble_eq_true rfl)
  rw [lg_entry_eq]
  generalize (lg_sl ([.ref o1, .int x1, .int x2]) ++ List.replicate (5 - (lg_sl ([.ref o1, .int x1, .int x2])).length) Slot.unset).toArray = ls at hl ⊢
  have hl : lv_has ls 5 [(0, .ref o1), (1, .int x1), (2, .int x2)] := hl
  have t0 : stp [(6, 4), (17, 100)] [] [] S S := stp.rf hW
  refine lv_aload_n hx hb dX9_quietest_0 rfl (lv_at hl 0 rfl) ?_
  refine lv_iload_n hx hb dX9_quietest_1 rfl (lv_at hl 1 rfl) ?_
  have hFc := free_all hD hS hA
  obtain ⟨k1, gk1, hk1⟩ := wGt (cy := cy) X S h_o1.1 h_o1.2.1
  refine vx_callq (vx_runV (As := [.int x1]) (rest := []) ⟨hx, hb, hml, hown, hts⟩ (c_X9_gearAt l hst (cy := cy) (X := X) (D := D) S _ o1 h_o1 x1 (hW)) (cwV 1 hts gX9_quietest_X9_gearAt rfl rfl rfl hd_X9_gearAt ⟨Nat.le_of_ble_eq_true rfl, Nat.le_of_ble_eq_true rfl⟩) (pVt (va_recv hK hP (q := (RX9, TX9, 11)) (ci := 13) (q0 := k1) rfl hk1) hP hK hD hN hTH hS hFc) rfl rfl hl.1 rfl (lv_room (Nat.le_of_ble_eq_true rfl)) dX9_quietest_2 ⟨Nat.le_of_ble_eq_true rfl, Nat.le_of_ble_eq_true rfl⟩) hS (fun q _ h => hFc q h) hFc (fun q _ h => hFc q h) (fun E ce q9 u t H1 locs ht hvm hw hB hz1 hk1 hS hq9 hce hcl => ?_) (fun r2 u t H1 locs ht hvm hw hB hz1 hk1 hS => ?_)
  · obtain ⟨c3, hEc3, hB2⟩ := hB
    obtain ⟨hP, hD⟩ := wd_post hFc ht hB2
    exact vx_out (fun x h => (hno x h).elim) hlocks hq9 hce hcl (fun t2 ht2 hA2 => ⟨S, t0, ⟨(el_in (by decide) hEc3), wd_end hP hK hD ht2 hA2⟩, hS.F ht2⟩) hS.2.2 (Nat.le_of_ble_eq_true rfl) (Nat.le_of_ble_eq_true rfl)
  · obtain ⟨r2, rfl, c4, o5⟩ := hw
    obtain ⟨hP, hD⟩ := wd_post hFc ht hB
    generalize H1 = H at hP hS ⊢
    refine W.eq (g2 := F0 m 5 ls [.ref r2]) rfl ?_
    refine lv_astore_n (lv' := [(3, .ref r2), (0, .ref o1), (1, .int x1), (2, .int x2)]) hx hb dX9_quietest_5 rfl hl (by decide) rfl (fun ls hl => ?_)
    refine lv_aload_n hx hb dX9_quietest_6 rfl (lv_at hl 1 rfl) ?_
    refine lv_iload_n hx hb dX9_quietest_7 rfl (lv_at hl 3 rfl) ?_
    have hFc := free_all hD hS hA
    obtain ⟨k6, gk6, hk6⟩ := wGt (cy := cy) X S h_o1.1 h_o1.2.1
    refine vx_callq (vx_runV (As := [.int x2]) (rest := []) ⟨hx, hb, hml, hown, hts⟩ (c_X9_gearAt l hst (cy := cy) (X := X) (D := D) S _ o1 h_o1 x2 (hW)) (cwV 1 hts gX9_quietest_X9_gearAt rfl rfl rfl hd_X9_gearAt ⟨Nat.le_of_ble_eq_true rfl, Nat.le_of_ble_eq_true rfl⟩) (pVt (va_recv hK hP (q := (RX9, TX9, 11)) (ci := 13) (q0 := k6) rfl hk6) hP hK hD hN hTH hS hFc) rfl rfl hl.1 rfl (lv_room (Nat.le_of_ble_eq_true rfl)) dX9_quietest_8 ⟨Nat.le_of_ble_eq_true rfl, Nat.le_of_ble_eq_true rfl⟩) hS (fun q _ h => hFc q h) hFc (fun q _ h => hFc q h) (fun E ce q9 u t H1 locs ht hvm hw hB hz1 hk1 hS hq9 hce hcl => ?_) (fun r7 u t H1 locs ht hvm hw hB hz1 hk1 hS => ?_)
    · obtain ⟨c8, hEc8, hB2⟩ := hB
      obtain ⟨hP, hD⟩ := wd_post hFc ht hB2
      exact vx_out (fun x h => (hno x h).elim) hlocks hq9 hce hcl (fun t2 ht2 hA2 => ⟨S, t0, ⟨(el_in (by decide) hEc8), wd_end hP hK hD ht2 hA2⟩, hS.F ht2⟩) hS.2.2 (Nat.le_of_ble_eq_true rfl) (Nat.le_of_ble_eq_true rfl)
    · obtain ⟨r7, rfl, c9, o10⟩ := hw
      obtain ⟨hP, hD⟩ := wd_post hFc ht hB
      generalize H1 = H at hP hS ⊢
      refine W.eq (g2 := F0 m 11 ls [.ref r7]) rfl ?_
      refine lv_astore (lv' := [(4, .ref r7), (3, .ref r2), (0, .ref o1), (1, .int x1), (2, .int x2)]) hx hb dX9_quietest_11 hl (by decide) rfl (fun ls hl => ?_)
      refine lv_aload_n hx hb dX9_quietest_13 rfl (lv_at hl 1 rfl) ?_
      refine lv_aload hx hb dX9_quietest_14 (lv_at hl 0 rfl) ?_
      have hFc := free_all hD hS hA
      refine vx_callv (vx_runS (As := [.ref r2, .ref r7]) (rest := []) ⟨hx, hb, hml, hown, hts⟩ (c_X9_needPair l hst (cy := cy) (X := X) (D := D) S _ r2 o5 r7 o10) (cwS 2 hts gX9_quietest_X9_needPair rfl rfl rfl hd_X9_needPair ⟨Nat.le_of_ble_eq_true rfl, Nat.le_of_ble_eq_true rfl⟩) (pSt hP hK hD hN hTH hS hFc) rfl rfl hl.1 rfl (lv_room (Nat.le_of_ble_eq_true rfl)) dX9_quietest_16 ⟨Nat.le_of_ble_eq_true rfl, Nat.le_of_ble_eq_true rfl⟩) hS (fun q _ h => hFc q h) hFc (fun q _ h => hFc q h) (fun E ce q9 u t H1 locs ht hvm hw hB hz1 hk1 hS hq9 hce hcl => ?_) (fun u t H1 locs ht hvm hw hB hz1 hk1 hS => ?_)
      · obtain ⟨c12, hEc12, hB2⟩ := hB
        obtain ⟨hP, hD⟩ := wd_post hFc ht hB2
        exact vx_out (fun x h => (hno x h).elim) hlocks hq9 hce hcl (fun t2 ht2 hA2 => ⟨S, t0, ⟨(el_in (by decide) hEc12), wd_end hP hK hD ht2 hA2⟩, hS.F ht2⟩) hS.2.2 (Nat.le_of_ble_eq_true rfl) (Nat.le_of_ble_eq_true rfl)
      · have c13 := hw
        obtain ⟨hP, hD⟩ := wd_post hFc ht hB
        generalize H1 = H at hP hS ⊢
        refine lv_aload_n hx hb dX9_quietest_19 rfl (lv_at hl 2 rfl) ?_
        have F14 := ((hW.at h_o1 List.not_mem_nil).to_9 h_o1.2.1).F7
        obtain ⟨k15, gk15, hk15⟩ := wGt (cy := cy) X S h_o1.1 h_o1.2.1
        simp only [kE, F14.1] at hk15
        refine va_get (D := D) (ci := 13) (v := .ref (S.f o1 7)) (C := RX9) (T := TX9) (N := 11) hx hb hts hi_X9_quietest_X9 hown hK hP k15 hk15 rfl 7 (by decide) (hts (.fieldLink RX9 37 "Hobhouse" "rolling" "LHobhouse$Rolling;") (by decide +kernel)) (fun _ h9 => h9) rfl dX9_quietest_20 ?_
        refine lv_aload_n hx hb dX9_quietest_23 rfl (lv_at hl 1 rfl) ?_
        have F16 := ((hW.at o5 List.not_mem_nil).to_2 o5.2.1).F5
        obtain ⟨k17, gk17, hk17⟩ := wGt (cy := cy) X S o5.1 o5.2.1
        simp only [kE, F16.1] at hk17
        refine va_get (D := D) (ci := 6) (v := .ref (S.f r2 5)) (C := RX2) (T := TX2) (N := 20) hx hb hts hi_X9_quietest_X2 hown hK hP k17 hk17 rfl 5 (by decide) (hts (.fieldLink RX9 339 "Hobhouse$Gear" "chart" "LHobhouse$Chart;") (by decide +kernel)) (fun _ h9 => h9) rfl dX9_quietest_24 ?_
        refine lv_aload hx hb dX9_quietest_27 (lv_at hl 0 rfl) ?_
        have F18 := ((hW.at o10 List.not_mem_nil).to_2 o10.2.1).F5
        obtain ⟨k19, gk19, hk19⟩ := wGt (cy := cy) X S o10.1 o10.2.1
        simp only [kE, F18.1] at hk19
        refine va_get (D := D) (ci := 6) (v := .ref (S.f r7 5)) (C := RX2) (T := TX2) (N := 20) hx hb hts hi_X9_quietest_X2 hown hK hP k19 hk19 rfl 5 (by decide) (hts (.fieldLink RX9 339 "Hobhouse$Gear" "chart" "LHobhouse$Chart;") (by decide +kernel)) (fun _ h9 => h9) rfl dX9_quietest_29 ?_
        have hFc := free_all hD hS hA
        obtain ⟨k20, gk20, hk20⟩ := wGt (cy := cy) X S F14.2.1 F14.2.2.1
        refine va_callv (va_runV (As := [.ref (S.f r2 5), .ref (S.f r7 5)]) (rest := []) ⟨hx, hb, hml, hown, hts⟩ (c_X6_take l (cy := cy) (X := X) (D := D) S _ (S.f o1 7) F14.2 (S.f r2 5) F16.2 (S.f r7 5) F18.2 (hW)) (cwV 2 hts gX9_quietest_X6_take rfl rfl rfl hd_X6_take ⟨Nat.le_of_ble_eq_true rfl, Nat.le_of_ble_eq_true rfl⟩) (pV (va_recv hK hP (q := (RX6, TX6, 5)) (ci := 10) (q0 := k20) rfl hk20) hP hK hD hN) rfl rfl hl.1 rfl (lv_room (Nat.le_of_ble_eq_true rfl)) dX9_quietest_32 ⟨Nat.le_of_ble_eq_true rfl, Nat.le_of_ble_eq_true rfl⟩) hS (fun q _ h => hFc q h) hFc (fun u t H1 locs ht hvm hw hB hz1 hk1 hS => ?_)
        have w22 := hw
        obtain ⟨hP, hD⟩ := wd_post hFc ht hB
        generalize H1 = H at hP hS ⊢
        obtain ⟨S23, rfl⟩ : ∃ z, z = u := ⟨_, rfl⟩
        have t24 : stp [(6, 4), (17, 100)] [] [] S S23 := t0.tr w22 (by decide) (fun _ q => absurd q List.not_mem_nil)
        have xe25 : ext S S23 := w22.x
        refine lv_aload_n hx hb dX9_quietest_35 rfl (lv_at hl 2 rfl) ?_
        obtain ⟨k26, gk26, hk26⟩ := wGt (cy := cy) X S23 (xe25.A h_o1).1 (xe25.A h_o1).2.1
        simp only [kE, (xe25.F h_o1 (by decide) F14.1)] at hk26
        refine va_get (D := D) (ci := 13) (v := .ref (S.f o1 7)) (C := RX9) (T := TX9) (N := 11) hx hb hts hi_X9_quietest_X9 hown hK hP k26 hk26 rfl 7 (by decide) (hts (.fieldLink RX9 37 "Hobhouse" "rolling" "LHobhouse$Rolling;") (by decide +kernel)) (fun _ h9 => h9) rfl dX9_quietest_36 ?_
        have hFc := free_all hD hS hA
        obtain ⟨k27, gk27, hk27⟩ := wGt (cy := cy) X S23 (xe25.A F14.2).1 (xe25.A F14.2).2.1
        refine va_calli (va_runV (As := []) (rest := []) ⟨hx, hb, hml, hown, hts⟩ (c_X6_quietStart l (cy := cy) (X := X) (D := D) S23 _ (S.f o1 7) (xe25.A F14.2) (t24.w)) (cwV 0 hts gX9_quietest_X6_quietStart rfl rfl rfl hd_X6_quietStart ⟨Nat.le_of_ble_eq_true rfl, Nat.le_of_ble_eq_true rfl⟩) (pV (va_recv hK hP (q := (RX6, TX6, 5)) (ci := 10) (q0 := k27) rfl hk27) hP hK hD hN) rfl rfl hl.1 rfl (lv_room (Nat.le_of_ble_eq_true rfl)) dX9_quietest_39 ⟨Nat.le_of_ble_eq_true rfl, Nat.le_of_ble_eq_true rfl⟩) hS (fun q _ h => hFc q h) hFc (fun r28 u t H1 locs ht hvm hw hB hz1 hk1 hS => ?_)
        have c29 := hw
        obtain ⟨hP, hD⟩ := wd_post hFc ht hB
        generalize H1 = H at hP hS ⊢
        obtain rfl : f_X6_quietStart S23 (S.f o1 7) = r28 := c29.symm
        refine vx_ret ?_
        refine W.widen (k := 3) (n := 18) (Nat.le_of_ble_eq_true rfl) (Nat.le_of_ble_eq_true rfl) ?_
        exact W.iret (v := f_X6_quietStart S23 (S.f o1 7)) hx hb hr (fun t ht hW9 => ⟨⟨f_X6_quietStart S23 (S.f o1 7), S23, rfl, t24, wd_end hP hK hD ht hW9.alike⟩, hS.F ht⟩) hS.2.2 dX9_quietest_42 hlocks
def f_X9_clock (S : wPS) (o1 : Nat) (x1 : Int32) (x2 : Int32) (x3 : Int32) : Except String Int32 := eB (f_X9_needTeeth x1) (fun _ => eB (f_X9_needTeeth x2) (fun _ => eB (f_X9_needRange x3 (0 : Int32) (x1 - (1 : Int32))) (fun _ => .ok (f_J9_floorMod_7cf53 ((-x3) * x2) x1))))
theorem hd_X9_clock : yX9_clock.cls = RX9 ∧ yX9_clock.cls ≠ "java/lang/invoke/MethodHandle" ∧ yX9_clock.cls ≠ "java/lang/invoke/VarHandle" ∧ (parseMethodDescriptor yX9_clock.desc).map (fun d => d.parameters.length) = some 3 := by decide +kernel
set_option maxHeartbeats 4000000 in
set_option maxRecDepth 100000 in
theorem c_X9_clock (l : Launch) (hst : l.stackTraces = false) {D : va_G} {cy : Nat → ClassId} {X : va_W} (S : wPS) (sz : Nat) (o1 : Nat) (h_o1 : isA S o1 9) (x1 : Int32) (x2 : Int32) (x3 : Int32) (hW : wtB S [])  : vx_Met l yX9_clock wsX9_clock ({ frames := 8, cells := 3, slots := 18, locals := 124 }) (va_Pc [.ref o1, .int x1, .int x2, .int x3] (fun U => U.heap.size = sz ∧ WD D cy X (fun _ => True) S U ∧ NW U ∧ TH (va_A (X ++ PL cy S) sz) U)) (va_Qi (fun r (_ : Unit) => f_X9_clock S o1 x1 x2 x3 = .ok r) (fun _ t => WD D cy X (va_A (X ++ PL cy S) sz) S t) (va_A (X ++ PL cy S) sz)) (vx_X (fun (_ : Unit) => True) (fun E _ t => f_X9_clock S o1 x1 x2 x3 = .error E ∧ E ∈ ["java/lang/IllegalArgumentException"] ∧ WD D cy X (va_A (X ++ PL cy S) sz) S t) (va_A (X ++ PL cy S) sz)) 3 18 (va_A (X ++ PL cy S) sz) := by
  refine vx_ofW (cc := cX9_clock) (maxL := 4) (ret := (some .int)) (by decide) rfl ?_
  intro p e s m args below meth c s₁ B hml hno hv
  obtain ⟨rfl, hsz, ⟨hP, hK, hD0⟩, hN, hTH⟩ := hv
  have hx := B.exec
  have hb := B.bytes
  have hr := B.returns
  have hts := atoms_spec (ws := wsX9_clock) B.pre
  have hown : s.vm.findClass RX9 = some m.cls := findClass_of_methodNamed (x := yX9_clock) B.named
  have hlocks := B.notSynchronized
  subst hsz
  have hD := hD0.self (sz := s.heap.size)
  generalize hAe : va_A (X ++ PL cy S) s.heap.size = A at hD hTH ⊢
  have hA : ∀ q : Nat, s.heap.size ≤ q → A q := fun q h => by rw [← hAe]; exact Or.inr h
  have hS : va_S A s.heap s.heap [] := va_S.rf
  have hl := lv_entry ([.ref o1, .int x1, .int x2, .int x3]) (n := 4) (Nat.le_of_ble_eq_true rfl)
  rw [lg_entry_eq]
  generalize (lg_sl ([.ref o1, .int x1, .int x2, .int x3]) ++ List.replicate (4 - (lg_sl ([.ref o1, .int x1, .int x2, .int x3])).length) Slot.unset).toArray = ls at hl ⊢
  have hl : lv_has ls 4 [(0, .ref o1), (1, .int x1), (2, .int x2), (3, .int x3)] := hl
  refine lv_iload_n hx hb dX9_clock_0 rfl (lv_at hl 1 rfl) ?_
  have hFc := free_all hD hS hA
  refine vx_callv (vx_runS (As := [.int x1]) (rest := []) ⟨hx, hb, hml, hown, hts⟩ (c_X9_needTeeth l hst (cy := cy) (X := X) (D := D) S _ x1) (cwS 1 hts gX9_clock_X9_needTeeth rfl rfl rfl hd_X9_needTeeth ⟨Nat.le_of_ble_eq_true rfl, Nat.le_of_ble_eq_true rfl⟩) (pSt hP hK hD hN hTH hS hFc) rfl rfl hl.1 rfl (lv_room (Nat.le_of_ble_eq_true rfl)) dX9_clock_1 ⟨Nat.le_of_ble_eq_true rfl, Nat.le_of_ble_eq_true rfl⟩) hS (fun q _ h => hFc q h) hFc (fun q _ h => hFc q h) (fun E ce q9 u t H1 locs ht hvm hw hB hz1 hk1 hS hq9 hce hcl => ?_) (fun u t H1 locs ht hvm hw hB hz1 hk1 hS => ?_)
  · obtain ⟨c2, hEc2, hB2⟩ := hB
    obtain ⟨hP, hD⟩ := wd_post hFc ht hB2
    exact vx_out (fun x h => (hno x h).elim) hlocks hq9 hce hcl (fun t2 ht2 hA2 => ⟨(), trivial, ⟨(by show f_X9_clock S o1 x1 x2 x3 = .error E; unfold f_X9_clock; rw [eB_er c2]), (el_in (by decide) hEc2), wd_end hP hK hD ht2 hA2⟩, hS.F ht2⟩) hS.2.2 (Nat.le_of_ble_eq_true rfl) (Nat.le_of_ble_eq_true rfl)
  · have c3 := hw
    obtain ⟨hP, hD⟩ := wd_post hFc ht hB
    generalize H1 = H at hP hS ⊢
    have i4 := nt_i c3
    refine lv_iload_n hx hb dX9_clock_4 rfl (lv_at hl 2 rfl) ?_
    have hFc := free_all hD hS hA
    refine vx_callv (vx_runS (As := [.int x2]) (rest := []) ⟨hx, hb, hml, hown, hts⟩ (c_X9_needTeeth l hst (cy := cy) (X := X) (D := D) S _ x2) (cwS 1 hts gX9_clock_X9_needTeeth rfl rfl rfl hd_X9_needTeeth ⟨Nat.le_of_ble_eq_true rfl, Nat.le_of_ble_eq_true rfl⟩) (pSt hP hK hD hN hTH hS hFc) rfl rfl hl.1 rfl (lv_room (Nat.le_of_ble_eq_true rfl)) dX9_clock_5 ⟨Nat.le_of_ble_eq_true rfl, Nat.le_of_ble_eq_true rfl⟩) hS (fun q _ h => hFc q h) hFc (fun q _ h => hFc q h) (fun E ce q9 u t H1 locs ht hvm hw hB hz1 hk1 hS hq9 hce hcl => ?_) (fun u t H1 locs ht hvm hw hB hz1 hk1 hS => ?_)
    · obtain ⟨c6, hEc6, hB2⟩ := hB
      obtain ⟨hP, hD⟩ := wd_post hFc ht hB2
      exact vx_out (fun x h => (hno x h).elim) hlocks hq9 hce hcl (fun t2 ht2 hA2 => ⟨(), trivial, ⟨(by show f_X9_clock S o1 x1 x2 x3 = .error E; unfold f_X9_clock; rw [eB_ok c3, eB_er c6]), (el_in (by decide) hEc6), wd_end hP hK hD ht2 hA2⟩, hS.F ht2⟩) hS.2.2 (Nat.le_of_ble_eq_true rfl) (Nat.le_of_ble_eq_true rfl)
    · have c7 := hw
      obtain ⟨hP, hD⟩ := wd_post hFc ht hB
      generalize H1 = H at hP hS ⊢
      have i8 := nt_i c7
      refine lv_iload_n hx hb dX9_clock_8 rfl (lv_at hl 3 rfl) ?_
      refine lv_iconst (v := 0) hx hb dX9_clock_9 (by decide) ?_
      refine lv_iload_n hx hb dX9_clock_10 rfl (lv_at hl 1 rfl) ?_
      refine lv_iconst (v := 1) hx hb dX9_clock_11 (by decide) ?_
      refine lv_isub hx hb dX9_clock_12 ?_
      have l32_0 : (0 : Int32).toInt = 0 := rfl
      have l32_1 : (1 : Int32).toInt = 1 := rfl
      have hFc := free_all hD hS hA
      refine vx_callv (vx_runS (As := [.int x3, .int (0 : Int32), .int (x1 - (1 : Int32))]) (rest := []) ⟨hx, hb, hml, hown, hts⟩ (c_X9_needRange l hst (cy := cy) (X := X) (D := D) S _ x3 (0 : Int32) (x1 - (1 : Int32))) (cwS 3 hts gX9_clock_X9_needRange rfl rfl rfl hd_X9_needRange ⟨Nat.le_of_ble_eq_true rfl, Nat.le_of_ble_eq_true rfl⟩) (pSt hP hK hD hN hTH hS hFc) rfl rfl hl.1 rfl (lv_room (Nat.le_of_ble_eq_true rfl)) dX9_clock_13 ⟨Nat.le_of_ble_eq_true rfl, Nat.le_of_ble_eq_true rfl⟩) hS (fun q _ h => hFc q h) hFc (fun q _ h => hFc q h) (fun E ce q9 u t H1 locs ht hvm hw hB hz1 hk1 hS hq9 hce hcl => ?_) (fun u t H1 locs ht hvm hw hB hz1 hk1 hS => ?_)
      · obtain ⟨c10, hEc10, hB2⟩ := hB
        obtain ⟨hP, hD⟩ := wd_post hFc ht hB2
        exact vx_out (fun x h => (hno x h).elim) hlocks hq9 hce hcl (fun t2 ht2 hA2 => ⟨(), trivial, ⟨(by show f_X9_clock S o1 x1 x2 x3 = .error E; unfold f_X9_clock; rw [eB_ok c3, eB_ok c7, eB_er c10]), (el_in (by decide) hEc10), wd_end hP hK hD ht2 hA2⟩, hS.F ht2⟩) hS.2.2 (Nat.le_of_ble_eq_true rfl) (Nat.le_of_ble_eq_true rfl)
      · have c11 := hw
        obtain ⟨hP, hD⟩ := wd_post hFc ht hB
        generalize H1 = H at hP hS ⊢
        have i12 := nr_i c11
        have i12l := i12.1
        have i12h := i12.2
        have l13 : (0 : Int32).toInt = 0 := rfl
        refine lv_iload_n hx hb dX9_clock_16 rfl (lv_at hl 3 rfl) ?_
        refine lv_ineg hx hb dX9_clock_17 ?_
        refine lv_iload_n hx hb dX9_clock_18 rfl (lv_at hl 2 rfl) ?_
        refine lv_imul hx hb dX9_clock_19 ?_
        refine lv_iload_n hx hb dX9_clock_20 rfl (lv_at hl 1 rfl) ?_
        have hFc := free_all hD hS hA
        refine va_calli (va_runS (As := [.int ((-x3) * x2), .int x1]) (rest := []) ⟨hx, hb, hml, hown, hts⟩ (c_J9_floorMod_7cf53 l (cy := cy) (X := X) (D := D) S _ ((-x3) * x2) x1 (by omega)) (va_cwS 2 hts gX9_clock_J9_floorMod_7cf53 rfl rfl rfl (by decide +kernel) ⟨Nat.le_of_ble_eq_true rfl, Nat.le_of_ble_eq_true rfl⟩) (pS hP hK hD hN) rfl rfl hl.1 rfl (lv_room (Nat.le_of_ble_eq_true rfl)) dX9_clock_21 ⟨Nat.le_of_ble_eq_true rfl, Nat.le_of_ble_eq_true rfl⟩) hS (fun q _ h => hFc q h) hFc (fun r14 u t H1 locs ht hvm hw hB hz1 hk1 hS => ?_)
        have c15 := hw
        obtain ⟨hP, hD⟩ := wd_post hFc ht hB
        generalize H1 = H at hP hS ⊢
        obtain rfl : f_J9_floorMod_7cf53 ((-x3) * x2) x1 = r14 := c15.symm
        have i16 := fm_rng (x := ((-x3) * x2)) (y := x1) (by omega)
        refine vx_ret ?_
        refine W.widen (k := 3) (n := 18) (Nat.le_of_ble_eq_true rfl) (Nat.le_of_ble_eq_true rfl) ?_
        exact W.iret (v := f_J9_floorMod_7cf53 ((-x3) * x2) x1) hx hb hr (fun t ht hW9 => ⟨⟨f_J9_floorMod_7cf53 ((-x3) * x2) x1, (), rfl, (by show f_X9_clock S o1 x1 x2 x3 = .ok (f_J9_floorMod_7cf53 ((-x3) * x2) x1); unfold f_X9_clock; rw [eB_ok c3, eB_ok c7, eB_ok c11]), wd_end hP hK hD ht hW9.alike⟩, hS.F ht⟩) hS.2.2 dX9_clock_24 hlocks
def f_X9_cause (S : wPS) (o1 : Nat) (x1 : Int32) : Except String Int32 := eB (f_X9_gearAt S o1 x1) (fun r2 => if (if (f_X1_partOf S (S.f r2 5) (f_X9_commonDivisor (S.I o1 10) (S.I r2 1))) < (if (f_X1_partOf S (S.f r2 5) (S.I r2 10)) < (S.I (S.f r2 5) 2) then (S.I (S.f r2 5) 2) else (f_X1_partOf S (S.f r2 5) (S.I r2 10))) then (if (f_X1_partOf S (S.f r2 5) (S.I r2 10)) < (S.I (S.f r2 5) 2) then (S.I (S.f r2 5) 2) else (f_X1_partOf S (S.f r2 5) (S.I r2 10))) else (f_X1_partOf S (S.f r2 5) (f_X9_commonDivisor (S.I o1 10) (S.I r2 1)))) = (0 : Int32) then .ok (110 : Int32) else if (f_X1_partOf S (S.f r2 5) (f_X9_commonDivisor (S.I o1 10) (S.I r2 1))) = (if (f_X1_partOf S (S.f r2 5) (f_X9_commonDivisor (S.I o1 10) (S.I r2 1))) < (if (f_X1_partOf S (S.f r2 5) (S.I r2 10)) < (S.I (S.f r2 5) 2) then (S.I (S.f r2 5) 2) else (f_X1_partOf S (S.f r2 5) (S.I r2 10))) then (if (f_X1_partOf S (S.f r2 5) (S.I r2 10)) < (S.I (S.f r2 5) 2) then (S.I (S.f r2 5) 2) else (f_X1_partOf S (S.f r2 5) (S.I r2 10))) else (f_X1_partOf S (S.f r2 5) (f_X9_commonDivisor (S.I o1 10) (S.I r2 1)))) then .ok (109 : Int32) else if (f_X1_partOf S (S.f r2 5) (S.I r2 10)) = (if (f_X1_partOf S (S.f r2 5) (f_X9_commonDivisor (S.I o1 10) (S.I r2 1))) < (if (f_X1_partOf S (S.f r2 5) (S.I r2 10)) < (S.I (S.f r2 5) 2) then (S.I (S.f r2 5) 2) else (f_X1_partOf S (S.f r2 5) (S.I r2 10))) then (if (f_X1_partOf S (S.f r2 5) (S.I r2 10)) < (S.I (S.f r2 5) 2) then (S.I (S.f r2 5) 2) else (f_X1_partOf S (S.f r2 5) (S.I r2 10))) else (f_X1_partOf S (S.f r2 5) (f_X9_commonDivisor (S.I o1 10) (S.I r2 1)))) then .ok (116 : Int32) else .ok (115 : Int32))
theorem hi_X9_cause_X1 : ∀ w ∈ u_ws RX1 TX1 3, w ∈ wsX9_cause := by decide +kernel
theorem hi_X9_cause_X2 : ∀ w ∈ u_ws RX2 TX2 20, w ∈ wsX9_cause := by decide +kernel
theorem hi_X9_cause_X9 : ∀ w ∈ u_ws RX9 TX9 11, w ∈ wsX9_cause := by decide +kernel
theorem hd_X9_cause : yX9_cause.cls = RX9 ∧ yX9_cause.cls ≠ "java/lang/invoke/MethodHandle" ∧ yX9_cause.cls ≠ "java/lang/invoke/VarHandle" ∧ (parseMethodDescriptor yX9_cause.desc).map (fun d => d.parameters.length) = some 1 := by decide +kernel
set_option maxHeartbeats 4000000 in
set_option maxRecDepth 100000 in
theorem c_X9_cause (l : Launch) (hst : l.stackTraces = false) {D : va_G} {cy : Nat → ClassId} {X : va_W} (S : wPS) (sz : Nat) (o1 : Nat) (h_o1 : isA S o1 9) (x1 : Int32) (hW : wtB S [])  : vx_Met l yX9_cause wsX9_cause ({ frames := 7, cells := 1, slots := 6, locals := 103 }) (va_Pc [.ref o1, .int x1] (fun U => U.heap.size = sz ∧ WD D cy X (fun _ => True) S U ∧ NW U ∧ TH (va_A (X ++ PL cy S) sz) U)) (va_Qi (fun r (_ : Unit) => f_X9_cause S o1 x1 = .ok r) (fun _ t => WD D cy X (va_A (X ++ PL cy S) sz) S t) (va_A (X ++ PL cy S) sz)) (vx_X (fun (_ : Unit) => True) (fun E _ t => f_X9_cause S o1 x1 = .error E ∧ E ∈ ["java/lang/IndexOutOfBoundsException"] ∧ WD D cy X (va_A (X ++ PL cy S) sz) S t) (va_A (X ++ PL cy S) sz)) 1 6 (va_A (X ++ PL cy S) sz) := by
  refine vx_ofW (cc := cX9_cause) (maxL := 7) (ret := (some .char)) (by decide) rfl ?_
  intro p e s m args below meth c s₁ B hml hno hv
  obtain ⟨rfl, hsz, ⟨hP, hK, hD0⟩, hN, hTH⟩ := hv
  have hx := B.exec
  have hb := B.bytes
  have hr := B.returns
  have hts := atoms_spec (ws := wsX9_cause) B.pre
  have hown : s.vm.findClass RX9 = some m.cls := findClass_of_methodNamed (x := yX9_cause) B.named
  have hlocks := B.notSynchronized
  subst hsz
  have hD := hD0.self (sz := s.heap.size)
  generalize hAe : va_A (X ++ PL cy S) s.heap.size = A at hD hTH ⊢
  have hA : ∀ q : Nat, s.heap.size ≤ q → A q := fun q h => by rw [← hAe]; exact Or.inr h
  have hS : va_S A s.heap s.heap [] := va_S.rf
  have hl := lv_entry ([.ref o1, .int x1]) (n := 7) (Nat.le_of_ble_eq_true rfl)
  rw [lg_entry_eq]
  generalize (lg_sl ([.ref o1, .int x1]) ++ List.replicate (7 - (lg_sl ([.ref o1, .int x1])).length) Slot.unset).toArray = ls at hl ⊢
  have hl : lv_has ls 7 [(0, .ref o1), (1, .int x1)] := hl
  refine lv_aload_n hx hb dX9_cause_0 rfl (lv_at hl 0 rfl) ?_
  refine lv_iload_n hx hb dX9_cause_1 rfl (lv_at hl 1 rfl) ?_
  have hFc := free_all hD hS hA
  obtain ⟨k1, gk1, hk1⟩ := wGt (cy := cy) X S h_o1.1 h_o1.2.1
  refine vx_callq (vx_runV (As := [.int x1]) (rest := []) ⟨hx, hb, hml, hown, hts⟩ (c_X9_gearAt l hst (cy := cy) (X := X) (D := D) S _ o1 h_o1 x1 (hW)) (cwV 1 hts gX9_cause_X9_gearAt rfl rfl rfl hd_X9_gearAt ⟨Nat.le_of_ble_eq_true rfl, Nat.le_of_ble_eq_true rfl⟩) (pVt (va_recv hK hP (q := (RX9, TX9, 11)) (ci := 13) (q0 := k1) rfl hk1) hP hK hD hN hTH hS hFc) rfl rfl hl.1 rfl (lv_room (Nat.le_of_ble_eq_true rfl)) dX9_cause_2 ⟨Nat.le_of_ble_eq_true rfl, Nat.le_of_ble_eq_true rfl⟩) hS (fun q _ h => hFc q h) hFc (fun q _ h => hFc q h) (fun E ce q9 u t H1 locs ht hvm hw hB hz1 hk1 hS hq9 hce hcl => ?_) (fun r2 u t H1 locs ht hvm hw hB hz1 hk1 hS => ?_)
  · obtain ⟨c3, hEc3, hB2⟩ := hB
    obtain ⟨hP, hD⟩ := wd_post hFc ht hB2
    exact vx_out (fun x h => (hno x h).elim) hlocks hq9 hce hcl (fun t2 ht2 hA2 => ⟨(), trivial, ⟨(by show f_X9_cause S o1 x1 = .error E; unfold f_X9_cause; rw [eB_er c3]), (el_in (by decide) hEc3), wd_end hP hK hD ht2 hA2⟩, hS.F ht2⟩) hS.2.2 (Nat.le_of_ble_eq_true rfl) (Nat.le_of_ble_eq_true rfl)
  · obtain ⟨r2, rfl, c4, o5⟩ := hw
    obtain ⟨hP, hD⟩ := wd_post hFc ht hB
    generalize H1 = H at hP hS ⊢
    refine W.eq (g2 := F0 m 5 ls [.ref r2]) rfl ?_
    refine lv_astore_n (lv' := [(2, .ref r2), (0, .ref o1), (1, .int x1)]) hx hb dX9_cause_5 rfl hl (by decide) rfl (fun ls hl => ?_)
    refine lv_aload_n hx hb dX9_cause_6 rfl (lv_at hl 0 rfl) ?_
    have F6 := ((hW.at o5 List.not_mem_nil).to_2 o5.2.1).F5
    obtain ⟨k7, gk7, hk7⟩ := wGt (cy := cy) X S o5.1 o5.2.1
    simp only [kE, F6.1] at hk7
    refine va_get (D := D) (ci := 6) (v := .ref (S.f r2 5)) (C := RX2) (T := TX2) (N := 20) hx hb hts hi_X9_cause_X2 hown hK hP k7 hk7 rfl 5 (by decide) (hts (.fieldLink RX9 339 "Hobhouse$Gear" "chart" "LHobhouse$Chart;") (by decide +kernel)) (fun _ h9 => h9) rfl dX9_cause_7 ?_
    refine lv_aload_n hx hb dX9_cause_10 rfl (lv_at hl 1 rfl) ?_
    obtain ⟨k8, gk8, hk8⟩ := wGt (cy := cy) X S h_o1.1 h_o1.2.1
    refine va_get (D := D) (ci := 13) (v := .int (S.I o1 10)) (C := RX9) (T := TX9) (N := 11) hx hb hts hi_X9_cause_X9 hown hK hP k8 hk8 rfl 10 (by decide) (hts (.fieldLink RX9 52 "Hobhouse" "ownTeeth" "I") (by decide +kernel)) (fun _ h9 => h9) rfl dX9_cause_11 ?_
    refine lv_aload_n hx hb dX9_cause_14 rfl (lv_at hl 0 rfl) ?_
    obtain ⟨k9, gk9, hk9⟩ := wGt (cy := cy) X S o5.1 o5.2.1
    have i10 := ((hW.at o5 List.not_mem_nil).to_2 o5.2.1).R1
    refine va_get (D := D) (ci := 6) (v := .int (S.I r2 1)) (C := RX2) (T := TX2) (N := 20) hx hb hts hi_X9_cause_X2 hown hK hP k9 hk9 rfl 1 (by decide) (hts (.fieldLink RX9 100 "Hobhouse$Gear" "teeth" "I") (by decide +kernel)) (fun _ h9 => h9) rfl dX9_cause_15 ?_
    have hFc := free_all hD hS hA
    refine va_calli (va_runS (As := [.int (S.I o1 10), .int (S.I r2 1)]) (rest := [.ref (S.f r2 5)]) ⟨hx, hb, hml, hown, hts⟩ (c_X9_commonDivisor l (cy := cy) (X := X) (D := D) S _ (S.I o1 10) (S.I r2 1)) (cwS 2 hts gX9_cause_X9_commonDivisor rfl rfl rfl hd_X9_commonDivisor ⟨Nat.le_of_ble_eq_true rfl, Nat.le_of_ble_eq_true rfl⟩) (pS hP hK hD hN) rfl rfl hl.1 rfl (lv_room (Nat.le_of_ble_eq_true rfl)) dX9_cause_18 ⟨Nat.le_of_ble_eq_true rfl, Nat.le_of_ble_eq_true rfl⟩) hS (fun q _ h => hFc q h) hFc (fun r11 u t H1 locs ht hvm hw hB hz1 hk1 hS => ?_)
    have c12 := hw
    obtain ⟨hP, hD⟩ := wd_post hFc ht hB
    generalize H1 = H at hP hS ⊢
    obtain rfl : f_X9_commonDivisor (S.I o1 10) (S.I r2 1) = r11 := c12.symm
    have i13 := cd_i (S.I o1 10) (S.I r2 1)
    have hFc := free_all hD hS hA
    obtain ⟨k14, gk14, hk14⟩ := wGt (cy := cy) X S F6.2.1 F6.2.2.1
    refine va_calli (va_runV (As := [.int (f_X9_commonDivisor (S.I o1 10) (S.I r2 1))]) (rest := []) ⟨hx, hb, hml, hown, hts⟩ (c_X1_partOf l (cy := cy) (X := X) (D := D) S _ (S.f r2 5) F6.2 (f_X9_commonDivisor (S.I o1 10) (S.I r2 1)) (hW)) (cwV 1 hts gX9_cause_X1_partOf rfl rfl rfl hd_X1_partOf ⟨Nat.le_of_ble_eq_true rfl, Nat.le_of_ble_eq_true rfl⟩) (pV (va_recv hK hP (q := (RX1, TX1, 3)) (ci := 5) (q0 := k14) rfl hk14) hP hK hD hN) rfl rfl hl.1 rfl (lv_room (Nat.le_of_ble_eq_true rfl)) dX9_cause_21 ⟨Nat.le_of_ble_eq_true rfl, Nat.le_of_ble_eq_true rfl⟩) hS (fun q _ h => hFc q h) hFc (fun r15 u t H1 locs ht hvm hw hB hz1 hk1 hS => ?_)
    have c16 := hw
    obtain ⟨hP, hD⟩ := wd_post hFc ht hB
    generalize H1 = H at hP hS ⊢
    obtain rfl : f_X1_partOf S (S.f r2 5) (f_X9_commonDivisor (S.I o1 10) (S.I r2 1)) = r15 := c16.symm
    refine lv_istore_n (lv' := [(3, .int (f_X1_partOf S (S.f r2 5) (f_X9_commonDivisor (S.I o1 10) (S.I r2 1)))), (2, .ref r2), (0, .ref o1), (1, .int x1)]) hx hb dX9_cause_24 rfl hl (by decide) rfl (fun ls hl => ?_)
    refine lv_aload_n hx hb dX9_cause_25 rfl (lv_at hl 1 rfl) ?_
    obtain ⟨k17, gk17, hk17⟩ := wGt (cy := cy) X S o5.1 o5.2.1
    simp only [kE, F6.1] at hk17
    refine va_get (D := D) (ci := 6) (v := .ref (S.f r2 5)) (C := RX2) (T := TX2) (N := 20) hx hb hts hi_X9_cause_X2 hown hK hP k17 hk17 rfl 5 (by decide) (hts (.fieldLink RX9 339 "Hobhouse$Gear" "chart" "LHobhouse$Chart;") (by decide +kernel)) (fun _ h9 => h9) rfl dX9_cause_26 ?_
    refine lv_aload_n hx hb dX9_cause_29 rfl (lv_at hl 1 rfl) ?_
    obtain ⟨k18, gk18, hk18⟩ := wGt (cy := cy) X S o5.1 o5.2.1
    refine va_get (D := D) (ci := 6) (v := .int (S.I r2 10)) (C := RX2) (T := TX2) (N := 20) hx hb hts hi_X9_cause_X2 hown hK hP k18 hk18 rfl 10 (by decide) (hts (.fieldLink RX9 277 "Hobhouse$Gear" "hobStarts" "I") (by decide +kernel)) (fun _ h9 => h9) rfl dX9_cause_30 ?_
    have hFc := free_all hD hS hA
    obtain ⟨k19, gk19, hk19⟩ := wGt (cy := cy) X S F6.2.1 F6.2.2.1
    refine va_calli (va_runV (As := [.int (S.I r2 10)]) (rest := []) ⟨hx, hb, hml, hown, hts⟩ (c_X1_partOf l (cy := cy) (X := X) (D := D) S _ (S.f r2 5) F6.2 (S.I r2 10) (hW)) (cwV 1 hts gX9_cause_X1_partOf rfl rfl rfl hd_X1_partOf ⟨Nat.le_of_ble_eq_true rfl, Nat.le_of_ble_eq_true rfl⟩) (pV (va_recv hK hP (q := (RX1, TX1, 3)) (ci := 5) (q0 := k19) rfl hk19) hP hK hD hN) rfl rfl hl.1 rfl (lv_room (Nat.le_of_ble_eq_true rfl)) dX9_cause_33 ⟨Nat.le_of_ble_eq_true rfl, Nat.le_of_ble_eq_true rfl⟩) hS (fun q _ h => hFc q h) hFc (fun r20 u t H1 locs ht hvm hw hB hz1 hk1 hS => ?_)
    have c21 := hw
    obtain ⟨hP, hD⟩ := wd_post hFc ht hB
    generalize H1 = H at hP hS ⊢
    obtain rfl : f_X1_partOf S (S.f r2 5) (S.I r2 10) = r20 := c21.symm
    refine lv_istore (lv' := [(4, .int (f_X1_partOf S (S.f r2 5) (S.I r2 10))), (3, .int (f_X1_partOf S (S.f r2 5) (f_X9_commonDivisor (S.I o1 10) (S.I r2 1)))), (2, .ref r2), (0, .ref o1), (1, .int x1)]) hx hb dX9_cause_36 hl (by decide) rfl (fun ls hl => ?_)
    refine lv_aload_n hx hb dX9_cause_38 rfl (lv_at hl 2 rfl) ?_
    obtain ⟨k22, gk22, hk22⟩ := wGt (cy := cy) X S o5.1 o5.2.1
    simp only [kE, F6.1] at hk22
    refine va_get (D := D) (ci := 6) (v := .ref (S.f r2 5)) (C := RX2) (T := TX2) (N := 20) hx hb hts hi_X9_cause_X2 hown hK hP k22 hk22 rfl 5 (by decide) (hts (.fieldLink RX9 339 "Hobhouse$Gear" "chart" "LHobhouse$Chart;") (by decide +kernel)) (fun _ h9 => h9) rfl dX9_cause_39 ?_
    obtain ⟨k23, gk23, hk23⟩ := wGt (cy := cy) X S F6.2.1 F6.2.2.1
    refine va_get (D := D) (ci := 5) (v := .int (S.I (S.f r2 5) 2)) (C := RX1) (T := TX1) (N := 3) hx hb hts hi_X9_cause_X1 hown hK hP k23 hk23 rfl 2 (by decide) (hts (.fieldLink RX9 348 "Hobhouse$Chart" "spread" "I") (by decide +kernel)) (fun _ h9 => h9) rfl dX9_cause_42 ?_
    refine lv_istore (lv' := [(5, .int (S.I (S.f r2 5) 2)), (4, .int (f_X1_partOf S (S.f r2 5) (S.I r2 10))), (3, .int (f_X1_partOf S (S.f r2 5) (f_X9_commonDivisor (S.I o1 10) (S.I r2 1)))), (2, .ref r2), (0, .ref o1), (1, .int x1)]) hx hb dX9_cause_45 hl (by decide) rfl (fun ls hl => ?_)
    refine lv_iload_n hx hb dX9_cause_47 rfl (lv_at hl 2 rfl) ?_
    refine lv_iload hx hb dX9_cause_48 (lv_at hl 1 rfl) ?_
    refine lv_iload hx hb dX9_cause_50 (lv_at hl 0 rfl) ?_
    refine va_mmax hx hb (hml.trans hl.1.symm) hown (hts (.methodLink RX9 362 Lib.Math.max.name) (by decide +kernel)) (hts (.static Lib.Math.max.name) (by decide +kernel)) (hts (.initialized "java/lang/Math") (by decide +kernel)) (hts (.code Lib.Math.max.name Lib.Math.max.code 2 (some .int)) (by decide +kernel)) (Nat.le_of_ble_eq_true rfl) (Nat.le_of_ble_eq_true rfl) (Nat.le_of_ble_eq_true rfl) (Nat.le_of_ble_eq_true rfl) dX9_cause_52 ?_
    refine va_mmax hx hb (hml.trans hl.1.symm) hown (hts (.methodLink RX9 362 Lib.Math.max.name) (by decide +kernel)) (hts (.static Lib.Math.max.name) (by decide +kernel)) (hts (.initialized "java/lang/Math") (by decide +kernel)) (hts (.code Lib.Math.max.name Lib.Math.max.code 2 (some .int)) (by decide +kernel)) (Nat.le_of_ble_eq_true rfl) (Nat.le_of_ble_eq_true rfl) (Nat.le_of_ble_eq_true rfl) (Nat.le_of_ble_eq_true rfl) dX9_cause_55 ?_
    refine lv_istore (lv' := [(6, .int (if (f_X1_partOf S (S.f r2 5) (f_X9_commonDivisor (S.I o1 10) (S.I r2 1))) < (if (f_X1_partOf S (S.f r2 5) (S.I r2 10)) < (S.I (S.f r2 5) 2) then (S.I (S.f r2 5) 2) else (f_X1_partOf S (S.f r2 5) (S.I r2 10))) then (if (f_X1_partOf S (S.f r2 5) (S.I r2 10)) < (S.I (S.f r2 5) 2) then (S.I (S.f r2 5) 2) else (f_X1_partOf S (S.f r2 5) (S.I r2 10))) else (f_X1_partOf S (S.f r2 5) (f_X9_commonDivisor (S.I o1 10) (S.I r2 1))))), (5, .int (S.I (S.f r2 5) 2)), (4, .int (f_X1_partOf S (S.f r2 5) (S.I r2 10))), (3, .int (f_X1_partOf S (S.f r2 5) (f_X9_commonDivisor (S.I o1 10) (S.I r2 1)))), (2, .ref r2), (0, .ref o1), (1, .int x1)]) hx hb dX9_cause_58 hl (by decide) rfl (fun ls hl => ?_)
    refine lv_iload hx hb dX9_cause_60 (lv_at hl 0 rfl) ?_
    refine lv_if_ne (tgt := 68) hx hb dX9_cause_62 (by decide) (fun c24 => ?_) (fun c24 => ?_)
    · have c24i : ¬ (if (f_X1_partOf S (S.f r2 5) (f_X9_commonDivisor (S.I o1 10) (S.I r2 1))) < (if (f_X1_partOf S (S.f r2 5) (S.I r2 10)) < (S.I (S.f r2 5) 2) then (S.I (S.f r2 5) 2) else (f_X1_partOf S (S.f r2 5) (S.I r2 10))) then (if (f_X1_partOf S (S.f r2 5) (S.I r2 10)) < (S.I (S.f r2 5) 2) then (S.I (S.f r2 5) 2) else (f_X1_partOf S (S.f r2 5) (S.I r2 10))) else (f_X1_partOf S (S.f r2 5) (f_X9_commonDivisor (S.I o1 10) (S.I r2 1)))).toInt = 0 := neq_v rfl rfl c24
      refine lv_iload_n hx hb dX9_cause_68 rfl (lv_at hl 3 rfl) ?_
      refine lv_iload hx hb dX9_cause_69 (lv_at hl 0 rfl) ?_
      refine lv_icmp_ne (tgt := 77) hx hb dX9_cause_71 (by decide) (fun c25 => ?_) (fun c25 => ?_)
      · have c25i : ¬ (f_X1_partOf S (S.f r2 5) (f_X9_commonDivisor (S.I o1 10) (S.I r2 1))).toInt = (if (f_X1_partOf S (S.f r2 5) (f_X9_commonDivisor (S.I o1 10) (S.I r2 1))) < (if (f_X1_partOf S (S.f r2 5) (S.I r2 10)) < (S.I (S.f r2 5) 2) then (S.I (S.f r2 5) 2) else (f_X1_partOf S (S.f r2 5) (S.I r2 10))) then (if (f_X1_partOf S (S.f r2 5) (S.I r2 10)) < (S.I (S.f r2 5) 2) then (S.I (S.f r2 5) 2) else (f_X1_partOf S (S.f r2 5) (S.I r2 10))) else (f_X1_partOf S (S.f r2 5) (f_X9_commonDivisor (S.I o1 10) (S.I r2 1)))).toInt := neq_v rfl rfl c25
        refine lv_iload hx hb dX9_cause_77 (lv_at hl 2 rfl) ?_
        refine lv_iload hx hb dX9_cause_79 (lv_at hl 0 rfl) ?_
        refine lv_icmp_ne (tgt := 89) hx hb dX9_cause_81 (by decide) (fun c26 => ?_) (fun c26 => ?_)
        · have c26i : ¬ (f_X1_partOf S (S.f r2 5) (S.I r2 10)).toInt = (if (f_X1_partOf S (S.f r2 5) (f_X9_commonDivisor (S.I o1 10) (S.I r2 1))) < (if (f_X1_partOf S (S.f r2 5) (S.I r2 10)) < (S.I (S.f r2 5) 2) then (S.I (S.f r2 5) 2) else (f_X1_partOf S (S.f r2 5) (S.I r2 10))) then (if (f_X1_partOf S (S.f r2 5) (S.I r2 10)) < (S.I (S.f r2 5) 2) then (S.I (S.f r2 5) 2) else (f_X1_partOf S (S.f r2 5) (S.I r2 10))) else (f_X1_partOf S (S.f r2 5) (f_X9_commonDivisor (S.I o1 10) (S.I r2 1)))).toInt := neq_v rfl rfl c26
          refine lv_bipush (v := 115) hx hb dX9_cause_89 (by decide +kernel) ?_
          refine vx_ret ?_
          refine W.widen (k := 1) (n := 6) (Nat.le_of_ble_eq_true rfl) (Nat.le_of_ble_eq_true rfl) ?_
          exact W.zret (v := (115 : Int32)) hx hb hr (by rfl) (fun t ht hW9 => ⟨⟨(115 : Int32), (), rfl, (by show f_X9_cause S o1 x1 = .ok (115 : Int32); unfold f_X9_cause; rw [eB_ok c4, if_neg c24, if_neg c25, if_neg c26]), wd_end hP hK hD ht hW9.alike⟩, hS.F ht⟩) hS.2.2 dX9_cause_91 hlocks
        · have c26i : (f_X1_partOf S (S.f r2 5) (S.I r2 10)).toInt = (if (f_X1_partOf S (S.f r2 5) (f_X9_commonDivisor (S.I o1 10) (S.I r2 1))) < (if (f_X1_partOf S (S.f r2 5) (S.I r2 10)) < (S.I (S.f r2 5) 2) then (S.I (S.f r2 5) 2) else (f_X1_partOf S (S.f r2 5) (S.I r2 10))) then (if (f_X1_partOf S (S.f r2 5) (S.I r2 10)) < (S.I (S.f r2 5) 2) then (S.I (S.f r2 5) 2) else (f_X1_partOf S (S.f r2 5) (S.I r2 10))) else (f_X1_partOf S (S.f r2 5) (f_X9_commonDivisor (S.I o1 10) (S.I r2 1)))).toInt := eq_v rfl rfl c26
          refine lv_bipush (v := 116) hx hb dX9_cause_84 (by decide +kernel) ?_
          refine lv_goto (tgt := 91) hx hb dX9_cause_86 (by decide) ?_
          refine vx_ret ?_
          refine W.widen (k := 1) (n := 6) (Nat.le_of_ble_eq_true rfl) (Nat.le_of_ble_eq_true rfl) ?_
          exact W.zret (v := (116 : Int32)) hx hb hr (by rfl) (fun t ht hW9 => ⟨⟨(116 : Int32), (), rfl, (by show f_X9_cause S o1 x1 = .ok (116 : Int32); unfold f_X9_cause; rw [eB_ok c4, if_neg c24, if_neg c25, if_pos c26]), wd_end hP hK hD ht hW9.alike⟩, hS.F ht⟩) hS.2.2 dX9_cause_91 hlocks
      · have c25i : (f_X1_partOf S (S.f r2 5) (f_X9_commonDivisor (S.I o1 10) (S.I r2 1))).toInt = (if (f_X1_partOf S (S.f r2 5) (f_X9_commonDivisor (S.I o1 10) (S.I r2 1))) < (if (f_X1_partOf S (S.f r2 5) (S.I r2 10)) < (S.I (S.f r2 5) 2) then (S.I (S.f r2 5) 2) else (f_X1_partOf S (S.f r2 5) (S.I r2 10))) then (if (f_X1_partOf S (S.f r2 5) (S.I r2 10)) < (S.I (S.f r2 5) 2) then (S.I (S.f r2 5) 2) else (f_X1_partOf S (S.f r2 5) (S.I r2 10))) else (f_X1_partOf S (S.f r2 5) (f_X9_commonDivisor (S.I o1 10) (S.I r2 1)))).toInt := eq_v rfl rfl c25
        refine lv_bipush (v := 109) hx hb dX9_cause_74 (by decide +kernel) ?_
        refine vx_ret ?_
        refine W.widen (k := 1) (n := 6) (Nat.le_of_ble_eq_true rfl) (Nat.le_of_ble_eq_true rfl) ?_
        exact W.zret (v := (109 : Int32)) hx hb hr (by rfl) (fun t ht hW9 => ⟨⟨(109 : Int32), (), rfl, (by show f_X9_cause S o1 x1 = .ok (109 : Int32); unfold f_X9_cause; rw [eB_ok c4, if_neg c24, if_pos c25]), wd_end hP hK hD ht hW9.alike⟩, hS.F ht⟩) hS.2.2 dX9_cause_76 hlocks
    · have c24i : (if (f_X1_partOf S (S.f r2 5) (f_X9_commonDivisor (S.I o1 10) (S.I r2 1))) < (if (f_X1_partOf S (S.f r2 5) (S.I r2 10)) < (S.I (S.f r2 5) 2) then (S.I (S.f r2 5) 2) else (f_X1_partOf S (S.f r2 5) (S.I r2 10))) then (if (f_X1_partOf S (S.f r2 5) (S.I r2 10)) < (S.I (S.f r2 5) 2) then (S.I (S.f r2 5) 2) else (f_X1_partOf S (S.f r2 5) (S.I r2 10))) else (f_X1_partOf S (S.f r2 5) (f_X9_commonDivisor (S.I o1 10) (S.I r2 1)))).toInt = 0 := eq_v rfl rfl c24
      refine lv_bipush (v := 110) hx hb dX9_cause_65 (by decide +kernel) ?_
      refine vx_ret ?_
      refine W.widen (k := 1) (n := 6) (Nat.le_of_ble_eq_true rfl) (Nat.le_of_ble_eq_true rfl) ?_
      exact W.zret (v := (110 : Int32)) hx hb hr (by rfl) (fun t ht hW9 => ⟨⟨(110 : Int32), (), rfl, (by show f_X9_cause S o1 x1 = .ok (110 : Int32); unfold f_X9_cause; rw [eB_ok c4, if_pos c24]), wd_end hP hK hD ht hW9.alike⟩, hS.F ht⟩) hS.2.2 dX9_cause_67 hlocks
def f_X9_needMachines_L22 (S : wPS) (o1 : Nat) (w2_1 : Int32) (k : Int32 → Except String Unit) : Nat → Int32 → Except String Unit
  | 0, w22_3 => k w22_3
  | n + 1, w22_3 => if (f_J4_length_8abf5 S (S.f (S.q (S.f o1 0) w2_1.toNatClampNeg) 6)) ≤ w22_3 then k w22_3 else if (f_X9_soonest S o1 (f_J4_charAt_5068e S (S.f (S.q (S.f o1 0) w2_1.toNatClampNeg) 6) w22_3) (0 : Int32)) = (-1 : Int32) then .error "java/util/NoSuchElementException" else f_X9_needMachines_L22 S o1 w2_1 k n (w22_3 + (1 : Int32))
theorem f_X9_needMachines_L22_s (S : wPS) (o1 : Nat) (w2_1 : Int32) (k : Int32 → Except String Unit) (n : Nat) (w22_3 : Int32) : f_X9_needMachines_L22 S o1 w2_1 k (n + 1) w22_3 = if (f_J4_length_8abf5 S (S.f (S.q (S.f o1 0) w2_1.toNatClampNeg) 6)) ≤ w22_3 then k w22_3 else if (f_X9_soonest S o1 (f_J4_charAt_5068e S (S.f (S.q (S.f o1 0) w2_1.toNatClampNeg) 6) w22_3) (0 : Int32)) = (-1 : Int32) then .error "java/util/NoSuchElementException" else f_X9_needMachines_L22 S o1 w2_1 k n (w22_3 + (1 : Int32)) := rfl
def f_X9_needMachines_L2 (S : wPS) (o1 : Nat) (k : Int32 → Except String Unit) : Nat → Int32 → Except String Unit
  | 0, w2_1 => k w2_1
  | n + 1, w2_1 => if (S.I o1 1) ≤ w2_1 then k w2_1 else f_X9_needMachines_L22 S o1 w2_1 (fun (z26 : Int32) => f_X9_needMachines_L2 S o1 k n (w2_1 + (1 : Int32))) 10 (0 : Int32)
theorem f_X9_needMachines_L2_s (S : wPS) (o1 : Nat) (k : Int32 → Except String Unit) (n : Nat) (w2_1 : Int32) : f_X9_needMachines_L2 S o1 k (n + 1) w2_1 = if (S.I o1 1) ≤ w2_1 then k w2_1 else f_X9_needMachines_L22 S o1 w2_1 (fun (z26 : Int32) => f_X9_needMachines_L2 S o1 k n (w2_1 + (1 : Int32))) 10 (0 : Int32) := rfl
def f_X9_needMachines (S : wPS) (o1 : Nat) : Except String Unit := f_X9_needMachines_L2 S o1 (fun (z29 : Int32) => .ok ()) 22 (0 : Int32)
set_option maxRecDepth 20000 in
theorem s_X9_needMachines_NSEE : ∀ w ∈ (vx_atI RX9 154 "java/util/NoSuchElementException" ["java/lang/RuntimeException", "java/lang/Exception"]).filter goodWord, w ∈ wsX9_needMachines := fun w h => List.mem_cons_of_mem _ (List.mem_append_right _ h)
theorem hi_X9_needMachines_X2 : ∀ w ∈ u_ws RX2 TX2 20, w ∈ wsX9_needMachines := by decide +kernel
theorem hi_X9_needMachines_X9 : ∀ w ∈ u_ws RX9 TX9 11, w ∈ wsX9_needMachines := by decide +kernel
theorem hd_X9_needMachines : yX9_needMachines.cls = RX9 ∧ yX9_needMachines.cls ≠ "java/lang/invoke/MethodHandle" ∧ yX9_needMachines.cls ≠ "java/lang/invoke/VarHandle" ∧ (parseMethodDescriptor yX9_needMachines.desc).map (fun d => d.parameters.length) = some 0 := by decide +kernel
set_option maxHeartbeats 4000000 in
set_option maxRecDepth 100000 in
theorem c_X9_needMachines (l : Launch) (hst : l.stackTraces = false) {e0 mi : Nat} {D : va_G} {cy : Nat → ClassId} {X : va_W} (S : wPS) (sz : Nat) (o1 : Nat) (h_o1 : isA S o1 9) (hW : wtB S [])  : vx_Met l yX9_needMachines wsX9_needMachines ({ frames := 6, cells := 1, slots := 6, locals := 88 }) (va_Pc [.ref o1] (fun U => U.heap.size = sz ∧ WD D cy X (fun _ => True) S U ∧ NW U ∧ TH (va_A (X ++ PL cy S) sz) U ∧ OU e0 mi (va_A (X ++ PL cy S) sz) U U.heap)) (va_Qv (fun (_ : Unit) => f_X9_needMachines S o1 = .ok ()) (fun _ t => WD D cy X (va_A (X ++ PL cy S) sz) S t) (va_A (X ++ PL cy S) sz)) (vx_X (fun (_ : Unit) => True) (fun E _ t => f_X9_needMachines S o1 = .error E ∧ E ∈ ["java/util/NoSuchElementException"] ∧ WD D cy X (va_A (X ++ PL cy S) sz) S t) (va_A (X ++ PL cy S) sz)) 1 6 (va_A (X ++ PL cy S) sz) := by
  refine vx_ofW (cc := cX9_needMachines) (maxL := 4) (ret := none) (by decide) rfl ?_
  intro p e s m args below meth c s₁ B hml hno hv
  obtain ⟨rfl, hsz, ⟨hP, hK, hD0⟩, hN, hTH, hOU⟩ := hv
  have hx := B.exec
  have hb := B.bytes
  have hr := B.returns
  have hts := atoms_spec (ws := wsX9_needMachines) B.pre
  have hown : s.vm.findClass RX9 = some m.cls := findClass_of_methodNamed (x := yX9_needMachines) B.named
  have hlocks := B.notSynchronized
  subst hsz
  have hD := hD0.self (sz := s.heap.size)
  generalize hAe : va_A (X ++ PL cy S) s.heap.size = A at hD hTH hOU ⊢
  have hA : ∀ q : Nat, s.heap.size ≤ q → A q := fun q h => by rw [← hAe]; exact Or.inr h
  have hS : va_S A s.heap s.heap [] := va_S.rf
  have hl := lv_entry ([.ref o1]) (n := 4) (Nat.le_of_ble_eq_true rfl)
  rw [lg_entry_eq]
  generalize (lg_sl ([.ref o1]) ++ List.replicate (4 - (lg_sl ([.ref o1])).length) Slot.unset).toArray = ls at hl ⊢
  have hl : lv_has ls 4 [(0, .ref o1)] := hl
  obtain ⟨⟨ga, gZ, gX, gl, gA⟩, ⟨sa9, sZ, sX, sl9, sA⟩, cZ, eZ, eX, el, eA, hMi, hDc, ⟨pf, pZ⟩⟩ := id hOU
  refine lv_iconst (v := 0) hx hb dX9_needMachines_0 (by decide) ?_
  refine lv_istore_n (lv' := [(1, .int (0 : Int32)), (0, .ref o1)]) hx hb dX9_needMachines_1 rfl hl (by decide) rfl (fun ls hl => ?_)
  have l32_0 : (0 : Int32).toInt = 0 := rfl
  have loop2 : ∀ (K2 : Int32 → Except String Unit) (n : Nat) (w2_1 : Int32) (H : Heap) (locs : List Loc) (ls : Array Slot), (21 - w2_1.toInt).toNat < n → 0 ≤ w2_1.toInt ∧ w2_1.toInt ≤ 20 → va_P D vwCl (X ++ PL cy S) H → va_S A s.heap H locs → lv_has ls 4 [(1, .int w2_1), (0, .ref o1)] → f_X9_needMachines S o1 = f_X9_needMachines_L2 S o1 K2 n w2_1 → (∀ (w2_1x : Int32) (H : Heap) (locs : List Loc) (ls : Array Slot), 0 ≤ w2_1x.toInt ∧ w2_1x.toInt ≤ 20 → va_P D vwCl (X ++ PL cy S) H → va_S A s.heap H locs → lv_has ls 4 [(1, .int w2_1x), (0, .ref o1)] → f_X9_needMachines S o1 = K2 w2_1x → W p l e (headSpec wsX9_needMachines ({ frames := 6, cells := 1, slots := 6, locals := 88 } : Room)).room s m [.ref o1].toArray below meth c H locs 0 0 (vx_MQ below (va_Qv (fun (_ : Unit) => f_X9_needMachines S o1 = .ok ()) (fun _ t => WD D cy X A S t) A) (vx_X (fun (_ : Unit) => True) (fun E _ t => f_X9_needMachines S o1 = .error E ∧ E ∈ ["java/util/NoSuchElementException"] ∧ WD D cy X A S t) A) [.ref o1].toArray s 1 6 A) (F0 m 67 ls [])) → W p l e (headSpec wsX9_needMachines ({ frames := 6, cells := 1, slots := 6, locals := 88 } : Room)).room s m [.ref o1].toArray below meth c H locs 0 0 (vx_MQ below (va_Qv (fun (_ : Unit) => f_X9_needMachines S o1 = .ok ()) (fun _ t => WD D cy X A S t) A) (vx_X (fun (_ : Unit) => True) (fun E _ t => f_X9_needMachines S o1 = .error E ∧ E ∈ ["java/util/NoSuchElementException"] ∧ WD D cy X A S t) A) [.ref o1].toArray s 1 6 A) (F0 m 2 ls []) := by
    intro K2 n2
    induction n2 with
    | zero => intro w2_1 H locs ls hm; exact absurd hm (Nat.not_lt_zero _)
    | succ n2 ih2 =>
      intro w2_1 H locs ls hm2 hi2 hP hS hl hq2 ko2
      refine lv_iload_n hx hb dX9_needMachines_2 rfl (lv_at hl 0 rfl) ?_
      refine lv_aload_n hx hb dX9_needMachines_3 rfl (lv_at hl 1 rfl) ?_
      obtain ⟨k1, gk1, hk1⟩ := wGt (cy := cy) X S h_o1.1 h_o1.2.1
      have i2 := ((hW.at h_o1 List.not_mem_nil).to_9 h_o1.2.1).R1
      refine va_get (D := D) (ci := 13) (v := .int (S.I o1 1)) (C := RX9) (T := TX9) (N := 11) hx hb hts hi_X9_needMachines_X9 hown hK hP k1 hk1 rfl 1 (by decide) (hts (.fieldLink RX9 64 "Hobhouse" "gearCount" "I") (by decide +kernel)) (fun _ h9 => h9) rfl dX9_needMachines_4 ?_
      refine lv_icmp_ge (tgt := 67) hx hb dX9_needMachines_7 (by decide) (fun c3 => ?_) (fun c3 => ?_)
      · have c3i : (S.I o1 1).toInt ≤ w2_1.toInt := le_v rfl rfl c3
        exact ko2 w2_1 _ _ _ (by omega) hP hS (lv_sub hl [0, 1] rfl) (by rw [hq2, f_X9_needMachines_L2_s, if_pos c3])
      · have c3i : w2_1.toInt < (S.I o1 1).toInt := nle_v rfl rfl c3
        refine lv_aload_n hx hb dX9_needMachines_10 rfl (lv_at hl 1 rfl) ?_
        have F4 := ((hW.at h_o1 List.not_mem_nil).to_9 h_o1.2.1).F0
        obtain ⟨k5, gk5, hk5⟩ := wGt (cy := cy) X S h_o1.1 h_o1.2.1
        simp only [kE, F4.1] at hk5
        refine va_get (D := D) (ci := 13) (v := .ref (S.f o1 0)) (C := RX9) (T := TX9) (N := 11) hx hb hts hi_X9_needMachines_X9 hown hK hP k5 hk5 rfl 0 (by decide) (hts (.fieldLink RX9 11 "Hobhouse" "gears" "[LHobhouse$Gear;") (by decide +kernel)) (fun _ h9 => h9) rfl dX9_needMachines_11 ?_
        refine lv_iload_n hx hb dX9_needMachines_14 rfl (lv_at hl 0 rfl) ?_
        obtain ⟨k6, gk6, hk6⟩ := wGt (cy := cy) X S F4.2.1.1 F4.2.1.2.1
        have i8 := cl_int (i := w2_1) (by omega)
        have g7 := elq (by have h9 := ((hW.at h_o1 List.not_mem_nil).to_9 h_o1.2.1).E0 w2_1.toNatClampNeg (by omega); rw [f_of F4.1] at h9; exact h9)
        refine va_aldq hx hb hK hP k6 4 hk6 rfl (inb (m := 20) F4.2.2 (by omega) (by omega)) dX9_needMachines_15 ?_
        rw [g7.1]
        refine W.eq (g2 := F0 m 16 ls [.ref (S.q (S.f o1 0) w2_1.toNatClampNeg)]) rfl ?_
        have F9 := ((hW.at g7.2 List.not_mem_nil).to_2 g7.2.2.1).F6
        obtain ⟨k10, gk10, hk10⟩ := wGt (cy := cy) X S g7.2.1 g7.2.2.1
        simp only [kE, F9.1] at hk10
        refine va_get (D := D) (ci := 6) (v := .ref (S.f (S.q (S.f o1 0) w2_1.toNatClampNeg) 6)) (C := RX2) (T := TX2) (N := 20) hx hb hts hi_X9_needMachines_X2 hown hK hP k10 hk10 rfl 6 (by decide) (hts (.fieldLink RX9 439 "Hobhouse$Gear" "way" "Ljava/lang/StringBuilder;") (by decide +kernel)) (fun _ h9 => h9) rfl dX9_needMachines_16 ?_
        refine lv_astore_n (lv' := [(2, .ref (S.f (S.q (S.f o1 0) w2_1.toNatClampNeg) 6)), (1, .int w2_1), (0, .ref o1)]) hx hb dX9_needMachines_19 rfl hl (by decide) rfl (fun ls hl => ?_)
        refine lv_iconst (v := 0) hx hb dX9_needMachines_20 (by decide) ?_
        refine lv_istore_n (lv' := [(3, .int (0 : Int32)), (2, .ref (S.f (S.q (S.f o1 0) w2_1.toNatClampNeg) 6)), (1, .int w2_1), (0, .ref o1)]) hx hb dX9_needMachines_21 rfl hl (by decide) rfl (fun ls hl => ?_)
        have loop22 : ∀ (K22 : Int32 → Except String Unit) (n : Nat) (w22_3 : Int32) (H : Heap) (locs : List Loc) (ls : Array Slot), (9 - w22_3.toInt).toNat < n → 0 ≤ w22_3.toInt ∧ w22_3.toInt ≤ 8 → va_P D vwCl (X ++ PL cy S) H → va_S A s.heap H locs → lv_has ls 4 [(3, .int w22_3), (2, .ref (S.f (S.q (S.f o1 0) w2_1.toNatClampNeg) 6)), (1, .int w2_1), (0, .ref o1)] → f_X9_needMachines S o1 = f_X9_needMachines_L22 S o1 w2_1 K22 n w22_3 → (∀ (w22_3x : Int32) (H : Heap) (locs : List Loc) (ls : Array Slot), 0 ≤ w22_3x.toInt ∧ w22_3x.toInt ≤ 8 → va_P D vwCl (X ++ PL cy S) H → va_S A s.heap H locs → lv_has ls 4 [(3, .int w22_3x), (2, .ref (S.f (S.q (S.f o1 0) w2_1.toNatClampNeg) 6)), (1, .int w2_1), (0, .ref o1)] → f_X9_needMachines S o1 = K22 w22_3x → W p l e (headSpec wsX9_needMachines ({ frames := 6, cells := 1, slots := 6, locals := 88 } : Room)).room s m [.ref o1].toArray below meth c H locs 0 0 (vx_MQ below (va_Qv (fun (_ : Unit) => f_X9_needMachines S o1 = .ok ()) (fun _ t => WD D cy X A S t) A) (vx_X (fun (_ : Unit) => True) (fun E _ t => f_X9_needMachines S o1 = .error E ∧ E ∈ ["java/util/NoSuchElementException"] ∧ WD D cy X A S t) A) [.ref o1].toArray s 1 6 A) (F0 m 61 ls [])) → W p l e (headSpec wsX9_needMachines ({ frames := 6, cells := 1, slots := 6, locals := 88 } : Room)).room s m [.ref o1].toArray below meth c H locs 0 0 (vx_MQ below (va_Qv (fun (_ : Unit) => f_X9_needMachines S o1 = .ok ()) (fun _ t => WD D cy X A S t) A) (vx_X (fun (_ : Unit) => True) (fun E _ t => f_X9_needMachines S o1 = .error E ∧ E ∈ ["java/util/NoSuchElementException"] ∧ WD D cy X A S t) A) [.ref o1].toArray s 1 6 A) (F0 m 22 ls []) := by
          intro K22 n22
          induction n22 with
          | zero => intro w22_3 H locs ls hm; exact absurd hm (Nat.not_lt_zero _)
          | succ n22 ih22 =>
            intro w22_3 H locs ls hm22 hi22 hP hS hl hq22 ko22
            refine lv_iload_n hx hb dX9_needMachines_22 rfl (lv_at hl 0 rfl) ?_
            refine lv_aload_n hx hb dX9_needMachines_23 rfl (lv_at hl 1 rfl) ?_
            have hFc := free_all hD hS hA
            obtain ⟨k11, gk11, hk11⟩ := wGt (cy := cy) X S F9.2.1 F9.2.2.1
            refine va_calli (va_runV (As := []) (rest := [.int w22_3]) ⟨hx, hb, hml, hown, hts⟩ (c_J4_length_8abf5 l (cy := cy) (X := X) (D := D) S _ (S.f (S.q (S.f o1 0) w2_1.toNatClampNeg) 6) F9.2) (cwV 0 hts gX9_needMachines_J4_length_8abf5 rfl rfl rfl hd_J4_length_8abf5 ⟨Nat.le_of_ble_eq_true rfl, Nat.le_of_ble_eq_true rfl⟩) (pV (va_recv hK hP (q := (RJ4, TJ4, 4)) (ci := 1) (q0 := k11) rfl hk11) hP hK hD hN) rfl rfl hl.1 rfl (lv_room (Nat.le_of_ble_eq_true rfl)) dX9_needMachines_24 ⟨(Nat.zero_le _), (Nat.zero_le _)⟩) hS (fun q _ h => hFc q h) hFc (fun r12 u t H1 locs ht hvm hw hB hz1 hk1 hS => ?_)
            have c13 := hw
            obtain ⟨hP, hD⟩ := wd_post hFc ht hB
            generalize H1 = H at hP hS ⊢
            obtain rfl : f_J4_length_8abf5 S (S.f (S.q (S.f o1 0) w2_1.toNatClampNeg) 6) = r12 := c13.symm
            have i14 : (f_J4_length_8abf5 S (S.f (S.q (S.f o1 0) w2_1.toNatClampNeg) 6)).toInt = (S.I (S.f (S.q (S.f o1 0) w2_1.toNatClampNeg) 6) 3).toInt := rfl
            have i15 := ((hW.at F9.2 List.not_mem_nil).to_13 F9.2.2.1).R3
            refine lv_icmp_ge (tgt := 61) hx hb dX9_needMachines_27 (by decide) (fun c16 => ?_) (fun c16 => ?_)
            · have c16i : (f_J4_length_8abf5 S (S.f (S.q (S.f o1 0) w2_1.toNatClampNeg) 6)).toInt ≤ w22_3.toInt := le_v rfl rfl c16
              exact ko22 w22_3 _ _ _ (by omega) hP hS (lv_sub hl [0, 1, 2, 3] rfl) (by rw [hq22, f_X9_needMachines_L22_s, if_pos c16])
            · have c16i : w22_3.toInt < (f_J4_length_8abf5 S (S.f (S.q (S.f o1 0) w2_1.toNatClampNeg) 6)).toInt := nle_v rfl rfl c16
              refine lv_aload_n hx hb dX9_needMachines_30 rfl (lv_at hl 3 rfl) ?_
              refine lv_aload_n hx hb dX9_needMachines_31 rfl (lv_at hl 1 rfl) ?_
              refine lv_iload_n hx hb dX9_needMachines_32 rfl (lv_at hl 0 rfl) ?_
              have hFc := free_all hD hS hA
              obtain ⟨k17, gk17, hk17⟩ := wGt (cy := cy) X S F9.2.1 F9.2.2.1
              refine va_calli (va_runV (As := [.int w22_3]) (rest := [.ref o1]) ⟨hx, hb, hml, hown, hts⟩ (c_J4_charAt_5068e l (e0 := e0) (mi := mi) (cy := cy) (X := X) (D := D) S _ (S.f (S.q (S.f o1 0) w2_1.toNatClampNeg) 6) F9.2 w22_3 (hW) (by omega)) (cwV 1 hts gX9_needMachines_J4_charAt_5068e rfl rfl rfl hd_J4_charAt_5068e ⟨Nat.le_of_ble_eq_true rfl, Nat.le_of_ble_eq_true rfl⟩) (pVo (va_recv hK hP (q := (RJ4, TJ4, 4)) (ci := 1) (q0 := k17) rfl hk17) hP hK hD hN hOU hS hFc) rfl rfl hl.1 rfl (lv_room (Nat.le_of_ble_eq_true rfl)) dX9_needMachines_33 ⟨(Nat.zero_le _), (Nat.zero_le _)⟩) hS (fun q _ h => hFc q h) hFc (fun r18 u t H1 locs ht hvm hw hB hz1 hk1 hS => ?_)
              have c19 := hw
              obtain ⟨hP, hD⟩ := wd_post hFc ht hB
              generalize H1 = H at hP hS ⊢
              obtain rfl : f_J4_charAt_5068e S (S.f (S.q (S.f o1 0) w2_1.toNatClampNeg) 6) w22_3 = r18 := c19.symm
              refine lv_iconst (v := 0) hx hb dX9_needMachines_36 (by decide) ?_
              have hFc := free_all hD hS hA
              obtain ⟨k20, gk20, hk20⟩ := wGt (cy := cy) X S h_o1.1 h_o1.2.1
              refine va_calli (va_runV (As := [.int (f_J4_charAt_5068e S (S.f (S.q (S.f o1 0) w2_1.toNatClampNeg) 6) w22_3), .int (0 : Int32)]) (rest := []) ⟨hx, hb, hml, hown, hts⟩ (c_X9_soonest l (cy := cy) (X := X) (D := D) S _ o1 h_o1 (f_J4_charAt_5068e S (S.f (S.q (S.f o1 0) w2_1.toNatClampNeg) 6) w22_3) (0 : Int32) (hW)) (cwV 2 hts gX9_needMachines_X9_soonest rfl rfl rfl hd_X9_soonest ⟨Nat.le_of_ble_eq_true rfl, Nat.le_of_ble_eq_true rfl⟩) (pV (va_recv hK hP (q := (RX9, TX9, 11)) (ci := 13) (q0 := k20) rfl hk20) hP hK hD hN) rfl rfl hl.1 rfl (lv_room (Nat.le_of_ble_eq_true rfl)) dX9_needMachines_37 ⟨(Nat.zero_le _), (Nat.zero_le _)⟩) hS (fun q _ h => hFc q h) hFc (fun r21 u t H1 locs ht hvm hw hB hz1 hk1 hS => ?_)
              have c22 := hw
              obtain ⟨hP, hD⟩ := wd_post hFc ht hB
              generalize H1 = H at hP hS ⊢
              obtain rfl : f_X9_soonest S o1 (f_J4_charAt_5068e S (S.f (S.q (S.f o1 0) w2_1.toNatClampNeg) 6) w22_3) (0 : Int32) = r21 := c22.symm
              refine lv_iconst (v := -1) hx hb dX9_needMachines_40 (by decide) ?_
              refine lv_icmp_ne (tgt := 55) hx hb dX9_needMachines_41 (by decide) (fun c23 => ?_) (fun c23 => ?_)
              · have c23i : ¬ (f_X9_soonest S o1 (f_J4_charAt_5068e S (S.f (S.q (S.f o1 0) w2_1.toNatClampNeg) 6) w22_3) (0 : Int32)).toInt = -1 := neq_v rfl rfl c23
                refine lv_iinc (v := w22_3 + (1 : Int32)) (lv' := [(3, .int (w22_3 + (1 : Int32))), (2, .ref (S.f (S.q (S.f o1 0) w2_1.toNatClampNeg) 6)), (1, .int w2_1), (0, .ref o1)]) hx hb dX9_needMachines_55 hl (k := 0) rfl (by rfl) (by decide) rfl (fun ls hl => ?_)
                refine lv_goto (tgt := 22) hx hb dX9_needMachines_58 (by decide) ?_
                have l32_1 : (1 : Int32).toInt = 1 := rfl
                have i24 : (w22_3 + (1 : Int32)).toInt = w22_3.toInt + 1 := t_addr (n := 1) rfl (by omega)
                exact ih22 (w22_3 + (1 : Int32)) _ _ _ (Nat.lt_of_lt_of_le (by omega) (Nat.le_of_lt_succ hm22)) (by omega) hP hS (lv_sub hl [0, 1, 2, 3] rfl) (by rw [hq22, f_X9_needMachines_L22_s, if_neg c16, if_neg c23]) ko22
              · have c23i : (f_X9_soonest S o1 (f_J4_charAt_5068e S (S.f (S.q (S.f o1 0) w2_1.toNatClampNeg) 6) w22_3) (0 : Int32)).toInt = -1 := eq_v rfl rfl c23
                obtain ⟨sa, hsa⟩ := hTH.2.2 (RX9, 472, "there is no machine for a kind") (by decide +kernel)
                exact vx_throwIW hx hb hst hown (by decide +kernel) (by decide +kernel) (hts (.classLink RX9 150 "java/util/NoSuchElementException") (by decide +kernel)) (hts (.initialized "java/util/NoSuchElementException") (by decide +kernel)) hsa (th_at (B := exW_X9_NSEE) (fun w h => hts w (s_X9_needMachines_NSEE w h)) rfl (by simp only [exW, List.mem_append]; intro w h; simp [h]) hTH.2.1) (List.forall_mem_cons.mpr ⟨by decide +kernel, List.forall_mem_cons.mpr ⟨by decide +kernel, exW_X9_NSEE_ok⟩⟩) hTH.1.1 hTH.1.2 hS (hl.1.trans hml.symm) dX9_needMachines_44 dX9_needMachines_47 dX9_needMachines_48 dX9_needMachines_51 dX9_needMachines_54 (fun x h => (hno x h).elim) (Nat.le_of_ble_eq_true rfl) (Nat.le_of_ble_eq_true rfl) (Nat.le_of_ble_eq_true rfl) (Nat.le_of_ble_eq_true rfl) hlocks (fun t hA2 h1 h2 => ⟨(), trivial, ⟨(by rw [hq22, f_X9_needMachines_L22_s, if_neg c16, if_pos c23]), (by decide), wd_exc hP hK hD hA2 h2⟩, exc_F hS h1 h2⟩) hS.2.2 (Nat.le_of_ble_eq_true rfl) (Nat.le_of_ble_eq_true rfl)
        refine loop22 (fun (z26 : Int32) => f_X9_needMachines_L2 S o1 K2 n2 (w2_1 + (1 : Int32))) 10 (0 : Int32) _ _ _ (by omega) (by omega) hP hS (lv_sub hl [0, 1, 2, 3] rfl) (by rw [hq2, f_X9_needMachines_L2_s, if_neg c3]) (fun z26 H locs ls hi22 hP hS hl c25 => ?_)
        try dsimp only at c25
        refine lv_iinc (v := w2_1 + (1 : Int32)) (lv' := [(1, .int (w2_1 + (1 : Int32))), (3, .int z26), (2, .ref (S.f (S.q (S.f o1 0) w2_1.toNatClampNeg) 6)), (0, .ref o1)]) hx hb dX9_needMachines_61 hl (k := 2) rfl (by rfl) (by decide) rfl (fun ls hl => ?_)
        refine lv_goto (tgt := 2) hx hb dX9_needMachines_64 (by decide) ?_
        have l32_1 : (1 : Int32).toInt = 1 := rfl
        have i27 : (w2_1 + (1 : Int32)).toInt = w2_1.toInt + 1 := t_addr (n := 1) rfl (by omega)
        exact ih2 (w2_1 + (1 : Int32)) _ _ _ (Nat.lt_of_lt_of_le (by omega) (Nat.le_of_lt_succ hm2)) (by omega) hP hS (lv_sub hl [0, 3] rfl) (by rw [c25]) ko2
  refine loop2 (fun (z29 : Int32) => .ok ()) 22 (0 : Int32) _ _ _ (by omega) (by omega) hP hS (lv_sub hl [0, 1] rfl) (by unfold f_X9_needMachines; rfl) (fun z29 H locs ls hi2 hP hS hl c28 => ?_)
  try dsimp only at c28
  refine vx_ret ?_
  refine W.widen (k := 1) (n := 6) (Nat.le_of_ble_eq_true rfl) (Nat.le_of_ble_eq_true rfl) ?_
  exact W.vret hx hb hr (fun t ht hW9 => ⟨⟨(), rfl, (by rw [c28]), wd_end hP hK hD ht hW9.alike⟩, hS.F ht⟩) hS.2.2 dX9_needMachines_67 hlocks
def f_X9_passRoute_L4 (S : wPS) (o1 : Nat) (o2 : Nat) : Nat → wPS → Int32 → Int32 → wPS × Int32 × Int32
  | 0, S4_, w4_2, w4_3 => (S4_, w4_2, w4_3)
  | n + 1, S4_, w4_2, w4_3 => if (f_J4_length_8abf5 S4_ o2) ≤ w4_3 then (S4_, w4_2, w4_3) else if (f_X9_soonest S4_ o1 (f_J4_charAt_5068e S4_ o2 w4_3) w4_2) < (0 : Int32) then f_X9_passRoute_L4 S o1 o2 n S4_ w4_2 (w4_3 + (1 : Int32)) else if (S4_.I o1 5) ≤ (f_X9_soonest S4_ o1 (f_J4_charAt_5068e S4_ o2 w4_3) w4_2) then f_X9_passRoute_L4 S o1 o2 n S4_ w4_2 (w4_3 + (1 : Int32)) else l1 (S4_.sI (S4_.q (S.f o1 4) (f_X9_soonest S4_ o1 (f_J4_charAt_5068e S4_ o2 w4_3) w4_2).toNatClampNeg) 3 (f_X7_endFrom S4_ (S4_.q (S.f o1 4) (f_X9_soonest S4_ o1 (f_J4_charAt_5068e S4_ o2 w4_3) w4_2).toNatClampNeg) w4_2)) (fun S32 => f_X9_passRoute_L4 S o1 o2 n S32 (f_X7_endFrom S4_ (S4_.q (S.f o1 4) (f_X9_soonest S4_ o1 (f_J4_charAt_5068e S4_ o2 w4_3) w4_2).toNatClampNeg) w4_2) (w4_3 + (1 : Int32)))
theorem f_X9_passRoute_L4_s (S : wPS) (o1 : Nat) (o2 : Nat) (n : Nat) (S4_ : wPS) (w4_2 : Int32) (w4_3 : Int32) : f_X9_passRoute_L4 S o1 o2 (n + 1) S4_ w4_2 w4_3 = if (f_J4_length_8abf5 S4_ o2) ≤ w4_3 then (S4_, w4_2, w4_3) else if (f_X9_soonest S4_ o1 (f_J4_charAt_5068e S4_ o2 w4_3) w4_2) < (0 : Int32) then f_X9_passRoute_L4 S o1 o2 n S4_ w4_2 (w4_3 + (1 : Int32)) else if (S4_.I o1 5) ≤ (f_X9_soonest S4_ o1 (f_J4_charAt_5068e S4_ o2 w4_3) w4_2) then f_X9_passRoute_L4 S o1 o2 n S4_ w4_2 (w4_3 + (1 : Int32)) else l1 (S4_.sI (S4_.q (S.f o1 4) (f_X9_soonest S4_ o1 (f_J4_charAt_5068e S4_ o2 w4_3) w4_2).toNatClampNeg) 3 (f_X7_endFrom S4_ (S4_.q (S.f o1 4) (f_X9_soonest S4_ o1 (f_J4_charAt_5068e S4_ o2 w4_3) w4_2).toNatClampNeg) w4_2)) (fun S32 => f_X9_passRoute_L4 S o1 o2 n S32 (f_X7_endFrom S4_ (S4_.q (S.f o1 4) (f_X9_soonest S4_ o1 (f_J4_charAt_5068e S4_ o2 w4_3) w4_2).toNatClampNeg) w4_2) (w4_3 + (1 : Int32))) := rfl
def f_X9_passRoute (S : wPS) (o1 : Nat) (o2 : Nat) : (Int32 × wPS) := l3 (f_X9_passRoute_L4 S o1 o2 10 S (0 : Int32) (0 : Int32)) (fun S37 z38 z39 => (z38, S37))
theorem hi_X9_passRoute_X7 : ∀ w ∈ u_ws RX7 TX7 4, w ∈ wsX9_passRoute := by decide +kernel
theorem hi_X9_passRoute_X9 : ∀ w ∈ u_ws RX9 TX9 11, w ∈ wsX9_passRoute := by decide +kernel
theorem hd_X9_passRoute : yX9_passRoute.cls = RX9 ∧ yX9_passRoute.cls ≠ "java/lang/invoke/MethodHandle" ∧ yX9_passRoute.cls ≠ "java/lang/invoke/VarHandle" ∧ (parseMethodDescriptor yX9_passRoute.desc).map (fun d => d.parameters.length) = some 1 := by decide +kernel
set_option maxHeartbeats 4000000 in
set_option maxRecDepth 100000 in
theorem c_X9_passRoute (l : Launch) {e0 mi : Nat} {D : va_G} {cy : Nat → ClassId} {X : va_W} (S : wPS) (sz : Nat) (o1 : Nat) (h_o1 : isA S o1 9) (o2 : Nat) (h_o2 : isA S o2 13) (hW : wtB S [])  : Met l yX9_passRoute wsX9_passRoute ({ frames := 4, cells := 0, slots := 0, locals := 88 }) (va_Pc [.ref o1, .ref o2] (fun U => U.heap.size = sz ∧ WD D cy X (fun _ => True) S U ∧ NW U ∧ OU e0 mi (va_A (X ++ PL cy S) sz) U U.heap)) (va_Qi (fun r (u : wPS) => (r, u) = f_X9_passRoute S o1 o2 ∧ stp [(7, 3)] [] [] S u) (fun u t => WD D cy X (va_A (X ++ PL cy S) sz) u t) (va_A (X ++ PL cy S) sz)) 0 0 (va_A (X ++ PL cy S) sz) := by
  refine Met.ofW (cc := cX9_passRoute) (maxL := 5) (ret := (some .int)) (by decide) rfl ?_
  intro p e s m args below meth c s₁ B hml hv
  obtain ⟨rfl, hsz, ⟨hP, hK, hD0⟩, hN, hOU⟩ := hv
  have hx := B.exec
  have hb := B.bytes
  have hr := B.returns
  have hts := atoms_spec (ws := wsX9_passRoute) B.pre
  have hown : s.vm.findClass RX9 = some m.cls := findClass_of_methodNamed (x := yX9_passRoute) B.named
  have hlocks := B.notSynchronized
  subst hsz
  have hD := hD0.self (sz := s.heap.size)
  generalize hAe : va_A (X ++ PL cy S) s.heap.size = A at hD hOU ⊢
  have hA : ∀ q : Nat, s.heap.size ≤ q → A q := fun q h => by rw [← hAe]; exact Or.inr h
  have hS : va_S A s.heap s.heap [] := va_S.rf
  have hl := lv_entry ([.ref o1, .ref o2]) (n := 5) (Nat.le_of_ble_eq_true rfl)
  rw [lg_entry_eq]
  generalize (lg_sl ([.ref o1, .ref o2]) ++ List.replicate (5 - (lg_sl ([.ref o1, .ref o2])).length) Slot.unset).toArray = ls at hl ⊢
  have hl : lv_has ls 5 [(0, .ref o1), (1, .ref o2)] := hl
  obtain ⟨⟨ga, gZ, gX, gl, gA⟩, ⟨sa9, sZ, sX, sl9, sA⟩, cZ, eZ, eX, el, eA, hMi, hDc, ⟨pf, pZ⟩⟩ := id hOU
  have t0 : stp [(7, 3)] [] [] S S := stp.rf hW
  refine lv_iconst (v := 0) hx hb dX9_passRoute_0 (by decide) ?_
  refine lv_istore_n (lv' := [(2, .int (0 : Int32)), (0, .ref o1), (1, .ref o2)]) hx hb dX9_passRoute_1 rfl hl (by decide) rfl (fun ls hl => ?_)
  refine lv_iconst (v := 0) hx hb dX9_passRoute_2 (by decide) ?_
  refine lv_istore_n (lv' := [(3, .int (0 : Int32)), (2, .int (0 : Int32)), (0, .ref o1), (1, .ref o2)]) hx hb dX9_passRoute_3 rfl hl (by decide) rfl (fun ls hl => ?_)
  have l32_0 : (0 : Int32).toInt = 0 := rfl
  have loop4 : ∀ (n : Nat) (S4_ : wPS) (w4_2 : Int32) (w4_3 : Int32) (H : Heap) (locs : List Loc) (ls : Array Slot), (9 - w4_3.toInt).toNat < n → 0 ≤ w4_3.toInt ∧ w4_3.toInt ≤ 8 → stp [(7, 3)] [] [] S S4_ → va_P D vwCl (X ++ PL cy S4_) H → va_D A (X ++ PL cy S4_) → va_S A s.heap H locs → lv_has ls 5 [(3, .int w4_3), (2, .int w4_2), (0, .ref o1), (1, .ref o2)] → (∀ (S4_x : wPS) (w4_2x : Int32) (w4_3x : Int32) (H : Heap) (locs : List Loc) (ls : Array Slot), 0 ≤ w4_3x.toInt ∧ w4_3x.toInt ≤ 8 → stp [(7, 3)] [] [] S S4_x → va_P D vwCl (X ++ PL cy S4_x) H → va_D A (X ++ PL cy S4_x) → va_S A s.heap H locs → lv_has ls 5 [(3, .int w4_3x), (2, .int w4_2x), (0, .ref o1), (1, .ref o2)] → f_X9_passRoute_L4 S o1 o2 n S4_ w4_2 w4_3 = (S4_x, w4_2x, w4_3x) → W p l e (headSpec wsX9_passRoute ({ frames := 4, cells := 0, slots := 0, locals := 88 } : Room)).room s m [.ref o1, .ref o2].toArray below meth c H locs 0 0 (MQ below (va_Qi (fun r (u : wPS) => (r, u) = f_X9_passRoute S o1 o2 ∧ stp [(7, 3)] [] [] S u) (fun u t => WD D cy X A u t) A) [.ref o1, .ref o2].toArray s 0 0 A) (F0 m 67 ls [])) → W p l e (headSpec wsX9_passRoute ({ frames := 4, cells := 0, slots := 0, locals := 88 } : Room)).room s m [.ref o1, .ref o2].toArray below meth c H locs 0 0 (MQ below (va_Qi (fun r (u : wPS) => (r, u) = f_X9_passRoute S o1 o2 ∧ stp [(7, 3)] [] [] S u) (fun u t => WD D cy X A u t) A) [.ref o1, .ref o2].toArray s 0 0 A) (F0 m 4 ls []) := by
    intro n4
    induction n4 with
    | zero => intro S4_ w4_2 w4_3 H locs ls hm; exact absurd hm (Nat.not_lt_zero _)
    | succ n4 ih4 =>
      intro S4_ w4_2 w4_3 H locs ls hm4 hi4 hsh4 hP hD hS hl ko4
      refine lv_iload_n hx hb dX9_passRoute_4 rfl (lv_at hl 0 rfl) ?_
      refine lv_aload_n hx hb dX9_passRoute_5 rfl (lv_at hl 3 rfl) ?_
      have hFc := free_all hD hS hA
      obtain ⟨k1, gk1, hk1⟩ := wGt (cy := cy) X S4_ (hsh4.x.A h_o2).1 (hsh4.x.A h_o2).2.1
      refine va_calli (va_runV (As := []) (rest := [.int w4_3]) ⟨hx, hb, hml, hown, hts⟩ (c_J4_length_8abf5 l (cy := cy) (X := X) (D := D) S4_ _ o2 (hsh4.x.A h_o2)) (cwV 0 hts gX9_passRoute_J4_length_8abf5 rfl rfl rfl hd_J4_length_8abf5 ⟨Nat.le_of_ble_eq_true rfl, Nat.le_of_ble_eq_true rfl⟩) (pV (va_recv hK hP (q := (RJ4, TJ4, 4)) (ci := 1) (q0 := k1) rfl hk1) hP hK hD hN) rfl rfl hl.1 rfl (lv_room (Nat.le_of_ble_eq_true rfl)) dX9_passRoute_6 ⟨(Nat.zero_le _), (Nat.zero_le _)⟩) hS (fun q _ h => hFc q h) hFc (fun r2 u t H1 locs ht hvm hw hB hz1 hk1 hS => ?_)
      have c3 := hw
      obtain ⟨hP, hD⟩ := wd_post hFc ht hB
      generalize H1 = H at hP hS ⊢
      obtain rfl : f_J4_length_8abf5 S4_ o2 = r2 := c3.symm
      have i4 : (f_J4_length_8abf5 S4_ o2).toInt = (S4_.I o2 3).toInt := rfl
      have i5 := ((hsh4.w.at (hsh4.x.A h_o2) List.not_mem_nil).to_13 (hsh4.x.A h_o2).2.1).R3
      refine lv_icmp_ge (tgt := 67) hx hb dX9_passRoute_9 (by decide) (fun c6 => ?_) (fun c6 => ?_)
      · have c6i : (f_J4_length_8abf5 S4_ o2).toInt ≤ w4_3.toInt := le_v rfl rfl c6
        exact ko4 S4_ w4_2 w4_3 _ _ _ (by omega) hsh4 hP hD hS (lv_sub hl [0, 1, 2, 3] rfl) (by rw [f_X9_passRoute_L4_s, if_pos c6])
      · have c6i : w4_3.toInt < (f_J4_length_8abf5 S4_ o2).toInt := nle_v rfl rfl c6
        refine lv_aload_n hx hb dX9_passRoute_12 rfl (lv_at hl 2 rfl) ?_
        refine lv_aload_n hx hb dX9_passRoute_13 rfl (lv_at hl 3 rfl) ?_
        refine lv_iload_n hx hb dX9_passRoute_14 rfl (lv_at hl 0 rfl) ?_
        have hFc := free_all hD hS hA
        obtain ⟨k7, gk7, hk7⟩ := wGt (cy := cy) X S4_ (hsh4.x.A h_o2).1 (hsh4.x.A h_o2).2.1
        refine va_calli (va_runV (As := [.int w4_3]) (rest := [.ref o1]) ⟨hx, hb, hml, hown, hts⟩ (c_J4_charAt_5068e l (e0 := e0) (mi := mi) (cy := cy) (X := X) (D := D) S4_ _ o2 (hsh4.x.A h_o2) w4_3 (hsh4.w) (by omega)) (cwV 1 hts gX9_passRoute_J4_charAt_5068e rfl rfl rfl hd_J4_charAt_5068e ⟨Nat.le_of_ble_eq_true rfl, Nat.le_of_ble_eq_true rfl⟩) (pVo (va_recv hK hP (q := (RJ4, TJ4, 4)) (ci := 1) (q0 := k7) rfl hk7) hP hK hD hN hOU hS hFc) rfl rfl hl.1 rfl (lv_room (Nat.le_of_ble_eq_true rfl)) dX9_passRoute_15 ⟨(Nat.zero_le _), (Nat.zero_le _)⟩) hS (fun q _ h => hFc q h) hFc (fun r8 u t H1 locs ht hvm hw hB hz1 hk1 hS => ?_)
        have c9 := hw
        obtain ⟨hP, hD⟩ := wd_post hFc ht hB
        generalize H1 = H at hP hS ⊢
        obtain rfl : f_J4_charAt_5068e S4_ o2 w4_3 = r8 := c9.symm
        refine lv_iload_n hx hb dX9_passRoute_18 rfl (lv_at hl 1 rfl) ?_
        have hFc := free_all hD hS hA
        obtain ⟨k10, gk10, hk10⟩ := wGt (cy := cy) X S4_ (hsh4.x.A h_o1).1 (hsh4.x.A h_o1).2.1
        refine va_calli (va_runV (As := [.int (f_J4_charAt_5068e S4_ o2 w4_3), .int w4_2]) (rest := []) ⟨hx, hb, hml, hown, hts⟩ (c_X9_soonest l (cy := cy) (X := X) (D := D) S4_ _ o1 (hsh4.x.A h_o1) (f_J4_charAt_5068e S4_ o2 w4_3) w4_2 (hsh4.w)) (cwV 2 hts gX9_passRoute_X9_soonest rfl rfl rfl hd_X9_soonest ⟨Nat.le_of_ble_eq_true rfl, Nat.le_of_ble_eq_true rfl⟩) (pV (va_recv hK hP (q := (RX9, TX9, 11)) (ci := 13) (q0 := k10) rfl hk10) hP hK hD hN) rfl rfl hl.1 rfl (lv_room (Nat.le_of_ble_eq_true rfl)) dX9_passRoute_19 ⟨(Nat.zero_le _), (Nat.zero_le _)⟩) hS (fun q _ h => hFc q h) hFc (fun r11 u t H1 locs ht hvm hw hB hz1 hk1 hS => ?_)
        have c12 := hw
        obtain ⟨hP, hD⟩ := wd_post hFc ht hB
        generalize H1 = H at hP hS ⊢
        obtain rfl : f_X9_soonest S4_ o1 (f_J4_charAt_5068e S4_ o2 w4_3) w4_2 = r11 := c12.symm
        refine lv_istore (lv' := [(4, .int (f_X9_soonest S4_ o1 (f_J4_charAt_5068e S4_ o2 w4_3) w4_2)), (3, .int w4_3), (2, .int w4_2), (0, .ref o1), (1, .ref o2)]) hx hb dX9_passRoute_22 hl (by decide) rfl (fun ls hl => ?_)
        refine lv_iload hx hb dX9_passRoute_24 (lv_at hl 0 rfl) ?_
        refine lv_if_lt (tgt := 61) hx hb dX9_passRoute_26 (by decide) (fun c13 => ?_) (fun c13 => ?_)
        · have c13i : (f_X9_soonest S4_ o1 (f_J4_charAt_5068e S4_ o2 w4_3) w4_2).toInt < 0 := lt_v rfl rfl c13
          refine lv_iinc (v := w4_3 + (1 : Int32)) (lv' := [(3, .int (w4_3 + (1 : Int32))), (4, .int (f_X9_soonest S4_ o1 (f_J4_charAt_5068e S4_ o2 w4_3) w4_2)), (2, .int w4_2), (0, .ref o1), (1, .ref o2)]) hx hb dX9_passRoute_61 hl (k := 1) rfl (by rfl) (by decide) rfl (fun ls hl => ?_)
          refine lv_goto (tgt := 4) hx hb dX9_passRoute_64 (by decide) ?_
          have l32_1 : (1 : Int32).toInt = 1 := rfl
          have i14 : (w4_3 + (1 : Int32)).toInt = w4_3.toInt + 1 := t_addr (n := 1) rfl (by omega)
          exact ih4 S4_ w4_2 (w4_3 + (1 : Int32)) _ _ _ (Nat.lt_of_lt_of_le (by omega) (Nat.le_of_lt_succ hm4)) (by omega) hsh4 hP hD hS (lv_sub hl [0, 2, 3, 4] rfl) (fun S4_y w4_2y w4_3y H9 locs9 ls9 i9 sh9 P9 D9 S9 l9 hfe => ko4 S4_y w4_2y w4_3y H9 locs9 ls9 i9 sh9 P9 D9 S9 l9 (Eq.trans (by rw [f_X9_passRoute_L4_s, if_neg c6, if_pos c13]) hfe))
        · have c13i : 0 ≤ (f_X9_soonest S4_ o1 (f_J4_charAt_5068e S4_ o2 w4_3) w4_2).toInt := nlt_v rfl rfl c13
          refine lv_iload hx hb dX9_passRoute_29 (lv_at hl 0 rfl) ?_
          refine lv_aload_n hx hb dX9_passRoute_31 rfl (lv_at hl 3 rfl) ?_
          obtain ⟨k15, gk15, hk15⟩ := wGt (cy := cy) X S4_ (hsh4.x.A h_o1).1 (hsh4.x.A h_o1).2.1
          have i16 := ((hsh4.w.at (hsh4.x.A h_o1) List.not_mem_nil).to_9 (hsh4.x.A h_o1).2.1).R5
          refine va_get (D := D) (ci := 13) (v := .int (S4_.I o1 5)) (C := RX9) (T := TX9) (N := 11) hx hb hts hi_X9_passRoute_X9 hown hK hP k15 hk15 rfl 5 (by decide) (hts (.fieldLink RX9 426 "Hobhouse" "stationCount" "I") (by decide +kernel)) (fun _ h9 => h9) rfl dX9_passRoute_32 ?_
          refine lv_icmp_ge (tgt := 61) hx hb dX9_passRoute_35 (by decide) (fun c17 => ?_) (fun c17 => ?_)
          · have c17i : (S4_.I o1 5).toInt ≤ (f_X9_soonest S4_ o1 (f_J4_charAt_5068e S4_ o2 w4_3) w4_2).toInt := le_v rfl rfl c17
            refine lv_iinc (v := w4_3 + (1 : Int32)) (lv' := [(3, .int (w4_3 + (1 : Int32))), (4, .int (f_X9_soonest S4_ o1 (f_J4_charAt_5068e S4_ o2 w4_3) w4_2)), (2, .int w4_2), (0, .ref o1), (1, .ref o2)]) hx hb dX9_passRoute_61 hl (k := 1) rfl (by rfl) (by decide) rfl (fun ls hl => ?_)
            refine lv_goto (tgt := 4) hx hb dX9_passRoute_64 (by decide) ?_
            have l32_1 : (1 : Int32).toInt = 1 := rfl
            have i18 : (w4_3 + (1 : Int32)).toInt = w4_3.toInt + 1 := t_addr (n := 1) rfl (by omega)
            exact ih4 S4_ w4_2 (w4_3 + (1 : Int32)) _ _ _ (Nat.lt_of_lt_of_le (by omega) (Nat.le_of_lt_succ hm4)) (by omega) hsh4 hP hD hS (lv_sub hl [0, 2, 3, 4] rfl) (fun S4_y w4_2y w4_3y H9 locs9 ls9 i9 sh9 P9 D9 S9 l9 hfe => ko4 S4_y w4_2y w4_3y H9 locs9 ls9 i9 sh9 P9 D9 S9 l9 (Eq.trans (by rw [f_X9_passRoute_L4_s, if_neg c6, if_neg c13, if_pos c17]) hfe))
          · have c17i : (f_X9_soonest S4_ o1 (f_J4_charAt_5068e S4_ o2 w4_3) w4_2).toInt < (S4_.I o1 5).toInt := nle_v rfl rfl c17
            refine lv_aload_n hx hb dX9_passRoute_38 rfl (lv_at hl 3 rfl) ?_
            have F19 := ((hW.at h_o1 List.not_mem_nil).to_9 h_o1.2.1).F4
            obtain ⟨k20, gk20, hk20⟩ := wGt (cy := cy) X S4_ (hsh4.x.A h_o1).1 (hsh4.x.A h_o1).2.1
            simp only [kE, (hsh4.x.F h_o1 (by decide) F19.1)] at hk20
            refine va_get (D := D) (ci := 13) (v := .ref (S.f o1 4)) (C := RX9) (T := TX9) (N := 11) hx hb hts hi_X9_passRoute_X9 hown hK hP k20 hk20 rfl 4 (by decide) (hts (.fieldLink RX9 23 "Hobhouse" "stations" "[LHobhouse$Station;") (by decide +kernel)) (fun _ h9 => h9) rfl dX9_passRoute_39 ?_
            refine lv_iload hx hb dX9_passRoute_42 (lv_at hl 0 rfl) ?_
            obtain ⟨k21, gk21, hk21⟩ := wGt (cy := cy) X S4_ (hsh4.x.A F19.2.1).1 (hsh4.x.A F19.2.1).2.1
            have i23 := cl_int (i := f_X9_soonest S4_ o1 (f_J4_charAt_5068e S4_ o2 w4_3) w4_2) (by omega)
            have g22 := elq (by have h9 := ((hsh4.w.at (hsh4.x.A h_o1) List.not_mem_nil).to_9 (hsh4.x.A h_o1).2.1).E4 (f_X9_soonest S4_ o1 (f_J4_charAt_5068e S4_ o2 w4_3) w4_2).toNatClampNeg (by omega); rw [f_of (hsh4.x.F h_o1 (by decide) F19.1)] at h9; exact h9)
            refine va_aldq hx hb hK hP k21 6 hk21 rfl (inb (m := 6) ((hsh4.x.n F19.2.1).trans F19.2.2) (by omega) (by omega)) dX9_passRoute_44 ?_
            rw [g22.1]
            refine W.eq (g2 := F0 m 45 ls [.ref (S4_.q (S.f o1 4) (f_X9_soonest S4_ o1 (f_J4_charAt_5068e S4_ o2 w4_3) w4_2).toNatClampNeg)]) rfl ?_
            refine lv_iload_n hx hb dX9_passRoute_45 rfl (lv_at hl 2 rfl) ?_
            have hFc := free_all hD hS hA
            obtain ⟨k24, gk24, hk24⟩ := wGt (cy := cy) X S4_ g22.2.1 g22.2.2.1
            refine va_calli (va_runV (As := [.int w4_2]) (rest := []) ⟨hx, hb, hml, hown, hts⟩ (c_X7_endFrom l (cy := cy) (X := X) (D := D) S4_ _ (S4_.q (S.f o1 4) (f_X9_soonest S4_ o1 (f_J4_charAt_5068e S4_ o2 w4_3) w4_2).toNatClampNeg) g22.2 w4_2) (cwV 1 hts gX9_passRoute_X7_endFrom rfl rfl rfl hd_X7_endFrom ⟨Nat.le_of_ble_eq_true rfl, Nat.le_of_ble_eq_true rfl⟩) (pV (va_recv hK hP (q := (RX7, TX7, 4)) (ci := 11) (q0 := k24) rfl hk24) hP hK hD hN) rfl rfl hl.1 rfl (lv_room (Nat.le_of_ble_eq_true rfl)) dX9_passRoute_46 ⟨(Nat.zero_le _), (Nat.zero_le _)⟩) hS (fun q _ h => hFc q h) hFc (fun r25 u t H1 locs ht hvm hw hB hz1 hk1 hS => ?_)
            have c26 := hw
            obtain ⟨hP, hD⟩ := wd_post hFc ht hB
            generalize H1 = H at hP hS ⊢
            obtain rfl : f_X7_endFrom S4_ (S4_.q (S.f o1 4) (f_X9_soonest S4_ o1 (f_J4_charAt_5068e S4_ o2 w4_3) w4_2).toNatClampNeg) w4_2 = r25 := c26.symm
            refine lv_istore_n (lv' := [(2, .int (f_X7_endFrom S4_ (S4_.q (S.f o1 4) (f_X9_soonest S4_ o1 (f_J4_charAt_5068e S4_ o2 w4_3) w4_2).toNatClampNeg) w4_2)), (4, .int (f_X9_soonest S4_ o1 (f_J4_charAt_5068e S4_ o2 w4_3) w4_2)), (3, .int w4_3), (0, .ref o1), (1, .ref o2)]) hx hb dX9_passRoute_49 rfl hl (by decide) rfl (fun ls hl => ?_)
            refine lv_aload_n hx hb dX9_passRoute_50 rfl (lv_at hl 3 rfl) ?_
            obtain ⟨k27, gk27, hk27⟩ := wGt (cy := cy) X S4_ (hsh4.x.A h_o1).1 (hsh4.x.A h_o1).2.1
            simp only [kE, (hsh4.x.F h_o1 (by decide) F19.1)] at hk27
            refine va_get (D := D) (ci := 13) (v := .ref (S.f o1 4)) (C := RX9) (T := TX9) (N := 11) hx hb hts hi_X9_passRoute_X9 hown hK hP k27 hk27 rfl 4 (by decide) (hts (.fieldLink RX9 23 "Hobhouse" "stations" "[LHobhouse$Station;") (by decide +kernel)) (fun _ h9 => h9) rfl dX9_passRoute_51 ?_
            refine lv_iload hx hb dX9_passRoute_54 (lv_at hl 1 rfl) ?_
            obtain ⟨k28, gk28, hk28⟩ := wGt (cy := cy) X S4_ (hsh4.x.A F19.2.1).1 (hsh4.x.A F19.2.1).2.1
            have i30 := cl_int (i := f_X9_soonest S4_ o1 (f_J4_charAt_5068e S4_ o2 w4_3) w4_2) (by omega)
            have g29 := elq (by have h9 := ((hsh4.w.at (hsh4.x.A h_o1) List.not_mem_nil).to_9 (hsh4.x.A h_o1).2.1).E4 (f_X9_soonest S4_ o1 (f_J4_charAt_5068e S4_ o2 w4_3) w4_2).toNatClampNeg (by omega); rw [f_of (hsh4.x.F h_o1 (by decide) F19.1)] at h9; exact h9)
            refine va_aldq hx hb hK hP k28 6 hk28 rfl (inb (m := 6) ((hsh4.x.n F19.2.1).trans F19.2.2) (by omega) (by omega)) dX9_passRoute_56 ?_
            rw [g29.1]
            refine W.eq (g2 := F0 m 57 ls [.ref (S4_.q (S.f o1 4) (f_X9_soonest S4_ o1 (f_J4_charAt_5068e S4_ o2 w4_3) w4_2).toNatClampNeg)]) rfl ?_
            refine lv_iload_n hx hb dX9_passRoute_57 rfl (lv_at hl 0 rfl) ?_
            obtain ⟨k31, gk31, hk31⟩ := wGt (cy := cy) X S4_ g29.2.1 g29.2.2.1
            refine va_put (D := D) (ci := 11) (v := .int (f_X7_endFrom S4_ (S4_.q (S.f o1 4) (f_X9_soonest S4_ o1 (f_J4_charAt_5068e S4_ o2 w4_3) w4_2).toNatClampNeg) w4_2)) (ty := .int) (C := RX7) (T := TX7) (N := 4) hx hb hts hi_X9_passRoute_X7 tyX7 tyX7_ok nmX7 hown hK hP hD hS k31 hk31 rfl 3 (by decide) (hts (.fieldLink RX9 457 "Hobhouse$Station" "freeFrom" "I") (by decide +kernel)) (fun _ h9 => h9) rfl (by decide +kernel) (rfl) (rfl) (Nat.le_of_ble_eq_true rfl) dX9_passRoute_58 (fun H locs hP2 hD2 hS => ?_)
            have e9 := wPuI (cy := cy) (j := 3) (v := (f_X7_endFrom S4_ (S4_.q (S.f o1 4) (f_X9_soonest S4_ o1 (f_J4_charAt_5068e S4_ o2 w4_3) w4_2).toNatClampNeg) w4_2)) hD g29.2.1 g29.2.2.1 gk31 rfl
            obtain ⟨S32, hS32⟩ : ∃ z, S4_.sI (S4_.q (S.f o1 4) (f_X9_soonest S4_ o1 (f_J4_charAt_5068e S4_ o2 w4_3) w4_2).toNatClampNeg) 3 (f_X7_endFrom S4_ (S4_.q (S.f o1 4) (f_X9_soonest S4_ o1 (f_J4_charAt_5068e S4_ o2 w4_3) w4_2).toNatClampNeg) w4_2) = z := ⟨_, rfl⟩
            have hP : va_P D vwCl (X ++ PL cy S32) H := by rw [← hS32, ← e9]; exact hP2
            have hD : va_D A (X ++ PL cy S32) := by rw [← hS32, ← e9]; exact hD2
            have xe33 : ext S4_ S32 := by rw [← hS32]; exact ext.sI _ _ _ _
            have t34 : stp [(7, 3)] [] [] S S32 := by rw [← hS32]; exact hsh4.I 3 (f_X7_endFrom S4_ (S4_.q (S.f o1 4) (f_X9_soonest S4_ o1 (f_J4_charAt_5068e S4_ o2 w4_3) w4_2).toNatClampNeg) w4_2) g29.2 (by decide) (trivial) (Or.inl (by decide))
            refine lv_iinc (v := w4_3 + (1 : Int32)) (lv' := [(3, .int (w4_3 + (1 : Int32))), (2, .int (f_X7_endFrom S4_ (S4_.q (S.f o1 4) (f_X9_soonest S4_ o1 (f_J4_charAt_5068e S4_ o2 w4_3) w4_2).toNatClampNeg) w4_2)), (4, .int (f_X9_soonest S4_ o1 (f_J4_charAt_5068e S4_ o2 w4_3) w4_2)), (0, .ref o1), (1, .ref o2)]) hx hb dX9_passRoute_61 hl (k := 2) rfl (by rfl) (by decide) rfl (fun ls hl => ?_)
            refine lv_goto (tgt := 4) hx hb dX9_passRoute_64 (by decide) ?_
            have l32_1 : (1 : Int32).toInt = 1 := rfl
            have i35 : (w4_3 + (1 : Int32)).toInt = w4_3.toInt + 1 := t_addr (n := 1) rfl (by omega)
            exact ih4 S32 (f_X7_endFrom S4_ (S4_.q (S.f o1 4) (f_X9_soonest S4_ o1 (f_J4_charAt_5068e S4_ o2 w4_3) w4_2).toNatClampNeg) w4_2) (w4_3 + (1 : Int32)) _ _ _ (Nat.lt_of_lt_of_le (by omega) (Nat.le_of_lt_succ hm4)) (by omega) t34 hP hD hS (lv_sub hl [0, 1, 3, 4] rfl) (fun S4_y w4_2y w4_3y H9 locs9 ls9 i9 sh9 P9 D9 S9 l9 hfe => ko4 S4_y w4_2y w4_3y H9 locs9 ls9 i9 sh9 P9 D9 S9 l9 (Eq.trans (by rw [f_X9_passRoute_L4_s, if_neg c6, if_neg c13, if_neg c17, l1_eq hS32]) hfe))
  refine loop4 10 S (0 : Int32) (0 : Int32) _ _ _ (by omega) (by omega) (stp.rf hW) hP hD hS (lv_sub hl [0, 1, 2, 3] rfl) (fun S37 z38 z39 H locs ls hi4 hsh4 hP hD hS hl c36 => ?_)
  have t40 : stp [(7, 3)] [] [] S S37 := t0.tr hsh4 (fun _ q => q) (fun _ q => Or.inl q)
  have et40 := hsh4.x
  refine lv_iload_n hx hb dX9_passRoute_67 rfl (lv_at hl 1 rfl) ?_
  refine W.widen (k := 0) (n := 0) (Nat.le_of_ble_eq_true rfl) (Nat.le_of_ble_eq_true rfl) ?_
  exact W.iret (v := z38) hx hb hr (fun t ht hW9 => ⟨⟨z38, S37, rfl, ⟨(by show (z38, S37) = f_X9_passRoute S o1 o2; unfold f_X9_passRoute; rw [l3_eq c36]), t40⟩, wd_end hP hK hD ht hW9.alike⟩, hS.F ht⟩) hS.2.2 dX9_passRoute_68 hlocks
def f_X9_doneAt_L12 (S : wPS) (o1 : Nat) (x1 : Int32) (r2 : Nat) : Nat → wPS → Int32 → wPS × Int32
  | 0, S12_, w12_3 => (S12_, w12_3)
  | n + 1, S12_, w12_3 => if (S12_.I o1 5) ≤ w12_3 then (S12_, w12_3) else l1 (S12_.sI (S12_.q (S.f o1 4) w12_3.toNatClampNeg) 3 (S12_.I (S12_.q (S.f o1 4) w12_3.toNatClampNeg) 2)) (fun S24 => f_X9_doneAt_L12 S o1 x1 r2 n S24 (w12_3 + (1 : Int32)))
theorem f_X9_doneAt_L12_s (S : wPS) (o1 : Nat) (x1 : Int32) (r2 : Nat) (n : Nat) (S12_ : wPS) (w12_3 : Int32) : f_X9_doneAt_L12 S o1 x1 r2 (n + 1) S12_ w12_3 = if (S12_.I o1 5) ≤ w12_3 then (S12_, w12_3) else l1 (S12_.sI (S12_.q (S.f o1 4) w12_3.toNatClampNeg) 3 (S12_.I (S12_.q (S.f o1 4) w12_3.toNatClampNeg) 2)) (fun S24 => f_X9_doneAt_L12 S o1 x1 r2 n S24 (w12_3 + (1 : Int32))) := rfl
def f_X9_doneAt_L49 (S : wPS) (o1 : Nat) (x1 : Int32) (r2 : Nat) (S29 : wPS) (z30 : Int32) : Nat → wPS → Int32 → Int32 → wPS × Int32 × Int32
  | 0, S49_, w49_3, w49_4 => (S49_, w49_3, w49_4)
  | n + 1, S49_, w49_3, w49_4 => if (S49_.I r2 0) < w49_4 then (S49_, w49_3, w49_4) else if (S49_.I o1 1) ≤ w49_4 then (S49_, w49_3, w49_4) else l2 (f_X9_passRoute S49_ o1 (S49_.f (S49_.q (S.f o1 0) w49_4.toNatClampNeg) 6)) (fun r45 S48 => f_X9_doneAt_L49 S o1 x1 r2 S29 z30 n S48 r45 (w49_4 + (1 : Int32)))
theorem f_X9_doneAt_L49_s (S : wPS) (o1 : Nat) (x1 : Int32) (r2 : Nat) (S29 : wPS) (z30 : Int32) (n : Nat) (S49_ : wPS) (w49_3 : Int32) (w49_4 : Int32) : f_X9_doneAt_L49 S o1 x1 r2 S29 z30 (n + 1) S49_ w49_3 w49_4 = if (S49_.I r2 0) < w49_4 then (S49_, w49_3, w49_4) else if (S49_.I o1 1) ≤ w49_4 then (S49_, w49_3, w49_4) else l2 (f_X9_passRoute S49_ o1 (S49_.f (S49_.q (S.f o1 0) w49_4.toNatClampNeg) 6)) (fun r45 S48 => f_X9_doneAt_L49 S o1 x1 r2 S29 z30 n S48 r45 (w49_4 + (1 : Int32))) := rfl
def f_X9_doneAt (S : wPS) (o1 : Nat) (x1 : Int32) : Except String (Int32 × wPS) := eB (f_X9_gearAt S o1 x1) (fun r2 => eB (f_X9_needMachines S o1) (fun _ => l2 (f_X9_doneAt_L12 S o1 x1 r2 8 S (0 : Int32)) (fun S29 z30 => l3 (f_X9_doneAt_L49 S o1 x1 r2 S29 z30 22 S29 (0 : Int32) (0 : Int32)) (fun S53 z54 z55 => .ok (z54, S53)))))
theorem hi_X9_doneAt_X2 : ∀ w ∈ u_ws RX2 TX2 20, w ∈ wsX9_doneAt := by decide +kernel
theorem hi_X9_doneAt_X7 : ∀ w ∈ u_ws RX7 TX7 4, w ∈ wsX9_doneAt := by decide +kernel
theorem hi_X9_doneAt_X9 : ∀ w ∈ u_ws RX9 TX9 11, w ∈ wsX9_doneAt := by decide +kernel
theorem hd_X9_doneAt : yX9_doneAt.cls = RX9 ∧ yX9_doneAt.cls ≠ "java/lang/invoke/MethodHandle" ∧ yX9_doneAt.cls ≠ "java/lang/invoke/VarHandle" ∧ (parseMethodDescriptor yX9_doneAt.desc).map (fun d => d.parameters.length) = some 1 := by decide +kernel
set_option maxHeartbeats 4000000 in
set_option maxRecDepth 100000 in
theorem c_X9_doneAt (l : Launch) (hst : l.stackTraces = false) {e0 mi : Nat} {D : va_G} {cy : Nat → ClassId} {X : va_W} (S : wPS) (sz : Nat) (o1 : Nat) (h_o1 : isA S o1 9) (x1 : Int32) (hW : wtB S [])  : vx_Met l yX9_doneAt wsX9_doneAt ({ frames := 7, cells := 2, slots := 12, locals := 112 }) (va_Pc [.ref o1, .int x1] (fun U => U.heap.size = sz ∧ WD D cy X (fun _ => True) S U ∧ NW U ∧ TH (va_A (X ++ PL cy S) sz) U ∧ OU e0 mi (va_A (X ++ PL cy S) sz) U U.heap)) (va_Qi (fun r (u : wPS) => f_X9_doneAt S o1 x1 = .ok (r, u) ∧ stp [(7, 3)] [] [] S u) (fun u t => WD D cy X (va_A (X ++ PL cy S) sz) u t) (va_A (X ++ PL cy S) sz)) (vx_X (fun (u : wPS) => stp [(7, 3)] [] [] S u) (fun E u t => f_X9_doneAt S o1 x1 = .error E ∧ E ∈ ["java/lang/IndexOutOfBoundsException", "java/util/NoSuchElementException"] ∧ u = S ∧ WD D cy X (va_A (X ++ PL cy S) sz) u t) (va_A (X ++ PL cy S) sz)) 2 12 (va_A (X ++ PL cy S) sz) := by
  refine vx_ofW (cc := cX9_doneAt) (maxL := 5) (ret := (some .int)) (by decide) rfl ?_
  intro p e s m args below meth c s₁ B hml hno hv
  obtain ⟨rfl, hsz, ⟨hP, hK, hD0⟩, hN, hTH, hOU⟩ := hv
  have hx := B.exec
  have hb := B.bytes
  have hr := B.returns
  have hts := atoms_spec (ws := wsX9_doneAt) B.pre
  have hown : s.vm.findClass RX9 = some m.cls := findClass_of_methodNamed (x := yX9_doneAt) B.named
  have hlocks := B.notSynchronized
  subst hsz
  have hD := hD0.self (sz := s.heap.size)
  generalize hAe : va_A (X ++ PL cy S) s.heap.size = A at hD hTH hOU ⊢
  have hA : ∀ q : Nat, s.heap.size ≤ q → A q := fun q h => by rw [← hAe]; exact Or.inr h
  have hS : va_S A s.heap s.heap [] := va_S.rf
  have hl := lv_entry ([.ref o1, .int x1]) (n := 5) (Nat.le_of_ble_eq_true rfl)
  rw [lg_entry_eq]
  generalize (lg_sl ([.ref o1, .int x1]) ++ List.replicate (5 - (lg_sl ([.ref o1, .int x1])).length) Slot.unset).toArray = ls at hl ⊢
  have hl : lv_has ls 5 [(0, .ref o1), (1, .int x1)] := hl
  obtain ⟨⟨ga, gZ, gX, gl, gA⟩, ⟨sa9, sZ, sX, sl9, sA⟩, cZ, eZ, eX, el, eA, hMi, hDc, ⟨pf, pZ⟩⟩ := id hOU
  have t0 : stp [(7, 3)] [] [] S S := stp.rf hW
  refine lv_aload_n hx hb dX9_doneAt_0 rfl (lv_at hl 0 rfl) ?_
  refine lv_iload_n hx hb dX9_doneAt_1 rfl (lv_at hl 1 rfl) ?_
  have hFc := free_all hD hS hA
  obtain ⟨k1, gk1, hk1⟩ := wGt (cy := cy) X S h_o1.1 h_o1.2.1
  refine vx_callq (vx_runV (As := [.int x1]) (rest := []) ⟨hx, hb, hml, hown, hts⟩ (c_X9_gearAt l hst (cy := cy) (X := X) (D := D) S _ o1 h_o1 x1 (hW)) (cwV 1 hts gX9_doneAt_X9_gearAt rfl rfl rfl hd_X9_gearAt ⟨Nat.le_of_ble_eq_true rfl, Nat.le_of_ble_eq_true rfl⟩) (pVt (va_recv hK hP (q := (RX9, TX9, 11)) (ci := 13) (q0 := k1) rfl hk1) hP hK hD hN hTH hS hFc) rfl rfl hl.1 rfl (lv_room (Nat.le_of_ble_eq_true rfl)) dX9_doneAt_2 ⟨Nat.le_of_ble_eq_true rfl, Nat.le_of_ble_eq_true rfl⟩) hS (fun q _ h => hFc q h) hFc (fun q _ h => hFc q h) (fun E ce q9 u t H1 locs ht hvm hw hB hz1 hk1 hS hq9 hce hcl => ?_) (fun r2 u t H1 locs ht hvm hw hB hz1 hk1 hS => ?_)
  · obtain ⟨c3, hEc3, hB2⟩ := hB
    obtain ⟨hP, hD⟩ := wd_post hFc ht hB2
    exact vx_out (fun x h => (hno x h).elim) hlocks hq9 hce hcl (fun t2 ht2 hA2 => ⟨S, t0, ⟨(by show f_X9_doneAt S o1 x1 = .error E; unfold f_X9_doneAt; rw [eB_er c3]), (el_in (by decide) hEc3), rfl, wd_end hP hK hD ht2 hA2⟩, hS.F ht2⟩) hS.2.2 (Nat.le_of_ble_eq_true rfl) (Nat.le_of_ble_eq_true rfl)
  · obtain ⟨r2, rfl, c4, o5⟩ := hw
    obtain ⟨hP, hD⟩ := wd_post hFc ht hB
    generalize H1 = H at hP hS ⊢
    refine W.eq (g2 := F0 m 5 ls [.ref r2]) rfl ?_
    refine lv_astore_n (lv' := [(2, .ref r2), (0, .ref o1), (1, .int x1)]) hx hb dX9_doneAt_5 rfl hl (by decide) rfl (fun ls hl => ?_)
    refine lv_aload_n hx hb dX9_doneAt_6 rfl (lv_at hl 1 rfl) ?_
    have hFc := free_all hD hS hA
    obtain ⟨k6, gk6, hk6⟩ := wGt (cy := cy) X S h_o1.1 h_o1.2.1
    refine vx_callv (vx_runV (As := []) (rest := []) ⟨hx, hb, hml, hown, hts⟩ (c_X9_needMachines l hst (e0 := e0) (mi := mi) (cy := cy) (X := X) (D := D) S _ o1 h_o1 (hW)) (cwV 0 hts gX9_doneAt_X9_needMachines rfl rfl rfl hd_X9_needMachines ⟨Nat.le_of_ble_eq_true rfl, Nat.le_of_ble_eq_true rfl⟩) (pVto (va_recv hK hP (q := (RX9, TX9, 11)) (ci := 13) (q0 := k6) rfl hk6) hP hK hD hN hTH hOU hS hFc) rfl rfl hl.1 rfl (lv_room (Nat.le_of_ble_eq_true rfl)) dX9_doneAt_7 ⟨Nat.le_of_ble_eq_true rfl, Nat.le_of_ble_eq_true rfl⟩) hS (fun q _ h => hFc q h) hFc (fun q _ h => hFc q h) (fun E ce q9 u t H1 locs ht hvm hw hB hz1 hk1 hS hq9 hce hcl => ?_) (fun u t H1 locs ht hvm hw hB hz1 hk1 hS => ?_)
    · obtain ⟨c8, hEc8, hB2⟩ := hB
      obtain ⟨hP, hD⟩ := wd_post hFc ht hB2
      exact vx_out (fun x h => (hno x h).elim) hlocks hq9 hce hcl (fun t2 ht2 hA2 => ⟨S, t0, ⟨(by show f_X9_doneAt S o1 x1 = .error E; unfold f_X9_doneAt; rw [eB_ok c4, eB_er c8]), (el_in (by decide) hEc8), rfl, wd_end hP hK hD ht2 hA2⟩, hS.F ht2⟩) hS.2.2 (Nat.le_of_ble_eq_true rfl) (Nat.le_of_ble_eq_true rfl)
    · have c9 := hw
      obtain ⟨hP, hD⟩ := wd_post hFc ht hB
      generalize H1 = H at hP hS ⊢
      refine lv_iconst (v := 0) hx hb dX9_doneAt_10 (by decide) ?_
      refine lv_istore_n (lv' := [(3, .int (0 : Int32)), (2, .ref r2), (0, .ref o1), (1, .int x1)]) hx hb dX9_doneAt_11 rfl hl (by decide) rfl (fun ls hl => ?_)
      have l32_0 : (0 : Int32).toInt = 0 := rfl
      have loop12 : ∀ (n : Nat) (S12_ : wPS) (w12_3 : Int32) (H : Heap) (locs : List Loc) (ls : Array Slot), (7 - w12_3.toInt).toNat < n → 0 ≤ w12_3.toInt ∧ w12_3.toInt ≤ 6 → stp [(7, 3)] [] [] S S12_ → va_P D vwCl (X ++ PL cy S12_) H → va_D A (X ++ PL cy S12_) → va_S A s.heap H locs → lv_has ls 5 [(3, .int w12_3), (2, .ref r2), (0, .ref o1), (1, .int x1)] → (∀ (S12_x : wPS) (w12_3x : Int32) (H : Heap) (locs : List Loc) (ls : Array Slot), 0 ≤ w12_3x.toInt ∧ w12_3x.toInt ≤ 6 → stp [(7, 3)] [] [] S S12_x → va_P D vwCl (X ++ PL cy S12_x) H → va_D A (X ++ PL cy S12_x) → va_S A s.heap H locs → lv_has ls 5 [(3, .int w12_3x), (2, .ref r2), (0, .ref o1), (1, .int x1)] → f_X9_doneAt_L12 S o1 x1 r2 n S12_ w12_3 = (S12_x, w12_3x) → W p l e (headSpec wsX9_doneAt ({ frames := 7, cells := 2, slots := 12, locals := 112 } : Room)).room s m [.ref o1, .int x1].toArray below meth c H locs 2 12 (vx_MQ below (va_Qi (fun r (u : wPS) => f_X9_doneAt S o1 x1 = .ok (r, u) ∧ stp [(7, 3)] [] [] S u) (fun u t => WD D cy X A u t) A) (vx_X (fun (u : wPS) => stp [(7, 3)] [] [] S u) (fun E u t => f_X9_doneAt S o1 x1 = .error E ∧ E ∈ ["java/lang/IndexOutOfBoundsException", "java/util/NoSuchElementException"] ∧ u = S ∧ WD D cy X A u t) A) [.ref o1, .int x1].toArray s 2 12 A) (F0 m 44 ls [])) → W p l e (headSpec wsX9_doneAt ({ frames := 7, cells := 2, slots := 12, locals := 112 } : Room)).room s m [.ref o1, .int x1].toArray below meth c H locs 2 12 (vx_MQ below (va_Qi (fun r (u : wPS) => f_X9_doneAt S o1 x1 = .ok (r, u) ∧ stp [(7, 3)] [] [] S u) (fun u t => WD D cy X A u t) A) (vx_X (fun (u : wPS) => stp [(7, 3)] [] [] S u) (fun E u t => f_X9_doneAt S o1 x1 = .error E ∧ E ∈ ["java/lang/IndexOutOfBoundsException", "java/util/NoSuchElementException"] ∧ u = S ∧ WD D cy X A u t) A) [.ref o1, .int x1].toArray s 2 12 A) (F0 m 12 ls []) := by
        intro n12
        induction n12 with
        | zero => intro S12_ w12_3 H locs ls hm; exact absurd hm (Nat.not_lt_zero _)
        | succ n12 ih12 =>
          intro S12_ w12_3 H locs ls hm12 hi12 hsh12 hP hD hS hl ko12
          refine lv_iload_n hx hb dX9_doneAt_12 rfl (lv_at hl 0 rfl) ?_
          refine lv_aload_n hx hb dX9_doneAt_13 rfl (lv_at hl 2 rfl) ?_
          obtain ⟨k10, gk10, hk10⟩ := wGt (cy := cy) X S12_ (hsh12.x.A h_o1).1 (hsh12.x.A h_o1).2.1
          have i11 := ((hsh12.w.at (hsh12.x.A h_o1) List.not_mem_nil).to_9 (hsh12.x.A h_o1).2.1).R5
          refine va_get (D := D) (ci := 13) (v := .int (S12_.I o1 5)) (C := RX9) (T := TX9) (N := 11) hx hb hts hi_X9_doneAt_X9 hown hK hP k10 hk10 rfl 5 (by decide) (hts (.fieldLink RX9 426 "Hobhouse" "stationCount" "I") (by decide +kernel)) (fun _ h9 => h9) rfl dX9_doneAt_14 ?_
          refine lv_icmp_ge (tgt := 44) hx hb dX9_doneAt_17 (by decide) (fun c12 => ?_) (fun c12 => ?_)
          · have c12i : (S12_.I o1 5).toInt ≤ w12_3.toInt := le_v rfl rfl c12
            exact ko12 S12_ w12_3 _ _ _ (by omega) hsh12 hP hD hS (lv_sub hl [0, 1, 2, 3] rfl) (by rw [f_X9_doneAt_L12_s, if_pos c12])
          · have c12i : w12_3.toInt < (S12_.I o1 5).toInt := nle_v rfl rfl c12
            refine lv_aload_n hx hb dX9_doneAt_20 rfl (lv_at hl 2 rfl) ?_
            have F13 := ((hW.at h_o1 List.not_mem_nil).to_9 h_o1.2.1).F4
            obtain ⟨k14, gk14, hk14⟩ := wGt (cy := cy) X S12_ (hsh12.x.A h_o1).1 (hsh12.x.A h_o1).2.1
            simp only [kE, (hsh12.x.F h_o1 (by decide) F13.1)] at hk14
            refine va_get (D := D) (ci := 13) (v := .ref (S.f o1 4)) (C := RX9) (T := TX9) (N := 11) hx hb hts hi_X9_doneAt_X9 hown hK hP k14 hk14 rfl 4 (by decide) (hts (.fieldLink RX9 23 "Hobhouse" "stations" "[LHobhouse$Station;") (by decide +kernel)) (fun _ h9 => h9) rfl dX9_doneAt_21 ?_
            refine lv_iload_n hx hb dX9_doneAt_24 rfl (lv_at hl 0 rfl) ?_
            obtain ⟨k15, gk15, hk15⟩ := wGt (cy := cy) X S12_ (hsh12.x.A F13.2.1).1 (hsh12.x.A F13.2.1).2.1
            have i17 := cl_int (i := w12_3) (by omega)
            have g16 := elq (by have h9 := ((hsh12.w.at (hsh12.x.A h_o1) List.not_mem_nil).to_9 (hsh12.x.A h_o1).2.1).E4 w12_3.toNatClampNeg (by omega); rw [f_of (hsh12.x.F h_o1 (by decide) F13.1)] at h9; exact h9)
            refine va_aldq hx hb hK hP k15 6 hk15 rfl (inb (m := 6) ((hsh12.x.n F13.2.1).trans F13.2.2) (by omega) (by omega)) dX9_doneAt_25 ?_
            rw [g16.1]
            refine W.eq (g2 := F0 m 26 ls [.ref (S12_.q (S.f o1 4) w12_3.toNatClampNeg)]) rfl ?_
            refine lv_aload_n hx hb dX9_doneAt_26 rfl (lv_at hl 2 rfl) ?_
            obtain ⟨k18, gk18, hk18⟩ := wGt (cy := cy) X S12_ (hsh12.x.A h_o1).1 (hsh12.x.A h_o1).2.1
            simp only [kE, (hsh12.x.F h_o1 (by decide) F13.1)] at hk18
            refine va_get (D := D) (ci := 13) (v := .ref (S.f o1 4)) (C := RX9) (T := TX9) (N := 11) hx hb hts hi_X9_doneAt_X9 hown hK hP k18 hk18 rfl 4 (by decide) (hts (.fieldLink RX9 23 "Hobhouse" "stations" "[LHobhouse$Station;") (by decide +kernel)) (fun _ h9 => h9) rfl dX9_doneAt_27 ?_
            refine lv_iload_n hx hb dX9_doneAt_30 rfl (lv_at hl 0 rfl) ?_
            obtain ⟨k19, gk19, hk19⟩ := wGt (cy := cy) X S12_ (hsh12.x.A F13.2.1).1 (hsh12.x.A F13.2.1).2.1
            have i21 := cl_int (i := w12_3) (by omega)
            have g20 := elq (by have h9 := ((hsh12.w.at (hsh12.x.A h_o1) List.not_mem_nil).to_9 (hsh12.x.A h_o1).2.1).E4 w12_3.toNatClampNeg (by omega); rw [f_of (hsh12.x.F h_o1 (by decide) F13.1)] at h9; exact h9)
            refine va_aldq hx hb hK hP k19 6 hk19 rfl (inb (m := 6) ((hsh12.x.n F13.2.1).trans F13.2.2) (by omega) (by omega)) dX9_doneAt_31 ?_
            rw [g20.1]
            refine W.eq (g2 := F0 m 32 ls [.ref (S12_.q (S.f o1 4) w12_3.toNatClampNeg), .ref (S12_.q (S.f o1 4) w12_3.toNatClampNeg)]) rfl ?_
            obtain ⟨k22, gk22, hk22⟩ := wGt (cy := cy) X S12_ g20.2.1 g20.2.2.1
            refine va_get (D := D) (ci := 11) (v := .int (S12_.I (S12_.q (S.f o1 4) w12_3.toNatClampNeg) 2)) (C := RX7) (T := TX7) (N := 4) hx hb hts hi_X9_doneAt_X7 hown hK hP k22 hk22 rfl 2 (by decide) (hts (.fieldLink RX9 436 "Hobhouse$Station" "toolsFrom" "I") (by decide +kernel)) (fun _ h9 => h9) rfl dX9_doneAt_32 ?_
            obtain ⟨k23, gk23, hk23⟩ := wGt (cy := cy) X S12_ g20.2.1 g20.2.2.1
            refine va_put (D := D) (ci := 11) (v := .int (S12_.I (S12_.q (S.f o1 4) w12_3.toNatClampNeg) 2)) (ty := .int) (C := RX7) (T := TX7) (N := 4) hx hb hts hi_X9_doneAt_X7 tyX7 tyX7_ok nmX7 hown hK hP hD hS k23 hk23 rfl 3 (by decide) (hts (.fieldLink RX9 457 "Hobhouse$Station" "freeFrom" "I") (by decide +kernel)) (fun _ h9 => h9) rfl (by decide +kernel) (rfl) (rfl) (Nat.le_of_ble_eq_true rfl) dX9_doneAt_35 (fun H locs hP2 hD2 hS => ?_)
            have e9 := wPuI (cy := cy) (j := 3) (v := (S12_.I (S12_.q (S.f o1 4) w12_3.toNatClampNeg) 2)) hD g20.2.1 g20.2.2.1 gk23 rfl
            obtain ⟨S24, hS24⟩ : ∃ z, S12_.sI (S12_.q (S.f o1 4) w12_3.toNatClampNeg) 3 (S12_.I (S12_.q (S.f o1 4) w12_3.toNatClampNeg) 2) = z := ⟨_, rfl⟩
            have hP : va_P D vwCl (X ++ PL cy S24) H := by rw [← hS24, ← e9]; exact hP2
            have hD : va_D A (X ++ PL cy S24) := by rw [← hS24, ← e9]; exact hD2
            have xe25 : ext S12_ S24 := by rw [← hS24]; exact ext.sI _ _ _ _
            have t26 : stp [(7, 3)] [] [] S S24 := by rw [← hS24]; exact hsh12.I 3 (S12_.I (S12_.q (S.f o1 4) w12_3.toNatClampNeg) 2) g20.2 (by decide) (trivial) (Or.inl (by decide))
            refine lv_iinc (v := w12_3 + (1 : Int32)) (lv' := [(3, .int (w12_3 + (1 : Int32))), (2, .ref r2), (0, .ref o1), (1, .int x1)]) hx hb dX9_doneAt_38 hl (k := 0) rfl (by rfl) (by decide) rfl (fun ls hl => ?_)
            refine lv_goto (tgt := 12) hx hb dX9_doneAt_41 (by decide) ?_
            have l32_1 : (1 : Int32).toInt = 1 := rfl
            have i27 : (w12_3 + (1 : Int32)).toInt = w12_3.toInt + 1 := t_addr (n := 1) rfl (by omega)
            exact ih12 S24 (w12_3 + (1 : Int32)) _ _ _ (Nat.lt_of_lt_of_le (by omega) (Nat.le_of_lt_succ hm12)) (by omega) t26 hP hD hS (lv_sub hl [0, 1, 2, 3] rfl) (fun S12_y w12_3y H9 locs9 ls9 i9 sh9 P9 D9 S9 l9 hfe => ko12 S12_y w12_3y H9 locs9 ls9 i9 sh9 P9 D9 S9 l9 (Eq.trans (by rw [f_X9_doneAt_L12_s, if_neg c12, l1_eq hS24]) hfe))
      refine loop12 8 S (0 : Int32) _ _ _ (by omega) (by omega) (stp.rf hW) hP hD hS (lv_sub hl [0, 1, 2, 3] rfl) (fun S29 z30 H locs ls hi12 hsh12 hP hD hS hl c28 => ?_)
      have t31 : stp [(7, 3)] [] [] S S29 := t0.tr hsh12 (fun _ q => q) (fun _ q => Or.inl q)
      have et31 := hsh12.x
      refine lv_iconst (v := 0) hx hb dX9_doneAt_44 (by decide) ?_
      refine lv_istore_n (lv' := [(3, .int (0 : Int32)), (2, .ref r2), (0, .ref o1), (1, .int x1)]) hx hb dX9_doneAt_45 rfl hl (by decide) rfl (fun ls hl => ?_)
      refine lv_iconst (v := 0) hx hb dX9_doneAt_46 (by decide) ?_
      refine lv_istore (lv' := [(4, .int (0 : Int32)), (3, .int (0 : Int32)), (2, .ref r2), (0, .ref o1), (1, .int x1)]) hx hb dX9_doneAt_47 hl (by decide) rfl (fun ls hl => ?_)
      have loop49 : ∀ (n : Nat) (S49_ : wPS) (w49_3 : Int32) (w49_4 : Int32) (H : Heap) (locs : List Loc) (ls : Array Slot), (21 - w49_4.toInt).toNat < n → 0 ≤ w49_4.toInt ∧ w49_4.toInt ≤ 20 → stp [(7, 3)] [] [] S29 S49_ → va_P D vwCl (X ++ PL cy S49_) H → va_D A (X ++ PL cy S49_) → va_S A s.heap H locs → lv_has ls 5 [(4, .int w49_4), (3, .int w49_3), (2, .ref r2), (0, .ref o1), (1, .int x1)] → (∀ (S49_x : wPS) (w49_3x : Int32) (w49_4x : Int32) (H : Heap) (locs : List Loc) (ls : Array Slot), 0 ≤ w49_4x.toInt ∧ w49_4x.toInt ≤ 20 → stp [(7, 3)] [] [] S29 S49_x → va_P D vwCl (X ++ PL cy S49_x) H → va_D A (X ++ PL cy S49_x) → va_S A s.heap H locs → lv_has ls 5 [(4, .int w49_4x), (3, .int w49_3x), (2, .ref r2), (0, .ref o1), (1, .int x1)] → f_X9_doneAt_L49 S o1 x1 r2 S29 z30 n S49_ w49_3 w49_4 = (S49_x, w49_3x, w49_4x) → W p l e (headSpec wsX9_doneAt ({ frames := 7, cells := 2, slots := 12, locals := 112 } : Room)).room s m [.ref o1, .int x1].toArray below meth c H locs 2 12 (vx_MQ below (va_Qi (fun r (u : wPS) => f_X9_doneAt S o1 x1 = .ok (r, u) ∧ stp [(7, 3)] [] [] S u) (fun u t => WD D cy X A u t) A) (vx_X (fun (u : wPS) => stp [(7, 3)] [] [] S u) (fun E u t => f_X9_doneAt S o1 x1 = .error E ∧ E ∈ ["java/lang/IndexOutOfBoundsException", "java/util/NoSuchElementException"] ∧ u = S ∧ WD D cy X A u t) A) [.ref o1, .int x1].toArray s 2 12 A) (F0 m 88 ls [])) → W p l e (headSpec wsX9_doneAt ({ frames := 7, cells := 2, slots := 12, locals := 112 } : Room)).room s m [.ref o1, .int x1].toArray below meth c H locs 2 12 (vx_MQ below (va_Qi (fun r (u : wPS) => f_X9_doneAt S o1 x1 = .ok (r, u) ∧ stp [(7, 3)] [] [] S u) (fun u t => WD D cy X A u t) A) (vx_X (fun (u : wPS) => stp [(7, 3)] [] [] S u) (fun E u t => f_X9_doneAt S o1 x1 = .error E ∧ E ∈ ["java/lang/IndexOutOfBoundsException", "java/util/NoSuchElementException"] ∧ u = S ∧ WD D cy X A u t) A) [.ref o1, .int x1].toArray s 2 12 A) (F0 m 49 ls []) := by
        intro n49
        induction n49 with
        | zero => intro S49_ w49_3 w49_4 H locs ls hm; exact absurd hm (Nat.not_lt_zero _)
        | succ n49 ih49 =>
          intro S49_ w49_3 w49_4 H locs ls hm49 hi49 hsh49 hP hD hS hl ko49
          refine lv_iload hx hb dX9_doneAt_49 (lv_at hl 0 rfl) ?_
          refine lv_aload_n hx hb dX9_doneAt_51 rfl (lv_at hl 2 rfl) ?_
          obtain ⟨k32, gk32, hk32⟩ := wGt (cy := cy) X S49_ ((et31.tr hsh49.x).A o5).1 ((et31.tr hsh49.x).A o5).2.1
          refine va_get (D := D) (ci := 6) (v := .int (S49_.I r2 0)) (C := RX2) (T := TX2) (N := 20) hx hb hts hi_X9_doneAt_X2 hown hK hP k32 hk32 rfl 0 (by decide) (hts (.fieldLink RX9 419 "Hobhouse$Gear" "number" "I") (by decide +kernel)) (fun _ h9 => h9) rfl dX9_doneAt_52 ?_
          refine lv_icmp_gt (tgt := 88) hx hb dX9_doneAt_55 (by decide) (fun c33 => ?_) (fun c33 => ?_)
          · have c33i : (S49_.I r2 0).toInt < w49_4.toInt := lt_v rfl rfl c33
            exact ko49 S49_ w49_3 w49_4 _ _ _ (by omega) hsh49 hP hD hS (lv_sub hl [0, 1, 2, 3, 4] rfl) (by rw [f_X9_doneAt_L49_s, if_pos c33])
          · have c33i : w49_4.toInt ≤ (S49_.I r2 0).toInt := nlt_v rfl rfl c33
            refine lv_iload hx hb dX9_doneAt_58 (lv_at hl 0 rfl) ?_
            refine lv_aload_n hx hb dX9_doneAt_60 rfl (lv_at hl 3 rfl) ?_
            obtain ⟨k34, gk34, hk34⟩ := wGt (cy := cy) X S49_ ((et31.tr hsh49.x).A h_o1).1 ((et31.tr hsh49.x).A h_o1).2.1
            have i35 := ((hsh49.w.at ((et31.tr hsh49.x).A h_o1) List.not_mem_nil).to_9 ((et31.tr hsh49.x).A h_o1).2.1).R1
            refine va_get (D := D) (ci := 13) (v := .int (S49_.I o1 1)) (C := RX9) (T := TX9) (N := 11) hx hb hts hi_X9_doneAt_X9 hown hK hP k34 hk34 rfl 1 (by decide) (hts (.fieldLink RX9 64 "Hobhouse" "gearCount" "I") (by decide +kernel)) (fun _ h9 => h9) rfl dX9_doneAt_61 ?_
            refine lv_icmp_ge (tgt := 88) hx hb dX9_doneAt_64 (by decide) (fun c36 => ?_) (fun c36 => ?_)
            · have c36i : (S49_.I o1 1).toInt ≤ w49_4.toInt := le_v rfl rfl c36
              exact ko49 S49_ w49_3 w49_4 _ _ _ (by omega) hsh49 hP hD hS (lv_sub hl [0, 1, 2, 3, 4] rfl) (by rw [f_X9_doneAt_L49_s, if_neg c33, if_pos c36])
            · have c36i : w49_4.toInt < (S49_.I o1 1).toInt := nle_v rfl rfl c36
              refine lv_aload_n hx hb dX9_doneAt_67 rfl (lv_at hl 3 rfl) ?_
              refine lv_aload_n hx hb dX9_doneAt_68 rfl (lv_at hl 3 rfl) ?_
              have F37 := ((hW.at h_o1 List.not_mem_nil).to_9 h_o1.2.1).F0
              obtain ⟨k38, gk38, hk38⟩ := wGt (cy := cy) X S49_ ((et31.tr hsh49.x).A h_o1).1 ((et31.tr hsh49.x).A h_o1).2.1
              simp only [kE, ((et31.tr hsh49.x).F h_o1 (by decide) F37.1)] at hk38
              refine va_get (D := D) (ci := 13) (v := .ref (S.f o1 0)) (C := RX9) (T := TX9) (N := 11) hx hb hts hi_X9_doneAt_X9 hown hK hP k38 hk38 rfl 0 (by decide) (hts (.fieldLink RX9 11 "Hobhouse" "gears" "[LHobhouse$Gear;") (by decide +kernel)) (fun _ h9 => h9) rfl dX9_doneAt_69 ?_
              refine lv_iload hx hb dX9_doneAt_72 (lv_at hl 0 rfl) ?_
              obtain ⟨k39, gk39, hk39⟩ := wGt (cy := cy) X S49_ ((et31.tr hsh49.x).A F37.2.1).1 ((et31.tr hsh49.x).A F37.2.1).2.1
              have i41 := cl_int (i := w49_4) (by omega)
              have g40 := elq (by have h9 := ((hsh49.w.at ((et31.tr hsh49.x).A h_o1) List.not_mem_nil).to_9 ((et31.tr hsh49.x).A h_o1).2.1).E0 w49_4.toNatClampNeg (by omega); rw [f_of ((et31.tr hsh49.x).F h_o1 (by decide) F37.1)] at h9; exact h9)
              refine va_aldq hx hb hK hP k39 4 hk39 rfl (inb (m := 20) (((et31.tr hsh49.x).n F37.2.1).trans F37.2.2) (by omega) (by omega)) dX9_doneAt_74 ?_
              rw [g40.1]
              refine W.eq (g2 := F0 m 75 ls [.ref (S49_.q (S.f o1 0) w49_4.toNatClampNeg), .ref o1]) rfl ?_
              have F42 := ((hsh49.w.at g40.2 List.not_mem_nil).to_2 g40.2.2.1).F6
              obtain ⟨k43, gk43, hk43⟩ := wGt (cy := cy) X S49_ g40.2.1 g40.2.2.1
              simp only [kE, F42.1] at hk43
              refine va_get (D := D) (ci := 6) (v := .ref (S49_.f (S49_.q (S.f o1 0) w49_4.toNatClampNeg) 6)) (C := RX2) (T := TX2) (N := 20) hx hb hts hi_X9_doneAt_X2 hown hK hP k43 hk43 rfl 6 (by decide) (hts (.fieldLink RX9 439 "Hobhouse$Gear" "way" "Ljava/lang/StringBuilder;") (by decide +kernel)) (fun _ h9 => h9) rfl dX9_doneAt_75 ?_
              have hFc := free_all hD hS hA
              obtain ⟨k44, gk44, hk44⟩ := wGt (cy := cy) X S49_ ((et31.tr hsh49.x).A h_o1).1 ((et31.tr hsh49.x).A h_o1).2.1
              refine va_calli (va_runV (As := [.ref (S49_.f (S49_.q (S.f o1 0) w49_4.toNatClampNeg) 6)]) (rest := []) ⟨hx, hb, hml, hown, hts⟩ (c_X9_passRoute l (e0 := e0) (mi := mi) (cy := cy) (X := X) (D := D) S49_ _ o1 ((et31.tr hsh49.x).A h_o1) (S49_.f (S49_.q (S.f o1 0) w49_4.toNatClampNeg) 6) F42.2 (hsh49.w)) (cwV 1 hts gX9_doneAt_X9_passRoute rfl rfl rfl hd_X9_passRoute ⟨Nat.le_of_ble_eq_true rfl, Nat.le_of_ble_eq_true rfl⟩) (pVo (va_recv hK hP (q := (RX9, TX9, 11)) (ci := 13) (q0 := k44) rfl hk44) hP hK hD hN hOU hS hFc) rfl rfl hl.1 rfl (lv_room (Nat.le_of_ble_eq_true rfl)) dX9_doneAt_78 ⟨Nat.le_of_ble_eq_true rfl, Nat.le_of_ble_eq_true rfl⟩) hS (fun q _ h => hFc q h) hFc (fun r45 u t H1 locs ht hvm hw hB hz1 hk1 hS => ?_)
              obtain ⟨c46, w47⟩ := hw
              obtain ⟨hP, hD⟩ := wd_post hFc ht hB
              generalize H1 = H at hP hS ⊢
              obtain ⟨S48, rfl⟩ : ∃ z, z = u := ⟨_, rfl⟩
              have t49 : stp [(7, 3)] [] [] S29 S48 := hsh49.tr w47 (by decide) (fun _ q => absurd q List.not_mem_nil)
              have xe50 : ext S49_ S48 := w47.x
              refine lv_istore_n (lv' := [(3, .int r45), (4, .int w49_4), (2, .ref r2), (0, .ref o1), (1, .int x1)]) hx hb dX9_doneAt_81 rfl hl (by decide) rfl (fun ls hl => ?_)
              refine lv_iinc (v := w49_4 + (1 : Int32)) (lv' := [(4, .int (w49_4 + (1 : Int32))), (3, .int r45), (2, .ref r2), (0, .ref o1), (1, .int x1)]) hx hb dX9_doneAt_82 hl (k := 1) rfl (by rfl) (by decide) rfl (fun ls hl => ?_)
              refine lv_goto (tgt := 49) hx hb dX9_doneAt_85 (by decide) ?_
              have l32_1 : (1 : Int32).toInt = 1 := rfl
              have i51 : (w49_4 + (1 : Int32)).toInt = w49_4.toInt + 1 := t_addr (n := 1) rfl (by omega)
              exact ih49 S48 r45 (w49_4 + (1 : Int32)) _ _ _ (Nat.lt_of_lt_of_le (by omega) (Nat.le_of_lt_succ hm49)) (by omega) t49 hP hD hS (lv_sub hl [0, 1, 2, 3, 4] rfl) (fun S49_y w49_3y w49_4y H9 locs9 ls9 i9 sh9 P9 D9 S9 l9 hfe => ko49 S49_y w49_3y w49_4y H9 locs9 ls9 i9 sh9 P9 D9 S9 l9 (Eq.trans (by rw [f_X9_doneAt_L49_s, if_neg c33, if_neg c36, l2_eq c46.symm]) hfe))
      refine loop49 22 S29 (0 : Int32) (0 : Int32) _ _ _ (by omega) (by omega) (stp.rf t31.w) hP hD hS (lv_sub hl [0, 1, 2, 3, 4] rfl) (fun S53 z54 z55 H locs ls hi49 hsh49 hP hD hS hl c52 => ?_)
      have t56 : stp [(7, 3)] [] [] S S53 := t31.tr hsh49 (fun _ q => q) (fun _ q => Or.inl q)
      have et56 := hsh49.x
      refine lv_iload_n hx hb dX9_doneAt_88 rfl (lv_at hl 1 rfl) ?_
      refine vx_ret ?_
      refine W.widen (k := 2) (n := 12) (Nat.le_of_ble_eq_true rfl) (Nat.le_of_ble_eq_true rfl) ?_
      exact W.iret (v := z54) hx hb hr (fun t ht hW9 => ⟨⟨z54, S53, rfl, ⟨(by show f_X9_doneAt S o1 x1 = .ok (z54, S53); unfold f_X9_doneAt; rw [eB_ok c4, eB_ok c9, l2_eq c28, l3_eq c52]), t56⟩, wd_end hP hK hD ht hW9.alike⟩, hS.F ht⟩) hS.2.2 dX9_doneAt_89 hlocks
set_option maxRecDepth 20000 in
theorem s_X9_match_IAE : ∀ w ∈ (vx_atS RX9 114 "java/lang/IllegalArgumentException" ["java/lang/RuntimeException", "java/lang/Exception"]).filter goodWord, w ∈ wsX9_match := fun w h => List.mem_cons_of_mem _ (List.mem_append_left _ (List.mem_append_left _ (List.mem_append_left _ (List.mem_append_right _ h))))
set_option maxRecDepth 20000 in
theorem s_X9_match_NSEE : ∀ w ∈ (vx_atI RX9 154 "java/util/NoSuchElementException" ["java/lang/RuntimeException", "java/lang/Exception"]).filter goodWord, w ∈ wsX9_match := fun w h => List.mem_cons_of_mem _ (List.mem_append_left _ (List.mem_append_left _ (List.mem_append_right _ h)))
theorem hi_X9_match_X2 : ∀ w ∈ u_ws RX2 TX2 20, w ∈ wsX9_match := by decide +kernel
theorem hi_X9_match_X4 : ∀ w ∈ u_ws RX4 TX4 9, w ∈ wsX9_match := by decide +kernel
theorem hi_X9_match_X9 : ∀ w ∈ u_ws RX9 TX9 11, w ∈ wsX9_match := by decide +kernel
theorem hd_X9_match : yX9_match.cls = RX9 ∧ yX9_match.cls ≠ "java/lang/invoke/MethodHandle" ∧ yX9_match.cls ≠ "java/lang/invoke/VarHandle" ∧ (parseMethodDescriptor yX9_match.desc).map (fun d => d.parameters.length) = some 3 := by decide +kernel
set_option maxHeartbeats 4000000 in
set_option maxRecDepth 100000 in
theorem c_X9_match (l : Launch) (hst : l.stackTraces = false) {D : va_G} {cy : Nat → ClassId} {X : va_W} (S : wPS) (sz : Nat) (o1 : Nat) (h_o1 : isA S o1 9) (x1 : Int32) (x2 : Int32) (x3 : Int32) (hW : wtB S [])  : vx_Met l yX9_match wsX9_match ({ frames := 9, cells := 2, slots := 12, locals := 233 }) (va_Pc [.ref o1, .int x1, .int x2, .int x3] (fun U => U.heap.size = sz ∧ WD D cy X (fun _ => True) S U ∧ NW U ∧ TH (va_A (X ++ PL cy S) sz) U)) (va_Qi (fun r (u : wPS) => stp [(2, 19), (4, 6), (4, 7), (4, 8), (6, 4), (17, 100), (18, 100), (24, 101)] [] [] S u) (fun u t => WD D cy X (va_A (X ++ PL cy S) sz) u t) (va_A (X ++ PL cy S) sz)) (vx_X (fun (u : wPS) => stp [(2, 19), (4, 6), (4, 7), (4, 8), (6, 4), (17, 100), (18, 100), (24, 101)] [] [] S u) (fun E u t => E ∈ ["java/lang/IllegalArgumentException", "java/util/NoSuchElementException"] ∧ WD D cy X (va_A (X ++ PL cy S) sz) u t) (va_A (X ++ PL cy S) sz)) 2 12 (va_A (X ++ PL cy S) sz) := by
  refine vx_ofW (cc := cX9_match) (maxL := 5) (ret := (some .int)) (by decide) rfl ?_
  intro p e s m args below meth c s₁ B hml hno hv
  obtain ⟨rfl, hsz, ⟨hP, hK, hD0⟩, hN, hTH⟩ := hv
  have hx := B.exec
  have hb := B.bytes
  have hr := B.returns
  have hts := atoms_spec (ws := wsX9_match) B.pre
  have hown : s.vm.findClass RX9 = some m.cls := findClass_of_methodNamed (x := yX9_match) B.named
  have hlocks := B.notSynchronized
  subst hsz
  have hD := hD0.self (sz := s.heap.size)
  generalize hAe : va_A (X ++ PL cy S) s.heap.size = A at hD hTH ⊢
  have hA : ∀ q : Nat, s.heap.size ≤ q → A q := fun q h => by rw [← hAe]; exact Or.inr h
  have hS : va_S A s.heap s.heap [] := va_S.rf
  have hl := lv_entry ([.ref o1, .int x1, .int x2, .int x3]) (n := 5) (Nat.le_of_ble_eq_true rfl)
  rw [lg_entry_eq]
  generalize (lg_sl ([.ref o1, .int x1, .int x2, .int x3]) ++ List.replicate (5 - (lg_sl ([.ref o1, .int x1, .int x2, .int x3])).length) Slot.unset).toArray = ls at hl ⊢
  have hl : lv_has ls 5 [(0, .ref o1), (1, .int x1), (2, .int x2), (3, .int x3)] := hl
  have t0 : stp [(2, 19), (4, 6), (4, 7), (4, 8), (6, 4), (17, 100), (18, 100), (24, 101)] [] [] S S := stp.rf hW
  refine lv_iload_n hx hb dX9_match_0 rfl (lv_at hl 1 rfl) ?_
  refine lv_iload_n hx hb dX9_match_1 rfl (lv_at hl 2 rfl) ?_
  refine lv_icmp_ne (tgt := 16) hx hb dX9_match_2 (by decide) (fun c1 => ?_) (fun c1 => ?_)
  · have c1i : ¬ x1.toInt = x2.toInt := neq_v rfl rfl c1
    refine lv_iload_n hx hb dX9_match_16 rfl (lv_at hl 3 rfl) ?_
    refine lv_iconst (v := 1) hx hb dX9_match_17 (by decide) ?_
    refine lv_iconst (v := 4) hx hb dX9_match_18 (by decide) ?_
    have l32_1 : (1 : Int32).toInt = 1 := rfl
    have l32_4 : (4 : Int32).toInt = 4 := rfl
    have hFc := free_all hD hS hA
    refine vx_callv (vx_runS (As := [.int x3, .int (1 : Int32), .int (4 : Int32)]) (rest := []) ⟨hx, hb, hml, hown, hts⟩ (c_X9_needRange l hst (cy := cy) (X := X) (D := D) S _ x3 (1 : Int32) (4 : Int32)) (cwS 3 hts gX9_match_X9_needRange rfl rfl rfl hd_X9_needRange ⟨Nat.le_of_ble_eq_true rfl, Nat.le_of_ble_eq_true rfl⟩) (pSt hP hK hD hN hTH hS hFc) rfl rfl hl.1 rfl (lv_room (Nat.le_of_ble_eq_true rfl)) dX9_match_19 ⟨Nat.le_of_ble_eq_true rfl, Nat.le_of_ble_eq_true rfl⟩) hS (fun q _ h => hFc q h) hFc (fun q _ h => hFc q h) (fun E ce q9 u t H1 locs ht hvm hw hB hz1 hk1 hS hq9 hce hcl => ?_) (fun u t H1 locs ht hvm hw hB hz1 hk1 hS => ?_)
    · obtain ⟨c3, hEc3, hB2⟩ := hB
      obtain ⟨hP, hD⟩ := wd_post hFc ht hB2
      exact vx_out (fun x h => (hno x h).elim) hlocks hq9 hce hcl (fun t2 ht2 hA2 => ⟨S, t0, ⟨(el_in (by decide) hEc3), wd_end hP hK hD ht2 hA2⟩, hS.F ht2⟩) hS.2.2 (Nat.le_of_ble_eq_true rfl) (Nat.le_of_ble_eq_true rfl)
    · have c4 := hw
      obtain ⟨hP, hD⟩ := wd_post hFc ht hB
      generalize H1 = H at hP hS ⊢
      have i5 := nr_i c4
      have i5l := i5.1
      have i5h := i5.2
      have l6 : (1 : Int32).toInt = 1 := rfl
      have l7 : (4 : Int32).toInt = 4 := rfl
      refine lv_aload_n hx hb dX9_match_22 rfl (lv_at hl 0 rfl) ?_
      have F8 := ((hW.at h_o1 List.not_mem_nil).to_9 h_o1.2.1).F8
      obtain ⟨k9, gk9, hk9⟩ := wGt (cy := cy) X S h_o1.1 h_o1.2.1
      simp only [kE, F8.1] at hk9
      refine va_get (D := D) (ci := 13) (v := .ref (S.f o1 8)) (C := RX9) (T := TX9) (N := 11) hx hb hts hi_X9_match_X9 hown hK hP k9 hk9 rfl 8 (by decide) (hts (.fieldLink RX9 44 "Hobhouse" "matching" "LHobhouse$Matching;") (by decide +kernel)) (fun _ h9 => h9) rfl dX9_match_23 ?_
      have hFc := free_all hD hS hA
      obtain ⟨k10, gk10, hk10⟩ := wGt (cy := cy) X S F8.2.1 F8.2.2.1
      refine va_callv (va_runV (As := []) (rest := []) ⟨hx, hb, hml, hown, hts⟩ (c_X4_begin l (cy := cy) (X := X) (D := D) S _ (S.f o1 8) F8.2 (hW)) (cwV 0 hts gX9_match_X4_begin rfl rfl rfl hd_X4_begin ⟨Nat.le_of_ble_eq_true rfl, Nat.le_of_ble_eq_true rfl⟩) (pV (va_recv hK hP (q := (RX4, TX4, 9)) (ci := 8) (q0 := k10) rfl hk10) hP hK hD hN) rfl rfl hl.1 rfl (lv_room (Nat.le_of_ble_eq_true rfl)) dX9_match_26 ⟨Nat.le_of_ble_eq_true rfl, Nat.le_of_ble_eq_true rfl⟩) hS (fun q _ h => hFc q h) hFc (fun u t H1 locs ht hvm hw hB hz1 hk1 hS => ?_)
      have w12 := hw
      obtain ⟨hP, hD⟩ := wd_post hFc ht hB
      generalize H1 = H at hP hS ⊢
      obtain ⟨S13, rfl⟩ : ∃ z, z = u := ⟨_, rfl⟩
      have t14 : stp [(2, 19), (4, 6), (4, 7), (4, 8), (6, 4), (17, 100), (18, 100), (24, 101)] [] [] S S13 := t0.tr w12 (by decide) (fun _ q => absurd q List.not_mem_nil)
      have xe15 : ext S S13 := w12.x
      refine lv_iconst (v := 0) hx hb dX9_match_29 (by decide) ?_
      refine lv_istore (lv' := [(4, .int (0 : Int32)), (0, .ref o1), (1, .int x1), (2, .int x2), (3, .int x3)]) hx hb dX9_match_30 hl (by decide) rfl (fun ls hl => ?_)
      have l32_0 : (0 : Int32).toInt = 0 := rfl
      have loop32 : ∀ (n : Nat) (S32_ : wPS) (w32_4 : Int32) (H : Heap) (locs : List Loc) (ls : Array Slot), (21 - w32_4.toInt).toNat < n → 0 ≤ w32_4.toInt ∧ w32_4.toInt ≤ 20 → stp [(2, 19), (4, 6), (4, 7), (4, 8), (6, 4), (17, 100), (18, 100), (24, 101)] [] [] S13 S32_ → va_P D vwCl (X ++ PL cy S32_) H → va_D A (X ++ PL cy S32_) → va_S A s.heap H locs → lv_has ls 5 [(4, .int w32_4), (0, .ref o1), (1, .int x1), (2, .int x2), (3, .int x3)] → (∀ (S32_x : wPS) (w32_4x : Int32) (H : Heap) (locs : List Loc) (ls : Array Slot), 0 ≤ w32_4x.toInt ∧ w32_4x.toInt ≤ 20 → stp [(2, 19), (4, 6), (4, 7), (4, 8), (6, 4), (17, 100), (18, 100), (24, 101)] [] [] S13 S32_x → va_P D vwCl (X ++ PL cy S32_x) H → va_D A (X ++ PL cy S32_x) → va_S A s.heap H locs → lv_has ls 5 [(4, .int w32_4x), (0, .ref o1), (1, .int x1), (2, .int x2), (3, .int x3)] → W p l e (headSpec wsX9_match ({ frames := 9, cells := 2, slots := 12, locals := 233 } : Room)).room s m [.ref o1, .int x1, .int x2, .int x3].toArray below meth c H locs 1 6 (vx_MQ below (va_Qi (fun r (u : wPS) => stp [(2, 19), (4, 6), (4, 7), (4, 8), (6, 4), (17, 100), (18, 100), (24, 101)] [] [] S u) (fun u t => WD D cy X A u t) A) (vx_X (fun (u : wPS) => stp [(2, 19), (4, 6), (4, 7), (4, 8), (6, 4), (17, 100), (18, 100), (24, 101)] [] [] S u) (fun E u t => E ∈ ["java/lang/IllegalArgumentException", "java/util/NoSuchElementException"] ∧ WD D cy X A u t) A) [.ref o1, .int x1, .int x2, .int x3].toArray s 2 12 A) (F0 m 90 ls [])) → W p l e (headSpec wsX9_match ({ frames := 9, cells := 2, slots := 12, locals := 233 } : Room)).room s m [.ref o1, .int x1, .int x2, .int x3].toArray below meth c H locs 1 6 (vx_MQ below (va_Qi (fun r (u : wPS) => stp [(2, 19), (4, 6), (4, 7), (4, 8), (6, 4), (17, 100), (18, 100), (24, 101)] [] [] S u) (fun u t => WD D cy X A u t) A) (vx_X (fun (u : wPS) => stp [(2, 19), (4, 6), (4, 7), (4, 8), (6, 4), (17, 100), (18, 100), (24, 101)] [] [] S u) (fun E u t => E ∈ ["java/lang/IllegalArgumentException", "java/util/NoSuchElementException"] ∧ WD D cy X A u t) A) [.ref o1, .int x1, .int x2, .int x3].toArray s 2 12 A) (F0 m 32 ls []) := by
        intro n32
        induction n32 with
        | zero => intro S32_ w32_4 H locs ls hm; exact absurd hm (Nat.not_lt_zero _)
        | succ n32 ih32 =>
          intro S32_ w32_4 H locs ls hm32 hi32 hsh32 hP hD hS hl ko32
          refine lv_iload hx hb dX9_match_32 (lv_at hl 0 rfl) ?_
          refine lv_aload_n hx hb dX9_match_34 rfl (lv_at hl 1 rfl) ?_
          obtain ⟨k16, gk16, hk16⟩ := wGt (cy := cy) X S32_ ((xe15.tr hsh32.x).A h_o1).1 ((xe15.tr hsh32.x).A h_o1).2.1
          have i17 := ((hsh32.w.at ((xe15.tr hsh32.x).A h_o1) List.not_mem_nil).to_9 ((xe15.tr hsh32.x).A h_o1).2.1).R1
          refine va_get (D := D) (ci := 13) (v := .int (S32_.I o1 1)) (C := RX9) (T := TX9) (N := 11) hx hb hts hi_X9_match_X9 hown hK hP k16 hk16 rfl 1 (by decide) (hts (.fieldLink RX9 64 "Hobhouse" "gearCount" "I") (by decide +kernel)) (fun _ h9 => h9) rfl dX9_match_35 ?_
          refine lv_icmp_ge (tgt := 90) hx hb dX9_match_38 (by decide) (fun c18 => ?_) (fun c18 => ?_)
          · have c18i : (S32_.I o1 1).toInt ≤ w32_4.toInt := le_v rfl rfl c18
            exact ko32 S32_ w32_4 _ _ _ (by omega) hsh32 hP hD hS (lv_sub hl [0, 1, 2, 3, 4] rfl)
          · have c18i : w32_4.toInt < (S32_.I o1 1).toInt := nle_v rfl rfl c18
            refine lv_aload_n hx hb dX9_match_41 rfl (lv_at hl 1 rfl) ?_
            have F19 := ((hW.at h_o1 List.not_mem_nil).to_9 h_o1.2.1).F0
            obtain ⟨k20, gk20, hk20⟩ := wGt (cy := cy) X S32_ ((xe15.tr hsh32.x).A h_o1).1 ((xe15.tr hsh32.x).A h_o1).2.1
            simp only [kE, ((xe15.tr hsh32.x).F h_o1 (by decide) F19.1)] at hk20
            refine va_get (D := D) (ci := 13) (v := .ref (S.f o1 0)) (C := RX9) (T := TX9) (N := 11) hx hb hts hi_X9_match_X9 hown hK hP k20 hk20 rfl 0 (by decide) (hts (.fieldLink RX9 11 "Hobhouse" "gears" "[LHobhouse$Gear;") (by decide +kernel)) (fun _ h9 => h9) rfl dX9_match_42 ?_
            refine lv_iload hx hb dX9_match_45 (lv_at hl 0 rfl) ?_
            obtain ⟨k21, gk21, hk21⟩ := wGt (cy := cy) X S32_ ((xe15.tr hsh32.x).A F19.2.1).1 ((xe15.tr hsh32.x).A F19.2.1).2.1
            have i23 := cl_int (i := w32_4) (by omega)
            have g22 := elq (by have h9 := ((hsh32.w.at ((xe15.tr hsh32.x).A h_o1) List.not_mem_nil).to_9 ((xe15.tr hsh32.x).A h_o1).2.1).E0 w32_4.toNatClampNeg (by omega); rw [f_of ((xe15.tr hsh32.x).F h_o1 (by decide) F19.1)] at h9; exact h9)
            refine va_aldq hx hb hK hP k21 4 hk21 rfl (inb (m := 20) (((xe15.tr hsh32.x).n F19.2.1).trans F19.2.2) (by omega) (by omega)) dX9_match_47 ?_
            rw [g22.1]
            refine W.eq (g2 := F0 m 48 ls [.ref (S32_.q (S.f o1 0) w32_4.toNatClampNeg)]) rfl ?_
            have hFc := free_all hD hS hA
            obtain ⟨k24, gk24, hk24⟩ := wGt (cy := cy) X S32_ g22.2.1 g22.2.2.1
            refine va_calli (va_runV (As := []) (rest := []) ⟨hx, hb, hml, hown, hts⟩ (c_X2_isWhole l (cy := cy) (X := X) (D := D) S32_ _ (S32_.q (S.f o1 0) w32_4.toNatClampNeg) g22.2) (cwV 0 hts gX9_match_X2_isWhole rfl rfl rfl hd_X2_isWhole ⟨Nat.le_of_ble_eq_true rfl, Nat.le_of_ble_eq_true rfl⟩) (pV (va_recv hK hP (q := (RX2, TX2, 20)) (ci := 6) (q0 := k24) rfl hk24) hP hK hD hN) rfl rfl hl.1 rfl (lv_room (Nat.le_of_ble_eq_true rfl)) dX9_match_48 ⟨Nat.le_of_ble_eq_true rfl, Nat.le_of_ble_eq_true rfl⟩) hS (fun q _ h => hFc q h) hFc (fun r25 u t H1 locs ht hvm hw hB hz1 hk1 hS => ?_)
            have c26 := hw
            obtain ⟨hP, hD⟩ := wd_post hFc ht hB
            generalize H1 = H at hP hS ⊢
            obtain rfl : f_X2_isWhole S32_ (S32_.q (S.f o1 0) w32_4.toNatClampNeg) = r25 := c26.symm
            refine lv_if_eq (tgt := 84) hx hb dX9_match_51 (by decide) (fun c27 => ?_) (fun c27 => ?_)
            · have c27i : (f_X2_isWhole S32_ (S32_.q (S.f o1 0) w32_4.toNatClampNeg)).toInt = 0 := eq_v rfl rfl c27
              refine lv_iinc (v := w32_4 + (1 : Int32)) (lv' := [(4, .int (w32_4 + (1 : Int32))), (0, .ref o1), (1, .int x1), (2, .int x2), (3, .int x3)]) hx hb dX9_match_84 hl (k := 0) rfl (by rfl) (by decide) rfl (fun ls hl => ?_)
              refine lv_goto (tgt := 32) hx hb dX9_match_87 (by decide) ?_
              have i28 : (w32_4 + (1 : Int32)).toInt = w32_4.toInt + 1 := t_addr (n := 1) rfl (by omega)
              exact ih32 S32_ (w32_4 + (1 : Int32)) _ _ _ (Nat.lt_of_lt_of_le (by omega) (Nat.le_of_lt_succ hm32)) (by omega) hsh32 hP hD hS (lv_sub hl [0, 1, 2, 3, 4] rfl) ko32
            · have c27i : ¬ (f_X2_isWhole S32_ (S32_.q (S.f o1 0) w32_4.toNatClampNeg)).toInt = 0 := neq_v rfl rfl c27
              refine lv_aload_n hx hb dX9_match_54 rfl (lv_at hl 1 rfl) ?_
              obtain ⟨k29, gk29, hk29⟩ := wGt (cy := cy) X S32_ ((xe15.tr hsh32.x).A h_o1).1 ((xe15.tr hsh32.x).A h_o1).2.1
              simp only [kE, ((xe15.tr hsh32.x).F h_o1 (by decide) F19.1)] at hk29
              refine va_get (D := D) (ci := 13) (v := .ref (S.f o1 0)) (C := RX9) (T := TX9) (N := 11) hx hb hts hi_X9_match_X9 hown hK hP k29 hk29 rfl 0 (by decide) (hts (.fieldLink RX9 11 "Hobhouse" "gears" "[LHobhouse$Gear;") (by decide +kernel)) (fun _ h9 => h9) rfl dX9_match_55 ?_
              refine lv_iload hx hb dX9_match_58 (lv_at hl 0 rfl) ?_
              obtain ⟨k30, gk30, hk30⟩ := wGt (cy := cy) X S32_ ((xe15.tr hsh32.x).A F19.2.1).1 ((xe15.tr hsh32.x).A F19.2.1).2.1
              have i32 := cl_int (i := w32_4) (by omega)
              have g31 := elq (by have h9 := ((hsh32.w.at ((xe15.tr hsh32.x).A h_o1) List.not_mem_nil).to_9 ((xe15.tr hsh32.x).A h_o1).2.1).E0 w32_4.toNatClampNeg (by omega); rw [f_of ((xe15.tr hsh32.x).F h_o1 (by decide) F19.1)] at h9; exact h9)
              refine va_aldq hx hb hK hP k30 4 hk30 rfl (inb (m := 20) (((xe15.tr hsh32.x).n F19.2.1).trans F19.2.2) (by omega) (by omega)) dX9_match_60 ?_
              rw [g31.1]
              refine W.eq (g2 := F0 m 61 ls [.ref (S32_.q (S.f o1 0) w32_4.toNatClampNeg)]) rfl ?_
              obtain ⟨k33, gk33, hk33⟩ := wGt (cy := cy) X S32_ g31.2.1 g31.2.2.1
              refine va_get (D := D) (ci := 6) (v := .int (S32_.I (S32_.q (S.f o1 0) w32_4.toNatClampNeg) 19)) (C := RX2) (T := TX2) (N := 20) hx hb hts hi_X9_match_X2 hown hK hP k33 hk33 rfl 19 (by decide) (hts (.fieldLink RX9 396 "Hobhouse$Gear" "mateNumber" "I") (by decide +kernel)) (fun _ h9 => h9) rfl dX9_match_61 ?_
              refine lv_iconst (v := -1) hx hb dX9_match_64 (by decide) ?_
              refine lv_icmp_ne (tgt := 84) hx hb dX9_match_65 (by decide) (fun c34 => ?_) (fun c34 => ?_)
              · have c34i : ¬ (S32_.I (S32_.q (S.f o1 0) w32_4.toNatClampNeg) 19).toInt = -1 := neq_v rfl rfl c34
                refine lv_iinc (v := w32_4 + (1 : Int32)) (lv' := [(4, .int (w32_4 + (1 : Int32))), (0, .ref o1), (1, .int x1), (2, .int x2), (3, .int x3)]) hx hb dX9_match_84 hl (k := 0) rfl (by rfl) (by decide) rfl (fun ls hl => ?_)
                refine lv_goto (tgt := 32) hx hb dX9_match_87 (by decide) ?_
                have i35 : (w32_4 + (1 : Int32)).toInt = w32_4.toInt + 1 := t_addr (n := 1) rfl (by omega)
                exact ih32 S32_ (w32_4 + (1 : Int32)) _ _ _ (Nat.lt_of_lt_of_le (by omega) (Nat.le_of_lt_succ hm32)) (by omega) hsh32 hP hD hS (lv_sub hl [0, 1, 2, 3, 4] rfl) ko32
              · have c34i : (S32_.I (S32_.q (S.f o1 0) w32_4.toNatClampNeg) 19).toInt = -1 := eq_v rfl rfl c34
                refine lv_aload_n hx hb dX9_match_68 rfl (lv_at hl 1 rfl) ?_
                obtain ⟨k36, gk36, hk36⟩ := wGt (cy := cy) X S32_ ((xe15.tr hsh32.x).A h_o1).1 ((xe15.tr hsh32.x).A h_o1).2.1
                simp only [kE, ((xe15.tr hsh32.x).F h_o1 (by decide) F8.1)] at hk36
                refine va_get (D := D) (ci := 13) (v := .ref (S.f o1 8)) (C := RX9) (T := TX9) (N := 11) hx hb hts hi_X9_match_X9 hown hK hP k36 hk36 rfl 8 (by decide) (hts (.fieldLink RX9 44 "Hobhouse" "matching" "LHobhouse$Matching;") (by decide +kernel)) (fun _ h9 => h9) rfl dX9_match_69 ?_
                refine lv_aload_n hx hb dX9_match_72 rfl (lv_at hl 1 rfl) ?_
                obtain ⟨k37, gk37, hk37⟩ := wGt (cy := cy) X S32_ ((xe15.tr hsh32.x).A h_o1).1 ((xe15.tr hsh32.x).A h_o1).2.1
                simp only [kE, ((xe15.tr hsh32.x).F h_o1 (by decide) F19.1)] at hk37
                refine va_get (D := D) (ci := 13) (v := .ref (S.f o1 0)) (C := RX9) (T := TX9) (N := 11) hx hb hts hi_X9_match_X9 hown hK hP k37 hk37 rfl 0 (by decide) (hts (.fieldLink RX9 11 "Hobhouse" "gears" "[LHobhouse$Gear;") (by decide +kernel)) (fun _ h9 => h9) rfl dX9_match_73 ?_
                refine lv_iload hx hb dX9_match_76 (lv_at hl 0 rfl) ?_
                obtain ⟨k38, gk38, hk38⟩ := wGt (cy := cy) X S32_ ((xe15.tr hsh32.x).A F19.2.1).1 ((xe15.tr hsh32.x).A F19.2.1).2.1
                have i40 := cl_int (i := w32_4) (by omega)
                have g39 := elq (by have h9 := ((hsh32.w.at ((xe15.tr hsh32.x).A h_o1) List.not_mem_nil).to_9 ((xe15.tr hsh32.x).A h_o1).2.1).E0 w32_4.toNatClampNeg (by omega); rw [f_of ((xe15.tr hsh32.x).F h_o1 (by decide) F19.1)] at h9; exact h9)
                refine va_aldq hx hb hK hP k38 4 hk38 rfl (inb (m := 20) (((xe15.tr hsh32.x).n F19.2.1).trans F19.2.2) (by omega) (by omega)) dX9_match_78 ?_
                rw [g39.1]
                refine W.eq (g2 := F0 m 79 ls [.ref (S32_.q (S.f o1 0) w32_4.toNatClampNeg), .ref (S.f o1 8)]) rfl ?_
                refine lv_iload_n hx hb dX9_match_79 rfl (lv_at hl 2 rfl) ?_
                refine lv_iload_n hx hb dX9_match_80 rfl (lv_at hl 3 rfl) ?_
                have hFc := free_all hD hS hA
                obtain ⟨k41, gk41, hk41⟩ := wGt (cy := cy) X S32_ ((xe15.tr hsh32.x).A F8.2).1 ((xe15.tr hsh32.x).A F8.2).2.1
                refine va_callv (va_runV (As := [.ref (S32_.q (S.f o1 0) w32_4.toNatClampNeg), .int x1, .int x2]) (rest := []) ⟨hx, hb, hml, hown, hts⟩ (c_X4_offer l (cy := cy) (X := X) (D := D) S32_ _ (S.f o1 8) ((xe15.tr hsh32.x).A F8.2) (S32_.q (S.f o1 0) w32_4.toNatClampNeg) g39.2 x1 x2 (hsh32.w)) (cwV 3 hts gX9_match_X4_offer rfl rfl rfl hd_X4_offer ⟨Nat.le_of_ble_eq_true rfl, Nat.le_of_ble_eq_true rfl⟩) (pV (va_recv hK hP (q := (RX4, TX4, 9)) (ci := 8) (q0 := k41) rfl hk41) hP hK hD hN) rfl rfl hl.1 rfl (lv_room (Nat.le_of_ble_eq_true rfl)) dX9_match_81 ⟨Nat.le_of_ble_eq_true rfl, Nat.le_of_ble_eq_true rfl⟩) hS (fun q _ h => hFc q h) hFc (fun u t H1 locs ht hvm hw hB hz1 hk1 hS => ?_)
                have w43 := hw
                obtain ⟨hP, hD⟩ := wd_post hFc ht hB
                generalize H1 = H at hP hS ⊢
                obtain ⟨S44, rfl⟩ : ∃ z, z = u := ⟨_, rfl⟩
                have t45 : stp [(2, 19), (4, 6), (4, 7), (4, 8), (6, 4), (17, 100), (18, 100), (24, 101)] [] [] S13 S44 := hsh32.tr w43 (by decide) (fun _ q => absurd q List.not_mem_nil)
                have xe46 : ext S32_ S44 := w43.x
                refine lv_iinc (v := w32_4 + (1 : Int32)) (lv' := [(4, .int (w32_4 + (1 : Int32))), (0, .ref o1), (1, .int x1), (2, .int x2), (3, .int x3)]) hx hb dX9_match_84 hl (k := 0) rfl (by rfl) (by decide) rfl (fun ls hl => ?_)
                refine lv_goto (tgt := 32) hx hb dX9_match_87 (by decide) ?_
                have i47 : (w32_4 + (1 : Int32)).toInt = w32_4.toInt + 1 := t_addr (n := 1) rfl (by omega)
                exact ih32 S44 (w32_4 + (1 : Int32)) _ _ _ (Nat.lt_of_lt_of_le (by omega) (Nat.le_of_lt_succ hm32)) (by omega) t45 hP hD hS (lv_sub hl [0, 1, 2, 3, 4] rfl) ko32
      refine loop32 22 S13 (0 : Int32) _ _ _ (by omega) (by omega) (stp.rf t14.w) hP hD hS (lv_sub hl [0, 1, 2, 3, 4] rfl) (fun S49 z50 H locs ls hi32 hsh32 hP hD hS hl => ?_)
      have t51 : stp [(2, 19), (4, 6), (4, 7), (4, 8), (6, 4), (17, 100), (18, 100), (24, 101)] [] [] S S49 := t14.tr hsh32 (fun _ q => q) (fun _ q => Or.inl q)
      have et51 := hsh32.x
      refine lv_aload_n hx hb dX9_match_90 rfl (lv_at hl 1 rfl) ?_
      obtain ⟨k52, gk52, hk52⟩ := wGt (cy := cy) X S49 ((xe15.tr et51).A h_o1).1 ((xe15.tr et51).A h_o1).2.1
      simp only [kE, ((xe15.tr et51).F h_o1 (by decide) F8.1)] at hk52
      refine va_get (D := D) (ci := 13) (v := .ref (S.f o1 8)) (C := RX9) (T := TX9) (N := 11) hx hb hts hi_X9_match_X9 hown hK hP k52 hk52 rfl 8 (by decide) (hts (.fieldLink RX9 44 "Hobhouse" "matching" "LHobhouse$Matching;") (by decide +kernel)) (fun _ h9 => h9) rfl dX9_match_91 ?_
      refine lv_aload_n hx hb dX9_match_94 rfl (lv_at hl 1 rfl) ?_
      have F53 := ((hW.at h_o1 List.not_mem_nil).to_9 h_o1.2.1).F7
      obtain ⟨k54, gk54, hk54⟩ := wGt (cy := cy) X S49 ((xe15.tr et51).A h_o1).1 ((xe15.tr et51).A h_o1).2.1
      simp only [kE, ((xe15.tr et51).F h_o1 (by decide) F53.1)] at hk54
      refine va_get (D := D) (ci := 13) (v := .ref (S.f o1 7)) (C := RX9) (T := TX9) (N := 11) hx hb hts hi_X9_match_X9 hown hK hP k54 hk54 rfl 7 (by decide) (hts (.fieldLink RX9 37 "Hobhouse" "rolling" "LHobhouse$Rolling;") (by decide +kernel)) (fun _ h9 => h9) rfl dX9_match_95 ?_
      have hFc := free_all hD hS hA
      obtain ⟨k55, gk55, hk55⟩ := wGt (cy := cy) X S49 ((xe15.tr et51).A F8.2).1 ((xe15.tr et51).A F8.2).2.1
      refine va_callv (va_runV (As := [.ref (S.f o1 7)]) (rest := []) ⟨hx, hb, hml, hown, hts⟩ (c_X4_rollAll l (cy := cy) (X := X) (D := D) S49 _ (S.f o1 8) ((xe15.tr et51).A F8.2) (S.f o1 7) ((xe15.tr et51).A F53.2) (t51.w)) (cwV 1 hts gX9_match_X4_rollAll rfl rfl rfl hd_X4_rollAll ⟨Nat.le_of_ble_eq_true rfl, Nat.le_of_ble_eq_true rfl⟩) (pV (va_recv hK hP (q := (RX4, TX4, 9)) (ci := 8) (q0 := k55) rfl hk55) hP hK hD hN) rfl rfl hl.1 rfl (lv_room (Nat.le_of_ble_eq_true rfl)) dX9_match_98 ⟨Nat.le_of_ble_eq_true rfl, Nat.le_of_ble_eq_true rfl⟩) hS (fun q _ h => hFc q h) hFc (fun u t H1 locs ht hvm hw hB hz1 hk1 hS => ?_)
      have w57 := hw
      obtain ⟨hP, hD⟩ := wd_post hFc ht hB
      generalize H1 = H at hP hS ⊢
      obtain ⟨S58, rfl⟩ : ∃ z, z = u := ⟨_, rfl⟩
      have t59 : stp [(2, 19), (4, 6), (4, 7), (4, 8), (6, 4), (17, 100), (18, 100), (24, 101)] [] [] S S58 := t51.tr w57 (by decide) (fun _ q => absurd q List.not_mem_nil)
      have xe60 : ext S49 S58 := w57.x
      refine lv_aload_n hx hb dX9_match_101 rfl (lv_at hl 1 rfl) ?_
      obtain ⟨k61, gk61, hk61⟩ := wGt (cy := cy) X S58 (xe60.A ((xe15.tr et51).A h_o1)).1 (xe60.A ((xe15.tr et51).A h_o1)).2.1
      simp only [kE, ((xe15.tr (et51.tr xe60)).F h_o1 (by decide) F8.1)] at hk61
      refine va_get (D := D) (ci := 13) (v := .ref (S.f o1 8)) (C := RX9) (T := TX9) (N := 11) hx hb hts hi_X9_match_X9 hown hK hP k61 hk61 rfl 8 (by decide) (hts (.fieldLink RX9 44 "Hobhouse" "matching" "LHobhouse$Matching;") (by decide +kernel)) (fun _ h9 => h9) rfl dX9_match_102 ?_
      refine lv_iload_n hx hb dX9_match_105 rfl (lv_at hl 4 rfl) ?_
      have hFc := free_all hD hS hA
      obtain ⟨k62, gk62, hk62⟩ := wGt (cy := cy) X S58 (xe60.A ((xe15.tr et51).A F8.2)).1 (xe60.A ((xe15.tr et51).A F8.2)).2.1
      refine va_calli (va_runV (As := [.int x3]) (rest := []) ⟨hx, hb, hml, hown, hts⟩ (c_X4_search l (cy := cy) (X := X) (D := D) S58 _ (S.f o1 8) (xe60.A ((xe15.tr et51).A F8.2)) x3 (t59.w)) (cwV 1 hts gX9_match_X4_search rfl rfl rfl hd_X4_search ⟨Nat.le_of_ble_eq_true rfl, Nat.le_of_ble_eq_true rfl⟩) (pV (va_recv hK hP (q := (RX4, TX4, 9)) (ci := 8) (q0 := k62) rfl hk62) hP hK hD hN) rfl rfl hl.1 rfl (lv_room (Nat.le_of_ble_eq_true rfl)) dX9_match_106 ⟨Nat.le_of_ble_eq_true rfl, Nat.le_of_ble_eq_true rfl⟩) hS (fun q _ h => hFc q h) hFc (fun r63 u t H1 locs ht hvm hw hB hz1 hk1 hS => ?_)
      have w64 := hw
      obtain ⟨hP, hD⟩ := wd_post hFc ht hB
      generalize H1 = H at hP hS ⊢
      obtain ⟨S65, rfl⟩ : ∃ z, z = u := ⟨_, rfl⟩
      have t66 : stp [(2, 19), (4, 6), (4, 7), (4, 8), (6, 4), (17, 100), (18, 100), (24, 101)] [] [] S S65 := t59.tr w64 (by decide) (fun _ q => absurd q List.not_mem_nil)
      have xe67 : ext S58 S65 := w64.x
      refine lv_if_ne (tgt := 123) hx hb dX9_match_109 (by decide) (fun c68 => ?_) (fun c68 => ?_)
      · have c68i : ¬ r63.toInt = 0 := neq_v rfl rfl c68
        refine lv_aload_n hx hb dX9_match_123 rfl (lv_at hl 1 rfl) ?_
        obtain ⟨k69, gk69, hk69⟩ := wGt (cy := cy) X S65 (xe67.A (xe60.A ((xe15.tr et51).A h_o1))).1 (xe67.A (xe60.A ((xe15.tr et51).A h_o1))).2.1
        simp only [kE, ((xe15.tr (et51.tr (xe60.tr xe67))).F h_o1 (by decide) F8.1)] at hk69
        refine va_get (D := D) (ci := 13) (v := .ref (S.f o1 8)) (C := RX9) (T := TX9) (N := 11) hx hb hts hi_X9_match_X9 hown hK hP k69 hk69 rfl 8 (by decide) (hts (.fieldLink RX9 44 "Hobhouse" "matching" "LHobhouse$Matching;") (by decide +kernel)) (fun _ h9 => h9) rfl dX9_match_124 ?_
        have hFc := free_all hD hS hA
        obtain ⟨k70, gk70, hk70⟩ := wGt (cy := cy) X S65 (xe67.A (xe60.A ((xe15.tr et51).A F8.2))).1 (xe67.A (xe60.A ((xe15.tr et51).A F8.2))).2.1
        refine va_callv (va_runV (As := []) (rest := []) ⟨hx, hb, hml, hown, hts⟩ (c_X4_bind l (cy := cy) (X := X) (D := D) S65 _ (S.f o1 8) (xe67.A (xe60.A ((xe15.tr et51).A F8.2))) (t66.w)) (cwV 0 hts gX9_match_X4_bind rfl rfl rfl hd_X4_bind ⟨Nat.le_of_ble_eq_true rfl, Nat.le_of_ble_eq_true rfl⟩) (pV (va_recv hK hP (q := (RX4, TX4, 9)) (ci := 8) (q0 := k70) rfl hk70) hP hK hD hN) rfl rfl hl.1 rfl (lv_room (Nat.le_of_ble_eq_true rfl)) dX9_match_127 ⟨Nat.le_of_ble_eq_true rfl, Nat.le_of_ble_eq_true rfl⟩) hS (fun q _ h => hFc q h) hFc (fun u t H1 locs ht hvm hw hB hz1 hk1 hS => ?_)
        have w72 := hw
        obtain ⟨hP, hD⟩ := wd_post hFc ht hB
        generalize H1 = H at hP hS ⊢
        obtain ⟨S73, rfl⟩ : ∃ z, z = u := ⟨_, rfl⟩
        have t74 : stp [(2, 19), (4, 6), (4, 7), (4, 8), (6, 4), (17, 100), (18, 100), (24, 101)] [] [] S S73 := t66.tr w72 (by decide) (fun _ q => absurd q List.not_mem_nil)
        have xe75 : ext S65 S73 := w72.x
        refine lv_aload_n hx hb dX9_match_130 rfl (lv_at hl 1 rfl) ?_
        obtain ⟨k76, gk76, hk76⟩ := wGt (cy := cy) X S73 (xe75.A (xe67.A (xe60.A ((xe15.tr et51).A h_o1)))).1 (xe75.A (xe67.A (xe60.A ((xe15.tr et51).A h_o1)))).2.1
        simp only [kE, ((xe15.tr (et51.tr (xe60.tr (xe67.tr xe75)))).F h_o1 (by decide) F8.1)] at hk76
        refine va_get (D := D) (ci := 13) (v := .ref (S.f o1 8)) (C := RX9) (T := TX9) (N := 11) hx hb hts hi_X9_match_X9 hown hK hP k76 hk76 rfl 8 (by decide) (hts (.fieldLink RX9 44 "Hobhouse" "matching" "LHobhouse$Matching;") (by decide +kernel)) (fun _ h9 => h9) rfl dX9_match_131 ?_
        obtain ⟨k77, gk77, hk77⟩ := wGt (cy := cy) X S73 (xe75.A (xe67.A (xe60.A ((xe15.tr et51).A F8.2)))).1 (xe75.A (xe67.A (xe60.A ((xe15.tr et51).A F8.2)))).2.1
        refine va_getN (D := D) (ci := 8) (v := .int (S73.I (S.f o1 8) 8)) (C := RX4) (T := TX4) (N := 9) hx hb hts hi_X9_match_X4 hown hK hP k77 hk77 rfl 8 (by decide) (va_Nw.use rfl (hN (.fieldLinkNest RX9 414 "Hobhouse$Matching" "leastSum" "I" "Hobhouse") (by decide +kernel))) (fun _ h9 => h9) rfl dX9_match_134 ?_
        refine vx_ret ?_
        refine W.widen (k := 2) (n := 12) (Nat.le_of_ble_eq_true rfl) (Nat.le_of_ble_eq_true rfl) ?_
        exact W.iret (v := S73.I (S.f o1 8) 8) hx hb hr (fun t ht hW9 => ⟨⟨S73.I (S.f o1 8) 8, S73, rfl, t74, wd_end hP hK hD ht hW9.alike⟩, hS.F ht⟩) hS.2.2 dX9_match_137 hlocks
      · have c68i : r63.toInt = 0 := eq_v rfl rfl c68
        obtain ⟨sa, hsa⟩ := hTH.2.2 (RX9, 409, "there are not so many pairs") (by decide +kernel)
        exact vx_throwIW hx hb hst hown (by decide +kernel) (by decide +kernel) (hts (.classLink RX9 150 "java/util/NoSuchElementException") (by decide +kernel)) (hts (.initialized "java/util/NoSuchElementException") (by decide +kernel)) hsa (th_at (B := exW_X9_NSEE) (fun w h => hts w (s_X9_match_NSEE w h)) rfl (by simp only [exW, List.mem_append]; intro w h; simp [h]) hTH.2.1) (List.forall_mem_cons.mpr ⟨by decide +kernel, List.forall_mem_cons.mpr ⟨by decide +kernel, exW_X9_NSEE_ok⟩⟩) hTH.1.1 hTH.1.2 hS (hl.1.trans hml.symm) dX9_match_112 dX9_match_115 dX9_match_116 dX9_match_119 dX9_match_122 (fun x h => (hno x h).elim) (Nat.le_of_ble_eq_true rfl) (Nat.le_of_ble_eq_true rfl) (Nat.le_of_ble_eq_true rfl) (Nat.le_of_ble_eq_true rfl) hlocks (fun t hA2 h1 h2 => ⟨S65, t66, ⟨(by decide), wd_exc hP hK hD hA2 h2⟩, exc_F hS h1 h2⟩) hS.2.2 (Nat.le_of_ble_eq_true rfl) (Nat.le_of_ble_eq_true rfl)
  · have c1i : x1.toInt = x2.toInt := eq_v rfl rfl c1
    obtain ⟨sa, hsa⟩ := hTH.2.2 (RX9, 391, "the teeth are the same") (by decide +kernel)
    exact vx_throwSW hx hb hst (names := ["java/lang/RuntimeException", "java/lang/Exception"]) hown (by decide +kernel) (by decide +kernel) (hts (.classLink RX9 110 "java/lang/IllegalArgumentException") (by decide +kernel)) (hts (.initialized "java/lang/IllegalArgumentException") (by decide +kernel)) hsa (th_at (B := exW_X9_IAE) (fun w h => hts w (s_X9_match_IAE w h)) rfl (by simp only [exW, List.mem_append]; intro w h; simp [h]) hTH.2.1) (List.forall_mem_cons.mpr ⟨by decide +kernel, List.forall_mem_cons.mpr ⟨by decide +kernel, exW_X9_IAE_ok⟩⟩) hTH.1.1 hTH.1.2 hS (hl.1.trans hml.symm) dX9_match_5 dX9_match_8 dX9_match_9 dX9_match_12 dX9_match_15 (fun x h => (hno x h).elim) (Nat.le_of_ble_eq_true rfl) (Nat.le_of_ble_eq_true rfl) (Nat.le_of_ble_eq_true rfl) (Nat.le_of_ble_eq_true rfl) hlocks (fun t hA2 h1 h2 => ⟨S, t0, ⟨(by decide), wd_exc hP hK hD hA2 h2⟩, exc_F hS h1 h2⟩) hS.2.2 (Nat.le_of_ble_eq_true rfl) (Nat.le_of_ble_eq_true rfl)
theorem hi_X9_rolledPeak_X1 : ∀ w ∈ u_ws RX1 TX1 3, w ∈ wsX9_rolledPeak := by decide +kernel
theorem hd_X9_rolledPeak : yX9_rolledPeak.cls = RX9 ∧ yX9_rolledPeak.cls ≠ "java/lang/invoke/MethodHandle" ∧ yX9_rolledPeak.cls ≠ "java/lang/invoke/VarHandle" ∧ (parseMethodDescriptor yX9_rolledPeak.desc).map (fun d => d.parameters.length) = some 3 := by decide +kernel
set_option maxHeartbeats 4000000 in
set_option maxRecDepth 100000 in
theorem c_X9_rolledPeak (l : Launch) {D : va_G} {cy : Nat → ClassId} {X : va_W} (S : wPS) (sz : Nat) (o1 : Nat) (h_o1 : isA S o1 1) (o2 : Nat) (h_o2 : isA S o2 1) (x1 : Int32) (hW : wtB S [])  : Met l yX9_rolledPeak wsX9_rolledPeak ({ frames := 3, cells := 0, slots := 0, locals := 59 }) (va_Pc [.ref o1, .ref o2, .int x1] (fun U => U.heap.size = sz ∧ WD D cy X (fun _ => True) S U ∧ NW U)) (va_Qi (fun r (_ : Unit) => True) (fun _ t => WD D cy X (va_A (X ++ PL cy S) sz) S t) (va_A (X ++ PL cy S) sz)) 0 0 (va_A (X ++ PL cy S) sz) := by
  refine Met.ofW (cc := cX9_rolledPeak) (maxL := 12) (ret := (some .int)) (by decide) rfl ?_
  intro p e s m args below meth c s₁ B hml hv
  obtain ⟨rfl, hsz, ⟨hP, hK, hD0⟩, hN⟩ := hv
  have hx := B.exec
  have hb := B.bytes
  have hr := B.returns
  have hts := atoms_spec (ws := wsX9_rolledPeak) B.pre
  have hown : s.vm.findClass RX9 = some m.cls := findClass_of_methodNamed (x := yX9_rolledPeak) B.named
  have hlocks := B.notSynchronized
  subst hsz
  have hD := hD0.self (sz := s.heap.size)
  generalize hAe : va_A (X ++ PL cy S) s.heap.size = A at hD ⊢
  have hA : ∀ q : Nat, s.heap.size ≤ q → A q := fun q h => by rw [← hAe]; exact Or.inr h
  have hS : va_S A s.heap s.heap [] := va_S.rf
  have hl := lv_entry ([.ref o1, .ref o2, .int x1]) (n := 12) (Nat.le_of_ble_eq_true rfl)
  rw [lg_entry_eq]
  generalize (lg_sl ([.ref o1, .ref o2, .int x1]) ++ List.replicate (12 - (lg_sl ([.ref o1, .ref o2, .int x1])).length) Slot.unset).toArray = ls at hl ⊢
  have hl : lv_has ls 12 [(0, .ref o1), (1, .ref o2), (2, .int x1)] := hl
  refine lv_aload_n hx hb dX9_rolledPeak_0 rfl (lv_at hl 0 rfl) ?_
  have F1 := ((hW.at h_o1 List.not_mem_nil).to_1 h_o1.2.1).F1
  obtain ⟨k2, gk2, hk2⟩ := wGt (cy := cy) X S h_o1.1 h_o1.2.1
  simp only [kE, F1.1] at hk2
  refine va_get (D := D) (ci := 5) (v := .ref (S.f o1 1)) (C := RX1) (T := TX1) (N := 3) hx hb hts hi_X9_rolledPeak_X1 hown hK hP k2 hk2 rfl 1 (by decide) (hts (.fieldLink RX9 517 "Hobhouse$Chart" "stands" "[I") (by decide +kernel)) (fun _ h9 => h9) rfl dX9_rolledPeak_1 ?_
  refine lv_astore_n (lv' := [(3, .ref (S.f o1 1)), (0, .ref o1), (1, .ref o2), (2, .int x1)]) hx hb dX9_rolledPeak_4 rfl hl (by decide) rfl (fun ls hl => ?_)
  refine lv_aload_n hx hb dX9_rolledPeak_5 rfl (lv_at hl 2 rfl) ?_
  have F3 := ((hW.at h_o2 List.not_mem_nil).to_1 h_o2.2.1).F1
  obtain ⟨k4, gk4, hk4⟩ := wGt (cy := cy) X S h_o2.1 h_o2.2.1
  simp only [kE, F3.1] at hk4
  refine va_get (D := D) (ci := 5) (v := .ref (S.f o2 1)) (C := RX1) (T := TX1) (N := 3) hx hb hts hi_X9_rolledPeak_X1 hown hK hP k4 hk4 rfl 1 (by decide) (hts (.fieldLink RX9 517 "Hobhouse$Chart" "stands" "[I") (by decide +kernel)) (fun _ h9 => h9) rfl dX9_rolledPeak_6 ?_
  refine lv_astore (lv' := [(4, .ref (S.f o2 1)), (3, .ref (S.f o1 1)), (0, .ref o1), (1, .ref o2), (2, .int x1)]) hx hb dX9_rolledPeak_9 hl (by decide) rfl (fun ls hl => ?_)
  refine lv_ldcw (own := RX9) (v := -2147483647) hx hb hown (hts (.constant RX9 520 (-2147483647)) (by decide +kernel)) dX9_rolledPeak_11 ?_
  refine lv_istore (lv' := [(5, .int (-2147483647 : Int32)), (4, .ref (S.f o2 1)), (3, .ref (S.f o1 1)), (0, .ref o1), (1, .ref o2), (2, .int x1)]) hx hb dX9_rolledPeak_14 hl (by decide) rfl (fun ls hl => ?_)
  refine lv_ldcw (own := RX9) (v := 2147483647) hx hb hown (hts (.constant RX9 304 (2147483647)) (by decide +kernel)) dX9_rolledPeak_16 ?_
  refine lv_istore (lv' := [(6, .int (2147483647 : Int32)), (5, .int (-2147483647 : Int32)), (4, .ref (S.f o2 1)), (3, .ref (S.f o1 1)), (0, .ref o1), (1, .ref o2), (2, .int x1)]) hx hb dX9_rolledPeak_19 hl (by decide) rfl (fun ls hl => ?_)
  refine lv_aload_n hx hb dX9_rolledPeak_21 rfl (lv_at hl 3 rfl) ?_
  obtain ⟨k5, gk5, hk5⟩ := wGt (cy := cy) X S F1.2.1.1 F1.2.1.2.1
  have i6 : (nI (S.n (S.f o1 1))).toInt = ((S.n (S.f o1 1) : Nat) : Int) := nI_toInt F1.2.1.2.2
  have i7 := F1.2.1.2.2
  have i8 := F1.2.2
  refine va_alen (D := D) (cl := vwCl) (tys := tyL cy) hx hb hK hP k5 2 hk5 rfl (v := nI (S.n (S.f o1 1))) rfl dX9_rolledPeak_22 ?_
  refine lv_aload hx hb dX9_rolledPeak_23 (lv_at hl 2 rfl) ?_
  obtain ⟨k9, gk9, hk9⟩ := wGt (cy := cy) X S F3.2.1.1 F3.2.1.2.1
  have i10 : (nI (S.n (S.f o2 1))).toInt = ((S.n (S.f o2 1) : Nat) : Int) := nI_toInt F3.2.1.2.2
  have i11 := F3.2.1.2.2
  have i12 := F3.2.2
  refine va_alen (D := D) (cl := vwCl) (tys := tyL cy) hx hb hK hP k9 2 hk9 rfl (v := nI (S.n (S.f o2 1))) rfl dX9_rolledPeak_25 ?_
  have hFc := free_all hD hS hA
  refine va_calli (va_runS (As := [.int (nI (S.n (S.f o1 1))), .int (nI (S.n (S.f o2 1)))]) (rest := []) ⟨hx, hb, hml, hown, hts⟩ (c_X9_commonMultiple l (cy := cy) (X := X) (D := D) S _ (nI (S.n (S.f o1 1))) (nI (S.n (S.f o2 1)))) (cwS 2 hts gX9_rolledPeak_X9_commonMultiple rfl rfl rfl hd_X9_commonMultiple ⟨Nat.le_of_ble_eq_true rfl, Nat.le_of_ble_eq_true rfl⟩) (pS hP hK hD hN) rfl rfl hl.1 rfl (lv_room (Nat.le_of_ble_eq_true rfl)) dX9_rolledPeak_26 ⟨(Nat.zero_le _), (Nat.zero_le _)⟩) hS (fun q _ h => hFc q h) hFc (fun r13 u t H1 locs ht hvm hw hB hz1 hk1 hS => ?_)
  have c14 := hw
  obtain ⟨hP, hD⟩ := wd_post hFc ht hB
  generalize H1 = H at hP hS ⊢
  obtain rfl : f_X9_commonMultiple (nI (S.n (S.f o1 1))) (nI (S.n (S.f o2 1))) = r13 := c14.symm
  refine lv_istore (lv' := [(7, .int (f_X9_commonMultiple (nI (S.n (S.f o1 1))) (nI (S.n (S.f o2 1))))), (6, .int (2147483647 : Int32)), (5, .int (-2147483647 : Int32)), (4, .ref (S.f o2 1)), (3, .ref (S.f o1 1)), (0, .ref o1), (1, .ref o2), (2, .int x1)]) hx hb dX9_rolledPeak_29 hl (by decide) rfl (fun ls hl => ?_)
  have hn8 : S.n (S.f o1 1) ≤ 200 := by rw [((hW.at h_o1 List.not_mem_nil).to_1 h_o1.2.1).F1.2.2]; exact ((hW.at h_o1 List.not_mem_nil).to_1 h_o1.2.1).F0.2.2
  refine lv_iconst (v := 0) hx hb dX9_rolledPeak_31 (by decide) ?_
  refine lv_istore (lv' := [(8, .int (0 : Int32)), (7, .int (f_X9_commonMultiple (nI (S.n (S.f o1 1))) (nI (S.n (S.f o2 1))))), (6, .int (2147483647 : Int32)), (5, .int (-2147483647 : Int32)), (4, .ref (S.f o2 1)), (3, .ref (S.f o1 1)), (0, .ref o1), (1, .ref o2), (2, .int x1)]) hx hb dX9_rolledPeak_32 hl (by decide) rfl (fun ls hl => ?_)
  refine lv_iload_n hx hb dX9_rolledPeak_34 rfl (lv_at hl 8 rfl) ?_
  refine lv_istore (lv' := [(9, .int x1), (8, .int (0 : Int32)), (7, .int (f_X9_commonMultiple (nI (S.n (S.f o1 1))) (nI (S.n (S.f o2 1))))), (6, .int (2147483647 : Int32)), (5, .int (-2147483647 : Int32)), (4, .ref (S.f o2 1)), (3, .ref (S.f o1 1)), (0, .ref o1), (1, .ref o2), (2, .int x1)]) hx hb dX9_rolledPeak_35 hl (by decide) rfl (fun ls hl => ?_)
  refine lv_iconst (v := 0) hx hb dX9_rolledPeak_37 (by decide) ?_
  refine lv_istore (lv' := [(10, .int (0 : Int32)), (9, .int x1), (8, .int (0 : Int32)), (7, .int (f_X9_commonMultiple (nI (S.n (S.f o1 1))) (nI (S.n (S.f o2 1))))), (6, .int (2147483647 : Int32)), (5, .int (-2147483647 : Int32)), (4, .ref (S.f o2 1)), (3, .ref (S.f o1 1)), (0, .ref o1), (1, .ref o2), (2, .int x1)]) hx hb dX9_rolledPeak_38 hl (by decide) rfl (fun ls hl => ?_)
  have l32_0 : (0 : Int32).toInt = 0 := rfl
  have loop40 : ∀ (n : Nat) (w40_5 : Int32) (w40_6 : Int32) (w40_8 : Int32) (w40_9 : Int32) (w40_10 : Int32) (H : Heap) (locs : List Loc) (ls : Array Slot), ((f_X9_commonMultiple (nI (S.n (S.f o1 1))) (nI (S.n (S.f o2 1)))).toInt - w40_10.toInt).toNat < n → 0 ≤ w40_10.toInt ∧ 0 ≤ w40_8.toInt ∧ w40_8.toInt ≤ 1000 → va_P D vwCl (X ++ PL cy S) H → va_S A s.heap H locs → lv_has ls 12 [(10, .int w40_10), (9, .int w40_9), (8, .int w40_8), (7, .int (f_X9_commonMultiple (nI (S.n (S.f o1 1))) (nI (S.n (S.f o2 1))))), (6, .int w40_6), (5, .int w40_5), (4, .ref (S.f o2 1)), (3, .ref (S.f o1 1)), (0, .ref o1), (1, .ref o2), (2, .int x1)] → (∀ (w40_5x : Int32) (w40_6x : Int32) (w40_8x : Int32) (w40_9x : Int32) (w40_10x : Int32) (H : Heap) (locs : List Loc) (ls : Array Slot), 0 ≤ w40_10x.toInt ∧ 0 ≤ w40_8x.toInt ∧ w40_8x.toInt ≤ 1000 → va_P D vwCl (X ++ PL cy S) H → va_S A s.heap H locs → lv_has ls 12 [(10, .int w40_10x), (9, .int w40_9x), (8, .int w40_8x), (7, .int (f_X9_commonMultiple (nI (S.n (S.f o1 1))) (nI (S.n (S.f o2 1))))), (6, .int w40_6x), (5, .int w40_5x), (4, .ref (S.f o2 1)), (3, .ref (S.f o1 1)), (0, .ref o1), (1, .ref o2), (2, .int x1)] → W p l e (headSpec wsX9_rolledPeak ({ frames := 3, cells := 0, slots := 0, locals := 59 } : Room)).room s m [.ref o1, .ref o2, .int x1].toArray below meth c H locs 0 0 (MQ below (va_Qi (fun r (_ : Unit) => True) (fun _ t => WD D cy X A S t) A) [.ref o1, .ref o2, .int x1].toArray s 0 0 A) (F0 m 142 ls [])) → W p l e (headSpec wsX9_rolledPeak ({ frames := 3, cells := 0, slots := 0, locals := 59 } : Room)).room s m [.ref o1, .ref o2, .int x1].toArray below meth c H locs 0 0 (MQ below (va_Qi (fun r (_ : Unit) => True) (fun _ t => WD D cy X A S t) A) [.ref o1, .ref o2, .int x1].toArray s 0 0 A) (F0 m 40 ls []) := by
    intro n40
    induction n40 with
    | zero => intro w40_5 w40_6 w40_8 w40_9 w40_10 H locs ls hm; exact absurd hm (Nat.not_lt_zero _)
    | succ n40 ih40 =>
      intro w40_5 w40_6 w40_8 w40_9 w40_10 H locs ls hm40 hi40 hP hS hl ko40
      have hr9 := t_rng (f_X9_commonMultiple (nI (S.n (S.f o1 1))) (nI (S.n (S.f o2 1))))
      refine lv_iload hx hb dX9_rolledPeak_40 (lv_at hl 0 rfl) ?_
      refine lv_iload hx hb dX9_rolledPeak_42 (lv_at hl 3 rfl) ?_
      refine lv_icmp_ge (tgt := 142) hx hb dX9_rolledPeak_44 (by decide) (fun c15 => ?_) (fun c15 => ?_)
      · have c15i : (f_X9_commonMultiple (nI (S.n (S.f o1 1))) (nI (S.n (S.f o2 1)))).toInt ≤ w40_10.toInt := le_v rfl rfl c15
        exact ko40 w40_5 w40_6 w40_8 w40_9 w40_10 _ _ _ (by omega) hP hS (lv_sub hl [0, 1, 2, 3, 4, 5, 6, 7, 8, 9, 10] rfl)
      · have c15i : w40_10.toInt < (f_X9_commonMultiple (nI (S.n (S.f o1 1))) (nI (S.n (S.f o2 1)))).toInt := nle_v rfl rfl c15
        refine lv_iload hx hb dX9_rolledPeak_47 (lv_at hl 2 rfl) ?_
        refine lv_aload_n hx hb dX9_rolledPeak_49 rfl (lv_at hl 7 rfl) ?_
        obtain ⟨k16, gk16, hk16⟩ := wGt (cy := cy) X S F1.2.1.1 F1.2.1.2.1
        refine va_alen (D := D) (cl := vwCl) (tys := tyL cy) hx hb hK hP k16 2 hk16 rfl (v := nI (S.n (S.f o1 1))) rfl dX9_rolledPeak_50 ?_
        refine lv_icmp_ge (tgt := 142) hx hb dX9_rolledPeak_51 (by decide) (fun c17 => ?_) (fun c17 => ?_)
        · have c17i : (nI (S.n (S.f o1 1))).toInt ≤ w40_8.toInt := le_v rfl rfl c17
          exact ko40 w40_5 w40_6 w40_8 w40_9 w40_10 _ _ _ (by omega) hP hS (lv_sub hl [0, 1, 2, 3, 4, 5, 6, 7, 8, 9, 10] rfl)
        · have c17i : w40_8.toInt < (nI (S.n (S.f o1 1))).toInt := nle_v rfl rfl c17
          refine lv_iload hx hb dX9_rolledPeak_54 (lv_at hl 1 rfl) ?_
          refine lv_if_lt (tgt := 142) hx hb dX9_rolledPeak_56 (by decide) (fun c18 => ?_) (fun c18 => ?_)
          · have c18i : w40_9.toInt < 0 := lt_v rfl rfl c18
            exact ko40 w40_5 w40_6 w40_8 w40_9 w40_10 _ _ _ (by omega) hP hS (lv_sub hl [0, 1, 2, 3, 4, 5, 6, 7, 8, 9, 10] rfl)
          · have c18i : 0 ≤ w40_9.toInt := nlt_v rfl rfl c18
            refine lv_iload hx hb dX9_rolledPeak_59 (lv_at hl 1 rfl) ?_
            refine lv_aload hx hb dX9_rolledPeak_61 (lv_at hl 6 rfl) ?_
            obtain ⟨k19, gk19, hk19⟩ := wGt (cy := cy) X S F3.2.1.1 F3.2.1.2.1
            refine va_alen (D := D) (cl := vwCl) (tys := tyL cy) hx hb hK hP k19 2 hk19 rfl (v := nI (S.n (S.f o2 1))) rfl dX9_rolledPeak_63 ?_
            refine lv_icmp_ge (tgt := 142) hx hb dX9_rolledPeak_64 (by decide) (fun c20 => ?_) (fun c20 => ?_)
            · have c20i : (nI (S.n (S.f o2 1))).toInt ≤ w40_9.toInt := le_v rfl rfl c20
              exact ko40 w40_5 w40_6 w40_8 w40_9 w40_10 _ _ _ (by omega) hP hS (lv_sub hl [0, 1, 2, 3, 4, 5, 6, 7, 8, 9, 10] rfl)
            · have c20i : w40_9.toInt < (nI (S.n (S.f o2 1))).toInt := nle_v rfl rfl c20
              refine lv_aload_n hx hb dX9_rolledPeak_67 rfl (lv_at hl 7 rfl) ?_
              refine lv_iload hx hb dX9_rolledPeak_68 (lv_at hl 2 rfl) ?_
              have i21 := F1.2.2
              obtain ⟨k22, gk22, hk22⟩ := wGt (cy := cy) X S F1.2.1.1 F1.2.1.2.1
              refine va_iald hx hb hK hP k22 2 hk22 rfl (inb (m := S.n (S.f o1 1)) rfl (by omega) (by omega)) dX9_rolledPeak_70 ?_
              refine lv_aload hx hb dX9_rolledPeak_71 (lv_at hl 6 rfl) ?_
              refine lv_iload hx hb dX9_rolledPeak_73 (lv_at hl 1 rfl) ?_
              have i23 := F3.2.2
              obtain ⟨k24, gk24, hk24⟩ := wGt (cy := cy) X S F3.2.1.1 F3.2.1.2.1
              refine va_iald hx hb hK hP k24 2 hk24 rfl (inb (m := S.n (S.f o2 1)) rfl (by omega) (by omega)) dX9_rolledPeak_75 ?_
              refine lv_iadd hx hb dX9_rolledPeak_76 ?_
              refine lv_istore (lv' := [(11, .int ((S.i (S.f o1 1) w40_8.toNatClampNeg) + (S.i (S.f o2 1) w40_9.toNatClampNeg))), (10, .int w40_10), (9, .int w40_9), (8, .int w40_8), (7, .int (f_X9_commonMultiple (nI (S.n (S.f o1 1))) (nI (S.n (S.f o2 1))))), (6, .int w40_6), (5, .int w40_5), (4, .ref (S.f o2 1)), (3, .ref (S.f o1 1)), (0, .ref o1), (1, .ref o2), (2, .int x1)]) hx hb dX9_rolledPeak_77 hl (by decide) rfl (fun ls hl => ?_)
              refine lv_iload hx hb dX9_rolledPeak_79 (lv_at hl 6 rfl) ?_
              refine lv_iload hx hb dX9_rolledPeak_81 (lv_at hl 0 rfl) ?_
              refine va_mmax hx hb (hml.trans hl.1.symm) hown (hts (.methodLink RX9 362 Lib.Math.max.name) (by decide +kernel)) (hts (.static Lib.Math.max.name) (by decide +kernel)) (hts (.initialized "java/lang/Math") (by decide +kernel)) (hts (.code Lib.Math.max.name Lib.Math.max.code 2 (some .int)) (by decide +kernel)) (Nat.le_of_ble_eq_true rfl) (Nat.le_of_ble_eq_true rfl) (Nat.zero_le _) (Nat.zero_le _) dX9_rolledPeak_83 ?_
              refine lv_istore (lv' := [(5, .int (if w40_5 < ((S.i (S.f o1 1) w40_8.toNatClampNeg) + (S.i (S.f o2 1) w40_9.toNatClampNeg)) then ((S.i (S.f o1 1) w40_8.toNatClampNeg) + (S.i (S.f o2 1) w40_9.toNatClampNeg)) else w40_5)), (11, .int ((S.i (S.f o1 1) w40_8.toNatClampNeg) + (S.i (S.f o2 1) w40_9.toNatClampNeg))), (10, .int w40_10), (9, .int w40_9), (8, .int w40_8), (7, .int (f_X9_commonMultiple (nI (S.n (S.f o1 1))) (nI (S.n (S.f o2 1))))), (6, .int w40_6), (4, .ref (S.f o2 1)), (3, .ref (S.f o1 1)), (0, .ref o1), (1, .ref o2), (2, .int x1)]) hx hb dX9_rolledPeak_86 hl (by decide) rfl (fun ls hl => ?_)
              refine lv_iload hx hb dX9_rolledPeak_88 (lv_at hl 6 rfl) ?_
              refine lv_iload hx hb dX9_rolledPeak_90 (lv_at hl 1 rfl) ?_
              refine va_mmin hx hb (hml.trans hl.1.symm) hown (hts (.methodLink RX9 181 Lib.Math.min.name) (by decide +kernel)) (hts (.static Lib.Math.min.name) (by decide +kernel)) (hts (.initialized "java/lang/Math") (by decide +kernel)) (hts (.code Lib.Math.min.name Lib.Math.min.code 2 (some .int)) (by decide +kernel)) (Nat.le_of_ble_eq_true rfl) (Nat.le_of_ble_eq_true rfl) (Nat.zero_le _) (Nat.zero_le _) dX9_rolledPeak_92 ?_
              refine lv_istore (lv' := [(6, .int (if ((S.i (S.f o1 1) w40_8.toNatClampNeg) + (S.i (S.f o2 1) w40_9.toNatClampNeg)) < w40_6 then ((S.i (S.f o1 1) w40_8.toNatClampNeg) + (S.i (S.f o2 1) w40_9.toNatClampNeg)) else w40_6)), (5, .int (if w40_5 < ((S.i (S.f o1 1) w40_8.toNatClampNeg) + (S.i (S.f o2 1) w40_9.toNatClampNeg)) then ((S.i (S.f o1 1) w40_8.toNatClampNeg) + (S.i (S.f o2 1) w40_9.toNatClampNeg)) else w40_5)), (11, .int ((S.i (S.f o1 1) w40_8.toNatClampNeg) + (S.i (S.f o2 1) w40_9.toNatClampNeg))), (10, .int w40_10), (9, .int w40_9), (8, .int w40_8), (7, .int (f_X9_commonMultiple (nI (S.n (S.f o1 1))) (nI (S.n (S.f o2 1))))), (4, .ref (S.f o2 1)), (3, .ref (S.f o1 1)), (0, .ref o1), (1, .ref o2), (2, .int x1)]) hx hb dX9_rolledPeak_95 hl (by decide) rfl (fun ls hl => ?_)
              refine lv_iload hx hb dX9_rolledPeak_97 (lv_at hl 5 rfl) ?_
              refine lv_iconst (v := 1) hx hb dX9_rolledPeak_99 (by decide) ?_
              refine lv_iadd hx hb dX9_rolledPeak_100 ?_
              refine lv_aload_n hx hb dX9_rolledPeak_101 rfl (lv_at hl 8 rfl) ?_
              obtain ⟨k25, gk25, hk25⟩ := wGt (cy := cy) X S F1.2.1.1 F1.2.1.2.1
              refine va_alen (D := D) (cl := vwCl) (tys := tyL cy) hx hb hK hP k25 2 hk25 rfl (v := nI (S.n (S.f o1 1))) rfl dX9_rolledPeak_102 ?_
              have l32_1 : (1 : Int32).toInt = 1 := rfl
              have i26 : (w40_8 + (1 : Int32)).toInt = w40_8.toInt + 1 := t_addr (n := 1) rfl (by omega)
              refine lv_icmp_ge (tgt := 113) hx hb dX9_rolledPeak_103 (by decide) (fun c27 => ?_) (fun c27 => ?_)
              · have c27i : (nI (S.n (S.f o1 1))).toInt ≤ (w40_8 + (1 : Int32)).toInt := le_v rfl rfl c27
                refine lv_iconst (v := 0) hx hb dX9_rolledPeak_113 (by decide) ?_
                refine lv_istore (lv' := [(8, .int (0 : Int32)), (6, .int (if ((S.i (S.f o1 1) w40_8.toNatClampNeg) + (S.i (S.f o2 1) w40_9.toNatClampNeg)) < w40_6 then ((S.i (S.f o1 1) w40_8.toNatClampNeg) + (S.i (S.f o2 1) w40_9.toNatClampNeg)) else w40_6)), (5, .int (if w40_5 < ((S.i (S.f o1 1) w40_8.toNatClampNeg) + (S.i (S.f o2 1) w40_9.toNatClampNeg)) then ((S.i (S.f o1 1) w40_8.toNatClampNeg) + (S.i (S.f o2 1) w40_9.toNatClampNeg)) else w40_5)), (11, .int ((S.i (S.f o1 1) w40_8.toNatClampNeg) + (S.i (S.f o2 1) w40_9.toNatClampNeg))), (10, .int w40_10), (9, .int w40_9), (7, .int (f_X9_commonMultiple (nI (S.n (S.f o1 1))) (nI (S.n (S.f o2 1))))), (4, .ref (S.f o2 1)), (3, .ref (S.f o1 1)), (0, .ref o1), (1, .ref o2), (2, .int x1)]) hx hb dX9_rolledPeak_114 hl (by decide) rfl (fun ls hl => ?_)
                refine lv_iload hx hb dX9_rolledPeak_116 (lv_at hl 5 rfl) ?_
                refine lv_iconst (v := 1) hx hb dX9_rolledPeak_118 (by decide) ?_
                refine lv_iadd hx hb dX9_rolledPeak_119 ?_
                refine lv_aload hx hb dX9_rolledPeak_120 (lv_at hl 7 rfl) ?_
                obtain ⟨k28, gk28, hk28⟩ := wGt (cy := cy) X S F3.2.1.1 F3.2.1.2.1
                refine va_alen (D := D) (cl := vwCl) (tys := tyL cy) hx hb hK hP k28 2 hk28 rfl (v := nI (S.n (S.f o2 1))) rfl dX9_rolledPeak_122 ?_
                refine lv_icmp_ge (tgt := 133) hx hb dX9_rolledPeak_123 (by decide) (fun c29 => ?_) (fun c29 => ?_)
                · have c29i : (nI (S.n (S.f o2 1))).toInt ≤ (w40_9 + (1 : Int32)).toInt := le_v rfl rfl c29
                  refine lv_iconst (v := 0) hx hb dX9_rolledPeak_133 (by decide) ?_
                  refine lv_istore (lv' := [(9, .int (0 : Int32)), (8, .int (0 : Int32)), (6, .int (if ((S.i (S.f o1 1) w40_8.toNatClampNeg) + (S.i (S.f o2 1) w40_9.toNatClampNeg)) < w40_6 then ((S.i (S.f o1 1) w40_8.toNatClampNeg) + (S.i (S.f o2 1) w40_9.toNatClampNeg)) else w40_6)), (5, .int (if w40_5 < ((S.i (S.f o1 1) w40_8.toNatClampNeg) + (S.i (S.f o2 1) w40_9.toNatClampNeg)) then ((S.i (S.f o1 1) w40_8.toNatClampNeg) + (S.i (S.f o2 1) w40_9.toNatClampNeg)) else w40_5)), (11, .int ((S.i (S.f o1 1) w40_8.toNatClampNeg) + (S.i (S.f o2 1) w40_9.toNatClampNeg))), (10, .int w40_10), (7, .int (f_X9_commonMultiple (nI (S.n (S.f o1 1))) (nI (S.n (S.f o2 1))))), (4, .ref (S.f o2 1)), (3, .ref (S.f o1 1)), (0, .ref o1), (1, .ref o2), (2, .int x1)]) hx hb dX9_rolledPeak_134 hl (by decide) rfl (fun ls hl => ?_)
                  refine lv_iinc (v := w40_10 + (1 : Int32)) (lv' := [(10, .int (w40_10 + (1 : Int32))), (9, .int (0 : Int32)), (8, .int (0 : Int32)), (6, .int (if ((S.i (S.f o1 1) w40_8.toNatClampNeg) + (S.i (S.f o2 1) w40_9.toNatClampNeg)) < w40_6 then ((S.i (S.f o1 1) w40_8.toNatClampNeg) + (S.i (S.f o2 1) w40_9.toNatClampNeg)) else w40_6)), (5, .int (if w40_5 < ((S.i (S.f o1 1) w40_8.toNatClampNeg) + (S.i (S.f o2 1) w40_9.toNatClampNeg)) then ((S.i (S.f o1 1) w40_8.toNatClampNeg) + (S.i (S.f o2 1) w40_9.toNatClampNeg)) else w40_5)), (11, .int ((S.i (S.f o1 1) w40_8.toNatClampNeg) + (S.i (S.f o2 1) w40_9.toNatClampNeg))), (7, .int (f_X9_commonMultiple (nI (S.n (S.f o1 1))) (nI (S.n (S.f o2 1))))), (4, .ref (S.f o2 1)), (3, .ref (S.f o1 1)), (0, .ref o1), (1, .ref o2), (2, .int x1)]) hx hb dX9_rolledPeak_136 hl (k := 5) rfl (by rfl) (by decide) rfl (fun ls hl => ?_)
                  refine lv_goto (tgt := 40) hx hb dX9_rolledPeak_139 (by decide) ?_
                  have i30 : (w40_10 + (1 : Int32)).toInt = w40_10.toInt + 1 := t_addr (n := 1) rfl (by omega)
                  exact ih40 (if w40_5 < ((S.i (S.f o1 1) w40_8.toNatClampNeg) + (S.i (S.f o2 1) w40_9.toNatClampNeg)) then ((S.i (S.f o1 1) w40_8.toNatClampNeg) + (S.i (S.f o2 1) w40_9.toNatClampNeg)) else w40_5) (if ((S.i (S.f o1 1) w40_8.toNatClampNeg) + (S.i (S.f o2 1) w40_9.toNatClampNeg)) < w40_6 then ((S.i (S.f o1 1) w40_8.toNatClampNeg) + (S.i (S.f o2 1) w40_9.toNatClampNeg)) else w40_6) (0 : Int32) (0 : Int32) (w40_10 + (1 : Int32)) _ _ _ (Nat.lt_of_lt_of_le (by omega) (Nat.le_of_lt_succ hm40)) (by omega) hP hS (lv_sub hl [0, 1, 2, 6, 3, 4, 7, 8, 9, 10, 11] rfl) ko40
                · have c29i : (w40_9 + (1 : Int32)).toInt < (nI (S.n (S.f o2 1))).toInt := nle_v rfl rfl c29
                  refine lv_iload hx hb dX9_rolledPeak_126 (lv_at hl 5 rfl) ?_
                  refine lv_iconst (v := 1) hx hb dX9_rolledPeak_128 (by decide) ?_
                  refine lv_iadd hx hb dX9_rolledPeak_129 ?_
                  refine lv_goto (tgt := 134) hx hb dX9_rolledPeak_130 (by decide) ?_
                  refine lv_istore (lv' := [(9, .int (w40_9 + (1 : Int32))), (8, .int (0 : Int32)), (6, .int (if ((S.i (S.f o1 1) w40_8.toNatClampNeg) + (S.i (S.f o2 1) w40_9.toNatClampNeg)) < w40_6 then ((S.i (S.f o1 1) w40_8.toNatClampNeg) + (S.i (S.f o2 1) w40_9.toNatClampNeg)) else w40_6)), (5, .int (if w40_5 < ((S.i (S.f o1 1) w40_8.toNatClampNeg) + (S.i (S.f o2 1) w40_9.toNatClampNeg)) then ((S.i (S.f o1 1) w40_8.toNatClampNeg) + (S.i (S.f o2 1) w40_9.toNatClampNeg)) else w40_5)), (11, .int ((S.i (S.f o1 1) w40_8.toNatClampNeg) + (S.i (S.f o2 1) w40_9.toNatClampNeg))), (10, .int w40_10), (7, .int (f_X9_commonMultiple (nI (S.n (S.f o1 1))) (nI (S.n (S.f o2 1))))), (4, .ref (S.f o2 1)), (3, .ref (S.f o1 1)), (0, .ref o1), (1, .ref o2), (2, .int x1)]) hx hb dX9_rolledPeak_134 hl (by decide) rfl (fun ls hl => ?_)
                  refine lv_iinc (v := w40_10 + (1 : Int32)) (lv' := [(10, .int (w40_10 + (1 : Int32))), (9, .int (w40_9 + (1 : Int32))), (8, .int (0 : Int32)), (6, .int (if ((S.i (S.f o1 1) w40_8.toNatClampNeg) + (S.i (S.f o2 1) w40_9.toNatClampNeg)) < w40_6 then ((S.i (S.f o1 1) w40_8.toNatClampNeg) + (S.i (S.f o2 1) w40_9.toNatClampNeg)) else w40_6)), (5, .int (if w40_5 < ((S.i (S.f o1 1) w40_8.toNatClampNeg) + (S.i (S.f o2 1) w40_9.toNatClampNeg)) then ((S.i (S.f o1 1) w40_8.toNatClampNeg) + (S.i (S.f o2 1) w40_9.toNatClampNeg)) else w40_5)), (11, .int ((S.i (S.f o1 1) w40_8.toNatClampNeg) + (S.i (S.f o2 1) w40_9.toNatClampNeg))), (7, .int (f_X9_commonMultiple (nI (S.n (S.f o1 1))) (nI (S.n (S.f o2 1))))), (4, .ref (S.f o2 1)), (3, .ref (S.f o1 1)), (0, .ref o1), (1, .ref o2), (2, .int x1)]) hx hb dX9_rolledPeak_136 hl (k := 5) rfl (by rfl) (by decide) rfl (fun ls hl => ?_)
                  refine lv_goto (tgt := 40) hx hb dX9_rolledPeak_139 (by decide) ?_
                  have i31 : (w40_9 + (1 : Int32)).toInt = w40_9.toInt + 1 := t_addr (n := 1) rfl (by omega)
                  have i32 : (w40_10 + (1 : Int32)).toInt = w40_10.toInt + 1 := t_addr (n := 1) rfl (by omega)
                  exact ih40 (if w40_5 < ((S.i (S.f o1 1) w40_8.toNatClampNeg) + (S.i (S.f o2 1) w40_9.toNatClampNeg)) then ((S.i (S.f o1 1) w40_8.toNatClampNeg) + (S.i (S.f o2 1) w40_9.toNatClampNeg)) else w40_5) (if ((S.i (S.f o1 1) w40_8.toNatClampNeg) + (S.i (S.f o2 1) w40_9.toNatClampNeg)) < w40_6 then ((S.i (S.f o1 1) w40_8.toNatClampNeg) + (S.i (S.f o2 1) w40_9.toNatClampNeg)) else w40_6) (0 : Int32) (w40_9 + (1 : Int32)) (w40_10 + (1 : Int32)) _ _ _ (Nat.lt_of_lt_of_le (by omega) (Nat.le_of_lt_succ hm40)) (by omega) hP hS (lv_sub hl [0, 1, 2, 6, 3, 4, 7, 8, 9, 10, 11] rfl) ko40
              · have c27i : (w40_8 + (1 : Int32)).toInt < (nI (S.n (S.f o1 1))).toInt := nle_v rfl rfl c27
                refine lv_iload hx hb dX9_rolledPeak_106 (lv_at hl 5 rfl) ?_
                refine lv_iconst (v := 1) hx hb dX9_rolledPeak_108 (by decide) ?_
                refine lv_iadd hx hb dX9_rolledPeak_109 ?_
                refine lv_goto (tgt := 114) hx hb dX9_rolledPeak_110 (by decide) ?_
                refine lv_istore (lv' := [(8, .int (w40_8 + (1 : Int32))), (6, .int (if ((S.i (S.f o1 1) w40_8.toNatClampNeg) + (S.i (S.f o2 1) w40_9.toNatClampNeg)) < w40_6 then ((S.i (S.f o1 1) w40_8.toNatClampNeg) + (S.i (S.f o2 1) w40_9.toNatClampNeg)) else w40_6)), (5, .int (if w40_5 < ((S.i (S.f o1 1) w40_8.toNatClampNeg) + (S.i (S.f o2 1) w40_9.toNatClampNeg)) then ((S.i (S.f o1 1) w40_8.toNatClampNeg) + (S.i (S.f o2 1) w40_9.toNatClampNeg)) else w40_5)), (11, .int ((S.i (S.f o1 1) w40_8.toNatClampNeg) + (S.i (S.f o2 1) w40_9.toNatClampNeg))), (10, .int w40_10), (9, .int w40_9), (7, .int (f_X9_commonMultiple (nI (S.n (S.f o1 1))) (nI (S.n (S.f o2 1))))), (4, .ref (S.f o2 1)), (3, .ref (S.f o1 1)), (0, .ref o1), (1, .ref o2), (2, .int x1)]) hx hb dX9_rolledPeak_114 hl (by decide) rfl (fun ls hl => ?_)
                refine lv_iload hx hb dX9_rolledPeak_116 (lv_at hl 5 rfl) ?_
                refine lv_iconst (v := 1) hx hb dX9_rolledPeak_118 (by decide) ?_
                refine lv_iadd hx hb dX9_rolledPeak_119 ?_
                refine lv_aload hx hb dX9_rolledPeak_120 (lv_at hl 7 rfl) ?_
                obtain ⟨k33, gk33, hk33⟩ := wGt (cy := cy) X S F3.2.1.1 F3.2.1.2.1
                refine va_alen (D := D) (cl := vwCl) (tys := tyL cy) hx hb hK hP k33 2 hk33 rfl (v := nI (S.n (S.f o2 1))) rfl dX9_rolledPeak_122 ?_
                refine lv_icmp_ge (tgt := 133) hx hb dX9_rolledPeak_123 (by decide) (fun c34 => ?_) (fun c34 => ?_)
                · have c34i : (nI (S.n (S.f o2 1))).toInt ≤ (w40_9 + (1 : Int32)).toInt := le_v rfl rfl c34
                  refine lv_iconst (v := 0) hx hb dX9_rolledPeak_133 (by decide) ?_
                  refine lv_istore (lv' := [(9, .int (0 : Int32)), (8, .int (w40_8 + (1 : Int32))), (6, .int (if ((S.i (S.f o1 1) w40_8.toNatClampNeg) + (S.i (S.f o2 1) w40_9.toNatClampNeg)) < w40_6 then ((S.i (S.f o1 1) w40_8.toNatClampNeg) + (S.i (S.f o2 1) w40_9.toNatClampNeg)) else w40_6)), (5, .int (if w40_5 < ((S.i (S.f o1 1) w40_8.toNatClampNeg) + (S.i (S.f o2 1) w40_9.toNatClampNeg)) then ((S.i (S.f o1 1) w40_8.toNatClampNeg) + (S.i (S.f o2 1) w40_9.toNatClampNeg)) else w40_5)), (11, .int ((S.i (S.f o1 1) w40_8.toNatClampNeg) + (S.i (S.f o2 1) w40_9.toNatClampNeg))), (10, .int w40_10), (7, .int (f_X9_commonMultiple (nI (S.n (S.f o1 1))) (nI (S.n (S.f o2 1))))), (4, .ref (S.f o2 1)), (3, .ref (S.f o1 1)), (0, .ref o1), (1, .ref o2), (2, .int x1)]) hx hb dX9_rolledPeak_134 hl (by decide) rfl (fun ls hl => ?_)
                  refine lv_iinc (v := w40_10 + (1 : Int32)) (lv' := [(10, .int (w40_10 + (1 : Int32))), (9, .int (0 : Int32)), (8, .int (w40_8 + (1 : Int32))), (6, .int (if ((S.i (S.f o1 1) w40_8.toNatClampNeg) + (S.i (S.f o2 1) w40_9.toNatClampNeg)) < w40_6 then ((S.i (S.f o1 1) w40_8.toNatClampNeg) + (S.i (S.f o2 1) w40_9.toNatClampNeg)) else w40_6)), (5, .int (if w40_5 < ((S.i (S.f o1 1) w40_8.toNatClampNeg) + (S.i (S.f o2 1) w40_9.toNatClampNeg)) then ((S.i (S.f o1 1) w40_8.toNatClampNeg) + (S.i (S.f o2 1) w40_9.toNatClampNeg)) else w40_5)), (11, .int ((S.i (S.f o1 1) w40_8.toNatClampNeg) + (S.i (S.f o2 1) w40_9.toNatClampNeg))), (7, .int (f_X9_commonMultiple (nI (S.n (S.f o1 1))) (nI (S.n (S.f o2 1))))), (4, .ref (S.f o2 1)), (3, .ref (S.f o1 1)), (0, .ref o1), (1, .ref o2), (2, .int x1)]) hx hb dX9_rolledPeak_136 hl (k := 5) rfl (by rfl) (by decide) rfl (fun ls hl => ?_)
                  refine lv_goto (tgt := 40) hx hb dX9_rolledPeak_139 (by decide) ?_
                  have i35 : (w40_10 + (1 : Int32)).toInt = w40_10.toInt + 1 := t_addr (n := 1) rfl (by omega)
                  exact ih40 (if w40_5 < ((S.i (S.f o1 1) w40_8.toNatClampNeg) + (S.i (S.f o2 1) w40_9.toNatClampNeg)) then ((S.i (S.f o1 1) w40_8.toNatClampNeg) + (S.i (S.f o2 1) w40_9.toNatClampNeg)) else w40_5) (if ((S.i (S.f o1 1) w40_8.toNatClampNeg) + (S.i (S.f o2 1) w40_9.toNatClampNeg)) < w40_6 then ((S.i (S.f o1 1) w40_8.toNatClampNeg) + (S.i (S.f o2 1) w40_9.toNatClampNeg)) else w40_6) (w40_8 + (1 : Int32)) (0 : Int32) (w40_10 + (1 : Int32)) _ _ _ (Nat.lt_of_lt_of_le (by omega) (Nat.le_of_lt_succ hm40)) (by omega) hP hS (lv_sub hl [0, 1, 2, 6, 3, 4, 7, 8, 9, 10, 11] rfl) ko40
                · have c34i : (w40_9 + (1 : Int32)).toInt < (nI (S.n (S.f o2 1))).toInt := nle_v rfl rfl c34
                  refine lv_iload hx hb dX9_rolledPeak_126 (lv_at hl 5 rfl) ?_
                  refine lv_iconst (v := 1) hx hb dX9_rolledPeak_128 (by decide) ?_
                  refine lv_iadd hx hb dX9_rolledPeak_129 ?_
                  refine lv_goto (tgt := 134) hx hb dX9_rolledPeak_130 (by decide) ?_
                  refine lv_istore (lv' := [(9, .int (w40_9 + (1 : Int32))), (8, .int (w40_8 + (1 : Int32))), (6, .int (if ((S.i (S.f o1 1) w40_8.toNatClampNeg) + (S.i (S.f o2 1) w40_9.toNatClampNeg)) < w40_6 then ((S.i (S.f o1 1) w40_8.toNatClampNeg) + (S.i (S.f o2 1) w40_9.toNatClampNeg)) else w40_6)), (5, .int (if w40_5 < ((S.i (S.f o1 1) w40_8.toNatClampNeg) + (S.i (S.f o2 1) w40_9.toNatClampNeg)) then ((S.i (S.f o1 1) w40_8.toNatClampNeg) + (S.i (S.f o2 1) w40_9.toNatClampNeg)) else w40_5)), (11, .int ((S.i (S.f o1 1) w40_8.toNatClampNeg) + (S.i (S.f o2 1) w40_9.toNatClampNeg))), (10, .int w40_10), (7, .int (f_X9_commonMultiple (nI (S.n (S.f o1 1))) (nI (S.n (S.f o2 1))))), (4, .ref (S.f o2 1)), (3, .ref (S.f o1 1)), (0, .ref o1), (1, .ref o2), (2, .int x1)]) hx hb dX9_rolledPeak_134 hl (by decide) rfl (fun ls hl => ?_)
                  refine lv_iinc (v := w40_10 + (1 : Int32)) (lv' := [(10, .int (w40_10 + (1 : Int32))), (9, .int (w40_9 + (1 : Int32))), (8, .int (w40_8 + (1 : Int32))), (6, .int (if ((S.i (S.f o1 1) w40_8.toNatClampNeg) + (S.i (S.f o2 1) w40_9.toNatClampNeg)) < w40_6 then ((S.i (S.f o1 1) w40_8.toNatClampNeg) + (S.i (S.f o2 1) w40_9.toNatClampNeg)) else w40_6)), (5, .int (if w40_5 < ((S.i (S.f o1 1) w40_8.toNatClampNeg) + (S.i (S.f o2 1) w40_9.toNatClampNeg)) then ((S.i (S.f o1 1) w40_8.toNatClampNeg) + (S.i (S.f o2 1) w40_9.toNatClampNeg)) else w40_5)), (11, .int ((S.i (S.f o1 1) w40_8.toNatClampNeg) + (S.i (S.f o2 1) w40_9.toNatClampNeg))), (7, .int (f_X9_commonMultiple (nI (S.n (S.f o1 1))) (nI (S.n (S.f o2 1))))), (4, .ref (S.f o2 1)), (3, .ref (S.f o1 1)), (0, .ref o1), (1, .ref o2), (2, .int x1)]) hx hb dX9_rolledPeak_136 hl (k := 5) rfl (by rfl) (by decide) rfl (fun ls hl => ?_)
                  refine lv_goto (tgt := 40) hx hb dX9_rolledPeak_139 (by decide) ?_
                  have i36 : (w40_9 + (1 : Int32)).toInt = w40_9.toInt + 1 := t_addr (n := 1) rfl (by omega)
                  have i37 : (w40_10 + (1 : Int32)).toInt = w40_10.toInt + 1 := t_addr (n := 1) rfl (by omega)
                  exact ih40 (if w40_5 < ((S.i (S.f o1 1) w40_8.toNatClampNeg) + (S.i (S.f o2 1) w40_9.toNatClampNeg)) then ((S.i (S.f o1 1) w40_8.toNatClampNeg) + (S.i (S.f o2 1) w40_9.toNatClampNeg)) else w40_5) (if ((S.i (S.f o1 1) w40_8.toNatClampNeg) + (S.i (S.f o2 1) w40_9.toNatClampNeg)) < w40_6 then ((S.i (S.f o1 1) w40_8.toNatClampNeg) + (S.i (S.f o2 1) w40_9.toNatClampNeg)) else w40_6) (w40_8 + (1 : Int32)) (w40_9 + (1 : Int32)) (w40_10 + (1 : Int32)) _ _ _ (Nat.lt_of_lt_of_le (by omega) (Nat.le_of_lt_succ hm40)) (by omega) hP hS (lv_sub hl [0, 1, 2, 6, 3, 4, 7, 8, 9, 10, 11] rfl) ko40
  refine loop40 ((f_X9_commonMultiple (nI (S.n (S.f o1 1))) (nI (S.n (S.f o2 1)))).toInt.toNat + 1) (-2147483647 : Int32) (2147483647 : Int32) (0 : Int32) x1 (0 : Int32) _ _ _ (by omega) (by omega) hP hS (lv_sub hl [0, 1, 2, 3, 4, 5, 6, 7, 8, 9, 10] rfl) (fun z39 z40 z41 z42 z43 H locs ls hi40 hP hS hl => ?_)
  refine lv_iload hx hb dX9_rolledPeak_142 (lv_at hl 5 rfl) ?_
  refine lv_iload hx hb dX9_rolledPeak_144 (lv_at hl 4 rfl) ?_
  refine lv_isub hx hb dX9_rolledPeak_146 ?_
  refine W.widen (k := 0) (n := 0) (Nat.le_of_ble_eq_true rfl) (Nat.le_of_ble_eq_true rfl) ?_
  exact W.iret (v := z39 - z40) hx hb hr (fun t ht hW9 => ⟨⟨z39 - z40, (), rfl, trivial, wd_end hP hK hD ht hW9.alike⟩, hS.F ht⟩) hS.2.2 dX9_rolledPeak_147 hlocks
theorem hi_X9_isAsRolled_X1 : ∀ w ∈ u_ws RX1 TX1 3, w ∈ wsX9_isAsRolled := by decide +kernel
theorem hi_X9_isAsRolled_X9 : ∀ w ∈ u_ws RX9 TX9 11, w ∈ wsX9_isAsRolled := by decide +kernel
theorem hd_X9_isAsRolled : yX9_isAsRolled.cls = RX9 ∧ yX9_isAsRolled.cls ≠ "java/lang/invoke/MethodHandle" ∧ yX9_isAsRolled.cls ≠ "java/lang/invoke/VarHandle" ∧ (parseMethodDescriptor yX9_isAsRolled.desc).map (fun d => d.parameters.length) = some 3 := by decide +kernel
set_option maxHeartbeats 4000000 in
set_option maxRecDepth 100000 in
theorem c_X9_isAsRolled (l : Launch) {D : va_G} {cy : Nat → ClassId} {X : va_W} (S : wPS) (sz : Nat) (o1 : Nat) (h_o1 : isA S o1 9) (o2 : Nat) (h_o2 : isA S o2 1) (o3 : Nat) (h_o3 : isA S o3 1) (x1 : Int32) (hW : wtB S [])  : Met l yX9_isAsRolled wsX9_isAsRolled ({ frames := 4, cells := 0, slots := 0, locals := 90 }) (va_Pc [.ref o1, .ref o2, .ref o3, .int x1] (fun U => U.heap.size = sz ∧ WD D cy X (fun _ => True) S U ∧ NW U)) (va_Qi (fun r (_ : Unit) => True) (fun _ t => WD D cy X (va_A (X ++ PL cy S) sz) S t) (va_A (X ++ PL cy S) sz)) 0 0 (va_A (X ++ PL cy S) sz) := by
  refine Met.ofW (cc := cX9_isAsRolled) (maxL := 5) (ret := (some .boolean)) (by decide) rfl ?_
  intro p e s m args below meth c s₁ B hml hv
  obtain ⟨rfl, hsz, ⟨hP, hK, hD0⟩, hN⟩ := hv
  have hx := B.exec
  have hb := B.bytes
  have hr := B.returns
  have hts := atoms_spec (ws := wsX9_isAsRolled) B.pre
  have hown : s.vm.findClass RX9 = some m.cls := findClass_of_methodNamed (x := yX9_isAsRolled) B.named
  have hlocks := B.notSynchronized
  subst hsz
  have hD := hD0.self (sz := s.heap.size)
  generalize hAe : va_A (X ++ PL cy S) s.heap.size = A at hD ⊢
  have hA : ∀ q : Nat, s.heap.size ≤ q → A q := fun q h => by rw [← hAe]; exact Or.inr h
  have hS : va_S A s.heap s.heap [] := va_S.rf
  have hl := lv_entry ([.ref o1, .ref o2, .ref o3, .int x1]) (n := 5) (Nat.le_of_ble_eq_true rfl)
  rw [lg_entry_eq]
  generalize (lg_sl ([.ref o1, .ref o2, .ref o3, .int x1]) ++ List.replicate (5 - (lg_sl ([.ref o1, .ref o2, .ref o3, .int x1])).length) Slot.unset).toArray = ls at hl ⊢
  have hl : lv_has ls 5 [(0, .ref o1), (1, .ref o2), (2, .ref o3), (3, .int x1)] := hl
  refine lv_aload_n hx hb dX9_isAsRolled_0 rfl (lv_at hl 0 rfl) ?_
  have F1 := ((hW.at h_o1 List.not_mem_nil).to_9 h_o1.2.1).F7
  obtain ⟨k2, gk2, hk2⟩ := wGt (cy := cy) X S h_o1.1 h_o1.2.1
  simp only [kE, F1.1] at hk2
  refine va_get (D := D) (ci := 13) (v := .ref (S.f o1 7)) (C := RX9) (T := TX9) (N := 11) hx hb hts hi_X9_isAsRolled_X9 hown hK hP k2 hk2 rfl 7 (by decide) (hts (.fieldLink RX9 37 "Hobhouse" "rolling" "LHobhouse$Rolling;") (by decide +kernel)) (fun _ h9 => h9) rfl dX9_isAsRolled_1 ?_
  refine lv_iload_n hx hb dX9_isAsRolled_4 rfl (lv_at hl 3 rfl) ?_
  have hFc := free_all hD hS hA
  obtain ⟨k3, gk3, hk3⟩ := wGt (cy := cy) X S F1.2.1 F1.2.2.1
  refine va_calli (va_runV (As := [.int x1]) (rest := []) ⟨hx, hb, hml, hown, hts⟩ (c_X6_peakFrom l (cy := cy) (X := X) (D := D) S _ (S.f o1 7) F1.2 x1 (hW)) (cwV 1 hts gX9_isAsRolled_X6_peakFrom rfl rfl rfl hd_X6_peakFrom ⟨Nat.le_of_ble_eq_true rfl, Nat.le_of_ble_eq_true rfl⟩) (pV (va_recv hK hP (q := (RX6, TX6, 5)) (ci := 10) (q0 := k3) rfl hk3) hP hK hD hN) rfl rfl hl.1 rfl (lv_room (Nat.le_of_ble_eq_true rfl)) dX9_isAsRolled_5 ⟨(Nat.zero_le _), (Nat.zero_le _)⟩) hS (fun q _ h => hFc q h) hFc (fun r4 u t H1 locs ht hvm hw hB hz1 hk1 hS => ?_)
  have c5 := hw
  obtain ⟨hP, hD⟩ := wd_post hFc ht hB
  generalize H1 = H at hP hS ⊢
  obtain rfl : f_X6_peakFrom S (S.f o1 7) x1 = r4 := c5.symm
  refine lv_istore (lv' := [(4, .int (f_X6_peakFrom S (S.f o1 7) x1)), (0, .ref o1), (1, .ref o2), (2, .ref o3), (3, .int x1)]) hx hb dX9_isAsRolled_8 hl (by decide) rfl (fun ls hl => ?_)
  refine lv_iload hx hb dX9_isAsRolled_10 (lv_at hl 0 rfl) ?_
  refine lv_aload_n hx hb dX9_isAsRolled_12 rfl (lv_at hl 2 rfl) ?_
  refine lv_aload_n hx hb dX9_isAsRolled_13 rfl (lv_at hl 3 rfl) ?_
  refine lv_iload_n hx hb dX9_isAsRolled_14 rfl (lv_at hl 4 rfl) ?_
  have hFc := free_all hD hS hA
  refine va_calli (va_runS (As := [.ref o2, .ref o3, .int x1]) (rest := [.int (f_X6_peakFrom S (S.f o1 7) x1)]) ⟨hx, hb, hml, hown, hts⟩ (c_X9_rolledPeak l (cy := cy) (X := X) (D := D) S _ o2 h_o2 o3 h_o3 x1 (hW)) (cwS 3 hts gX9_isAsRolled_X9_rolledPeak rfl rfl rfl hd_X9_rolledPeak ⟨Nat.le_of_ble_eq_true rfl, Nat.le_of_ble_eq_true rfl⟩) (pS hP hK hD hN) rfl rfl hl.1 rfl (lv_room (Nat.le_of_ble_eq_true rfl)) dX9_isAsRolled_15 ⟨(Nat.zero_le _), (Nat.zero_le _)⟩) hS (fun q _ h => hFc q h) hFc (fun r6 u t H1 locs ht hvm hw hB hz1 hk1 hS => ?_)
  clear hw
  obtain ⟨hP, hD⟩ := wd_post hFc ht hB
  generalize H1 = H at hP hS ⊢
  refine lv_icmp_ne (tgt := 41) hx hb dX9_isAsRolled_18 (by decide) (fun c7 => ?_) (fun c7 => ?_)
  · have c7i : ¬ (f_X6_peakFrom S (S.f o1 7) x1).toInt = r6.toInt := neq_v rfl rfl c7
    refine lv_iconst (v := 0) hx hb dX9_isAsRolled_41 (by decide) ?_
    refine W.widen (k := 0) (n := 0) (Nat.le_of_ble_eq_true rfl) (Nat.le_of_ble_eq_true rfl) ?_
    exact W.zret (v := (0 : Int32)) hx hb hr (by rfl) (fun t ht hW9 => ⟨⟨(0 : Int32), (), rfl, trivial, wd_end hP hK hD ht hW9.alike⟩, hS.F ht⟩) hS.2.2 dX9_isAsRolled_42 hlocks
  · have c7i : (f_X6_peakFrom S (S.f o1 7) x1).toInt = r6.toInt := eq_v rfl rfl c7
    refine lv_iload hx hb dX9_isAsRolled_21 (lv_at hl 0 rfl) ?_
    refine lv_aload_n hx hb dX9_isAsRolled_23 rfl (lv_at hl 2 rfl) ?_
    obtain ⟨k8, gk8, hk8⟩ := wGt (cy := cy) X S h_o2.1 h_o2.2.1
    refine va_get (D := D) (ci := 5) (v := .int (S.I o2 2)) (C := RX1) (T := TX1) (N := 3) hx hb hts hi_X9_isAsRolled_X1 hown hK hP k8 hk8 rfl 2 (by decide) (hts (.fieldLink RX9 348 "Hobhouse$Chart" "spread" "I") (by decide +kernel)) (fun _ h9 => h9) rfl dX9_isAsRolled_24 ?_
    refine lv_aload_n hx hb dX9_isAsRolled_27 rfl (lv_at hl 3 rfl) ?_
    obtain ⟨k9, gk9, hk9⟩ := wGt (cy := cy) X S h_o3.1 h_o3.2.1
    refine va_get (D := D) (ci := 5) (v := .int (S.I o3 2)) (C := RX1) (T := TX1) (N := 3) hx hb hts hi_X9_isAsRolled_X1 hown hK hP k9 hk9 rfl 2 (by decide) (hts (.fieldLink RX9 348 "Hobhouse$Chart" "spread" "I") (by decide +kernel)) (fun _ h9 => h9) rfl dX9_isAsRolled_28 ?_
    refine lv_iadd hx hb dX9_isAsRolled_31 ?_
    refine lv_iconst (v := 2) hx hb dX9_isAsRolled_32 (by decide) ?_
    refine lv_iadd hx hb dX9_isAsRolled_33 ?_
    refine lv_icmp_gt (tgt := 41) hx hb dX9_isAsRolled_34 (by decide) (fun c10 => ?_) (fun c10 => ?_)
    · have c10i : (((S.I o2 2) + (S.I o3 2)) + (2 : Int32)).toInt < (f_X6_peakFrom S (S.f o1 7) x1).toInt := lt_v rfl rfl c10
      refine lv_iconst (v := 0) hx hb dX9_isAsRolled_41 (by decide) ?_
      refine W.widen (k := 0) (n := 0) (Nat.le_of_ble_eq_true rfl) (Nat.le_of_ble_eq_true rfl) ?_
      exact W.zret (v := (0 : Int32)) hx hb hr (by rfl) (fun t ht hW9 => ⟨⟨(0 : Int32), (), rfl, trivial, wd_end hP hK hD ht hW9.alike⟩, hS.F ht⟩) hS.2.2 dX9_isAsRolled_42 hlocks
    · have c10i : (f_X6_peakFrom S (S.f o1 7) x1).toInt ≤ (((S.I o2 2) + (S.I o3 2)) + (2 : Int32)).toInt := nlt_v rfl rfl c10
      refine lv_iconst (v := 1) hx hb dX9_isAsRolled_37 (by decide) ?_
      refine lv_goto (tgt := 42) hx hb dX9_isAsRolled_38 (by decide) ?_
      refine W.widen (k := 0) (n := 0) (Nat.le_of_ble_eq_true rfl) (Nat.le_of_ble_eq_true rfl) ?_
      exact W.zret (v := (1 : Int32)) hx hb hr (by rfl) (fun t ht hW9 => ⟨⟨(1 : Int32), (), rfl, trivial, wd_end hP hK hD ht hW9.alike⟩, hS.F ht⟩) hS.2.2 dX9_isAsRolled_42 hlocks
theorem hi_X9_rollsAsTold_X9 : ∀ w ∈ u_ws RX9 TX9 11, w ∈ wsX9_rollsAsTold := by decide +kernel
theorem hd_X9_rollsAsTold : yX9_rollsAsTold.cls = RX9 ∧ yX9_rollsAsTold.cls ≠ "java/lang/invoke/MethodHandle" ∧ yX9_rollsAsTold.cls ≠ "java/lang/invoke/VarHandle" ∧ (parseMethodDescriptor yX9_rollsAsTold.desc).map (fun d => d.parameters.length) = some 2 := by decide +kernel
set_option maxHeartbeats 4000000 in
set_option maxRecDepth 100000 in
theorem c_X9_rollsAsTold (l : Launch) {D : va_G} {cy : Nat → ClassId} {X : va_W} (S : wPS) (sz : Nat) (o1 : Nat) (h_o1 : isA S o1 9) (o2 : Nat) (h_o2 : isA S o2 1) (o3 : Nat) (h_o3 : isA S o3 1) (hW : wtB S [])  : Met l yX9_rollsAsTold wsX9_rollsAsTold ({ frames := 5, cells := 0, slots := 0, locals := 114 }) (va_Pc [.ref o1, .ref o2, .ref o3] (fun U => U.heap.size = sz ∧ WD D cy X (fun _ => True) S U ∧ NW U)) (va_Qi (fun r (u : wPS) => stp [(6, 4), (17, 100)] [] [] S u) (fun u t => WD D cy X (va_A (X ++ PL cy S) sz) u t) (va_A (X ++ PL cy S) sz)) 0 0 (va_A (X ++ PL cy S) sz) := by
  refine Met.ofW (cc := cX9_rollsAsTold) (maxL := 4) (ret := (some .boolean)) (by decide) rfl ?_
  intro p e s m args below meth c s₁ B hml hv
  obtain ⟨rfl, hsz, ⟨hP, hK, hD0⟩, hN⟩ := hv
  have hx := B.exec
  have hb := B.bytes
  have hr := B.returns
  have hts := atoms_spec (ws := wsX9_rollsAsTold) B.pre
  have hown : s.vm.findClass RX9 = some m.cls := findClass_of_methodNamed (x := yX9_rollsAsTold) B.named
  have hlocks := B.notSynchronized
  subst hsz
  have hD := hD0.self (sz := s.heap.size)
  generalize hAe : va_A (X ++ PL cy S) s.heap.size = A at hD ⊢
  have hA : ∀ q : Nat, s.heap.size ≤ q → A q := fun q h => by rw [← hAe]; exact Or.inr h
  have hS : va_S A s.heap s.heap [] := va_S.rf
  have hl := lv_entry ([.ref o1, .ref o2, .ref o3]) (n := 4) (Nat.le_of_ble_eq_true rfl)
  rw [lg_entry_eq]
  generalize (lg_sl ([.ref o1, .ref o2, .ref o3]) ++ List.replicate (4 - (lg_sl ([.ref o1, .ref o2, .ref o3])).length) Slot.unset).toArray = ls at hl ⊢
  have hl : lv_has ls 4 [(0, .ref o1), (1, .ref o2), (2, .ref o3)] := hl
  have t0 : stp [(6, 4), (17, 100)] [] [] S S := stp.rf hW
  refine lv_aload_n hx hb dX9_rollsAsTold_0 rfl (lv_at hl 0 rfl) ?_
  have F1 := ((hW.at h_o1 List.not_mem_nil).to_9 h_o1.2.1).F7
  obtain ⟨k2, gk2, hk2⟩ := wGt (cy := cy) X S h_o1.1 h_o1.2.1
  simp only [kE, F1.1] at hk2
  refine va_get (D := D) (ci := 13) (v := .ref (S.f o1 7)) (C := RX9) (T := TX9) (N := 11) hx hb hts hi_X9_rollsAsTold_X9 hown hK hP k2 hk2 rfl 7 (by decide) (hts (.fieldLink RX9 37 "Hobhouse" "rolling" "LHobhouse$Rolling;") (by decide +kernel)) (fun _ h9 => h9) rfl dX9_rollsAsTold_1 ?_
  refine lv_aload_n hx hb dX9_rollsAsTold_4 rfl (lv_at hl 1 rfl) ?_
  refine lv_aload_n hx hb dX9_rollsAsTold_5 rfl (lv_at hl 2 rfl) ?_
  have hFc := free_all hD hS hA
  obtain ⟨k3, gk3, hk3⟩ := wGt (cy := cy) X S F1.2.1 F1.2.2.1
  refine va_callv (va_runV (As := [.ref o2, .ref o3]) (rest := []) ⟨hx, hb, hml, hown, hts⟩ (c_X6_take l (cy := cy) (X := X) (D := D) S _ (S.f o1 7) F1.2 o2 h_o2 o3 h_o3 (hW)) (cwV 2 hts gX9_rollsAsTold_X6_take rfl rfl rfl hd_X6_take ⟨Nat.le_of_ble_eq_true rfl, Nat.le_of_ble_eq_true rfl⟩) (pV (va_recv hK hP (q := (RX6, TX6, 5)) (ci := 10) (q0 := k3) rfl hk3) hP hK hD hN) rfl rfl hl.1 rfl (lv_room (Nat.le_of_ble_eq_true rfl)) dX9_rollsAsTold_6 ⟨(Nat.zero_le _), (Nat.zero_le _)⟩) hS (fun q _ h => hFc q h) hFc (fun u t H1 locs ht hvm hw hB hz1 hk1 hS => ?_)
  have w5 := hw
  obtain ⟨hP, hD⟩ := wd_post hFc ht hB
  generalize H1 = H at hP hS ⊢
  obtain ⟨S6, rfl⟩ : ∃ z, z = u := ⟨_, rfl⟩
  have t7 : stp [(6, 4), (17, 100)] [] [] S S6 := t0.tr w5 (by decide) (fun _ q => absurd q List.not_mem_nil)
  have xe8 : ext S S6 := w5.x
  refine lv_aload_n hx hb dX9_rollsAsTold_9 rfl (lv_at hl 0 rfl) ?_
  obtain ⟨k9, gk9, hk9⟩ := wGt (cy := cy) X S6 (xe8.A h_o1).1 (xe8.A h_o1).2.1
  simp only [kE, (xe8.F h_o1 (by decide) F1.1)] at hk9
  refine va_get (D := D) (ci := 13) (v := .ref (S.f o1 7)) (C := RX9) (T := TX9) (N := 11) hx hb hts hi_X9_rollsAsTold_X9 hown hK hP k9 hk9 rfl 7 (by decide) (hts (.fieldLink RX9 37 "Hobhouse" "rolling" "LHobhouse$Rolling;") (by decide +kernel)) (fun _ h9 => h9) rfl dX9_rollsAsTold_10 ?_
  have hFc := free_all hD hS hA
  obtain ⟨k10, gk10, hk10⟩ := wGt (cy := cy) X S6 (xe8.A F1.2).1 (xe8.A F1.2).2.1
  refine va_calli (va_runV (As := []) (rest := []) ⟨hx, hb, hml, hown, hts⟩ (c_X6_quietStart l (cy := cy) (X := X) (D := D) S6 _ (S.f o1 7) (xe8.A F1.2) (t7.w)) (cwV 0 hts gX9_rollsAsTold_X6_quietStart rfl rfl rfl hd_X6_quietStart ⟨Nat.le_of_ble_eq_true rfl, Nat.le_of_ble_eq_true rfl⟩) (pV (va_recv hK hP (q := (RX6, TX6, 5)) (ci := 10) (q0 := k10) rfl hk10) hP hK hD hN) rfl rfl hl.1 rfl (lv_room (Nat.le_of_ble_eq_true rfl)) dX9_rollsAsTold_13 ⟨(Nat.zero_le _), (Nat.zero_le _)⟩) hS (fun q _ h => hFc q h) hFc (fun r11 u t H1 locs ht hvm hw hB hz1 hk1 hS => ?_)
  have c12 := hw
  obtain ⟨hP, hD⟩ := wd_post hFc ht hB
  generalize H1 = H at hP hS ⊢
  obtain rfl : f_X6_quietStart S6 (S.f o1 7) = r11 := c12.symm
  refine lv_istore_n (lv' := [(3, .int (f_X6_quietStart S6 (S.f o1 7))), (0, .ref o1), (1, .ref o2), (2, .ref o3)]) hx hb dX9_rollsAsTold_16 rfl hl (by decide) rfl (fun ls hl => ?_)
  refine lv_aload_n hx hb dX9_rollsAsTold_17 rfl (lv_at hl 1 rfl) ?_
  refine lv_aload_n hx hb dX9_rollsAsTold_18 rfl (lv_at hl 2 rfl) ?_
  refine lv_aload_n hx hb dX9_rollsAsTold_19 rfl (lv_at hl 3 rfl) ?_
  refine lv_iconst (v := 0) hx hb dX9_rollsAsTold_20 (by decide) ?_
  have l32_0 : (0 : Int32).toInt = 0 := rfl
  have hFc := free_all hD hS hA
  obtain ⟨k13, gk13, hk13⟩ := wGt (cy := cy) X S6 (xe8.A h_o1).1 (xe8.A h_o1).2.1
  refine va_calli (va_runV (As := [.ref o2, .ref o3, .int (0 : Int32)]) (rest := []) ⟨hx, hb, hml, hown, hts⟩ (c_X9_isAsRolled l (cy := cy) (X := X) (D := D) S6 _ o1 (xe8.A h_o1) o2 (xe8.A h_o2) o3 (xe8.A h_o3) (0 : Int32) (t7.w)) (cwV 3 hts gX9_rollsAsTold_X9_isAsRolled rfl rfl rfl hd_X9_isAsRolled ⟨Nat.le_of_ble_eq_true rfl, Nat.le_of_ble_eq_true rfl⟩) (pV (va_recv hK hP (q := (RX9, TX9, 11)) (ci := 13) (q0 := k13) rfl hk13) hP hK hD hN) rfl rfl hl.1 rfl (lv_room (Nat.le_of_ble_eq_true rfl)) dX9_rollsAsTold_21 ⟨(Nat.zero_le _), (Nat.zero_le _)⟩) hS (fun q _ h => hFc q h) hFc (fun r14 u t H1 locs ht hvm hw hB hz1 hk1 hS => ?_)
  clear hw
  obtain ⟨hP, hD⟩ := wd_post hFc ht hB
  generalize H1 = H at hP hS ⊢
  refine lv_if_eq (tgt := 45) hx hb dX9_rollsAsTold_24 (by decide) (fun c15 => ?_) (fun c15 => ?_)
  · have c15i : r14.toInt = 0 := eq_v rfl rfl c15
    refine lv_iconst (v := 0) hx hb dX9_rollsAsTold_45 (by decide) ?_
    refine W.widen (k := 0) (n := 0) (Nat.le_of_ble_eq_true rfl) (Nat.le_of_ble_eq_true rfl) ?_
    exact W.zret (v := (0 : Int32)) hx hb hr (by rfl) (fun t ht hW9 => ⟨⟨(0 : Int32), S6, rfl, t7, wd_end hP hK hD ht hW9.alike⟩, hS.F ht⟩) hS.2.2 dX9_rollsAsTold_46 hlocks
  · have c15i : ¬ r14.toInt = 0 := neq_v rfl rfl c15
    refine lv_iload_n hx hb dX9_rollsAsTold_27 rfl (lv_at hl 0 rfl) ?_
    refine lv_if_eq (tgt := 41) hx hb dX9_rollsAsTold_28 (by decide) (fun c16 => ?_) (fun c16 => ?_)
    · have c16i : (f_X6_quietStart S6 (S.f o1 7)).toInt = 0 := eq_v rfl rfl c16
      refine lv_iconst (v := 1) hx hb dX9_rollsAsTold_41 (by decide) ?_
      refine lv_goto (tgt := 46) hx hb dX9_rollsAsTold_42 (by decide) ?_
      refine W.widen (k := 0) (n := 0) (Nat.le_of_ble_eq_true rfl) (Nat.le_of_ble_eq_true rfl) ?_
      exact W.zret (v := (1 : Int32)) hx hb hr (by rfl) (fun t ht hW9 => ⟨⟨(1 : Int32), S6, rfl, t7, wd_end hP hK hD ht hW9.alike⟩, hS.F ht⟩) hS.2.2 dX9_rollsAsTold_46 hlocks
    · have c16i : ¬ (f_X6_quietStart S6 (S.f o1 7)).toInt = 0 := neq_v rfl rfl c16
      refine lv_aload_n hx hb dX9_rollsAsTold_31 rfl (lv_at hl 1 rfl) ?_
      refine lv_aload_n hx hb dX9_rollsAsTold_32 rfl (lv_at hl 2 rfl) ?_
      refine lv_aload_n hx hb dX9_rollsAsTold_33 rfl (lv_at hl 3 rfl) ?_
      refine lv_iload_n hx hb dX9_rollsAsTold_34 rfl (lv_at hl 0 rfl) ?_
      have hFc := free_all hD hS hA
      obtain ⟨k17, gk17, hk17⟩ := wGt (cy := cy) X S6 (xe8.A h_o1).1 (xe8.A h_o1).2.1
      refine va_calli (va_runV (As := [.ref o2, .ref o3, .int (f_X6_quietStart S6 (S.f o1 7))]) (rest := []) ⟨hx, hb, hml, hown, hts⟩ (c_X9_isAsRolled l (cy := cy) (X := X) (D := D) S6 _ o1 (xe8.A h_o1) o2 (xe8.A h_o2) o3 (xe8.A h_o3) (f_X6_quietStart S6 (S.f o1 7)) (t7.w)) (cwV 3 hts gX9_rollsAsTold_X9_isAsRolled rfl rfl rfl hd_X9_isAsRolled ⟨Nat.le_of_ble_eq_true rfl, Nat.le_of_ble_eq_true rfl⟩) (pV (va_recv hK hP (q := (RX9, TX9, 11)) (ci := 13) (q0 := k17) rfl hk17) hP hK hD hN) rfl rfl hl.1 rfl (lv_room (Nat.le_of_ble_eq_true rfl)) dX9_rollsAsTold_35 ⟨(Nat.zero_le _), (Nat.zero_le _)⟩) hS (fun q _ h => hFc q h) hFc (fun r18 u t H1 locs ht hvm hw hB hz1 hk1 hS => ?_)
      clear hw
      obtain ⟨hP, hD⟩ := wd_post hFc ht hB
      generalize H1 = H at hP hS ⊢
      refine lv_if_eq (tgt := 45) hx hb dX9_rollsAsTold_38 (by decide) (fun c19 => ?_) (fun c19 => ?_)
      · have c19i : r18.toInt = 0 := eq_v rfl rfl c19
        refine lv_iconst (v := 0) hx hb dX9_rollsAsTold_45 (by decide) ?_
        refine W.widen (k := 0) (n := 0) (Nat.le_of_ble_eq_true rfl) (Nat.le_of_ble_eq_true rfl) ?_
        exact W.zret (v := (0 : Int32)) hx hb hr (by rfl) (fun t ht hW9 => ⟨⟨(0 : Int32), S6, rfl, t7, wd_end hP hK hD ht hW9.alike⟩, hS.F ht⟩) hS.2.2 dX9_rollsAsTold_46 hlocks
      · have c19i : ¬ r18.toInt = 0 := neq_v rfl rfl c19
        refine lv_iconst (v := 1) hx hb dX9_rollsAsTold_41 (by decide) ?_
        refine lv_goto (tgt := 46) hx hb dX9_rollsAsTold_42 (by decide) ?_
        refine W.widen (k := 0) (n := 0) (Nat.le_of_ble_eq_true rfl) (Nat.le_of_ble_eq_true rfl) ?_
        exact W.zret (v := (1 : Int32)) hx hb hr (by rfl) (fun t ht hW9 => ⟨⟨(1 : Int32), S6, rfl, t7, wd_end hP hK hD ht hW9.alike⟩, hS.F ht⟩) hS.2.2 dX9_rollsAsTold_46 hlocks
theorem hi_X9_isSound_X2 : ∀ w ∈ u_ws RX2 TX2 20, w ∈ wsX9_isSound := by decide +kernel
theorem hi_X9_isSound_X9 : ∀ w ∈ u_ws RX9 TX9 11, w ∈ wsX9_isSound := by decide +kernel
theorem hd_X9_isSound : yX9_isSound.cls = RX9 ∧ yX9_isSound.cls ≠ "java/lang/invoke/MethodHandle" ∧ yX9_isSound.cls ≠ "java/lang/invoke/VarHandle" ∧ (parseMethodDescriptor yX9_isSound.desc).map (fun d => d.parameters.length) = some 0 := by decide +kernel
set_option maxHeartbeats 4000000 in
set_option maxRecDepth 100000 in
theorem c_X9_isSound (l : Launch) {D : va_G} {cy : Nat → ClassId} {X : va_W} (S : wPS) (sz : Nat) (o1 : Nat) (h_o1 : isA S o1 9) (hW : wtB S [])  : Met l yX9_isSound wsX9_isSound ({ frames := 6, cells := 0, slots := 0, locals := 137 }) (va_Pc [.ref o1] (fun U => U.heap.size = sz ∧ WD D cy X (fun _ => True) S U ∧ NW U)) (va_Qi (fun r (u : wPS) => stp [(6, 4), (17, 100)] [] [] S u) (fun u t => WD D cy X (va_A (X ++ PL cy S) sz) u t) (va_A (X ++ PL cy S) sz)) 0 0 (va_A (X ++ PL cy S) sz) := by
  refine Met.ofW (cc := cX9_isSound) (maxL := 3) (ret := (some .boolean)) (by decide) rfl ?_
  intro p e s m args below meth c s₁ B hml hv
  obtain ⟨rfl, hsz, ⟨hP, hK, hD0⟩, hN⟩ := hv
  have hx := B.exec
  have hb := B.bytes
  have hr := B.returns
  have hts := atoms_spec (ws := wsX9_isSound) B.pre
  have hown : s.vm.findClass RX9 = some m.cls := findClass_of_methodNamed (x := yX9_isSound) B.named
  have hlocks := B.notSynchronized
  subst hsz
  have hD := hD0.self (sz := s.heap.size)
  generalize hAe : va_A (X ++ PL cy S) s.heap.size = A at hD ⊢
  have hA : ∀ q : Nat, s.heap.size ≤ q → A q := fun q h => by rw [← hAe]; exact Or.inr h
  have hS : va_S A s.heap s.heap [] := va_S.rf
  have hl := lv_entry ([.ref o1]) (n := 3) (Nat.le_of_ble_eq_true rfl)
  rw [lg_entry_eq]
  generalize (lg_sl ([.ref o1]) ++ List.replicate (3 - (lg_sl ([.ref o1])).length) Slot.unset).toArray = ls at hl ⊢
  have hl : lv_has ls 3 [(0, .ref o1)] := hl
  have t0 : stp [(6, 4), (17, 100)] [] [] S S := stp.rf hW
  refine lv_iconst (v := 0) hx hb dX9_isSound_0 (by decide) ?_
  refine lv_istore_n (lv' := [(1, .int (0 : Int32)), (0, .ref o1)]) hx hb dX9_isSound_1 rfl hl (by decide) rfl (fun ls hl => ?_)
  have l32_0 : (0 : Int32).toInt = 0 := rfl
  have loop2 : ∀ (n : Nat) (S2_ : wPS) (w2_1 : Int32) (H : Heap) (locs : List Loc) (ls : Array Slot), (21 - w2_1.toInt).toNat < n → 0 ≤ w2_1.toInt ∧ w2_1.toInt ≤ 20 ∧ (S2_.I o1 1).toInt = (S.I o1 1).toInt → stp [(6, 4), (17, 100)] [] [] S S2_ → va_P D vwCl (X ++ PL cy S2_) H → va_D A (X ++ PL cy S2_) → va_S A s.heap H locs → lv_has ls 3 [(1, .int w2_1), (0, .ref o1)] → (∀ (S2_x : wPS) (w2_1x : Int32) (H : Heap) (locs : List Loc) (ls : Array Slot), 0 ≤ w2_1x.toInt ∧ w2_1x.toInt ≤ 20 ∧ (S2_x.I o1 1).toInt = (S.I o1 1).toInt → stp [(6, 4), (17, 100)] [] [] S S2_x → va_P D vwCl (X ++ PL cy S2_x) H → va_D A (X ++ PL cy S2_x) → va_S A s.heap H locs → lv_has ls 3 [(1, .int w2_1x), (0, .ref o1)] → W p l e (headSpec wsX9_isSound ({ frames := 6, cells := 0, slots := 0, locals := 137 } : Room)).room s m [.ref o1].toArray below meth c H locs 0 0 (MQ below (va_Qi (fun r (u : wPS) => stp [(6, 4), (17, 100)] [] [] S u) (fun u t => WD D cy X A u t) A) [.ref o1].toArray s 0 0 A) (F0 m 94 ls [])) → W p l e (headSpec wsX9_isSound ({ frames := 6, cells := 0, slots := 0, locals := 137 } : Room)).room s m [.ref o1].toArray below meth c H locs 0 0 (MQ below (va_Qi (fun r (u : wPS) => stp [(6, 4), (17, 100)] [] [] S u) (fun u t => WD D cy X A u t) A) [.ref o1].toArray s 0 0 A) (F0 m 2 ls []) := by
    intro n2
    induction n2 with
    | zero => intro S2_ w2_1 H locs ls hm; exact absurd hm (Nat.not_lt_zero _)
    | succ n2 ih2 =>
      intro S2_ w2_1 H locs ls hm2 hi2 hsh2 hP hD hS hl ko2
      refine lv_iload_n hx hb dX9_isSound_2 rfl (lv_at hl 0 rfl) ?_
      refine lv_aload_n hx hb dX9_isSound_3 rfl (lv_at hl 1 rfl) ?_
      obtain ⟨k1, gk1, hk1⟩ := wGt (cy := cy) X S2_ (hsh2.x.A h_o1).1 (hsh2.x.A h_o1).2.1
      have i2 := ((hsh2.w.at (hsh2.x.A h_o1) List.not_mem_nil).to_9 (hsh2.x.A h_o1).2.1).R1
      refine va_get (D := D) (ci := 13) (v := .int (S2_.I o1 1)) (C := RX9) (T := TX9) (N := 11) hx hb hts hi_X9_isSound_X9 hown hK hP k1 hk1 rfl 1 (by decide) (hts (.fieldLink RX9 64 "Hobhouse" "gearCount" "I") (by decide +kernel)) (fun _ h9 => h9) rfl dX9_isSound_4 ?_
      refine lv_icmp_ge (tgt := 94) hx hb dX9_isSound_7 (by decide) (fun c3 => ?_) (fun c3 => ?_)
      · have c3i : (S2_.I o1 1).toInt ≤ w2_1.toInt := le_v rfl rfl c3
        exact ko2 S2_ w2_1 _ _ _ (by omega) hsh2 hP hD hS (lv_sub hl [0, 1] rfl)
      · have c3i : w2_1.toInt < (S2_.I o1 1).toInt := nle_v rfl rfl c3
        refine lv_aload_n hx hb dX9_isSound_10 rfl (lv_at hl 1 rfl) ?_
        refine lv_aload_n hx hb dX9_isSound_11 rfl (lv_at hl 1 rfl) ?_
        have F4 := ((hW.at h_o1 List.not_mem_nil).to_9 h_o1.2.1).F0
        obtain ⟨k5, gk5, hk5⟩ := wGt (cy := cy) X S2_ (hsh2.x.A h_o1).1 (hsh2.x.A h_o1).2.1
        simp only [kE, (hsh2.x.F h_o1 (by decide) F4.1)] at hk5
        refine va_get (D := D) (ci := 13) (v := .ref (S.f o1 0)) (C := RX9) (T := TX9) (N := 11) hx hb hts hi_X9_isSound_X9 hown hK hP k5 hk5 rfl 0 (by decide) (hts (.fieldLink RX9 11 "Hobhouse" "gears" "[LHobhouse$Gear;") (by decide +kernel)) (fun _ h9 => h9) rfl dX9_isSound_12 ?_
        refine lv_iload_n hx hb dX9_isSound_15 rfl (lv_at hl 0 rfl) ?_
        obtain ⟨k6, gk6, hk6⟩ := wGt (cy := cy) X S2_ (hsh2.x.A F4.2.1).1 (hsh2.x.A F4.2.1).2.1
        have i8 := cl_int (i := w2_1) (by omega)
        have g7 := elq (by have h9 := ((hsh2.w.at (hsh2.x.A h_o1) List.not_mem_nil).to_9 (hsh2.x.A h_o1).2.1).E0 w2_1.toNatClampNeg (by omega); rw [f_of (hsh2.x.F h_o1 (by decide) F4.1)] at h9; exact h9)
        refine va_aldq hx hb hK hP k6 4 hk6 rfl (inb (m := 20) ((hsh2.x.n F4.2.1).trans F4.2.2) (by omega) (by omega)) dX9_isSound_16 ?_
        rw [g7.1]
        refine W.eq (g2 := F0 m 17 ls [.ref (S2_.q (S.f o1 0) w2_1.toNatClampNeg), .ref o1]) rfl ?_
        have hFc := free_all hD hS hA
        obtain ⟨k9, gk9, hk9⟩ := wGt (cy := cy) X S2_ (hsh2.x.A h_o1).1 (hsh2.x.A h_o1).2.1
        refine va_calli (va_runV (As := [.ref (S2_.q (S.f o1 0) w2_1.toNatClampNeg)]) (rest := []) ⟨hx, hb, hml, hown, hts⟩ (c_X9_isMatedRightly l (cy := cy) (X := X) (D := D) S2_ _ o1 (hsh2.x.A h_o1) (S2_.q (S.f o1 0) w2_1.toNatClampNeg) g7.2 (hsh2.w)) (cwV 1 hts gX9_isSound_X9_isMatedRightly rfl rfl rfl hd_X9_isMatedRightly ⟨Nat.le_of_ble_eq_true rfl, Nat.le_of_ble_eq_true rfl⟩) (pV (va_recv hK hP (q := (RX9, TX9, 11)) (ci := 13) (q0 := k9) rfl hk9) hP hK hD hN) rfl rfl hl.1 rfl (lv_room (Nat.le_of_ble_eq_true rfl)) dX9_isSound_17 ⟨(Nat.zero_le _), (Nat.zero_le _)⟩) hS (fun q _ h => hFc q h) hFc (fun r10 u t H1 locs ht hvm hw hB hz1 hk1 hS => ?_)
        have c11 := hw
        obtain ⟨hP, hD⟩ := wd_post hFc ht hB
        generalize H1 = H at hP hS ⊢
        obtain rfl : f_X9_isMatedRightly S2_ o1 (S2_.q (S.f o1 0) w2_1.toNatClampNeg) = r10 := c11.symm
        refine lv_if_ne (tgt := 25) hx hb dX9_isSound_20 (by decide) (fun c12 => ?_) (fun c12 => ?_)
        · have c12i : ¬ (f_X9_isMatedRightly S2_ o1 (S2_.q (S.f o1 0) w2_1.toNatClampNeg)).toInt = 0 := neq_v rfl rfl c12
          refine lv_iload_n hx hb dX9_isSound_25 rfl (lv_at hl 0 rfl) ?_
          refine lv_iconst (v := 1) hx hb dX9_isSound_26 (by decide) ?_
          refine lv_iadd hx hb dX9_isSound_27 ?_
          refine lv_istore_n (lv' := [(2, .int (w2_1 + (1 : Int32))), (1, .int w2_1), (0, .ref o1)]) hx hb dX9_isSound_28 rfl hl (by decide) rfl (fun ls hl => ?_)
          have l32_1 : (1 : Int32).toInt = 1 := rfl
          have i13 : (w2_1 + (1 : Int32)).toInt = w2_1.toInt + 1 := t_addr (n := 1) rfl (by omega)
          have loop29 : ∀ (n : Nat) (S29_ : wPS) (w29_2 : Int32) (H : Heap) (locs : List Loc) (ls : Array Slot), (22 - w29_2.toInt).toNat < n → 0 ≤ w29_2.toInt ∧ w29_2.toInt ≤ 21 ∧ 0 ≤ w2_1.toInt ∧ w2_1.toInt < (S.I o1 1).toInt ∧ (S29_.I o1 1).toInt = (S.I o1 1).toInt → stp [(6, 4), (17, 100)] [] [] S2_ S29_ → va_P D vwCl (X ++ PL cy S29_) H → va_D A (X ++ PL cy S29_) → va_S A s.heap H locs → lv_has ls 3 [(2, .int w29_2), (1, .int w2_1), (0, .ref o1)] → (∀ (S29_x : wPS) (w29_2x : Int32) (H : Heap) (locs : List Loc) (ls : Array Slot), 0 ≤ w29_2x.toInt ∧ w29_2x.toInt ≤ 21 ∧ 0 ≤ w2_1.toInt ∧ w2_1.toInt < (S.I o1 1).toInt ∧ (S29_x.I o1 1).toInt = (S.I o1 1).toInt → stp [(6, 4), (17, 100)] [] [] S2_ S29_x → va_P D vwCl (X ++ PL cy S29_x) H → va_D A (X ++ PL cy S29_x) → va_S A s.heap H locs → lv_has ls 3 [(2, .int w29_2x), (1, .int w2_1), (0, .ref o1)] → W p l e (headSpec wsX9_isSound ({ frames := 6, cells := 0, slots := 0, locals := 137 } : Room)).room s m [.ref o1].toArray below meth c H locs 0 0 (MQ below (va_Qi (fun r (u : wPS) => stp [(6, 4), (17, 100)] [] [] S u) (fun u t => WD D cy X A u t) A) [.ref o1].toArray s 0 0 A) (F0 m 88 ls [])) → W p l e (headSpec wsX9_isSound ({ frames := 6, cells := 0, slots := 0, locals := 137 } : Room)).room s m [.ref o1].toArray below meth c H locs 0 0 (MQ below (va_Qi (fun r (u : wPS) => stp [(6, 4), (17, 100)] [] [] S u) (fun u t => WD D cy X A u t) A) [.ref o1].toArray s 0 0 A) (F0 m 29 ls []) := by
            intro n29
            induction n29 with
            | zero => intro S29_ w29_2 H locs ls hm; exact absurd hm (Nat.not_lt_zero _)
            | succ n29 ih29 =>
              intro S29_ w29_2 H locs ls hm29 hi29 hsh29 hP hD hS hl ko29
              refine lv_iload_n hx hb dX9_isSound_29 rfl (lv_at hl 0 rfl) ?_
              refine lv_aload_n hx hb dX9_isSound_30 rfl (lv_at hl 2 rfl) ?_
              obtain ⟨k14, gk14, hk14⟩ := wGt (cy := cy) X S29_ (hsh29.x.A (hsh2.x.A h_o1)).1 (hsh29.x.A (hsh2.x.A h_o1)).2.1
              have i15 := ((hsh29.w.at (hsh29.x.A (hsh2.x.A h_o1)) List.not_mem_nil).to_9 (hsh29.x.A (hsh2.x.A h_o1)).2.1).R1
              refine va_get (D := D) (ci := 13) (v := .int (S29_.I o1 1)) (C := RX9) (T := TX9) (N := 11) hx hb hts hi_X9_isSound_X9 hown hK hP k14 hk14 rfl 1 (by decide) (hts (.fieldLink RX9 64 "Hobhouse" "gearCount" "I") (by decide +kernel)) (fun _ h9 => h9) rfl dX9_isSound_31 ?_
              refine lv_icmp_ge (tgt := 88) hx hb dX9_isSound_34 (by decide) (fun c16 => ?_) (fun c16 => ?_)
              · have c16i : (S29_.I o1 1).toInt ≤ w29_2.toInt := le_v rfl rfl c16
                exact ko29 S29_ w29_2 _ _ _ (by omega) hsh29 hP hD hS (lv_sub hl [0, 1, 2] rfl)
              · have c16i : w29_2.toInt < (S29_.I o1 1).toInt := nle_v rfl rfl c16
                refine lv_aload_n hx hb dX9_isSound_37 rfl (lv_at hl 2 rfl) ?_
                obtain ⟨k17, gk17, hk17⟩ := wGt (cy := cy) X S29_ (hsh29.x.A (hsh2.x.A h_o1)).1 (hsh29.x.A (hsh2.x.A h_o1)).2.1
                simp only [kE, ((hsh2.x.tr hsh29.x).F h_o1 (by decide) F4.1)] at hk17
                refine va_get (D := D) (ci := 13) (v := .ref (S.f o1 0)) (C := RX9) (T := TX9) (N := 11) hx hb hts hi_X9_isSound_X9 hown hK hP k17 hk17 rfl 0 (by decide) (hts (.fieldLink RX9 11 "Hobhouse" "gears" "[LHobhouse$Gear;") (by decide +kernel)) (fun _ h9 => h9) rfl dX9_isSound_38 ?_
                refine lv_iload_n hx hb dX9_isSound_41 rfl (lv_at hl 1 rfl) ?_
                obtain ⟨k18, gk18, hk18⟩ := wGt (cy := cy) X S29_ (hsh29.x.A (hsh2.x.A F4.2.1)).1 (hsh29.x.A (hsh2.x.A F4.2.1)).2.1
                have i20 := cl_int (i := w2_1) (by omega)
                have g19 := elq (by have h9 := ((hsh29.w.at (hsh29.x.A (hsh2.x.A h_o1)) List.not_mem_nil).to_9 (hsh29.x.A (hsh2.x.A h_o1)).2.1).E0 w2_1.toNatClampNeg (by omega); rw [f_of ((hsh2.x.tr hsh29.x).F h_o1 (by decide) F4.1)] at h9; exact h9)
                refine va_aldq hx hb hK hP k18 4 hk18 rfl (inb (m := 20) (((hsh2.x.tr hsh29.x).n F4.2.1).trans F4.2.2) (by omega) (by omega)) dX9_isSound_42 ?_
                rw [g19.1]
                refine W.eq (g2 := F0 m 43 ls [.ref (S29_.q (S.f o1 0) w2_1.toNatClampNeg)]) rfl ?_
                refine lv_aload_n hx hb dX9_isSound_43 rfl (lv_at hl 2 rfl) ?_
                obtain ⟨k21, gk21, hk21⟩ := wGt (cy := cy) X S29_ (hsh29.x.A (hsh2.x.A h_o1)).1 (hsh29.x.A (hsh2.x.A h_o1)).2.1
                simp only [kE, ((hsh2.x.tr hsh29.x).F h_o1 (by decide) F4.1)] at hk21
                refine va_get (D := D) (ci := 13) (v := .ref (S.f o1 0)) (C := RX9) (T := TX9) (N := 11) hx hb hts hi_X9_isSound_X9 hown hK hP k21 hk21 rfl 0 (by decide) (hts (.fieldLink RX9 11 "Hobhouse" "gears" "[LHobhouse$Gear;") (by decide +kernel)) (fun _ h9 => h9) rfl dX9_isSound_44 ?_
                refine lv_iload_n hx hb dX9_isSound_47 rfl (lv_at hl 0 rfl) ?_
                obtain ⟨k22, gk22, hk22⟩ := wGt (cy := cy) X S29_ (hsh29.x.A (hsh2.x.A F4.2.1)).1 (hsh29.x.A (hsh2.x.A F4.2.1)).2.1
                have i24 := cl_int (i := w29_2) (by omega)
                have g23 := elq (by have h9 := ((hsh29.w.at (hsh29.x.A (hsh2.x.A h_o1)) List.not_mem_nil).to_9 (hsh29.x.A (hsh2.x.A h_o1)).2.1).E0 w29_2.toNatClampNeg (by omega); rw [f_of ((hsh2.x.tr hsh29.x).F h_o1 (by decide) F4.1)] at h9; exact h9)
                refine va_aldq hx hb hK hP k22 4 hk22 rfl (inb (m := 20) (((hsh2.x.tr hsh29.x).n F4.2.1).trans F4.2.2) (by omega) (by omega)) dX9_isSound_48 ?_
                rw [g23.1]
                refine W.eq (g2 := F0 m 49 ls [.ref (S29_.q (S.f o1 0) w29_2.toNatClampNeg), .ref (S29_.q (S.f o1 0) w2_1.toNatClampNeg)]) rfl ?_
                have hFc := free_all hD hS hA
                obtain ⟨k25, gk25, hk25⟩ := wGt (cy := cy) X S29_ g19.2.1 g19.2.2.1
                refine va_calli (va_runV (As := [.ref (S29_.q (S.f o1 0) w29_2.toNatClampNeg)]) (rest := []) ⟨hx, hb, hml, hown, hts⟩ (c_X2_pairsWith l (cy := cy) (X := X) (D := D) S29_ _ (S29_.q (S.f o1 0) w2_1.toNatClampNeg) g19.2 (S29_.q (S.f o1 0) w29_2.toNatClampNeg) g23.2) (cwV 1 hts gX9_isSound_X2_pairsWith rfl rfl rfl hd_X2_pairsWith ⟨Nat.le_of_ble_eq_true rfl, Nat.le_of_ble_eq_true rfl⟩) (pV (va_recv hK hP (q := (RX2, TX2, 20)) (ci := 6) (q0 := k25) rfl hk25) hP hK hD hN) rfl rfl hl.1 rfl (lv_room (Nat.le_of_ble_eq_true rfl)) dX9_isSound_49 ⟨(Nat.zero_le _), (Nat.zero_le _)⟩) hS (fun q _ h => hFc q h) hFc (fun r26 u t H1 locs ht hvm hw hB hz1 hk1 hS => ?_)
                have c27 := hw
                obtain ⟨hP, hD⟩ := wd_post hFc ht hB
                generalize H1 = H at hP hS ⊢
                obtain rfl : f_X2_pairsWith S29_ (S29_.q (S.f o1 0) w2_1.toNatClampNeg) (S29_.q (S.f o1 0) w29_2.toNatClampNeg) = r26 := c27.symm
                refine lv_if_eq (tgt := 82) hx hb dX9_isSound_52 (by decide) (fun c28 => ?_) (fun c28 => ?_)
                · have c28i : (f_X2_pairsWith S29_ (S29_.q (S.f o1 0) w2_1.toNatClampNeg) (S29_.q (S.f o1 0) w29_2.toNatClampNeg)).toInt = 0 := eq_v rfl rfl c28
                  refine lv_iinc (v := w29_2 + (1 : Int32)) (lv' := [(2, .int (w29_2 + (1 : Int32))), (1, .int w2_1), (0, .ref o1)]) hx hb dX9_isSound_82 hl (k := 0) rfl (by rfl) (by decide) rfl (fun ls hl => ?_)
                  refine lv_goto (tgt := 29) hx hb dX9_isSound_85 (by decide) ?_
                  have i29 : (w29_2 + (1 : Int32)).toInt = w29_2.toInt + 1 := t_addr (n := 1) rfl (by omega)
                  exact ih29 S29_ (w29_2 + (1 : Int32)) _ _ _ (Nat.lt_of_lt_of_le (by omega) (Nat.le_of_lt_succ hm29)) (by omega) hsh29 hP hD hS (lv_sub hl [0, 1, 2] rfl) ko29
                · have c28i : ¬ (f_X2_pairsWith S29_ (S29_.q (S.f o1 0) w2_1.toNatClampNeg) (S29_.q (S.f o1 0) w29_2.toNatClampNeg)).toInt = 0 := neq_v rfl rfl c28
                  refine lv_aload_n hx hb dX9_isSound_55 rfl (lv_at hl 2 rfl) ?_
                  refine lv_aload_n hx hb dX9_isSound_56 rfl (lv_at hl 2 rfl) ?_
                  obtain ⟨k30, gk30, hk30⟩ := wGt (cy := cy) X S29_ (hsh29.x.A (hsh2.x.A h_o1)).1 (hsh29.x.A (hsh2.x.A h_o1)).2.1
                  simp only [kE, ((hsh2.x.tr hsh29.x).F h_o1 (by decide) F4.1)] at hk30
                  refine va_get (D := D) (ci := 13) (v := .ref (S.f o1 0)) (C := RX9) (T := TX9) (N := 11) hx hb hts hi_X9_isSound_X9 hown hK hP k30 hk30 rfl 0 (by decide) (hts (.fieldLink RX9 11 "Hobhouse" "gears" "[LHobhouse$Gear;") (by decide +kernel)) (fun _ h9 => h9) rfl dX9_isSound_57 ?_
                  refine lv_iload_n hx hb dX9_isSound_60 rfl (lv_at hl 1 rfl) ?_
                  obtain ⟨k31, gk31, hk31⟩ := wGt (cy := cy) X S29_ (hsh29.x.A (hsh2.x.A F4.2.1)).1 (hsh29.x.A (hsh2.x.A F4.2.1)).2.1
                  have i33 := cl_int (i := w2_1) (by omega)
                  have g32 := elq (by have h9 := ((hsh29.w.at (hsh29.x.A (hsh2.x.A h_o1)) List.not_mem_nil).to_9 (hsh29.x.A (hsh2.x.A h_o1)).2.1).E0 w2_1.toNatClampNeg (by omega); rw [f_of ((hsh2.x.tr hsh29.x).F h_o1 (by decide) F4.1)] at h9; exact h9)
                  refine va_aldq hx hb hK hP k31 4 hk31 rfl (inb (m := 20) (((hsh2.x.tr hsh29.x).n F4.2.1).trans F4.2.2) (by omega) (by omega)) dX9_isSound_61 ?_
                  rw [g32.1]
                  refine W.eq (g2 := F0 m 62 ls [.ref (S29_.q (S.f o1 0) w2_1.toNatClampNeg), .ref o1]) rfl ?_
                  have F34 := ((hsh29.w.at g32.2 List.not_mem_nil).to_2 g32.2.2.1).F5
                  obtain ⟨k35, gk35, hk35⟩ := wGt (cy := cy) X S29_ g32.2.1 g32.2.2.1
                  simp only [kE, F34.1] at hk35
                  refine va_get (D := D) (ci := 6) (v := .ref (S29_.f (S29_.q (S.f o1 0) w2_1.toNatClampNeg) 5)) (C := RX2) (T := TX2) (N := 20) hx hb hts hi_X9_isSound_X2 hown hK hP k35 hk35 rfl 5 (by decide) (hts (.fieldLink RX9 339 "Hobhouse$Gear" "chart" "LHobhouse$Chart;") (by decide +kernel)) (fun _ h9 => h9) rfl dX9_isSound_62 ?_
                  refine lv_aload_n hx hb dX9_isSound_65 rfl (lv_at hl 2 rfl) ?_
                  obtain ⟨k36, gk36, hk36⟩ := wGt (cy := cy) X S29_ (hsh29.x.A (hsh2.x.A h_o1)).1 (hsh29.x.A (hsh2.x.A h_o1)).2.1
                  simp only [kE, ((hsh2.x.tr hsh29.x).F h_o1 (by decide) F4.1)] at hk36
                  refine va_get (D := D) (ci := 13) (v := .ref (S.f o1 0)) (C := RX9) (T := TX9) (N := 11) hx hb hts hi_X9_isSound_X9 hown hK hP k36 hk36 rfl 0 (by decide) (hts (.fieldLink RX9 11 "Hobhouse" "gears" "[LHobhouse$Gear;") (by decide +kernel)) (fun _ h9 => h9) rfl dX9_isSound_66 ?_
                  refine lv_iload_n hx hb dX9_isSound_69 rfl (lv_at hl 0 rfl) ?_
                  obtain ⟨k37, gk37, hk37⟩ := wGt (cy := cy) X S29_ (hsh29.x.A (hsh2.x.A F4.2.1)).1 (hsh29.x.A (hsh2.x.A F4.2.1)).2.1
                  have i39 := cl_int (i := w29_2) (by omega)
                  have g38 := elq (by have h9 := ((hsh29.w.at (hsh29.x.A (hsh2.x.A h_o1)) List.not_mem_nil).to_9 (hsh29.x.A (hsh2.x.A h_o1)).2.1).E0 w29_2.toNatClampNeg (by omega); rw [f_of ((hsh2.x.tr hsh29.x).F h_o1 (by decide) F4.1)] at h9; exact h9)
                  refine va_aldq hx hb hK hP k37 4 hk37 rfl (inb (m := 20) (((hsh2.x.tr hsh29.x).n F4.2.1).trans F4.2.2) (by omega) (by omega)) dX9_isSound_70 ?_
                  rw [g38.1]
                  refine W.eq (g2 := F0 m 71 ls [.ref (S29_.q (S.f o1 0) w29_2.toNatClampNeg), .ref (S29_.f (S29_.q (S.f o1 0) w2_1.toNatClampNeg) 5), .ref o1]) rfl ?_
                  have F40 := ((hsh29.w.at g38.2 List.not_mem_nil).to_2 g38.2.2.1).F5
                  obtain ⟨k41, gk41, hk41⟩ := wGt (cy := cy) X S29_ g38.2.1 g38.2.2.1
                  simp only [kE, F40.1] at hk41
                  refine va_get (D := D) (ci := 6) (v := .ref (S29_.f (S29_.q (S.f o1 0) w29_2.toNatClampNeg) 5)) (C := RX2) (T := TX2) (N := 20) hx hb hts hi_X9_isSound_X2 hown hK hP k41 hk41 rfl 5 (by decide) (hts (.fieldLink RX9 339 "Hobhouse$Gear" "chart" "LHobhouse$Chart;") (by decide +kernel)) (fun _ h9 => h9) rfl dX9_isSound_71 ?_
                  have hFc := free_all hD hS hA
                  obtain ⟨k42, gk42, hk42⟩ := wGt (cy := cy) X S29_ (hsh29.x.A (hsh2.x.A h_o1)).1 (hsh29.x.A (hsh2.x.A h_o1)).2.1
                  refine va_calli (va_runV (As := [.ref (S29_.f (S29_.q (S.f o1 0) w2_1.toNatClampNeg) 5), .ref (S29_.f (S29_.q (S.f o1 0) w29_2.toNatClampNeg) 5)]) (rest := []) ⟨hx, hb, hml, hown, hts⟩ (c_X9_rollsAsTold l (cy := cy) (X := X) (D := D) S29_ _ o1 (hsh29.x.A (hsh2.x.A h_o1)) (S29_.f (S29_.q (S.f o1 0) w2_1.toNatClampNeg) 5) F34.2 (S29_.f (S29_.q (S.f o1 0) w29_2.toNatClampNeg) 5) F40.2 (hsh29.w)) (cwV 2 hts gX9_isSound_X9_rollsAsTold rfl rfl rfl hd_X9_rollsAsTold ⟨Nat.le_of_ble_eq_true rfl, Nat.le_of_ble_eq_true rfl⟩) (pV (va_recv hK hP (q := (RX9, TX9, 11)) (ci := 13) (q0 := k42) rfl hk42) hP hK hD hN) rfl rfl hl.1 rfl (lv_room (Nat.le_of_ble_eq_true rfl)) dX9_isSound_74 ⟨(Nat.zero_le _), (Nat.zero_le _)⟩) hS (fun q _ h => hFc q h) hFc (fun r43 u t H1 locs ht hvm hw hB hz1 hk1 hS => ?_)
                  have w44 := hw
                  obtain ⟨hP, hD⟩ := wd_post hFc ht hB
                  generalize H1 = H at hP hS ⊢
                  obtain ⟨S45, rfl⟩ : ∃ z, z = u := ⟨_, rfl⟩
                  have t46 : stp [(6, 4), (17, 100)] [] [] S2_ S45 := hsh29.tr w44 (by decide) (fun _ q => absurd q List.not_mem_nil)
                  have xe47 : ext S29_ S45 := w44.x
                  have k48 : (S45.I o1 1).toInt = (S29_.I o1 1).toInt := by rw [(w44.fR o1 ((hsh2.x.tr hsh29.x).A h_o1).1 List.not_mem_nil).1 1 (by rw [((hsh2.x.tr hsh29.x).A h_o1).2.1]; decide) |>.1]
                  refine lv_if_ne (tgt := 82) hx hb dX9_isSound_77 (by decide) (fun c49 => ?_) (fun c49 => ?_)
                  · have c49i : ¬ r43.toInt = 0 := neq_v rfl rfl c49
                    refine lv_iinc (v := w29_2 + (1 : Int32)) (lv' := [(2, .int (w29_2 + (1 : Int32))), (1, .int w2_1), (0, .ref o1)]) hx hb dX9_isSound_82 hl (k := 0) rfl (by rfl) (by decide) rfl (fun ls hl => ?_)
                    refine lv_goto (tgt := 29) hx hb dX9_isSound_85 (by decide) ?_
                    have i50 : (w29_2 + (1 : Int32)).toInt = w29_2.toInt + 1 := t_addr (n := 1) rfl (by omega)
                    exact ih29 S45 (w29_2 + (1 : Int32)) _ _ _ (Nat.lt_of_lt_of_le (by omega) (Nat.le_of_lt_succ hm29)) (by omega) t46 hP hD hS (lv_sub hl [0, 1, 2] rfl) ko29
                  · have c49i : r43.toInt = 0 := eq_v rfl rfl c49
                    refine lv_iconst (v := 0) hx hb dX9_isSound_80 (by decide) ?_
                    refine W.widen (k := 0) (n := 0) (Nat.le_of_ble_eq_true rfl) (Nat.le_of_ble_eq_true rfl) ?_
                    exact W.zret (v := (0 : Int32)) hx hb hr (by rfl) (fun t ht hW9 => ⟨⟨(0 : Int32), S45, rfl, (t0.tr (hsh2.tr t46 (fun _ q => q) (fun _ q => Or.inl q)) (fun _ q => q) (fun _ q => Or.inl q)), wd_end hP hK hD ht hW9.alike⟩, hS.F ht⟩) hS.2.2 dX9_isSound_81 hlocks
          refine loop29 23 S2_ (w2_1 + (1 : Int32)) _ _ _ (by omega) (by omega) (stp.rf hsh2.w) hP hD hS (lv_sub hl [0, 1, 2] rfl) (fun S52 z53 H locs ls hi29 hsh29 hP hD hS hl => ?_)
          have t54 : stp [(6, 4), (17, 100)] [] [] S S52 := hsh2.tr hsh29 (fun _ q => q) (fun _ q => Or.inl q)
          have et54 := hsh29.x
          refine lv_iinc (v := w2_1 + (1 : Int32)) (lv' := [(1, .int (w2_1 + (1 : Int32))), (2, .int z53), (0, .ref o1)]) hx hb dX9_isSound_88 hl (k := 1) rfl (by rfl) (by decide) rfl (fun ls hl => ?_)
          refine lv_goto (tgt := 2) hx hb dX9_isSound_91 (by decide) ?_
          exact ih2 S52 (w2_1 + (1 : Int32)) _ _ _ (Nat.lt_of_lt_of_le (by omega) (Nat.le_of_lt_succ hm2)) (by omega) t54 hP hD hS (lv_sub hl [0, 2] rfl) ko2
        · have c12i : (f_X9_isMatedRightly S2_ o1 (S2_.q (S.f o1 0) w2_1.toNatClampNeg)).toInt = 0 := eq_v rfl rfl c12
          refine lv_iconst (v := 0) hx hb dX9_isSound_23 (by decide) ?_
          refine W.widen (k := 0) (n := 0) (Nat.le_of_ble_eq_true rfl) (Nat.le_of_ble_eq_true rfl) ?_
          exact W.zret (v := (0 : Int32)) hx hb hr (by rfl) (fun t ht hW9 => ⟨⟨(0 : Int32), S2_, rfl, (t0.tr hsh2 (fun _ q => q) (fun _ q => Or.inl q)), wd_end hP hK hD ht hW9.alike⟩, hS.F ht⟩) hS.2.2 dX9_isSound_24 hlocks
  refine loop2 22 S (0 : Int32) _ _ _ (by omega) (by omega) (stp.rf hW) hP hD hS (lv_sub hl [0, 1] rfl) (fun S56 z57 H locs ls hi2 hsh2 hP hD hS hl => ?_)
  have t58 : stp [(6, 4), (17, 100)] [] [] S S56 := t0.tr hsh2 (fun _ q => q) (fun _ q => Or.inl q)
  have et58 := hsh2.x
  refine lv_iconst (v := 1) hx hb dX9_isSound_94 (by decide) ?_
  refine W.widen (k := 0) (n := 0) (Nat.le_of_ble_eq_true rfl) (Nat.le_of_ble_eq_true rfl) ?_
  exact W.zret (v := (1 : Int32)) hx hb hr (by rfl) (fun t ht hW9 => ⟨⟨(1 : Int32), S56, rfl, t58, wd_end hP hK hD ht hW9.alike⟩, hS.F ht⟩) hS.2.2 dX9_isSound_95 hlocks
theorem nI_all {x : Int32} {n : Nat} (h : 0 ≤ x.toInt ∧ x.toInt < n) (hn : n ≤ 100000) : ∃ j : Nat, j < n ∧ x = nI j := by
  obtain ⟨j, hj, e⟩ := nI_of (x := x) (nneg_i h.1)
  refine ⟨j, ?_, e⟩
  have h1 : x.toInt = (j : Int) := by rw [e]; exact nI_toInt hj
  omega
theorem fdn_all : ∀ i : Fin 21, ∀ j : Fin 20, (FP.fdiv (FP.i2f (nI i.val)) (FP.i2f (nI (j.val + 1)))) &&& 0x7fffffff ≤ 0x7f800000 := by decide +kernel
theorem fdn {a b : Int32} (ha : 0 ≤ a.toInt ∧ a.toInt ≤ 20) (hb : 1 ≤ b.toInt ∧ b.toInt ≤ 20) : vf_n32 (FP.fdiv (FP.i2f a) (FP.i2f b)) := by
  obtain ⟨i, hi, rfl⟩ := nI_all (x := a) (n := 21) (by omega) (by decide)
  obtain ⟨j, hj, rfl⟩ := nI_all (x := b) (n := 21) (by omega) (by decide)
  have h0 : (nI j).toInt = (j : Int) := nI_toInt (by omega)
  obtain ⟨k, rfl⟩ : ∃ k, j = k + 1 := ⟨j - 1, by omega⟩
  exact fdn_all ⟨i, hi⟩ ⟨k, by omega⟩
theorem ddn_all : ∀ i : Fin 261, ∀ j : Fin 20, (FP.ddiv (FP.i2d (nI i.val)) (FP.i2d (nI (j.val + 1)))) &&& 0x7fffffffffffffff ≤ 0x7ff0000000000000 := by decide +kernel
theorem ddn {a b : Int32} (ha : 0 ≤ a.toInt ∧ a.toInt ≤ 260) (hb : 1 ≤ b.toInt ∧ b.toInt ≤ 20) : vf_n64 (FP.ddiv (FP.i2d a) (FP.i2d b)) := by
  obtain ⟨i, hi, rfl⟩ := nI_all (x := a) (n := 261) (by omega) (by decide)
  obtain ⟨j, hj, rfl⟩ := nI_all (x := b) (n := 21) (by omega) (by decide)
  have h0 : (nI j).toInt = (j : Int) := nI_toInt (by omega)
  obtain ⟨k, rfl⟩ : ∃ k, j = k + 1 := ⟨j - 1, by omega⟩
  exact ddn_all ⟨i, hi⟩ ⟨k, by omega⟩
theorem f2n_all : ∀ i : Fin 21, ∀ j : Fin 20, (FP.f2d (FP.fdiv (FP.i2f (nI i.val)) (FP.i2f (nI (j.val + 1))))) &&& 0x7fffffffffffffff ≤ 0x7ff0000000000000 := by decide +kernel
theorem f2n {a b : Int32} (ha : 0 ≤ a.toInt ∧ a.toInt ≤ 20) (hb : 1 ≤ b.toInt ∧ b.toInt ≤ 20) : vf_n64 (FP.f2d (FP.fdiv (FP.i2f a) (FP.i2f b))) := by
  obtain ⟨i, hi, rfl⟩ := nI_all (x := a) (n := 21) (by omega) (by decide)
  obtain ⟨j, hj, rfl⟩ := nI_all (x := b) (n := 21) (by omega) (by decide)
  have h0 : (nI j).toInt = (j : Int) := nI_toInt (by omega)
  obtain ⟨k, rfl⟩ : ∃ k, j = k + 1 := ⟨j - 1, by omega⟩
  exact f2n_all ⟨i, hi⟩ ⟨k, by omega⟩
theorem na_i {S : wPS} {o : Nat} (h : f_X9_needAnyGear S o = .ok ()) : ¬ (S.I o 1).toInt = 0 := by
  unfold f_X9_needAnyGear at h
  split at h
  · cases h
  · rename_i h1; exact neq_v rfl rfl h1
theorem hi_X9_cutShare_X2 : ∀ w ∈ u_ws RX2 TX2 20, w ∈ wsX9_cutShare := by decide +kernel
theorem hi_X9_cutShare_X9 : ∀ w ∈ u_ws RX9 TX9 11, w ∈ wsX9_cutShare := by decide +kernel
theorem hd_X9_cutShare : yX9_cutShare.cls = RX9 ∧ yX9_cutShare.cls ≠ "java/lang/invoke/MethodHandle" ∧ yX9_cutShare.cls ≠ "java/lang/invoke/VarHandle" ∧ (parseMethodDescriptor yX9_cutShare.desc).map (fun d => d.parameters.length) = some 0 := by decide +kernel
set_option maxHeartbeats 4000000 in
set_option maxRecDepth 100000 in
theorem c_X9_cutShare (l : Launch) (hst : l.stackTraces = false) {D : va_G} {cy : Nat → ClassId} {X : va_W} (S : wPS) (sz : Nat) (o1 : Nat) (h_o1 : isA S o1 9) (hW : wtB S [])  : vx_Met l yX9_cutShare wsX9_cutShare ({ frames := 7, cells := 1, slots := 6, locals := 102 }) (va_Pc [.ref o1] (fun U => U.heap.size = sz ∧ WD D cy X (fun _ => True) S U ∧ NW U ∧ TH (va_A (X ++ PL cy S) sz) U)) (va_Qf (fun r (_ : Unit) => vf_n64 (FP.f2d r)) (fun _ t => WD D cy X (va_A (X ++ PL cy S) sz) S t) (va_A (X ++ PL cy S) sz)) (vx_X (fun (_ : Unit) => True) (fun E _ t => E ∈ ["java/lang/ArithmeticException"] ∧ WD D cy X (va_A (X ++ PL cy S) sz) S t) (va_A (X ++ PL cy S) sz)) 1 6 (va_A (X ++ PL cy S) sz) := by
  refine vx_ofW (cc := cX9_cutShare) (maxL := 3) (ret := (some .float)) (by decide) rfl ?_
  intro p e s m args below meth c s₁ B hml hno hv
  obtain ⟨rfl, hsz, ⟨hP, hK, hD0⟩, hN, hTH⟩ := hv
  have hx := B.exec
  have hb := B.bytes
  have hr := B.returns
  have hts := atoms_spec (ws := wsX9_cutShare) B.pre
  have hown : s.vm.findClass RX9 = some m.cls := findClass_of_methodNamed (x := yX9_cutShare) B.named
  have hlocks := B.notSynchronized
  subst hsz
  have hD := hD0.self (sz := s.heap.size)
  generalize hAe : va_A (X ++ PL cy S) s.heap.size = A at hD hTH ⊢
  have hA : ∀ q : Nat, s.heap.size ≤ q → A q := fun q h => by rw [← hAe]; exact Or.inr h
  have hS : va_S A s.heap s.heap [] := va_S.rf
  have hl := lv_entry ([.ref o1]) (n := 3) (Nat.le_of_ble_eq_true rfl)
  rw [lg_entry_eq]
  generalize (lg_sl ([.ref o1]) ++ List.replicate (3 - (lg_sl ([.ref o1])).length) Slot.unset).toArray = ls at hl ⊢
  have hl : lv_has ls 3 [(0, .ref o1)] := hl
  refine lv_aload_n hx hb dX9_cutShare_0 rfl (lv_at hl 0 rfl) ?_
  have hFc := free_all hD hS hA
  obtain ⟨k1, gk1, hk1⟩ := wGt (cy := cy) X S h_o1.1 h_o1.2.1
  refine vx_callv (vx_runV (As := []) (rest := []) ⟨hx, hb, hml, hown, hts⟩ (c_X9_needAnyGear l hst (cy := cy) (X := X) (D := D) S _ o1 h_o1) (cwV 0 hts gX9_cutShare_X9_needAnyGear rfl rfl rfl hd_X9_needAnyGear ⟨Nat.le_of_ble_eq_true rfl, Nat.le_of_ble_eq_true rfl⟩) (pVt (va_recv hK hP (q := (RX9, TX9, 11)) (ci := 13) (q0 := k1) rfl hk1) hP hK hD hN hTH hS hFc) rfl rfl hl.1 rfl (lv_room (Nat.le_of_ble_eq_true rfl)) dX9_cutShare_1 ⟨Nat.le_of_ble_eq_true rfl, Nat.le_of_ble_eq_true rfl⟩) hS (fun q _ h => hFc q h) hFc (fun q _ h => hFc q h) (fun E ce q9 u t H1 locs ht hvm hw hB hz1 hk1 hS hq9 hce hcl => ?_) (fun u t H1 locs ht hvm hw hB hz1 hk1 hS => ?_)
  · obtain ⟨c3, hEc3, hB2⟩ := hB
    obtain ⟨hP, hD⟩ := wd_post hFc ht hB2
    exact vx_out (fun x h => (hno x h).elim) hlocks hq9 hce hcl (fun t2 ht2 hA2 => ⟨(), trivial, ⟨(el_in (by decide) hEc3), wd_end hP hK hD ht2 hA2⟩, hS.F ht2⟩) hS.2.2 (Nat.le_of_ble_eq_true rfl) (Nat.le_of_ble_eq_true rfl)
  · have c4 := hw
    obtain ⟨hP, hD⟩ := wd_post hFc ht hB
    generalize H1 = H at hP hS ⊢
    have hna := na_i c4
    refine lv_iconst (v := 0) hx hb dX9_cutShare_4 (by decide) ?_
    refine lv_istore_n (lv' := [(1, .int (0 : Int32)), (0, .ref o1)]) hx hb dX9_cutShare_5 rfl hl (by decide) rfl (fun ls hl => ?_)
    refine lv_iconst (v := 0) hx hb dX9_cutShare_6 (by decide) ?_
    refine lv_istore_n (lv' := [(2, .int (0 : Int32)), (1, .int (0 : Int32)), (0, .ref o1)]) hx hb dX9_cutShare_7 rfl hl (by decide) rfl (fun ls hl => ?_)
    have l32_0 : (0 : Int32).toInt = 0 := rfl
    have loop8 : ∀ (n : Nat) (w8_1 : Int32) (w8_2 : Int32) (H : Heap) (locs : List Loc) (ls : Array Slot), (21 - w8_2.toInt).toNat < n → 0 ≤ w8_1.toInt ∧ w8_1.toInt ≤ w8_2.toInt ∧ w8_2.toInt ≤ 20 → va_P D vwCl (X ++ PL cy S) H → va_S A s.heap H locs → lv_has ls 3 [(2, .int w8_2), (1, .int w8_1), (0, .ref o1)] → (∀ (w8_1x : Int32) (w8_2x : Int32) (H : Heap) (locs : List Loc) (ls : Array Slot), 0 ≤ w8_1x.toInt ∧ w8_1x.toInt ≤ w8_2x.toInt ∧ w8_2x.toInt ≤ 20 → va_P D vwCl (X ++ PL cy S) H → va_S A s.heap H locs → lv_has ls 3 [(2, .int w8_2x), (1, .int w8_1x), (0, .ref o1)] → W p l e (headSpec wsX9_cutShare ({ frames := 7, cells := 1, slots := 6, locals := 102 } : Room)).room s m [.ref o1].toArray below meth c H locs 1 6 (vx_MQ below (va_Qf (fun r (_ : Unit) => vf_n64 (FP.f2d r)) (fun _ t => WD D cy X A S t) A) (vx_X (fun (_ : Unit) => True) (fun E _ t => E ∈ ["java/lang/ArithmeticException"] ∧ WD D cy X A S t) A) [.ref o1].toArray s 1 6 A) (F0 m 37 ls [])) → W p l e (headSpec wsX9_cutShare ({ frames := 7, cells := 1, slots := 6, locals := 102 } : Room)).room s m [.ref o1].toArray below meth c H locs 1 6 (vx_MQ below (va_Qf (fun r (_ : Unit) => vf_n64 (FP.f2d r)) (fun _ t => WD D cy X A S t) A) (vx_X (fun (_ : Unit) => True) (fun E _ t => E ∈ ["java/lang/ArithmeticException"] ∧ WD D cy X A S t) A) [.ref o1].toArray s 1 6 A) (F0 m 8 ls []) := by
      intro n8
      induction n8 with
      | zero => intro w8_1 w8_2 H locs ls hm; exact absurd hm (Nat.not_lt_zero _)
      | succ n8 ih8 =>
        intro w8_1 w8_2 H locs ls hm8 hi8 hP hS hl ko8
        refine lv_iload_n hx hb dX9_cutShare_8 rfl (lv_at hl 0 rfl) ?_
        refine lv_aload_n hx hb dX9_cutShare_9 rfl (lv_at hl 2 rfl) ?_
        obtain ⟨k5, gk5, hk5⟩ := wGt (cy := cy) X S h_o1.1 h_o1.2.1
        have i6 := ((hW.at h_o1 List.not_mem_nil).to_9 h_o1.2.1).R1
        refine va_get (D := D) (ci := 13) (v := .int (S.I o1 1)) (C := RX9) (T := TX9) (N := 11) hx hb hts hi_X9_cutShare_X9 hown hK hP k5 hk5 rfl 1 (by decide) (hts (.fieldLink RX9 64 "Hobhouse" "gearCount" "I") (by decide +kernel)) (fun _ h9 => h9) rfl dX9_cutShare_10 ?_
        refine lv_icmp_ge (tgt := 37) hx hb dX9_cutShare_13 (by decide) (fun c7 => ?_) (fun c7 => ?_)
        · have c7i : (S.I o1 1).toInt ≤ w8_2.toInt := le_v rfl rfl c7
          exact ko8 w8_1 w8_2 _ _ _ (by omega) hP hS (lv_sub hl [0, 1, 2] rfl)
        · have c7i : w8_2.toInt < (S.I o1 1).toInt := nle_v rfl rfl c7
          refine lv_aload_n hx hb dX9_cutShare_16 rfl (lv_at hl 2 rfl) ?_
          have F8 := ((hW.at h_o1 List.not_mem_nil).to_9 h_o1.2.1).F0
          obtain ⟨k9, gk9, hk9⟩ := wGt (cy := cy) X S h_o1.1 h_o1.2.1
          simp only [kE, F8.1] at hk9
          refine va_get (D := D) (ci := 13) (v := .ref (S.f o1 0)) (C := RX9) (T := TX9) (N := 11) hx hb hts hi_X9_cutShare_X9 hown hK hP k9 hk9 rfl 0 (by decide) (hts (.fieldLink RX9 11 "Hobhouse" "gears" "[LHobhouse$Gear;") (by decide +kernel)) (fun _ h9 => h9) rfl dX9_cutShare_17 ?_
          refine lv_iload_n hx hb dX9_cutShare_20 rfl (lv_at hl 0 rfl) ?_
          obtain ⟨k10, gk10, hk10⟩ := wGt (cy := cy) X S F8.2.1.1 F8.2.1.2.1
          have i12 := cl_int (i := w8_2) (by omega)
          have g11 := elq (by have h9 := ((hW.at h_o1 List.not_mem_nil).to_9 h_o1.2.1).E0 w8_2.toNatClampNeg (by omega); rw [f_of F8.1] at h9; exact h9)
          refine va_aldq hx hb hK hP k10 4 hk10 rfl (inb (m := 20) F8.2.2 (by omega) (by omega)) dX9_cutShare_21 ?_
          rw [g11.1]
          refine W.eq (g2 := F0 m 22 ls [.ref (S.q (S.f o1 0) w8_2.toNatClampNeg)]) rfl ?_
          obtain ⟨k13, gk13, hk13⟩ := wGt (cy := cy) X S g11.2.1 g11.2.2.1
          have i14 := ((hW.at g11.2 List.not_mem_nil).to_2 g11.2.2.1).R9
          refine va_get (D := D) (ci := 6) (v := .int (S.I (S.q (S.f o1 0) w8_2.toNatClampNeg) 9)) (C := RX2) (T := TX2) (N := 20) hx hb hts hi_X9_cutShare_X2 hown hK hP k13 hk13 rfl 9 (by decide) (hts (.fieldLink RX9 81 "Hobhouse$Gear" "isCut" "Z") (by decide +kernel)) (fun _ h9 => h9) rfl dX9_cutShare_22 ?_
          refine lv_if_eq (tgt := 31) hx hb dX9_cutShare_25 (by decide) (fun c15 => ?_) (fun c15 => ?_)
          · have c15i : (S.I (S.q (S.f o1 0) w8_2.toNatClampNeg) 9).toInt = 0 := eq_v rfl rfl c15
            refine lv_iinc (v := w8_2 + (1 : Int32)) (lv' := [(2, .int (w8_2 + (1 : Int32))), (1, .int w8_1), (0, .ref o1)]) hx hb dX9_cutShare_31 hl (k := 0) rfl (by rfl) (by decide) rfl (fun ls hl => ?_)
            refine lv_goto (tgt := 8) hx hb dX9_cutShare_34 (by decide) ?_
            have l32_1 : (1 : Int32).toInt = 1 := rfl
            have i16 : (w8_2 + (1 : Int32)).toInt = w8_2.toInt + 1 := t_addr (n := 1) rfl (by omega)
            exact ih8 w8_1 (w8_2 + (1 : Int32)) _ _ _ (Nat.lt_of_lt_of_le (by omega) (Nat.le_of_lt_succ hm8)) (by omega) hP hS (lv_sub hl [0, 1, 2] rfl) ko8
          · have c15i : ¬ (S.I (S.q (S.f o1 0) w8_2.toNatClampNeg) 9).toInt = 0 := neq_v rfl rfl c15
            refine lv_iinc (v := w8_1 + (1 : Int32)) (lv' := [(1, .int (w8_1 + (1 : Int32))), (2, .int w8_2), (0, .ref o1)]) hx hb dX9_cutShare_28 hl (k := 1) rfl (by rfl) (by decide) rfl (fun ls hl => ?_)
            refine lv_iinc (v := w8_2 + (1 : Int32)) (lv' := [(2, .int (w8_2 + (1 : Int32))), (1, .int (w8_1 + (1 : Int32))), (0, .ref o1)]) hx hb dX9_cutShare_31 hl (k := 1) rfl (by rfl) (by decide) rfl (fun ls hl => ?_)
            refine lv_goto (tgt := 8) hx hb dX9_cutShare_34 (by decide) ?_
            have l32_1 : (1 : Int32).toInt = 1 := rfl
            have i17 : (w8_1 + (1 : Int32)).toInt = w8_1.toInt + 1 := t_addr (n := 1) rfl (by omega)
            have i18 : (w8_2 + (1 : Int32)).toInt = w8_2.toInt + 1 := t_addr (n := 1) rfl (by omega)
            exact ih8 (w8_1 + (1 : Int32)) (w8_2 + (1 : Int32)) _ _ _ (Nat.lt_of_lt_of_le (by omega) (Nat.le_of_lt_succ hm8)) (by omega) hP hS (lv_sub hl [0, 1, 2] rfl) ko8
    refine loop8 22 (0 : Int32) (0 : Int32) _ _ _ (by omega) (by omega) hP hS (lv_sub hl [0, 1, 2] rfl) (fun z20 z21 H locs ls hi8 hP hS hl => ?_)
    refine lv_iload_n hx hb dX9_cutShare_37 rfl (lv_at hl 1 rfl) ?_
    refine lv_i2f hx hb dX9_cutShare_38 ?_
    refine lv_aload_n hx hb dX9_cutShare_39 rfl (lv_at hl 2 rfl) ?_
    obtain ⟨k22, gk22, hk22⟩ := wGt (cy := cy) X S h_o1.1 h_o1.2.1
    have i23 := ((hW.at h_o1 List.not_mem_nil).to_9 h_o1.2.1).R1
    refine va_get (D := D) (ci := 13) (v := .int (S.I o1 1)) (C := RX9) (T := TX9) (N := 11) hx hb hts hi_X9_cutShare_X9 hown hK hP k22 hk22 rfl 1 (by decide) (hts (.fieldLink RX9 64 "Hobhouse" "gearCount" "I") (by decide +kernel)) (fun _ h9 => h9) rfl dX9_cutShare_40 ?_
    refine lv_i2f hx hb dX9_cutShare_43 ?_
    refine lv_fdiv hx hb dX9_cutShare_44 (fdn (by omega) (by omega)) ?_
    refine vx_ret ?_
    refine W.widen (k := 1) (n := 6) (Nat.le_of_ble_eq_true rfl) (Nat.le_of_ble_eq_true rfl) ?_
    exact W.fret (v := FP.fdiv (FP.i2f z20) (FP.i2f (S.I o1 1))) hx hb hr (fun t ht hW9 => ⟨⟨FP.fdiv (FP.i2f z20) (FP.i2f (S.I o1 1)), (), rfl, (f2n (by omega) (by omega)), wd_end hP hK hD ht hW9.alike⟩, hS.F ht⟩) hS.2.2 dX9_cutShare_45 hlocks
theorem hi_X9_meanGrade_X9 : ∀ w ∈ u_ws RX9 TX9 11, w ∈ wsX9_meanGrade := by decide +kernel
theorem hd_X9_meanGrade : yX9_meanGrade.cls = RX9 ∧ yX9_meanGrade.cls ≠ "java/lang/invoke/MethodHandle" ∧ yX9_meanGrade.cls ≠ "java/lang/invoke/VarHandle" ∧ (parseMethodDescriptor yX9_meanGrade.desc).map (fun d => d.parameters.length) = some 0 := by decide +kernel
set_option maxHeartbeats 4000000 in
set_option maxRecDepth 100000 in
theorem c_X9_meanGrade (l : Launch) (hst : l.stackTraces = false) {e0 mi : Nat} {D : va_G} {cy : Nat → ClassId} {X : va_W} (S : wPS) (sz : Nat) (o1 : Nat) (h_o1 : isA S o1 9) (hW : wtB S [])  : vx_Met l yX9_meanGrade wsX9_meanGrade ({ frames := 7, cells := 1, slots := 6, locals := 102 }) (va_Pc [.ref o1] (fun U => U.heap.size = sz ∧ WD D cy X (fun _ => True) S U ∧ NW U ∧ TH (va_A (X ++ PL cy S) sz) U ∧ OU e0 mi (va_A (X ++ PL cy S) sz) U U.heap)) (va_Qd (fun r (_ : Unit) => True) (fun _ t => WD D cy X (va_A (X ++ PL cy S) sz) S t) (va_A (X ++ PL cy S) sz)) (vx_X (fun (_ : Unit) => True) (fun E _ t => E ∈ ["java/lang/ArithmeticException"] ∧ WD D cy X (va_A (X ++ PL cy S) sz) S t) (va_A (X ++ PL cy S) sz)) 1 6 (va_A (X ++ PL cy S) sz) := by
  refine vx_ofW (cc := cX9_meanGrade) (maxL := 3) (ret := (some .double)) (by decide) rfl ?_
  intro p e s m args below meth c s₁ B hml hno hv
  obtain ⟨rfl, hsz, ⟨hP, hK, hD0⟩, hN, hTH, hOU⟩ := hv
  have hx := B.exec
  have hb := B.bytes
  have hr := B.returns
  have hts := atoms_spec (ws := wsX9_meanGrade) B.pre
  have hown : s.vm.findClass RX9 = some m.cls := findClass_of_methodNamed (x := yX9_meanGrade) B.named
  have hlocks := B.notSynchronized
  subst hsz
  have hD := hD0.self (sz := s.heap.size)
  generalize hAe : va_A (X ++ PL cy S) s.heap.size = A at hD hTH hOU ⊢
  have hA : ∀ q : Nat, s.heap.size ≤ q → A q := fun q h => by rw [← hAe]; exact Or.inr h
  have hS : va_S A s.heap s.heap [] := va_S.rf
  have hl := lv_entry ([.ref o1]) (n := 3) (Nat.le_of_ble_eq_true rfl)
  rw [lg_entry_eq]
  generalize (lg_sl ([.ref o1]) ++ List.replicate (3 - (lg_sl ([.ref o1])).length) Slot.unset).toArray = ls at hl ⊢
  have hl : lv_has ls 3 [(0, .ref o1)] := hl
  obtain ⟨⟨ga, gZ, gX, gl, gA⟩, ⟨sa9, sZ, sX, sl9, sA⟩, cZ, eZ, eX, el, eA, hMi, hDc, ⟨pf, pZ⟩⟩ := id hOU
  refine lv_aload_n hx hb dX9_meanGrade_0 rfl (lv_at hl 0 rfl) ?_
  have hFc := free_all hD hS hA
  obtain ⟨k1, gk1, hk1⟩ := wGt (cy := cy) X S h_o1.1 h_o1.2.1
  refine vx_callv (vx_runV (As := []) (rest := []) ⟨hx, hb, hml, hown, hts⟩ (c_X9_needAnyGear l hst (cy := cy) (X := X) (D := D) S _ o1 h_o1) (cwV 0 hts gX9_meanGrade_X9_needAnyGear rfl rfl rfl hd_X9_needAnyGear ⟨Nat.le_of_ble_eq_true rfl, Nat.le_of_ble_eq_true rfl⟩) (pVt (va_recv hK hP (q := (RX9, TX9, 11)) (ci := 13) (q0 := k1) rfl hk1) hP hK hD hN hTH hS hFc) rfl rfl hl.1 rfl (lv_room (Nat.le_of_ble_eq_true rfl)) dX9_meanGrade_1 ⟨Nat.le_of_ble_eq_true rfl, Nat.le_of_ble_eq_true rfl⟩) hS (fun q _ h => hFc q h) hFc (fun q _ h => hFc q h) (fun E ce q9 u t H1 locs ht hvm hw hB hz1 hk1 hS hq9 hce hcl => ?_) (fun u t H1 locs ht hvm hw hB hz1 hk1 hS => ?_)
  · obtain ⟨c3, hEc3, hB2⟩ := hB
    obtain ⟨hP, hD⟩ := wd_post hFc ht hB2
    exact vx_out (fun x h => (hno x h).elim) hlocks hq9 hce hcl (fun t2 ht2 hA2 => ⟨(), trivial, ⟨(el_in (by decide) hEc3), wd_end hP hK hD ht2 hA2⟩, hS.F ht2⟩) hS.2.2 (Nat.le_of_ble_eq_true rfl) (Nat.le_of_ble_eq_true rfl)
  · have c4 := hw
    obtain ⟨hP, hD⟩ := wd_post hFc ht hB
    generalize H1 = H at hP hS ⊢
    have hna := na_i c4
    refine lv_iconst (v := 0) hx hb dX9_meanGrade_4 (by decide) ?_
    refine lv_istore_n (lv' := [(1, .int (0 : Int32)), (0, .ref o1)]) hx hb dX9_meanGrade_5 rfl hl (by decide) rfl (fun ls hl => ?_)
    refine lv_iconst (v := 0) hx hb dX9_meanGrade_6 (by decide) ?_
    refine lv_istore_n (lv' := [(2, .int (0 : Int32)), (1, .int (0 : Int32)), (0, .ref o1)]) hx hb dX9_meanGrade_7 rfl hl (by decide) rfl (fun ls hl => ?_)
    have l32_0 : (0 : Int32).toInt = 0 := rfl
    have loop8 : ∀ (n : Nat) (w8_1 : Int32) (w8_2 : Int32) (H : Heap) (locs : List Loc) (ls : Array Slot), (21 - w8_2.toInt).toNat < n → 0 ≤ w8_1.toInt ∧ w8_1.toInt ≤ 13 * w8_2.toInt ∧ 0 ≤ w8_2.toInt ∧ w8_2.toInt ≤ 20 → va_P D vwCl (X ++ PL cy S) H → va_S A s.heap H locs → lv_has ls 3 [(2, .int w8_2), (1, .int w8_1), (0, .ref o1)] → (∀ (w8_1x : Int32) (w8_2x : Int32) (H : Heap) (locs : List Loc) (ls : Array Slot), 0 ≤ w8_1x.toInt ∧ w8_1x.toInt ≤ 13 * w8_2x.toInt ∧ 0 ≤ w8_2x.toInt ∧ w8_2x.toInt ≤ 20 → va_P D vwCl (X ++ PL cy S) H → va_S A s.heap H locs → lv_has ls 3 [(2, .int w8_2x), (1, .int w8_1x), (0, .ref o1)] → W p l e (headSpec wsX9_meanGrade ({ frames := 7, cells := 1, slots := 6, locals := 102 } : Room)).room s m [.ref o1].toArray below meth c H locs 1 6 (vx_MQ below (va_Qd (fun r (_ : Unit) => True) (fun _ t => WD D cy X A S t) A) (vx_X (fun (_ : Unit) => True) (fun E _ t => E ∈ ["java/lang/ArithmeticException"] ∧ WD D cy X A S t) A) [.ref o1].toArray s 1 6 A) (F0 m 34 ls [])) → W p l e (headSpec wsX9_meanGrade ({ frames := 7, cells := 1, slots := 6, locals := 102 } : Room)).room s m [.ref o1].toArray below meth c H locs 1 6 (vx_MQ below (va_Qd (fun r (_ : Unit) => True) (fun _ t => WD D cy X A S t) A) (vx_X (fun (_ : Unit) => True) (fun E _ t => E ∈ ["java/lang/ArithmeticException"] ∧ WD D cy X A S t) A) [.ref o1].toArray s 1 6 A) (F0 m 8 ls []) := by
      intro n8
      induction n8 with
      | zero => intro w8_1 w8_2 H locs ls hm; exact absurd hm (Nat.not_lt_zero _)
      | succ n8 ih8 =>
        intro w8_1 w8_2 H locs ls hm8 hi8 hP hS hl ko8
        refine lv_iload_n hx hb dX9_meanGrade_8 rfl (lv_at hl 0 rfl) ?_
        refine lv_aload_n hx hb dX9_meanGrade_9 rfl (lv_at hl 2 rfl) ?_
        obtain ⟨k5, gk5, hk5⟩ := wGt (cy := cy) X S h_o1.1 h_o1.2.1
        have i6 := ((hW.at h_o1 List.not_mem_nil).to_9 h_o1.2.1).R1
        refine va_get (D := D) (ci := 13) (v := .int (S.I o1 1)) (C := RX9) (T := TX9) (N := 11) hx hb hts hi_X9_meanGrade_X9 hown hK hP k5 hk5 rfl 1 (by decide) (hts (.fieldLink RX9 64 "Hobhouse" "gearCount" "I") (by decide +kernel)) (fun _ h9 => h9) rfl dX9_meanGrade_10 ?_
        refine lv_icmp_ge (tgt := 34) hx hb dX9_meanGrade_13 (by decide) (fun c7 => ?_) (fun c7 => ?_)
        · have c7i : (S.I o1 1).toInt ≤ w8_2.toInt := le_v rfl rfl c7
          exact ko8 w8_1 w8_2 _ _ _ (by omega) hP hS (lv_sub hl [0, 1, 2] rfl)
        · have c7i : w8_2.toInt < (S.I o1 1).toInt := nle_v rfl rfl c7
          refine lv_iload_n hx hb dX9_meanGrade_16 rfl (lv_at hl 1 rfl) ?_
          refine lv_aload_n hx hb dX9_meanGrade_17 rfl (lv_at hl 2 rfl) ?_
          have F8 := ((hW.at h_o1 List.not_mem_nil).to_9 h_o1.2.1).F0
          obtain ⟨k9, gk9, hk9⟩ := wGt (cy := cy) X S h_o1.1 h_o1.2.1
          simp only [kE, F8.1] at hk9
          refine va_get (D := D) (ci := 13) (v := .ref (S.f o1 0)) (C := RX9) (T := TX9) (N := 11) hx hb hts hi_X9_meanGrade_X9 hown hK hP k9 hk9 rfl 0 (by decide) (hts (.fieldLink RX9 11 "Hobhouse" "gears" "[LHobhouse$Gear;") (by decide +kernel)) (fun _ h9 => h9) rfl dX9_meanGrade_18 ?_
          refine lv_iload_n hx hb dX9_meanGrade_21 rfl (lv_at hl 0 rfl) ?_
          obtain ⟨k10, gk10, hk10⟩ := wGt (cy := cy) X S F8.2.1.1 F8.2.1.2.1
          have i12 := cl_int (i := w8_2) (by omega)
          have g11 := elq (by have h9 := ((hW.at h_o1 List.not_mem_nil).to_9 h_o1.2.1).E0 w8_2.toNatClampNeg (by omega); rw [f_of F8.1] at h9; exact h9)
          refine va_aldq hx hb hK hP k10 4 hk10 rfl (inb (m := 20) F8.2.2 (by omega) (by omega)) dX9_meanGrade_22 ?_
          rw [g11.1]
          refine W.eq (g2 := F0 m 23 ls [.ref (S.q (S.f o1 0) w8_2.toNatClampNeg), .int w8_1]) rfl ?_
          have hFc := free_all hD hS hA
          obtain ⟨k13, gk13, hk13⟩ := wGt (cy := cy) X S g11.2.1 g11.2.2.1
          refine va_calli (va_runV (As := []) (rest := [.int w8_1]) ⟨hx, hb, hml, hown, hts⟩ (c_X2_worstGrade l (e0 := e0) (mi := mi) (cy := cy) (X := X) (D := D) S _ (S.q (S.f o1 0) w8_2.toNatClampNeg) g11.2 (hW)) (cwV 0 hts gX9_meanGrade_X2_worstGrade rfl rfl rfl hd_X2_worstGrade ⟨Nat.le_of_ble_eq_true rfl, Nat.le_of_ble_eq_true rfl⟩) (pVo (va_recv hK hP (q := (RX2, TX2, 20)) (ci := 6) (q0 := k13) rfl hk13) hP hK hD hN hOU hS hFc) rfl rfl hl.1 rfl (lv_room (Nat.le_of_ble_eq_true rfl)) dX9_meanGrade_23 ⟨Nat.le_of_ble_eq_true rfl, Nat.le_of_ble_eq_true rfl⟩) hS (fun q _ h => hFc q h) hFc (fun r14 u t H1 locs ht hvm hw hB hz1 hk1 hS => ?_)
          obtain ⟨c15, y16⟩ := hw
          obtain ⟨hP, hD⟩ := wd_post hFc ht hB
          generalize H1 = H at hP hS ⊢
          obtain rfl : f_X2_worstGrade S (S.q (S.f o1 0) w8_2.toNatClampNeg) = r14 := c15.symm
          refine lv_iadd hx hb dX9_meanGrade_26 ?_
          refine lv_istore_n (lv' := [(1, .int (w8_1 + (f_X2_worstGrade S (S.q (S.f o1 0) w8_2.toNatClampNeg)))), (2, .int w8_2), (0, .ref o1)]) hx hb dX9_meanGrade_27 rfl hl (by decide) rfl (fun ls hl => ?_)
          refine lv_iinc (v := w8_2 + (1 : Int32)) (lv' := [(2, .int (w8_2 + (1 : Int32))), (1, .int (w8_1 + (f_X2_worstGrade S (S.q (S.f o1 0) w8_2.toNatClampNeg)))), (0, .ref o1)]) hx hb dX9_meanGrade_28 hl (k := 1) rfl (by rfl) (by decide) rfl (fun ls hl => ?_)
          refine lv_goto (tgt := 8) hx hb dX9_meanGrade_31 (by decide) ?_
          have i17 : (w8_1 + (f_X2_worstGrade S (S.q (S.f o1 0) w8_2.toNatClampNeg))).toInt = w8_1.toInt + (f_X2_worstGrade S (S.q (S.f o1 0) w8_2.toNatClampNeg)).toInt := t_add (by omega)
          have l32_1 : (1 : Int32).toInt = 1 := rfl
          have i18 : (w8_2 + (1 : Int32)).toInt = w8_2.toInt + 1 := t_addr (n := 1) rfl (by omega)
          exact ih8 (w8_1 + (f_X2_worstGrade S (S.q (S.f o1 0) w8_2.toNatClampNeg))) (w8_2 + (1 : Int32)) _ _ _ (Nat.lt_of_lt_of_le (by omega) (Nat.le_of_lt_succ hm8)) (by omega) hP hS (lv_sub hl [0, 1, 2] rfl) ko8
    refine loop8 22 (0 : Int32) (0 : Int32) _ _ _ (by omega) (by omega) hP hS (lv_sub hl [0, 1, 2] rfl) (fun z20 z21 H locs ls hi8 hP hS hl => ?_)
    refine lv_iload_n hx hb dX9_meanGrade_34 rfl (lv_at hl 1 rfl) ?_
    refine lv_i2d hx hb dX9_meanGrade_35 ?_
    refine lv_aload_n hx hb dX9_meanGrade_36 rfl (lv_at hl 2 rfl) ?_
    obtain ⟨k22, gk22, hk22⟩ := wGt (cy := cy) X S h_o1.1 h_o1.2.1
    have i23 := ((hW.at h_o1 List.not_mem_nil).to_9 h_o1.2.1).R1
    refine va_get (D := D) (ci := 13) (v := .int (S.I o1 1)) (C := RX9) (T := TX9) (N := 11) hx hb hts hi_X9_meanGrade_X9 hown hK hP k22 hk22 rfl 1 (by decide) (hts (.fieldLink RX9 64 "Hobhouse" "gearCount" "I") (by decide +kernel)) (fun _ h9 => h9) rfl dX9_meanGrade_37 ?_
    refine lv_i2d hx hb dX9_meanGrade_40 ?_
    refine lv_ddiv hx hb dX9_meanGrade_41 (ddn (by omega) (by omega)) ?_
    refine vx_ret ?_
    refine W.widen (k := 1) (n := 6) (Nat.le_of_ble_eq_true rfl) (Nat.le_of_ble_eq_true rfl) ?_
    exact W.dret (v := FP.ddiv (FP.i2d z20) (FP.i2d (S.I o1 1))) hx hb hr (fun t ht hW9 => ⟨⟨FP.ddiv (FP.i2d z20) (FP.i2d (S.I o1 1)), (), rfl, trivial, wd_end hP hK hD ht hW9.alike⟩, hS.F ht⟩) hS.2.2 dX9_meanGrade_42 hlocks
