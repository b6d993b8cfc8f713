theorem hi_X12_match_X10 : ∀ w ∈ u_ws RX10 TX10 23, w ∈ wsX12_match := by decide +kernel
theorem hi_X12_match_X12 : ∀ w ∈ u_ws RX12 TX12 34, w ∈ wsX12_match := by decide +kernel
theorem hd_X12_match : yX12_match.cls = RX12 ∧ yX12_match.cls ≠ "java/lang/invoke/MethodHandle" ∧ yX12_match.cls ≠ "java/lang/invoke/VarHandle" ∧ (parseMethodDescriptor yX12_match.desc).map (fun d => d.parameters.length) = some 3 := by decide +kernel
set_option maxHeartbeats 4000000 in
set_option maxRecDepth 100000 in
theorem c_X12_match (l : Launch) {D : va_G} {cy : Nat → ClassId} {X : va_W} (S : wPS) (sz : Nat) (o1 : Nat) (h_o1 : isA S o1 12) (x1 : Int32) (x2 : Int32) (x3 : Int32) (hW : wtB S []) (hv : IV S o1) (hm : MV S o1) : Met l yX12_match wsX12_match ({ frames := 19, cells := 0, slots := 0, locals := 405 }) (va_Pc [.ref o1, .int x1, .int x2, .int x3] (fun U => U.heap.size = sz ∧ WD D cy X (fun _ => True) S U ∧ NW U)) (va_Qi (fun r (u : wPS) => stp [(10, 16), (12, 15), (12, 24), (12, 25), (12, 26), (12, 28), (17, 100), (23, 100)] [] [] S u ∧ IV u o1 ∧ MV u o1) (fun u t => WD D cy X (va_A (X ++ PL cy S) sz) u t) (va_A (X ++ PL cy S) sz)) 0 0 (va_A (X ++ PL cy S) sz) := by
  refine Met.ofW (cc := cX12_match) (maxL := 8) (ret := (some .int)) (by decide) rfl ?_
  intro p e s m args below meth c s₁ B hml hv
  obtain ⟨rfl, hsz, ⟨hP, hK, hD0⟩, hN⟩ := hv
  have hx := B.exec
  have hb := B.bytes
  have hr := B.returns
  have hts := atoms_spec (ws := wsX12_match) B.pre
  have hown : s.vm.findClass RX12 = some m.cls := findClass_of_methodNamed (x := yX12_match) B.named
  have hlocks := B.notSynchronized
  subst hsz
  have hD := hD0.self (sz := s.heap.size)
  generalize hAe : va_A (X ++ PL cy S) s.heap.size = A at hD ⊢
  have hA : ∀ q : Nat, s.heap.size ≤ q → A q := fun q h => by rw [← hAe]; exact Or.inr h
  have hS : va_S A s.heap s.heap [] := va_S.rf
  have hl := lv_entry ([.ref o1, .int x1, .int x2, .int x3]) (n := 8) (Nat.le_of_ble_eq_true rfl)
  rw [lg_entry_eq]
  generalize (lg_sl ([.ref o1, .int x1, .int x2, .int x3]) ++ List.replicate (8 - (lg_sl ([.ref o1, .int x1, .int x2, .int x3])).length) Slot.unset).toArray = ls at hl ⊢
  have hl : lv_has ls 8 [(0, .ref o1), (1, .int x1), (2, .int x2), (3, .int x3)] := hl
  have t0 : stp [(10, 16), (12, 15), (12, 24), (12, 25), (12, 26), (12, 28), (17, 100), (23, 100)] [] [] S S := stp.rf hW
  have F1 := ((hW.at h_o1 List.not_mem_nil).to_12 h_o1.2.1).F0
  have F2 := ((hW.at h_o1 List.not_mem_nil).to_12 h_o1.2.1).F9
  have F3 := ((hW.at h_o1 List.not_mem_nil).to_12 h_o1.2.1).F10
  have F4 := ((hW.at h_o1 List.not_mem_nil).to_12 h_o1.2.1).F11
  have F5 := ((hW.at h_o1 List.not_mem_nil).to_12 h_o1.2.1).F12
  have F6 := ((hW.at h_o1 List.not_mem_nil).to_12 h_o1.2.1).F13
  have F7 := ((hW.at h_o1 List.not_mem_nil).to_12 h_o1.2.1).F14
  have lm : (-1 : Int32).toInt = -1 := rfl
  have lm6 : (-1 : Int64).toInt = -1 := rfl
  have l06 : (0 : Int64).toInt = 0 := rfl
  refine lv_iload_n hx hb dX12_match_0 rfl (lv_at hl 1 rfl) ?_
  refine lv_iload_n hx hb dX12_match_1 rfl (lv_at hl 2 rfl) ?_
  refine lv_icmp_eq (tgt := 17) hx hb dX12_match_2 (by decide) (fun c8 => ?_) (fun c8 => ?_)
  · have c8i : x1.toInt = x2.toInt := eq_v rfl rfl c8
    refine lv_aload_n hx hb dX12_match_17 rfl (lv_at hl 0 rfl) ?_
    refine lv_iconst (v := 1) hx hb dX12_match_18 (by decide) ?_
    have l32_1 : (1 : Int32).toInt = 1 := rfl
    have hFc := free_all hD hS hA
    obtain ⟨k9, gk9, hk9⟩ := wGt (cy := cy) X S h_o1.1 h_o1.2.1
    refine va_calli (va_runV (As := [.int (1 : Int32)]) (rest := []) ⟨hx, hb, hml, hown, hts⟩ (c_X12_fails l (cy := cy) (X := X) (D := D) S _ o1 h_o1 (1 : Int32) (hW)) (cwV 1 hts gX12_match_X12_fails rfl rfl rfl hd_X12_fails ⟨Nat.le_of_ble_eq_true rfl, Nat.le_of_ble_eq_true rfl⟩) (pV (va_recv hK hP (q := (RX12, TX12, 34)) (ci := 16) (q0 := k9) rfl hk9) hP hK hD hN) rfl rfl hl.1 rfl (lv_room (Nat.le_of_ble_eq_true rfl)) dX12_match_19 ⟨(Nat.zero_le _), (Nat.zero_le _)⟩) hS (fun q _ h => hFc q h) hFc (fun r10 u t H1 locs ht hvm hw hB hz1 hk1 hS => ?_)
    obtain ⟨c11, w12⟩ := hw
    obtain ⟨hP, hD⟩ := wd_post hFc ht hB
    generalize H1 = H at hP hS ⊢
    obtain ⟨S13, rfl⟩ : ∃ z, z = u := ⟨_, rfl⟩
    have t14 : stp [(10, 16), (12, 15), (12, 24), (12, 25), (12, 26), (12, 28), (17, 100), (23, 100)] [] [] S S13 := t0.tr w12 (by decide) (fun _ q => absurd q List.not_mem_nil)
    have v15 : IV S13 o1 := IV.keep w12 hW h_o1 (by decide) (by decide) hv
    have v16 : MV S13 o1 := MV.keep w12 hW h_o1 (by decide) (by decide) hm
    have xe17 : ext S S13 := w12.x
    have k18 : (S13.I (S.f o1 0) 2).toInt = (S.I (S.f o1 0) 2).toInt := by rw [(w12.fR (S.f o1 0) F1.2.1.1 List.not_mem_nil).1 2 (by rw [F1.2.1.2.1]; decide) |>.1]
    have k19 : (S13.I o1 24).toInt = (S.I o1 24).toInt := by rw [(w12.fR o1 h_o1.1 List.not_mem_nil).1 24 (by rw [h_o1.2.1]; decide) |>.1]
    have k20 : (S13.I o1 25).toInt = (S.I o1 25).toInt := by rw [(w12.fR o1 h_o1.1 List.not_mem_nil).1 25 (by rw [h_o1.2.1]; decide) |>.1]
    have k21 : (S13.I o1 26).toInt = (S.I o1 26).toInt := by rw [(w12.fR o1 h_o1.1 List.not_mem_nil).1 26 (by rw [h_o1.2.1]; decide) |>.1]
    have k22 : (S13.J o1 28).toInt = (S.J o1 28).toInt := by rw [(w12.fR o1 h_o1.1 List.not_mem_nil).1 28 (by rw [h_o1.2.1]; decide) |>.2]
    refine W.widen (k := 0) (n := 0) (Nat.le_of_ble_eq_true rfl) (Nat.le_of_ble_eq_true rfl) ?_
    exact W.iret (v := r10) hx hb hr (fun t ht hW9 => ⟨⟨r10, S13, rfl, ⟨t14, (v15), (v16)⟩, wd_end hP hK hD ht hW9.alike⟩, hS.F ht⟩) hS.2.2 dX12_match_22 hlocks
  · have c8i : ¬ x1.toInt = x2.toInt := neq_v rfl rfl c8
    refine lv_iload_n hx hb dX12_match_5 rfl (lv_at hl 3 rfl) ?_
    refine lv_i2l hx hb dX12_match_6 rfl ?_
    refine lv_lconst (v := 1) hx hb dX12_match_7 (by decide) ?_
    refine lv_ldc2 (own := RX12) (v := 4) hx hb hown (hts (.constantLong RX12 314 (4)) (by decide +kernel)) dX12_match_8 ?_
    have hFc := free_all hD hS hA
    refine va_calli (va_runS (As := [.long x3.toInt64, .long (1 : Int64), .long (4 : Int64)]) (rest := []) ⟨hx, hb, hml, hown, hts⟩ (c_X12_in l (cy := cy) (X := X) (D := D) S _ x3.toInt64 (1 : Int64) (4 : Int64)) (cwS 3 hts gX12_match_X12_in rfl rfl rfl hd_X12_in ⟨Nat.le_of_ble_eq_true rfl, Nat.le_of_ble_eq_true rfl⟩) (pS hP hK hD hN) rfl rfl hl.1 rfl (lv_room (Nat.le_of_ble_eq_true rfl)) dX12_match_11 ⟨(Nat.zero_le _), (Nat.zero_le _)⟩) hS (fun q _ h => hFc q h) hFc (fun r23 u t H1 locs ht hvm hw hB hz1 hk1 hS => ?_)
    have c24 := hw
    obtain ⟨hP, hD⟩ := wd_post hFc ht hB
    generalize H1 = H at hP hS ⊢
    obtain rfl : f_X12_in x3.toInt64 (1 : Int64) (4 : Int64) = r23 := c24.symm
    have i25 := i64_i x3
    have l64_1 : (1 : Int64).toInt = 1 := rfl
    have l64_4 : (4 : Int64).toInt = 4 := rfl
    have i26 := in_rng x3.toInt64 (1 : Int64) (4 : Int64)
    refine lv_if_ne (tgt := 23) hx hb dX12_match_14 (by decide) (fun c27 => ?_) (fun c27 => ?_)
    · have c27i : ¬ (f_X12_in x3.toInt64 (1 : Int64) (4 : Int64)).toInt = 0 := neq_v rfl rfl c27
      refine lv_aload_n hx hb dX12_match_23 rfl (lv_at hl 0 rfl) ?_
      refine lv_aload_n hx hb dX12_match_24 rfl (lv_at hl 0 rfl) ?_
      refine lv_iload_n hx hb dX12_match_25 rfl (lv_at hl 1 rfl) ?_
      refine lv_aload_n hx hb dX12_match_26 rfl (lv_at hl 0 rfl) ?_
      obtain ⟨k28, gk28, hk28⟩ := wGt (cy := cy) X S h_o1.1 h_o1.2.1
      simp only [kE, F6.1] at hk28
      refine va_get (D := D) (ci := 16) (v := .ref (S.f o1 13)) (C := RX12) (T := TX12) (N := 34) hx hb hts hi_X12_match_X12 hown hK hP k28 hk28 rfl 13 (by decide) (hts (.fieldLink RX12 66 "HobhouseModel" "firsts" "[I") (by decide +kernel)) (fun _ h9 => h9) rfl dX12_match_27 ?_
      have hFc := free_all hD hS hA
      obtain ⟨k29, gk29, hk29⟩ := wGt (cy := cy) X S h_o1.1 h_o1.2.1
      refine va_calli (va_runV (As := [.int x1, .ref (S.f o1 13)]) (rest := [.ref o1]) ⟨hx, hb, hml, hown, hts⟩ (c_X12_lists l (cy := cy) (X := X) (D := D) S _ o1 h_o1 x1 (S.f o1 13) F6.2.1 (hW) hv (F6.2.2)) (cwV 2 hts gX12_match_X12_lists rfl rfl rfl hd_X12_lists ⟨Nat.le_of_ble_eq_true rfl, Nat.le_of_ble_eq_true rfl⟩) (pV (va_recv hK hP (q := (RX12, TX12, 34)) (ci := 16) (q0 := k29) rfl hk29) hP hK hD hN) rfl rfl hl.1 rfl (lv_room (Nat.le_of_ble_eq_true rfl)) dX12_match_30 ⟨(Nat.zero_le _), (Nat.zero_le _)⟩) hS (fun q _ h => hFc q h) hFc (fun r30 u t H1 locs ht hvm hw hB hz1 hk1 hS => ?_)
      obtain ⟨w31, y32, y33, y34⟩ := hw
      obtain ⟨hP, hD⟩ := wd_post hFc ht hB
      generalize H1 = H at hP hS ⊢
      obtain ⟨S35, rfl⟩ : ∃ z, z = u := ⟨_, rfl⟩
      have t36 : stp [(10, 16), (12, 15), (12, 24), (12, 25), (12, 26), (12, 28), (17, 100), (23, 100)] [] [] S S35 := t0.tr w31 (by decide) (fun _ q => absurd q List.not_mem_nil)
      have v37 : IV S35 o1 := y32
      have v38 : MV S35 o1 := MV.keep w31 hW h_o1 (by decide) (by decide) hm
      have xe39 : ext S S35 := w31.x
      have k40 : (S35.I (S.f o1 0) 2).toInt = (S.I (S.f o1 0) 2).toInt := by rw [(w31.fR (S.f o1 0) F1.2.1.1 List.not_mem_nil).1 2 (by rw [F1.2.1.2.1]; decide) |>.1]
      have k41 : (S35.I o1 24).toInt = (S.I o1 24).toInt := by rw [(w31.fR o1 h_o1.1 List.not_mem_nil).1 24 (by rw [h_o1.2.1]; decide) |>.1]
      have k42 : (S35.I o1 25).toInt = (S.I o1 25).toInt := by rw [(w31.fR o1 h_o1.1 List.not_mem_nil).1 25 (by rw [h_o1.2.1]; decide) |>.1]
      have k43 : (S35.I o1 26).toInt = (S.I o1 26).toInt := by rw [(w31.fR o1 h_o1.1 List.not_mem_nil).1 26 (by rw [h_o1.2.1]; decide) |>.1]
      have k44 : (S35.J o1 28).toInt = (S.J o1 28).toInt := by rw [(w31.fR o1 h_o1.1 List.not_mem_nil).1 28 (by rw [h_o1.2.1]; decide) |>.2]
      have y30 := y34
      clear y34
      obtain ⟨k45, gk45, hk45⟩ := wGt (cy := cy) X S35 (xe39.A h_o1).1 (xe39.A h_o1).2.1
      refine va_put (D := D) (ci := 16) (v := .int r30) (ty := .int) (C := RX12) (T := TX12) (N := 34) hx hb hts hi_X12_match_X12 tyX12 tyX12_ok nmX12 hown hK hP hD hS k45 hk45 rfl 24 (by decide) (hts (.fieldLink RX12 467 "HobhouseModel" "manyFirst" "I") (by decide +kernel)) (fun _ h9 => h9) rfl (by decide +kernel) (rfl) (rfl) (Nat.le_of_ble_eq_true rfl) dX12_match_33 (fun H locs hP2 hD2 hS => ?_)
      have e9 := wPuI (cy := cy) (j := 24) (v := r30) hD (xe39.A h_o1).1 (xe39.A h_o1).2.1 gk45 rfl
      obtain ⟨S46, hS46⟩ : ∃ z, S35.sI o1 24 r30 = z := ⟨_, rfl⟩
      have s48 : stp [(12, 24)] [] [] S35 S46 := by rw [← hS46]; exact (stp.rf t36.w).I 24 r30 (xe39.A h_o1) (by decide) (⟨by omega, by omega⟩) (Or.inl (by decide))
      have v47 : IV S46 o1 := IV.keep s48 t36.w (xe39.A h_o1) (by decide) (by decide) v37
      have v49 : MV S46 o1 := MV.keep s48 t36.w (xe39.A h_o1) (by decide) (by decide) v38
      have hP : va_P D vwCl (X ++ PL cy S46) H := by rw [← hS46, ← e9]; exact hP2
      have hD : va_D A (X ++ PL cy S46) := by rw [← hS46, ← e9]; exact hD2
      have xe50 : ext S35 S46 := by rw [← hS46]; exact ext.sI _ _ _ _
      have t51 : stp [(10, 16), (12, 15), (12, 24), (12, 25), (12, 26), (12, 28), (17, 100), (23, 100)] [] [] S S46 := by rw [← hS46]; exact t36.I 24 r30 (xe39.A h_o1) (by decide) (⟨by omega, by omega⟩) (Or.inl (by decide))
      have k52 : (S46.I (S.f o1 0) 2).toInt = (S35.I (S.f o1 0) 2).toInt := by rw [← hS46]; exact congrArg Int32.toInt (sI_I (by rintro ⟨e1, e2⟩; exact absurd e2 (by decide)))
      have k53 : (S46.I o1 24).toInt = r30.toInt := by rw [← hS46, sI_eq]
      have k54 : (S46.I o1 25).toInt = (S35.I o1 25).toInt := by rw [← hS46]; exact congrArg Int32.toInt (sI_I (by rintro ⟨e1, e2⟩; exact absurd e2 (by decide)))
      have k55 : (S46.I o1 26).toInt = (S35.I o1 26).toInt := by rw [← hS46]; exact congrArg Int32.toInt (sI_I (by rintro ⟨e1, e2⟩; exact absurd e2 (by decide)))
      have k56 : (S46.J o1 28).toInt = (S35.J o1 28).toInt := by rw [← hS46]; rfl
      refine lv_aload_n hx hb dX12_match_36 rfl (lv_at hl 0 rfl) ?_
      refine lv_aload_n hx hb dX12_match_37 rfl (lv_at hl 0 rfl) ?_
      refine lv_iload_n hx hb dX12_match_38 rfl (lv_at hl 2 rfl) ?_
      refine lv_aload_n hx hb dX12_match_39 rfl (lv_at hl 0 rfl) ?_
      obtain ⟨k57, gk57, hk57⟩ := wGt (cy := cy) X S46 (xe50.A (xe39.A h_o1)).1 (xe50.A (xe39.A h_o1)).2.1
      simp only [kE, ((xe39.tr xe50).F h_o1 (by decide) F7.1)] at hk57
      refine va_get (D := D) (ci := 16) (v := .ref (S.f o1 14)) (C := RX12) (T := TX12) (N := 34) hx hb hts hi_X12_match_X12 hown hK hP k57 hk57 rfl 14 (by decide) (hts (.fieldLink RX12 69 "HobhouseModel" "seconds" "[I") (by decide +kernel)) (fun _ h9 => h9) rfl dX12_match_40 ?_
      have hFc := free_all hD hS hA
      obtain ⟨k58, gk58, hk58⟩ := wGt (cy := cy) X S46 (xe50.A (xe39.A h_o1)).1 (xe50.A (xe39.A h_o1)).2.1
      refine va_calli (va_runV (As := [.int x2, .ref (S.f o1 14)]) (rest := [.ref o1]) ⟨hx, hb, hml, hown, hts⟩ (c_X12_lists l (cy := cy) (X := X) (D := D) S46 _ o1 (xe50.A (xe39.A h_o1)) x2 (S.f o1 14) ((xe39.tr xe50).A F7.2.1) (t51.w) v47 ((((xe39.tr xe50).n F7.2.1).trans F7.2.2))) (cwV 2 hts gX12_match_X12_lists rfl rfl rfl hd_X12_lists ⟨Nat.le_of_ble_eq_true rfl, Nat.le_of_ble_eq_true rfl⟩) (pV (va_recv hK hP (q := (RX12, TX12, 34)) (ci := 16) (q0 := k58) rfl hk58) hP hK hD hN) rfl rfl hl.1 rfl (lv_room (Nat.le_of_ble_eq_true rfl)) dX12_match_43 ⟨(Nat.zero_le _), (Nat.zero_le _)⟩) hS (fun q _ h => hFc q h) hFc (fun r59 u t H1 locs ht hvm hw hB hz1 hk1 hS => ?_)
      obtain ⟨w60, y61, y62, y63⟩ := hw
      obtain ⟨hP, hD⟩ := wd_post hFc ht hB
      generalize H1 = H at hP hS ⊢
      obtain ⟨S64, rfl⟩ : ∃ z, z = u := ⟨_, rfl⟩
      have t65 : stp [(10, 16), (12, 15), (12, 24), (12, 25), (12, 26), (12, 28), (17, 100), (23, 100)] [] [] S S64 := t51.tr w60 (by decide) (fun _ q => absurd q List.not_mem_nil)
      have v66 : IV S64 o1 := y61
      have v67 : MV S64 o1 := MV.keep w60 t51.w (xe50.A (xe39.A h_o1)) (by decide) (by decide) v49
      have xe68 : ext S46 S64 := w60.x
      have k69 : (S64.I (S.f o1 0) 2).toInt = (S46.I (S.f o1 0) 2).toInt := by rw [(w60.fR (S.f o1 0) ((xe39.tr xe50).A F1.2.1).1 List.not_mem_nil).1 2 (by rw [((xe39.tr xe50).A F1.2.1).2.1]; decide) |>.1]
      have k70 : (S64.I o1 24).toInt = (S46.I o1 24).toInt := by rw [(w60.fR o1 ((xe39.tr xe50).A h_o1).1 List.not_mem_nil).1 24 (by rw [((xe39.tr xe50).A h_o1).2.1]; decide) |>.1]
      have k71 : (S64.I o1 25).toInt = (S46.I o1 25).toInt := by rw [(w60.fR o1 ((xe39.tr xe50).A h_o1).1 List.not_mem_nil).1 25 (by rw [((xe39.tr xe50).A h_o1).2.1]; decide) |>.1]
      have k72 : (S64.I o1 26).toInt = (S46.I o1 26).toInt := by rw [(w60.fR o1 ((xe39.tr xe50).A h_o1).1 List.not_mem_nil).1 26 (by rw [((xe39.tr xe50).A h_o1).2.1]; decide) |>.1]
      have k73 : (S64.J o1 28).toInt = (S46.J o1 28).toInt := by rw [(w60.fR o1 ((xe39.tr xe50).A h_o1).1 List.not_mem_nil).1 28 (by rw [((xe39.tr xe50).A h_o1).2.1]; decide) |>.2]
      have y43 := y63.1
      clear y63
      obtain ⟨k74, gk74, hk74⟩ := wGt (cy := cy) X S64 (xe68.A (xe50.A (xe39.A h_o1))).1 (xe68.A (xe50.A (xe39.A h_o1))).2.1
      refine va_put (D := D) (ci := 16) (v := .int r59) (ty := .int) (C := RX12) (T := TX12) (N := 34) hx hb hts hi_X12_match_X12 tyX12 tyX12_ok nmX12 hown hK hP hD hS k74 hk74 rfl 25 (by decide) (hts (.fieldLink RX12 470 "HobhouseModel" "manySecond" "I") (by decide +kernel)) (fun _ h9 => h9) rfl (by decide +kernel) (rfl) (rfl) (Nat.le_of_ble_eq_true rfl) dX12_match_46 (fun H locs hP2 hD2 hS => ?_)
      have e9 := wPuI (cy := cy) (j := 25) (v := r59) hD (xe68.A (xe50.A (xe39.A h_o1))).1 (xe68.A (xe50.A (xe39.A h_o1))).2.1 gk74 rfl
      obtain ⟨S75, hS75⟩ : ∃ z, S64.sI o1 25 r59 = z := ⟨_, rfl⟩
      have s77 : stp [(12, 25)] [] [] S64 S75 := by rw [← hS75]; exact (stp.rf t65.w).I 25 r59 (xe68.A (xe50.A (xe39.A h_o1))) (by decide) (⟨by omega, by omega⟩) (Or.inl (by decide))
      have v76 : IV S75 o1 := IV.keep s77 t65.w (xe68.A (xe50.A (xe39.A h_o1))) (by decide) (by decide) v66
      have v78 : MV S75 o1 := MV.keep s77 t65.w (xe68.A (xe50.A (xe39.A h_o1))) (by decide) (by decide) v67
      have hP : va_P D vwCl (X ++ PL cy S75) H := by rw [← hS75, ← e9]; exact hP2
      have hD : va_D A (X ++ PL cy S75) := by rw [← hS75, ← e9]; exact hD2
      have xe79 : ext S64 S75 := by rw [← hS75]; exact ext.sI _ _ _ _
      have t80 : stp [(10, 16), (12, 15), (12, 24), (12, 25), (12, 26), (12, 28), (17, 100), (23, 100)] [] [] S S75 := by rw [← hS75]; exact t65.I 25 r59 (xe68.A (xe50.A (xe39.A h_o1))) (by decide) (⟨by omega, by omega⟩) (Or.inl (by decide))
      have k81 : (S75.I (S.f o1 0) 2).toInt = (S64.I (S.f o1 0) 2).toInt := by rw [← hS75]; exact congrArg Int32.toInt (sI_I (by rintro ⟨e1, e2⟩; exact absurd e2 (by decide)))
      have k82 : (S75.I o1 24).toInt = (S64.I o1 24).toInt := by rw [← hS75]; exact congrArg Int32.toInt (sI_I (by rintro ⟨e1, e2⟩; exact absurd e2 (by decide)))
      have k83 : (S75.I o1 25).toInt = r59.toInt := by rw [← hS75, sI_eq]
      have k84 : (S75.I o1 26).toInt = (S64.I o1 26).toInt := by rw [← hS75]; exact congrArg Int32.toInt (sI_I (by rintro ⟨e1, e2⟩; exact absurd e2 (by decide)))
      have k85 : (S75.J o1 28).toInt = (S64.J o1 28).toInt := by rw [← hS75]; rfl
      refine lv_aload_n hx hb dX12_match_49 rfl (lv_at hl 0 rfl) ?_
      refine lv_iload_n hx hb dX12_match_50 rfl (lv_at hl 3 rfl) ?_
      obtain ⟨k86, gk86, hk86⟩ := wGt (cy := cy) X S75 (xe79.A (xe68.A (xe50.A (xe39.A h_o1)))).1 (xe79.A (xe68.A (xe50.A (xe39.A h_o1)))).2.1
      refine va_put (D := D) (ci := 16) (v := .int x3) (ty := .int) (C := RX12) (T := TX12) (N := 34) hx hb hts hi_X12_match_X12 tyX12 tyX12_ok nmX12 hown hK hP hD hS k86 hk86 rfl 26 (by decide) (hts (.fieldLink RX12 461 "HobhouseModel" "wanted" "I") (by decide +kernel)) (fun _ h9 => h9) rfl (by decide +kernel) (rfl) (rfl) (Nat.le_of_ble_eq_true rfl) dX12_match_51 (fun H locs hP2 hD2 hS => ?_)
      have e9 := wPuI (cy := cy) (j := 26) (v := x3) hD (xe79.A (xe68.A (xe50.A (xe39.A h_o1)))).1 (xe79.A (xe68.A (xe50.A (xe39.A h_o1)))).2.1 gk86 rfl
      obtain ⟨S87, hS87⟩ : ∃ z, S75.sI o1 26 x3 = z := ⟨_, rfl⟩
      have s89 : stp [(12, 26)] [] [] S75 S87 := by rw [← hS87]; exact (stp.rf t80.w).I 26 x3 (xe79.A (xe68.A (xe50.A (xe39.A h_o1)))) (by decide) (⟨by omega, by omega⟩) (Or.inl (by decide))
      have v88 : IV S87 o1 := IV.keep s89 t80.w (xe79.A (xe68.A (xe50.A (xe39.A h_o1)))) (by decide) (by decide) v76
      have v90 : MV S87 o1 := MV.keep s89 t80.w (xe79.A (xe68.A (xe50.A (xe39.A h_o1)))) (by decide) (by decide) v78
      have hP : va_P D vwCl (X ++ PL cy S87) H := by rw [← hS87, ← e9]; exact hP2
      have hD : va_D A (X ++ PL cy S87) := by rw [← hS87, ← e9]; exact hD2
      have xe91 : ext S75 S87 := by rw [← hS87]; exact ext.sI _ _ _ _
      have t92 : stp [(10, 16), (12, 15), (12, 24), (12, 25), (12, 26), (12, 28), (17, 100), (23, 100)] [] [] S S87 := by rw [← hS87]; exact t80.I 26 x3 (xe79.A (xe68.A (xe50.A (xe39.A h_o1)))) (by decide) (⟨by omega, by omega⟩) (Or.inl (by decide))
      have k93 : (S87.I (S.f o1 0) 2).toInt = (S75.I (S.f o1 0) 2).toInt := by rw [← hS87]; exact congrArg Int32.toInt (sI_I (by rintro ⟨e1, e2⟩; exact absurd e2 (by decide)))
      have k94 : (S87.I o1 24).toInt = (S75.I o1 24).toInt := by rw [← hS87]; exact congrArg Int32.toInt (sI_I (by rintro ⟨e1, e2⟩; exact absurd e2 (by decide)))
      have k95 : (S87.I o1 25).toInt = (S75.I o1 25).toInt := by rw [← hS87]; exact congrArg Int32.toInt (sI_I (by rintro ⟨e1, e2⟩; exact absurd e2 (by decide)))
      have k96 : (S87.I o1 26).toInt = x3.toInt := by rw [← hS87, sI_eq]
      have k97 : (S87.J o1 28).toInt = (S75.J o1 28).toInt := by rw [← hS87]; rfl
      refine lv_aload_n hx hb dX12_match_54 rfl (lv_at hl 0 rfl) ?_
      refine lv_ldc2 (own := RX12) (v := -1) hx hb hown (hts (.constantLong RX12 335 (-1)) (by decide +kernel)) dX12_match_55 ?_
      obtain ⟨k98, gk98, hk98⟩ := wGt (cy := cy) X S87 (xe91.A (xe79.A (xe68.A (xe50.A (xe39.A h_o1))))).1 (xe91.A (xe79.A (xe68.A (xe50.A (xe39.A h_o1))))).2.1
      refine va_put (D := D) (ci := 16) (v := .long (-1 : Int64)) (ty := .long) (C := RX12) (T := TX12) (N := 34) hx hb hts hi_X12_match_X12 tyX12 tyX12_ok nmX12 hown hK hP hD hS k98 hk98 rfl 28 (by decide) (hts (.fieldLink RX12 464 "HobhouseModel" "bestSum" "J") (by decide +kernel)) (fun _ h9 => h9) rfl (by decide +kernel) (rfl) (rfl) (Nat.le_of_ble_eq_true rfl) dX12_match_58 (fun H locs hP2 hD2 hS => ?_)
      have e9 := wPuJ (cy := cy) (j := 28) (v := (-1 : Int64)) hD (xe91.A (xe79.A (xe68.A (xe50.A (xe39.A h_o1))))).1 (xe91.A (xe79.A (xe68.A (xe50.A (xe39.A h_o1))))).2.1 gk98 rfl
      obtain ⟨S99, hS99⟩ : ∃ z, S87.sJ o1 28 (-1 : Int64) = z := ⟨_, rfl⟩
      have s101 : stp [(12, 28)] [] [] S87 S99 := by rw [← hS99]; exact (stp.rf t92.w).J 28 (-1 : Int64) (xe91.A (xe79.A (xe68.A (xe50.A (xe39.A h_o1))))) (by decide)
      have v100 : IV S99 o1 := IV.keep s101 t92.w (xe91.A (xe79.A (xe68.A (xe50.A (xe39.A h_o1))))) (by decide) (by decide) v88
      have v102 : MV S99 o1 := MV.keep s101 t92.w (xe91.A (xe79.A (xe68.A (xe50.A (xe39.A h_o1))))) (by decide) (by decide) v90
      have hP : va_P D vwCl (X ++ PL cy S99) H := by rw [← hS99, ← e9]; exact hP2
      have hD : va_D A (X ++ PL cy S99) := by rw [← hS99, ← e9]; exact hD2
      have xe103 : ext S87 S99 := by rw [← hS99]; exact ext.sJ _ _ _ _
      have t104 : stp [(10, 16), (12, 15), (12, 24), (12, 25), (12, 26), (12, 28), (17, 100), (23, 100)] [] [] S S99 := by rw [← hS99]; exact t92.J 28 (-1 : Int64) (xe91.A (xe79.A (xe68.A (xe50.A (xe39.A h_o1))))) (by decide)
      have k105 : (S99.I (S.f o1 0) 2).toInt = (S87.I (S.f o1 0) 2).toInt := by rw [← hS99]; rfl
      have k106 : (S99.I o1 24).toInt = (S87.I o1 24).toInt := by rw [← hS99]; rfl
      have k107 : (S99.I o1 25).toInt = (S87.I o1 25).toInt := by rw [← hS99]; rfl
      have k108 : (S99.I o1 26).toInt = (S87.I o1 26).toInt := by rw [← hS99]; rfl
      have k109 : (S99.J o1 28).toInt = (-1 : Int64).toInt := by rw [← hS99, sJ_eq]
      refine lv_iconst (v := 0) hx hb dX12_match_61 (by decide) ?_
      refine lv_istore (lv' := [(4, .int (0 : Int32)), (0, .ref o1), (1, .int x1), (2, .int x2), (3, .int x3)]) hx hb dX12_match_62 hl (by decide) rfl (fun ls hl => ?_)
      have l32_0 : (0 : Int32).toInt = 0 := rfl
      have loop64 : ∀ (n : Nat) (S64_ : wPS) (w64_4 : Int32) (H : Heap) (locs : List Loc) (ls : Array Slot), (6 - w64_4.toInt).toNat < n → (0 ≤ w64_4.toInt ∧ w64_4.toInt ≤ 5 ∧ (S64_.I (S.f o1 0) 2).toInt = (S.I (S.f o1 0) 2).toInt ∧ (S64_.I o1 24).toInt ≤ 5 ∧ ((S64_.I o1 24).toInt = 0 ∨ 1 ≤ (S.I (S.f o1 0) 2).toInt) ∧ (S64_.I o1 26).toInt = x3.toInt ∧ (S64_.J o1 28).toInt < 0) ∧ IV S64_ o1 ∧ MV S64_ o1 → stp [(10, 16), (12, 15), (12, 24), (12, 25), (12, 26), (12, 28), (17, 100), (23, 100)] [] [] S99 S64_ → va_P D vwCl (X ++ PL cy S64_) H → va_D A (X ++ PL cy S64_) → va_S A s.heap H locs → lv_has ls 8 [(4, .int w64_4), (0, .ref o1), (1, .int x1), (2, .int x2), (3, .int x3)] → (∀ (S64_x : wPS) (w64_4x : Int32) (H : Heap) (locs : List Loc) (ls : Array Slot), (0 ≤ w64_4x.toInt ∧ w64_4x.toInt ≤ 5 ∧ (S64_x.I (S.f o1 0) 2).toInt = (S.I (S.f o1 0) 2).toInt ∧ (S64_x.I o1 24).toInt ≤ 5 ∧ ((S64_x.I o1 24).toInt = 0 ∨ 1 ≤ (S.I (S.f o1 0) 2).toInt) ∧ (S64_x.I o1 26).toInt = x3.toInt ∧ (S64_x.J o1 28).toInt < 0) ∧ IV S64_x o1 ∧ MV S64_x o1 → stp [(10, 16), (12, 15), (12, 24), (12, 25), (12, 26), (12, 28), (17, 100), (23, 100)] [] [] S99 S64_x → va_P D vwCl (X ++ PL cy S64_x) H → va_D A (X ++ PL cy S64_x) → va_S A s.heap H locs → lv_has ls 8 [(4, .int w64_4x), (0, .ref o1), (1, .int x1), (2, .int x2), (3, .int x3)] → W p l e (headSpec wsX12_match ({ frames := 19, cells := 0, slots := 0, locals := 405 } : Room)).room s m [.ref o1, .int x1, .int x2, .int x3].toArray below meth c H locs 0 0 (MQ below (va_Qi (fun r (u : wPS) => stp [(10, 16), (12, 15), (12, 24), (12, 25), (12, 26), (12, 28), (17, 100), (23, 100)] [] [] S u ∧ IV u o1 ∧ MV u o1) (fun u t => WD D cy X A u t) A) [.ref o1, .int x1, .int x2, .int x3].toArray s 0 0 A) (F0 m 176 ls [])) → W p l e (headSpec wsX12_match ({ frames := 19, cells := 0, slots := 0, locals := 405 } : Room)).room s m [.ref o1, .int x1, .int x2, .int x3].toArray below meth c H locs 0 0 (MQ below (va_Qi (fun r (u : wPS) => stp [(10, 16), (12, 15), (12, 24), (12, 25), (12, 26), (12, 28), (17, 100), (23, 100)] [] [] S u ∧ IV u o1 ∧ MV u o1) (fun u t => WD D cy X A u t) A) [.ref o1, .int x1, .int x2, .int x3].toArray s 0 0 A) (F0 m 64 ls []) := by
        intro n64
        induction n64 with
        | zero => intro S64_ w64_4 H locs ls hm; exact absurd hm (Nat.not_lt_zero _)
        | succ n64 ih64 =>
          intro S64_ w64_4 H locs ls hm64 hi64 hsh64 hP hD hS hl ko64
          have hi64a := hi64.1
          refine lv_iload hx hb dX12_match_64 (lv_at hl 0 rfl) ?_
          refine lv_aload_n hx hb dX12_match_66 rfl (lv_at hl 1 rfl) ?_
          have o111 : isA S64_ o1 12 := ((xe103.tr hsh64.x).A (xe91.A (xe79.A (xe68.A (xe50.A (xe39.A h_o1))))))
          obtain ⟨k110, gk110, hk110⟩ := wGt (cy := cy) X S64_ o111.1 o111.2.1
          have i112 := ((hsh64.w.at o111 List.not_mem_nil).to_12 o111.2.1).R24
          refine va_get (D := D) (ci := 16) (v := .int (S64_.I o1 24)) (C := RX12) (T := TX12) (N := 34) hx hb hts hi_X12_match_X12 hown hK hP k110 hk110 rfl 24 (by decide) (hts (.fieldLink RX12 467 "HobhouseModel" "manyFirst" "I") (by decide +kernel)) (fun _ h9 => h9) rfl dX12_match_67 ?_
          refine lv_icmp_ge (tgt := 176) hx hb dX12_match_70 (by decide) (fun c113 => ?_) (fun c113 => ?_)
          · have c113i : (S64_.I o1 24).toInt ≤ w64_4.toInt := le_v rfl rfl c113
            exact ko64 S64_ w64_4 _ _ _ (⟨by omega, hi64.2.1, hi64.2.2⟩) hsh64 hP hD hS (lv_sub hl [0, 1, 2, 3, 4] rfl)
          · have c113i : w64_4.toInt < (S64_.I o1 24).toInt := nle_v rfl rfl c113
            refine lv_iconst (v := 0) hx hb dX12_match_73 (by decide) ?_
            refine lv_istore (lv' := [(5, .int (0 : Int32)), (4, .int w64_4), (0, .ref o1), (1, .int x1), (2, .int x2), (3, .int x3)]) hx hb dX12_match_74 hl (by decide) rfl (fun ls hl => ?_)
            have loop76 : ∀ (n : Nat) (S76_ : wPS) (w76_5 : Int32) (H : Heap) (locs : List Loc) (ls : Array Slot), (6 - w76_5.toInt).toNat < n → (0 ≤ w76_5.toInt ∧ w76_5.toInt ≤ 5 ∧ (S76_.I (S.f o1 0) 2).toInt = (S.I (S.f o1 0) 2).toInt ∧ (S76_.I o1 24).toInt ≤ 5 ∧ ((S76_.I o1 24).toInt = 0 ∨ 1 ≤ (S.I (S.f o1 0) 2).toInt) ∧ (S76_.I o1 26).toInt = x3.toInt ∧ (S76_.J o1 28).toInt < 0) ∧ IV S76_ o1 ∧ MV S76_ o1 → stp [(10, 16), (12, 15), (12, 24), (12, 25), (12, 26), (12, 28), (17, 100), (23, 100)] [] [] S64_ S76_ → va_P D vwCl (X ++ PL cy S76_) H → va_D A (X ++ PL cy S76_) → va_S A s.heap H locs → lv_has ls 8 [(5, .int w76_5), (4, .int w64_4), (0, .ref o1), (1, .int x1), (2, .int x2), (3, .int x3)] → (∀ (S76_x : wPS) (w76_5x : Int32) (H : Heap) (locs : List Loc) (ls : Array Slot), (0 ≤ w76_5x.toInt ∧ w76_5x.toInt ≤ 5 ∧ (S76_x.I (S.f o1 0) 2).toInt = (S.I (S.f o1 0) 2).toInt ∧ (S76_x.I o1 24).toInt ≤ 5 ∧ ((S76_x.I o1 24).toInt = 0 ∨ 1 ≤ (S.I (S.f o1 0) 2).toInt) ∧ (S76_x.I o1 26).toInt = x3.toInt ∧ (S76_x.J o1 28).toInt < 0) ∧ IV S76_x o1 ∧ MV S76_x o1 → stp [(10, 16), (12, 15), (12, 24), (12, 25), (12, 26), (12, 28), (17, 100), (23, 100)] [] [] S64_ S76_x → va_P D vwCl (X ++ PL cy S76_x) H → va_D A (X ++ PL cy S76_x) → va_S A s.heap H locs → lv_has ls 8 [(5, .int w76_5x), (4, .int w64_4), (0, .ref o1), (1, .int x1), (2, .int x2), (3, .int x3)] → W p l e (headSpec wsX12_match ({ frames := 19, cells := 0, slots := 0, locals := 405 } : Room)).room s m [.ref o1, .int x1, .int x2, .int x3].toArray below meth c H locs 0 0 (MQ below (va_Qi (fun r (u : wPS) => stp [(10, 16), (12, 15), (12, 24), (12, 25), (12, 26), (12, 28), (17, 100), (23, 100)] [] [] S u ∧ IV u o1 ∧ MV u o1) (fun u t => WD D cy X A u t) A) [.ref o1, .int x1, .int x2, .int x3].toArray s 0 0 A) (F0 m 170 ls [])) → W p l e (headSpec wsX12_match ({ frames := 19, cells := 0, slots := 0, locals := 405 } : Room)).room s m [.ref o1, .int x1, .int x2, .int x3].toArray below meth c H locs 0 0 (MQ below (va_Qi (fun r (u : wPS) => stp [(10, 16), (12, 15), (12, 24), (12, 25), (12, 26), (12, 28), (17, 100), (23, 100)] [] [] S u ∧ IV u o1 ∧ MV u o1) (fun u t => WD D cy X A u t) A) [.ref o1, .int x1, .int x2, .int x3].toArray s 0 0 A) (F0 m 76 ls []) := by
              intro n76
              induction n76 with
              | zero => intro S76_ w76_5 H locs ls hm; exact absurd hm (Nat.not_lt_zero _)
              | succ n76 ih76 =>
                intro S76_ w76_5 H locs ls hm76 hi76 hsh76 hP hD hS hl ko76
                have hi76a := hi76.1
                refine lv_iload hx hb dX12_match_76 (lv_at hl 0 rfl) ?_
                refine lv_aload_n hx hb dX12_match_78 rfl (lv_at hl 2 rfl) ?_
                obtain ⟨k114, gk114, hk114⟩ := wGt (cy := cy) X S76_ (hsh76.x.A o111).1 (hsh76.x.A o111).2.1
                have i115 := ((hsh76.w.at (hsh76.x.A o111) List.not_mem_nil).to_12 (hsh76.x.A o111).2.1).R25
                refine va_get (D := D) (ci := 16) (v := .int (S76_.I o1 25)) (C := RX12) (T := TX12) (N := 34) hx hb hts hi_X12_match_X12 hown hK hP k114 hk114 rfl 25 (by decide) (hts (.fieldLink RX12 470 "HobhouseModel" "manySecond" "I") (by decide +kernel)) (fun _ h9 => h9) rfl dX12_match_79 ?_
                refine lv_icmp_ge (tgt := 170) hx hb dX12_match_82 (by decide) (fun c116 => ?_) (fun c116 => ?_)
                · have c116i : (S76_.I o1 25).toInt ≤ w76_5.toInt := le_v rfl rfl c116
                  exact ko76 S76_ w76_5 _ _ _ (⟨by omega, hi76.2.1, hi76.2.2⟩) hsh76 hP hD hS (lv_sub hl [0, 1, 2, 3, 4, 5] rfl)
                · have c116i : w76_5.toInt < (S76_.I o1 25).toInt := nle_v rfl rfl c116
                  refine lv_aload_n hx hb dX12_match_85 rfl (lv_at hl 2 rfl) ?_
                  refine lv_aload_n hx hb dX12_match_86 rfl (lv_at hl 2 rfl) ?_
                  obtain ⟨k117, gk117, hk117⟩ := wGt (cy := cy) X S76_ (hsh76.x.A o111).1 (hsh76.x.A o111).2.1
                  simp only [kE, ((xe39.tr (xe50.tr (xe68.tr (xe79.tr (xe91.tr (xe103.tr (hsh64.x.tr hsh76.x))))))).F h_o1 (by decide) F6.1)] at hk117
                  refine va_get (D := D) (ci := 16) (v := .ref (S.f o1 13)) (C := RX12) (T := TX12) (N := 34) hx hb hts hi_X12_match_X12 hown hK hP k117 hk117 rfl 13 (by decide) (hts (.fieldLink RX12 66 "HobhouseModel" "firsts" "[I") (by decide +kernel)) (fun _ h9 => h9) rfl dX12_match_87 ?_
                  refine lv_iload hx hb dX12_match_90 (lv_at hl 1 rfl) ?_
                  have o119 : isA S76_ (S.f o1 13) 23 := ((xe39.tr (xe50.tr (xe68.tr (xe79.tr (xe91.tr (xe103.tr (hsh64.x.tr hsh76.x))))))).A F6.2.1)
                  obtain ⟨k118, gk118, hk118⟩ := wGt (cy := cy) X S76_ o119.1 o119.2.1
                  refine va_iald hx hb hK hP k118 2 hk118 rfl (inb (m := 5) (((xe39.tr (xe50.tr (xe68.tr (xe79.tr (xe91.tr (xe103.tr (hsh64.x.tr hsh76.x))))))).n F6.2.1).trans F6.2.2) (by omega) (by omega)) dX12_match_92 ?_
                  have v9a := iv_at hi76.2.1 (j := 13) (by decide) (by decide) (f_of ((xe39.tr (xe50.tr (xe68.tr (xe79.tr (xe91.tr (xe103.tr (hsh64.x.tr hsh76.x))))))).F h_o1 (by decide) F6.1)) (f_of ((xe39.tr (xe50.tr (xe68.tr (xe79.tr (xe91.tr (xe103.tr (hsh64.x.tr hsh76.x))))))).F h_o1 (by decide) F1.1)) w64_4.toNatClampNeg
                  have hFc := free_all hD hS hA
                  obtain ⟨k120, gk120, hk120⟩ := wGt (cy := cy) X S76_ (hsh76.x.A o111).1 (hsh76.x.A o111).2.1
                  refine va_callq (va_runV (As := [.int (S76_.i (S.f o1 13) w64_4.toNatClampNeg)]) (rest := []) ⟨hx, hb, hml, hown, hts⟩ (c_X12_gearAt l (cy := cy) (X := X) (D := D) S76_ _ o1 (hsh76.x.A o111) (S76_.i (S.f o1 13) w64_4.toNatClampNeg) (hsh76.w) (by rw [f_of ((xe39.tr (xe50.tr (xe68.tr (xe79.tr (xe91.tr (xe103.tr (hsh64.x.tr hsh76.x))))))).F h_o1 (by decide) F1.1)]; omega)) (cwV 1 hts gX12_match_X12_gearAt rfl rfl rfl hd_X12_gearAt ⟨Nat.le_of_ble_eq_true rfl, Nat.le_of_ble_eq_true rfl⟩) (pV (va_recv hK hP (q := (RX12, TX12, 34)) (ci := 16) (q0 := k120) rfl hk120) hP hK hD hN) rfl rfl hl.1 rfl (lv_room (Nat.le_of_ble_eq_true rfl)) dX12_match_93 ⟨(Nat.zero_le _), (Nat.zero_le _)⟩) hS (fun q _ h => hFc q h) hFc (fun r121 u t H1 locs ht hvm hw hB hz1 hk1 hS => ?_)
                  obtain ⟨r121, rfl, c122, o123⟩ := hw
                  obtain ⟨hP, hD⟩ := wd_post hFc ht hB
                  generalize H1 = H at hP hS ⊢
                  refine W.eq (g2 := F0 m 96 ls [.ref r121]) rfl ?_
                  refine lv_astore (lv' := [(6, .ref r121), (5, .int w76_5), (4, .int w64_4), (0, .ref o1), (1, .int x1), (2, .int x2), (3, .int x3)]) hx hb dX12_match_96 hl (by decide) rfl (fun ls hl => ?_)
                  refine lv_aload_n hx hb dX12_match_98 rfl (lv_at hl 3 rfl) ?_
                  refine lv_aload_n hx hb dX12_match_99 rfl (lv_at hl 3 rfl) ?_
                  obtain ⟨k124, gk124, hk124⟩ := wGt (cy := cy) X S76_ (hsh76.x.A o111).1 (hsh76.x.A o111).2.1
                  simp only [kE, ((xe39.tr (xe50.tr (xe68.tr (xe79.tr (xe91.tr (xe103.tr (hsh64.x.tr hsh76.x))))))).F h_o1 (by decide) F7.1)] at hk124
                  refine va_get (D := D) (ci := 16) (v := .ref (S.f o1 14)) (C := RX12) (T := TX12) (N := 34) hx hb hts hi_X12_match_X12 hown hK hP k124 hk124 rfl 14 (by decide) (hts (.fieldLink RX12 69 "HobhouseModel" "seconds" "[I") (by decide +kernel)) (fun _ h9 => h9) rfl dX12_match_100 ?_
                  refine lv_iload hx hb dX12_match_103 (lv_at hl 1 rfl) ?_
                  have o126 : isA S76_ (S.f o1 14) 23 := ((xe68.tr (xe79.tr (xe91.tr (xe103.tr (hsh64.x.tr hsh76.x))))).A ((xe39.tr xe50).A F7.2.1))
                  obtain ⟨k125, gk125, hk125⟩ := wGt (cy := cy) X S76_ o126.1 o126.2.1
                  refine va_iald hx hb hK hP k125 2 hk125 rfl (inb (m := 5) (((xe39.tr (xe50.tr (xe68.tr (xe79.tr (xe91.tr (xe103.tr (hsh64.x.tr hsh76.x))))))).n F7.2.1).trans F7.2.2) (by omega) (by omega)) dX12_match_105 ?_
                  have v9b := iv_at hi76.2.1 (j := 14) (by decide) (by decide) (f_of ((xe39.tr (xe50.tr (xe68.tr (xe79.tr (xe91.tr (xe103.tr (hsh64.x.tr hsh76.x))))))).F h_o1 (by decide) F7.1)) (f_of ((xe39.tr (xe50.tr (xe68.tr (xe79.tr (xe91.tr (xe103.tr (hsh64.x.tr hsh76.x))))))).F h_o1 (by decide) F1.1)) w76_5.toNatClampNeg
                  have hFc := free_all hD hS hA
                  obtain ⟨k127, gk127, hk127⟩ := wGt (cy := cy) X S76_ (hsh76.x.A o111).1 (hsh76.x.A o111).2.1
                  refine va_callq (va_runV (As := [.int (S76_.i (S.f o1 14) w76_5.toNatClampNeg)]) (rest := []) ⟨hx, hb, hml, hown, hts⟩ (c_X12_gearAt l (cy := cy) (X := X) (D := D) S76_ _ o1 (hsh76.x.A o111) (S76_.i (S.f o1 14) w76_5.toNatClampNeg) (hsh76.w) (by rw [f_of ((xe39.tr (xe50.tr (xe68.tr (xe79.tr (xe91.tr (xe103.tr (hsh64.x.tr hsh76.x))))))).F h_o1 (by decide) F1.1)]; omega)) (cwV 1 hts gX12_match_X12_gearAt rfl rfl rfl hd_X12_gearAt ⟨Nat.le_of_ble_eq_true rfl, Nat.le_of_ble_eq_true rfl⟩) (pV (va_recv hK hP (q := (RX12, TX12, 34)) (ci := 16) (q0 := k127) rfl hk127) hP hK hD hN) rfl rfl hl.1 rfl (lv_room (Nat.le_of_ble_eq_true rfl)) dX12_match_106 ⟨(Nat.zero_le _), (Nat.zero_le _)⟩) hS (fun q _ h => hFc q h) hFc (fun r128 u t H1 locs ht hvm hw hB hz1 hk1 hS => ?_)
                  obtain ⟨r128, rfl, c129, o130⟩ := hw
                  obtain ⟨hP, hD⟩ := wd_post hFc ht hB
                  generalize H1 = H at hP hS ⊢
                  refine W.eq (g2 := F0 m 109 ls [.ref r128]) rfl ?_
                  refine lv_astore (lv' := [(7, .ref r128), (6, .ref r121), (5, .int w76_5), (4, .int w64_4), (0, .ref o1), (1, .int x1), (2, .int x2), (3, .int x3)]) hx hb dX12_match_109 hl (by decide) rfl (fun ls hl => ?_)
                  refine lv_aload_n hx hb dX12_match_111 rfl (lv_at hl 4 rfl) ?_
                  have F131 := ((hW.at h_o1 List.not_mem_nil).to_12 h_o1.2.1).F33
                  obtain ⟨k132, gk132, hk132⟩ := wGt (cy := cy) X S76_ (hsh76.x.A o111).1 (hsh76.x.A o111).2.1
                  simp only [kE, ((xe39.tr (xe50.tr (xe68.tr (xe79.tr (xe91.tr (xe103.tr (hsh64.x.tr hsh76.x))))))).F h_o1 (by decide) F131.1)] at hk132
                  refine va_get (D := D) (ci := 16) (v := .ref (S.f o1 33)) (C := RX12) (T := TX12) (N := 34) hx hb hts hi_X12_match_X12 hown hK hP k132 hk132 rfl 33 (by decide) (hts (.fieldLink RX12 91 "HobhouseModel" "peaks" "[I") (by decide +kernel)) (fun _ h9 => h9) rfl dX12_match_112 ?_
                  refine lv_iconst (v := 5) hx hb dX12_match_115 (by decide) ?_
                  refine lv_iload hx hb dX12_match_116 (lv_at hl 3 rfl) ?_
                  refine lv_imul hx hb dX12_match_118 ?_
                  refine lv_iload hx hb dX12_match_119 (lv_at hl 2 rfl) ?_
                  refine lv_iadd hx hb dX12_match_121 ?_
                  refine lv_aload_n hx hb dX12_match_122 rfl (lv_at hl 4 rfl) ?_
                  refine lv_aload_n hx hb dX12_match_123 rfl (lv_at hl 4 rfl) ?_
                  obtain ⟨k133, gk133, hk133⟩ := wGt (cy := cy) X S76_ (hsh76.x.A o111).1 (hsh76.x.A o111).2.1
                  simp only [kE, ((xe39.tr (xe50.tr (xe68.tr (xe79.tr (xe91.tr (xe103.tr (hsh64.x.tr hsh76.x))))))).F h_o1 (by decide) F6.1)] at hk133
                  refine va_get (D := D) (ci := 16) (v := .ref (S.f o1 13)) (C := RX12) (T := TX12) (N := 34) hx hb hts hi_X12_match_X12 hown hK hP k133 hk133 rfl 13 (by decide) (hts (.fieldLink RX12 66 "HobhouseModel" "firsts" "[I") (by decide +kernel)) (fun _ h9 => h9) rfl dX12_match_124 ?_
                  refine lv_iload hx hb dX12_match_127 (lv_at hl 3 rfl) ?_
                  obtain ⟨k134, gk134, hk134⟩ := wGt (cy := cy) X S76_ o119.1 o119.2.1
                  refine va_iald hx hb hK hP k134 2 hk134 rfl (inb (m := 5) (((xe39.tr (xe50.tr (xe68.tr (xe79.tr (xe91.tr (xe103.tr (hsh64.x.tr hsh76.x))))))).n F6.2.1).trans F6.2.2) (by omega) (by omega)) dX12_match_129 ?_
                  refine lv_aload_n hx hb dX12_match_130 rfl (lv_at hl 4 rfl) ?_
                  obtain ⟨k135, gk135, hk135⟩ := wGt (cy := cy) X S76_ (hsh76.x.A o111).1 (hsh76.x.A o111).2.1
                  simp only [kE, ((xe39.tr (xe50.tr (xe68.tr (xe79.tr (xe91.tr (xe103.tr (hsh64.x.tr hsh76.x))))))).F h_o1 (by decide) F7.1)] at hk135
                  refine va_get (D := D) (ci := 16) (v := .ref (S.f o1 14)) (C := RX12) (T := TX12) (N := 34) hx hb hts hi_X12_match_X12 hown hK hP k135 hk135 rfl 14 (by decide) (hts (.fieldLink RX12 69 "HobhouseModel" "seconds" "[I") (by decide +kernel)) (fun _ h9 => h9) rfl dX12_match_131 ?_
                  refine lv_iload hx hb dX12_match_134 (lv_at hl 2 rfl) ?_
                  obtain ⟨k136, gk136, hk136⟩ := wGt (cy := cy) X S76_ o126.1 o126.2.1
                  refine va_iald hx hb hK hP k136 2 hk136 rfl (inb (m := 5) (((xe39.tr (xe50.tr (xe68.tr (xe79.tr (xe91.tr (xe103.tr (hsh64.x.tr hsh76.x))))))).n F7.2.1).trans F7.2.2) (by omega) (by omega)) dX12_match_136 ?_
                  have hFc := free_all hD hS hA
                  obtain ⟨k137, gk137, hk137⟩ := wGt (cy := cy) X S76_ (hsh76.x.A o111).1 (hsh76.x.A o111).2.1
                  refine va_calli (va_runV (As := [.int (S76_.i (S.f o1 13) w64_4.toNatClampNeg), .int (S76_.i (S.f o1 14) w76_5.toNatClampNeg)]) (rest := [.int (((5 : Int32) * w64_4) + w76_5), .ref (S.f o1 33)]) ⟨hx, hb, hml, hown, hts⟩ (c_X12_isPair l (cy := cy) (X := X) (D := D) S76_ _ o1 (hsh76.x.A o111) (S76_.i (S.f o1 13) w64_4.toNatClampNeg) (S76_.i (S.f o1 14) w76_5.toNatClampNeg) (hsh76.w) (by rw [f_of ((xe39.tr (xe50.tr (xe68.tr (xe79.tr (xe91.tr (xe103.tr (hsh64.x.tr hsh76.x))))))).F h_o1 (by decide) F1.1)]; omega) (by rw [f_of ((xe39.tr (xe50.tr (xe68.tr (xe79.tr (xe91.tr (xe103.tr (hsh64.x.tr hsh76.x))))))).F h_o1 (by decide) F1.1)]; omega)) (cwV 2 hts gX12_match_X12_isPair rfl rfl rfl hd_X12_isPair ⟨Nat.le_of_ble_eq_true rfl, Nat.le_of_ble_eq_true rfl⟩) (pV (va_recv hK hP (q := (RX12, TX12, 34)) (ci := 16) (q0 := k137) rfl hk137) hP hK hD hN) rfl rfl hl.1 rfl (lv_room (Nat.le_of_ble_eq_true rfl)) dX12_match_137 ⟨(Nat.zero_le _), (Nat.zero_le _)⟩) hS (fun q _ h => hFc q h) hFc (fun r138 u t H1 locs ht hvm hw hB hz1 hk1 hS => ?_)
                  obtain ⟨c139, y140⟩ := hw
                  obtain ⟨hP, hD⟩ := wd_post hFc ht hB
                  generalize H1 = H at hP hS ⊢
                  obtain rfl : f_X12_isPair S76_ o1 (S76_.i (S.f o1 13) w64_4.toNatClampNeg) (S76_.i (S.f o1 14) w76_5.toNatClampNeg) = r138 := c139.symm
                  refine lv_if_eq (tgt := 162) hx hb dX12_match_140 (by decide) (fun c141 => ?_) (fun c141 => ?_)
                  · have c141i : (f_X12_isPair S76_ o1 (S76_.i (S.f o1 13) w64_4.toNatClampNeg) (S76_.i (S.f o1 14) w76_5.toNatClampNeg)).toInt = 0 := eq_v rfl rfl c141
                    refine lv_iconst (v := 0) hx hb dX12_match_162 (by decide) ?_
                    have l32_5 : (5 : Int32).toInt = 5 := rfl
                    have i142 : ((5 : Int32) * w64_4).toInt = 5 * w64_4.toInt := t_mull rfl (by omega)
                    have i143 : (((5 : Int32) * w64_4) + w76_5).toInt = ((5 : Int32) * w64_4).toInt + w76_5.toInt := t_add (by omega)
                    have o145 : isA S76_ (S.f o1 33) 17 := ((xe39.tr (xe50.tr (xe68.tr (xe79.tr (xe91.tr (xe103.tr (hsh64.x.tr hsh76.x))))))).A F131.2.1)
                    obtain ⟨k144, gk144, hk144⟩ := wGt (cy := cy) X S76_ o145.1 o145.2.1
                    refine va_iast hx hb hK hP hD hS k144 2 hk144 rfl (inb (m := 25) (((xe39.tr (xe50.tr (xe68.tr (xe79.tr (xe91.tr (xe103.tr (hsh64.x.tr hsh76.x))))))).n F131.2.1).trans F131.2.2) (by omega) (by omega)) dX12_match_163 (fun H locs hP2 hD2 hS => ?_)
                    have e9 := wPui (cy := cy) (f := (upd (S76_.i (S.f o1 33)) (((5 : Int32) * w64_4) + w76_5).toNatClampNeg (0 : Int32))) hD o145.1 o145.2.1 gk144 rfl
                    obtain ⟨S146, hS146⟩ : ∃ z, S76_.si (S.f o1 33) (upd (S76_.i (S.f o1 33)) (((5 : Int32) * w64_4) + w76_5).toNatClampNeg (0 : Int32)) = z := ⟨_, rfl⟩
                    have s148 : stp [(17, 100)] [] [] S76_ S146 := by rw [← hS146]; exact (stp.rf hsh76.w).i (upd (S76_.i (S.f o1 33)) (((5 : Int32) * w64_4) + w76_5).toNatClampNeg (0 : Int32)) o145 (by decide)
                    have v147 : IV S146 o1 := IV.keep s148 hsh76.w (hsh76.x.A o111) (by decide) (by decide) hi76.2.1
                    have v149 : MV S146 o1 := MV.keep s148 hsh76.w (hsh76.x.A o111) (by decide) (by decide) hi76.2.2
                    have hP : va_P D vwCl (X ++ PL cy S146) H := by rw [← hS146, ← e9]; exact hP2
                    have hD : va_D A (X ++ PL cy S146) := by rw [← hS146, ← e9]; exact hD2
                    have xe150 : ext S76_ S146 := by rw [← hS146]; exact ext.si _ _ _
                    have t151 : stp [(10, 16), (12, 15), (12, 24), (12, 25), (12, 26), (12, 28), (17, 100), (23, 100)] [] [] S64_ S146 := by rw [← hS146]; exact hsh76.i (upd (S76_.i (S.f o1 33)) (((5 : Int32) * w64_4) + w76_5).toNatClampNeg (0 : Int32)) o145 (by decide)
                    have k152 : (S146.I (S.f o1 0) 2).toInt = (S76_.I (S.f o1 0) 2).toInt := by rw [← hS146]; rfl
                    have k153 : (S146.I o1 24).toInt = (S76_.I o1 24).toInt := by rw [← hS146]; rfl
                    have k154 : (S146.I o1 25).toInt = (S76_.I o1 25).toInt := by rw [← hS146]; rfl
                    have k155 : (S146.I o1 26).toInt = (S76_.I o1 26).toInt := by rw [← hS146]; rfl
                    have k156 : (S146.J o1 28).toInt = (S76_.J o1 28).toInt := by rw [← hS146]; rfl
                    refine lv_iinc (v := w76_5 + (1 : Int32)) (lv' := [(5, .int (w76_5 + (1 : Int32))), (7, .ref r128), (6, .ref r121), (4, .int w64_4), (0, .ref o1), (1, .int x1), (2, .int x2), (3, .int x3)]) hx hb dX12_match_164 hl (k := 2) rfl (by rfl) (by decide) rfl (fun ls hl => ?_)
                    refine lv_goto (tgt := 76) hx hb dX12_match_167 (by decide) ?_
                    have l32_1 : (1 : Int32).toInt = 1 := rfl
                    have i157 : (w76_5 + (1 : Int32)).toInt = w76_5.toInt + 1 := t_addr (n := 1) rfl (by omega)
                    exact ih76 S146 (w76_5 + (1 : Int32)) _ _ _ (Nat.lt_of_lt_of_le (by omega) (Nat.le_of_lt_succ hm76)) (⟨by omega, v147, v149⟩) t151 hP hD hS (lv_sub hl [0, 3, 4, 5, 6, 7] rfl) ko76
                  · have c141i : ¬ (f_X12_isPair S76_ o1 (S76_.i (S.f o1 13) w64_4.toNatClampNeg) (S76_.i (S.f o1 14) w76_5.toNatClampNeg)).toInt = 0 := neq_v rfl rfl c141
                    refine lv_aload_n hx hb dX12_match_143 rfl (lv_at hl 4 rfl) ?_
                    refine lv_aload hx hb dX12_match_144 (lv_at hl 1 rfl) ?_
                    refine lv_aload hx hb dX12_match_146 (lv_at hl 0 rfl) ?_
                    refine lv_aload_n hx hb dX12_match_148 rfl (lv_at hl 4 rfl) ?_
                    refine lv_aload hx hb dX12_match_149 (lv_at hl 1 rfl) ?_
                    refine lv_aload hx hb dX12_match_151 (lv_at hl 0 rfl) ?_
                    have hFc := free_all hD hS hA
                    obtain ⟨k158, gk158, hk158⟩ := wGt (cy := cy) X S76_ (hsh76.x.A o111).1 (hsh76.x.A o111).2.1
                    refine va_calli (va_runV (As := [.ref r121, .ref r128]) (rest := [.ref r128, .ref r121, .ref o1, .int (((5 : Int32) * w64_4) + w76_5), .ref (S.f o1 33)]) ⟨hx, hb, hml, hown, hts⟩ (c_X12_quietestOf l (cy := cy) (X := X) (D := D) S76_ _ o1 (hsh76.x.A o111) r121 o123 r128 o130 (hsh76.w)) (cwV 2 hts gX12_match_X12_quietestOf rfl rfl rfl hd_X12_quietestOf ⟨Nat.le_of_ble_eq_true rfl, Nat.le_of_ble_eq_true rfl⟩) (pV (va_recv hK hP (q := (RX12, TX12, 34)) (ci := 16) (q0 := k158) rfl hk158) hP hK hD hN) rfl rfl hl.1 rfl (lv_room (Nat.le_of_ble_eq_true rfl)) dX12_match_153 ⟨(Nat.zero_le _), (Nat.zero_le _)⟩) hS (fun q _ h => hFc q h) hFc (fun r159 u t H1 locs ht hvm hw hB hz1 hk1 hS => ?_)
                    obtain ⟨w160, y161⟩ := hw
                    obtain ⟨hP, hD⟩ := wd_post hFc ht hB
                    generalize H1 = H at hP hS ⊢
                    obtain ⟨S162, rfl⟩ : ∃ z, z = u := ⟨_, rfl⟩
                    have t163 : stp [(10, 16), (12, 15), (12, 24), (12, 25), (12, 26), (12, 28), (17, 100), (23, 100)] [] [] S64_ S162 := hsh76.tr w160 (by decide) (fun _ q => absurd q List.not_mem_nil)
                    have v164 : IV S162 o1 := IV.keep w160 hsh76.w (hsh76.x.A o111) (by decide) (by decide) hi76.2.1
                    have v165 : MV S162 o1 := MV.keep w160 hsh76.w (hsh76.x.A o111) (by decide) (by decide) hi76.2.2
                    have xe166 : ext S76_ S162 := w160.x
                    have k167 : (S162.I (S.f o1 0) 2).toInt = (S76_.I (S.f o1 0) 2).toInt := by rw [(w160.fR (S.f o1 0) ((xe39.tr (xe50.tr (xe68.tr (xe79.tr (xe91.tr (xe103.tr (hsh64.x.tr hsh76.x))))))).A F1.2.1).1 List.not_mem_nil).1 2 (by rw [((xe39.tr (xe50.tr (xe68.tr (xe79.tr (xe91.tr (xe103.tr (hsh64.x.tr hsh76.x))))))).A F1.2.1).2.1]; decide) |>.1]
                    have k168 : (S162.I o1 24).toInt = (S76_.I o1 24).toInt := by rw [(w160.fR o1 ((xe39.tr (xe50.tr (xe68.tr (xe79.tr (xe91.tr (xe103.tr (hsh64.x.tr hsh76.x))))))).A h_o1).1 List.not_mem_nil).1 24 (by rw [((xe39.tr (xe50.tr (xe68.tr (xe79.tr (xe91.tr (xe103.tr (hsh64.x.tr hsh76.x))))))).A h_o1).2.1]; decide) |>.1]
                    have k169 : (S162.I o1 25).toInt = (S76_.I o1 25).toInt := by rw [(w160.fR o1 ((xe39.tr (xe50.tr (xe68.tr (xe79.tr (xe91.tr (xe103.tr (hsh64.x.tr hsh76.x))))))).A h_o1).1 List.not_mem_nil).1 25 (by rw [((xe39.tr (xe50.tr (xe68.tr (xe79.tr (xe91.tr (xe103.tr (hsh64.x.tr hsh76.x))))))).A h_o1).2.1]; decide) |>.1]
                    have k170 : (S162.I o1 26).toInt = (S76_.I o1 26).toInt := by rw [(w160.fR o1 ((xe39.tr (xe50.tr (xe68.tr (xe79.tr (xe91.tr (xe103.tr (hsh64.x.tr hsh76.x))))))).A h_o1).1 List.not_mem_nil).1 26 (by rw [((xe39.tr (xe50.tr (xe68.tr (xe79.tr (xe91.tr (xe103.tr (hsh64.x.tr hsh76.x))))))).A h_o1).2.1]; decide) |>.1]
                    have k171 : (S162.J o1 28).toInt = (S76_.J o1 28).toInt := by rw [(w160.fR o1 ((xe39.tr (xe50.tr (xe68.tr (xe79.tr (xe91.tr (xe103.tr (hsh64.x.tr hsh76.x))))))).A h_o1).1 List.not_mem_nil).1 28 (by rw [((xe39.tr (xe50.tr (xe68.tr (xe79.tr (xe91.tr (xe103.tr (hsh64.x.tr hsh76.x))))))).A h_o1).2.1]; decide) |>.2]
                    have hFc := free_all hD hS hA
                    obtain ⟨k172, gk172, hk172⟩ := wGt (cy := cy) X S162 (xe166.A (hsh76.x.A o111)).1 (xe166.A (hsh76.x.A o111)).2.1
                    refine va_calli (va_runV (As := [.ref r121, .ref r128, .int r159]) (rest := [.int (((5 : Int32) * w64_4) + w76_5), .ref (S.f o1 33)]) ⟨hx, hb, hml, hown, hts⟩ (c_X12_peakOf l (cy := cy) (X := X) (D := D) S162 _ o1 (xe166.A (hsh76.x.A o111)) r121 (xe166.A o123) r128 (xe166.A o130) r159 (t163.w) (by omega)) (cwV 3 hts gX12_match_X12_peakOf rfl rfl rfl hd_X12_peakOf ⟨Nat.le_of_ble_eq_true rfl, Nat.le_of_ble_eq_true rfl⟩) (pV (va_recv hK hP (q := (RX12, TX12, 34)) (ci := 16) (q0 := k172) rfl hk172) hP hK hD hN) rfl rfl hl.1 rfl (lv_room (Nat.le_of_ble_eq_true rfl)) dX12_match_156 ⟨(Nat.zero_le _), (Nat.zero_le _)⟩) hS (fun q _ h => hFc q h) hFc (fun r173 u t H1 locs ht hvm hw hB hz1 hk1 hS => ?_)
                    have w174 := hw
                    obtain ⟨hP, hD⟩ := wd_post hFc ht hB
                    generalize H1 = H at hP hS ⊢
                    obtain ⟨S175, rfl⟩ : ∃ z, z = u := ⟨_, rfl⟩
                    have t176 : stp [(10, 16), (12, 15), (12, 24), (12, 25), (12, 26), (12, 28), (17, 100), (23, 100)] [] [] S64_ S175 := t163.tr w174 (by decide) (fun _ q => absurd q List.not_mem_nil)
                    have v177 : IV S175 o1 := IV.keep w174 t163.w (xe166.A (hsh76.x.A o111)) (by decide) (by decide) v164
                    have v178 : MV S175 o1 := MV.keep w174 t163.w (xe166.A (hsh76.x.A o111)) (by decide) (by decide) v165
                    have xe179 : ext S162 S175 := w174.x
                    have k180 : (S175.I (S.f o1 0) 2).toInt = (S162.I (S.f o1 0) 2).toInt := by rw [(w174.fR (S.f o1 0) ((xe39.tr (xe50.tr (xe68.tr (xe79.tr (xe91.tr (xe103.tr (hsh64.x.tr (hsh76.x.tr xe166)))))))).A F1.2.1).1 List.not_mem_nil).1 2 (by rw [((xe39.tr (xe50.tr (xe68.tr (xe79.tr (xe91.tr (xe103.tr (hsh64.x.tr (hsh76.x.tr xe166)))))))).A F1.2.1).2.1]; decide) |>.1]
                    have k181 : (S175.I o1 24).toInt = (S162.I o1 24).toInt := by rw [(w174.fR o1 ((xe39.tr (xe50.tr (xe68.tr (xe79.tr (xe91.tr (xe103.tr (hsh64.x.tr (hsh76.x.tr xe166)))))))).A h_o1).1 List.not_mem_nil).1 24 (by rw [((xe39.tr (xe50.tr (xe68.tr (xe79.tr (xe91.tr (xe103.tr (hsh64.x.tr (hsh76.x.tr xe166)))))))).A h_o1).2.1]; decide) |>.1]
                    have k182 : (S175.I o1 25).toInt = (S162.I o1 25).toInt := by rw [(w174.fR o1 ((xe39.tr (xe50.tr (xe68.tr (xe79.tr (xe91.tr (xe103.tr (hsh64.x.tr (hsh76.x.tr xe166)))))))).A h_o1).1 List.not_mem_nil).1 25 (by rw [((xe39.tr (xe50.tr (xe68.tr (xe79.tr (xe91.tr (xe103.tr (hsh64.x.tr (hsh76.x.tr xe166)))))))).A h_o1).2.1]; decide) |>.1]
                    have k183 : (S175.I o1 26).toInt = (S162.I o1 26).toInt := by rw [(w174.fR o1 ((xe39.tr (xe50.tr (xe68.tr (xe79.tr (xe91.tr (xe103.tr (hsh64.x.tr (hsh76.x.tr xe166)))))))).A h_o1).1 List.not_mem_nil).1 26 (by rw [((xe39.tr (xe50.tr (xe68.tr (xe79.tr (xe91.tr (xe103.tr (hsh64.x.tr (hsh76.x.tr xe166)))))))).A h_o1).2.1]; decide) |>.1]
                    have k184 : (S175.J o1 28).toInt = (S162.J o1 28).toInt := by rw [(w174.fR o1 ((xe39.tr (xe50.tr (xe68.tr (xe79.tr (xe91.tr (xe103.tr (hsh64.x.tr (hsh76.x.tr xe166)))))))).A h_o1).1 List.not_mem_nil).1 28 (by rw [((xe39.tr (xe50.tr (xe68.tr (xe79.tr (xe91.tr (xe103.tr (hsh64.x.tr (hsh76.x.tr xe166)))))))).A h_o1).2.1]; decide) |>.2]
                    refine lv_goto (tgt := 163) hx hb dX12_match_159 (by decide) ?_
                    have l32_5 : (5 : Int32).toInt = 5 := rfl
                    have i185 : ((5 : Int32) * w64_4).toInt = 5 * w64_4.toInt := t_mull rfl (by omega)
                    have i186 : (((5 : Int32) * w64_4) + w76_5).toInt = ((5 : Int32) * w64_4).toInt + w76_5.toInt := t_add (by omega)
                    have o188 : isA S175 (S.f o1 33) 17 := ((xe39.tr (xe50.tr (xe68.tr (xe79.tr (xe91.tr (xe103.tr (hsh64.x.tr (hsh76.x.tr (xe166.tr xe179))))))))).A F131.2.1)
                    obtain ⟨k187, gk187, hk187⟩ := wGt (cy := cy) X S175 o188.1 o188.2.1
                    refine va_iast hx hb hK hP hD hS k187 2 hk187 rfl (inb (m := 25) (((xe39.tr (xe50.tr (xe68.tr (xe79.tr (xe91.tr (xe103.tr (hsh64.x.tr (hsh76.x.tr (xe166.tr xe179))))))))).n F131.2.1).trans F131.2.2) (by omega) (by omega)) dX12_match_163 (fun H locs hP2 hD2 hS => ?_)
                    have e9 := wPui (cy := cy) (f := (upd (S175.i (S.f o1 33)) (((5 : Int32) * w64_4) + w76_5).toNatClampNeg r173)) hD o188.1 o188.2.1 gk187 rfl
                    obtain ⟨S189, hS189⟩ : ∃ z, S175.si (S.f o1 33) (upd (S175.i (S.f o1 33)) (((5 : Int32) * w64_4) + w76_5).toNatClampNeg r173) = z := ⟨_, rfl⟩
                    have s191 : stp [(17, 100)] [] [] S175 S189 := by rw [← hS189]; exact (stp.rf t176.w).i (upd (S175.i (S.f o1 33)) (((5 : Int32) * w64_4) + w76_5).toNatClampNeg r173) o188 (by decide)
                    have v190 : IV S189 o1 := IV.keep s191 t176.w (xe179.A (xe166.A (hsh76.x.A o111))) (by decide) (by decide) v177
                    have v192 : MV S189 o1 := MV.keep s191 t176.w (xe179.A (xe166.A (hsh76.x.A o111))) (by decide) (by decide) v178
                    have hP : va_P D vwCl (X ++ PL cy S189) H := by rw [← hS189, ← e9]; exact hP2
                    have hD : va_D A (X ++ PL cy S189) := by rw [← hS189, ← e9]; exact hD2
                    have xe193 : ext S175 S189 := by rw [← hS189]; exact ext.si _ _ _
                    have t194 : stp [(10, 16), (12, 15), (12, 24), (12, 25), (12, 26), (12, 28), (17, 100), (23, 100)] [] [] S64_ S189 := by rw [← hS189]; exact t176.i (upd (S175.i (S.f o1 33)) (((5 : Int32) * w64_4) + w76_5).toNatClampNeg r173) o188 (by decide)
                    have k195 : (S189.I (S.f o1 0) 2).toInt = (S175.I (S.f o1 0) 2).toInt := by rw [← hS189]; rfl
                    have k196 : (S189.I o1 24).toInt = (S175.I o1 24).toInt := by rw [← hS189]; rfl
                    have k197 : (S189.I o1 25).toInt = (S175.I o1 25).toInt := by rw [← hS189]; rfl
                    have k198 : (S189.I o1 26).toInt = (S175.I o1 26).toInt := by rw [← hS189]; rfl
                    have k199 : (S189.J o1 28).toInt = (S175.J o1 28).toInt := by rw [← hS189]; rfl
                    refine lv_iinc (v := w76_5 + (1 : Int32)) (lv' := [(5, .int (w76_5 + (1 : Int32))), (7, .ref r128), (6, .ref r121), (4, .int w64_4), (0, .ref o1), (1, .int x1), (2, .int x2), (3, .int x3)]) hx hb dX12_match_164 hl (k := 2) rfl (by rfl) (by decide) rfl (fun ls hl => ?_)
                    refine lv_goto (tgt := 76) hx hb dX12_match_167 (by decide) ?_
                    have l32_1 : (1 : Int32).toInt = 1 := rfl
                    have i200 : (w76_5 + (1 : Int32)).toInt = w76_5.toInt + 1 := t_addr (n := 1) rfl (by omega)
                    exact ih76 S189 (w76_5 + (1 : Int32)) _ _ _ (Nat.lt_of_lt_of_le (by omega) (Nat.le_of_lt_succ hm76)) (⟨by omega, v190, v192⟩) t194 hP hD hS (lv_sub hl [0, 3, 4, 5, 6, 7] rfl) ko76
            refine loop76 7 S64_ (0 : Int32) _ _ _ (by omega) (⟨by omega, hi64.2.1, hi64.2.2⟩) (stp.rf hsh64.w) hP hD hS (lv_sub hl [0, 1, 2, 3, 4, 5] rfl) (fun S202 z203 H locs ls hi76 hsh76 hP hD hS hl => ?_)
            have t204 : stp [(10, 16), (12, 15), (12, 24), (12, 25), (12, 26), (12, 28), (17, 100), (23, 100)] [] [] S99 S202 := hsh64.tr hsh76 (fun _ q => q) (fun _ q => Or.inl q)
            have et204 := hsh76.x
            have hi76b := hi76.1
            refine lv_iinc (v := w64_4 + (1 : Int32)) (lv' := [(4, .int (w64_4 + (1 : Int32))), (5, .int z203), (0, .ref o1), (1, .int x1), (2, .int x2), (3, .int x3)]) hx hb dX12_match_170 hl (k := 1) rfl (by rfl) (by decide) rfl (fun ls hl => ?_)
            refine lv_goto (tgt := 64) hx hb dX12_match_173 (by decide) ?_
            have l32_1 : (1 : Int32).toInt = 1 := rfl
            have i205 : (w64_4 + (1 : Int32)).toInt = w64_4.toInt + 1 := t_addr (n := 1) rfl (by omega)
            exact ih64 S202 (w64_4 + (1 : Int32)) _ _ _ (Nat.lt_of_lt_of_le (by omega) (Nat.le_of_lt_succ hm64)) (⟨by omega, hi76.2.1, hi76.2.2⟩) t204 hP hD hS (lv_sub hl [0, 2, 3, 4, 5] rfl) ko64
      refine loop64 7 S99 (0 : Int32) _ _ _ (by omega) (⟨by omega, v100, v102⟩) (stp.rf t104.w) hP hD hS (lv_sub hl [0, 1, 2, 3, 4] rfl) (fun S207 z208 H locs ls hi64 hsh64 hP hD hS hl => ?_)
      have t209 : stp [(10, 16), (12, 15), (12, 24), (12, 25), (12, 26), (12, 28), (17, 100), (23, 100)] [] [] S S207 := t104.tr hsh64 (fun _ q => q) (fun _ q => Or.inl q)
      have et209 := hsh64.x
      have hi64b := hi64.1
      refine lv_aload_n hx hb dX12_match_176 rfl (lv_at hl 1 rfl) ?_
      refine lv_iconst (v := 0) hx hb dX12_match_177 (by decide) ?_
      refine lv_iconst (v := 0) hx hb dX12_match_178 (by decide) ?_
      refine lv_iconst (v := 0) hx hb dX12_match_179 (by decide) ?_
      refine lv_lconst (v := 0) hx hb dX12_match_180 (by decide) ?_
      have e9f : S207.f o1 0 = (S.f o1 0) := f_of ((xe39.tr (xe50.tr (xe68.tr (xe79.tr (xe91.tr (xe103.tr et209)))))).F h_o1 (by decide) F1.1)
      have hFc := free_all hD hS hA
      have o211 : isA S207 o1 12 := ((xe103.tr et209).A (xe91.A (xe79.A (xe68.A (xe50.A (xe39.A h_o1))))))
      obtain ⟨k210, gk210, hk210⟩ := wGt (cy := cy) X S207 o211.1 o211.2.1
      refine va_callv (va_runV (As := [.int (0 : Int32), .int (0 : Int32), .int (0 : Int32), .long (0 : Int64)]) (rest := []) ⟨hx, hb, hml, hown, hts⟩ (c_X12_matches_0 l (cy := cy) (X := X) (D := D) S207 _ o1 ((xe103.tr et209).A (xe91.A (xe79.A (xe68.A (xe50.A (xe39.A h_o1)))))) (0 : Int32) (0 : Int32) (0 : Int32) (0 : Int64) (t209.w) hi64.2.1 (by omega) (by omega) (by rw [f_of ((xe39.tr (xe50.tr (xe68.tr (xe79.tr (xe91.tr (xe103.tr et209)))))).F h_o1 (by decide) F1.1)]; omega)) (cwV 4 hts gX12_match_X12_matches rfl rfl rfl hd_X12_matches ⟨Nat.le_of_ble_eq_true rfl, Nat.le_of_ble_eq_true rfl⟩) (pV (va_recv hK hP (q := (RX12, TX12, 34)) (ci := 16) (q0 := k210) rfl hk210) hP hK hD hN) rfl rfl hl.1 rfl (lv_room (Nat.le_of_ble_eq_true rfl)) dX12_match_181 ⟨(Nat.zero_le _), (Nat.zero_le _)⟩) hS (fun q _ h => hFc q h) hFc (fun u t H1 locs ht hvm hw hB hz1 hk1 hS => ?_)
      obtain ⟨w213, y214, y215⟩ := hw
      obtain ⟨hP, hD⟩ := wd_post hFc ht hB
      generalize H1 = H at hP hS ⊢
      obtain ⟨S216, rfl⟩ : ∃ z, z = u := ⟨_, rfl⟩
      have t217 : stp [(10, 16), (12, 15), (12, 24), (12, 25), (12, 26), (12, 28), (17, 100), (23, 100)] [] [] S S216 := t209.tr w213 (by decide) (fun _ q => absurd q List.not_mem_nil)
      have v218 : IV S216 o1 := y214
      have v219 : MV S216 o1 := MV.keep w213 t209.w o211 (by decide) (by decide) hi64.2.2
      have xe220 : ext S207 S216 := w213.x
      have k221 : (S216.I (S.f o1 0) 2).toInt = (S207.I (S.f o1 0) 2).toInt := by rw [(w213.fR (S.f o1 0) ((xe39.tr (xe50.tr (xe68.tr (xe79.tr (xe91.tr (xe103.tr et209)))))).A F1.2.1).1 List.not_mem_nil).1 2 (by rw [((xe39.tr (xe50.tr (xe68.tr (xe79.tr (xe91.tr (xe103.tr et209)))))).A F1.2.1).2.1]; decide) |>.1]
      have k222 : (S216.I o1 24).toInt = (S207.I o1 24).toInt := by rw [(w213.fR o1 ((xe39.tr (xe50.tr (xe68.tr (xe79.tr (xe91.tr (xe103.tr et209)))))).A h_o1).1 List.not_mem_nil).1 24 (by rw [((xe39.tr (xe50.tr (xe68.tr (xe79.tr (xe91.tr (xe103.tr et209)))))).A h_o1).2.1]; decide) |>.1]
      have k223 : (S216.I o1 25).toInt = (S207.I o1 25).toInt := by rw [(w213.fR o1 ((xe39.tr (xe50.tr (xe68.tr (xe79.tr (xe91.tr (xe103.tr et209)))))).A h_o1).1 List.not_mem_nil).1 25 (by rw [((xe39.tr (xe50.tr (xe68.tr (xe79.tr (xe91.tr (xe103.tr et209)))))).A h_o1).2.1]; decide) |>.1]
      have k224 : (S216.I o1 26).toInt = (S207.I o1 26).toInt := by rw [(w213.fR o1 ((xe39.tr (xe50.tr (xe68.tr (xe79.tr (xe91.tr (xe103.tr et209)))))).A h_o1).1 List.not_mem_nil).1 26 (by rw [((xe39.tr (xe50.tr (xe68.tr (xe79.tr (xe91.tr (xe103.tr et209)))))).A h_o1).2.1]; decide) |>.1]
      have y9 := y215
      clear y215
      rw [e9f] at y9
      refine lv_aload_n hx hb dX12_match_184 rfl (lv_at hl 1 rfl) ?_
      obtain ⟨k225, gk225, hk225⟩ := wGt (cy := cy) X S216 (xe220.A o211).1 (xe220.A o211).2.1
      refine va_get (D := D) (ci := 16) (v := .long (S216.J o1 28)) (C := RX12) (T := TX12) (N := 34) hx hb hts hi_X12_match_X12 hown hK hP k225 hk225 rfl 28 (by decide) (hts (.fieldLink RX12 464 "HobhouseModel" "bestSum" "J") (by decide +kernel)) (fun _ h9 => h9) rfl dX12_match_185 ?_
      refine lv_lconst (v := 0) hx hb dX12_match_188 (by decide) ?_
      refine W.lcmp hx hb dX12_match_189 ?_
      have l64_0 : (0 : Int64).toInt = 0 := rfl
      refine lv_if_ge (tgt := 199) hx hb dX12_match_190 (by decide) (fun c226 => ?_) (fun c226 => ?_)
      · have c226i := lc_ge c226
        have y9e : 1 ≤ (S.I (S.f o1 0) 2).toInt := by omega
        have y9f := hi64b.2.2.1
        clear y9 y30 hi64 hi64b
        refine lv_iconst (v := 0) hx hb dX12_match_199 (by decide) ?_
        refine lv_istore (lv' := [(4, .int (0 : Int32)), (0, .ref o1), (1, .int x1), (2, .int x2), (3, .int x3)]) hx hb dX12_match_200 hl (by decide) rfl (fun ls hl => ?_)
        have loop202 : ∀ (n : Nat) (S202_ : wPS) (w202_4 : Int32) (H : Heap) (locs : List Loc) (ls : Array Slot), (5 - w202_4.toInt).toNat < n → (0 ≤ w202_4.toInt ∧ w202_4.toInt ≤ 4 ∧ (S202_.I (S.f o1 0) 2).toInt = (S.I (S.f o1 0) 2).toInt) ∧ IV S202_ o1 ∧ MV S202_ o1 → stp [(10, 16), (12, 15), (12, 24), (12, 25), (12, 26), (12, 28), (17, 100), (23, 100)] [] [] S216 S202_ → va_P D vwCl (X ++ PL cy S202_) H → va_D A (X ++ PL cy S202_) → va_S A s.heap H locs → lv_has ls 8 [(4, .int w202_4), (0, .ref o1), (1, .int x1), (2, .int x2), (3, .int x3)] → (∀ (S202_x : wPS) (w202_4x : Int32) (H : Heap) (locs : List Loc) (ls : Array Slot), (0 ≤ w202_4x.toInt ∧ w202_4x.toInt ≤ 4 ∧ (S202_x.I (S.f o1 0) 2).toInt = (S.I (S.f o1 0) 2).toInt) ∧ IV S202_x o1 ∧ MV S202_x o1 → stp [(10, 16), (12, 15), (12, 24), (12, 25), (12, 26), (12, 28), (17, 100), (23, 100)] [] [] S216 S202_x → va_P D vwCl (X ++ PL cy S202_x) H → va_D A (X ++ PL cy S202_x) → va_S A s.heap H locs → lv_has ls 8 [(4, .int w202_4x), (0, .ref o1), (1, .int x1), (2, .int x2), (3, .int x3)] → W p l e (headSpec wsX12_match ({ frames := 19, cells := 0, slots := 0, locals := 405 } : Room)).room s m [.ref o1, .int x1, .int x2, .int x3].toArray below meth c H locs 0 0 (MQ below (va_Qi (fun r (u : wPS) => stp [(10, 16), (12, 15), (12, 24), (12, 25), (12, 26), (12, 28), (17, 100), (23, 100)] [] [] S u ∧ IV u o1 ∧ MV u o1) (fun u t => WD D cy X A u t) A) [.ref o1, .int x1, .int x2, .int x3].toArray s 0 0 A) (F0 m 256 ls [])) → W p l e (headSpec wsX12_match ({ frames := 19, cells := 0, slots := 0, locals := 405 } : Room)).room s m [.ref o1, .int x1, .int x2, .int x3].toArray below meth c H locs 0 0 (MQ below (va_Qi (fun r (u : wPS) => stp [(10, 16), (12, 15), (12, 24), (12, 25), (12, 26), (12, 28), (17, 100), (23, 100)] [] [] S u ∧ IV u o1 ∧ MV u o1) (fun u t => WD D cy X A u t) A) [.ref o1, .int x1, .int x2, .int x3].toArray s 0 0 A) (F0 m 202 ls []) := by
          intro n202
          induction n202 with
          | zero => intro S202_ w202_4 H locs ls hm; exact absurd hm (Nat.not_lt_zero _)
          | succ n202 ih202 =>
            intro S202_ w202_4 H locs ls hm202 hi202 hsh202 hP hD hS hl ko202
            have hi202a := hi202.1
            refine lv_iload hx hb dX12_match_202 (lv_at hl 0 rfl) ?_
            refine lv_iload_n hx hb dX12_match_204 rfl (lv_at hl 4 rfl) ?_
            refine lv_icmp_ge (tgt := 256) hx hb dX12_match_205 (by decide) (fun c227 => ?_) (fun c227 => ?_)
            · have c227i : x3.toInt ≤ w202_4.toInt := le_v rfl rfl c227
              exact ko202 S202_ w202_4 _ _ _ (⟨by omega, hi202.2.1, hi202.2.2⟩) hsh202 hP hD hS (lv_sub hl [0, 1, 2, 3, 4] rfl)
            · have c227i : w202_4.toInt < x3.toInt := nle_v rfl rfl c227
              refine lv_aload_n hx hb dX12_match_208 rfl (lv_at hl 1 rfl) ?_
              refine lv_aload_n hx hb dX12_match_209 rfl (lv_at hl 1 rfl) ?_
              obtain ⟨k228, gk228, hk228⟩ := wGt (cy := cy) X S202_ (hsh202.x.A (xe220.A o211)).1 (hsh202.x.A (xe220.A o211)).2.1
              simp only [kE, ((xe39.tr (xe50.tr (xe68.tr (xe79.tr (xe91.tr (xe103.tr (et209.tr (xe220.tr hsh202.x)))))))).F h_o1 (by decide) F4.1)] at hk228
              refine va_get (D := D) (ci := 16) (v := .ref (S.f o1 11)) (C := RX12) (T := TX12) (N := 34) hx hb hts hi_X12_match_X12 hown hK hP k228 hk228 rfl 11 (by decide) (hts (.fieldLink RX12 60 "HobhouseModel" "bestFirst" "[I") (by decide +kernel)) (fun _ h9 => h9) rfl dX12_match_210 ?_
              refine lv_iload hx hb dX12_match_213 (lv_at hl 0 rfl) ?_
              have o230 : isA S202_ (S.f o1 11) 23 := ((xe39.tr (xe50.tr (xe68.tr (xe79.tr (xe91.tr (xe103.tr (et209.tr (xe220.tr hsh202.x)))))))).A F4.2.1)
              obtain ⟨k229, gk229, hk229⟩ := wGt (cy := cy) X S202_ o230.1 o230.2.1
              refine va_iald hx hb hK hP k229 2 hk229 rfl (inb (m := 4) (((xe39.tr (xe50.tr (xe68.tr (xe79.tr (xe91.tr (xe103.tr (et209.tr (xe220.tr hsh202.x)))))))).n F4.2.1).trans F4.2.2) (by omega) (by omega)) dX12_match_215 ?_
              have v9a := iv_at hi202.2.1 (j := 11) (by decide) (by decide) (f_of ((xe39.tr (xe50.tr (xe68.tr (xe79.tr (xe91.tr (xe103.tr (et209.tr (xe220.tr hsh202.x)))))))).F h_o1 (by decide) F4.1)) (f_of ((xe39.tr (xe50.tr (xe68.tr (xe79.tr (xe91.tr (xe103.tr (et209.tr (xe220.tr hsh202.x)))))))).F h_o1 (by decide) F1.1)) w202_4.toNatClampNeg
              have hFc := free_all hD hS hA
              obtain ⟨k231, gk231, hk231⟩ := wGt (cy := cy) X S202_ (hsh202.x.A (xe220.A o211)).1 (hsh202.x.A (xe220.A o211)).2.1
              refine va_callq (va_runV (As := [.int (S202_.i (S.f o1 11) w202_4.toNatClampNeg)]) (rest := []) ⟨hx, hb, hml, hown, hts⟩ (c_X12_gearAt l (cy := cy) (X := X) (D := D) S202_ _ o1 (hsh202.x.A (xe220.A o211)) (S202_.i (S.f o1 11) w202_4.toNatClampNeg) (hsh202.w) (by rw [f_of ((xe39.tr (xe50.tr (xe68.tr (xe79.tr (xe91.tr (xe103.tr (et209.tr (xe220.tr hsh202.x)))))))).F h_o1 (by decide) F1.1)]; omega)) (cwV 1 hts gX12_match_X12_gearAt rfl rfl rfl hd_X12_gearAt ⟨Nat.le_of_ble_eq_true rfl, Nat.le_of_ble_eq_true rfl⟩) (pV (va_recv hK hP (q := (RX12, TX12, 34)) (ci := 16) (q0 := k231) rfl hk231) hP hK hD hN) rfl rfl hl.1 rfl (lv_room (Nat.le_of_ble_eq_true rfl)) dX12_match_216 ⟨(Nat.zero_le _), (Nat.zero_le _)⟩) hS (fun q _ h => hFc q h) hFc (fun r232 u t H1 locs ht hvm hw hB hz1 hk1 hS => ?_)
              obtain ⟨r232, rfl, c233, o234⟩ := hw
              obtain ⟨hP, hD⟩ := wd_post hFc ht hB
              generalize H1 = H at hP hS ⊢
              refine W.eq (g2 := F0 m 219 ls [.ref r232]) rfl ?_
              refine lv_aload_n hx hb dX12_match_219 rfl (lv_at hl 1 rfl) ?_
              obtain ⟨k235, gk235, hk235⟩ := wGt (cy := cy) X S202_ (hsh202.x.A (xe220.A o211)).1 (hsh202.x.A (xe220.A o211)).2.1
              simp only [kE, ((xe39.tr (xe50.tr (xe68.tr (xe79.tr (xe91.tr (xe103.tr (et209.tr (xe220.tr hsh202.x)))))))).F h_o1 (by decide) F5.1)] at hk235
              refine va_get (D := D) (ci := 16) (v := .ref (S.f o1 12)) (C := RX12) (T := TX12) (N := 34) hx hb hts hi_X12_match_X12 hown hK hP k235 hk235 rfl 12 (by decide) (hts (.fieldLink RX12 63 "HobhouseModel" "bestSecond" "[I") (by decide +kernel)) (fun _ h9 => h9) rfl dX12_match_220 ?_
              refine lv_iload hx hb dX12_match_223 (lv_at hl 0 rfl) ?_
              have o237 : isA S202_ (S.f o1 12) 23 := ((xe39.tr (xe50.tr (xe68.tr (xe79.tr (xe91.tr (xe103.tr (et209.tr (xe220.tr hsh202.x)))))))).A F5.2.1)
              obtain ⟨k236, gk236, hk236⟩ := wGt (cy := cy) X S202_ o237.1 o237.2.1
              refine va_iald hx hb hK hP k236 2 hk236 rfl (inb (m := 4) (((xe39.tr (xe50.tr (xe68.tr (xe79.tr (xe91.tr (xe103.tr (et209.tr (xe220.tr hsh202.x)))))))).n F5.2.1).trans F5.2.2) (by omega) (by omega)) dX12_match_225 ?_
              have v9b := iv_at hi202.2.1 (j := 12) (by decide) (by decide) (f_of ((xe39.tr (xe50.tr (xe68.tr (xe79.tr (xe91.tr (xe103.tr (et209.tr (xe220.tr hsh202.x)))))))).F h_o1 (by decide) F5.1)) (f_of ((xe39.tr (xe50.tr (xe68.tr (xe79.tr (xe91.tr (xe103.tr (et209.tr (xe220.tr hsh202.x)))))))).F h_o1 (by decide) F1.1)) w202_4.toNatClampNeg
              obtain ⟨k238, gk238, hk238⟩ := wGt (cy := cy) X S202_ o234.1 o234.2.1
              refine va_putN (D := D) (ci := 14) (v := .int (S202_.i (S.f o1 12) w202_4.toNatClampNeg)) (ty := .int) (C := RX10) (T := TX10) (N := 23) hx hb hts hi_X12_match_X10 tyX10 tyX10_ok nmX10 hown hK hP hD hS k238 hk238 rfl 16 (by decide) (va_Nw.use rfl (hN (.fieldLinkNest RX12 446 "HobhouseModel$Gear" "mate" "I" "HobhouseModel") (by decide +kernel))) (fun _ h9 => h9) rfl (by decide +kernel) (rfl) (rfl) (Nat.le_of_ble_eq_true rfl) dX12_match_226 (fun H locs hP2 hD2 hS => ?_)
              have e9 := wPuI (cy := cy) (j := 16) (v := (S202_.i (S.f o1 12) w202_4.toNatClampNeg)) hD o234.1 o234.2.1 gk238 rfl
              obtain ⟨S239, hS239⟩ : ∃ z, S202_.sI r232 16 (S202_.i (S.f o1 12) w202_4.toNatClampNeg) = z := ⟨_, rfl⟩
              have s241 : stp [(10, 16)] [] [] S202_ S239 := by rw [← hS239]; exact (stp.rf hsh202.w).I 16 (S202_.i (S.f o1 12) w202_4.toNatClampNeg) o234 (by decide) (trivial) (Or.inl (by decide))
              have v240 : IV S239 o1 := IV.keep s241 hsh202.w (hsh202.x.A (xe220.A o211)) (by decide) (by decide) hi202.2.1
              have v242 : MV S239 o1 := by rw [← hS239]; exact MV.set hi202.2.2 o234 ((xe39.tr (xe50.tr (xe68.tr (xe79.tr (xe91.tr (xe103.tr (et209.tr (xe220.tr hsh202.x)))))))).A F1.2.1) (f_of ((xe39.tr (xe50.tr (xe68.tr (xe79.tr (xe91.tr (xe103.tr (et209.tr (xe220.tr hsh202.x)))))))).F h_o1 (by decide) F1.1)) ⟨by omega, by omega⟩
              have hP : va_P D vwCl (X ++ PL cy S239) H := by rw [← hS239, ← e9]; exact hP2
              have hD : va_D A (X ++ PL cy S239) := by rw [← hS239, ← e9]; exact hD2
              have xe243 : ext S202_ S239 := by rw [← hS239]; exact ext.sI _ _ _ _
              have t244 : stp [(10, 16), (12, 15), (12, 24), (12, 25), (12, 26), (12, 28), (17, 100), (23, 100)] [] [] S216 S239 := by rw [← hS239]; exact hsh202.I 16 (S202_.i (S.f o1 12) w202_4.toNatClampNeg) o234 (by decide) (trivial) (Or.inl (by decide))
              have k245 : (S239.I (S.f o1 0) 2).toInt = (S202_.I (S.f o1 0) 2).toInt := by rw [← hS239]; exact congrArg Int32.toInt (sI_I (by rintro ⟨e1, e2⟩; exact absurd e2 (by decide)))
              have k246 : (S239.I o1 24).toInt = (S202_.I o1 24).toInt := by rw [← hS239]; exact congrArg Int32.toInt (sI_I (by rintro ⟨e1, e2⟩; exact absurd e2 (by decide)))
              have k247 : (S239.I o1 25).toInt = (S202_.I o1 25).toInt := by rw [← hS239]; exact congrArg Int32.toInt (sI_I (by rintro ⟨e1, e2⟩; exact absurd e2 (by decide)))
              have k248 : (S239.I o1 26).toInt = (S202_.I o1 26).toInt := by rw [← hS239]; exact congrArg Int32.toInt (sI_I (by rintro ⟨e1, e2⟩; exact absurd e2 (by decide)))
              have k249 : (S239.J o1 28).toInt = (S202_.J o1 28).toInt := by rw [← hS239]; rfl
              refine lv_aload_n hx hb dX12_match_229 rfl (lv_at hl 1 rfl) ?_
              refine lv_aload_n hx hb dX12_match_230 rfl (lv_at hl 1 rfl) ?_
              obtain ⟨k250, gk250, hk250⟩ := wGt (cy := cy) X S239 (xe243.A (hsh202.x.A (xe220.A o211))).1 (xe243.A (hsh202.x.A (xe220.A o211))).2.1
              simp only [kE, ((xe39.tr (xe50.tr (xe68.tr (xe79.tr (xe91.tr (xe103.tr (et209.tr (xe220.tr (hsh202.x.tr xe243))))))))).F h_o1 (by decide) F5.1)] at hk250
              refine va_get (D := D) (ci := 16) (v := .ref (S.f o1 12)) (C := RX12) (T := TX12) (N := 34) hx hb hts hi_X12_match_X12 hown hK hP k250 hk250 rfl 12 (by decide) (hts (.fieldLink RX12 63 "HobhouseModel" "bestSecond" "[I") (by decide +kernel)) (fun _ h9 => h9) rfl dX12_match_231 ?_
              refine lv_iload hx hb dX12_match_234 (lv_at hl 0 rfl) ?_
              obtain ⟨k251, gk251, hk251⟩ := wGt (cy := cy) X S239 (xe243.A o237).1 (xe243.A o237).2.1
              refine va_iald hx hb hK hP k251 2 hk251 rfl (inb (m := 4) (((xe39.tr (xe50.tr (xe68.tr (xe79.tr (xe91.tr (xe103.tr (et209.tr (xe220.tr (hsh202.x.tr xe243))))))))).n F5.2.1).trans F5.2.2) (by omega) (by omega)) dX12_match_236 ?_
              have v9a := iv_at v240 (j := 12) (by decide) (by decide) (f_of ((xe39.tr (xe50.tr (xe68.tr (xe79.tr (xe91.tr (xe103.tr (et209.tr (xe220.tr (hsh202.x.tr xe243))))))))).F h_o1 (by decide) F5.1)) (f_of ((xe39.tr (xe50.tr (xe68.tr (xe79.tr (xe91.tr (xe103.tr (et209.tr (xe220.tr (hsh202.x.tr xe243))))))))).F h_o1 (by decide) F1.1)) w202_4.toNatClampNeg
              have hFc := free_all hD hS hA
              obtain ⟨k252, gk252, hk252⟩ := wGt (cy := cy) X S239 (xe243.A (hsh202.x.A (xe220.A o211))).1 (xe243.A (hsh202.x.A (xe220.A o211))).2.1
              refine va_callq (va_runV (As := [.int (S239.i (S.f o1 12) w202_4.toNatClampNeg)]) (rest := []) ⟨hx, hb, hml, hown, hts⟩ (c_X12_gearAt l (cy := cy) (X := X) (D := D) S239 _ o1 (xe243.A (hsh202.x.A (xe220.A o211))) (S239.i (S.f o1 12) w202_4.toNatClampNeg) (t244.w) (by rw [f_of ((xe39.tr (xe50.tr (xe68.tr (xe79.tr (xe91.tr (xe103.tr (et209.tr (xe220.tr (hsh202.x.tr xe243))))))))).F h_o1 (by decide) F1.1)]; omega)) (cwV 1 hts gX12_match_X12_gearAt rfl rfl rfl hd_X12_gearAt ⟨Nat.le_of_ble_eq_true rfl, Nat.le_of_ble_eq_true rfl⟩) (pV (va_recv hK hP (q := (RX12, TX12, 34)) (ci := 16) (q0 := k252) rfl hk252) hP hK hD hN) rfl rfl hl.1 rfl (lv_room (Nat.le_of_ble_eq_true rfl)) dX12_match_237 ⟨(Nat.zero_le _), (Nat.zero_le _)⟩) hS (fun q _ h => hFc q h) hFc (fun r253 u t H1 locs ht hvm hw hB hz1 hk1 hS => ?_)
              obtain ⟨r253, rfl, c254, o255⟩ := hw
              obtain ⟨hP, hD⟩ := wd_post hFc ht hB
              generalize H1 = H at hP hS ⊢
              refine W.eq (g2 := F0 m 240 ls [.ref r253]) rfl ?_
              refine lv_aload_n hx hb dX12_match_240 rfl (lv_at hl 1 rfl) ?_
              obtain ⟨k256, gk256, hk256⟩ := wGt (cy := cy) X S239 (xe243.A (hsh202.x.A (xe220.A o211))).1 (xe243.A (hsh202.x.A (xe220.A o211))).2.1
              simp only [kE, ((xe39.tr (xe50.tr (xe68.tr (xe79.tr (xe91.tr (xe103.tr (et209.tr (xe220.tr (hsh202.x.tr xe243))))))))).F h_o1 (by decide) F4.1)] at hk256
              refine va_get (D := D) (ci := 16) (v := .ref (S.f o1 11)) (C := RX12) (T := TX12) (N := 34) hx hb hts hi_X12_match_X12 hown hK hP k256 hk256 rfl 11 (by decide) (hts (.fieldLink RX12 60 "HobhouseModel" "bestFirst" "[I") (by decide +kernel)) (fun _ h9 => h9) rfl dX12_match_241 ?_
              refine lv_iload hx hb dX12_match_244 (lv_at hl 0 rfl) ?_
              obtain ⟨k257, gk257, hk257⟩ := wGt (cy := cy) X S239 (xe243.A o230).1 (xe243.A o230).2.1
              refine va_iald hx hb hK hP k257 2 hk257 rfl (inb (m := 4) (((xe39.tr (xe50.tr (xe68.tr (xe79.tr (xe91.tr (xe103.tr (et209.tr (xe220.tr (hsh202.x.tr xe243))))))))).n F4.2.1).trans F4.2.2) (by omega) (by omega)) dX12_match_246 ?_
              have v9b := iv_at v240 (j := 11) (by decide) (by decide) (f_of ((xe39.tr (xe50.tr (xe68.tr (xe79.tr (xe91.tr (xe103.tr (et209.tr (xe220.tr (hsh202.x.tr xe243))))))))).F h_o1 (by decide) F4.1)) (f_of ((xe39.tr (xe50.tr (xe68.tr (xe79.tr (xe91.tr (xe103.tr (et209.tr (xe220.tr (hsh202.x.tr xe243))))))))).F h_o1 (by decide) F1.1)) w202_4.toNatClampNeg
              obtain ⟨k258, gk258, hk258⟩ := wGt (cy := cy) X S239 o255.1 o255.2.1
              refine va_putN (D := D) (ci := 14) (v := .int (S239.i (S.f o1 11) w202_4.toNatClampNeg)) (ty := .int) (C := RX10) (T := TX10) (N := 23) hx hb hts hi_X12_match_X10 tyX10 tyX10_ok nmX10 hown hK hP hD hS k258 hk258 rfl 16 (by decide) (va_Nw.use rfl (hN (.fieldLinkNest RX12 446 "HobhouseModel$Gear" "mate" "I" "HobhouseModel") (by decide +kernel))) (fun _ h9 => h9) rfl (by decide +kernel) (rfl) (rfl) (Nat.le_of_ble_eq_true rfl) dX12_match_247 (fun H locs hP2 hD2 hS => ?_)
              have e9 := wPuI (cy := cy) (j := 16) (v := (S239.i (S.f o1 11) w202_4.toNatClampNeg)) hD o255.1 o255.2.1 gk258 rfl
              obtain ⟨S259, hS259⟩ : ∃ z, S239.sI r253 16 (S239.i (S.f o1 11) w202_4.toNatClampNeg) = z := ⟨_, rfl⟩
              have s261 : stp [(10, 16)] [] [] S239 S259 := by rw [← hS259]; exact (stp.rf t244.w).I 16 (S239.i (S.f o1 11) w202_4.toNatClampNeg) o255 (by decide) (trivial) (Or.inl (by decide))
              have v260 : IV S259 o1 := IV.keep s261 t244.w (xe243.A (hsh202.x.A (xe220.A o211))) (by decide) (by decide) v240
              have v262 : MV S259 o1 := by rw [← hS259]; exact MV.set v242 o255 (xe243.A ((xe39.tr (xe50.tr (xe68.tr (xe79.tr (xe91.tr (xe103.tr (et209.tr (xe220.tr hsh202.x)))))))).A F1.2.1)) (f_of ((xe39.tr (xe50.tr (xe68.tr (xe79.tr (xe91.tr (xe103.tr (et209.tr (xe220.tr (hsh202.x.tr xe243))))))))).F h_o1 (by decide) F1.1)) ⟨by omega, by omega⟩
              have hP : va_P D vwCl (X ++ PL cy S259) H := by rw [← hS259, ← e9]; exact hP2
              have hD : va_D A (X ++ PL cy S259) := by rw [← hS259, ← e9]; exact hD2
              have xe263 : ext S239 S259 := by rw [← hS259]; exact ext.sI _ _ _ _
              have t264 : stp [(10, 16), (12, 15), (12, 24), (12, 25), (12, 26), (12, 28), (17, 100), (23, 100)] [] [] S216 S259 := by rw [← hS259]; exact t244.I 16 (S239.i (S.f o1 11) w202_4.toNatClampNeg) o255 (by decide) (trivial) (Or.inl (by decide))
              have k265 : (S259.I (S.f o1 0) 2).toInt = (S239.I (S.f o1 0) 2).toInt := by rw [← hS259]; exact congrArg Int32.toInt (sI_I (by rintro ⟨e1, e2⟩; exact absurd e2 (by decide)))
              have k266 : (S259.I o1 24).toInt = (S239.I o1 24).toInt := by rw [← hS259]; exact congrArg Int32.toInt (sI_I (by rintro ⟨e1, e2⟩; exact absurd e2 (by decide)))
              have k267 : (S259.I o1 25).toInt = (S239.I o1 25).toInt := by rw [← hS259]; exact congrArg Int32.toInt (sI_I (by rintro ⟨e1, e2⟩; exact absurd e2 (by decide)))
              have k268 : (S259.I o1 26).toInt = (S239.I o1 26).toInt := by rw [← hS259]; exact congrArg Int32.toInt (sI_I (by rintro ⟨e1, e2⟩; exact absurd e2 (by decide)))
              have k269 : (S259.J o1 28).toInt = (S239.J o1 28).toInt := by rw [← hS259]; rfl
              refine lv_iinc (v := w202_4 + (1 : Int32)) (lv' := [(4, .int (w202_4 + (1 : Int32))), (0, .ref o1), (1, .int x1), (2, .int x2), (3, .int x3)]) hx hb dX12_match_250 hl (k := 0) rfl (by rfl) (by decide) rfl (fun ls hl => ?_)
              refine lv_goto (tgt := 202) hx hb dX12_match_253 (by decide) ?_
              have l32_1 : (1 : Int32).toInt = 1 := rfl
              have i270 : (w202_4 + (1 : Int32)).toInt = w202_4.toInt + 1 := t_addr (n := 1) rfl (by omega)
              exact ih202 S259 (w202_4 + (1 : Int32)) _ _ _ (Nat.lt_of_lt_of_le (by omega) (Nat.le_of_lt_succ hm202)) (⟨by omega, v260, v262⟩) t264 hP hD hS (lv_sub hl [0, 1, 2, 3, 4] rfl) ko202
        refine loop202 6 S216 (0 : Int32) _ _ _ (by omega) (⟨by omega, v218, v219⟩) (stp.rf t217.w) hP hD hS (lv_sub hl [0, 1, 2, 3, 4] rfl) (fun S272 z273 H locs ls hi202 hsh202 hP hD hS hl => ?_)
        have t274 : stp [(10, 16), (12, 15), (12, 24), (12, 25), (12, 26), (12, 28), (17, 100), (23, 100)] [] [] S S272 := t217.tr hsh202 (fun _ q => q) (fun _ q => Or.inl q)
        have et274 := hsh202.x
        have hi202b := hi202.1
        refine lv_aload_n hx hb dX12_match_256 rfl (lv_at hl 1 rfl) ?_
        refine lv_aload_n hx hb dX12_match_257 rfl (lv_at hl 1 rfl) ?_
        obtain ⟨k275, gk275, hk275⟩ := wGt (cy := cy) X S272 (et274.A (xe220.A o211)).1 (et274.A (xe220.A o211)).2.1
        refine va_get (D := D) (ci := 16) (v := .long (S272.J o1 28)) (C := RX12) (T := TX12) (N := 34) hx hb hts hi_X12_match_X12 hown hK hP k275 hk275 rfl 28 (by decide) (hts (.fieldLink RX12 464 "HobhouseModel" "bestSum" "J") (by decide +kernel)) (fun _ h9 => h9) rfl dX12_match_258 ?_
        refine lv_l2i hx hb dX12_match_261 rfl ?_
        have hFc := free_all hD hS hA
        obtain ⟨k276, gk276, hk276⟩ := wGt (cy := cy) X S272 (et274.A (xe220.A o211)).1 (et274.A (xe220.A o211)).2.1
        refine va_calli (va_runV (As := [.int ((S272.J o1 28).toInt32)]) (rest := []) ⟨hx, hb, hml, hown, hts⟩ (c_X12_answer l (cy := cy) (X := X) (D := D) S272 _ o1 (et274.A (xe220.A o211)) ((S272.J o1 28).toInt32) (t274.w)) (cwV 1 hts gX12_match_X12_answer rfl rfl rfl hd_X12_answer ⟨Nat.le_of_ble_eq_true rfl, Nat.le_of_ble_eq_true rfl⟩) (pV (va_recv hK hP (q := (RX12, TX12, 34)) (ci := 16) (q0 := k276) rfl hk276) hP hK hD hN) rfl rfl hl.1 rfl (lv_room (Nat.le_of_ble_eq_true rfl)) dX12_match_262 ⟨(Nat.zero_le _), (Nat.zero_le _)⟩) hS (fun q _ h => hFc q h) hFc (fun r277 u t H1 locs ht hvm hw hB hz1 hk1 hS => ?_)
        obtain ⟨c278, w279⟩ := hw
        obtain ⟨hP, hD⟩ := wd_post hFc ht hB
        generalize H1 = H at hP hS ⊢
        obtain ⟨S280, rfl⟩ : ∃ z, z = u := ⟨_, rfl⟩
        have t281 : stp [(10, 16), (12, 15), (12, 24), (12, 25), (12, 26), (12, 28), (17, 100), (23, 100)] [] [] S S280 := t274.tr w279 (by decide) (fun _ q => absurd q List.not_mem_nil)
        have v282 : IV S280 o1 := IV.keep w279 t274.w (et274.A (xe220.A o211)) (by decide) (by decide) hi202.2.1
        have v283 : MV S280 o1 := MV.keep w279 t274.w (et274.A (xe220.A o211)) (by decide) (by decide) hi202.2.2
        have xe284 : ext S272 S280 := w279.x
        have k285 : (S280.I (S.f o1 0) 2).toInt = (S272.I (S.f o1 0) 2).toInt := by rw [(w279.fR (S.f o1 0) ((xe39.tr (xe50.tr (xe68.tr (xe79.tr (xe91.tr (xe103.tr (et209.tr (xe220.tr et274)))))))).A F1.2.1).1 List.not_mem_nil).1 2 (by rw [((xe39.tr (xe50.tr (xe68.tr (xe79.tr (xe91.tr (xe103.tr (et209.tr (xe220.tr et274)))))))).A F1.2.1).2.1]; decide) |>.1]
        have k286 : (S280.I o1 24).toInt = (S272.I o1 24).toInt := by rw [(w279.fR o1 ((xe39.tr (xe50.tr (xe68.tr (xe79.tr (xe91.tr (xe103.tr (et209.tr (xe220.tr et274)))))))).A h_o1).1 List.not_mem_nil).1 24 (by rw [((xe39.tr (xe50.tr (xe68.tr (xe79.tr (xe91.tr (xe103.tr (et209.tr (xe220.tr et274)))))))).A h_o1).2.1]; decide) |>.1]
        have k287 : (S280.I o1 25).toInt = (S272.I o1 25).toInt := by rw [(w279.fR o1 ((xe39.tr (xe50.tr (xe68.tr (xe79.tr (xe91.tr (xe103.tr (et209.tr (xe220.tr et274)))))))).A h_o1).1 List.not_mem_nil).1 25 (by rw [((xe39.tr (xe50.tr (xe68.tr (xe79.tr (xe91.tr (xe103.tr (et209.tr (xe220.tr et274)))))))).A h_o1).2.1]; decide) |>.1]
        have k288 : (S280.I o1 26).toInt = (S272.I o1 26).toInt := by rw [(w279.fR o1 ((xe39.tr (xe50.tr (xe68.tr (xe79.tr (xe91.tr (xe103.tr (et209.tr (xe220.tr et274)))))))).A h_o1).1 List.not_mem_nil).1 26 (by rw [((xe39.tr (xe50.tr (xe68.tr (xe79.tr (xe91.tr (xe103.tr (et209.tr (xe220.tr et274)))))))).A h_o1).2.1]; decide) |>.1]
        have k289 : (S280.J o1 28).toInt = (S272.J o1 28).toInt := by rw [(w279.fR o1 ((xe39.tr (xe50.tr (xe68.tr (xe79.tr (xe91.tr (xe103.tr (et209.tr (xe220.tr et274)))))))).A h_o1).1 List.not_mem_nil).1 28 (by rw [((xe39.tr (xe50.tr (xe68.tr (xe79.tr (xe91.tr (xe103.tr (et209.tr (xe220.tr et274)))))))).A h_o1).2.1]; decide) |>.2]
        refine W.widen (k := 0) (n := 0) (Nat.le_of_ble_eq_true rfl) (Nat.le_of_ble_eq_true rfl) ?_
        exact W.iret (v := r277) hx hb hr (fun t ht hW9 => ⟨⟨r277, S280, rfl, ⟨t281, (v282), (v283)⟩, wd_end hP hK hD ht hW9.alike⟩, hS.F ht⟩) hS.2.2 dX12_match_265 hlocks
      · have c226i := lc_nge c226
        refine lv_aload_n hx hb dX12_match_193 rfl (lv_at hl 1 rfl) ?_
        refine lv_iconst (v := 2) hx hb dX12_match_194 (by decide) ?_
        have l32_2 : (2 : Int32).toInt = 2 := rfl
        have hFc := free_all hD hS hA
        obtain ⟨k290, gk290, hk290⟩ := wGt (cy := cy) X S216 (xe220.A o211).1 (xe220.A o211).2.1
        refine va_calli (va_runV (As := [.int (2 : Int32)]) (rest := []) ⟨hx, hb, hml, hown, hts⟩ (c_X12_fails l (cy := cy) (X := X) (D := D) S216 _ o1 (xe220.A o211) (2 : Int32) (t217.w)) (cwV 1 hts gX12_match_X12_fails rfl rfl rfl hd_X12_fails ⟨Nat.le_of_ble_eq_true rfl, Nat.le_of_ble_eq_true rfl⟩) (pV (va_recv hK hP (q := (RX12, TX12, 34)) (ci := 16) (q0 := k290) rfl hk290) hP hK hD hN) rfl rfl hl.1 rfl (lv_room (Nat.le_of_ble_eq_true rfl)) dX12_match_195 ⟨(Nat.zero_le _), (Nat.zero_le _)⟩) hS (fun q _ h => hFc q h) hFc (fun r291 u t H1 locs ht hvm hw hB hz1 hk1 hS => ?_)
        obtain ⟨c292, w293⟩ := hw
        obtain ⟨hP, hD⟩ := wd_post hFc ht hB
        generalize H1 = H at hP hS ⊢
        obtain ⟨S294, rfl⟩ : ∃ z, z = u := ⟨_, rfl⟩
        have t295 : stp [(10, 16), (12, 15), (12, 24), (12, 25), (12, 26), (12, 28), (17, 100), (23, 100)] [] [] S S294 := t217.tr w293 (by decide) (fun _ q => absurd q List.not_mem_nil)
        have v296 : IV S294 o1 := IV.keep w293 t217.w (xe220.A o211) (by decide) (by decide) v218
        have v297 : MV S294 o1 := MV.keep w293 t217.w (xe220.A o211) (by decide) (by decide) v219
        have xe298 : ext S216 S294 := w293.x
        have k299 : (S294.I (S.f o1 0) 2).toInt = (S216.I (S.f o1 0) 2).toInt := by rw [(w293.fR (S.f o1 0) ((xe39.tr (xe50.tr (xe68.tr (xe79.tr (xe91.tr (xe103.tr (et209.tr xe220))))))).A F1.2.1).1 List.not_mem_nil).1 2 (by rw [((xe39.tr (xe50.tr (xe68.tr (xe79.tr (xe91.tr (xe103.tr (et209.tr xe220))))))).A F1.2.1).2.1]; decide) |>.1]
        have k300 : (S294.I o1 24).toInt = (S216.I o1 24).toInt := by rw [(w293.fR o1 ((xe39.tr (xe50.tr (xe68.tr (xe79.tr (xe91.tr (xe103.tr (et209.tr xe220))))))).A h_o1).1 List.not_mem_nil).1 24 (by rw [((xe39.tr (xe50.tr (xe68.tr (xe79.tr (xe91.tr (xe103.tr (et209.tr xe220))))))).A h_o1).2.1]; decide) |>.1]
        have k301 : (S294.I o1 25).toInt = (S216.I o1 25).toInt := by rw [(w293.fR o1 ((xe39.tr (xe50.tr (xe68.tr (xe79.tr (xe91.tr (xe103.tr (et209.tr xe220))))))).A h_o1).1 List.not_mem_nil).1 25 (by rw [((xe39.tr (xe50.tr (xe68.tr (xe79.tr (xe91.tr (xe103.tr (et209.tr xe220))))))).A h_o1).2.1]; decide) |>.1]
        have k302 : (S294.I o1 26).toInt = (S216.I o1 26).toInt := by rw [(w293.fR o1 ((xe39.tr (xe50.tr (xe68.tr (xe79.tr (xe91.tr (xe103.tr (et209.tr xe220))))))).A h_o1).1 List.not_mem_nil).1 26 (by rw [((xe39.tr (xe50.tr (xe68.tr (xe79.tr (xe91.tr (xe103.tr (et209.tr xe220))))))).A h_o1).2.1]; decide) |>.1]
        have k303 : (S294.J o1 28).toInt = (S216.J o1 28).toInt := by rw [(w293.fR o1 ((xe39.tr (xe50.tr (xe68.tr (xe79.tr (xe91.tr (xe103.tr (et209.tr xe220))))))).A h_o1).1 List.not_mem_nil).1 28 (by rw [((xe39.tr (xe50.tr (xe68.tr (xe79.tr (xe91.tr (xe103.tr (et209.tr xe220))))))).A h_o1).2.1]; decide) |>.2]
        refine W.widen (k := 0) (n := 0) (Nat.le_of_ble_eq_true rfl) (Nat.le_of_ble_eq_true rfl) ?_
        exact W.iret (v := r291) hx hb hr (fun t ht hW9 => ⟨⟨r291, S294, rfl, ⟨t295, (v296), (v297)⟩, wd_end hP hK hD ht hW9.alike⟩, hS.F ht⟩) hS.2.2 dX12_match_198 hlocks
    · have c27i : (f_X12_in x3.toInt64 (1 : Int64) (4 : Int64)).toInt = 0 := eq_v rfl rfl c27
      refine lv_aload_n hx hb dX12_match_17 rfl (lv_at hl 0 rfl) ?_
      refine lv_iconst (v := 1) hx hb dX12_match_18 (by decide) ?_
      have l32_1 : (1 : Int32).toInt = 1 := rfl
      have hFc := free_all hD hS hA
      obtain ⟨k304, gk304, hk304⟩ := wGt (cy := cy) X S h_o1.1 h_o1.2.1
      refine va_calli (va_runV (As := [.int (1 : Int32)]) (rest := []) ⟨hx, hb, hml, hown, hts⟩ (c_X12_fails l (cy := cy) (X := X) (D := D) S _ o1 h_o1 (1 : Int32) (hW)) (cwV 1 hts gX12_match_X12_fails rfl rfl rfl hd_X12_fails ⟨Nat.le_of_ble_eq_true rfl, Nat.le_of_ble_eq_true rfl⟩) (pV (va_recv hK hP (q := (RX12, TX12, 34)) (ci := 16) (q0 := k304) rfl hk304) hP hK hD hN) rfl rfl hl.1 rfl (lv_room (Nat.le_of_ble_eq_true rfl)) dX12_match_19 ⟨(Nat.zero_le _), (Nat.zero_le _)⟩) hS (fun q _ h => hFc q h) hFc (fun r305 u t H1 locs ht hvm hw hB hz1 hk1 hS => ?_)
      obtain ⟨c306, w307⟩ := hw
      obtain ⟨hP, hD⟩ := wd_post hFc ht hB
      generalize H1 = H at hP hS ⊢
      obtain ⟨S308, rfl⟩ : ∃ z, z = u := ⟨_, rfl⟩
      have t309 : stp [(10, 16), (12, 15), (12, 24), (12, 25), (12, 26), (12, 28), (17, 100), (23, 100)] [] [] S S308 := t0.tr w307 (by decide) (fun _ q => absurd q List.not_mem_nil)
      have v310 : IV S308 o1 := IV.keep w307 hW h_o1 (by decide) (by decide) hv
      have v311 : MV S308 o1 := MV.keep w307 hW h_o1 (by decide) (by decide) hm
      have xe312 : ext S S308 := w307.x
      have k313 : (S308.I (S.f o1 0) 2).toInt = (S.I (S.f o1 0) 2).toInt := by rw [(w307.fR (S.f o1 0) F1.2.1.1 List.not_mem_nil).1 2 (by rw [F1.2.1.2.1]; decide) |>.1]
      have k314 : (S308.I o1 24).toInt = (S.I o1 24).toInt := by rw [(w307.fR o1 h_o1.1 List.not_mem_nil).1 24 (by rw [h_o1.2.1]; decide) |>.1]
      have k315 : (S308.I o1 25).toInt = (S.I o1 25).toInt := by rw [(w307.fR o1 h_o1.1 List.not_mem_nil).1 25 (by rw [h_o1.2.1]; decide) |>.1]
      have k316 : (S308.I o1 26).toInt = (S.I o1 26).toInt := by rw [(w307.fR o1 h_o1.1 List.not_mem_nil).1 26 (by rw [h_o1.2.1]; decide) |>.1]
      have k317 : (S308.J o1 28).toInt = (S.J o1 28).toInt := by rw [(w307.fR o1 h_o1.1 List.not_mem_nil).1 28 (by rw [h_o1.2.1]; decide) |>.2]
      refine W.widen (k := 0) (n := 0) (Nat.le_of_ble_eq_true rfl) (Nat.le_of_ble_eq_true rfl) ?_
      exact W.iret (v := r305) hx hb hr (fun t ht hW9 => ⟨⟨r305, S308, rfl, ⟨t309, (v310), (v311)⟩, wd_end hP hK hD ht hW9.alike⟩, hS.F ht⟩) hS.2.2 dX12_match_22 hlocks
