theorem hi_X12_separate_X10 : ∀ w ∈ u_ws RX10 TX10 23, w ∈ wsX12_separate := by decide +kernel
theorem hd_X12_separate : yX12_separate.cls = RX12 ∧ yX12_separate.cls ≠ "java/lang/invoke/MethodHandle" ∧ yX12_separate.cls ≠ "java/lang/invoke/VarHandle" ∧ (parseMethodDescriptor yX12_separate.desc).map (fun d => d.parameters.length) = some 1 := by decide +kernel
set_option maxHeartbeats 4000000 in
set_option maxRecDepth 100000 in
theorem c_X12_separate (l : Launch) {D : va_G} {cy : Nat → ClassId} {X : va_W} (S : wPS) (sz : Nat) (o1 : Nat) (h_o1 : isA S o1 12) (x1 : Int32) (hW : wtB S []) (hv : IV S o1) (hm : MV S o1) : Met l yX12_separate wsX12_separate ({ frames := 4, cells := 0, slots := 0, locals := 85 }) (va_Pc [.ref o1, .int x1] (fun U => U.heap.size = sz ∧ WD D cy X (fun _ => True) S U ∧ NW U)) (va_Qi (fun r (u : wPS) => stp [(10, 16), (12, 15)] [] [] S u ∧ IV u o1 ∧ MV u o1) (fun u t => WD D cy X (va_A (X ++ PL cy S) sz) u t) (va_A (X ++ PL cy S) sz)) 0 0 (va_A (X ++ PL cy S) sz) := by
  refine Met.ofW (cc := cX12_separate) (maxL := 3) (ret := (some .int)) (by decide) rfl ?_
  intro p e s m args below meth c s₁ B hml hv
  obtain ⟨rfl, hsz, ⟨hP, hK, hD0⟩, hN⟩ := hv
  have hx := B.exec
  have hb := B.bytes
  have hr := B.returns
  have hts := atoms_spec (ws := wsX12_separate) B.pre
  have hown : s.vm.findClass RX12 = some m.cls := findClass_of_methodNamed (x := yX12_separate) B.named
  have hlocks := B.notSynchronized
  subst hsz
  have hD := hD0.self (sz := s.heap.size)
  generalize hAe : va_A (X ++ PL cy S) s.heap.size = A at hD ⊢
  have hA : ∀ q : Nat, s.heap.size ≤ q → A q := fun q h => by rw [← hAe]; exact Or.inr h
  have hS : va_S A s.heap s.heap [] := va_S.rf
  have hl := lv_entry ([.ref o1, .int x1]) (n := 3) (Nat.le_of_ble_eq_true rfl)
  rw [lg_entry_eq]
  generalize (lg_sl ([.ref o1, .int x1]) ++ List.replicate (3 - (lg_sl ([.ref o1, .int x1])).length) Slot.unset).toArray = ls at hl ⊢
  have hl : lv_has ls 3 [(0, .ref o1), (1, .int x1)] := hl
  have t0 : stp [(10, 16), (12, 15)] [] [] S S := stp.rf hW
  have F1 := ((hW.at h_o1 List.not_mem_nil).to_12 h_o1.2.1).F0
  have lm : (-1 : Int32).toInt = -1 := rfl
  refine lv_aload_n hx hb dX12_separate_0 rfl (lv_at hl 0 rfl) ?_
  refine lv_iload_n hx hb dX12_separate_1 rfl (lv_at hl 1 rfl) ?_
  have hFc := free_all hD hS hA
  obtain ⟨k2, gk2, hk2⟩ := wGt (cy := cy) X S h_o1.1 h_o1.2.1
  refine va_calli (va_runV (As := [.int x1]) (rest := []) ⟨hx, hb, hml, hown, hts⟩ (c_X12_isGear l (cy := cy) (X := X) (D := D) S _ o1 h_o1 x1 (hW)) (cwV 1 hts gX12_separate_X12_isGear rfl rfl rfl hd_X12_isGear ⟨Nat.le_of_ble_eq_true rfl, Nat.le_of_ble_eq_true rfl⟩) (pV (va_recv hK hP (q := (RX12, TX12, 34)) (ci := 16) (q0 := k2) rfl hk2) hP hK hD hN) rfl rfl hl.1 rfl (lv_room (Nat.le_of_ble_eq_true rfl)) dX12_separate_2 ⟨(Nat.zero_le _), (Nat.zero_le _)⟩) hS (fun q _ h => hFc q h) hFc (fun r3 u t H1 locs ht hvm hw hB hz1 hk1 hS => ?_)
  have c4 := hw
  obtain ⟨hP, hD⟩ := wd_post hFc ht hB
  generalize H1 = H at hP hS ⊢
  obtain rfl : f_X12_isGear S o1 x1 = r3 := c4.symm
  have i5 : (f_X12_isGear S o1 x1).toInt = 0 ∨ (0 ≤ x1.toInt ∧ x1.toInt < (S.I (S.f o1 0) 2).toInt) := by have h9 := ig_rng x1 ((hW.at h_o1 List.not_mem_nil).to_12 h_o1.2.1) hW; rw [f_of F1.1] at h9; exact h9
  refine lv_if_ne (tgt := 14) hx hb dX12_separate_5 (by decide) (fun c6 => ?_) (fun c6 => ?_)
  · have c6i : ¬ (f_X12_isGear S o1 x1).toInt = 0 := neq_v rfl rfl c6
    refine lv_aload_n hx hb dX12_separate_14 rfl (lv_at hl 0 rfl) ?_
    refine lv_iload_n hx hb dX12_separate_15 rfl (lv_at hl 1 rfl) ?_
    have hFc := free_all hD hS hA
    obtain ⟨k7, gk7, hk7⟩ := wGt (cy := cy) X S h_o1.1 h_o1.2.1
    refine va_callq (va_runV (As := [.int x1]) (rest := []) ⟨hx, hb, hml, hown, hts⟩ (c_X12_gearAt l (cy := cy) (X := X) (D := D) S _ o1 h_o1 x1 (hW) (by rw [f_of F1.1]; omega)) (cwV 1 hts gX12_separate_X12_gearAt rfl rfl rfl hd_X12_gearAt ⟨Nat.le_of_ble_eq_true rfl, Nat.le_of_ble_eq_true rfl⟩) (pV (va_recv hK hP (q := (RX12, TX12, 34)) (ci := 16) (q0 := k7) rfl hk7) hP hK hD hN) rfl rfl hl.1 rfl (lv_room (Nat.le_of_ble_eq_true rfl)) dX12_separate_16 ⟨(Nat.zero_le _), (Nat.zero_le _)⟩) hS (fun q _ h => hFc q h) hFc (fun r8 u t H1 locs ht hvm hw hB hz1 hk1 hS => ?_)
    obtain ⟨r8, rfl, c9, o10⟩ := hw
    obtain ⟨hP, hD⟩ := wd_post hFc ht hB
    generalize H1 = H at hP hS ⊢
    refine W.eq (g2 := F0 m 19 ls [.ref r8]) rfl ?_
    have v9 := hm r8 o10
    rw [f_of F1.1] at v9
    obtain ⟨k11, gk11, hk11⟩ := wGt (cy := cy) X S o10.1 o10.2.1
    refine va_getN (D := D) (ci := 14) (v := .int (S.I r8 16)) (C := RX10) (T := TX10) (N := 23) hx hb hts hi_X12_separate_X10 hown hK hP k11 hk11 rfl 16 (by decide) (va_Nw.use rfl (hN (.fieldLinkNest RX12 446 "HobhouseModel$Gear" "mate" "I" "HobhouseModel") (by decide +kernel))) (fun _ h9 => h9) rfl dX12_separate_19 ?_
    refine lv_istore_n (lv' := [(2, .int (S.I r8 16)), (0, .ref o1), (1, .int x1)]) hx hb dX12_separate_22 rfl hl (by decide) rfl (fun ls hl => ?_)
    refine lv_iload_n hx hb dX12_separate_23 rfl (lv_at hl 0 rfl) ?_
    refine lv_iconst (v := -1) hx hb dX12_separate_24 (by decide) ?_
    refine lv_icmp_ne (tgt := 34) hx hb dX12_separate_25 (by decide) (fun c12 => ?_) (fun c12 => ?_)
    · have c12i : ¬ (S.I r8 16).toInt = -1 := neq_v rfl rfl c12
      refine lv_aload_n hx hb dX12_separate_34 rfl (lv_at hl 1 rfl) ?_
      refine lv_iload_n hx hb dX12_separate_35 rfl (lv_at hl 2 rfl) ?_
      have hFc := free_all hD hS hA
      obtain ⟨k13, gk13, hk13⟩ := wGt (cy := cy) X S h_o1.1 h_o1.2.1
      refine va_callq (va_runV (As := [.int x1]) (rest := []) ⟨hx, hb, hml, hown, hts⟩ (c_X12_gearAt l (cy := cy) (X := X) (D := D) S _ o1 h_o1 x1 (hW) (by rw [f_of F1.1]; omega)) (cwV 1 hts gX12_separate_X12_gearAt rfl rfl rfl hd_X12_gearAt ⟨Nat.le_of_ble_eq_true rfl, Nat.le_of_ble_eq_true rfl⟩) (pV (va_recv hK hP (q := (RX12, TX12, 34)) (ci := 16) (q0 := k13) rfl hk13) hP hK hD hN) rfl rfl hl.1 rfl (lv_room (Nat.le_of_ble_eq_true rfl)) dX12_separate_36 ⟨(Nat.zero_le _), (Nat.zero_le _)⟩) hS (fun q _ h => hFc q h) hFc (fun r14 u t H1 locs ht hvm hw hB hz1 hk1 hS => ?_)
      obtain ⟨r14, rfl, c15, o16⟩ := hw
      obtain ⟨hP, hD⟩ := wd_post hFc ht hB
      generalize H1 = H at hP hS ⊢
      refine W.eq (g2 := F0 m 39 ls [.ref r14]) rfl ?_
      refine lv_iconst (v := -1) hx hb dX12_separate_39 (by decide) ?_
      obtain ⟨k17, gk17, hk17⟩ := wGt (cy := cy) X S o16.1 o16.2.1
      refine va_putN (D := D) (ci := 14) (v := .int (-1 : Int32)) (ty := .int) (C := RX10) (T := TX10) (N := 23) hx hb hts hi_X12_separate_X10 tyX10 tyX10_ok nmX10 hown hK hP hD hS k17 hk17 rfl 16 (by decide) (va_Nw.use rfl (hN (.fieldLinkNest RX12 446 "HobhouseModel$Gear" "mate" "I" "HobhouseModel") (by decide +kernel))) (fun _ h9 => h9) rfl (by decide +kernel) (rfl) (rfl) (Nat.le_of_ble_eq_true rfl) dX12_separate_40 (fun H locs hP2 hD2 hS => ?_)
      have e9 := wPuI (cy := cy) (j := 16) (v := (-1 : Int32)) hD o16.1 o16.2.1 gk17 rfl
      obtain ⟨S18, hS18⟩ : ∃ z, S.sI r14 16 (-1 : Int32) = z := ⟨_, rfl⟩
      have s20 : stp [(10, 16)] [] [] S S18 := by rw [← hS18]; exact (stp.rf hW).I 16 (-1 : Int32) o16 (by decide) (trivial) (Or.inl (by decide))
      have v19 : IV S18 o1 := IV.keep s20 hW h_o1 (by decide) (by decide) hv
      have v21 : MV S18 o1 := by rw [← hS18]; exact MV.set hm o16 F1.2.1 (f_of F1.1) ⟨by omega, by omega⟩
      have hP : va_P D vwCl (X ++ PL cy S18) H := by rw [← hS18, ← e9]; exact hP2
      have hD : va_D A (X ++ PL cy S18) := by rw [← hS18, ← e9]; exact hD2
      have xe22 : ext S S18 := by rw [← hS18]; exact ext.sI _ _ _ _
      have t23 : stp [(10, 16), (12, 15)] [] [] S S18 := by rw [← hS18]; exact t0.I 16 (-1 : Int32) o16 (by decide) (trivial) (Or.inl (by decide))
      have k24 : (S18.I (S.f o1 0) 2).toInt = (S.I (S.f o1 0) 2).toInt := by rw [← hS18]; exact congrArg Int32.toInt (sI_I (by rintro ⟨e1, e2⟩; exact absurd e2 (by decide)))
      refine lv_aload_n hx hb dX12_separate_43 rfl (lv_at hl 1 rfl) ?_
      refine lv_iload_n hx hb dX12_separate_44 rfl (lv_at hl 0 rfl) ?_
      have hFc := free_all hD hS hA
      obtain ⟨k25, gk25, hk25⟩ := wGt (cy := cy) X S18 (xe22.A h_o1).1 (xe22.A h_o1).2.1
      refine va_callq (va_runV (As := [.int (S.I r8 16)]) (rest := []) ⟨hx, hb, hml, hown, hts⟩ (c_X12_gearAt l (cy := cy) (X := X) (D := D) S18 _ o1 (xe22.A h_o1) (S.I r8 16) (t23.w) (by rw [f_of (xe22.F h_o1 (by decide) F1.1)]; omega)) (cwV 1 hts gX12_separate_X12_gearAt rfl rfl rfl hd_X12_gearAt ⟨Nat.le_of_ble_eq_true rfl, Nat.le_of_ble_eq_true rfl⟩) (pV (va_recv hK hP (q := (RX12, TX12, 34)) (ci := 16) (q0 := k25) rfl hk25) hP hK hD hN) rfl rfl hl.1 rfl (lv_room (Nat.le_of_ble_eq_true rfl)) dX12_separate_45 ⟨(Nat.zero_le _), (Nat.zero_le _)⟩) hS (fun q _ h => hFc q h) hFc (fun r26 u t H1 locs ht hvm hw hB hz1 hk1 hS => ?_)
      obtain ⟨r26, rfl, c27, o28⟩ := hw
      obtain ⟨hP, hD⟩ := wd_post hFc ht hB
      generalize H1 = H at hP hS ⊢
      refine W.eq (g2 := F0 m 48 ls [.ref r26]) rfl ?_
      refine lv_iconst (v := -1) hx hb dX12_separate_48 (by decide) ?_
      obtain ⟨k29, gk29, hk29⟩ := wGt (cy := cy) X S18 o28.1 o28.2.1
      refine va_putN (D := D) (ci := 14) (v := .int (-1 : Int32)) (ty := .int) (C := RX10) (T := TX10) (N := 23) hx hb hts hi_X12_separate_X10 tyX10 tyX10_ok nmX10 hown hK hP hD hS k29 hk29 rfl 16 (by decide) (va_Nw.use rfl (hN (.fieldLinkNest RX12 446 "HobhouseModel$Gear" "mate" "I" "HobhouseModel") (by decide +kernel))) (fun _ h9 => h9) rfl (by decide +kernel) (rfl) (rfl) (Nat.le_of_ble_eq_true rfl) dX12_separate_49 (fun H locs hP2 hD2 hS => ?_)
      have e9 := wPuI (cy := cy) (j := 16) (v := (-1 : Int32)) hD o28.1 o28.2.1 gk29 rfl
      obtain ⟨S30, hS30⟩ : ∃ z, S18.sI r26 16 (-1 : Int32) = z := ⟨_, rfl⟩
      have s32 : stp [(10, 16)] [] [] S18 S30 := by rw [← hS30]; exact (stp.rf t23.w).I 16 (-1 : Int32) o28 (by decide) (trivial) (Or.inl (by decide))
      have v31 : IV S30 o1 := IV.keep s32 t23.w (xe22.A h_o1) (by decide) (by decide) v19
      have v33 : MV S30 o1 := by rw [← hS30]; exact MV.set v21 o28 (xe22.A F1.2.1) (f_of (xe22.F h_o1 (by decide) F1.1)) ⟨by omega, by omega⟩
      have hP : va_P D vwCl (X ++ PL cy S30) H := by rw [← hS30, ← e9]; exact hP2
      have hD : va_D A (X ++ PL cy S30) := by rw [← hS30, ← e9]; exact hD2
      have xe34 : ext S18 S30 := by rw [← hS30]; exact ext.sI _ _ _ _
      have t35 : stp [(10, 16), (12, 15)] [] [] S S30 := by rw [← hS30]; exact t23.I 16 (-1 : Int32) o28 (by decide) (trivial) (Or.inl (by decide))
      have k36 : (S30.I (S.f o1 0) 2).toInt = (S18.I (S.f o1 0) 2).toInt := by rw [← hS30]; exact congrArg Int32.toInt (sI_I (by rintro ⟨e1, e2⟩; exact absurd e2 (by decide)))
      refine lv_aload_n hx hb dX12_separate_52 rfl (lv_at hl 1 rfl) ?_
      refine lv_iload_n hx hb dX12_separate_53 rfl (lv_at hl 0 rfl) ?_
      have hFc := free_all hD hS hA
      obtain ⟨k37, gk37, hk37⟩ := wGt (cy := cy) X S30 (xe34.A (xe22.A h_o1)).1 (xe34.A (xe22.A h_o1)).2.1
      refine va_calli (va_runV (As := [.int (S.I r8 16)]) (rest := []) ⟨hx, hb, hml, hown, hts⟩ (c_X12_answer l (cy := cy) (X := X) (D := D) S30 _ o1 (xe34.A (xe22.A h_o1)) (S.I r8 16) (t35.w)) (cwV 1 hts gX12_separate_X12_answer rfl rfl rfl hd_X12_answer ⟨Nat.le_of_ble_eq_true rfl, Nat.le_of_ble_eq_true rfl⟩) (pV (va_recv hK hP (q := (RX12, TX12, 34)) (ci := 16) (q0 := k37) rfl hk37) hP hK hD hN) rfl rfl hl.1 rfl (lv_room (Nat.le_of_ble_eq_true rfl)) dX12_separate_54 ⟨(Nat.zero_le _), (Nat.zero_le _)⟩) hS (fun q _ h => hFc q h) hFc (fun r38 u t H1 locs ht hvm hw hB hz1 hk1 hS => ?_)
      obtain ⟨c39, w40⟩ := hw
      obtain ⟨hP, hD⟩ := wd_post hFc ht hB
      generalize H1 = H at hP hS ⊢
      obtain ⟨S41, rfl⟩ : ∃ z, z = u := ⟨_, rfl⟩
      have t42 : stp [(10, 16), (12, 15)] [] [] S S41 := t35.tr w40 (by decide) (fun _ q => absurd q List.not_mem_nil)
      have v43 : IV S41 o1 := IV.keep w40 t35.w (xe34.A (xe22.A h_o1)) (by decide) (by decide) v31
      have v44 : MV S41 o1 := MV.keep w40 t35.w (xe34.A (xe22.A h_o1)) (by decide) (by decide) v33
      have xe45 : ext S30 S41 := w40.x
      have k46 : (S41.I (S.f o1 0) 2).toInt = (S30.I (S.f o1 0) 2).toInt := by rw [(w40.fR (S.f o1 0) ((xe22.tr xe34).A F1.2.1).1 List.not_mem_nil).1 2 (by rw [((xe22.tr xe34).A F1.2.1).2.1]; decide) |>.1]
      refine W.widen (k := 0) (n := 0) (Nat.le_of_ble_eq_true rfl) (Nat.le_of_ble_eq_true rfl) ?_
      exact W.iret (v := r38) hx hb hr (fun t ht hW9 => ⟨⟨r38, S41, rfl, ⟨t42, (v43), (v44)⟩, wd_end hP hK hD ht hW9.alike⟩, hS.F ht⟩) hS.2.2 dX12_separate_57 hlocks
    · have c12i : (S.I r8 16).toInt = -1 := eq_v rfl rfl c12
      refine lv_aload_n hx hb dX12_separate_28 rfl (lv_at hl 1 rfl) ?_
      refine lv_iconst (v := 2) hx hb dX12_separate_29 (by decide) ?_
      have l32_2 : (2 : Int32).toInt = 2 := rfl
      have hFc := free_all hD hS hA
      obtain ⟨k47, gk47, hk47⟩ := wGt (cy := cy) X S h_o1.1 h_o1.2.1
      refine va_calli (va_runV (As := [.int (2 : Int32)]) (rest := []) ⟨hx, hb, hml, hown, hts⟩ (c_X12_fails l (cy := cy) (X := X) (D := D) S _ o1 h_o1 (2 : Int32) (hW)) (cwV 1 hts gX12_separate_X12_fails rfl rfl rfl hd_X12_fails ⟨Nat.le_of_ble_eq_true rfl, Nat.le_of_ble_eq_true rfl⟩) (pV (va_recv hK hP (q := (RX12, TX12, 34)) (ci := 16) (q0 := k47) rfl hk47) hP hK hD hN) rfl rfl hl.1 rfl (lv_room (Nat.le_of_ble_eq_true rfl)) dX12_separate_30 ⟨(Nat.zero_le _), (Nat.zero_le _)⟩) hS (fun q _ h => hFc q h) hFc (fun r48 u t H1 locs ht hvm hw hB hz1 hk1 hS => ?_)
      obtain ⟨c49, w50⟩ := hw
      obtain ⟨hP, hD⟩ := wd_post hFc ht hB
      generalize H1 = H at hP hS ⊢
      obtain ⟨S51, rfl⟩ : ∃ z, z = u := ⟨_, rfl⟩
      have t52 : stp [(10, 16), (12, 15)] [] [] S S51 := t0.tr w50 (by decide) (fun _ q => absurd q List.not_mem_nil)
      have v53 : IV S51 o1 := IV.keep w50 hW h_o1 (by decide) (by decide) hv
      have v54 : MV S51 o1 := MV.keep w50 hW h_o1 (by decide) (by decide) hm
      have xe55 : ext S S51 := w50.x
      have k56 : (S51.I (S.f o1 0) 2).toInt = (S.I (S.f o1 0) 2).toInt := by rw [(w50.fR (S.f o1 0) F1.2.1.1 List.not_mem_nil).1 2 (by rw [F1.2.1.2.1]; decide) |>.1]
      refine W.widen (k := 0) (n := 0) (Nat.le_of_ble_eq_true rfl) (Nat.le_of_ble_eq_true rfl) ?_
      exact W.iret (v := r48) hx hb hr (fun t ht hW9 => ⟨⟨r48, S51, rfl, ⟨t52, (v53), (v54)⟩, wd_end hP hK hD ht hW9.alike⟩, hS.F ht⟩) hS.2.2 dX12_separate_33 hlocks
  · have c6i : (f_X12_isGear S o1 x1).toInt = 0 := eq_v rfl rfl c6
    refine lv_aload_n hx hb dX12_separate_8 rfl (lv_at hl 0 rfl) ?_
    refine lv_iconst (v := 1) hx hb dX12_separate_9 (by decide) ?_
    have l32_1 : (1 : Int32).toInt = 1 := rfl
    have hFc := free_all hD hS hA
    obtain ⟨k57, gk57, hk57⟩ := wGt (cy := cy) X S h_o1.1 h_o1.2.1
    refine va_calli (va_runV (As := [.int (1 : Int32)]) (rest := []) ⟨hx, hb, hml, hown, hts⟩ (c_X12_fails l (cy := cy) (X := X) (D := D) S _ o1 h_o1 (1 : Int32) (hW)) (cwV 1 hts gX12_separate_X12_fails rfl rfl rfl hd_X12_fails ⟨Nat.le_of_ble_eq_true rfl, Nat.le_of_ble_eq_true rfl⟩) (pV (va_recv hK hP (q := (RX12, TX12, 34)) (ci := 16) (q0 := k57) rfl hk57) hP hK hD hN) rfl rfl hl.1 rfl (lv_room (Nat.le_of_ble_eq_true rfl)) dX12_separate_10 ⟨(Nat.zero_le _), (Nat.zero_le _)⟩) hS (fun q _ h => hFc q h) hFc (fun r58 u t H1 locs ht hvm hw hB hz1 hk1 hS => ?_)
    obtain ⟨c59, w60⟩ := hw
    obtain ⟨hP, hD⟩ := wd_post hFc ht hB
    generalize H1 = H at hP hS ⊢
    obtain ⟨S61, rfl⟩ : ∃ z, z = u := ⟨_, rfl⟩
    have t62 : stp [(10, 16), (12, 15)] [] [] S S61 := t0.tr w60 (by decide) (fun _ q => absurd q List.not_mem_nil)
    have v63 : IV S61 o1 := IV.keep w60 hW h_o1 (by decide) (by decide) hv
    have v64 : MV S61 o1 := MV.keep w60 hW h_o1 (by decide) (by decide) hm
    have xe65 : ext S S61 := w60.x
    have k66 : (S61.I (S.f o1 0) 2).toInt = (S.I (S.f o1 0) 2).toInt := by rw [(w60.fR (S.f o1 0) F1.2.1.1 List.not_mem_nil).1 2 (by rw [F1.2.1.2.1]; decide) |>.1]
    refine W.widen (k := 0) (n := 0) (Nat.le_of_ble_eq_true rfl) (Nat.le_of_ble_eq_true rfl) ?_
    exact W.iret (v := r58) hx hb hr (fun t ht hW9 => ⟨⟨r58, S61, rfl, ⟨t62, (v63), (v64)⟩, wd_end hP hK hD ht hW9.alike⟩, hS.F ht⟩) hS.2.2 dX12_separate_13 hlocks
