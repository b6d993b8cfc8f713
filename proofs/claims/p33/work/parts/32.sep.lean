theorem hd_X12_separate : yX12_separate.cls = RX12 ∧ yX12_separate.cls ≠ "java/lang/invoke/MethodHandle" ∧ yX12_separate.cls ≠ "java/lang/invoke/VarHandle" ∧ (parseMethodDescriptor yX12_separate.desc).map (fun d => d.parameters.length) = some 1 := by decide +kernel
set_option maxHeartbeats 4000000 in
set_option maxRecDepth 100000 in
theorem c_X12_separate (l : Launch) {D : va_G} {cy : Nat → ClassId} {X : va_W} (S : wPS) (sz : Nat) (o1 : Nat) (h_o1 : isA S o1 12) (x1 : Int32) (hW : wtB S []) (hv : IV S o1) (hm : MV S o1) : Met l yX12_separate wsX12_separate ({ frames := 4, cells := 0, slots := 0, locals := 85 }) (va_Pc [.ref o1, .int x1] (fun U => U.heap.size = sz ∧ WD D cy X (fun _ => True) S U ∧ NW U)) (va_Qi (fun r (u : wPS) => stp [(10, 16), (12, 15)] [] [] S u ∧ IV u o1 ∧ MV u o1) (fun u t => WD D cy X (va_A (X ++ PL cy S) sz) u t) (va_A (X ++ PL cy S) sz)) 0 0 (va_A (X ++ PL cy S) sz) := by
  refine Met.ofW (cc := cX12_separate) (maxL := 3) (ret := (some .int)) (by decide) rfl ?_
  intro p e s m args below meth c s₁ B hml hv
  obtain ⟨rfl, hsz, ⟨hP, hK, hD0⟩, hN⟩ := hv
  have hx := B.exec
  have hb := B.bytes
  have hr := B.returns
  have hts := atoms_spec (ws := wsX12_separate) B.pre
  have hown : s.vm.findClass RX12 = some m.cls := findClass_of_methodNamed (x := yX12_separate) B.named
  have hlocks := B.notSynchronized
  subst hsz
  have hD := hD0.self (sz := s.heap.size)
  generalize hAe : va_A (X ++ PL cy S) s.heap.size = A at hD ⊢
  have hA : ∀ q : Nat, s.heap.size ≤ q → A q := fun q h => by rw [← hAe]; exact Or.inr h
  have hS : va_S A s.heap s.heap [] := va_S.rf
  have hl := lv_entry ([.ref o1, .int x1]) (n := 3) (Nat.le_of_ble_eq_true rfl)
  rw [lg_entry_eq]
  generalize (lg_sl ([.ref o1, .int x1]) ++ List.replicate (3 - (lg_sl ([.ref o1, .int x1])).length) Slot.unset).toArray = ls at hl ⊢
  have hl : lv_has ls 3 [(0, .ref o1), (1, .int x1)] := hl
  have t0 : stp [(10, 16), (12, 15)] [] [] S S := stp.rf hW
  have F1 := ((hW.at h_o1 List.not_mem_nil).to_12 h_o1.2.1).F0
  have lm : (-1 : Int32).toInt = -1 := rfl
  refine lv_aload_n hx hb dX12_separate_0 rfl (lv_at hl 0 rfl) ?_
  refine lv_iload_n hx hb dX12_separate_1 rfl (lv_at hl 1 rfl) ?_
  have hFc := free_all hD hS hA
  obtain ⟨k2, gk2, hk2⟩ := wGt (cy := cy) X S h_o1.1 h_o1.2.1
  refine va_calli (va_runV (As := [.int x1]) (rest := []) ⟨hx, hb, hml, hown, hts⟩ (c_X12_isGear l (cy := cy) (X := X) (D := D) S _ o1 h_o1 x1 (hW)) (cwV 1 hts gX12_separate_X12_isGear rfl rfl rfl hd_X12_isGear ⟨Nat.le_of_ble_eq_true rfl, Nat.le_of_ble_eq_true rfl⟩) ⟨fun a U g mk q => ⟨q.1, q.2.1, q.2.2.1.calling, NW.same (u := U) (U := U.calling g mk a) rfl q.2.2.2⟩, va_recv hK hP (q := (RX12, TX12, 34)) (ci := 16) (q0 := k2) rfl hk2, fun U hU hW => ⟨rfl, by rw [hU], wd_pre hP hK hD hU hW, hN.warm hW⟩⟩ rfl rfl hl.1 rfl (lv_room (Nat.le_of_ble_eq_true rfl)) dX12_separate_2 ⟨(Nat.zero_le _), (Nat.zero_le _)⟩) hS (fun q _ h => hFc q h) hFc (fun r3 u t H1 locs ht hvm hw hB hz1 hk1 hS => ?_)
  have c4 := hw
  obtain ⟨hP, hD⟩ := wd_post hFc ht hB
  generalize H1 = H at hP hS ⊢
  obtain rfl : r3 = f_X12_isGear S o1 x1 := c4
  have i5 : (f_X12_isGear S o1 x1).toInt = 0 ∨ (0 ≤ x1.toInt ∧ x1.toInt < (S.I (S.f o1 0) 2).toInt) := by have h9 := ig_rng x1 ((hW.at h_o1 List.not_mem_nil).to_12 h_o1.2.1) hW; rw [f_of F1.1] at h9; exact h9
  refine lv_if_ne (tgt := 14) hx hb dX12_separate_5 (by decide) (fun c6 => ?_) (fun c6 => ?_)
  · have c6i : ¬ (f_X12_isGear S o1 x1).toInt = 0 := neq_v rfl rfl c6
    refine lv_aload_n hx hb dX12_separate_14 rfl (lv_at hl 0 rfl) ?_
    refine lv_iload_n hx hb dX12_separate_15 rfl (lv_at hl 1 rfl) ?_
    have hFc := free_all hD hS hA
    obtain ⟨k7, gk7, hk7⟩ := wGt (cy := cy) X S h_o1.1 h_o1.2.1
    refine va_callq (va_runV (As := [.int x1]) (rest := []) ⟨hx, hb, hml, hown, hts⟩ (c_X12_gearAt l (cy := cy) (X := X) (D := D) S _ o1 h_o1 x1 (hW) (by rw [f_of F1.1]; omega)) (cwV 1 hts gX12_separate_X12_gearAt rfl rfl rfl hd_X12_gearAt ⟨Nat.le_of_ble_eq_true rfl, Nat.le_of_ble_eq_true rfl⟩) ⟨fun a U g mk q => ⟨q.1, q.2.1, q.2.2.1.calling, NW.same (u := U) (U := U.calling g mk a) rfl q.2.2.2⟩, va_recv hK hP (q := (RX12, TX12, 34)) (ci := 16) (q0 := k7) rfl hk7, fun U hU hW => ⟨rfl, by rw [hU], wd_pre hP hK hD hU hW, hN.warm hW⟩⟩ rfl rfl hl.1 rfl (lv_room (Nat.le_of_ble_eq_true rfl)) dX12_separate_16 ⟨(Nat.zero_le _), (Nat.zero_le _)⟩) hS (fun q _ h => hFc q h) hFc (fun r8 u t H1 locs ht hvm hw hB hz1 hk1 hS => ?_)
    obtain ⟨r8, rfl, o9⟩ := hw
    obtain ⟨hP, hD⟩ := wd_post hFc ht hB
    generalize H1 = H at hP hS ⊢
    refine W.eq (g2 := F0 m 19 ls [.ref r8]) rfl ?_
    have v9 := hm r8 o9
    rw [f_of F1.1] at v9
    obtain ⟨k10, gk10, hk10⟩ := wGt (cy := cy) X S o9.1 o9.2.1
    refine va_getN (D := D) (ci := 14) (v := .int (S.I r8 16)) (C := RX10) (T := TX10) (N := 23) hx hb hts (by decide +kernel) hown hK hP k10 hk10 rfl 16 (by decide) (va_Nw.use rfl (hN (.fieldLinkNest RX12 446 "HobhouseModel$Gear" "mate" "I" "HobhouseModel") (by decide +kernel))) (fun _ h9 => h9) rfl dX12_separate_19 ?_
    refine lv_istore_n (lv' := [(2, .int (S.I r8 16)), (0, .ref o1), (1, .int x1)]) hx hb dX12_separate_22 rfl hl (by decide) rfl (fun ls hl => ?_)
    refine lv_iload_n hx hb dX12_separate_23 rfl (lv_at hl 0 rfl) ?_
    refine lv_iconst (v := -1) hx hb dX12_separate_24 (by decide) ?_
    refine lv_icmp_ne (tgt := 34) hx hb dX12_separate_25 (by decide) (fun c11 => ?_) (fun c11 => ?_)
    · have c11i : ¬ (S.I r8 16).toInt = -1 := neq_v rfl rfl c11
      refine lv_aload_n hx hb dX12_separate_34 rfl (lv_at hl 1 rfl) ?_
      refine lv_iload_n hx hb dX12_separate_35 rfl (lv_at hl 2 rfl) ?_
      have hFc := free_all hD hS hA
      obtain ⟨k12, gk12, hk12⟩ := wGt (cy := cy) X S h_o1.1 h_o1.2.1
      refine va_callq (va_runV (As := [.int x1]) (rest := []) ⟨hx, hb, hml, hown, hts⟩ (c_X12_gearAt l (cy := cy) (X := X) (D := D) S _ o1 h_o1 x1 (hW) (by rw [f_of F1.1]; omega)) (cwV 1 hts gX12_separate_X12_gearAt rfl rfl rfl hd_X12_gearAt ⟨Nat.le_of_ble_eq_true rfl, Nat.le_of_ble_eq_true rfl⟩) ⟨fun a U g mk q => ⟨q.1, q.2.1, q.2.2.1.calling, NW.same (u := U) (U := U.calling g mk a) rfl q.2.2.2⟩, va_recv hK hP (q := (RX12, TX12, 34)) (ci := 16) (q0 := k12) rfl hk12, fun U hU hW => ⟨rfl, by rw [hU], wd_pre hP hK hD hU hW, hN.warm hW⟩⟩ rfl rfl hl.1 rfl (lv_room (Nat.le_of_ble_eq_true rfl)) dX12_separate_36 ⟨(Nat.zero_le _), (Nat.zero_le _)⟩) hS (fun q _ h => hFc q h) hFc (fun r13 u t H1 locs ht hvm hw hB hz1 hk1 hS => ?_)
      obtain ⟨r13, rfl, o14⟩ := hw
      obtain ⟨hP, hD⟩ := wd_post hFc ht hB
      generalize H1 = H at hP hS ⊢
      refine W.eq (g2 := F0 m 39 ls [.ref r13]) rfl ?_
      refine lv_iconst (v := -1) hx hb dX12_separate_39 (by decide) ?_
      obtain ⟨k15, gk15, hk15⟩ := wGt (cy := cy) X S o14.1 o14.2.1
      refine va_putN (D := D) (ci := 14) (v := .int (-1 : Int32)) (ty := .int) (C := RX10) (T := TX10) (N := 23) hx hb hts (by decide +kernel) tyX10 tyX10_ok nmX10 hown hK hP hD hS k15 hk15 rfl 16 (by decide) (va_Nw.use rfl (hN (.fieldLinkNest RX12 446 "HobhouseModel$Gear" "mate" "I" "HobhouseModel") (by decide +kernel))) (fun _ h9 => h9) rfl (by decide +kernel) (rfl) (rfl) (Nat.le_of_ble_eq_true rfl) dX12_separate_40 (fun H locs hP2 hD2 hS => ?_)
      have e9 := wPuI (cy := cy) (j := 16) (v := (-1 : Int32)) hD o14.1 o14.2.1 gk15 rfl
      obtain ⟨S16, hS16⟩ : ∃ z, S.sI r13 16 (-1 : Int32) = z := ⟨_, rfl⟩
      have s18 : stp [(10, 16)] [] [] S S16 := by rw [← hS16]; exact (stp.rf hW).I 16 (-1 : Int32) o14 (by decide) (trivial) (Or.inl (by decide))
      have v17 : IV S16 o1 := IV.keep s18 hW h_o1 (by decide) (by decide) hv
      have v19 : MV S16 o1 := by rw [← hS16]; exact MV.set hm o14 F1.2.1 (f_of F1.1) ⟨by omega, by omega⟩
      have hP : va_P D vwCl (X ++ PL cy S16) H := by rw [← hS16, ← e9]; exact hP2
      have hD : va_D A (X ++ PL cy S16) := by rw [← hS16, ← e9]; exact hD2
      have xe20 : ext S S16 := by rw [← hS16]; exact ext.sI _ _ _ _
      have t21 : stp [(10, 16), (12, 15)] [] [] S S16 := by rw [← hS16]; exact t0.I 16 (-1 : Int32) o14 (by decide) (trivial) (Or.inl (by decide))
      have k22 : (S16.I (S.f o1 0) 2).toInt = (S.I (S.f o1 0) 2).toInt := by rw [← hS16]; exact congrArg Int32.toInt (sI_I (by rintro ⟨e1, e2⟩; exact absurd e2 (by decide)))
      refine lv_aload_n hx hb dX12_separate_43 rfl (lv_at hl 1 rfl) ?_
      refine lv_iload_n hx hb dX12_separate_44 rfl (lv_at hl 0 rfl) ?_
      have hFc := free_all hD hS hA
      obtain ⟨k23, gk23, hk23⟩ := wGt (cy := cy) X S16 (xe20.A h_o1).1 (xe20.A h_o1).2.1
      refine va_callq (va_runV (As := [.int (S.I r8 16)]) (rest := []) ⟨hx, hb, hml, hown, hts⟩ (c_X12_gearAt l (cy := cy) (X := X) (D := D) S16 _ o1 (xe20.A h_o1) (S.I r8 16) (t21.w) (by rw [f_of (xe20.F h_o1 (by decide) F1.1)]; omega)) (cwV 1 hts gX12_separate_X12_gearAt rfl rfl rfl hd_X12_gearAt ⟨Nat.le_of_ble_eq_true rfl, Nat.le_of_ble_eq_true rfl⟩) ⟨fun a U g mk q => ⟨q.1, q.2.1, q.2.2.1.calling, NW.same (u := U) (U := U.calling g mk a) rfl q.2.2.2⟩, va_recv hK hP (q := (RX12, TX12, 34)) (ci := 16) (q0 := k23) rfl hk23, fun U hU hW => ⟨rfl, by rw [hU], wd_pre hP hK hD hU hW, hN.warm hW⟩⟩ rfl rfl hl.1 rfl (lv_room (Nat.le_of_ble_eq_true rfl)) dX12_separate_45 ⟨(Nat.zero_le _), (Nat.zero_le _)⟩) hS (fun q _ h => hFc q h) hFc (fun r24 u t H1 locs ht hvm hw hB hz1 hk1 hS => ?_)
      obtain ⟨r24, rfl, o25⟩ := hw
      obtain ⟨hP, hD⟩ := wd_post hFc ht hB
      generalize H1 = H at hP hS ⊢
      refine W.eq (g2 := F0 m 48 ls [.ref r24]) rfl ?_
      refine lv_iconst (v := -1) hx hb dX12_separate_48 (by decide) ?_
      obtain ⟨k26, gk26, hk26⟩ := wGt (cy := cy) X S16 o25.1 o25.2.1
      refine va_putN (D := D) (ci := 14) (v := .int (-1 : Int32)) (ty := .int) (C := RX10) (T := TX10) (N := 23) hx hb hts (by decide +kernel) tyX10 tyX10_ok nmX10 hown hK hP hD hS k26 hk26 rfl 16 (by decide) (va_Nw.use rfl (hN (.fieldLinkNest RX12 446 "HobhouseModel$Gear" "mate" "I" "HobhouseModel") (by decide +kernel))) (fun _ h9 => h9) rfl (by decide +kernel) (rfl) (rfl) (Nat.le_of_ble_eq_true rfl) dX12_separate_49 (fun H locs hP2 hD2 hS => ?_)
      have e9 := wPuI (cy := cy) (j := 16) (v := (-1 : Int32)) hD o25.1 o25.2.1 gk26 rfl
      obtain ⟨S27, hS27⟩ : ∃ z, S16.sI r24 16 (-1 : Int32) = z := ⟨_, rfl⟩
      have s29 : stp [(10, 16)] [] [] S16 S27 := by rw [← hS27]; exact (stp.rf t21.w).I 16 (-1 : Int32) o25 (by decide) (trivial) (Or.inl (by decide))
      have v28 : IV S27 o1 := IV.keep s29 t21.w (xe20.A h_o1) (by decide) (by decide) v17
      have v30 : MV S27 o1 := by rw [← hS27]; exact MV.set v19 o25 (xe20.A F1.2.1) (f_of (xe20.F h_o1 (by decide) F1.1)) ⟨by omega, by omega⟩
      have hP : va_P D vwCl (X ++ PL cy S27) H := by rw [← hS27, ← e9]; exact hP2
      have hD : va_D A (X ++ PL cy S27) := by rw [← hS27, ← e9]; exact hD2
      have xe31 : ext S16 S27 := by rw [← hS27]; exact ext.sI _ _ _ _
      have t32 : stp [(10, 16), (12, 15)] [] [] S S27 := by rw [← hS27]; exact t21.I 16 (-1 : Int32) o25 (by decide) (trivial) (Or.inl (by decide))
      have k33 : (S27.I (S.f o1 0) 2).toInt = (S16.I (S.f o1 0) 2).toInt := by rw [← hS27]; exact congrArg Int32.toInt (sI_I (by rintro ⟨e1, e2⟩; exact absurd e2 (by decide)))
      refine lv_aload_n hx hb dX12_separate_52 rfl (lv_at hl 1 rfl) ?_
      refine lv_iload_n hx hb dX12_separate_53 rfl (lv_at hl 0 rfl) ?_
      have hFc := free_all hD hS hA
      obtain ⟨k34, gk34, hk34⟩ := wGt (cy := cy) X S27 (xe31.A (xe20.A h_o1)).1 (xe31.A (xe20.A h_o1)).2.1
      refine va_calli (va_runV (As := [.int (S.I r8 16)]) (rest := []) ⟨hx, hb, hml, hown, hts⟩ (c_X12_answer l (cy := cy) (X := X) (D := D) S27 _ o1 (xe31.A (xe20.A h_o1)) (S.I r8 16) (t32.w)) (cwV 1 hts gX12_separate_X12_answer rfl rfl rfl hd_X12_answer ⟨Nat.le_of_ble_eq_true rfl, Nat.le_of_ble_eq_true rfl⟩) ⟨fun a U g mk q => ⟨q.1, q.2.1, q.2.2.1.calling, NW.same (u := U) (U := U.calling g mk a) rfl q.2.2.2⟩, va_recv hK hP (q := (RX12, TX12, 34)) (ci := 16) (q0 := k34) rfl hk34, fun U hU hW => ⟨rfl, by rw [hU], wd_pre hP hK hD hU hW, hN.warm hW⟩⟩ rfl rfl hl.1 rfl (lv_room (Nat.le_of_ble_eq_true rfl)) dX12_separate_54 ⟨(Nat.zero_le _), (Nat.zero_le _)⟩) hS (fun q _ h => hFc q h) hFc (fun r35 u t H1 locs ht hvm hw hB hz1 hk1 hS => ?_)
      obtain ⟨c36, w37⟩ := hw
      obtain ⟨hP, hD⟩ := wd_post hFc ht hB
      generalize H1 = H at hP hS ⊢
      obtain ⟨S38, rfl⟩ : ∃ z, z = u := ⟨_, rfl⟩
      have t39 : stp [(10, 16), (12, 15)] [] [] S S38 := t32.tr w37 (by decide) (fun _ q => absurd q List.not_mem_nil)
      have v40 : IV S38 o1 := IV.keep w37 t32.w (xe31.A (xe20.A h_o1)) (by decide) (by decide) v28
      have v41 : MV S38 o1 := MV.keep w37 t32.w (xe31.A (xe20.A h_o1)) (by decide) (by decide) v30
      have xe42 : ext S27 S38 := w37.x
      have k43 : (S38.I (S.f o1 0) 2).toInt = (S27.I (S.f o1 0) 2).toInt := by rw [(w37.fR (S.f o1 0) ((xe20.tr xe31).A F1.2.1).1 List.not_mem_nil).1 2 (by rw [((xe20.tr xe31).A F1.2.1).2.1]; decide) |>.1]
      refine W.widen (k := 0) (n := 0) (Nat.le_of_ble_eq_true rfl) (Nat.le_of_ble_eq_true rfl) ?_
      exact W.iret (v := r35) hx hb hr (fun t ht hW9 => ⟨⟨r35, S38, rfl, ⟨t39, (v40), (v41)⟩, wd_end hP hK hD ht hW9.alike⟩, hS.F ht⟩) hS.2.2 dX12_separate_57 hlocks
    · have c11i : (S.I r8 16).toInt = -1 := eq_v rfl rfl c11
      refine lv_aload_n hx hb dX12_separate_28 rfl (lv_at hl 1 rfl) ?_
      refine lv_iconst (v := 2) hx hb dX12_separate_29 (by decide) ?_
      have l32_2 : (2 : Int32).toInt = 2 := rfl
      have hFc := free_all hD hS hA
      obtain ⟨k44, gk44, hk44⟩ := wGt (cy := cy) X S h_o1.1 h_o1.2.1
      refine va_calli (va_runV (As := [.int (2 : Int32)]) (rest := []) ⟨hx, hb, hml, hown, hts⟩ (c_X12_fails l (cy := cy) (X := X) (D := D) S _ o1 h_o1 (2 : Int32) (hW)) (cwV 1 hts gX12_separate_X12_fails rfl rfl rfl hd_X12_fails ⟨Nat.le_of_ble_eq_true rfl, Nat.le_of_ble_eq_true rfl⟩) ⟨fun a U g mk q => ⟨q.1, q.2.1, q.2.2.1.calling, NW.same (u := U) (U := U.calling g mk a) rfl q.2.2.2⟩, va_recv hK hP (q := (RX12, TX12, 34)) (ci := 16) (q0 := k44) rfl hk44, fun U hU hW => ⟨rfl, by rw [hU], wd_pre hP hK hD hU hW, hN.warm hW⟩⟩ rfl rfl hl.1 rfl (lv_room (Nat.le_of_ble_eq_true rfl)) dX12_separate_30 ⟨(Nat.zero_le _), (Nat.zero_le _)⟩) hS (fun q _ h => hFc q h) hFc (fun r45 u t H1 locs ht hvm hw hB hz1 hk1 hS => ?_)
      obtain ⟨c46, w47⟩ := hw
      obtain ⟨hP, hD⟩ := wd_post hFc ht hB
      generalize H1 = H at hP hS ⊢
      obtain ⟨S48, rfl⟩ : ∃ z, z = u := ⟨_, rfl⟩
      have t49 : stp [(10, 16), (12, 15)] [] [] S S48 := t0.tr w47 (by decide) (fun _ q => absurd q List.not_mem_nil)
      have v50 : IV S48 o1 := IV.keep w47 hW h_o1 (by decide) (by decide) hv
      have v51 : MV S48 o1 := MV.keep w47 hW h_o1 (by decide) (by decide) hm
      have xe52 : ext S S48 := w47.x
      have k53 : (S48.I (S.f o1 0) 2).toInt = (S.I (S.f o1 0) 2).toInt := by rw [(w47.fR (S.f o1 0) F1.2.1.1 List.not_mem_nil).1 2 (by rw [F1.2.1.2.1]; decide) |>.1]
      refine W.widen (k := 0) (n := 0) (Nat.le_of_ble_eq_true rfl) (Nat.le_of_ble_eq_true rfl) ?_
      exact W.iret (v := r45) hx hb hr (fun t ht hW9 => ⟨⟨r45, S48, rfl, ⟨t49, (v50), (v51)⟩, wd_end hP hK hD ht hW9.alike⟩, hS.F ht⟩) hS.2.2 dX12_separate_33 hlocks
  · have c6i : (f_X12_isGear S o1 x1).toInt = 0 := eq_v rfl rfl c6
    refine lv_aload_n hx hb dX12_separate_8 rfl (lv_at hl 0 rfl) ?_
    refine lv_iconst (v := 1) hx hb dX12_separate_9 (by decide) ?_
    have l32_1 : (1 : Int32).toInt = 1 := rfl
    have hFc := free_all hD hS hA
    obtain ⟨k54, gk54, hk54⟩ := wGt (cy := cy) X S h_o1.1 h_o1.2.1
    refine va_calli (va_runV (As := [.int (1 : Int32)]) (rest := []) ⟨hx, hb, hml, hown, hts⟩ (c_X12_fails l (cy := cy) (X := X) (D := D) S _ o1 h_o1 (1 : Int32) (hW)) (cwV 1 hts gX12_separate_X12_fails rfl rfl rfl hd_X12_fails ⟨Nat.le_of_ble_eq_true rfl, Nat.le_of_ble_eq_true rfl⟩) ⟨fun a U g mk q => ⟨q.1, q.2.1, q.2.2.1.calling, NW.same (u := U) (U := U.calling g mk a) rfl q.2.2.2⟩, va_recv hK hP (q := (RX12, TX12, 34)) (ci := 16) (q0 := k54) rfl hk54, fun U hU hW => ⟨rfl, by rw [hU], wd_pre hP hK hD hU hW, hN.warm hW⟩⟩ rfl rfl hl.1 rfl (lv_room (Nat.le_of_ble_eq_true rfl)) dX12_separate_10 ⟨(Nat.zero_le _), (Nat.zero_le _)⟩) hS (fun q _ h => hFc q h) hFc (fun r55 u t H1 locs ht hvm hw hB hz1 hk1 hS => ?_)
    obtain ⟨c56, w57⟩ := hw
    obtain ⟨hP, hD⟩ := wd_post hFc ht hB
    generalize H1 = H at hP hS ⊢
    obtain ⟨S58, rfl⟩ : ∃ z, z = u := ⟨_, rfl⟩
    have t59 : stp [(10, 16), (12, 15)] [] [] S S58 := t0.tr w57 (by decide) (fun _ q => absurd q List.not_mem_nil)
    have v60 : IV S58 o1 := IV.keep w57 hW h_o1 (by decide) (by decide) hv
    have v61 : MV S58 o1 := MV.keep w57 hW h_o1 (by decide) (by decide) hm
    have xe62 : ext S S58 := w57.x
    have k63 : (S58.I (S.f o1 0) 2).toInt = (S.I (S.f o1 0) 2).toInt := by rw [(w57.fR (S.f o1 0) F1.2.1.1 List.not_mem_nil).1 2 (by rw [F1.2.1.2.1]; decide) |>.1]
    refine W.widen (k := 0) (n := 0) (Nat.le_of_ble_eq_true rfl) (Nat.le_of_ble_eq_true rfl) ?_
    exact W.iret (v := r55) hx hb hr (fun t ht hW9 => ⟨⟨r55, S58, rfl, ⟨t59, (v60), (v61)⟩, wd_end hP hK hD ht hW9.alike⟩, hS.F ht⟩) hS.2.2 dX12_separate_13 hlocks
