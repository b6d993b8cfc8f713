theorem hi_X4_begin_X4 : ∀ w ∈ u_ws RX4 TX4 9, w ∈ wsX4_begin := by decide +kernel
theorem hd_X4_begin : yX4_begin.cls = RX4 ∧ yX4_begin.cls ≠ "java/lang/invoke/MethodHandle" ∧ yX4_begin.cls ≠ "java/lang/invoke/VarHandle" ∧ (parseMethodDescriptor yX4_begin.desc).map (fun d => d.parameters.length) = some 0 := by decide +kernel
set_option maxHeartbeats 4000000 in
set_option maxRecDepth 100000 in
theorem c_X4_begin (l : Launch) {D : va_G} {cy : Nat → ClassId} {X : va_W} (S : wPS) (sz : Nat) (o1 : Nat) (h_o1 : isA S o1 4) (hW : wtB S [])  : Met l yX4_begin wsX4_begin ({ frames := 0, cells := 0, slots := 0, locals := 0 }) (va_Pc [.ref o1] (fun U => U.heap.size = sz ∧ WD D cy X (fun _ => True) S U ∧ NW U)) (va_Qv (fun (u : wPS) => stp [(4, 6), (4, 7)] [] [] S u) (fun u t => WD D cy X (va_A (X ++ PL cy S) sz) u t) (va_A (X ++ PL cy S) sz)) 0 0 (va_A (X ++ PL cy S) sz) := by
  refine Met.ofW (cc := cX4_begin) (maxL := 1) (ret := none) (by decide) rfl ?_
  intro p e s m args below meth c s₁ B hml hv
  obtain ⟨rfl, hsz, ⟨hP, hK, hD0⟩, hN⟩ := hv
  have hx := B.exec
  have hb := B.bytes
  have hr := B.returns
  have hts := atoms_spec (ws := wsX4_begin) B.pre
  have hown : s.vm.findClass RX4 = some m.cls := findClass_of_methodNamed (x := yX4_begin) B.named
  have hlocks := B.notSynchronized
  subst hsz
  have hD := hD0.self (sz := s.heap.size)
  generalize hAe : va_A (X ++ PL cy S) s.heap.size = A at hD ⊢
  have hA : ∀ q : Nat, s.heap.size ≤ q → A q := fun q h => by rw [← hAe]; exact Or.inr h
  have hS : va_S A s.heap s.heap [] := va_S.rf
  have hl := lv_entry ([.ref o1]) (n := 1) (Nat.le_of_ble_eq_true rfl)
  rw [lg_entry_eq]
  generalize (lg_sl ([.ref o1]) ++ List.replicate (1 - (lg_sl ([.ref o1])).length) Slot.unset).toArray = ls at hl ⊢
  have hl : lv_has ls 1 [(0, .ref o1)] := hl
  have t0 : stp [(4, 6), (4, 7)] [] [] S S := stp.rf hW
  refine lv_aload_n hx hb dX4_begin_0 rfl (lv_at hl 0 rfl) ?_
  refine lv_iconst (v := 0) hx hb dX4_begin_1 (by decide) ?_
  have l32_0 : (0 : Int32).toInt = 0 := rfl
  obtain ⟨k1, gk1, hk1⟩ := wGt (cy := cy) X S h_o1.1 h_o1.2.1
  refine va_put (D := D) (ci := 8) (v := .int (0 : Int32)) (ty := .int) (C := RX4) (T := TX4) (N := 9) hx hb hts hi_X4_begin_X4 tyX4 tyX4_ok nmX4 hown hK hP hD hS k1 hk1 rfl 6 (by decide) (hts (.fieldLink RX4 34 "Hobhouse$Matching" "firstCount" "I") (by decide +kernel)) (fun _ h9 => h9) rfl (by decide +kernel) (rfl) (rfl) (Nat.le_of_ble_eq_true rfl) dX4_begin_2 (fun H locs hP2 hD2 hS => ?_)
  have e9 := wPuI (cy := cy) (j := 6) (v := (0 : Int32)) hD h_o1.1 h_o1.2.1 gk1 rfl
  obtain ⟨S2, hS2⟩ : ∃ z, S.sI o1 6 (0 : Int32) = z := ⟨_, rfl⟩
  have hP : va_P D vwCl (X ++ PL cy S2) H := by rw [← hS2, ← e9]; exact hP2
  have hD : va_D A (X ++ PL cy S2) := by rw [← hS2, ← e9]; exact hD2
  have xe3 : ext S S2 := by rw [← hS2]; exact ext.sI _ _ _ _
  have t4 : stp [(4, 6), (4, 7)] [] [] S S2 := by rw [← hS2]; exact t0.I 6 (0 : Int32) h_o1 (by decide) (⟨⟨by decide, by decide⟩, fun i hi => absurd hi (not0 i)⟩) (Or.inl (by decide))
  refine lv_aload_n hx hb dX4_begin_5 rfl (lv_at hl 0 rfl) ?_
  refine lv_iconst (v := 0) hx hb dX4_begin_6 (by decide) ?_
  obtain ⟨k5, gk5, hk5⟩ := wGt (cy := cy) X S2 (xe3.A h_o1).1 (xe3.A h_o1).2.1
  refine va_put (D := D) (ci := 8) (v := .int (0 : Int32)) (ty := .int) (C := RX4) (T := TX4) (N := 9) hx hb hts hi_X4_begin_X4 tyX4 tyX4_ok nmX4 hown hK hP hD hS k5 hk5 rfl 7 (by decide) (hts (.fieldLink RX4 38 "Hobhouse$Matching" "secondCount" "I") (by decide +kernel)) (fun _ h9 => h9) rfl (by decide +kernel) (rfl) (rfl) (Nat.le_of_ble_eq_true rfl) dX4_begin_7 (fun H locs hP2 hD2 hS => ?_)
  have e9 := wPuI (cy := cy) (j := 7) (v := (0 : Int32)) hD (xe3.A h_o1).1 (xe3.A h_o1).2.1 gk5 rfl
  obtain ⟨S6, hS6⟩ : ∃ z, S2.sI o1 7 (0 : Int32) = z := ⟨_, rfl⟩
  have hP : va_P D vwCl (X ++ PL cy S6) H := by rw [← hS6, ← e9]; exact hP2
  have hD : va_D A (X ++ PL cy S6) := by rw [← hS6, ← e9]; exact hD2
  have xe7 : ext S2 S6 := by rw [← hS6]; exact ext.sI _ _ _ _
  have t8 : stp [(4, 6), (4, 7)] [] [] S S6 := by rw [← hS6]; exact t4.I 7 (0 : Int32) (xe3.A h_o1) (by decide) (⟨⟨by decide, by decide⟩, fun i hi => absurd hi (not0 i)⟩) (Or.inl (by decide))
  refine W.widen (k := 0) (n := 0) (Nat.le_of_ble_eq_true rfl) (Nat.le_of_ble_eq_true rfl) ?_
  exact W.vret hx hb hr (fun t ht hW9 => ⟨⟨S6, rfl, t8, wd_end hP hK hD ht hW9.alike⟩, hS.F ht⟩) hS.2.2 dX4_begin_10 hlocks
theorem hi_X4_offer_X2 : ∀ w ∈ u_ws RX2 TX2 20, w ∈ wsX4_offer := by decide +kernel
theorem hi_X4_offer_X4 : ∀ w ∈ u_ws RX4 TX4 9, w ∈ wsX4_offer := by decide +kernel
theorem hd_X4_offer : yX4_offer.cls = RX4 ∧ yX4_offer.cls ≠ "java/lang/invoke/MethodHandle" ∧ yX4_offer.cls ≠ "java/lang/invoke/VarHandle" ∧ (parseMethodDescriptor yX4_offer.desc).map (fun d => d.parameters.length) = some 3 := by decide +kernel
set_option maxHeartbeats 4000000 in
set_option maxRecDepth 100000 in
theorem c_X4_offer (l : Launch) {D : va_G} {cy : Nat → ClassId} {X : va_W} (S : wPS) (sz : Nat) (o1 : Nat) (h_o1 : isA S o1 4) (o2 : Nat) (h_o2 : isA S o2 2) (x1 : Int32) (x2 : Int32) (hW : wtB S [])  : Met l yX4_offer wsX4_offer ({ frames := 0, cells := 0, slots := 0, locals := 0 }) (va_Pc [.ref o1, .ref o2, .int x1, .int x2] (fun U => U.heap.size = sz ∧ WD D cy X (fun _ => True) S U ∧ NW U)) (va_Qv (fun (u : wPS) => stp [(4, 6), (4, 7), (24, 101)] [] [] S u) (fun u t => WD D cy X (va_A (X ++ PL cy S) sz) u t) (va_A (X ++ PL cy S) sz)) 0 0 (va_A (X ++ PL cy S) sz) := by
  refine Met.ofW (cc := cX4_offer) (maxL := 4) (ret := none) (by decide) rfl ?_
  intro p e s m args below meth c s₁ B hml hv
  obtain ⟨rfl, hsz, ⟨hP, hK, hD0⟩, hN⟩ := hv
  have hx := B.exec
  have hb := B.bytes
  have hr := B.returns
  have hts := atoms_spec (ws := wsX4_offer) B.pre
  have hown : s.vm.findClass RX4 = some m.cls := findClass_of_methodNamed (x := yX4_offer) B.named
  have hlocks := B.notSynchronized
  subst hsz
  have hD := hD0.self (sz := s.heap.size)
  generalize hAe : va_A (X ++ PL cy S) s.heap.size = A at hD ⊢
  have hA : ∀ q : Nat, s.heap.size ≤ q → A q := fun q h => by rw [← hAe]; exact Or.inr h
  have hS : va_S A s.heap s.heap [] := va_S.rf
  have hl := lv_entry ([.ref o1, .ref o2, .int x1, .int x2]) (n := 4) (Nat.le_of_ble_eq_true rfl)
  rw [lg_entry_eq]
  generalize (lg_sl ([.ref o1, .ref o2, .int x1, .int x2]) ++ List.replicate (4 - (lg_sl ([.ref o1, .ref o2, .int x1, .int x2])).length) Slot.unset).toArray = ls at hl ⊢
  have hl : lv_has ls 4 [(0, .ref o1), (1, .ref o2), (2, .int x1), (3, .int x2)] := hl
  have t0 : stp [(4, 6), (4, 7), (24, 101)] [] [] S S := stp.rf hW
  refine lv_aload_n hx hb dX4_offer_0 rfl (lv_at hl 1 rfl) ?_
  obtain ⟨k1, gk1, hk1⟩ := wGt (cy := cy) X S h_o2.1 h_o2.2.1
  have i2 := ((hW.at h_o2 List.not_mem_nil).to_2 h_o2.2.1).R1
  refine va_get (D := D) (ci := 6) (v := .int (S.I o2 1)) (C := RX2) (T := TX2) (N := 20) hx hb hts hi_X4_offer_X2 hown hK hP k1 hk1 rfl 1 (by decide) (hts (.fieldLink RX4 41 "Hobhouse$Gear" "teeth" "I") (by decide +kernel)) (fun _ h9 => h9) rfl dX4_offer_1 ?_
  refine lv_iload_n hx hb dX4_offer_4 rfl (lv_at hl 2 rfl) ?_
  refine lv_icmp_ne (tgt := 36) hx hb dX4_offer_5 (by decide) (fun c3 => ?_) (fun c3 => ?_)
  · have c3i : ¬ (S.I o2 1).toInt = x1.toInt := neq_v rfl rfl c3
    refine lv_aload_n hx hb dX4_offer_36 rfl (lv_at hl 1 rfl) ?_
    obtain ⟨k4, gk4, hk4⟩ := wGt (cy := cy) X S h_o2.1 h_o2.2.1
    refine va_get (D := D) (ci := 6) (v := .int (S.I o2 1)) (C := RX2) (T := TX2) (N := 20) hx hb hts hi_X4_offer_X2 hown hK hP k4 hk4 rfl 1 (by decide) (hts (.fieldLink RX4 41 "Hobhouse$Gear" "teeth" "I") (by decide +kernel)) (fun _ h9 => h9) rfl dX4_offer_37 ?_
    refine lv_iload_n hx hb dX4_offer_40 rfl (lv_at hl 3 rfl) ?_
    refine lv_icmp_ne (tgt := 72) hx hb dX4_offer_41 (by decide) (fun c5 => ?_) (fun c5 => ?_)
    · have c5i : ¬ (S.I o2 1).toInt = x2.toInt := neq_v rfl rfl c5
      refine W.widen (k := 0) (n := 0) (Nat.le_of_ble_eq_true rfl) (Nat.le_of_ble_eq_true rfl) ?_
      exact W.vret hx hb hr (fun t ht hW9 => ⟨⟨S, rfl, t0, wd_end hP hK hD ht hW9.alike⟩, hS.F ht⟩) hS.2.2 dX4_offer_72 hlocks
    · have c5i : (S.I o2 1).toInt = x2.toInt := eq_v rfl rfl c5
      refine lv_aload_n hx hb dX4_offer_44 rfl (lv_at hl 0 rfl) ?_
      obtain ⟨k6, gk6, hk6⟩ := wGt (cy := cy) X S h_o1.1 h_o1.2.1
      have i7 := ((hW.at h_o1 List.not_mem_nil).to_4 h_o1.2.1).R7
      refine va_get (D := D) (ci := 8) (v := .int (S.I o1 7)) (C := RX4) (T := TX4) (N := 9) hx hb hts hi_X4_offer_X4 hown hK hP k6 hk6 rfl 7 (by decide) (hts (.fieldLink RX4 38 "Hobhouse$Matching" "secondCount" "I") (by decide +kernel)) (fun _ h9 => h9) rfl dX4_offer_45 ?_
      refine lv_iconst (v := 5) hx hb dX4_offer_48 (by decide) ?_
      refine lv_icmp_ge (tgt := 72) hx hb dX4_offer_49 (by decide) (fun c8 => ?_) (fun c8 => ?_)
      · have c8i : 5 ≤ (S.I o1 7).toInt := le_v rfl rfl c8
        refine W.widen (k := 0) (n := 0) (Nat.le_of_ble_eq_true rfl) (Nat.le_of_ble_eq_true rfl) ?_
        exact W.vret hx hb hr (fun t ht hW9 => ⟨⟨S, rfl, t0, wd_end hP hK hD ht hW9.alike⟩, hS.F ht⟩) hS.2.2 dX4_offer_72 hlocks
      · have c8i : (S.I o1 7).toInt < 5 := nle_v rfl rfl c8
        refine lv_aload_n hx hb dX4_offer_52 rfl (lv_at hl 0 rfl) ?_
        have F9 := ((hW.at h_o1 List.not_mem_nil).to_4 h_o1.2.1).F1
        obtain ⟨k10, gk10, hk10⟩ := wGt (cy := cy) X S h_o1.1 h_o1.2.1
        simp only [kE, F9.1] at hk10
        refine va_get (D := D) (ci := 8) (v := .ref (S.f o1 1)) (C := RX4) (T := TX4) (N := 9) hx hb hts hi_X4_offer_X4 hown hK hP k10 hk10 rfl 1 (by decide) (hts (.fieldLink RX4 17 "Hobhouse$Matching" "seconds" "[LHobhouse$Gear;") (by decide +kernel)) (fun _ h9 => h9) rfl dX4_offer_53 ?_
        refine lv_aload_n hx hb dX4_offer_56 rfl (lv_at hl 0 rfl) ?_
        obtain ⟨k11, gk11, hk11⟩ := wGt (cy := cy) X S h_o1.1 h_o1.2.1
        refine va_get (D := D) (ci := 8) (v := .int (S.I o1 7)) (C := RX4) (T := TX4) (N := 9) hx hb hts hi_X4_offer_X4 hown hK hP k11 hk11 rfl 7 (by decide) (hts (.fieldLink RX4 38 "Hobhouse$Matching" "secondCount" "I") (by decide +kernel)) (fun _ h9 => h9) rfl dX4_offer_57 ?_
        refine lv_aload_n hx hb dX4_offer_60 rfl (lv_at hl 1 rfl) ?_
        obtain ⟨k12, gk12, hk12⟩ := wGt (cy := cy) X S h_o2.1 h_o2.2.1
        obtain ⟨k13, gk13, hk13⟩ := wGt (cy := cy) X S F9.2.1.1 F9.2.1.2.1
        refine va_astq hx hb hK hP hD hS k13 4 k12 6 hk13 rfl hk12 rfl (inb (m := 5) F9.2.2 (by omega) (by omega)) dX4_offer_61 (fun H locs hP2 hD2 hS => ?_)
        have e9 := wPur (cy := cy) (f := (va_up (S.r (S.f o1 1)) (S.I o1 7).toNatClampNeg (some o2))) hD F9.2.1.1 F9.2.1.2.1 gk13 rfl
        obtain ⟨S14, hS14⟩ : ∃ z, S.sr (S.f o1 1) (va_up (S.r (S.f o1 1)) (S.I o1 7).toNatClampNeg (some o2)) = z := ⟨_, rfl⟩
        have hP : va_P D vwCl (X ++ PL cy S14) H := by rw [← hS14, ← e9]; exact hP2
        have hD : va_D A (X ++ PL cy S14) := by rw [← hS14, ← e9]; exact hD2
        have xe15 : ext S S14 := by rw [← hS14]; exact ext.sr _ _ _
        have t16 : stp [(4, 6), (4, 7), (24, 101)] [] [] S S14 := by rw [← hS14]; exact t0.r F9.2.1 (by decide) h_o2 (Or.inr (Or.inr (Or.inr (Or.inr ⟨rfl, rfl⟩)))) List.not_mem_nil (by decide)
        have k17 : (S14.I o1 6).toInt = (S.I o1 6).toInt := by rw [← hS14]; rfl
        have k18 : (S14.I o1 7).toInt = (S.I o1 7).toInt := by rw [← hS14]; rfl
        have g19 : S14.r (S.f o1 1) (S.I o1 7).toNatClampNeg = some o2 := by rw [← hS14]; exact sr_eq
        refine lv_aload_n hx hb dX4_offer_62 rfl (lv_at hl 0 rfl) ?_
        refine lv_dup hx hb dX4_offer_63 rfl ?_
        obtain ⟨k20, gk20, hk20⟩ := wGt (cy := cy) X S14 (xe15.A h_o1).1 (xe15.A h_o1).2.1
        have i21 := ((t16.w.at (xe15.A h_o1) List.not_mem_nil).to_4 (xe15.A h_o1).2.1).R7
        refine va_get (D := D) (ci := 8) (v := .int (S14.I o1 7)) (C := RX4) (T := TX4) (N := 9) hx hb hts hi_X4_offer_X4 hown hK hP k20 hk20 rfl 7 (by decide) (hts (.fieldLink RX4 38 "Hobhouse$Matching" "secondCount" "I") (by decide +kernel)) (fun _ h9 => h9) rfl dX4_offer_64 ?_
        refine lv_iconst (v := 1) hx hb dX4_offer_67 (by decide) ?_
        refine lv_iadd hx hb dX4_offer_68 ?_
        have l32_1 : (1 : Int32).toInt = 1 := rfl
        have i22 : ((S14.I o1 7) + (1 : Int32)).toInt = (S14.I o1 7).toInt + 1 := t_addr (n := 1) rfl (by omega)
        obtain ⟨k23, gk23, hk23⟩ := wGt (cy := cy) X S14 (xe15.A h_o1).1 (xe15.A h_o1).2.1
        refine va_put (D := D) (ci := 8) (v := .int ((S14.I o1 7) + (1 : Int32))) (ty := .int) (C := RX4) (T := TX4) (N := 9) hx hb hts hi_X4_offer_X4 tyX4 tyX4_ok nmX4 hown hK hP hD hS k23 hk23 rfl 7 (by decide) (hts (.fieldLink RX4 38 "Hobhouse$Matching" "secondCount" "I") (by decide +kernel)) (fun _ h9 => h9) rfl (by decide +kernel) (rfl) (rfl) (Nat.le_of_ble_eq_true rfl) dX4_offer_69 (fun H locs hP2 hD2 hS => ?_)
        have e9 := wPuI (cy := cy) (j := 7) (v := ((S14.I o1 7) + (1 : Int32))) hD (xe15.A h_o1).1 (xe15.A h_o1).2.1 gk23 rfl
        have i24 := cl_int (i := S.I o1 7) (by omega)
        obtain ⟨S25, hS25⟩ : ∃ z, S14.sI o1 7 ((S14.I o1 7) + (1 : Int32)) = z := ⟨_, rfl⟩
        have hP : va_P D vwCl (X ++ PL cy S25) H := by rw [← hS25, ← e9]; exact hP2
        have hD : va_D A (X ++ PL cy S25) := by rw [← hS25, ← e9]; exact hD2
        have xe26 : ext S14 S25 := by rw [← hS25]; exact ext.sI _ _ _ _
        have t27 : stp [(4, 6), (4, 7), (24, 101)] [] [] S S25 := by rw [← hS25]; exact t16.I 7 ((S14.I o1 7) + (1 : Int32)) (xe15.A h_o1) (by decide) (⟨⟨by omega, by omega⟩, by rw [f_of (xe15.F h_o1 (by decide) F9.1)]; exact E_push (by have h9 := ((t16.w.at (xe15.A h_o1) List.not_mem_nil).to_4 (xe15.A h_o1).2.1).E1; rw [f_of (xe15.F h_o1 (by decide) F9.1)] at h9; exact h9) (by omega) g19 (by omega) (xe15.A h_o2)⟩) (Or.inl (by decide))
        have k28 : (S25.I o1 6).toInt = (S14.I o1 6).toInt := by rw [← hS25]; exact congrArg Int32.toInt (sI_I (by rintro ⟨e1, e2⟩; exact absurd e2 (by decide)))
        have k29 : (S25.I o1 7).toInt = ((S14.I o1 7) + (1 : Int32)).toInt := by rw [← hS25, sI_eq]
        refine W.widen (k := 0) (n := 0) (Nat.le_of_ble_eq_true rfl) (Nat.le_of_ble_eq_true rfl) ?_
        exact W.vret hx hb hr (fun t ht hW9 => ⟨⟨S25, rfl, t27, wd_end hP hK hD ht hW9.alike⟩, hS.F ht⟩) hS.2.2 dX4_offer_72 hlocks
  · have c3i : (S.I o2 1).toInt = x1.toInt := eq_v rfl rfl c3
    refine lv_aload_n hx hb dX4_offer_8 rfl (lv_at hl 0 rfl) ?_
    obtain ⟨k30, gk30, hk30⟩ := wGt (cy := cy) X S h_o1.1 h_o1.2.1
    have i31 := ((hW.at h_o1 List.not_mem_nil).to_4 h_o1.2.1).R6
    refine va_get (D := D) (ci := 8) (v := .int (S.I o1 6)) (C := RX4) (T := TX4) (N := 9) hx hb hts hi_X4_offer_X4 hown hK hP k30 hk30 rfl 6 (by decide) (hts (.fieldLink RX4 34 "Hobhouse$Matching" "firstCount" "I") (by decide +kernel)) (fun _ h9 => h9) rfl dX4_offer_9 ?_
    refine lv_iconst (v := 5) hx hb dX4_offer_12 (by decide) ?_
    refine lv_icmp_ge (tgt := 36) hx hb dX4_offer_13 (by decide) (fun c32 => ?_) (fun c32 => ?_)
    · have c32i : 5 ≤ (S.I o1 6).toInt := le_v rfl rfl c32
      refine lv_aload_n hx hb dX4_offer_36 rfl (lv_at hl 1 rfl) ?_
      obtain ⟨k33, gk33, hk33⟩ := wGt (cy := cy) X S h_o2.1 h_o2.2.1
      refine va_get (D := D) (ci := 6) (v := .int (S.I o2 1)) (C := RX2) (T := TX2) (N := 20) hx hb hts hi_X4_offer_X2 hown hK hP k33 hk33 rfl 1 (by decide) (hts (.fieldLink RX4 41 "Hobhouse$Gear" "teeth" "I") (by decide +kernel)) (fun _ h9 => h9) rfl dX4_offer_37 ?_
      refine lv_iload_n hx hb dX4_offer_40 rfl (lv_at hl 3 rfl) ?_
      refine lv_icmp_ne (tgt := 72) hx hb dX4_offer_41 (by decide) (fun c34 => ?_) (fun c34 => ?_)
      · have c34i : ¬ (S.I o2 1).toInt = x2.toInt := neq_v rfl rfl c34
        refine W.widen (k := 0) (n := 0) (Nat.le_of_ble_eq_true rfl) (Nat.le_of_ble_eq_true rfl) ?_
        exact W.vret hx hb hr (fun t ht hW9 => ⟨⟨S, rfl, t0, wd_end hP hK hD ht hW9.alike⟩, hS.F ht⟩) hS.2.2 dX4_offer_72 hlocks
      · have c34i : (S.I o2 1).toInt = x2.toInt := eq_v rfl rfl c34
        refine lv_aload_n hx hb dX4_offer_44 rfl (lv_at hl 0 rfl) ?_
        obtain ⟨k35, gk35, hk35⟩ := wGt (cy := cy) X S h_o1.1 h_o1.2.1
        have i36 := ((hW.at h_o1 List.not_mem_nil).to_4 h_o1.2.1).R7
        refine va_get (D := D) (ci := 8) (v := .int (S.I o1 7)) (C := RX4) (T := TX4) (N := 9) hx hb hts hi_X4_offer_X4 hown hK hP k35 hk35 rfl 7 (by decide) (hts (.fieldLink RX4 38 "Hobhouse$Matching" "secondCount" "I") (by decide +kernel)) (fun _ h9 => h9) rfl dX4_offer_45 ?_
        refine lv_iconst (v := 5) hx hb dX4_offer_48 (by decide) ?_
        refine lv_icmp_ge (tgt := 72) hx hb dX4_offer_49 (by decide) (fun c37 => ?_) (fun c37 => ?_)
        · have c37i : 5 ≤ (S.I o1 7).toInt := le_v rfl rfl c37
          refine W.widen (k := 0) (n := 0) (Nat.le_of_ble_eq_true rfl) (Nat.le_of_ble_eq_true rfl) ?_
          exact W.vret hx hb hr (fun t ht hW9 => ⟨⟨S, rfl, t0, wd_end hP hK hD ht hW9.alike⟩, hS.F ht⟩) hS.2.2 dX4_offer_72 hlocks
        · have c37i : (S.I o1 7).toInt < 5 := nle_v rfl rfl c37
          refine lv_aload_n hx hb dX4_offer_52 rfl (lv_at hl 0 rfl) ?_
          have F38 := ((hW.at h_o1 List.not_mem_nil).to_4 h_o1.2.1).F1
          obtain ⟨k39, gk39, hk39⟩ := wGt (cy := cy) X S h_o1.1 h_o1.2.1
          simp only [kE, F38.1] at hk39
          refine va_get (D := D) (ci := 8) (v := .ref (S.f o1 1)) (C := RX4) (T := TX4) (N := 9) hx hb hts hi_X4_offer_X4 hown hK hP k39 hk39 rfl 1 (by decide) (hts (.fieldLink RX4 17 "Hobhouse$Matching" "seconds" "[LHobhouse$Gear;") (by decide +kernel)) (fun _ h9 => h9) rfl dX4_offer_53 ?_
          refine lv_aload_n hx hb dX4_offer_56 rfl (lv_at hl 0 rfl) ?_
          obtain ⟨k40, gk40, hk40⟩ := wGt (cy := cy) X S h_o1.1 h_o1.2.1
          refine va_get (D := D) (ci := 8) (v := .int (S.I o1 7)) (C := RX4) (T := TX4) (N := 9) hx hb hts hi_X4_offer_X4 hown hK hP k40 hk40 rfl 7 (by decide) (hts (.fieldLink RX4 38 "Hobhouse$Matching" "secondCount" "I") (by decide +kernel)) (fun _ h9 => h9) rfl dX4_offer_57 ?_
          refine lv_aload_n hx hb dX4_offer_60 rfl (lv_at hl 1 rfl) ?_
          obtain ⟨k41, gk41, hk41⟩ := wGt (cy := cy) X S h_o2.1 h_o2.2.1
          obtain ⟨k42, gk42, hk42⟩ := wGt (cy := cy) X S F38.2.1.1 F38.2.1.2.1
          refine va_astq hx hb hK hP hD hS k42 4 k41 6 hk42 rfl hk41 rfl (inb (m := 5) F38.2.2 (by omega) (by omega)) dX4_offer_61 (fun H locs hP2 hD2 hS => ?_)
          have e9 := wPur (cy := cy) (f := (va_up (S.r (S.f o1 1)) (S.I o1 7).toNatClampNeg (some o2))) hD F38.2.1.1 F38.2.1.2.1 gk42 rfl
          obtain ⟨S43, hS43⟩ : ∃ z, S.sr (S.f o1 1) (va_up (S.r (S.f o1 1)) (S.I o1 7).toNatClampNeg (some o2)) = z := ⟨_, rfl⟩
          have hP : va_P D vwCl (X ++ PL cy S43) H := by rw [← hS43, ← e9]; exact hP2
          have hD : va_D A (X ++ PL cy S43) := by rw [← hS43, ← e9]; exact hD2
          have xe44 : ext S S43 := by rw [← hS43]; exact ext.sr _ _ _
          have t45 : stp [(4, 6), (4, 7), (24, 101)] [] [] S S43 := by rw [← hS43]; exact t0.r F38.2.1 (by decide) h_o2 (Or.inr (Or.inr (Or.inr (Or.inr ⟨rfl, rfl⟩)))) List.not_mem_nil (by decide)
          have k46 : (S43.I o1 6).toInt = (S.I o1 6).toInt := by rw [← hS43]; rfl
          have k47 : (S43.I o1 7).toInt = (S.I o1 7).toInt := by rw [← hS43]; rfl
          have g48 : S43.r (S.f o1 1) (S.I o1 7).toNatClampNeg = some o2 := by rw [← hS43]; exact sr_eq
          refine lv_aload_n hx hb dX4_offer_62 rfl (lv_at hl 0 rfl) ?_
          refine lv_dup hx hb dX4_offer_63 rfl ?_
          obtain ⟨k49, gk49, hk49⟩ := wGt (cy := cy) X S43 (xe44.A h_o1).1 (xe44.A h_o1).2.1
          have i50 := ((t45.w.at (xe44.A h_o1) List.not_mem_nil).to_4 (xe44.A h_o1).2.1).R7
          refine va_get (D := D) (ci := 8) (v := .int (S43.I o1 7)) (C := RX4) (T := TX4) (N := 9) hx hb hts hi_X4_offer_X4 hown hK hP k49 hk49 rfl 7 (by decide) (hts (.fieldLink RX4 38 "Hobhouse$Matching" "secondCount" "I") (by decide +kernel)) (fun _ h9 => h9) rfl dX4_offer_64 ?_
          refine lv_iconst (v := 1) hx hb dX4_offer_67 (by decide) ?_
          refine lv_iadd hx hb dX4_offer_68 ?_
          have l32_1 : (1 : Int32).toInt = 1 := rfl
          have i51 : ((S43.I o1 7) + (1 : Int32)).toInt = (S43.I o1 7).toInt + 1 := t_addr (n := 1) rfl (by omega)
          obtain ⟨k52, gk52, hk52⟩ := wGt (cy := cy) X S43 (xe44.A h_o1).1 (xe44.A h_o1).2.1
          refine va_put (D := D) (ci := 8) (v := .int ((S43.I o1 7) + (1 : Int32))) (ty := .int) (C := RX4) (T := TX4) (N := 9) hx hb hts hi_X4_offer_X4 tyX4 tyX4_ok nmX4 hown hK hP hD hS k52 hk52 rfl 7 (by decide) (hts (.fieldLink RX4 38 "Hobhouse$Matching" "secondCount" "I") (by decide +kernel)) (fun _ h9 => h9) rfl (by decide +kernel) (rfl) (rfl) (Nat.le_of_ble_eq_true rfl) dX4_offer_69 (fun H locs hP2 hD2 hS => ?_)
          have e9 := wPuI (cy := cy) (j := 7) (v := ((S43.I o1 7) + (1 : Int32))) hD (xe44.A h_o1).1 (xe44.A h_o1).2.1 gk52 rfl
          have i53 := cl_int (i := S.I o1 7) (by omega)
          obtain ⟨S54, hS54⟩ : ∃ z, S43.sI o1 7 ((S43.I o1 7) + (1 : Int32)) = z := ⟨_, rfl⟩
          have hP : va_P D vwCl (X ++ PL cy S54) H := by rw [← hS54, ← e9]; exact hP2
          have hD : va_D A (X ++ PL cy S54) := by rw [← hS54, ← e9]; exact hD2
          have xe55 : ext S43 S54 := by rw [← hS54]; exact ext.sI _ _ _ _
          have t56 : stp [(4, 6), (4, 7), (24, 101)] [] [] S S54 := by rw [← hS54]; exact t45.I 7 ((S43.I o1 7) + (1 : Int32)) (xe44.A h_o1) (by decide) (⟨⟨by omega, by omega⟩, by rw [f_of (xe44.F h_o1 (by decide) F38.1)]; exact E_push (by have h9 := ((t45.w.at (xe44.A h_o1) List.not_mem_nil).to_4 (xe44.A h_o1).2.1).E1; rw [f_of (xe44.F h_o1 (by decide) F38.1)] at h9; exact h9) (by omega) g48 (by omega) (xe44.A h_o2)⟩) (Or.inl (by decide))
          have k57 : (S54.I o1 6).toInt = (S43.I o1 6).toInt := by rw [← hS54]; exact congrArg Int32.toInt (sI_I (by rintro ⟨e1, e2⟩; exact absurd e2 (by decide)))
          have k58 : (S54.I o1 7).toInt = ((S43.I o1 7) + (1 : Int32)).toInt := by rw [← hS54, sI_eq]
          refine W.widen (k := 0) (n := 0) (Nat.le_of_ble_eq_true rfl) (Nat.le_of_ble_eq_true rfl) ?_
          exact W.vret hx hb hr (fun t ht hW9 => ⟨⟨S54, rfl, t56, wd_end hP hK hD ht hW9.alike⟩, hS.F ht⟩) hS.2.2 dX4_offer_72 hlocks
    · have c32i : (S.I o1 6).toInt < 5 := nle_v rfl rfl c32
      refine lv_aload_n hx hb dX4_offer_16 rfl (lv_at hl 0 rfl) ?_
      have F59 := ((hW.at h_o1 List.not_mem_nil).to_4 h_o1.2.1).F0
      obtain ⟨k60, gk60, hk60⟩ := wGt (cy := cy) X S h_o1.1 h_o1.2.1
      simp only [kE, F59.1] at hk60
      refine va_get (D := D) (ci := 8) (v := .ref (S.f o1 0)) (C := RX4) (T := TX4) (N := 9) hx hb hts hi_X4_offer_X4 hown hK hP k60 hk60 rfl 0 (by decide) (hts (.fieldLink RX4 11 "Hobhouse$Matching" "firsts" "[LHobhouse$Gear;") (by decide +kernel)) (fun _ h9 => h9) rfl dX4_offer_17 ?_
      refine lv_aload_n hx hb dX4_offer_20 rfl (lv_at hl 0 rfl) ?_
      obtain ⟨k61, gk61, hk61⟩ := wGt (cy := cy) X S h_o1.1 h_o1.2.1
      refine va_get (D := D) (ci := 8) (v := .int (S.I o1 6)) (C := RX4) (T := TX4) (N := 9) hx hb hts hi_X4_offer_X4 hown hK hP k61 hk61 rfl 6 (by decide) (hts (.fieldLink RX4 34 "Hobhouse$Matching" "firstCount" "I") (by decide +kernel)) (fun _ h9 => h9) rfl dX4_offer_21 ?_
      refine lv_aload_n hx hb dX4_offer_24 rfl (lv_at hl 1 rfl) ?_
      obtain ⟨k62, gk62, hk62⟩ := wGt (cy := cy) X S h_o2.1 h_o2.2.1
      obtain ⟨k63, gk63, hk63⟩ := wGt (cy := cy) X S F59.2.1.1 F59.2.1.2.1
      refine va_astq hx hb hK hP hD hS k63 4 k62 6 hk63 rfl hk62 rfl (inb (m := 5) F59.2.2 (by omega) (by omega)) dX4_offer_25 (fun H locs hP2 hD2 hS => ?_)
      have e9 := wPur (cy := cy) (f := (va_up (S.r (S.f o1 0)) (S.I o1 6).toNatClampNeg (some o2))) hD F59.2.1.1 F59.2.1.2.1 gk63 rfl
      obtain ⟨S64, hS64⟩ : ∃ z, S.sr (S.f o1 0) (va_up (S.r (S.f o1 0)) (S.I o1 6).toNatClampNeg (some o2)) = z := ⟨_, rfl⟩
      have hP : va_P D vwCl (X ++ PL cy S64) H := by rw [← hS64, ← e9]; exact hP2
      have hD : va_D A (X ++ PL cy S64) := by rw [← hS64, ← e9]; exact hD2
      have xe65 : ext S S64 := by rw [← hS64]; exact ext.sr _ _ _
      have t66 : stp [(4, 6), (4, 7), (24, 101)] [] [] S S64 := by rw [← hS64]; exact t0.r F59.2.1 (by decide) h_o2 (Or.inr (Or.inr (Or.inr (Or.inr ⟨rfl, rfl⟩)))) List.not_mem_nil (by decide)
      have k67 : (S64.I o1 6).toInt = (S.I o1 6).toInt := by rw [← hS64]; rfl
      have k68 : (S64.I o1 7).toInt = (S.I o1 7).toInt := by rw [← hS64]; rfl
      have g69 : S64.r (S.f o1 0) (S.I o1 6).toNatClampNeg = some o2 := by rw [← hS64]; exact sr_eq
      refine lv_aload_n hx hb dX4_offer_26 rfl (lv_at hl 0 rfl) ?_
      refine lv_dup hx hb dX4_offer_27 rfl ?_
      obtain ⟨k70, gk70, hk70⟩ := wGt (cy := cy) X S64 (xe65.A h_o1).1 (xe65.A h_o1).2.1
      have i71 := ((t66.w.at (xe65.A h_o1) List.not_mem_nil).to_4 (xe65.A h_o1).2.1).R6
      refine va_get (D := D) (ci := 8) (v := .int (S64.I o1 6)) (C := RX4) (T := TX4) (N := 9) hx hb hts hi_X4_offer_X4 hown hK hP k70 hk70 rfl 6 (by decide) (hts (.fieldLink RX4 34 "Hobhouse$Matching" "firstCount" "I") (by decide +kernel)) (fun _ h9 => h9) rfl dX4_offer_28 ?_
      refine lv_iconst (v := 1) hx hb dX4_offer_31 (by decide) ?_
      refine lv_iadd hx hb dX4_offer_32 ?_
      have l32_1 : (1 : Int32).toInt = 1 := rfl
      have i72 : ((S64.I o1 6) + (1 : Int32)).toInt = (S64.I o1 6).toInt + 1 := t_addr (n := 1) rfl (by omega)
      obtain ⟨k73, gk73, hk73⟩ := wGt (cy := cy) X S64 (xe65.A h_o1).1 (xe65.A h_o1).2.1
      refine va_put (D := D) (ci := 8) (v := .int ((S64.I o1 6) + (1 : Int32))) (ty := .int) (C := RX4) (T := TX4) (N := 9) hx hb hts hi_X4_offer_X4 tyX4 tyX4_ok nmX4 hown hK hP hD hS k73 hk73 rfl 6 (by decide) (hts (.fieldLink RX4 34 "Hobhouse$Matching" "firstCount" "I") (by decide +kernel)) (fun _ h9 => h9) rfl (by decide +kernel) (rfl) (rfl) (Nat.le_of_ble_eq_true rfl) dX4_offer_33 (fun H locs hP2 hD2 hS => ?_)
      have e9 := wPuI (cy := cy) (j := 6) (v := ((S64.I o1 6) + (1 : Int32))) hD (xe65.A h_o1).1 (xe65.A h_o1).2.1 gk73 rfl
      have i74 := cl_int (i := S.I o1 6) (by omega)
      obtain ⟨S75, hS75⟩ : ∃ z, S64.sI o1 6 ((S64.I o1 6) + (1 : Int32)) = z := ⟨_, rfl⟩
      have hP : va_P D vwCl (X ++ PL cy S75) H := by rw [← hS75, ← e9]; exact hP2
      have hD : va_D A (X ++ PL cy S75) := by rw [← hS75, ← e9]; exact hD2
      have xe76 : ext S64 S75 := by rw [← hS75]; exact ext.sI _ _ _ _
      have t77 : stp [(4, 6), (4, 7), (24, 101)] [] [] S S75 := by rw [← hS75]; exact t66.I 6 ((S64.I o1 6) + (1 : Int32)) (xe65.A h_o1) (by decide) (⟨⟨by omega, by omega⟩, by rw [f_of (xe65.F h_o1 (by decide) F59.1)]; exact E_push (by have h9 := ((t66.w.at (xe65.A h_o1) List.not_mem_nil).to_4 (xe65.A h_o1).2.1).E0; rw [f_of (xe65.F h_o1 (by decide) F59.1)] at h9; exact h9) (by omega) g69 (by omega) (xe65.A h_o2)⟩) (Or.inl (by decide))
      have k78 : (S75.I o1 6).toInt = ((S64.I o1 6) + (1 : Int32)).toInt := by rw [← hS75, sI_eq]
      have k79 : (S75.I o1 7).toInt = (S64.I o1 7).toInt := by rw [← hS75]; exact congrArg Int32.toInt (sI_I (by rintro ⟨e1, e2⟩; exact absurd e2 (by decide)))
      refine lv_aload_n hx hb dX4_offer_36 rfl (lv_at hl 1 rfl) ?_
      obtain ⟨k80, gk80, hk80⟩ := wGt (cy := cy) X S75 (xe76.A (xe65.A h_o2)).1 (xe76.A (xe65.A h_o2)).2.1
      have i81 := ((t77.w.at (xe76.A (xe65.A h_o2)) List.not_mem_nil).to_2 (xe76.A (xe65.A h_o2)).2.1).R1
      refine va_get (D := D) (ci := 6) (v := .int (S75.I o2 1)) (C := RX2) (T := TX2) (N := 20) hx hb hts hi_X4_offer_X2 hown hK hP k80 hk80 rfl 1 (by decide) (hts (.fieldLink RX4 41 "Hobhouse$Gear" "teeth" "I") (by decide +kernel)) (fun _ h9 => h9) rfl dX4_offer_37 ?_
      refine lv_iload_n hx hb dX4_offer_40 rfl (lv_at hl 3 rfl) ?_
      refine lv_icmp_ne (tgt := 72) hx hb dX4_offer_41 (by decide) (fun c82 => ?_) (fun c82 => ?_)
      · have c82i : ¬ (S75.I o2 1).toInt = x2.toInt := neq_v rfl rfl c82
        refine W.widen (k := 0) (n := 0) (Nat.le_of_ble_eq_true rfl) (Nat.le_of_ble_eq_true rfl) ?_
        exact W.vret hx hb hr (fun t ht hW9 => ⟨⟨S75, rfl, t77, wd_end hP hK hD ht hW9.alike⟩, hS.F ht⟩) hS.2.2 dX4_offer_72 hlocks
      · have c82i : (S75.I o2 1).toInt = x2.toInt := eq_v rfl rfl c82
        refine lv_aload_n hx hb dX4_offer_44 rfl (lv_at hl 0 rfl) ?_
        obtain ⟨k83, gk83, hk83⟩ := wGt (cy := cy) X S75 (xe76.A (xe65.A h_o1)).1 (xe76.A (xe65.A h_o1)).2.1
        have i84 := ((t77.w.at (xe76.A (xe65.A h_o1)) List.not_mem_nil).to_4 (xe76.A (xe65.A h_o1)).2.1).R7
        refine va_get (D := D) (ci := 8) (v := .int (S75.I o1 7)) (C := RX4) (T := TX4) (N := 9) hx hb hts hi_X4_offer_X4 hown hK hP k83 hk83 rfl 7 (by decide) (hts (.fieldLink RX4 38 "Hobhouse$Matching" "secondCount" "I") (by decide +kernel)) (fun _ h9 => h9) rfl dX4_offer_45 ?_
        refine lv_iconst (v := 5) hx hb dX4_offer_48 (by decide) ?_
        refine lv_icmp_ge (tgt := 72) hx hb dX4_offer_49 (by decide) (fun c85 => ?_) (fun c85 => ?_)
        · have c85i : 5 ≤ (S75.I o1 7).toInt := le_v rfl rfl c85
          refine W.widen (k := 0) (n := 0) (Nat.le_of_ble_eq_true rfl) (Nat.le_of_ble_eq_true rfl) ?_
          exact W.vret hx hb hr (fun t ht hW9 => ⟨⟨S75, rfl, t77, wd_end hP hK hD ht hW9.alike⟩, hS.F ht⟩) hS.2.2 dX4_offer_72 hlocks
        · have c85i : (S75.I o1 7).toInt < 5 := nle_v rfl rfl c85
          refine lv_aload_n hx hb dX4_offer_52 rfl (lv_at hl 0 rfl) ?_
          have F86 := ((hW.at h_o1 List.not_mem_nil).to_4 h_o1.2.1).F1
          obtain ⟨k87, gk87, hk87⟩ := wGt (cy := cy) X S75 (xe76.A (xe65.A h_o1)).1 (xe76.A (xe65.A h_o1)).2.1
          simp only [kE, ((xe65.tr xe76).F h_o1 (by decide) F86.1)] at hk87
          refine va_get (D := D) (ci := 8) (v := .ref (S.f o1 1)) (C := RX4) (T := TX4) (N := 9) hx hb hts hi_X4_offer_X4 hown hK hP k87 hk87 rfl 1 (by decide) (hts (.fieldLink RX4 17 "Hobhouse$Matching" "seconds" "[LHobhouse$Gear;") (by decide +kernel)) (fun _ h9 => h9) rfl dX4_offer_53 ?_
          refine lv_aload_n hx hb dX4_offer_56 rfl (lv_at hl 0 rfl) ?_
          obtain ⟨k88, gk88, hk88⟩ := wGt (cy := cy) X S75 (xe76.A (xe65.A h_o1)).1 (xe76.A (xe65.A h_o1)).2.1
          refine va_get (D := D) (ci := 8) (v := .int (S75.I o1 7)) (C := RX4) (T := TX4) (N := 9) hx hb hts hi_X4_offer_X4 hown hK hP k88 hk88 rfl 7 (by decide) (hts (.fieldLink RX4 38 "Hobhouse$Matching" "secondCount" "I") (by decide +kernel)) (fun _ h9 => h9) rfl dX4_offer_57 ?_
          refine lv_aload_n hx hb dX4_offer_60 rfl (lv_at hl 1 rfl) ?_
          obtain ⟨k89, gk89, hk89⟩ := wGt (cy := cy) X S75 (xe76.A (xe65.A h_o2)).1 (xe76.A (xe65.A h_o2)).2.1
          obtain ⟨k90, gk90, hk90⟩ := wGt (cy := cy) X S75 ((xe65.tr xe76).A F86.2.1).1 ((xe65.tr xe76).A F86.2.1).2.1
          refine va_astq hx hb hK hP hD hS k90 4 k89 6 hk90 rfl hk89 rfl (inb (m := 5) (((xe65.tr xe76).n F86.2.1).trans F86.2.2) (by omega) (by omega)) dX4_offer_61 (fun H locs hP2 hD2 hS => ?_)
          have e9 := wPur (cy := cy) (f := (va_up (S75.r (S.f o1 1)) (S75.I o1 7).toNatClampNeg (some o2))) hD ((xe65.tr xe76).A F86.2.1).1 ((xe65.tr xe76).A F86.2.1).2.1 gk90 rfl
          obtain ⟨S91, hS91⟩ : ∃ z, S75.sr (S.f o1 1) (va_up (S75.r (S.f o1 1)) (S75.I o1 7).toNatClampNeg (some o2)) = z := ⟨_, rfl⟩
          have hP : va_P D vwCl (X ++ PL cy S91) H := by rw [← hS91, ← e9]; exact hP2
          have hD : va_D A (X ++ PL cy S91) := by rw [← hS91, ← e9]; exact hD2
          have xe92 : ext S75 S91 := by rw [← hS91]; exact ext.sr _ _ _
          have t93 : stp [(4, 6), (4, 7), (24, 101)] [] [] S S91 := by rw [← hS91]; exact t77.r ((xe65.tr xe76).A F86.2.1) (by decide) (xe76.A (xe65.A h_o2)) (Or.inr (Or.inr (Or.inr (Or.inr ⟨rfl, rfl⟩)))) List.not_mem_nil (by decide)
          have k94 : (S91.I o1 6).toInt = (S75.I o1 6).toInt := by rw [← hS91]; rfl
          have k95 : (S91.I o1 7).toInt = (S75.I o1 7).toInt := by rw [← hS91]; rfl
          have g96 : S91.r (S.f o1 1) (S75.I o1 7).toNatClampNeg = some o2 := by rw [← hS91]; exact sr_eq
          refine lv_aload_n hx hb dX4_offer_62 rfl (lv_at hl 0 rfl) ?_
          refine lv_dup hx hb dX4_offer_63 rfl ?_
          obtain ⟨k97, gk97, hk97⟩ := wGt (cy := cy) X S91 (xe92.A (xe76.A (xe65.A h_o1))).1 (xe92.A (xe76.A (xe65.A h_o1))).2.1
          have i98 := ((t93.w.at (xe92.A (xe76.A (xe65.A h_o1))) List.not_mem_nil).to_4 (xe92.A (xe76.A (xe65.A h_o1))).2.1).R7
          refine va_get (D := D) (ci := 8) (v := .int (S91.I o1 7)) (C := RX4) (T := TX4) (N := 9) hx hb hts hi_X4_offer_X4 hown hK hP k97 hk97 rfl 7 (by decide) (hts (.fieldLink RX4 38 "Hobhouse$Matching" "secondCount" "I") (by decide +kernel)) (fun _ h9 => h9) rfl dX4_offer_64 ?_
          refine lv_iconst (v := 1) hx hb dX4_offer_67 (by decide) ?_
          refine lv_iadd hx hb dX4_offer_68 ?_
          have i99 : ((S91.I o1 7) + (1 : Int32)).toInt = (S91.I o1 7).toInt + 1 := t_addr (n := 1) rfl (by omega)
          obtain ⟨k100, gk100, hk100⟩ := wGt (cy := cy) X S91 (xe92.A (xe76.A (xe65.A h_o1))).1 (xe92.A (xe76.A (xe65.A h_o1))).2.1
          refine va_put (D := D) (ci := 8) (v := .int ((S91.I o1 7) + (1 : Int32))) (ty := .int) (C := RX4) (T := TX4) (N := 9) hx hb hts hi_X4_offer_X4 tyX4 tyX4_ok nmX4 hown hK hP hD hS k100 hk100 rfl 7 (by decide) (hts (.fieldLink RX4 38 "Hobhouse$Matching" "secondCount" "I") (by decide +kernel)) (fun _ h9 => h9) rfl (by decide +kernel) (rfl) (rfl) (Nat.le_of_ble_eq_true rfl) dX4_offer_69 (fun H locs hP2 hD2 hS => ?_)
          have e9 := wPuI (cy := cy) (j := 7) (v := ((S91.I o1 7) + (1 : Int32))) hD (xe92.A (xe76.A (xe65.A h_o1))).1 (xe92.A (xe76.A (xe65.A h_o1))).2.1 gk100 rfl
          have i101 := cl_int (i := S75.I o1 7) (by omega)
          obtain ⟨S102, hS102⟩ : ∃ z, S91.sI o1 7 ((S91.I o1 7) + (1 : Int32)) = z := ⟨_, rfl⟩
          have hP : va_P D vwCl (X ++ PL cy S102) H := by rw [← hS102, ← e9]; exact hP2
          have hD : va_D A (X ++ PL cy S102) := by rw [← hS102, ← e9]; exact hD2
          have xe103 : ext S91 S102 := by rw [← hS102]; exact ext.sI _ _ _ _
          have t104 : stp [(4, 6), (4, 7), (24, 101)] [] [] S S102 := by rw [← hS102]; exact t93.I 7 ((S91.I o1 7) + (1 : Int32)) (xe92.A (xe76.A (xe65.A h_o1))) (by decide) (⟨⟨by omega, by omega⟩, by rw [f_of ((xe65.tr (xe76.tr xe92)).F h_o1 (by decide) F86.1)]; exact E_push (by have h9 := ((t93.w.at (xe92.A (xe76.A (xe65.A h_o1))) List.not_mem_nil).to_4 (xe92.A (xe76.A (xe65.A h_o1))).2.1).E1; rw [f_of ((xe65.tr (xe76.tr xe92)).F h_o1 (by decide) F86.1)] at h9; exact h9) (by omega) g96 (by omega) (xe92.A (xe76.A (xe65.A h_o2)))⟩) (Or.inl (by decide))
          have k105 : (S102.I o1 6).toInt = (S91.I o1 6).toInt := by rw [← hS102]; exact congrArg Int32.toInt (sI_I (by rintro ⟨e1, e2⟩; exact absurd e2 (by decide)))
          have k106 : (S102.I o1 7).toInt = ((S91.I o1 7) + (1 : Int32)).toInt := by rw [← hS102, sI_eq]
          refine W.widen (k := 0) (n := 0) (Nat.le_of_ble_eq_true rfl) (Nat.le_of_ble_eq_true rfl) ?_
          exact W.vret hx hb hr (fun t ht hW9 => ⟨⟨S102, rfl, t104, wd_end hP hK hD ht hW9.alike⟩, hS.F ht⟩) hS.2.2 dX4_offer_72 hlocks
theorem hi_X4_rollAll_X2 : ∀ w ∈ u_ws RX2 TX2 20, w ∈ wsX4_rollAll := by decide +kernel
theorem hi_X4_rollAll_X4 : ∀ w ∈ u_ws RX4 TX4 9, w ∈ wsX4_rollAll := by decide +kernel
theorem hd_X4_rollAll : yX4_rollAll.cls = RX4 ∧ yX4_rollAll.cls ≠ "java/lang/invoke/MethodHandle" ∧ yX4_rollAll.cls ≠ "java/lang/invoke/VarHandle" ∧ (parseMethodDescriptor yX4_rollAll.desc).map (fun d => d.parameters.length) = some 1 := by decide +kernel
set_option maxHeartbeats 4000000 in
set_option maxRecDepth 100000 in
theorem c_X4_rollAll (l : Launch) {D : va_G} {cy : Nat → ClassId} {X : va_W} (S : wPS) (sz : Nat) (o1 : Nat) (h_o1 : isA S o1 4) (o2 : Nat) (h_o2 : isA S o2 6) (hW : wtB S [])  : Met l yX4_rollAll wsX4_rollAll ({ frames := 3, cells := 0, slots := 0, locals := 71 }) (va_Pc [.ref o1, .ref o2] (fun U => U.heap.size = sz ∧ WD D cy X (fun _ => True) S U ∧ NW U)) (va_Qv (fun (u : wPS) => stp [(6, 4), (17, 100)] [] [] S u) (fun u t => WD D cy X (va_A (X ++ PL cy S) sz) u t) (va_A (X ++ PL cy S) sz)) 0 0 (va_A (X ++ PL cy S) sz) := by
  refine Met.ofW (cc := cX4_rollAll) (maxL := 4) (ret := none) (by decide) rfl ?_
  intro p e s m args below meth c s₁ B hml hv
  obtain ⟨rfl, hsz, ⟨hP, hK, hD0⟩, hN⟩ := hv
  have hx := B.exec
  have hb := B.bytes
  have hr := B.returns
  have hts := atoms_spec (ws := wsX4_rollAll) B.pre
  have hown : s.vm.findClass RX4 = some m.cls := findClass_of_methodNamed (x := yX4_rollAll) B.named
  have hlocks := B.notSynchronized
  subst hsz
  have hD := hD0.self (sz := s.heap.size)
  generalize hAe : va_A (X ++ PL cy S) s.heap.size = A at hD ⊢
  have hA : ∀ q : Nat, s.heap.size ≤ q → A q := fun q h => by rw [← hAe]; exact Or.inr h
  have hS : va_S A s.heap s.heap [] := va_S.rf
  have hl := lv_entry ([.ref o1, .ref o2]) (n := 4) (Nat.le_of_ble_eq_true rfl)
  rw [lg_entry_eq]
  generalize (lg_sl ([.ref o1, .ref o2]) ++ List.replicate (4 - (lg_sl ([.ref o1, .ref o2])).length) Slot.unset).toArray = ls at hl ⊢
  have hl : lv_has ls 4 [(0, .ref o1), (1, .ref o2)] := hl
  have t0 : stp [(6, 4), (17, 100)] [] [] S S := stp.rf hW
  refine lv_iconst (v := 0) hx hb dX4_rollAll_0 (by decide) ?_
  refine lv_istore_n (lv' := [(2, .int (0 : Int32)), (0, .ref o1), (1, .ref o2)]) hx hb dX4_rollAll_1 rfl hl (by decide) rfl (fun ls hl => ?_)
  have l32_0 : (0 : Int32).toInt = 0 := rfl
  have loop2 : ∀ (n : Nat) (S2_ : wPS) (w2_2 : Int32) (H : Heap) (locs : List Loc) (ls : Array Slot), (6 - w2_2.toInt).toNat < n → 0 ≤ w2_2.toInt ∧ w2_2.toInt ≤ 5 ∧ (S2_.I o1 6).toInt = (S.I o1 6).toInt ∧ (S2_.I o1 7).toInt = (S.I o1 7).toInt → stp [(6, 4), (17, 100)] [] [] S S2_ → va_P D vwCl (X ++ PL cy S2_) H → va_D A (X ++ PL cy S2_) → va_S A s.heap H locs → lv_has ls 4 [(2, .int w2_2), (0, .ref o1), (1, .ref o2)] → (∀ (S2_x : wPS) (w2_2x : Int32) (H : Heap) (locs : List Loc) (ls : Array Slot), 0 ≤ w2_2x.toInt ∧ w2_2x.toInt ≤ 5 ∧ (S2_x.I o1 6).toInt = (S.I o1 6).toInt ∧ (S2_x.I o1 7).toInt = (S.I o1 7).toInt → stp [(6, 4), (17, 100)] [] [] S S2_x → va_P D vwCl (X ++ PL cy S2_x) H → va_D A (X ++ PL cy S2_x) → va_S A s.heap H locs → lv_has ls 4 [(2, .int w2_2x), (0, .ref o1), (1, .ref o2)] → W p l e (headSpec wsX4_rollAll ({ frames := 3, cells := 0, slots := 0, locals := 71 } : Room)).room s m [.ref o1, .ref o2].toArray below meth c H locs 0 0 (MQ below (va_Qv (fun (u : wPS) => stp [(6, 4), (17, 100)] [] [] S u) (fun u t => WD D cy X A u t) A) [.ref o1, .ref o2].toArray s 0 0 A) (F0 m 101 ls [])) → W p l e (headSpec wsX4_rollAll ({ frames := 3, cells := 0, slots := 0, locals := 71 } : Room)).room s m [.ref o1, .ref o2].toArray below meth c H locs 0 0 (MQ below (va_Qv (fun (u : wPS) => stp [(6, 4), (17, 100)] [] [] S u) (fun u t => WD D cy X A u t) A) [.ref o1, .ref o2].toArray s 0 0 A) (F0 m 2 ls []) := by
    intro n2
    induction n2 with
    | zero => intro S2_ w2_2 H locs ls hm; exact absurd hm (Nat.not_lt_zero _)
    | succ n2 ih2 =>
      intro S2_ w2_2 H locs ls hm2 hi2 hsh2 hP hD hS hl ko2
      refine lv_iload_n hx hb dX4_rollAll_2 rfl (lv_at hl 0 rfl) ?_
      refine lv_aload_n hx hb dX4_rollAll_3 rfl (lv_at hl 1 rfl) ?_
      obtain ⟨k1, gk1, hk1⟩ := wGt (cy := cy) X S2_ (hsh2.x.A h_o1).1 (hsh2.x.A h_o1).2.1
      have i2 := ((hsh2.w.at (hsh2.x.A h_o1) List.not_mem_nil).to_4 (hsh2.x.A h_o1).2.1).R6
      refine va_get (D := D) (ci := 8) (v := .int (S2_.I o1 6)) (C := RX4) (T := TX4) (N := 9) hx hb hts hi_X4_rollAll_X4 hown hK hP k1 hk1 rfl 6 (by decide) (hts (.fieldLink RX4 34 "Hobhouse$Matching" "firstCount" "I") (by decide +kernel)) (fun _ h9 => h9) rfl dX4_rollAll_4 ?_
      refine lv_icmp_ge (tgt := 101) hx hb dX4_rollAll_7 (by decide) (fun c3 => ?_) (fun c3 => ?_)
      · have c3i : (S2_.I o1 6).toInt ≤ w2_2.toInt := le_v rfl rfl c3
        exact ko2 S2_ w2_2 _ _ _ (by omega) hsh2 hP hD hS (lv_sub hl [0, 1, 2] rfl)
      · have c3i : w2_2.toInt < (S2_.I o1 6).toInt := nle_v rfl rfl c3
        refine lv_iconst (v := 0) hx hb dX4_rollAll_10 (by decide) ?_
        refine lv_istore_n (lv' := [(3, .int (0 : Int32)), (2, .int w2_2), (0, .ref o1), (1, .ref o2)]) hx hb dX4_rollAll_11 rfl hl (by decide) rfl (fun ls hl => ?_)
        have loop12 : ∀ (n : Nat) (S12_ : wPS) (w12_3 : Int32) (H : Heap) (locs : List Loc) (ls : Array Slot), (6 - w12_3.toInt).toNat < n → 0 ≤ w12_3.toInt ∧ w12_3.toInt ≤ 5 ∧ (S12_.I o1 6).toInt = (S.I o1 6).toInt ∧ (S12_.I o1 7).toInt = (S.I o1 7).toInt → stp [(6, 4), (17, 100)] [] [] S2_ S12_ → va_P D vwCl (X ++ PL cy S12_) H → va_D A (X ++ PL cy S12_) → va_S A s.heap H locs → lv_has ls 4 [(3, .int w12_3), (2, .int w2_2), (0, .ref o1), (1, .ref o2)] → (∀ (S12_x : wPS) (w12_3x : Int32) (H : Heap) (locs : List Loc) (ls : Array Slot), 0 ≤ w12_3x.toInt ∧ w12_3x.toInt ≤ 5 ∧ (S12_x.I o1 6).toInt = (S.I o1 6).toInt ∧ (S12_x.I o1 7).toInt = (S.I o1 7).toInt → stp [(6, 4), (17, 100)] [] [] S2_ S12_x → va_P D vwCl (X ++ PL cy S12_x) H → va_D A (X ++ PL cy S12_x) → va_S A s.heap H locs → lv_has ls 4 [(3, .int w12_3x), (2, .int w2_2), (0, .ref o1), (1, .ref o2)] → W p l e (headSpec wsX4_rollAll ({ frames := 3, cells := 0, slots := 0, locals := 71 } : Room)).room s m [.ref o1, .ref o2].toArray below meth c H locs 0 0 (MQ below (va_Qv (fun (u : wPS) => stp [(6, 4), (17, 100)] [] [] S u) (fun u t => WD D cy X A u t) A) [.ref o1, .ref o2].toArray s 0 0 A) (F0 m 95 ls [])) → W p l e (headSpec wsX4_rollAll ({ frames := 3, cells := 0, slots := 0, locals := 71 } : Room)).room s m [.ref o1, .ref o2].toArray below meth c H locs 0 0 (MQ below (va_Qv (fun (u : wPS) => stp [(6, 4), (17, 100)] [] [] S u) (fun u t => WD D cy X A u t) A) [.ref o1, .ref o2].toArray s 0 0 A) (F0 m 12 ls []) := by
          intro n12
          induction n12 with
          | zero => intro S12_ w12_3 H locs ls hm; exact absurd hm (Nat.not_lt_zero _)
          | succ n12 ih12 =>
            intro S12_ w12_3 H locs ls hm12 hi12 hsh12 hP hD hS hl ko12
            refine lv_iload_n hx hb dX4_rollAll_12 rfl (lv_at hl 0 rfl) ?_
            refine lv_aload_n hx hb dX4_rollAll_13 rfl (lv_at hl 2 rfl) ?_
            obtain ⟨k4, gk4, hk4⟩ := wGt (cy := cy) X S12_ (hsh12.x.A (hsh2.x.A h_o1)).1 (hsh12.x.A (hsh2.x.A h_o1)).2.1
            have i5 := ((hsh12.w.at (hsh12.x.A (hsh2.x.A h_o1)) List.not_mem_nil).to_4 (hsh12.x.A (hsh2.x.A h_o1)).2.1).R7
            refine va_get (D := D) (ci := 8) (v := .int (S12_.I o1 7)) (C := RX4) (T := TX4) (N := 9) hx hb hts hi_X4_rollAll_X4 hown hK hP k4 hk4 rfl 7 (by decide) (hts (.fieldLink RX4 38 "Hobhouse$Matching" "secondCount" "I") (by decide +kernel)) (fun _ h9 => h9) rfl dX4_rollAll_14 ?_
            refine lv_icmp_ge (tgt := 95) hx hb dX4_rollAll_17 (by decide) (fun c6 => ?_) (fun c6 => ?_)
            · have c6i : (S12_.I o1 7).toInt ≤ w12_3.toInt := le_v rfl rfl c6
              exact ko12 S12_ w12_3 _ _ _ (by omega) hsh12 hP hD hS (lv_sub hl [0, 1, 2, 3] rfl)
            · have c6i : w12_3.toInt < (S12_.I o1 7).toInt := nle_v rfl rfl c6
              refine lv_aload_n hx hb dX4_rollAll_20 rfl (lv_at hl 2 rfl) ?_
              have F7 := ((hW.at h_o1 List.not_mem_nil).to_4 h_o1.2.1).F2
              obtain ⟨k8, gk8, hk8⟩ := wGt (cy := cy) X S12_ (hsh12.x.A (hsh2.x.A h_o1)).1 (hsh12.x.A (hsh2.x.A h_o1)).2.1
              simp only [kE, ((hsh2.x.tr hsh12.x).F h_o1 (by decide) F7.1)] at hk8
              refine va_get (D := D) (ci := 8) (v := .ref (S.f o1 2)) (C := RX4) (T := TX4) (N := 9) hx hb hts hi_X4_rollAll_X4 hown hK hP k8 hk8 rfl 2 (by decide) (hts (.fieldLink RX4 20 "Hobhouse$Matching" "peaks" "[I") (by decide +kernel)) (fun _ h9 => h9) rfl dX4_rollAll_21 ?_
              refine lv_iload_n hx hb dX4_rollAll_24 rfl (lv_at hl 1 rfl) ?_
              refine lv_iconst (v := 5) hx hb dX4_rollAll_25 (by decide) ?_
              refine lv_imul hx hb dX4_rollAll_26 ?_
              refine lv_iload_n hx hb dX4_rollAll_27 rfl (lv_at hl 0 rfl) ?_
              refine lv_iadd hx hb dX4_rollAll_28 ?_
              refine lv_iconst (v := -1) hx hb dX4_rollAll_29 (by decide) ?_
              have l32_5 : (5 : Int32).toInt = 5 := rfl
              have i9 : (w2_2 * (5 : Int32)).toInt = w2_2.toInt * 5 := t_mulr rfl (by omega)
              have i10 : ((w2_2 * (5 : Int32)) + w12_3).toInt = (w2_2 * (5 : Int32)).toInt + w12_3.toInt := t_add (by omega)
              obtain ⟨k11, gk11, hk11⟩ := wGt (cy := cy) X S12_ ((hsh2.x.tr hsh12.x).A F7.2.1).1 ((hsh2.x.tr hsh12.x).A F7.2.1).2.1
              refine va_iast hx hb hK hP hD hS k11 2 hk11 rfl (inb (m := 25) (((hsh2.x.tr hsh12.x).n F7.2.1).trans F7.2.2) (by omega) (by omega)) dX4_rollAll_30 (fun H locs hP2 hD2 hS => ?_)
              have e9 := wPui (cy := cy) (f := (upd (S12_.i (S.f o1 2)) ((w2_2 * (5 : Int32)) + w12_3).toNatClampNeg (-1 : Int32))) hD ((hsh2.x.tr hsh12.x).A F7.2.1).1 ((hsh2.x.tr hsh12.x).A F7.2.1).2.1 gk11 rfl
              obtain ⟨S12, hS12⟩ : ∃ z, S12_.si (S.f o1 2) (upd (S12_.i (S.f o1 2)) ((w2_2 * (5 : Int32)) + w12_3).toNatClampNeg (-1 : Int32)) = z := ⟨_, rfl⟩
              have hP : va_P D vwCl (X ++ PL cy S12) H := by rw [← hS12, ← e9]; exact hP2
              have hD : va_D A (X ++ PL cy S12) := by rw [← hS12, ← e9]; exact hD2
              have xe13 : ext S12_ S12 := by rw [← hS12]; exact ext.si _ _ _
              have t14 : stp [(6, 4), (17, 100)] [] [] S2_ S12 := by rw [← hS12]; exact hsh12.i (upd (S12_.i (S.f o1 2)) ((w2_2 * (5 : Int32)) + w12_3).toNatClampNeg (-1 : Int32)) ((hsh2.x.tr hsh12.x).A F7.2.1) (by decide)
              have k15 : (S12.I o1 6).toInt = (S12_.I o1 6).toInt := by rw [← hS12]; rfl
              have k16 : (S12.I o1 7).toInt = (S12_.I o1 7).toInt := by rw [← hS12]; rfl
              refine lv_aload_n hx hb dX4_rollAll_31 rfl (lv_at hl 2 rfl) ?_
              have F17 := ((hW.at h_o1 List.not_mem_nil).to_4 h_o1.2.1).F0
              obtain ⟨k18, gk18, hk18⟩ := wGt (cy := cy) X S12 (xe13.A (hsh12.x.A (hsh2.x.A h_o1))).1 (xe13.A (hsh12.x.A (hsh2.x.A h_o1))).2.1
              simp only [kE, ((hsh2.x.tr (hsh12.x.tr xe13)).F h_o1 (by decide) F17.1)] at hk18
              refine va_get (D := D) (ci := 8) (v := .ref (S.f o1 0)) (C := RX4) (T := TX4) (N := 9) hx hb hts hi_X4_rollAll_X4 hown hK hP k18 hk18 rfl 0 (by decide) (hts (.fieldLink RX4 11 "Hobhouse$Matching" "firsts" "[LHobhouse$Gear;") (by decide +kernel)) (fun _ h9 => h9) rfl dX4_rollAll_32 ?_
              refine lv_iload_n hx hb dX4_rollAll_35 rfl (lv_at hl 1 rfl) ?_
              obtain ⟨k19, gk19, hk19⟩ := wGt (cy := cy) X S12 ((hsh2.x.tr (hsh12.x.tr xe13)).A F17.2.1).1 ((hsh2.x.tr (hsh12.x.tr xe13)).A F17.2.1).2.1
              have i21 := cl_int (i := w2_2) (by omega)
              have g20 := elq (by have h9 := ((t14.w.at (xe13.A (hsh12.x.A (hsh2.x.A h_o1))) List.not_mem_nil).to_4 (xe13.A (hsh12.x.A (hsh2.x.A h_o1))).2.1).E0 w2_2.toNatClampNeg (by omega); rw [f_of ((hsh2.x.tr (hsh12.x.tr xe13)).F h_o1 (by decide) F17.1)] at h9; exact h9)
              refine va_aldq hx hb hK hP k19 4 hk19 rfl (inb (m := 5) (((hsh2.x.tr (hsh12.x.tr xe13)).n F17.2.1).trans F17.2.2) (by omega) (by omega)) dX4_rollAll_36 ?_
              rw [g20.1]
              refine W.eq (g2 := F0 m 37 ls [.ref (S12.q (S.f o1 0) w2_2.toNatClampNeg)]) rfl ?_
              refine lv_aload_n hx hb dX4_rollAll_37 rfl (lv_at hl 2 rfl) ?_
              have F22 := ((hW.at h_o1 List.not_mem_nil).to_4 h_o1.2.1).F1
              obtain ⟨k23, gk23, hk23⟩ := wGt (cy := cy) X S12 (xe13.A (hsh12.x.A (hsh2.x.A h_o1))).1 (xe13.A (hsh12.x.A (hsh2.x.A h_o1))).2.1
              simp only [kE, ((hsh2.x.tr (hsh12.x.tr xe13)).F h_o1 (by decide) F22.1)] at hk23
              refine va_get (D := D) (ci := 8) (v := .ref (S.f o1 1)) (C := RX4) (T := TX4) (N := 9) hx hb hts hi_X4_rollAll_X4 hown hK hP k23 hk23 rfl 1 (by decide) (hts (.fieldLink RX4 17 "Hobhouse$Matching" "seconds" "[LHobhouse$Gear;") (by decide +kernel)) (fun _ h9 => h9) rfl dX4_rollAll_38 ?_
              refine lv_iload_n hx hb dX4_rollAll_41 rfl (lv_at hl 0 rfl) ?_
              obtain ⟨k24, gk24, hk24⟩ := wGt (cy := cy) X S12 ((hsh2.x.tr (hsh12.x.tr xe13)).A F22.2.1).1 ((hsh2.x.tr (hsh12.x.tr xe13)).A F22.2.1).2.1
              have i26 := cl_int (i := w12_3) (by omega)
              have g25 := elq (by have h9 := ((t14.w.at (xe13.A (hsh12.x.A (hsh2.x.A h_o1))) List.not_mem_nil).to_4 (xe13.A (hsh12.x.A (hsh2.x.A h_o1))).2.1).E1 w12_3.toNatClampNeg (by omega); rw [f_of ((hsh2.x.tr (hsh12.x.tr xe13)).F h_o1 (by decide) F22.1)] at h9; exact h9)
              refine va_aldq hx hb hK hP k24 4 hk24 rfl (inb (m := 5) (((hsh2.x.tr (hsh12.x.tr xe13)).n F22.2.1).trans F22.2.2) (by omega) (by omega)) dX4_rollAll_42 ?_
              rw [g25.1]
              refine W.eq (g2 := F0 m 43 ls [.ref (S12.q (S.f o1 1) w12_3.toNatClampNeg), .ref (S12.q (S.f o1 0) w2_2.toNatClampNeg)]) rfl ?_
              have hFc := free_all hD hS hA
              obtain ⟨k27, gk27, hk27⟩ := wGt (cy := cy) X S12 g20.2.1 g20.2.2.1
              refine va_calli (va_runV (As := [.ref (S12.q (S.f o1 1) w12_3.toNatClampNeg)]) (rest := []) ⟨hx, hb, hml, hown, hts⟩ (c_X2_pairsWith l (cy := cy) (X := X) (D := D) S12 _ (S12.q (S.f o1 0) w2_2.toNatClampNeg) g20.2 (S12.q (S.f o1 1) w12_3.toNatClampNeg) g25.2) (cwV 1 hts gX4_rollAll_X2_pairsWith rfl rfl rfl hd_X2_pairsWith ⟨Nat.le_of_ble_eq_true rfl, Nat.le_of_ble_eq_true rfl⟩) (pV (va_recv hK hP (q := (RX2, TX2, 20)) (ci := 6) (q0 := k27) rfl hk27) hP hK hD hN) rfl rfl hl.1 rfl (lv_room (Nat.le_of_ble_eq_true rfl)) dX4_rollAll_43 ⟨(Nat.zero_le _), (Nat.zero_le _)⟩) hS (fun q _ h => hFc q h) hFc (fun r28 u t H1 locs ht hvm hw hB hz1 hk1 hS => ?_)
              have c29 := hw
              obtain ⟨hP, hD⟩ := wd_post hFc ht hB
              generalize H1 = H at hP hS ⊢
              obtain rfl : f_X2_pairsWith S12 (S12.q (S.f o1 0) w2_2.toNatClampNeg) (S12.q (S.f o1 1) w12_3.toNatClampNeg) = r28 := c29.symm
              refine lv_if_eq (tgt := 89) hx hb dX4_rollAll_46 (by decide) (fun c30 => ?_) (fun c30 => ?_)
              · have c30i : (f_X2_pairsWith S12 (S12.q (S.f o1 0) w2_2.toNatClampNeg) (S12.q (S.f o1 1) w12_3.toNatClampNeg)).toInt = 0 := eq_v rfl rfl c30
                refine lv_iinc (v := w12_3 + (1 : Int32)) (lv' := [(3, .int (w12_3 + (1 : Int32))), (2, .int w2_2), (0, .ref o1), (1, .ref o2)]) hx hb dX4_rollAll_89 hl (k := 0) rfl (by rfl) (by decide) rfl (fun ls hl => ?_)
                refine lv_goto (tgt := 12) hx hb dX4_rollAll_92 (by decide) ?_
                have l32_1 : (1 : Int32).toInt = 1 := rfl
                have i31 : (w12_3 + (1 : Int32)).toInt = w12_3.toInt + 1 := t_addr (n := 1) rfl (by omega)
                exact ih12 S12 (w12_3 + (1 : Int32)) _ _ _ (Nat.lt_of_lt_of_le (by omega) (Nat.le_of_lt_succ hm12)) (by omega) t14 hP hD hS (lv_sub hl [0, 1, 2, 3] rfl) ko12
              · have c30i : ¬ (f_X2_pairsWith S12 (S12.q (S.f o1 0) w2_2.toNatClampNeg) (S12.q (S.f o1 1) w12_3.toNatClampNeg)).toInt = 0 := neq_v rfl rfl c30
                refine lv_aload_n hx hb dX4_rollAll_49 rfl (lv_at hl 3 rfl) ?_
                refine lv_aload_n hx hb dX4_rollAll_50 rfl (lv_at hl 2 rfl) ?_
                obtain ⟨k32, gk32, hk32⟩ := wGt (cy := cy) X S12 (xe13.A (hsh12.x.A (hsh2.x.A h_o1))).1 (xe13.A (hsh12.x.A (hsh2.x.A h_o1))).2.1
                simp only [kE, ((hsh2.x.tr (hsh12.x.tr xe13)).F h_o1 (by decide) F17.1)] at hk32
                refine va_get (D := D) (ci := 8) (v := .ref (S.f o1 0)) (C := RX4) (T := TX4) (N := 9) hx hb hts hi_X4_rollAll_X4 hown hK hP k32 hk32 rfl 0 (by decide) (hts (.fieldLink RX4 11 "Hobhouse$Matching" "firsts" "[LHobhouse$Gear;") (by decide +kernel)) (fun _ h9 => h9) rfl dX4_rollAll_51 ?_
                refine lv_iload_n hx hb dX4_rollAll_54 rfl (lv_at hl 1 rfl) ?_
                obtain ⟨k33, gk33, hk33⟩ := wGt (cy := cy) X S12 ((hsh2.x.tr (hsh12.x.tr xe13)).A F17.2.1).1 ((hsh2.x.tr (hsh12.x.tr xe13)).A F17.2.1).2.1
                have i35 := cl_int (i := w2_2) (by omega)
                have g34 := elq (by have h9 := ((t14.w.at (xe13.A (hsh12.x.A (hsh2.x.A h_o1))) List.not_mem_nil).to_4 (xe13.A (hsh12.x.A (hsh2.x.A h_o1))).2.1).E0 w2_2.toNatClampNeg (by omega); rw [f_of ((hsh2.x.tr (hsh12.x.tr xe13)).F h_o1 (by decide) F17.1)] at h9; exact h9)
                refine va_aldq hx hb hK hP k33 4 hk33 rfl (inb (m := 5) (((hsh2.x.tr (hsh12.x.tr xe13)).n F17.2.1).trans F17.2.2) (by omega) (by omega)) dX4_rollAll_55 ?_
                rw [g34.1]
                refine W.eq (g2 := F0 m 56 ls [.ref (S12.q (S.f o1 0) w2_2.toNatClampNeg), .ref o2]) rfl ?_
                have F36 := ((t14.w.at g34.2 List.not_mem_nil).to_2 g34.2.2.1).F5
                obtain ⟨k37, gk37, hk37⟩ := wGt (cy := cy) X S12 g34.2.1 g34.2.2.1
                simp only [kE, F36.1] at hk37
                refine va_get (D := D) (ci := 6) (v := .ref (S12.f (S12.q (S.f o1 0) w2_2.toNatClampNeg) 5)) (C := RX2) (T := TX2) (N := 20) hx hb hts hi_X4_rollAll_X2 hown hK hP k37 hk37 rfl 5 (by decide) (hts (.fieldLink RX4 48 "Hobhouse$Gear" "chart" "LHobhouse$Chart;") (by decide +kernel)) (fun _ h9 => h9) rfl dX4_rollAll_56 ?_
                refine lv_aload_n hx hb dX4_rollAll_59 rfl (lv_at hl 2 rfl) ?_
                obtain ⟨k38, gk38, hk38⟩ := wGt (cy := cy) X S12 (xe13.A (hsh12.x.A (hsh2.x.A h_o1))).1 (xe13.A (hsh12.x.A (hsh2.x.A h_o1))).2.1
                simp only [kE, ((hsh2.x.tr (hsh12.x.tr xe13)).F h_o1 (by decide) F22.1)] at hk38
                refine va_get (D := D) (ci := 8) (v := .ref (S.f o1 1)) (C := RX4) (T := TX4) (N := 9) hx hb hts hi_X4_rollAll_X4 hown hK hP k38 hk38 rfl 1 (by decide) (hts (.fieldLink RX4 17 "Hobhouse$Matching" "seconds" "[LHobhouse$Gear;") (by decide +kernel)) (fun _ h9 => h9) rfl dX4_rollAll_60 ?_
                refine lv_iload_n hx hb dX4_rollAll_63 rfl (lv_at hl 0 rfl) ?_
                obtain ⟨k39, gk39, hk39⟩ := wGt (cy := cy) X S12 ((hsh2.x.tr (hsh12.x.tr xe13)).A F22.2.1).1 ((hsh2.x.tr (hsh12.x.tr xe13)).A F22.2.1).2.1
                have i41 := cl_int (i := w12_3) (by omega)
                have g40 := elq (by have h9 := ((t14.w.at (xe13.A (hsh12.x.A (hsh2.x.A h_o1))) List.not_mem_nil).to_4 (xe13.A (hsh12.x.A (hsh2.x.A h_o1))).2.1).E1 w12_3.toNatClampNeg (by omega); rw [f_of ((hsh2.x.tr (hsh12.x.tr xe13)).F h_o1 (by decide) F22.1)] at h9; exact h9)
                refine va_aldq hx hb hK hP k39 4 hk39 rfl (inb (m := 5) (((hsh2.x.tr (hsh12.x.tr xe13)).n F22.2.1).trans F22.2.2) (by omega) (by omega)) dX4_rollAll_64 ?_
                rw [g40.1]
                refine W.eq (g2 := F0 m 65 ls [.ref (S12.q (S.f o1 1) w12_3.toNatClampNeg), .ref (S12.f (S12.q (S.f o1 0) w2_2.toNatClampNeg) 5), .ref o2]) rfl ?_
                have F42 := ((t14.w.at g40.2 List.not_mem_nil).to_2 g40.2.2.1).F5
                obtain ⟨k43, gk43, hk43⟩ := wGt (cy := cy) X S12 g40.2.1 g40.2.2.1
                simp only [kE, F42.1] at hk43
                refine va_get (D := D) (ci := 6) (v := .ref (S12.f (S12.q (S.f o1 1) w12_3.toNatClampNeg) 5)) (C := RX2) (T := TX2) (N := 20) hx hb hts hi_X4_rollAll_X2 hown hK hP k43 hk43 rfl 5 (by decide) (hts (.fieldLink RX4 48 "Hobhouse$Gear" "chart" "LHobhouse$Chart;") (by decide +kernel)) (fun _ h9 => h9) rfl dX4_rollAll_65 ?_
                have hFc := free_all hD hS hA
                obtain ⟨k44, gk44, hk44⟩ := wGt (cy := cy) X S12 ((hsh2.x.tr (hsh12.x.tr xe13)).A h_o2).1 ((hsh2.x.tr (hsh12.x.tr xe13)).A h_o2).2.1
                refine va_callv (va_runV (As := [.ref (S12.f (S12.q (S.f o1 0) w2_2.toNatClampNeg) 5), .ref (S12.f (S12.q (S.f o1 1) w12_3.toNatClampNeg) 5)]) (rest := []) ⟨hx, hb, hml, hown, hts⟩ (c_X6_take l (cy := cy) (X := X) (D := D) S12 _ o2 ((hsh2.x.tr (hsh12.x.tr xe13)).A h_o2) (S12.f (S12.q (S.f o1 0) w2_2.toNatClampNeg) 5) F36.2 (S12.f (S12.q (S.f o1 1) w12_3.toNatClampNeg) 5) F42.2 (t14.w)) (cwV 2 hts gX4_rollAll_X6_take rfl rfl rfl hd_X6_take ⟨Nat.le_of_ble_eq_true rfl, Nat.le_of_ble_eq_true rfl⟩) (pV (va_recv hK hP (q := (RX6, TX6, 5)) (ci := 10) (q0 := k44) rfl hk44) hP hK hD hN) rfl rfl hl.1 rfl (lv_room (Nat.le_of_ble_eq_true rfl)) dX4_rollAll_68 ⟨(Nat.zero_le _), (Nat.zero_le _)⟩) hS (fun q _ h => hFc q h) hFc (fun u t H1 locs ht hvm hw hB hz1 hk1 hS => ?_)
                have w46 := hw
                obtain ⟨hP, hD⟩ := wd_post hFc ht hB
                generalize H1 = H at hP hS ⊢
                obtain ⟨S47, rfl⟩ : ∃ z, z = u := ⟨_, rfl⟩
                have t48 : stp [(6, 4), (17, 100)] [] [] S2_ S47 := t14.tr w46 (by decide) (fun _ q => absurd q List.not_mem_nil)
                have xe49 : ext S12 S47 := w46.x
                have k50 : (S47.I o1 6).toInt = (S12.I o1 6).toInt := by rw [(w46.fR o1 ((hsh2.x.tr (hsh12.x.tr xe13)).A h_o1).1 List.not_mem_nil).1 6 (by rw [((hsh2.x.tr (hsh12.x.tr xe13)).A h_o1).2.1]; decide) |>.1]
                have k51 : (S47.I o1 7).toInt = (S12.I o1 7).toInt := by rw [(w46.fR o1 ((hsh2.x.tr (hsh12.x.tr xe13)).A h_o1).1 List.not_mem_nil).1 7 (by rw [((hsh2.x.tr (hsh12.x.tr xe13)).A h_o1).2.1]; decide) |>.1]
                refine lv_aload_n hx hb dX4_rollAll_71 rfl (lv_at hl 2 rfl) ?_
                obtain ⟨k52, gk52, hk52⟩ := wGt (cy := cy) X S47 (xe49.A (xe13.A (hsh12.x.A (hsh2.x.A h_o1)))).1 (xe49.A (xe13.A (hsh12.x.A (hsh2.x.A h_o1)))).2.1
                simp only [kE, ((hsh2.x.tr (hsh12.x.tr (xe13.tr xe49))).F h_o1 (by decide) F7.1)] at hk52
                refine va_get (D := D) (ci := 8) (v := .ref (S.f o1 2)) (C := RX4) (T := TX4) (N := 9) hx hb hts hi_X4_rollAll_X4 hown hK hP k52 hk52 rfl 2 (by decide) (hts (.fieldLink RX4 20 "Hobhouse$Matching" "peaks" "[I") (by decide +kernel)) (fun _ h9 => h9) rfl dX4_rollAll_72 ?_
                refine lv_iload_n hx hb dX4_rollAll_75 rfl (lv_at hl 1 rfl) ?_
                refine lv_iconst (v := 5) hx hb dX4_rollAll_76 (by decide) ?_
                refine lv_imul hx hb dX4_rollAll_77 ?_
                refine lv_iload_n hx hb dX4_rollAll_78 rfl (lv_at hl 0 rfl) ?_
                refine lv_iadd hx hb dX4_rollAll_79 ?_
                refine lv_aload_n hx hb dX4_rollAll_80 rfl (lv_at hl 3 rfl) ?_
                refine lv_aload_n hx hb dX4_rollAll_81 rfl (lv_at hl 3 rfl) ?_
                have hFc := free_all hD hS hA
                obtain ⟨k53, gk53, hk53⟩ := wGt (cy := cy) X S47 (xe49.A ((hsh2.x.tr (hsh12.x.tr xe13)).A h_o2)).1 (xe49.A ((hsh2.x.tr (hsh12.x.tr xe13)).A h_o2)).2.1
                refine va_calli (va_runV (As := []) (rest := [.ref o2, .int ((w2_2 * (5 : Int32)) + w12_3), .ref (S.f o1 2)]) ⟨hx, hb, hml, hown, hts⟩ (c_X6_quietStart l (cy := cy) (X := X) (D := D) S47 _ o2 (xe49.A ((hsh2.x.tr (hsh12.x.tr xe13)).A h_o2)) (t48.w)) (cwV 0 hts gX4_rollAll_X6_quietStart rfl rfl rfl hd_X6_quietStart ⟨Nat.le_of_ble_eq_true rfl, Nat.le_of_ble_eq_true rfl⟩) (pV (va_recv hK hP (q := (RX6, TX6, 5)) (ci := 10) (q0 := k53) rfl hk53) hP hK hD hN) rfl rfl hl.1 rfl (lv_room (Nat.le_of_ble_eq_true rfl)) dX4_rollAll_82 ⟨(Nat.zero_le _), (Nat.zero_le _)⟩) hS (fun q _ h => hFc q h) hFc (fun r54 u t H1 locs ht hvm hw hB hz1 hk1 hS => ?_)
                have c55 := hw
                obtain ⟨hP, hD⟩ := wd_post hFc ht hB
                generalize H1 = H at hP hS ⊢
                obtain rfl : f_X6_quietStart S47 o2 = r54 := c55.symm
                have hFc := free_all hD hS hA
                obtain ⟨k56, gk56, hk56⟩ := wGt (cy := cy) X S47 (xe49.A ((hsh2.x.tr (hsh12.x.tr xe13)).A h_o2)).1 (xe49.A ((hsh2.x.tr (hsh12.x.tr xe13)).A h_o2)).2.1
                refine va_calli (va_runV (As := [.int (f_X6_quietStart S47 o2)]) (rest := [.int ((w2_2 * (5 : Int32)) + w12_3), .ref (S.f o1 2)]) ⟨hx, hb, hml, hown, hts⟩ (c_X6_peakFrom l (cy := cy) (X := X) (D := D) S47 _ o2 (xe49.A ((hsh2.x.tr (hsh12.x.tr xe13)).A h_o2)) (f_X6_quietStart S47 o2) (t48.w)) (cwV 1 hts gX4_rollAll_X6_peakFrom rfl rfl rfl hd_X6_peakFrom ⟨Nat.le_of_ble_eq_true rfl, Nat.le_of_ble_eq_true rfl⟩) (pV (va_recv hK hP (q := (RX6, TX6, 5)) (ci := 10) (q0 := k56) rfl hk56) hP hK hD hN) rfl rfl hl.1 rfl (lv_room (Nat.le_of_ble_eq_true rfl)) dX4_rollAll_85 ⟨(Nat.zero_le _), (Nat.zero_le _)⟩) hS (fun q _ h => hFc q h) hFc (fun r57 u t H1 locs ht hvm hw hB hz1 hk1 hS => ?_)
                have c58 := hw
                obtain ⟨hP, hD⟩ := wd_post hFc ht hB
                generalize H1 = H at hP hS ⊢
                obtain rfl : f_X6_peakFrom S47 o2 (f_X6_quietStart S47 o2) = r57 := c58.symm
                obtain ⟨k59, gk59, hk59⟩ := wGt (cy := cy) X S47 ((xe13.tr xe49).A ((hsh2.x.tr hsh12.x).A F7.2.1)).1 ((xe13.tr xe49).A ((hsh2.x.tr hsh12.x).A F7.2.1)).2.1
                refine va_iast hx hb hK hP hD hS k59 2 hk59 rfl (inb (m := 25) (((hsh2.x.tr (hsh12.x.tr (xe13.tr xe49))).n F7.2.1).trans F7.2.2) (by omega) (by omega)) dX4_rollAll_88 (fun H locs hP2 hD2 hS => ?_)
                have e9 := wPui (cy := cy) (f := (upd (S47.i (S.f o1 2)) ((w2_2 * (5 : Int32)) + w12_3).toNatClampNeg (f_X6_peakFrom S47 o2 (f_X6_quietStart S47 o2)))) hD ((xe13.tr xe49).A ((hsh2.x.tr hsh12.x).A F7.2.1)).1 ((xe13.tr xe49).A ((hsh2.x.tr hsh12.x).A F7.2.1)).2.1 gk59 rfl
                obtain ⟨S60, hS60⟩ : ∃ z, S47.si (S.f o1 2) (upd (S47.i (S.f o1 2)) ((w2_2 * (5 : Int32)) + w12_3).toNatClampNeg (f_X6_peakFrom S47 o2 (f_X6_quietStart S47 o2))) = z := ⟨_, rfl⟩
                have hP : va_P D vwCl (X ++ PL cy S60) H := by rw [← hS60, ← e9]; exact hP2
                have hD : va_D A (X ++ PL cy S60) := by rw [← hS60, ← e9]; exact hD2
                have xe61 : ext S47 S60 := by rw [← hS60]; exact ext.si _ _ _
                have t62 : stp [(6, 4), (17, 100)] [] [] S2_ S60 := by rw [← hS60]; exact t48.i (upd (S47.i (S.f o1 2)) ((w2_2 * (5 : Int32)) + w12_3).toNatClampNeg (f_X6_peakFrom S47 o2 (f_X6_quietStart S47 o2))) ((xe13.tr xe49).A ((hsh2.x.tr hsh12.x).A F7.2.1)) (by decide)
                have k63 : (S60.I o1 6).toInt = (S47.I o1 6).toInt := by rw [← hS60]; rfl
                have k64 : (S60.I o1 7).toInt = (S47.I o1 7).toInt := by rw [← hS60]; rfl
                refine lv_iinc (v := w12_3 + (1 : Int32)) (lv' := [(3, .int (w12_3 + (1 : Int32))), (2, .int w2_2), (0, .ref o1), (1, .ref o2)]) hx hb dX4_rollAll_89 hl (k := 0) rfl (by rfl) (by decide) rfl (fun ls hl => ?_)
                refine lv_goto (tgt := 12) hx hb dX4_rollAll_92 (by decide) ?_
                have l32_1 : (1 : Int32).toInt = 1 := rfl
                have i65 : (w12_3 + (1 : Int32)).toInt = w12_3.toInt + 1 := t_addr (n := 1) rfl (by omega)
                exact ih12 S60 (w12_3 + (1 : Int32)) _ _ _ (Nat.lt_of_lt_of_le (by omega) (Nat.le_of_lt_succ hm12)) (by omega) t62 hP hD hS (lv_sub hl [0, 1, 2, 3] rfl) ko12
        refine loop12 7 S2_ (0 : Int32) _ _ _ (by omega) (by omega) (stp.rf hsh2.w) hP hD hS (lv_sub hl [0, 1, 2, 3] rfl) (fun S67 z68 H locs ls hi12 hsh12 hP hD hS hl => ?_)
        have t69 : stp [(6, 4), (17, 100)] [] [] S S67 := hsh2.tr hsh12 (fun _ q => q) (fun _ q => Or.inl q)
        have et69 := hsh12.x
        refine lv_iinc (v := w2_2 + (1 : Int32)) (lv' := [(2, .int (w2_2 + (1 : Int32))), (3, .int z68), (0, .ref o1), (1, .ref o2)]) hx hb dX4_rollAll_95 hl (k := 1) rfl (by rfl) (by decide) rfl (fun ls hl => ?_)
        refine lv_goto (tgt := 2) hx hb dX4_rollAll_98 (by decide) ?_
        have l32_1 : (1 : Int32).toInt = 1 := rfl
        have i70 : (w2_2 + (1 : Int32)).toInt = w2_2.toInt + 1 := t_addr (n := 1) rfl (by omega)
        exact ih2 S67 (w2_2 + (1 : Int32)) _ _ _ (Nat.lt_of_lt_of_le (by omega) (Nat.le_of_lt_succ hm2)) (by omega) t69 hP hD hS (lv_sub hl [0, 2, 3] rfl) ko2
  refine loop2 7 S (0 : Int32) _ _ _ (by omega) (by omega) (stp.rf hW) hP hD hS (lv_sub hl [0, 1, 2] rfl) (fun S72 z73 H locs ls hi2 hsh2 hP hD hS hl => ?_)
  have t74 : stp [(6, 4), (17, 100)] [] [] S S72 := t0.tr hsh2 (fun _ q => q) (fun _ q => Or.inl q)
  have et74 := hsh2.x
  refine W.widen (k := 0) (n := 0) (Nat.le_of_ble_eq_true rfl) (Nat.le_of_ble_eq_true rfl) ?_
  exact W.vret hx hb hr (fun t ht hW9 => ⟨⟨S72, rfl, t74, wd_end hP hK hD ht hW9.alike⟩, hS.F ht⟩) hS.2.2 dX4_rollAll_101 hlocks
theorem hi_X4_keepIfLess_X4 : ∀ w ∈ u_ws RX4 TX4 9, w ∈ wsX4_keepIfLess := by decide +kernel
theorem hd_X4_keepIfLess : yX4_keepIfLess.cls = RX4 ∧ yX4_keepIfLess.cls ≠ "java/lang/invoke/MethodHandle" ∧ yX4_keepIfLess.cls ≠ "java/lang/invoke/VarHandle" ∧ (parseMethodDescriptor yX4_keepIfLess.desc).map (fun d => d.parameters.length) = some 1 := by decide +kernel
set_option maxHeartbeats 4000000 in
set_option maxRecDepth 100000 in
theorem c_X4_keepIfLess (l : Launch) {D : va_G} {cy : Nat → ClassId} {X : va_W} (S : wPS) (sz : Nat) (o1 : Nat) (h_o1 : isA S o1 4) (x1 : Int32) (hW : wtB S [])  : Met l yX4_keepIfLess wsX4_keepIfLess ({ frames := 1, cells := 0, slots := 0, locals := 40 }) (va_Pc [.ref o1, .int x1] (fun U => U.heap.size = sz ∧ WD D cy X (fun _ => True) S U ∧ NW U)) (va_Qv (fun (u : wPS) => stp [(4, 8), (17, 100)] [] [] S u) (fun u t => WD D cy X (va_A (X ++ PL cy S) sz) u t) (va_A (X ++ PL cy S) sz)) 0 0 (va_A (X ++ PL cy S) sz) := by
  refine Met.ofW (cc := cX4_keepIfLess) (maxL := 2) (ret := none) (by decide) rfl ?_
  intro p e s m args below meth c s₁ B hml hv
  obtain ⟨rfl, hsz, ⟨hP, hK, hD0⟩, hN⟩ := hv
  have hx := B.exec
  have hb := B.bytes
  have hr := B.returns
  have hts := atoms_spec (ws := wsX4_keepIfLess) B.pre
  have hown : s.vm.findClass RX4 = some m.cls := findClass_of_methodNamed (x := yX4_keepIfLess) B.named
  have hlocks := B.notSynchronized
  subst hsz
  have hD := hD0.self (sz := s.heap.size)
  generalize hAe : va_A (X ++ PL cy S) s.heap.size = A at hD ⊢
  have hA : ∀ q : Nat, s.heap.size ≤ q → A q := fun q h => by rw [← hAe]; exact Or.inr h
  have hS : va_S A s.heap s.heap [] := va_S.rf
  have hl := lv_entry ([.ref o1, .int x1]) (n := 2) (Nat.le_of_ble_eq_true rfl)
  rw [lg_entry_eq]
  generalize (lg_sl ([.ref o1, .int x1]) ++ List.replicate (2 - (lg_sl ([.ref o1, .int x1])).length) Slot.unset).toArray = ls at hl ⊢
  have hl : lv_has ls 2 [(0, .ref o1), (1, .int x1)] := hl
  have t0 : stp [(4, 8), (17, 100)] [] [] S S := stp.rf hW
  refine lv_iload_n hx hb dX4_keepIfLess_0 rfl (lv_at hl 1 rfl) ?_
  refine lv_aload_n hx hb dX4_keepIfLess_1 rfl (lv_at hl 0 rfl) ?_
  obtain ⟨k1, gk1, hk1⟩ := wGt (cy := cy) X S h_o1.1 h_o1.2.1
  refine va_get (D := D) (ci := 8) (v := .int (S.I o1 8)) (C := RX4) (T := TX4) (N := 9) hx hb hts hi_X4_keepIfLess_X4 hown hK hP k1 hk1 rfl 8 (by decide) (hts (.fieldLink RX4 67 "Hobhouse$Matching" "leastSum" "I") (by decide +kernel)) (fun _ h9 => h9) rfl dX4_keepIfLess_2 ?_
  refine lv_icmp_ge (tgt := 27) hx hb dX4_keepIfLess_5 (by decide) (fun c2 => ?_) (fun c2 => ?_)
  · have c2i : (S.I o1 8).toInt ≤ x1.toInt := le_v rfl rfl c2
    refine W.widen (k := 0) (n := 0) (Nat.le_of_ble_eq_true rfl) (Nat.le_of_ble_eq_true rfl) ?_
    exact W.vret hx hb hr (fun t ht hW9 => ⟨⟨S, rfl, t0, wd_end hP hK hD ht hW9.alike⟩, hS.F ht⟩) hS.2.2 dX4_keepIfLess_27 hlocks
  · have c2i : x1.toInt < (S.I o1 8).toInt := nle_v rfl rfl c2
    refine lv_aload_n hx hb dX4_keepIfLess_8 rfl (lv_at hl 0 rfl) ?_
    refine lv_iload_n hx hb dX4_keepIfLess_9 rfl (lv_at hl 1 rfl) ?_
    obtain ⟨k3, gk3, hk3⟩ := wGt (cy := cy) X S h_o1.1 h_o1.2.1
    refine va_put (D := D) (ci := 8) (v := .int x1) (ty := .int) (C := RX4) (T := TX4) (N := 9) hx hb hts hi_X4_keepIfLess_X4 tyX4 tyX4_ok nmX4 hown hK hP hD hS k3 hk3 rfl 8 (by decide) (hts (.fieldLink RX4 67 "Hobhouse$Matching" "leastSum" "I") (by decide +kernel)) (fun _ h9 => h9) rfl (by decide +kernel) (rfl) (rfl) (Nat.le_of_ble_eq_true rfl) dX4_keepIfLess_10 (fun H locs hP2 hD2 hS => ?_)
    have e9 := wPuI (cy := cy) (j := 8) (v := x1) hD h_o1.1 h_o1.2.1 gk3 rfl
    obtain ⟨S4, hS4⟩ : ∃ z, S.sI o1 8 x1 = z := ⟨_, rfl⟩
    have hP : va_P D vwCl (X ++ PL cy S4) H := by rw [← hS4, ← e9]; exact hP2
    have hD : va_D A (X ++ PL cy S4) := by rw [← hS4, ← e9]; exact hD2
    have xe5 : ext S S4 := by rw [← hS4]; exact ext.sI _ _ _ _
    have t6 : stp [(4, 8), (17, 100)] [] [] S S4 := by rw [← hS4]; exact t0.I 8 x1 h_o1 (by decide) (trivial) (Or.inl (by decide))
    refine lv_aload_n hx hb dX4_keepIfLess_13 rfl (lv_at hl 0 rfl) ?_
    have F7 := ((hW.at h_o1 List.not_mem_nil).to_4 h_o1.2.1).F4
    obtain ⟨k8, gk8, hk8⟩ := wGt (cy := cy) X S4 (xe5.A h_o1).1 (xe5.A h_o1).2.1
    simp only [kE, (xe5.F h_o1 (by decide) F7.1)] at hk8
    refine va_get (D := D) (ci := 8) (v := .ref (S.f o1 4)) (C := RX4) (T := TX4) (N := 9) hx hb hts hi_X4_keepIfLess_X4 hown hK hP k8 hk8 rfl 4 (by decide) (hts (.fieldLink RX4 28 "Hobhouse$Matching" "partners" "[I") (by decide +kernel)) (fun _ h9 => h9) rfl dX4_keepIfLess_14 ?_
    refine lv_iconst (v := 0) hx hb dX4_keepIfLess_17 (by decide) ?_
    refine lv_aload_n hx hb dX4_keepIfLess_18 rfl (lv_at hl 0 rfl) ?_
    have F9 := ((hW.at h_o1 List.not_mem_nil).to_4 h_o1.2.1).F5
    obtain ⟨k10, gk10, hk10⟩ := wGt (cy := cy) X S4 (xe5.A h_o1).1 (xe5.A h_o1).2.1
    simp only [kE, (xe5.F h_o1 (by decide) F9.1)] at hk10
    refine va_get (D := D) (ci := 8) (v := .ref (S.f o1 5)) (C := RX4) (T := TX4) (N := 9) hx hb hts hi_X4_keepIfLess_X4 hown hK hP k10 hk10 rfl 5 (by decide) (hts (.fieldLink RX4 31 "Hobhouse$Matching" "bestPartners" "[I") (by decide +kernel)) (fun _ h9 => h9) rfl dX4_keepIfLess_19 ?_
    refine lv_iconst (v := 0) hx hb dX4_keepIfLess_22 (by decide) ?_
    refine lv_iconst (v := 5) hx hb dX4_keepIfLess_23 (by decide) ?_
    obtain ⟨k11, gk11, hk11⟩ := wGt (cy := cy) X S4 (xe5.A F7.2.1).1 (xe5.A F7.2.1).2.1
    obtain ⟨k12, gk12, hk12⟩ := wGt (cy := cy) X S4 (xe5.A F9.2.1).1 (xe5.A F9.2.1).2.1
    refine va_copyi hx hb (hml.trans hl.1.symm) hown (hts (.methodLink RX4 78 arraycopyName) (by decide +kernel)) (hts (.native arraycopyName) (by decide +kernel)) (hts (.static arraycopyName) (by decide +kernel)) (hts (.initialized "java/lang/System") (by decide +kernel)) hK hP hD hS k11 k12 2 2 hk11 hk12 rfl rfl rfl (by decide) (by decide) (by decide) (by rw [((xe5.n F7.2.1).trans F7.2.2)]; decide) (by rw [((xe5.n F9.2.1).trans F9.2.2)]; decide) (fun _ _ => rfl) (Nat.le_of_ble_eq_true rfl) (Nat.le_of_ble_eq_true rfl) dX4_keepIfLess_24 (fun H locs hP2 hD2 hS => ?_)
    have e9 := wPui (cy := cy) (f := (va_cpy (S4.i (S.f o1 4)) (S4.i (S.f o1 5)) (0 : Int32).toNatClampNeg (0 : Int32).toNatClampNeg (5 : Int32).toNatClampNeg)) hD (xe5.A F9.2.1).1 (xe5.A F9.2.1).2.1 gk12 rfl
    obtain ⟨S13, hS13⟩ : ∃ z, S4.si (S.f o1 5) (va_cpy (S4.i (S.f o1 4)) (S4.i (S.f o1 5)) (0 : Int32).toNatClampNeg (0 : Int32).toNatClampNeg (5 : Int32).toNatClampNeg) = z := ⟨_, rfl⟩
    have hP : va_P D vwCl (X ++ PL cy S13) H := by rw [← hS13, ← e9]; exact hP2
    have hD : va_D A (X ++ PL cy S13) := by rw [← hS13, ← e9]; exact hD2
    have xe14 : ext S4 S13 := by rw [← hS13]; exact ext.si _ _ _
    have t15 : stp [(4, 8), (17, 100)] [] [] S S13 := by rw [← hS13]; exact t6.i (va_cpy (S4.i (S.f o1 4)) (S4.i (S.f o1 5)) (0 : Int32).toNatClampNeg (0 : Int32).toNatClampNeg (5 : Int32).toNatClampNeg) (xe5.A F9.2.1) (by decide)
    refine W.widen (k := 0) (n := 0) (Nat.le_of_ble_eq_true rfl) (Nat.le_of_ble_eq_true rfl) ?_
    exact W.vret hx hb hr (fun t ht hW9 => ⟨⟨S13, rfl, t15, wd_end hP hK hD ht hW9.alike⟩, hS.F ht⟩) hS.2.2 dX4_keepIfLess_27 hlocks
theorem hi_X4_choose_X4 : ∀ w ∈ u_ws RX4 TX4 9, w ∈ wsX4_choose := by decide +kernel
theorem hd_X4_choose : yX4_choose.cls = RX4 ∧ yX4_choose.cls ≠ "java/lang/invoke/MethodHandle" ∧ yX4_choose.cls ≠ "java/lang/invoke/VarHandle" ∧ (parseMethodDescriptor yX4_choose.desc).map (fun d => d.parameters.length) = some 4 := by decide +kernel
set_option maxHeartbeats 4000000 in
set_option maxRecDepth 100000 in
theorem c_X4_choose_0 (l : Launch) {D : va_G} {cy : Nat → ClassId} {X : va_W} (S : wPS) (sz : Nat) (o1 : Nat) (h_o1 : isA S o1 4) (x1 : Int32) (x2 : Int32) (x3 : Int32) (hW : wtB S []) (h1 : 0 ≤ x1.toInt ∧ x1.toInt ≤ 5) (h2 : 5 ≤ x1.toInt) : Met l yX4_choose wsX4_choose ({ frames := 2, cells := 0, slots := 0, locals := 61 }) (va_Pc [.ref o1, .int x1, .int x2, .int x3] (fun U => U.heap.size = sz ∧ WD D cy X (fun _ => True) S U ∧ NW U)) (va_Qv (fun (u : wPS) => stp [(4, 8), (17, 100)] [] [] S u) (fun u t => WD D cy X (va_A (X ++ PL cy S) sz) u t) (va_A (X ++ PL cy S) sz)) 0 0 (va_A (X ++ PL cy S) sz) := by
  refine Met.ofW (cc := cX4_choose) (maxL := 6) (ret := none) (by decide) rfl ?_
  intro p e s m args below meth c s₁ B hml hv
  obtain ⟨rfl, hsz, ⟨hP, hK, hD0⟩, hN⟩ := hv
  have hx := B.exec
  have hb := B.bytes
  have hr := B.returns
  have hts := atoms_spec (ws := wsX4_choose) B.pre
  have hown : s.vm.findClass RX4 = some m.cls := findClass_of_methodNamed (x := yX4_choose) B.named
  have hlocks := B.notSynchronized
  subst hsz
  have hD := hD0.self (sz := s.heap.size)
  generalize hAe : va_A (X ++ PL cy S) s.heap.size = A at hD ⊢
  have hA : ∀ q : Nat, s.heap.size ≤ q → A q := fun q h => by rw [← hAe]; exact Or.inr h
  have hS : va_S A s.heap s.heap [] := va_S.rf
  have hl := lv_entry ([.ref o1, .int x1, .int x2, .int x3]) (n := 6) (Nat.le_of_ble_eq_true rfl)
  rw [lg_entry_eq]
  generalize (lg_sl ([.ref o1, .int x1, .int x2, .int x3]) ++ List.replicate (6 - (lg_sl ([.ref o1, .int x1, .int x2, .int x3])).length) Slot.unset).toArray = ls at hl ⊢
  have hl : lv_has ls 6 [(0, .ref o1), (1, .int x1), (2, .int x2), (3, .int x3)] := hl
  have t0 : stp [(4, 8), (17, 100)] [] [] S S := stp.rf hW
  refine lv_iload_n hx hb dX4_choose_0 rfl (lv_at hl 2 rfl) ?_
  refine lv_if_ne (tgt := 10) hx hb dX4_choose_1 (by decide) (fun c1 => ?_) (fun c1 => ?_)
  · have c1i : ¬ x2.toInt = 0 := neq_v rfl rfl c1
    refine lv_iload_n hx hb dX4_choose_10 rfl (lv_at hl 1 rfl) ?_
    refine lv_aload_n hx hb dX4_choose_11 rfl (lv_at hl 0 rfl) ?_
    obtain ⟨k2, gk2, hk2⟩ := wGt (cy := cy) X S h_o1.1 h_o1.2.1
    have i3 := ((hW.at h_o1 List.not_mem_nil).to_4 h_o1.2.1).R6
    refine va_get (D := D) (ci := 8) (v := .int (S.I o1 6)) (C := RX4) (T := TX4) (N := 9) hx hb hts hi_X4_choose_X4 hown hK hP k2 hk2 rfl 6 (by decide) (hts (.fieldLink RX4 34 "Hobhouse$Matching" "firstCount" "I") (by decide +kernel)) (fun _ h9 => h9) rfl dX4_choose_12 ?_
    refine lv_icmp_ge (tgt := 23) hx hb dX4_choose_15 (by decide) (fun c4 => ?_) (fun c4 => ?_)
    · have c4i : (S.I o1 6).toInt ≤ x1.toInt := le_v rfl rfl c4
      refine W.widen (k := 0) (n := 0) (Nat.le_of_ble_eq_true rfl) (Nat.le_of_ble_eq_true rfl) ?_
      exact W.vret hx hb hr (fun t ht hW9 => ⟨⟨S, rfl, t0, wd_end hP hK hD ht hW9.alike⟩, hS.F ht⟩) hS.2.2 dX4_choose_23 hlocks
    · have c4i : x1.toInt < (S.I o1 6).toInt := nle_v rfl rfl c4
      refine lv_iload_n hx hb dX4_choose_18 rfl (lv_at hl 1 rfl) ?_
      refine lv_iconst (v := 5) hx hb dX4_choose_19 (by decide) ?_
      refine lv_icmp_lt (tgt := 24) hx hb dX4_choose_20 (by decide) (fun c5 => ?_) (fun c5 => ?_)
      · have c5i : x1.toInt < 5 := lt_v rfl rfl c5
        exact False.elim (by omega)
      · have c5i : 5 ≤ x1.toInt := nlt_v rfl rfl c5
        refine W.widen (k := 0) (n := 0) (Nat.le_of_ble_eq_true rfl) (Nat.le_of_ble_eq_true rfl) ?_
        exact W.vret hx hb hr (fun t ht hW9 => ⟨⟨S, rfl, t0, wd_end hP hK hD ht hW9.alike⟩, hS.F ht⟩) hS.2.2 dX4_choose_23 hlocks
  · have c1i : x2.toInt = 0 := eq_v rfl rfl c1
    refine lv_aload_n hx hb dX4_choose_4 rfl (lv_at hl 0 rfl) ?_
    refine lv_iload_n hx hb dX4_choose_5 rfl (lv_at hl 3 rfl) ?_
    have hFc := free_all hD hS hA
    obtain ⟨k6, gk6, hk6⟩ := wGt (cy := cy) X S h_o1.1 h_o1.2.1
    refine va_callv (va_runV (As := [.int x3]) (rest := []) ⟨hx, hb, hml, hown, hts⟩ (c_X4_keepIfLess l (cy := cy) (X := X) (D := D) S _ o1 h_o1 x3 (hW)) (cwV 1 hts gX4_choose_X4_keepIfLess rfl rfl rfl hd_X4_keepIfLess ⟨Nat.le_of_ble_eq_true rfl, Nat.le_of_ble_eq_true rfl⟩) (pV (va_recv hK hP (q := (RX4, TX4, 9)) (ci := 8) (q0 := k6) rfl hk6) hP hK hD hN) rfl rfl hl.1 rfl (lv_room (Nat.le_of_ble_eq_true rfl)) dX4_choose_6 ⟨(Nat.zero_le _), (Nat.zero_le _)⟩) hS (fun q _ h => hFc q h) hFc (fun u t H1 locs ht hvm hw hB hz1 hk1 hS => ?_)
    have w8 := hw
    obtain ⟨hP, hD⟩ := wd_post hFc ht hB
    generalize H1 = H at hP hS ⊢
    obtain ⟨S9, rfl⟩ : ∃ z, z = u := ⟨_, rfl⟩
    have t10 : stp [(4, 8), (17, 100)] [] [] S S9 := t0.tr w8 (by decide) (fun _ q => absurd q List.not_mem_nil)
    have xe11 : ext S S9 := w8.x
    refine W.widen (k := 0) (n := 0) (Nat.le_of_ble_eq_true rfl) (Nat.le_of_ble_eq_true rfl) ?_
    exact W.vret hx hb hr (fun t ht hW9 => ⟨⟨S9, rfl, t10, wd_end hP hK hD ht hW9.alike⟩, hS.F ht⟩) hS.2.2 dX4_choose_9 hlocks
set_option maxHeartbeats 4000000 in
set_option maxRecDepth 100000 in
theorem c_X4_choose_1 (l : Launch) {D : va_G} {cy : Nat → ClassId} {X : va_W} (S : wPS) (sz : Nat) (o1 : Nat) (h_o1 : isA S o1 4) (x1 : Int32) (x2 : Int32) (x3 : Int32) (hW : wtB S []) (h1 : 0 ≤ x1.toInt ∧ x1.toInt ≤ 5) (h2 : 4 ≤ x1.toInt) : Met l yX4_choose wsX4_choose ({ frames := 3, cells := 0, slots := 0, locals := 86 }) (va_Pc [.ref o1, .int x1, .int x2, .int x3] (fun U => U.heap.size = sz ∧ WD D cy X (fun _ => True) S U ∧ NW U)) (va_Qv (fun (u : wPS) => stp [(4, 8), (17, 100), (18, 100)] [] [] S u) (fun u t => WD D cy X (va_A (X ++ PL cy S) sz) u t) (va_A (X ++ PL cy S) sz)) 0 0 (va_A (X ++ PL cy S) sz) := by
  refine Met.ofW (cc := cX4_choose) (maxL := 6) (ret := none) (by decide) rfl ?_
  intro p e s m args below meth c s₁ B hml hv
  obtain ⟨rfl, hsz, ⟨hP, hK, hD0⟩, hN⟩ := hv
  have hx := B.exec
  have hb := B.bytes
  have hr := B.returns
  have hts := atoms_spec (ws := wsX4_choose) B.pre
  have hown : s.vm.findClass RX4 = some m.cls := findClass_of_methodNamed (x := yX4_choose) B.named
  have hlocks := B.notSynchronized
  subst hsz
  have hD := hD0.self (sz := s.heap.size)
  generalize hAe : va_A (X ++ PL cy S) s.heap.size = A at hD ⊢
  have hA : ∀ q : Nat, s.heap.size ≤ q → A q := fun q h => by rw [← hAe]; exact Or.inr h
  have hS : va_S A s.heap s.heap [] := va_S.rf
  have hl := lv_entry ([.ref o1, .int x1, .int x2, .int x3]) (n := 6) (Nat.le_of_ble_eq_true rfl)
  rw [lg_entry_eq]
  generalize (lg_sl ([.ref o1, .int x1, .int x2, .int x3]) ++ List.replicate (6 - (lg_sl ([.ref o1, .int x1, .int x2, .int x3])).length) Slot.unset).toArray = ls at hl ⊢
  have hl : lv_has ls 6 [(0, .ref o1), (1, .int x1), (2, .int x2), (3, .int x3)] := hl
  have t0 : stp [(4, 8), (17, 100), (18, 100)] [] [] S S := stp.rf hW
  refine lv_iload_n hx hb dX4_choose_0 rfl (lv_at hl 2 rfl) ?_
  refine lv_if_ne (tgt := 10) hx hb dX4_choose_1 (by decide) (fun c1 => ?_) (fun c1 => ?_)
  · have c1i : ¬ x2.toInt = 0 := neq_v rfl rfl c1
    refine lv_iload_n hx hb dX4_choose_10 rfl (lv_at hl 1 rfl) ?_
    refine lv_aload_n hx hb dX4_choose_11 rfl (lv_at hl 0 rfl) ?_
    obtain ⟨k2, gk2, hk2⟩ := wGt (cy := cy) X S h_o1.1 h_o1.2.1
    have i3 := ((hW.at h_o1 List.not_mem_nil).to_4 h_o1.2.1).R6
    refine va_get (D := D) (ci := 8) (v := .int (S.I o1 6)) (C := RX4) (T := TX4) (N := 9) hx hb hts hi_X4_choose_X4 hown hK hP k2 hk2 rfl 6 (by decide) (hts (.fieldLink RX4 34 "Hobhouse$Matching" "firstCount" "I") (by decide +kernel)) (fun _ h9 => h9) rfl dX4_choose_12 ?_
    refine lv_icmp_ge (tgt := 23) hx hb dX4_choose_15 (by decide) (fun c4 => ?_) (fun c4 => ?_)
    · have c4i : (S.I o1 6).toInt ≤ x1.toInt := le_v rfl rfl c4
      refine W.widen (k := 0) (n := 0) (Nat.le_of_ble_eq_true rfl) (Nat.le_of_ble_eq_true rfl) ?_
      exact W.vret hx hb hr (fun t ht hW9 => ⟨⟨S, rfl, t0, wd_end hP hK hD ht hW9.alike⟩, hS.F ht⟩) hS.2.2 dX4_choose_23 hlocks
    · have c4i : x1.toInt < (S.I o1 6).toInt := nle_v rfl rfl c4
      refine lv_iload_n hx hb dX4_choose_18 rfl (lv_at hl 1 rfl) ?_
      refine lv_iconst (v := 5) hx hb dX4_choose_19 (by decide) ?_
      refine lv_icmp_lt (tgt := 24) hx hb dX4_choose_20 (by decide) (fun c5 => ?_) (fun c5 => ?_)
      · have c5i : x1.toInt < 5 := lt_v rfl rfl c5
        refine lv_iconst (v := 0) hx hb dX4_choose_24 (by decide) ?_
        refine lv_istore (lv' := [(4, .int (0 : Int32)), (0, .ref o1), (1, .int x1), (2, .int x2), (3, .int x3)]) hx hb dX4_choose_25 hl (by decide) rfl (fun ls hl => ?_)
        have l32_0 : (0 : Int32).toInt = 0 := rfl
        have loop27 : ∀ (n : Nat) (S27_ : wPS) (w27_4 : Int32) (H : Heap) (locs : List Loc) (ls : Array Slot), (5 - w27_4.toInt).toNat < n → 0 ≤ w27_4.toInt ∧ w27_4.toInt ≤ 5 → stp [(4, 8), (17, 100), (18, 100)] [] [] S S27_ → va_P D vwCl (X ++ PL cy S27_) H → va_D A (X ++ PL cy S27_) → va_S A s.heap H locs → lv_has ls 6 [(4, .int w27_4), (0, .ref o1), (1, .int x1), (2, .int x2), (3, .int x3)] → (∀ (S27_x : wPS) (w27_4x : Int32) (H : Heap) (locs : List Loc) (ls : Array Slot), 0 ≤ w27_4x.toInt ∧ w27_4x.toInt ≤ 5 → stp [(4, 8), (17, 100), (18, 100)] [] [] S S27_x → va_P D vwCl (X ++ PL cy S27_x) H → va_D A (X ++ PL cy S27_x) → va_S A s.heap H locs → lv_has ls 6 [(4, .int w27_4x), (0, .ref o1), (1, .int x1), (2, .int x2), (3, .int x3)] → W p l e (headSpec wsX4_choose ({ frames := 3, cells := 0, slots := 0, locals := 86 } : Room)).room s m [.ref o1, .int x1, .int x2, .int x3].toArray below meth c H locs 0 0 (MQ below (va_Qv (fun (u : wPS) => stp [(4, 8), (17, 100), (18, 100)] [] [] S u) (fun u t => WD D cy X A u t) A) [.ref o1, .int x1, .int x2, .int x3].toArray s 0 0 A) (F0 m 116 ls [])) → W p l e (headSpec wsX4_choose ({ frames := 3, cells := 0, slots := 0, locals := 86 } : Room)).room s m [.ref o1, .int x1, .int x2, .int x3].toArray below meth c H locs 0 0 (MQ below (va_Qv (fun (u : wPS) => stp [(4, 8), (17, 100), (18, 100)] [] [] S u) (fun u t => WD D cy X A u t) A) [.ref o1, .int x1, .int x2, .int x3].toArray s 0 0 A) (F0 m 27 ls []) := by
          intro n27
          induction n27 with
          | zero => intro S27_ w27_4 H locs ls hm; exact absurd hm (Nat.not_lt_zero _)
          | succ n27 ih27 =>
            intro S27_ w27_4 H locs ls hm27 hi27 hsh27 hP hD hS hl ko27
            refine lv_iload hx hb dX4_choose_27 (lv_at hl 0 rfl) ?_
            refine lv_aload_n hx hb dX4_choose_29 rfl (lv_at hl 1 rfl) ?_
            obtain ⟨k6, gk6, hk6⟩ := wGt (cy := cy) X S27_ (hsh27.x.A h_o1).1 (hsh27.x.A h_o1).2.1
            have i7 := ((hsh27.w.at (hsh27.x.A h_o1) List.not_mem_nil).to_4 (hsh27.x.A h_o1).2.1).R7
            refine va_get (D := D) (ci := 8) (v := .int (S27_.I o1 7)) (C := RX4) (T := TX4) (N := 9) hx hb hts hi_X4_choose_X4 hown hK hP k6 hk6 rfl 7 (by decide) (hts (.fieldLink RX4 38 "Hobhouse$Matching" "secondCount" "I") (by decide +kernel)) (fun _ h9 => h9) rfl dX4_choose_30 ?_
            refine lv_icmp_ge (tgt := 116) hx hb dX4_choose_33 (by decide) (fun c8 => ?_) (fun c8 => ?_)
            · have c8i : (S27_.I o1 7).toInt ≤ w27_4.toInt := le_v rfl rfl c8
              exact ko27 S27_ w27_4 _ _ _ (by omega) hsh27 hP hD hS (lv_sub hl [0, 1, 2, 3, 4] rfl)
            · have c8i : w27_4.toInt < (S27_.I o1 7).toInt := nle_v rfl rfl c8
              refine lv_aload_n hx hb dX4_choose_36 rfl (lv_at hl 1 rfl) ?_
              have F9 := ((hW.at h_o1 List.not_mem_nil).to_4 h_o1.2.1).F2
              obtain ⟨k10, gk10, hk10⟩ := wGt (cy := cy) X S27_ (hsh27.x.A h_o1).1 (hsh27.x.A h_o1).2.1
              simp only [kE, (hsh27.x.F h_o1 (by decide) F9.1)] at hk10
              refine va_get (D := D) (ci := 8) (v := .ref (S.f o1 2)) (C := RX4) (T := TX4) (N := 9) hx hb hts hi_X4_choose_X4 hown hK hP k10 hk10 rfl 2 (by decide) (hts (.fieldLink RX4 20 "Hobhouse$Matching" "peaks" "[I") (by decide +kernel)) (fun _ h9 => h9) rfl dX4_choose_37 ?_
              refine lv_iload_n hx hb dX4_choose_40 rfl (lv_at hl 2 rfl) ?_
              refine lv_iconst (v := 5) hx hb dX4_choose_41 (by decide) ?_
              refine lv_imul hx hb dX4_choose_42 ?_
              refine lv_iload hx hb dX4_choose_43 (lv_at hl 0 rfl) ?_
              refine lv_iadd hx hb dX4_choose_45 ?_
              have l32_5 : (5 : Int32).toInt = 5 := rfl
              have i11 : (x1 * (5 : Int32)).toInt = x1.toInt * 5 := t_mulr rfl (by omega)
              have i12 : ((x1 * (5 : Int32)) + w27_4).toInt = (x1 * (5 : Int32)).toInt + w27_4.toInt := t_add (by omega)
              obtain ⟨k13, gk13, hk13⟩ := wGt (cy := cy) X S27_ (hsh27.x.A F9.2.1).1 (hsh27.x.A F9.2.1).2.1
              refine va_iald hx hb hK hP k13 2 hk13 rfl (inb (m := 25) ((hsh27.x.n F9.2.1).trans F9.2.2) (by omega) (by omega)) dX4_choose_46 ?_
              refine lv_istore (lv' := [(5, .int (S27_.i (S.f o1 2) ((x1 * (5 : Int32)) + w27_4).toNatClampNeg)), (4, .int w27_4), (0, .ref o1), (1, .int x1), (2, .int x2), (3, .int x3)]) hx hb dX4_choose_47 hl (by decide) rfl (fun ls hl => ?_)
              refine lv_iload hx hb dX4_choose_49 (lv_at hl 0 rfl) ?_
              refine lv_iconst (v := -1) hx hb dX4_choose_51 (by decide) ?_
              refine lv_icmp_eq (tgt := 110) hx hb dX4_choose_52 (by decide) (fun c14 => ?_) (fun c14 => ?_)
              · have c14i : (S27_.i (S.f o1 2) ((x1 * (5 : Int32)) + w27_4).toNatClampNeg).toInt = -1 := eq_v rfl rfl c14
                refine lv_iinc (v := w27_4 + (1 : Int32)) (lv' := [(4, .int (w27_4 + (1 : Int32))), (5, .int (S27_.i (S.f o1 2) ((x1 * (5 : Int32)) + w27_4).toNatClampNeg)), (0, .ref o1), (1, .int x1), (2, .int x2), (3, .int x3)]) hx hb dX4_choose_110 hl (k := 1) rfl (by rfl) (by decide) rfl (fun ls hl => ?_)
                refine lv_goto (tgt := 27) hx hb dX4_choose_113 (by decide) ?_
                have l32_1 : (1 : Int32).toInt = 1 := rfl
                have i15 : (w27_4 + (1 : Int32)).toInt = w27_4.toInt + 1 := t_addr (n := 1) rfl (by omega)
                exact ih27 S27_ (w27_4 + (1 : Int32)) _ _ _ (Nat.lt_of_lt_of_le (by omega) (Nat.le_of_lt_succ hm27)) (by omega) hsh27 hP hD hS (lv_sub hl [0, 2, 3, 4, 5] rfl) ko27
              · have c14i : ¬ (S27_.i (S.f o1 2) ((x1 * (5 : Int32)) + w27_4).toNatClampNeg).toInt = -1 := neq_v rfl rfl c14
                refine lv_aload_n hx hb dX4_choose_55 rfl (lv_at hl 2 rfl) ?_
                have F16 := ((hW.at h_o1 List.not_mem_nil).to_4 h_o1.2.1).F3
                obtain ⟨k17, gk17, hk17⟩ := wGt (cy := cy) X S27_ (hsh27.x.A h_o1).1 (hsh27.x.A h_o1).2.1
                simp only [kE, (hsh27.x.F h_o1 (by decide) F16.1)] at hk17
                refine va_get (D := D) (ci := 8) (v := .ref (S.f o1 3)) (C := RX4) (T := TX4) (N := 9) hx hb hts hi_X4_choose_X4 hown hK hP k17 hk17 rfl 3 (by decide) (hts (.fieldLink RX4 24 "Hobhouse$Matching" "isTaken" "[Z") (by decide +kernel)) (fun _ h9 => h9) rfl dX4_choose_56 ?_
                refine lv_iload hx hb dX4_choose_59 (lv_at hl 1 rfl) ?_
                obtain ⟨k18, gk18, hk18⟩ := wGt (cy := cy) X S27_ (hsh27.x.A F16.2.1).1 (hsh27.x.A F16.2.1).2.1
                refine va_zald hx hb hK hP k18 3 hk18 rfl (inb (m := 5) ((hsh27.x.n F16.2.1).trans F16.2.2) (by omega) (by omega)) dX4_choose_61 ?_
                refine lv_if_ne (tgt := 110) hx hb dX4_choose_62 (by decide) (fun c19 => ?_) (fun c19 => ?_)
                · have c19i : ¬ (S27_.i (S.f o1 3) w27_4.toNatClampNeg).toInt = 0 := neq_v rfl rfl c19
                  refine lv_iinc (v := w27_4 + (1 : Int32)) (lv' := [(4, .int (w27_4 + (1 : Int32))), (5, .int (S27_.i (S.f o1 2) ((x1 * (5 : Int32)) + w27_4).toNatClampNeg)), (0, .ref o1), (1, .int x1), (2, .int x2), (3, .int x3)]) hx hb dX4_choose_110 hl (k := 1) rfl (by rfl) (by decide) rfl (fun ls hl => ?_)
                  refine lv_goto (tgt := 27) hx hb dX4_choose_113 (by decide) ?_
                  have l32_1 : (1 : Int32).toInt = 1 := rfl
                  have i20 : (w27_4 + (1 : Int32)).toInt = w27_4.toInt + 1 := t_addr (n := 1) rfl (by omega)
                  exact ih27 S27_ (w27_4 + (1 : Int32)) _ _ _ (Nat.lt_of_lt_of_le (by omega) (Nat.le_of_lt_succ hm27)) (by omega) hsh27 hP hD hS (lv_sub hl [0, 2, 3, 4, 5] rfl) ko27
                · have c19i : (S27_.i (S.f o1 3) w27_4.toNatClampNeg).toInt = 0 := eq_v rfl rfl c19
                  refine lv_aload_n hx hb dX4_choose_65 rfl (lv_at hl 2 rfl) ?_
                  obtain ⟨k21, gk21, hk21⟩ := wGt (cy := cy) X S27_ (hsh27.x.A h_o1).1 (hsh27.x.A h_o1).2.1
                  simp only [kE, (hsh27.x.F h_o1 (by decide) F16.1)] at hk21
                  refine va_get (D := D) (ci := 8) (v := .ref (S.f o1 3)) (C := RX4) (T := TX4) (N := 9) hx hb hts hi_X4_choose_X4 hown hK hP k21 hk21 rfl 3 (by decide) (hts (.fieldLink RX4 24 "Hobhouse$Matching" "isTaken" "[Z") (by decide +kernel)) (fun _ h9 => h9) rfl dX4_choose_66 ?_
                  refine lv_iload hx hb dX4_choose_69 (lv_at hl 1 rfl) ?_
                  refine lv_iconst (v := 1) hx hb dX4_choose_71 (by decide) ?_
                  obtain ⟨k22, gk22, hk22⟩ := wGt (cy := cy) X S27_ (hsh27.x.A F16.2.1).1 (hsh27.x.A F16.2.1).2.1
                  refine va_zast hx hb hK hP hD hS k22 3 hk22 rfl (inb (m := 5) ((hsh27.x.n F16.2.1).trans F16.2.2) (by omega) (by omega)) dX4_choose_72 (fun H locs hP2 hD2 hS => ?_)
                  have e9 := wPui (cy := cy) (f := (upd (S27_.i (S.f o1 3)) w27_4.toNatClampNeg (vp_nar .boolean (1 : Int32)))) hD (hsh27.x.A F16.2.1).1 (hsh27.x.A F16.2.1).2.1 gk22 rfl
                  obtain ⟨S23, hS23⟩ : ∃ z, S27_.si (S.f o1 3) (upd (S27_.i (S.f o1 3)) w27_4.toNatClampNeg (vp_nar .boolean (1 : Int32))) = z := ⟨_, rfl⟩
                  have hP : va_P D vwCl (X ++ PL cy S23) H := by rw [← hS23, ← e9]; exact hP2
                  have hD : va_D A (X ++ PL cy S23) := by rw [← hS23, ← e9]; exact hD2
                  have xe24 : ext S27_ S23 := by rw [← hS23]; exact ext.si _ _ _
                  have t25 : stp [(4, 8), (17, 100), (18, 100)] [] [] S S23 := by rw [← hS23]; exact hsh27.i (upd (S27_.i (S.f o1 3)) w27_4.toNatClampNeg (vp_nar .boolean (1 : Int32))) (hsh27.x.A F16.2.1) (by decide)
                  refine lv_aload_n hx hb dX4_choose_73 rfl (lv_at hl 2 rfl) ?_
                  have F26 := ((hW.at h_o1 List.not_mem_nil).to_4 h_o1.2.1).F4
                  obtain ⟨k27, gk27, hk27⟩ := wGt (cy := cy) X S23 (xe24.A (hsh27.x.A h_o1)).1 (xe24.A (hsh27.x.A h_o1)).2.1
                  simp only [kE, ((hsh27.x.tr xe24).F h_o1 (by decide) F26.1)] at hk27
                  refine va_get (D := D) (ci := 8) (v := .ref (S.f o1 4)) (C := RX4) (T := TX4) (N := 9) hx hb hts hi_X4_choose_X4 hown hK hP k27 hk27 rfl 4 (by decide) (hts (.fieldLink RX4 28 "Hobhouse$Matching" "partners" "[I") (by decide +kernel)) (fun _ h9 => h9) rfl dX4_choose_74 ?_
                  refine lv_iload_n hx hb dX4_choose_77 rfl (lv_at hl 3 rfl) ?_
                  refine lv_iload hx hb dX4_choose_78 (lv_at hl 1 rfl) ?_
                  obtain ⟨k28, gk28, hk28⟩ := wGt (cy := cy) X S23 ((hsh27.x.tr xe24).A F26.2.1).1 ((hsh27.x.tr xe24).A F26.2.1).2.1
                  refine va_iast hx hb hK hP hD hS k28 2 hk28 rfl (inb (m := 5) (((hsh27.x.tr xe24).n F26.2.1).trans F26.2.2) (by omega) (by omega)) dX4_choose_80 (fun H locs hP2 hD2 hS => ?_)
                  have e9 := wPui (cy := cy) (f := (upd (S23.i (S.f o1 4)) x1.toNatClampNeg w27_4)) hD ((hsh27.x.tr xe24).A F26.2.1).1 ((hsh27.x.tr xe24).A F26.2.1).2.1 gk28 rfl
                  obtain ⟨S29, hS29⟩ : ∃ z, S23.si (S.f o1 4) (upd (S23.i (S.f o1 4)) x1.toNatClampNeg w27_4) = z := ⟨_, rfl⟩
                  have hP : va_P D vwCl (X ++ PL cy S29) H := by rw [← hS29, ← e9]; exact hP2
                  have hD : va_D A (X ++ PL cy S29) := by rw [← hS29, ← e9]; exact hD2
                  have xe30 : ext S23 S29 := by rw [← hS29]; exact ext.si _ _ _
                  have t31 : stp [(4, 8), (17, 100), (18, 100)] [] [] S S29 := by rw [← hS29]; exact t25.i (upd (S23.i (S.f o1 4)) x1.toNatClampNeg w27_4) ((hsh27.x.tr xe24).A F26.2.1) (by decide)
                  refine lv_aload_n hx hb dX4_choose_81 rfl (lv_at hl 2 rfl) ?_
                  refine lv_iload_n hx hb dX4_choose_82 rfl (lv_at hl 3 rfl) ?_
                  refine lv_iconst (v := 1) hx hb dX4_choose_83 (by decide) ?_
                  refine lv_iadd hx hb dX4_choose_84 ?_
                  refine lv_iload_n hx hb dX4_choose_85 rfl (lv_at hl 4 rfl) ?_
                  refine lv_iconst (v := 1) hx hb dX4_choose_86 (by decide) ?_
                  refine lv_isub hx hb dX4_choose_87 ?_
                  refine lv_iload_n hx hb dX4_choose_88 rfl (lv_at hl 5 rfl) ?_
                  refine lv_iload hx hb dX4_choose_89 (lv_at hl 0 rfl) ?_
                  refine lv_iadd hx hb dX4_choose_91 ?_
                  have l32_1 : (1 : Int32).toInt = 1 := rfl
                  have i32 : (x1 + (1 : Int32)).toInt = x1.toInt + 1 := t_addr (n := 1) rfl (by omega)
                  have hFc := free_all hD hS hA
                  refine va_callv (va_runS (As := [.ref o1, .int (x1 + (1 : Int32)), .int (x2 - (1 : Int32)), .int (x3 + (S27_.i (S.f o1 2) ((x1 * (5 : Int32)) + w27_4).toNatClampNeg))]) (rest := []) ⟨hx, hb, hml, hown, hts⟩ (c_X4_choose_0 l (cy := cy) (X := X) (D := D) S29 _ o1 (xe30.A (xe24.A (hsh27.x.A h_o1))) (x1 + (1 : Int32)) (x2 - (1 : Int32)) (x3 + (S27_.i (S.f o1 2) ((x1 * (5 : Int32)) + w27_4).toNatClampNeg)) (t31.w) (by omega) (by omega)) (cwS 4 hts gX4_choose_X4_choose rfl rfl rfl hd_X4_choose ⟨Nat.le_of_ble_eq_true rfl, Nat.le_of_ble_eq_true rfl⟩) (pS hP hK hD hN) rfl rfl hl.1 rfl (lv_room (Nat.le_of_ble_eq_true rfl)) dX4_choose_92 ⟨(Nat.zero_le _), (Nat.zero_le _)⟩) hS (fun q _ h => hFc q h) hFc (fun u t H1 locs ht hvm hw hB hz1 hk1 hS => ?_)
                  have w34 := hw
                  obtain ⟨hP, hD⟩ := wd_post hFc ht hB
                  generalize H1 = H at hP hS ⊢
                  obtain ⟨S35, rfl⟩ : ∃ z, z = u := ⟨_, rfl⟩
                  have t36 : stp [(4, 8), (17, 100), (18, 100)] [] [] S S35 := t31.tr w34 (by decide) (fun _ q => absurd q List.not_mem_nil)
                  have xe37 : ext S29 S35 := w34.x
                  refine lv_aload_n hx hb dX4_choose_95 rfl (lv_at hl 2 rfl) ?_
                  obtain ⟨k38, gk38, hk38⟩ := wGt (cy := cy) X S35 (xe37.A (xe30.A (xe24.A (hsh27.x.A h_o1)))).1 (xe37.A (xe30.A (xe24.A (hsh27.x.A h_o1)))).2.1
                  simp only [kE, ((hsh27.x.tr (xe24.tr (xe30.tr xe37))).F h_o1 (by decide) F26.1)] at hk38
                  refine va_get (D := D) (ci := 8) (v := .ref (S.f o1 4)) (C := RX4) (T := TX4) (N := 9) hx hb hts hi_X4_choose_X4 hown hK hP k38 hk38 rfl 4 (by decide) (hts (.fieldLink RX4 28 "Hobhouse$Matching" "partners" "[I") (by decide +kernel)) (fun _ h9 => h9) rfl dX4_choose_96 ?_
                  refine lv_iload_n hx hb dX4_choose_99 rfl (lv_at hl 3 rfl) ?_
                  refine lv_iconst (v := -1) hx hb dX4_choose_100 (by decide) ?_
                  obtain ⟨k39, gk39, hk39⟩ := wGt (cy := cy) X S35 ((xe30.tr xe37).A ((hsh27.x.tr xe24).A F26.2.1)).1 ((xe30.tr xe37).A ((hsh27.x.tr xe24).A F26.2.1)).2.1
                  refine va_iast hx hb hK hP hD hS k39 2 hk39 rfl (inb (m := 5) (((hsh27.x.tr (xe24.tr (xe30.tr xe37))).n F26.2.1).trans F26.2.2) (by omega) (by omega)) dX4_choose_101 (fun H locs hP2 hD2 hS => ?_)
                  have e9 := wPui (cy := cy) (f := (upd (S35.i (S.f o1 4)) x1.toNatClampNeg (-1 : Int32))) hD ((xe30.tr xe37).A ((hsh27.x.tr xe24).A F26.2.1)).1 ((xe30.tr xe37).A ((hsh27.x.tr xe24).A F26.2.1)).2.1 gk39 rfl
                  obtain ⟨S40, hS40⟩ : ∃ z, S35.si (S.f o1 4) (upd (S35.i (S.f o1 4)) x1.toNatClampNeg (-1 : Int32)) = z := ⟨_, rfl⟩
                  have hP : va_P D vwCl (X ++ PL cy S40) H := by rw [← hS40, ← e9]; exact hP2
                  have hD : va_D A (X ++ PL cy S40) := by rw [← hS40, ← e9]; exact hD2
                  have xe41 : ext S35 S40 := by rw [← hS40]; exact ext.si _ _ _
                  have t42 : stp [(4, 8), (17, 100), (18, 100)] [] [] S S40 := by rw [← hS40]; exact t36.i (upd (S35.i (S.f o1 4)) x1.toNatClampNeg (-1 : Int32)) ((xe30.tr xe37).A ((hsh27.x.tr xe24).A F26.2.1)) (by decide)
                  refine lv_aload_n hx hb dX4_choose_102 rfl (lv_at hl 2 rfl) ?_
                  obtain ⟨k43, gk43, hk43⟩ := wGt (cy := cy) X S40 (xe41.A (xe37.A (xe30.A (xe24.A (hsh27.x.A h_o1))))).1 (xe41.A (xe37.A (xe30.A (xe24.A (hsh27.x.A h_o1))))).2.1
                  simp only [kE, ((hsh27.x.tr (xe24.tr (xe30.tr (xe37.tr xe41)))).F h_o1 (by decide) F16.1)] at hk43
                  refine va_get (D := D) (ci := 8) (v := .ref (S.f o1 3)) (C := RX4) (T := TX4) (N := 9) hx hb hts hi_X4_choose_X4 hown hK hP k43 hk43 rfl 3 (by decide) (hts (.fieldLink RX4 24 "Hobhouse$Matching" "isTaken" "[Z") (by decide +kernel)) (fun _ h9 => h9) rfl dX4_choose_103 ?_
                  refine lv_iload hx hb dX4_choose_106 (lv_at hl 1 rfl) ?_
                  refine lv_iconst (v := 0) hx hb dX4_choose_108 (by decide) ?_
                  obtain ⟨k44, gk44, hk44⟩ := wGt (cy := cy) X S40 ((xe24.tr (xe30.tr (xe37.tr xe41))).A (hsh27.x.A F16.2.1)).1 ((xe24.tr (xe30.tr (xe37.tr xe41))).A (hsh27.x.A F16.2.1)).2.1
                  refine va_zast hx hb hK hP hD hS k44 3 hk44 rfl (inb (m := 5) (((hsh27.x.tr (xe24.tr (xe30.tr (xe37.tr xe41)))).n F16.2.1).trans F16.2.2) (by omega) (by omega)) dX4_choose_109 (fun H locs hP2 hD2 hS => ?_)
                  have e9 := wPui (cy := cy) (f := (upd (S40.i (S.f o1 3)) w27_4.toNatClampNeg (vp_nar .boolean (0 : Int32)))) hD ((xe24.tr (xe30.tr (xe37.tr xe41))).A (hsh27.x.A F16.2.1)).1 ((xe24.tr (xe30.tr (xe37.tr xe41))).A (hsh27.x.A F16.2.1)).2.1 gk44 rfl
                  obtain ⟨S45, hS45⟩ : ∃ z, S40.si (S.f o1 3) (upd (S40.i (S.f o1 3)) w27_4.toNatClampNeg (vp_nar .boolean (0 : Int32))) = z := ⟨_, rfl⟩
                  have hP : va_P D vwCl (X ++ PL cy S45) H := by rw [← hS45, ← e9]; exact hP2
                  have hD : va_D A (X ++ PL cy S45) := by rw [← hS45, ← e9]; exact hD2
                  have xe46 : ext S40 S45 := by rw [← hS45]; exact ext.si _ _ _
                  have t47 : stp [(4, 8), (17, 100), (18, 100)] [] [] S S45 := by rw [← hS45]; exact t42.i (upd (S40.i (S.f o1 3)) w27_4.toNatClampNeg (vp_nar .boolean (0 : Int32))) ((xe24.tr (xe30.tr (xe37.tr xe41))).A (hsh27.x.A F16.2.1)) (by decide)
                  refine lv_iinc (v := w27_4 + (1 : Int32)) (lv' := [(4, .int (w27_4 + (1 : Int32))), (5, .int (S27_.i (S.f o1 2) ((x1 * (5 : Int32)) + w27_4).toNatClampNeg)), (0, .ref o1), (1, .int x1), (2, .int x2), (3, .int x3)]) hx hb dX4_choose_110 hl (k := 1) rfl (by rfl) (by decide) rfl (fun ls hl => ?_)
                  refine lv_goto (tgt := 27) hx hb dX4_choose_113 (by decide) ?_
                  have i48 : (w27_4 + (1 : Int32)).toInt = w27_4.toInt + 1 := t_addr (n := 1) rfl (by omega)
                  exact ih27 S45 (w27_4 + (1 : Int32)) _ _ _ (Nat.lt_of_lt_of_le (by omega) (Nat.le_of_lt_succ hm27)) (by omega) t47 hP hD hS (lv_sub hl [0, 2, 3, 4, 5] rfl) ko27
        refine loop27 6 S (0 : Int32) _ _ _ (by omega) (by omega) (stp.rf hW) hP hD hS (lv_sub hl [0, 1, 2, 3, 4] rfl) (fun S50 z51 H locs ls hi27 hsh27 hP hD hS hl => ?_)
        have t52 : stp [(4, 8), (17, 100), (18, 100)] [] [] S S50 := t0.tr hsh27 (fun _ q => q) (fun _ q => Or.inl q)
        have et52 := hsh27.x
        refine lv_aload_n hx hb dX4_choose_116 rfl (lv_at hl 1 rfl) ?_
        refine lv_iload_n hx hb dX4_choose_117 rfl (lv_at hl 2 rfl) ?_
        refine lv_iconst (v := 1) hx hb dX4_choose_118 (by decide) ?_
        refine lv_iadd hx hb dX4_choose_119 ?_
        refine lv_iload_n hx hb dX4_choose_120 rfl (lv_at hl 3 rfl) ?_
        refine lv_iload_n hx hb dX4_choose_121 rfl (lv_at hl 4 rfl) ?_
        have l32_1 : (1 : Int32).toInt = 1 := rfl
        have i53 : (x1 + (1 : Int32)).toInt = x1.toInt + 1 := t_addr (n := 1) rfl (by omega)
        have hFc := free_all hD hS hA
        refine va_callv (va_runS (As := [.ref o1, .int (x1 + (1 : Int32)), .int x2, .int x3]) (rest := []) ⟨hx, hb, hml, hown, hts⟩ (c_X4_choose_0 l (cy := cy) (X := X) (D := D) S50 _ o1 (et52.A h_o1) (x1 + (1 : Int32)) x2 x3 (t52.w) (by omega) (by omega)) (cwS 4 hts gX4_choose_X4_choose rfl rfl rfl hd_X4_choose ⟨Nat.le_of_ble_eq_true rfl, Nat.le_of_ble_eq_true rfl⟩) (pS hP hK hD hN) rfl rfl hl.1 rfl (lv_room (Nat.le_of_ble_eq_true rfl)) dX4_choose_122 ⟨(Nat.zero_le _), (Nat.zero_le _)⟩) hS (fun q _ h => hFc q h) hFc (fun u t H1 locs ht hvm hw hB hz1 hk1 hS => ?_)
        have w55 := hw
        obtain ⟨hP, hD⟩ := wd_post hFc ht hB
        generalize H1 = H at hP hS ⊢
        obtain ⟨S56, rfl⟩ : ∃ z, z = u := ⟨_, rfl⟩
        have t57 : stp [(4, 8), (17, 100), (18, 100)] [] [] S S56 := t52.tr w55 (by decide) (fun _ q => absurd q List.not_mem_nil)
        have xe58 : ext S50 S56 := w55.x
        refine W.widen (k := 0) (n := 0) (Nat.le_of_ble_eq_true rfl) (Nat.le_of_ble_eq_true rfl) ?_
        exact W.vret hx hb hr (fun t ht hW9 => ⟨⟨S56, rfl, t57, wd_end hP hK hD ht hW9.alike⟩, hS.F ht⟩) hS.2.2 dX4_choose_125 hlocks
      · have c5i : 5 ≤ x1.toInt := nlt_v rfl rfl c5
        refine W.widen (k := 0) (n := 0) (Nat.le_of_ble_eq_true rfl) (Nat.le_of_ble_eq_true rfl) ?_
        exact W.vret hx hb hr (fun t ht hW9 => ⟨⟨S, rfl, t0, wd_end hP hK hD ht hW9.alike⟩, hS.F ht⟩) hS.2.2 dX4_choose_23 hlocks
  · have c1i : x2.toInt = 0 := eq_v rfl rfl c1
    refine lv_aload_n hx hb dX4_choose_4 rfl (lv_at hl 0 rfl) ?_
    refine lv_iload_n hx hb dX4_choose_5 rfl (lv_at hl 3 rfl) ?_
    have hFc := free_all hD hS hA
    obtain ⟨k59, gk59, hk59⟩ := wGt (cy := cy) X S h_o1.1 h_o1.2.1
    refine va_callv (va_runV (As := [.int x3]) (rest := []) ⟨hx, hb, hml, hown, hts⟩ (c_X4_keepIfLess l (cy := cy) (X := X) (D := D) S _ o1 h_o1 x3 (hW)) (cwV 1 hts gX4_choose_X4_keepIfLess rfl rfl rfl hd_X4_keepIfLess ⟨Nat.le_of_ble_eq_true rfl, Nat.le_of_ble_eq_true rfl⟩) (pV (va_recv hK hP (q := (RX4, TX4, 9)) (ci := 8) (q0 := k59) rfl hk59) hP hK hD hN) rfl rfl hl.1 rfl (lv_room (Nat.le_of_ble_eq_true rfl)) dX4_choose_6 ⟨(Nat.zero_le _), (Nat.zero_le _)⟩) hS (fun q _ h => hFc q h) hFc (fun u t H1 locs ht hvm hw hB hz1 hk1 hS => ?_)
    have w61 := hw
    obtain ⟨hP, hD⟩ := wd_post hFc ht hB
    generalize H1 = H at hP hS ⊢
    obtain ⟨S62, rfl⟩ : ∃ z, z = u := ⟨_, rfl⟩
    have t63 : stp [(4, 8), (17, 100), (18, 100)] [] [] S S62 := t0.tr w61 (by decide) (fun _ q => absurd q List.not_mem_nil)
    have xe64 : ext S S62 := w61.x
    refine W.widen (k := 0) (n := 0) (Nat.le_of_ble_eq_true rfl) (Nat.le_of_ble_eq_true rfl) ?_
    exact W.vret hx hb hr (fun t ht hW9 => ⟨⟨S62, rfl, t63, wd_end hP hK hD ht hW9.alike⟩, hS.F ht⟩) hS.2.2 dX4_choose_9 hlocks
set_option maxHeartbeats 4000000 in
set_option maxRecDepth 100000 in
theorem c_X4_choose_2 (l : Launch) {D : va_G} {cy : Nat → ClassId} {X : va_W} (S : wPS) (sz : Nat) (o1 : Nat) (h_o1 : isA S o1 4) (x1 : Int32) (x2 : Int32) (x3 : Int32) (hW : wtB S []) (h1 : 0 ≤ x1.toInt ∧ x1.toInt ≤ 5) (h2 : 3 ≤ x1.toInt) : Met l yX4_choose wsX4_choose ({ frames := 4, cells := 0, slots := 0, locals := 111 }) (va_Pc [.ref o1, .int x1, .int x2, .int x3] (fun U => U.heap.size = sz ∧ WD D cy X (fun _ => True) S U ∧ NW U)) (va_Qv (fun (u : wPS) => stp [(4, 8), (17, 100), (18, 100)] [] [] S u) (fun u t => WD D cy X (va_A (X ++ PL cy S) sz) u t) (va_A (X ++ PL cy S) sz)) 0 0 (va_A (X ++ PL cy S) sz) := by
  refine Met.ofW (cc := cX4_choose) (maxL := 6) (ret := none) (by decide) rfl ?_
  intro p e s m args below meth c s₁ B hml hv
  obtain ⟨rfl, hsz, ⟨hP, hK, hD0⟩, hN⟩ := hv
  have hx := B.exec
  have hb := B.bytes
  have hr := B.returns
  have hts := atoms_spec (ws := wsX4_choose) B.pre
  have hown : s.vm.findClass RX4 = some m.cls := findClass_of_methodNamed (x := yX4_choose) B.named
  have hlocks := B.notSynchronized
  subst hsz
  have hD := hD0.self (sz := s.heap.size)
  generalize hAe : va_A (X ++ PL cy S) s.heap.size = A at hD ⊢
  have hA : ∀ q : Nat, s.heap.size ≤ q → A q := fun q h => by rw [← hAe]; exact Or.inr h
  have hS : va_S A s.heap s.heap [] := va_S.rf
  have hl := lv_entry ([.ref o1, .int x1, .int x2, .int x3]) (n := 6) (Nat.le_of_ble_eq_true rfl)
  rw [lg_entry_eq]
  generalize (lg_sl ([.ref o1, .int x1, .int x2, .int x3]) ++ List.replicate (6 - (lg_sl ([.ref o1, .int x1, .int x2, .int x3])).length) Slot.unset).toArray = ls at hl ⊢
  have hl : lv_has ls 6 [(0, .ref o1), (1, .int x1), (2, .int x2), (3, .int x3)] := hl
  have t0 : stp [(4, 8), (17, 100), (18, 100)] [] [] S S := stp.rf hW
  refine lv_iload_n hx hb dX4_choose_0 rfl (lv_at hl 2 rfl) ?_
  refine lv_if_ne (tgt := 10) hx hb dX4_choose_1 (by decide) (fun c1 => ?_) (fun c1 => ?_)
  · have c1i : ¬ x2.toInt = 0 := neq_v rfl rfl c1
    refine lv_iload_n hx hb dX4_choose_10 rfl (lv_at hl 1 rfl) ?_
    refine lv_aload_n hx hb dX4_choose_11 rfl (lv_at hl 0 rfl) ?_
    obtain ⟨k2, gk2, hk2⟩ := wGt (cy := cy) X S h_o1.1 h_o1.2.1
    have i3 := ((hW.at h_o1 List.not_mem_nil).to_4 h_o1.2.1).R6
    refine va_get (D := D) (ci := 8) (v := .int (S.I o1 6)) (C := RX4) (T := TX4) (N := 9) hx hb hts hi_X4_choose_X4 hown hK hP k2 hk2 rfl 6 (by decide) (hts (.fieldLink RX4 34 "Hobhouse$Matching" "firstCount" "I") (by decide +kernel)) (fun _ h9 => h9) rfl dX4_choose_12 ?_
    refine lv_icmp_ge (tgt := 23) hx hb dX4_choose_15 (by decide) (fun c4 => ?_) (fun c4 => ?_)
    · have c4i : (S.I o1 6).toInt ≤ x1.toInt := le_v rfl rfl c4
      refine W.widen (k := 0) (n := 0) (Nat.le_of_ble_eq_true rfl) (Nat.le_of_ble_eq_true rfl) ?_
      exact W.vret hx hb hr (fun t ht hW9 => ⟨⟨S, rfl, t0, wd_end hP hK hD ht hW9.alike⟩, hS.F ht⟩) hS.2.2 dX4_choose_23 hlocks
    · have c4i : x1.toInt < (S.I o1 6).toInt := nle_v rfl rfl c4
      refine lv_iload_n hx hb dX4_choose_18 rfl (lv_at hl 1 rfl) ?_
      refine lv_iconst (v := 5) hx hb dX4_choose_19 (by decide) ?_
      refine lv_icmp_lt (tgt := 24) hx hb dX4_choose_20 (by decide) (fun c5 => ?_) (fun c5 => ?_)
      · have c5i : x1.toInt < 5 := lt_v rfl rfl c5
        refine lv_iconst (v := 0) hx hb dX4_choose_24 (by decide) ?_
        refine lv_istore (lv' := [(4, .int (0 : Int32)), (0, .ref o1), (1, .int x1), (2, .int x2), (3, .int x3)]) hx hb dX4_choose_25 hl (by decide) rfl (fun ls hl => ?_)
        have l32_0 : (0 : Int32).toInt = 0 := rfl
        have loop27 : ∀ (n : Nat) (S27_ : wPS) (w27_4 : Int32) (H : Heap) (locs : List Loc) (ls : Array Slot), (5 - w27_4.toInt).toNat < n → 0 ≤ w27_4.toInt ∧ w27_4.toInt ≤ 5 → stp [(4, 8), (17, 100), (18, 100)] [] [] S S27_ → va_P D vwCl (X ++ PL cy S27_) H → va_D A (X ++ PL cy S27_) → va_S A s.heap H locs → lv_has ls 6 [(4, .int w27_4), (0, .ref o1), (1, .int x1), (2, .int x2), (3, .int x3)] → (∀ (S27_x : wPS) (w27_4x : Int32) (H : Heap) (locs : List Loc) (ls : Array Slot), 0 ≤ w27_4x.toInt ∧ w27_4x.toInt ≤ 5 → stp [(4, 8), (17, 100), (18, 100)] [] [] S S27_x → va_P D vwCl (X ++ PL cy S27_x) H → va_D A (X ++ PL cy S27_x) → va_S A s.heap H locs → lv_has ls 6 [(4, .int w27_4x), (0, .ref o1), (1, .int x1), (2, .int x2), (3, .int x3)] → W p l e (headSpec wsX4_choose ({ frames := 4, cells := 0, slots := 0, locals := 111 } : Room)).room s m [.ref o1, .int x1, .int x2, .int x3].toArray below meth c H locs 0 0 (MQ below (va_Qv (fun (u : wPS) => stp [(4, 8), (17, 100), (18, 100)] [] [] S u) (fun u t => WD D cy X A u t) A) [.ref o1, .int x1, .int x2, .int x3].toArray s 0 0 A) (F0 m 116 ls [])) → W p l e (headSpec wsX4_choose ({ frames := 4, cells := 0, slots := 0, locals := 111 } : Room)).room s m [.ref o1, .int x1, .int x2, .int x3].toArray below meth c H locs 0 0 (MQ below (va_Qv (fun (u : wPS) => stp [(4, 8), (17, 100), (18, 100)] [] [] S u) (fun u t => WD D cy X A u t) A) [.ref o1, .int x1, .int x2, .int x3].toArray s 0 0 A) (F0 m 27 ls []) := by
          intro n27
          induction n27 with
          | zero => intro S27_ w27_4 H locs ls hm; exact absurd hm (Nat.not_lt_zero _)
          | succ n27 ih27 =>
            intro S27_ w27_4 H locs ls hm27 hi27 hsh27 hP hD hS hl ko27
            refine lv_iload hx hb dX4_choose_27 (lv_at hl 0 rfl) ?_
            refine lv_aload_n hx hb dX4_choose_29 rfl (lv_at hl 1 rfl) ?_
            obtain ⟨k6, gk6, hk6⟩ := wGt (cy := cy) X S27_ (hsh27.x.A h_o1).1 (hsh27.x.A h_o1).2.1
            have i7 := ((hsh27.w.at (hsh27.x.A h_o1) List.not_mem_nil).to_4 (hsh27.x.A h_o1).2.1).R7
            refine va_get (D := D) (ci := 8) (v := .int (S27_.I o1 7)) (C := RX4) (T := TX4) (N := 9) hx hb hts hi_X4_choose_X4 hown hK hP k6 hk6 rfl 7 (by decide) (hts (.fieldLink RX4 38 "Hobhouse$Matching" "secondCount" "I") (by decide +kernel)) (fun _ h9 => h9) rfl dX4_choose_30 ?_
            refine lv_icmp_ge (tgt := 116) hx hb dX4_choose_33 (by decide) (fun c8 => ?_) (fun c8 => ?_)
            · have c8i : (S27_.I o1 7).toInt ≤ w27_4.toInt := le_v rfl rfl c8
              exact ko27 S27_ w27_4 _ _ _ (by omega) hsh27 hP hD hS (lv_sub hl [0, 1, 2, 3, 4] rfl)
            · have c8i : w27_4.toInt < (S27_.I o1 7).toInt := nle_v rfl rfl c8
              refine lv_aload_n hx hb dX4_choose_36 rfl (lv_at hl 1 rfl) ?_
              have F9 := ((hW.at h_o1 List.not_mem_nil).to_4 h_o1.2.1).F2
              obtain ⟨k10, gk10, hk10⟩ := wGt (cy := cy) X S27_ (hsh27.x.A h_o1).1 (hsh27.x.A h_o1).2.1
              simp only [kE, (hsh27.x.F h_o1 (by decide) F9.1)] at hk10
              refine va_get (D := D) (ci := 8) (v := .ref (S.f o1 2)) (C := RX4) (T := TX4) (N := 9) hx hb hts hi_X4_choose_X4 hown hK hP k10 hk10 rfl 2 (by decide) (hts (.fieldLink RX4 20 "Hobhouse$Matching" "peaks" "[I") (by decide +kernel)) (fun _ h9 => h9) rfl dX4_choose_37 ?_
              refine lv_iload_n hx hb dX4_choose_40 rfl (lv_at hl 2 rfl) ?_
              refine lv_iconst (v := 5) hx hb dX4_choose_41 (by decide) ?_
              refine lv_imul hx hb dX4_choose_42 ?_
              refine lv_iload hx hb dX4_choose_43 (lv_at hl 0 rfl) ?_
              refine lv_iadd hx hb dX4_choose_45 ?_
              have l32_5 : (5 : Int32).toInt = 5 := rfl
              have i11 : (x1 * (5 : Int32)).toInt = x1.toInt * 5 := t_mulr rfl (by omega)
              have i12 : ((x1 * (5 : Int32)) + w27_4).toInt = (x1 * (5 : Int32)).toInt + w27_4.toInt := t_add (by omega)
              obtain ⟨k13, gk13, hk13⟩ := wGt (cy := cy) X S27_ (hsh27.x.A F9.2.1).1 (hsh27.x.A F9.2.1).2.1
              refine va_iald hx hb hK hP k13 2 hk13 rfl (inb (m := 25) ((hsh27.x.n F9.2.1).trans F9.2.2) (by omega) (by omega)) dX4_choose_46 ?_
              refine lv_istore (lv' := [(5, .int (S27_.i (S.f o1 2) ((x1 * (5 : Int32)) + w27_4).toNatClampNeg)), (4, .int w27_4), (0, .ref o1), (1, .int x1), (2, .int x2), (3, .int x3)]) hx hb dX4_choose_47 hl (by decide) rfl (fun ls hl => ?_)
              refine lv_iload hx hb dX4_choose_49 (lv_at hl 0 rfl) ?_
              refine lv_iconst (v := -1) hx hb dX4_choose_51 (by decide) ?_
              refine lv_icmp_eq (tgt := 110) hx hb dX4_choose_52 (by decide) (fun c14 => ?_) (fun c14 => ?_)
              · have c14i : (S27_.i (S.f o1 2) ((x1 * (5 : Int32)) + w27_4).toNatClampNeg).toInt = -1 := eq_v rfl rfl c14
                refine lv_iinc (v := w27_4 + (1 : Int32)) (lv' := [(4, .int (w27_4 + (1 : Int32))), (5, .int (S27_.i (S.f o1 2) ((x1 * (5 : Int32)) + w27_4).toNatClampNeg)), (0, .ref o1), (1, .int x1), (2, .int x2), (3, .int x3)]) hx hb dX4_choose_110 hl (k := 1) rfl (by rfl) (by decide) rfl (fun ls hl => ?_)
                refine lv_goto (tgt := 27) hx hb dX4_choose_113 (by decide) ?_
                have l32_1 : (1 : Int32).toInt = 1 := rfl
                have i15 : (w27_4 + (1 : Int32)).toInt = w27_4.toInt + 1 := t_addr (n := 1) rfl (by omega)
                exact ih27 S27_ (w27_4 + (1 : Int32)) _ _ _ (Nat.lt_of_lt_of_le (by omega) (Nat.le_of_lt_succ hm27)) (by omega) hsh27 hP hD hS (lv_sub hl [0, 2, 3, 4, 5] rfl) ko27
              · have c14i : ¬ (S27_.i (S.f o1 2) ((x1 * (5 : Int32)) + w27_4).toNatClampNeg).toInt = -1 := neq_v rfl rfl c14
                refine lv_aload_n hx hb dX4_choose_55 rfl (lv_at hl 2 rfl) ?_
                have F16 := ((hW.at h_o1 List.not_mem_nil).to_4 h_o1.2.1).F3
                obtain ⟨k17, gk17, hk17⟩ := wGt (cy := cy) X S27_ (hsh27.x.A h_o1).1 (hsh27.x.A h_o1).2.1
                simp only [kE, (hsh27.x.F h_o1 (by decide) F16.1)] at hk17
                refine va_get (D := D) (ci := 8) (v := .ref (S.f o1 3)) (C := RX4) (T := TX4) (N := 9) hx hb hts hi_X4_choose_X4 hown hK hP k17 hk17 rfl 3 (by decide) (hts (.fieldLink RX4 24 "Hobhouse$Matching" "isTaken" "[Z") (by decide +kernel)) (fun _ h9 => h9) rfl dX4_choose_56 ?_
                refine lv_iload hx hb dX4_choose_59 (lv_at hl 1 rfl) ?_
                obtain ⟨k18, gk18, hk18⟩ := wGt (cy := cy) X S27_ (hsh27.x.A F16.2.1).1 (hsh27.x.A F16.2.1).2.1
                refine va_zald hx hb hK hP k18 3 hk18 rfl (inb (m := 5) ((hsh27.x.n F16.2.1).trans F16.2.2) (by omega) (by omega)) dX4_choose_61 ?_
                refine lv_if_ne (tgt := 110) hx hb dX4_choose_62 (by decide) (fun c19 => ?_) (fun c19 => ?_)
                · have c19i : ¬ (S27_.i (S.f o1 3) w27_4.toNatClampNeg).toInt = 0 := neq_v rfl rfl c19
                  refine lv_iinc (v := w27_4 + (1 : Int32)) (lv' := [(4, .int (w27_4 + (1 : Int32))), (5, .int (S27_.i (S.f o1 2) ((x1 * (5 : Int32)) + w27_4).toNatClampNeg)), (0, .ref o1), (1, .int x1), (2, .int x2), (3, .int x3)]) hx hb dX4_choose_110 hl (k := 1) rfl (by rfl) (by decide) rfl (fun ls hl => ?_)
                  refine lv_goto (tgt := 27) hx hb dX4_choose_113 (by decide) ?_
                  have l32_1 : (1 : Int32).toInt = 1 := rfl
                  have i20 : (w27_4 + (1 : Int32)).toInt = w27_4.toInt + 1 := t_addr (n := 1) rfl (by omega)
                  exact ih27 S27_ (w27_4 + (1 : Int32)) _ _ _ (Nat.lt_of_lt_of_le (by omega) (Nat.le_of_lt_succ hm27)) (by omega) hsh27 hP hD hS (lv_sub hl [0, 2, 3, 4, 5] rfl) ko27
                · have c19i : (S27_.i (S.f o1 3) w27_4.toNatClampNeg).toInt = 0 := eq_v rfl rfl c19
                  refine lv_aload_n hx hb dX4_choose_65 rfl (lv_at hl 2 rfl) ?_
                  obtain ⟨k21, gk21, hk21⟩ := wGt (cy := cy) X S27_ (hsh27.x.A h_o1).1 (hsh27.x.A h_o1).2.1
                  simp only [kE, (hsh27.x.F h_o1 (by decide) F16.1)] at hk21
                  refine va_get (D := D) (ci := 8) (v := .ref (S.f o1 3)) (C := RX4) (T := TX4) (N := 9) hx hb hts hi_X4_choose_X4 hown hK hP k21 hk21 rfl 3 (by decide) (hts (.fieldLink RX4 24 "Hobhouse$Matching" "isTaken" "[Z") (by decide +kernel)) (fun _ h9 => h9) rfl dX4_choose_66 ?_
                  refine lv_iload hx hb dX4_choose_69 (lv_at hl 1 rfl) ?_
                  refine lv_iconst (v := 1) hx hb dX4_choose_71 (by decide) ?_
                  obtain ⟨k22, gk22, hk22⟩ := wGt (cy := cy) X S27_ (hsh27.x.A F16.2.1).1 (hsh27.x.A F16.2.1).2.1
                  refine va_zast hx hb hK hP hD hS k22 3 hk22 rfl (inb (m := 5) ((hsh27.x.n F16.2.1).trans F16.2.2) (by omega) (by omega)) dX4_choose_72 (fun H locs hP2 hD2 hS => ?_)
                  have e9 := wPui (cy := cy) (f := (upd (S27_.i (S.f o1 3)) w27_4.toNatClampNeg (vp_nar .boolean (1 : Int32)))) hD (hsh27.x.A F16.2.1).1 (hsh27.x.A F16.2.1).2.1 gk22 rfl
                  obtain ⟨S23, hS23⟩ : ∃ z, S27_.si (S.f o1 3) (upd (S27_.i (S.f o1 3)) w27_4.toNatClampNeg (vp_nar .boolean (1 : Int32))) = z := ⟨_, rfl⟩
                  have hP : va_P D vwCl (X ++ PL cy S23) H := by rw [← hS23, ← e9]; exact hP2
                  have hD : va_D A (X ++ PL cy S23) := by rw [← hS23, ← e9]; exact hD2
                  have xe24 : ext S27_ S23 := by rw [← hS23]; exact ext.si _ _ _
                  have t25 : stp [(4, 8), (17, 100), (18, 100)] [] [] S S23 := by rw [← hS23]; exact hsh27.i (upd (S27_.i (S.f o1 3)) w27_4.toNatClampNeg (vp_nar .boolean (1 : Int32))) (hsh27.x.A F16.2.1) (by decide)
                  refine lv_aload_n hx hb dX4_choose_73 rfl (lv_at hl 2 rfl) ?_
                  have F26 := ((hW.at h_o1 List.not_mem_nil).to_4 h_o1.2.1).F4
                  obtain ⟨k27, gk27, hk27⟩ := wGt (cy := cy) X S23 (xe24.A (hsh27.x.A h_o1)).1 (xe24.A (hsh27.x.A h_o1)).2.1
                  simp only [kE, ((hsh27.x.tr xe24).F h_o1 (by decide) F26.1)] at hk27
                  refine va_get (D := D) (ci := 8) (v := .ref (S.f o1 4)) (C := RX4) (T := TX4) (N := 9) hx hb hts hi_X4_choose_X4 hown hK hP k27 hk27 rfl 4 (by decide) (hts (.fieldLink RX4 28 "Hobhouse$Matching" "partners" "[I") (by decide +kernel)) (fun _ h9 => h9) rfl dX4_choose_74 ?_
                  refine lv_iload_n hx hb dX4_choose_77 rfl (lv_at hl 3 rfl) ?_
                  refine lv_iload hx hb dX4_choose_78 (lv_at hl 1 rfl) ?_
                  obtain ⟨k28, gk28, hk28⟩ := wGt (cy := cy) X S23 ((hsh27.x.tr xe24).A F26.2.1).1 ((hsh27.x.tr xe24).A F26.2.1).2.1
                  refine va_iast hx hb hK hP hD hS k28 2 hk28 rfl (inb (m := 5) (((hsh27.x.tr xe24).n F26.2.1).trans F26.2.2) (by omega) (by omega)) dX4_choose_80 (fun H locs hP2 hD2 hS => ?_)
                  have e9 := wPui (cy := cy) (f := (upd (S23.i (S.f o1 4)) x1.toNatClampNeg w27_4)) hD ((hsh27.x.tr xe24).A F26.2.1).1 ((hsh27.x.tr xe24).A F26.2.1).2.1 gk28 rfl
                  obtain ⟨S29, hS29⟩ : ∃ z, S23.si (S.f o1 4) (upd (S23.i (S.f o1 4)) x1.toNatClampNeg w27_4) = z := ⟨_, rfl⟩
                  have hP : va_P D vwCl (X ++ PL cy S29) H := by rw [← hS29, ← e9]; exact hP2
                  have hD : va_D A (X ++ PL cy S29) := by rw [← hS29, ← e9]; exact hD2
                  have xe30 : ext S23 S29 := by rw [← hS29]; exact ext.si _ _ _
                  have t31 : stp [(4, 8), (17, 100), (18, 100)] [] [] S S29 := by rw [← hS29]; exact t25.i (upd (S23.i (S.f o1 4)) x1.toNatClampNeg w27_4) ((hsh27.x.tr xe24).A F26.2.1) (by decide)
                  refine lv_aload_n hx hb dX4_choose_81 rfl (lv_at hl 2 rfl) ?_
                  refine lv_iload_n hx hb dX4_choose_82 rfl (lv_at hl 3 rfl) ?_
                  refine lv_iconst (v := 1) hx hb dX4_choose_83 (by decide) ?_
                  refine lv_iadd hx hb dX4_choose_84 ?_
                  refine lv_iload_n hx hb dX4_choose_85 rfl (lv_at hl 4 rfl) ?_
                  refine lv_iconst (v := 1) hx hb dX4_choose_86 (by decide) ?_
                  refine lv_isub hx hb dX4_choose_87 ?_
                  refine lv_iload_n hx hb dX4_choose_88 rfl (lv_at hl 5 rfl) ?_
                  refine lv_iload hx hb dX4_choose_89 (lv_at hl 0 rfl) ?_
                  refine lv_iadd hx hb dX4_choose_91 ?_
                  have l32_1 : (1 : Int32).toInt = 1 := rfl
                  have i32 : (x1 + (1 : Int32)).toInt = x1.toInt + 1 := t_addr (n := 1) rfl (by omega)
                  have hFc := free_all hD hS hA
                  refine va_callv (va_runS (As := [.ref o1, .int (x1 + (1 : Int32)), .int (x2 - (1 : Int32)), .int (x3 + (S27_.i (S.f o1 2) ((x1 * (5 : Int32)) + w27_4).toNatClampNeg))]) (rest := []) ⟨hx, hb, hml, hown, hts⟩ (c_X4_choose_1 l (cy := cy) (X := X) (D := D) S29 _ o1 (xe30.A (xe24.A (hsh27.x.A h_o1))) (x1 + (1 : Int32)) (x2 - (1 : Int32)) (x3 + (S27_.i (S.f o1 2) ((x1 * (5 : Int32)) + w27_4).toNatClampNeg)) (t31.w) (by omega) (by omega)) (cwS 4 hts gX4_choose_X4_choose rfl rfl rfl hd_X4_choose ⟨Nat.le_of_ble_eq_true rfl, Nat.le_of_ble_eq_true rfl⟩) (pS hP hK hD hN) rfl rfl hl.1 rfl (lv_room (Nat.le_of_ble_eq_true rfl)) dX4_choose_92 ⟨(Nat.zero_le _), (Nat.zero_le _)⟩) hS (fun q _ h => hFc q h) hFc (fun u t H1 locs ht hvm hw hB hz1 hk1 hS => ?_)
                  have w34 := hw
                  obtain ⟨hP, hD⟩ := wd_post hFc ht hB
                  generalize H1 = H at hP hS ⊢
                  obtain ⟨S35, rfl⟩ : ∃ z, z = u := ⟨_, rfl⟩
                  have t36 : stp [(4, 8), (17, 100), (18, 100)] [] [] S S35 := t31.tr w34 (by decide) (fun _ q => absurd q List.not_mem_nil)
                  have xe37 : ext S29 S35 := w34.x
                  refine lv_aload_n hx hb dX4_choose_95 rfl (lv_at hl 2 rfl) ?_
                  obtain ⟨k38, gk38, hk38⟩ := wGt (cy := cy) X S35 (xe37.A (xe30.A (xe24.A (hsh27.x.A h_o1)))).1 (xe37.A (xe30.A (xe24.A (hsh27.x.A h_o1)))).2.1
                  simp only [kE, ((hsh27.x.tr (xe24.tr (xe30.tr xe37))).F h_o1 (by decide) F26.1)] at hk38
                  refine va_get (D := D) (ci := 8) (v := .ref (S.f o1 4)) (C := RX4) (T := TX4) (N := 9) hx hb hts hi_X4_choose_X4 hown hK hP k38 hk38 rfl 4 (by decide) (hts (.fieldLink RX4 28 "Hobhouse$Matching" "partners" "[I") (by decide +kernel)) (fun _ h9 => h9) rfl dX4_choose_96 ?_
                  refine lv_iload_n hx hb dX4_choose_99 rfl (lv_at hl 3 rfl) ?_
                  refine lv_iconst (v := -1) hx hb dX4_choose_100 (by decide) ?_
                  obtain ⟨k39, gk39, hk39⟩ := wGt (cy := cy) X S35 ((xe30.tr xe37).A ((hsh27.x.tr xe24).A F26.2.1)).1 ((xe30.tr xe37).A ((hsh27.x.tr xe24).A F26.2.1)).2.1
                  refine va_iast hx hb hK hP hD hS k39 2 hk39 rfl (inb (m := 5) (((hsh27.x.tr (xe24.tr (xe30.tr xe37))).n F26.2.1).trans F26.2.2) (by omega) (by omega)) dX4_choose_101 (fun H locs hP2 hD2 hS => ?_)
                  have e9 := wPui (cy := cy) (f := (upd (S35.i (S.f o1 4)) x1.toNatClampNeg (-1 : Int32))) hD ((xe30.tr xe37).A ((hsh27.x.tr xe24).A F26.2.1)).1 ((xe30.tr xe37).A ((hsh27.x.tr xe24).A F26.2.1)).2.1 gk39 rfl
                  obtain ⟨S40, hS40⟩ : ∃ z, S35.si (S.f o1 4) (upd (S35.i (S.f o1 4)) x1.toNatClampNeg (-1 : Int32)) = z := ⟨_, rfl⟩
                  have hP : va_P D vwCl (X ++ PL cy S40) H := by rw [← hS40, ← e9]; exact hP2
                  have hD : va_D A (X ++ PL cy S40) := by rw [← hS40, ← e9]; exact hD2
                  have xe41 : ext S35 S40 := by rw [← hS40]; exact ext.si _ _ _
                  have t42 : stp [(4, 8), (17, 100), (18, 100)] [] [] S S40 := by rw [← hS40]; exact t36.i (upd (S35.i (S.f o1 4)) x1.toNatClampNeg (-1 : Int32)) ((xe30.tr xe37).A ((hsh27.x.tr xe24).A F26.2.1)) (by decide)
                  refine lv_aload_n hx hb dX4_choose_102 rfl (lv_at hl 2 rfl) ?_
                  obtain ⟨k43, gk43, hk43⟩ := wGt (cy := cy) X S40 (xe41.A (xe37.A (xe30.A (xe24.A (hsh27.x.A h_o1))))).1 (xe41.A (xe37.A (xe30.A (xe24.A (hsh27.x.A h_o1))))).2.1
                  simp only [kE, ((hsh27.x.tr (xe24.tr (xe30.tr (xe37.tr xe41)))).F h_o1 (by decide) F16.1)] at hk43
                  refine va_get (D := D) (ci := 8) (v := .ref (S.f o1 3)) (C := RX4) (T := TX4) (N := 9) hx hb hts hi_X4_choose_X4 hown hK hP k43 hk43 rfl 3 (by decide) (hts (.fieldLink RX4 24 "Hobhouse$Matching" "isTaken" "[Z") (by decide +kernel)) (fun _ h9 => h9) rfl dX4_choose_103 ?_
                  refine lv_iload hx hb dX4_choose_106 (lv_at hl 1 rfl) ?_
                  refine lv_iconst (v := 0) hx hb dX4_choose_108 (by decide) ?_
                  obtain ⟨k44, gk44, hk44⟩ := wGt (cy := cy) X S40 ((xe24.tr (xe30.tr (xe37.tr xe41))).A (hsh27.x.A F16.2.1)).1 ((xe24.tr (xe30.tr (xe37.tr xe41))).A (hsh27.x.A F16.2.1)).2.1
                  refine va_zast hx hb hK hP hD hS k44 3 hk44 rfl (inb (m := 5) (((hsh27.x.tr (xe24.tr (xe30.tr (xe37.tr xe41)))).n F16.2.1).trans F16.2.2) (by omega) (by omega)) dX4_choose_109 (fun H locs hP2 hD2 hS => ?_)
                  have e9 := wPui (cy := cy) (f := (upd (S40.i (S.f o1 3)) w27_4.toNatClampNeg (vp_nar .boolean (0 : Int32)))) hD ((xe24.tr (xe30.tr (xe37.tr xe41))).A (hsh27.x.A F16.2.1)).1 ((xe24.tr (xe30.tr (xe37.tr xe41))).A (hsh27.x.A F16.2.1)).2.1 gk44 rfl
                  obtain ⟨S45, hS45⟩ : ∃ z, S40.si (S.f o1 3) (upd (S40.i (S.f o1 3)) w27_4.toNatClampNeg (vp_nar .boolean (0 : Int32))) = z := ⟨_, rfl⟩
                  have hP : va_P D vwCl (X ++ PL cy S45) H := by rw [← hS45, ← e9]; exact hP2
                  have hD : va_D A (X ++ PL cy S45) := by rw [← hS45, ← e9]; exact hD2
                  have xe46 : ext S40 S45 := by rw [← hS45]; exact ext.si _ _ _
                  have t47 : stp [(4, 8), (17, 100), (18, 100)] [] [] S S45 := by rw [← hS45]; exact t42.i (upd (S40.i (S.f o1 3)) w27_4.toNatClampNeg (vp_nar .boolean (0 : Int32))) ((xe24.tr (xe30.tr (xe37.tr xe41))).A (hsh27.x.A F16.2.1)) (by decide)
                  refine lv_iinc (v := w27_4 + (1 : Int32)) (lv' := [(4, .int (w27_4 + (1 : Int32))), (5, .int (S27_.i (S.f o1 2) ((x1 * (5 : Int32)) + w27_4).toNatClampNeg)), (0, .ref o1), (1, .int x1), (2, .int x2), (3, .int x3)]) hx hb dX4_choose_110 hl (k := 1) rfl (by rfl) (by decide) rfl (fun ls hl => ?_)
                  refine lv_goto (tgt := 27) hx hb dX4_choose_113 (by decide) ?_
                  have i48 : (w27_4 + (1 : Int32)).toInt = w27_4.toInt + 1 := t_addr (n := 1) rfl (by omega)
                  exact ih27 S45 (w27_4 + (1 : Int32)) _ _ _ (Nat.lt_of_lt_of_le (by omega) (Nat.le_of_lt_succ hm27)) (by omega) t47 hP hD hS (lv_sub hl [0, 2, 3, 4, 5] rfl) ko27
        refine loop27 6 S (0 : Int32) _ _ _ (by omega) (by omega) (stp.rf hW) hP hD hS (lv_sub hl [0, 1, 2, 3, 4] rfl) (fun S50 z51 H locs ls hi27 hsh27 hP hD hS hl => ?_)
        have t52 : stp [(4, 8), (17, 100), (18, 100)] [] [] S S50 := t0.tr hsh27 (fun _ q => q) (fun _ q => Or.inl q)
        have et52 := hsh27.x
        refine lv_aload_n hx hb dX4_choose_116 rfl (lv_at hl 1 rfl) ?_
        refine lv_iload_n hx hb dX4_choose_117 rfl (lv_at hl 2 rfl) ?_
        refine lv_iconst (v := 1) hx hb dX4_choose_118 (by decide) ?_
        refine lv_iadd hx hb dX4_choose_119 ?_
        refine lv_iload_n hx hb dX4_choose_120 rfl (lv_at hl 3 rfl) ?_
        refine lv_iload_n hx hb dX4_choose_121 rfl (lv_at hl 4 rfl) ?_
        have l32_1 : (1 : Int32).toInt = 1 := rfl
        have i53 : (x1 + (1 : Int32)).toInt = x1.toInt + 1 := t_addr (n := 1) rfl (by omega)
        have hFc := free_all hD hS hA
        refine va_callv (va_runS (As := [.ref o1, .int (x1 + (1 : Int32)), .int x2, .int x3]) (rest := []) ⟨hx, hb, hml, hown, hts⟩ (c_X4_choose_1 l (cy := cy) (X := X) (D := D) S50 _ o1 (et52.A h_o1) (x1 + (1 : Int32)) x2 x3 (t52.w) (by omega) (by omega)) (cwS 4 hts gX4_choose_X4_choose rfl rfl rfl hd_X4_choose ⟨Nat.le_of_ble_eq_true rfl, Nat.le_of_ble_eq_true rfl⟩) (pS hP hK hD hN) rfl rfl hl.1 rfl (lv_room (Nat.le_of_ble_eq_true rfl)) dX4_choose_122 ⟨(Nat.zero_le _), (Nat.zero_le _)⟩) hS (fun q _ h => hFc q h) hFc (fun u t H1 locs ht hvm hw hB hz1 hk1 hS => ?_)
        have w55 := hw
        obtain ⟨hP, hD⟩ := wd_post hFc ht hB
        generalize H1 = H at hP hS ⊢
        obtain ⟨S56, rfl⟩ : ∃ z, z = u := ⟨_, rfl⟩
        have t57 : stp [(4, 8), (17, 100), (18, 100)] [] [] S S56 := t52.tr w55 (by decide) (fun _ q => absurd q List.not_mem_nil)
        have xe58 : ext S50 S56 := w55.x
        refine W.widen (k := 0) (n := 0) (Nat.le_of_ble_eq_true rfl) (Nat.le_of_ble_eq_true rfl) ?_
        exact W.vret hx hb hr (fun t ht hW9 => ⟨⟨S56, rfl, t57, wd_end hP hK hD ht hW9.alike⟩, hS.F ht⟩) hS.2.2 dX4_choose_125 hlocks
      · have c5i : 5 ≤ x1.toInt := nlt_v rfl rfl c5
        refine W.widen (k := 0) (n := 0) (Nat.le_of_ble_eq_true rfl) (Nat.le_of_ble_eq_true rfl) ?_
        exact W.vret hx hb hr (fun t ht hW9 => ⟨⟨S, rfl, t0, wd_end hP hK hD ht hW9.alike⟩, hS.F ht⟩) hS.2.2 dX4_choose_23 hlocks
  · have c1i : x2.toInt = 0 := eq_v rfl rfl c1
    refine lv_aload_n hx hb dX4_choose_4 rfl (lv_at hl 0 rfl) ?_
    refine lv_iload_n hx hb dX4_choose_5 rfl (lv_at hl 3 rfl) ?_
    have hFc := free_all hD hS hA
    obtain ⟨k59, gk59, hk59⟩ := wGt (cy := cy) X S h_o1.1 h_o1.2.1
    refine va_callv (va_runV (As := [.int x3]) (rest := []) ⟨hx, hb, hml, hown, hts⟩ (c_X4_keepIfLess l (cy := cy) (X := X) (D := D) S _ o1 h_o1 x3 (hW)) (cwV 1 hts gX4_choose_X4_keepIfLess rfl rfl rfl hd_X4_keepIfLess ⟨Nat.le_of_ble_eq_true rfl, Nat.le_of_ble_eq_true rfl⟩) (pV (va_recv hK hP (q := (RX4, TX4, 9)) (ci := 8) (q0 := k59) rfl hk59) hP hK hD hN) rfl rfl hl.1 rfl (lv_room (Nat.le_of_ble_eq_true rfl)) dX4_choose_6 ⟨(Nat.zero_le _), (Nat.zero_le _)⟩) hS (fun q _ h => hFc q h) hFc (fun u t H1 locs ht hvm hw hB hz1 hk1 hS => ?_)
    have w61 := hw
    obtain ⟨hP, hD⟩ := wd_post hFc ht hB
    generalize H1 = H at hP hS ⊢
    obtain ⟨S62, rfl⟩ : ∃ z, z = u := ⟨_, rfl⟩
    have t63 : stp [(4, 8), (17, 100), (18, 100)] [] [] S S62 := t0.tr w61 (by decide) (fun _ q => absurd q List.not_mem_nil)
    have xe64 : ext S S62 := w61.x
    refine W.widen (k := 0) (n := 0) (Nat.le_of_ble_eq_true rfl) (Nat.le_of_ble_eq_true rfl) ?_
    exact W.vret hx hb hr (fun t ht hW9 => ⟨⟨S62, rfl, t63, wd_end hP hK hD ht hW9.alike⟩, hS.F ht⟩) hS.2.2 dX4_choose_9 hlocks
set_option maxHeartbeats 4000000 in
set_option maxRecDepth 100000 in
theorem c_X4_choose_3 (l : Launch) {D : va_G} {cy : Nat → ClassId} {X : va_W} (S : wPS) (sz : Nat) (o1 : Nat) (h_o1 : isA S o1 4) (x1 : Int32) (x2 : Int32) (x3 : Int32) (hW : wtB S []) (h1 : 0 ≤ x1.toInt ∧ x1.toInt ≤ 5) (h2 : 2 ≤ x1.toInt) : Met l yX4_choose wsX4_choose ({ frames := 5, cells := 0, slots := 0, locals := 136 }) (va_Pc [.ref o1, .int x1, .int x2, .int x3] (fun U => U.heap.size = sz ∧ WD D cy X (fun _ => True) S U ∧ NW U)) (va_Qv (fun (u : wPS) => stp [(4, 8), (17, 100), (18, 100)] [] [] S u) (fun u t => WD D cy X (va_A (X ++ PL cy S) sz) u t) (va_A (X ++ PL cy S) sz)) 0 0 (va_A (X ++ PL cy S) sz) := by
  refine Met.ofW (cc := cX4_choose) (maxL := 6) (ret := none) (by decide) rfl ?_
  intro p e s m args below meth c s₁ B hml hv
  obtain ⟨rfl, hsz, ⟨hP, hK, hD0⟩, hN⟩ := hv
  have hx := B.exec
  have hb := B.bytes
  have hr := B.returns
  have hts := atoms_spec (ws := wsX4_choose) B.pre
  have hown : s.vm.findClass RX4 = some m.cls := findClass_of_methodNamed (x := yX4_choose) B.named
  have hlocks := B.notSynchronized
  subst hsz
  have hD := hD0.self (sz := s.heap.size)
  generalize hAe : va_A (X ++ PL cy S) s.heap.size = A at hD ⊢
  have hA : ∀ q : Nat, s.heap.size ≤ q → A q := fun q h => by rw [← hAe]; exact Or.inr h
  have hS : va_S A s.heap s.heap [] := va_S.rf
  have hl := lv_entry ([.ref o1, .int x1, .int x2, .int x3]) (n := 6) (Nat.le_of_ble_eq_true rfl)
  rw [lg_entry_eq]
  generalize (lg_sl ([.ref o1, .int x1, .int x2, .int x3]) ++ List.replicate (6 - (lg_sl ([.ref o1, .int x1, .int x2, .int x3])).length) Slot.unset).toArray = ls at hl ⊢
  have hl : lv_has ls 6 [(0, .ref o1), (1, .int x1), (2, .int x2), (3, .int x3)] := hl
  have t0 : stp [(4, 8), (17, 100), (18, 100)] [] [] S S := stp.rf hW
  refine lv_iload_n hx hb dX4_choose_0 rfl (lv_at hl 2 rfl) ?_
  refine lv_if_ne (tgt := 10) hx hb dX4_choose_1 (by decide) (fun c1 => ?_) (fun c1 => ?_)
  · have c1i : ¬ x2.toInt = 0 := neq_v rfl rfl c1
    refine lv_iload_n hx hb dX4_choose_10 rfl (lv_at hl 1 rfl) ?_
    refine lv_aload_n hx hb dX4_choose_11 rfl (lv_at hl 0 rfl) ?_
    obtain ⟨k2, gk2, hk2⟩ := wGt (cy := cy) X S h_o1.1 h_o1.2.1
    have i3 := ((hW.at h_o1 List.not_mem_nil).to_4 h_o1.2.1).R6
    refine va_get (D := D) (ci := 8) (v := .int (S.I o1 6)) (C := RX4) (T := TX4) (N := 9) hx hb hts hi_X4_choose_X4 hown hK hP k2 hk2 rfl 6 (by decide) (hts (.fieldLink RX4 34 "Hobhouse$Matching" "firstCount" "I") (by decide +kernel)) (fun _ h9 => h9) rfl dX4_choose_12 ?_
    refine lv_icmp_ge (tgt := 23) hx hb dX4_choose_15 (by decide) (fun c4 => ?_) (fun c4 => ?_)
    · have c4i : (S.I o1 6).toInt ≤ x1.toInt := le_v rfl rfl c4
      refine W.widen (k := 0) (n := 0) (Nat.le_of_ble_eq_true rfl) (Nat.le_of_ble_eq_true rfl) ?_
      exact W.vret hx hb hr (fun t ht hW9 => ⟨⟨S, rfl, t0, wd_end hP hK hD ht hW9.alike⟩, hS.F ht⟩) hS.2.2 dX4_choose_23 hlocks
    · have c4i : x1.toInt < (S.I o1 6).toInt := nle_v rfl rfl c4
      refine lv_iload_n hx hb dX4_choose_18 rfl (lv_at hl 1 rfl) ?_
      refine lv_iconst (v := 5) hx hb dX4_choose_19 (by decide) ?_
      refine lv_icmp_lt (tgt := 24) hx hb dX4_choose_20 (by decide) (fun c5 => ?_) (fun c5 => ?_)
      · have c5i : x1.toInt < 5 := lt_v rfl rfl c5
        refine lv_iconst (v := 0) hx hb dX4_choose_24 (by decide) ?_
        refine lv_istore (lv' := [(4, .int (0 : Int32)), (0, .ref o1), (1, .int x1), (2, .int x2), (3, .int x3)]) hx hb dX4_choose_25 hl (by decide) rfl (fun ls hl => ?_)
        have l32_0 : (0 : Int32).toInt = 0 := rfl
        have loop27 : ∀ (n : Nat) (S27_ : wPS) (w27_4 : Int32) (H : Heap) (locs : List Loc) (ls : Array Slot), (5 - w27_4.toInt).toNat < n → 0 ≤ w27_4.toInt ∧ w27_4.toInt ≤ 5 → stp [(4, 8), (17, 100), (18, 100)] [] [] S S27_ → va_P D vwCl (X ++ PL cy S27_) H → va_D A (X ++ PL cy S27_) → va_S A s.heap H locs → lv_has ls 6 [(4, .int w27_4), (0, .ref o1), (1, .int x1), (2, .int x2), (3, .int x3)] → (∀ (S27_x : wPS) (w27_4x : Int32) (H : Heap) (locs : List Loc) (ls : Array Slot), 0 ≤ w27_4x.toInt ∧ w27_4x.toInt ≤ 5 → stp [(4, 8), (17, 100), (18, 100)] [] [] S S27_x → va_P D vwCl (X ++ PL cy S27_x) H → va_D A (X ++ PL cy S27_x) → va_S A s.heap H locs → lv_has ls 6 [(4, .int w27_4x), (0, .ref o1), (1, .int x1), (2, .int x2), (3, .int x3)] → W p l e (headSpec wsX4_choose ({ frames := 5, cells := 0, slots := 0, locals := 136 } : Room)).room s m [.ref o1, .int x1, .int x2, .int x3].toArray below meth c H locs 0 0 (MQ below (va_Qv (fun (u : wPS) => stp [(4, 8), (17, 100), (18, 100)] [] [] S u) (fun u t => WD D cy X A u t) A) [.ref o1, .int x1, .int x2, .int x3].toArray s 0 0 A) (F0 m 116 ls [])) → W p l e (headSpec wsX4_choose ({ frames := 5, cells := 0, slots := 0, locals := 136 } : Room)).room s m [.ref o1, .int x1, .int x2, .int x3].toArray below meth c H locs 0 0 (MQ below (va_Qv (fun (u : wPS) => stp [(4, 8), (17, 100), (18, 100)] [] [] S u) (fun u t => WD D cy X A u t) A) [.ref o1, .int x1, .int x2, .int x3].toArray s 0 0 A) (F0 m 27 ls []) := by
          intro n27
          induction n27 with
          | zero => intro S27_ w27_4 H locs ls hm; exact absurd hm (Nat.not_lt_zero _)
          | succ n27 ih27 =>
            intro S27_ w27_4 H locs ls hm27 hi27 hsh27 hP hD hS hl ko27
            refine lv_iload hx hb dX4_choose_27 (lv_at hl 0 rfl) ?_
            refine lv_aload_n hx hb dX4_choose_29 rfl (lv_at hl 1 rfl) ?_
            obtain ⟨k6, gk6, hk6⟩ := wGt (cy := cy) X S27_ (hsh27.x.A h_o1).1 (hsh27.x.A h_o1).2.1
            have i7 := ((hsh27.w.at (hsh27.x.A h_o1) List.not_mem_nil).to_4 (hsh27.x.A h_o1).2.1).R7
            refine va_get (D := D) (ci := 8) (v := .int (S27_.I o1 7)) (C := RX4) (T := TX4) (N := 9) hx hb hts hi_X4_choose_X4 hown hK hP k6 hk6 rfl 7 (by decide) (hts (.fieldLink RX4 38 "Hobhouse$Matching" "secondCount" "I") (by decide +kernel)) (fun _ h9 => h9) rfl dX4_choose_30 ?_
            refine lv_icmp_ge (tgt := 116) hx hb dX4_choose_33 (by decide) (fun c8 => ?_) (fun c8 => ?_)
            · have c8i : (S27_.I o1 7).toInt ≤ w27_4.toInt := le_v rfl rfl c8
              exact ko27 S27_ w27_4 _ _ _ (by omega) hsh27 hP hD hS (lv_sub hl [0, 1, 2, 3, 4] rfl)
            · have c8i : w27_4.toInt < (S27_.I o1 7).toInt := nle_v rfl rfl c8
              refine lv_aload_n hx hb dX4_choose_36 rfl (lv_at hl 1 rfl) ?_
              have F9 := ((hW.at h_o1 List.not_mem_nil).to_4 h_o1.2.1).F2
              obtain ⟨k10, gk10, hk10⟩ := wGt (cy := cy) X S27_ (hsh27.x.A h_o1).1 (hsh27.x.A h_o1).2.1
              simp only [kE, (hsh27.x.F h_o1 (by decide) F9.1)] at hk10
              refine va_get (D := D) (ci := 8) (v := .ref (S.f o1 2)) (C := RX4) (T := TX4) (N := 9) hx hb hts hi_X4_choose_X4 hown hK hP k10 hk10 rfl 2 (by decide) (hts (.fieldLink RX4 20 "Hobhouse$Matching" "peaks" "[I") (by decide +kernel)) (fun _ h9 => h9) rfl dX4_choose_37 ?_
              refine lv_iload_n hx hb dX4_choose_40 rfl (lv_at hl 2 rfl) ?_
              refine lv_iconst (v := 5) hx hb dX4_choose_41 (by decide) ?_
              refine lv_imul hx hb dX4_choose_42 ?_
              refine lv_iload hx hb dX4_choose_43 (lv_at hl 0 rfl) ?_
              refine lv_iadd hx hb dX4_choose_45 ?_
              have l32_5 : (5 : Int32).toInt = 5 := rfl
              have i11 : (x1 * (5 : Int32)).toInt = x1.toInt * 5 := t_mulr rfl (by omega)
              have i12 : ((x1 * (5 : Int32)) + w27_4).toInt = (x1 * (5 : Int32)).toInt + w27_4.toInt := t_add (by omega)
              obtain ⟨k13, gk13, hk13⟩ := wGt (cy := cy) X S27_ (hsh27.x.A F9.2.1).1 (hsh27.x.A F9.2.1).2.1
              refine va_iald hx hb hK hP k13 2 hk13 rfl (inb (m := 25) ((hsh27.x.n F9.2.1).trans F9.2.2) (by omega) (by omega)) dX4_choose_46 ?_
              refine lv_istore (lv' := [(5, .int (S27_.i (S.f o1 2) ((x1 * (5 : Int32)) + w27_4).toNatClampNeg)), (4, .int w27_4), (0, .ref o1), (1, .int x1), (2, .int x2), (3, .int x3)]) hx hb dX4_choose_47 hl (by decide) rfl (fun ls hl => ?_)
              refine lv_iload hx hb dX4_choose_49 (lv_at hl 0 rfl) ?_
              refine lv_iconst (v := -1) hx hb dX4_choose_51 (by decide) ?_
              refine lv_icmp_eq (tgt := 110) hx hb dX4_choose_52 (by decide) (fun c14 => ?_) (fun c14 => ?_)
              · have c14i : (S27_.i (S.f o1 2) ((x1 * (5 : Int32)) + w27_4).toNatClampNeg).toInt = -1 := eq_v rfl rfl c14
                refine lv_iinc (v := w27_4 + (1 : Int32)) (lv' := [(4, .int (w27_4 + (1 : Int32))), (5, .int (S27_.i (S.f o1 2) ((x1 * (5 : Int32)) + w27_4).toNatClampNeg)), (0, .ref o1), (1, .int x1), (2, .int x2), (3, .int x3)]) hx hb dX4_choose_110 hl (k := 1) rfl (by rfl) (by decide) rfl (fun ls hl => ?_)
                refine lv_goto (tgt := 27) hx hb dX4_choose_113 (by decide) ?_
                have l32_1 : (1 : Int32).toInt = 1 := rfl
                have i15 : (w27_4 + (1 : Int32)).toInt = w27_4.toInt + 1 := t_addr (n := 1) rfl (by omega)
                exact ih27 S27_ (w27_4 + (1 : Int32)) _ _ _ (Nat.lt_of_lt_of_le (by omega) (Nat.le_of_lt_succ hm27)) (by omega) hsh27 hP hD hS (lv_sub hl [0, 2, 3, 4, 5] rfl) ko27
              · have c14i : ¬ (S27_.i (S.f o1 2) ((x1 * (5 : Int32)) + w27_4).toNatClampNeg).toInt = -1 := neq_v rfl rfl c14
                refine lv_aload_n hx hb dX4_choose_55 rfl (lv_at hl 2 rfl) ?_
                have F16 := ((hW.at h_o1 List.not_mem_nil).to_4 h_o1.2.1).F3
                obtain ⟨k17, gk17, hk17⟩ := wGt (cy := cy) X S27_ (hsh27.x.A h_o1).1 (hsh27.x.A h_o1).2.1
                simp only [kE, (hsh27.x.F h_o1 (by decide) F16.1)] at hk17
                refine va_get (D := D) (ci := 8) (v := .ref (S.f o1 3)) (C := RX4) (T := TX4) (N := 9) hx hb hts hi_X4_choose_X4 hown hK hP k17 hk17 rfl 3 (by decide) (hts (.fieldLink RX4 24 "Hobhouse$Matching" "isTaken" "[Z") (by decide +kernel)) (fun _ h9 => h9) rfl dX4_choose_56 ?_
                refine lv_iload hx hb dX4_choose_59 (lv_at hl 1 rfl) ?_
                obtain ⟨k18, gk18, hk18⟩ := wGt (cy := cy) X S27_ (hsh27.x.A F16.2.1).1 (hsh27.x.A F16.2.1).2.1
                refine va_zald hx hb hK hP k18 3 hk18 rfl (inb (m := 5) ((hsh27.x.n F16.2.1).trans F16.2.2) (by omega) (by omega)) dX4_choose_61 ?_
                refine lv_if_ne (tgt := 110) hx hb dX4_choose_62 (by decide) (fun c19 => ?_) (fun c19 => ?_)
                · have c19i : ¬ (S27_.i (S.f o1 3) w27_4.toNatClampNeg).toInt = 0 := neq_v rfl rfl c19
                  refine lv_iinc (v := w27_4 + (1 : Int32)) (lv' := [(4, .int (w27_4 + (1 : Int32))), (5, .int (S27_.i (S.f o1 2) ((x1 * (5 : Int32)) + w27_4).toNatClampNeg)), (0, .ref o1), (1, .int x1), (2, .int x2), (3, .int x3)]) hx hb dX4_choose_110 hl (k := 1) rfl (by rfl) (by decide) rfl (fun ls hl => ?_)
                  refine lv_goto (tgt := 27) hx hb dX4_choose_113 (by decide) ?_
                  have l32_1 : (1 : Int32).toInt = 1 := rfl
                  have i20 : (w27_4 + (1 : Int32)).toInt = w27_4.toInt + 1 := t_addr (n := 1) rfl (by omega)
                  exact ih27 S27_ (w27_4 + (1 : Int32)) _ _ _ (Nat.lt_of_lt_of_le (by omega) (Nat.le_of_lt_succ hm27)) (by omega) hsh27 hP hD hS (lv_sub hl [0, 2, 3, 4, 5] rfl) ko27
                · have c19i : (S27_.i (S.f o1 3) w27_4.toNatClampNeg).toInt = 0 := eq_v rfl rfl c19
                  refine lv_aload_n hx hb dX4_choose_65 rfl (lv_at hl 2 rfl) ?_
                  obtain ⟨k21, gk21, hk21⟩ := wGt (cy := cy) X S27_ (hsh27.x.A h_o1).1 (hsh27.x.A h_o1).2.1
                  simp only [kE, (hsh27.x.F h_o1 (by decide) F16.1)] at hk21
                  refine va_get (D := D) (ci := 8) (v := .ref (S.f o1 3)) (C := RX4) (T := TX4) (N := 9) hx hb hts hi_X4_choose_X4 hown hK hP k21 hk21 rfl 3 (by decide) (hts (.fieldLink RX4 24 "Hobhouse$Matching" "isTaken" "[Z") (by decide +kernel)) (fun _ h9 => h9) rfl dX4_choose_66 ?_
                  refine lv_iload hx hb dX4_choose_69 (lv_at hl 1 rfl) ?_
                  refine lv_iconst (v := 1) hx hb dX4_choose_71 (by decide) ?_
                  obtain ⟨k22, gk22, hk22⟩ := wGt (cy := cy) X S27_ (hsh27.x.A F16.2.1).1 (hsh27.x.A F16.2.1).2.1
                  refine va_zast hx hb hK hP hD hS k22 3 hk22 rfl (inb (m := 5) ((hsh27.x.n F16.2.1).trans F16.2.2) (by omega) (by omega)) dX4_choose_72 (fun H locs hP2 hD2 hS => ?_)
                  have e9 := wPui (cy := cy) (f := (upd (S27_.i (S.f o1 3)) w27_4.toNatClampNeg (vp_nar .boolean (1 : Int32)))) hD (hsh27.x.A F16.2.1).1 (hsh27.x.A F16.2.1).2.1 gk22 rfl
                  obtain ⟨S23, hS23⟩ : ∃ z, S27_.si (S.f o1 3) (upd (S27_.i (S.f o1 3)) w27_4.toNatClampNeg (vp_nar .boolean (1 : Int32))) = z := ⟨_, rfl⟩
                  have hP : va_P D vwCl (X ++ PL cy S23) H := by rw [← hS23, ← e9]; exact hP2
                  have hD : va_D A (X ++ PL cy S23) := by rw [← hS23, ← e9]; exact hD2
                  have xe24 : ext S27_ S23 := by rw [← hS23]; exact ext.si _ _ _
                  have t25 : stp [(4, 8), (17, 100), (18, 100)] [] [] S S23 := by rw [← hS23]; exact hsh27.i (upd (S27_.i (S.f o1 3)) w27_4.toNatClampNeg (vp_nar .boolean (1 : Int32))) (hsh27.x.A F16.2.1) (by decide)
                  refine lv_aload_n hx hb dX4_choose_73 rfl (lv_at hl 2 rfl) ?_
                  have F26 := ((hW.at h_o1 List.not_mem_nil).to_4 h_o1.2.1).F4
                  obtain ⟨k27, gk27, hk27⟩ := wGt (cy := cy) X S23 (xe24.A (hsh27.x.A h_o1)).1 (xe24.A (hsh27.x.A h_o1)).2.1
                  simp only [kE, ((hsh27.x.tr xe24).F h_o1 (by decide) F26.1)] at hk27
                  refine va_get (D := D) (ci := 8) (v := .ref (S.f o1 4)) (C := RX4) (T := TX4) (N := 9) hx hb hts hi_X4_choose_X4 hown hK hP k27 hk27 rfl 4 (by decide) (hts (.fieldLink RX4 28 "Hobhouse$Matching" "partners" "[I") (by decide +kernel)) (fun _ h9 => h9) rfl dX4_choose_74 ?_
                  refine lv_iload_n hx hb dX4_choose_77 rfl (lv_at hl 3 rfl) ?_
                  refine lv_iload hx hb dX4_choose_78 (lv_at hl 1 rfl) ?_
                  obtain ⟨k28, gk28, hk28⟩ := wGt (cy := cy) X S23 ((hsh27.x.tr xe24).A F26.2.1).1 ((hsh27.x.tr xe24).A F26.2.1).2.1
                  refine va_iast hx hb hK hP hD hS k28 2 hk28 rfl (inb (m := 5) (((hsh27.x.tr xe24).n F26.2.1).trans F26.2.2) (by omega) (by omega)) dX4_choose_80 (fun H locs hP2 hD2 hS => ?_)
                  have e9 := wPui (cy := cy) (f := (upd (S23.i (S.f o1 4)) x1.toNatClampNeg w27_4)) hD ((hsh27.x.tr xe24).A F26.2.1).1 ((hsh27.x.tr xe24).A F26.2.1).2.1 gk28 rfl
                  obtain ⟨S29, hS29⟩ : ∃ z, S23.si (S.f o1 4) (upd (S23.i (S.f o1 4)) x1.toNatClampNeg w27_4) = z := ⟨_, rfl⟩
                  have hP : va_P D vwCl (X ++ PL cy S29) H := by rw [← hS29, ← e9]; exact hP2
                  have hD : va_D A (X ++ PL cy S29) := by rw [← hS29, ← e9]; exact hD2
                  have xe30 : ext S23 S29 := by rw [← hS29]; exact ext.si _ _ _
                  have t31 : stp [(4, 8), (17, 100), (18, 100)] [] [] S S29 := by rw [← hS29]; exact t25.i (upd (S23.i (S.f o1 4)) x1.toNatClampNeg w27_4) ((hsh27.x.tr xe24).A F26.2.1) (by decide)
                  refine lv_aload_n hx hb dX4_choose_81 rfl (lv_at hl 2 rfl) ?_
                  refine lv_iload_n hx hb dX4_choose_82 rfl (lv_at hl 3 rfl) ?_
                  refine lv_iconst (v := 1) hx hb dX4_choose_83 (by decide) ?_
                  refine lv_iadd hx hb dX4_choose_84 ?_
                  refine lv_iload_n hx hb dX4_choose_85 rfl (lv_at hl 4 rfl) ?_
                  refine lv_iconst (v := 1) hx hb dX4_choose_86 (by decide) ?_
                  refine lv_isub hx hb dX4_choose_87 ?_
                  refine lv_iload_n hx hb dX4_choose_88 rfl (lv_at hl 5 rfl) ?_
                  refine lv_iload hx hb dX4_choose_89 (lv_at hl 0 rfl) ?_
                  refine lv_iadd hx hb dX4_choose_91 ?_
                  have l32_1 : (1 : Int32).toInt = 1 := rfl
                  have i32 : (x1 + (1 : Int32)).toInt = x1.toInt + 1 := t_addr (n := 1) rfl (by omega)
                  have hFc := free_all hD hS hA
                  refine va_callv (va_runS (As := [.ref o1, .int (x1 + (1 : Int32)), .int (x2 - (1 : Int32)), .int (x3 + (S27_.i (S.f o1 2) ((x1 * (5 : Int32)) + w27_4).toNatClampNeg))]) (rest := []) ⟨hx, hb, hml, hown, hts⟩ (c_X4_choose_2 l (cy := cy) (X := X) (D := D) S29 _ o1 (xe30.A (xe24.A (hsh27.x.A h_o1))) (x1 + (1 : Int32)) (x2 - (1 : Int32)) (x3 + (S27_.i (S.f o1 2) ((x1 * (5 : Int32)) + w27_4).toNatClampNeg)) (t31.w) (by omega) (by omega)) (cwS 4 hts gX4_choose_X4_choose rfl rfl rfl hd_X4_choose ⟨Nat.le_of_ble_eq_true rfl, Nat.le_of_ble_eq_true rfl⟩) (pS hP hK hD hN) rfl rfl hl.1 rfl (lv_room (Nat.le_of_ble_eq_true rfl)) dX4_choose_92 ⟨(Nat.zero_le _), (Nat.zero_le _)⟩) hS (fun q _ h => hFc q h) hFc (fun u t H1 locs ht hvm hw hB hz1 hk1 hS => ?_)
                  have w34 := hw
                  obtain ⟨hP, hD⟩ := wd_post hFc ht hB
                  generalize H1 = H at hP hS ⊢
                  obtain ⟨S35, rfl⟩ : ∃ z, z = u := ⟨_, rfl⟩
                  have t36 : stp [(4, 8), (17, 100), (18, 100)] [] [] S S35 := t31.tr w34 (by decide) (fun _ q => absurd q List.not_mem_nil)
                  have xe37 : ext S29 S35 := w34.x
                  refine lv_aload_n hx hb dX4_choose_95 rfl (lv_at hl 2 rfl) ?_
                  obtain ⟨k38, gk38, hk38⟩ := wGt (cy := cy) X S35 (xe37.A (xe30.A (xe24.A (hsh27.x.A h_o1)))).1 (xe37.A (xe30.A (xe24.A (hsh27.x.A h_o1)))).2.1
                  simp only [kE, ((hsh27.x.tr (xe24.tr (xe30.tr xe37))).F h_o1 (by decide) F26.1)] at hk38
                  refine va_get (D := D) (ci := 8) (v := .ref (S.f o1 4)) (C := RX4) (T := TX4) (N := 9) hx hb hts hi_X4_choose_X4 hown hK hP k38 hk38 rfl 4 (by decide) (hts (.fieldLink RX4 28 "Hobhouse$Matching" "partners" "[I") (by decide +kernel)) (fun _ h9 => h9) rfl dX4_choose_96 ?_
                  refine lv_iload_n hx hb dX4_choose_99 rfl (lv_at hl 3 rfl) ?_
                  refine lv_iconst (v := -1) hx hb dX4_choose_100 (by decide) ?_
                  obtain ⟨k39, gk39, hk39⟩ := wGt (cy := cy) X S35 ((xe30.tr xe37).A ((hsh27.x.tr xe24).A F26.2.1)).1 ((xe30.tr xe37).A ((hsh27.x.tr xe24).A F26.2.1)).2.1
                  refine va_iast hx hb hK hP hD hS k39 2 hk39 rfl (inb (m := 5) (((hsh27.x.tr (xe24.tr (xe30.tr xe37))).n F26.2.1).trans F26.2.2) (by omega) (by omega)) dX4_choose_101 (fun H locs hP2 hD2 hS => ?_)
                  have e9 := wPui (cy := cy) (f := (upd (S35.i (S.f o1 4)) x1.toNatClampNeg (-1 : Int32))) hD ((xe30.tr xe37).A ((hsh27.x.tr xe24).A F26.2.1)).1 ((xe30.tr xe37).A ((hsh27.x.tr xe24).A F26.2.1)).2.1 gk39 rfl
                  obtain ⟨S40, hS40⟩ : ∃ z, S35.si (S.f o1 4) (upd (S35.i (S.f o1 4)) x1.toNatClampNeg (-1 : Int32)) = z := ⟨_, rfl⟩
                  have hP : va_P D vwCl (X ++ PL cy S40) H := by rw [← hS40, ← e9]; exact hP2
                  have hD : va_D A (X ++ PL cy S40) := by rw [← hS40, ← e9]; exact hD2
                  have xe41 : ext S35 S40 := by rw [← hS40]; exact ext.si _ _ _
                  have t42 : stp [(4, 8), (17, 100), (18, 100)] [] [] S S40 := by rw [← hS40]; exact t36.i (upd (S35.i (S.f o1 4)) x1.toNatClampNeg (-1 : Int32)) ((xe30.tr xe37).A ((hsh27.x.tr xe24).A F26.2.1)) (by decide)
                  refine lv_aload_n hx hb dX4_choose_102 rfl (lv_at hl 2 rfl) ?_
                  obtain ⟨k43, gk43, hk43⟩ := wGt (cy := cy) X S40 (xe41.A (xe37.A (xe30.A (xe24.A (hsh27.x.A h_o1))))).1 (xe41.A (xe37.A (xe30.A (xe24.A (hsh27.x.A h_o1))))).2.1
                  simp only [kE, ((hsh27.x.tr (xe24.tr (xe30.tr (xe37.tr xe41)))).F h_o1 (by decide) F16.1)] at hk43
                  refine va_get (D := D) (ci := 8) (v := .ref (S.f o1 3)) (C := RX4) (T := TX4) (N := 9) hx hb hts hi_X4_choose_X4 hown hK hP k43 hk43 rfl 3 (by decide) (hts (.fieldLink RX4 24 "Hobhouse$Matching" "isTaken" "[Z") (by decide +kernel)) (fun _ h9 => h9) rfl dX4_choose_103 ?_
                  refine lv_iload hx hb dX4_choose_106 (lv_at hl 1 rfl) ?_
                  refine lv_iconst (v := 0) hx hb dX4_choose_108 (by decide) ?_
                  obtain ⟨k44, gk44, hk44⟩ := wGt (cy := cy) X S40 ((xe24.tr (xe30.tr (xe37.tr xe41))).A (hsh27.x.A F16.2.1)).1 ((xe24.tr (xe30.tr (xe37.tr xe41))).A (hsh27.x.A F16.2.1)).2.1
                  refine va_zast hx hb hK hP hD hS k44 3 hk44 rfl (inb (m := 5) (((hsh27.x.tr (xe24.tr (xe30.tr (xe37.tr xe41)))).n F16.2.1).trans F16.2.2) (by omega) (by omega)) dX4_choose_109 (fun H locs hP2 hD2 hS => ?_)
                  have e9 := wPui (cy := cy) (f := (upd (S40.i (S.f o1 3)) w27_4.toNatClampNeg (vp_nar .boolean (0 : Int32)))) hD ((xe24.tr (xe30.tr (xe37.tr xe41))).A (hsh27.x.A F16.2.1)).1 ((xe24.tr (xe30.tr (xe37.tr xe41))).A (hsh27.x.A F16.2.1)).2.1 gk44 rfl
                  obtain ⟨S45, hS45⟩ : ∃ z, S40.si (S.f o1 3) (upd (S40.i (S.f o1 3)) w27_4.toNatClampNeg (vp_nar .boolean (0 : Int32))) = z := ⟨_, rfl⟩
                  have hP : va_P D vwCl (X ++ PL cy S45) H := by rw [← hS45, ← e9]; exact hP2
                  have hD : va_D A (X ++ PL cy S45) := by rw [← hS45, ← e9]; exact hD2
                  have xe46 : ext S40 S45 := by rw [← hS45]; exact ext.si _ _ _
                  have t47 : stp [(4, 8), (17, 100), (18, 100)] [] [] S S45 := by rw [← hS45]; exact t42.i (upd (S40.i (S.f o1 3)) w27_4.toNatClampNeg (vp_nar .boolean (0 : Int32))) ((xe24.tr (xe30.tr (xe37.tr xe41))).A (hsh27.x.A F16.2.1)) (by decide)
                  refine lv_iinc (v := w27_4 + (1 : Int32)) (lv' := [(4, .int (w27_4 + (1 : Int32))), (5, .int (S27_.i (S.f o1 2) ((x1 * (5 : Int32)) + w27_4).toNatClampNeg)), (0, .ref o1), (1, .int x1), (2, .int x2), (3, .int x3)]) hx hb dX4_choose_110 hl (k := 1) rfl (by rfl) (by decide) rfl (fun ls hl => ?_)
                  refine lv_goto (tgt := 27) hx hb dX4_choose_113 (by decide) ?_
                  have i48 : (w27_4 + (1 : Int32)).toInt = w27_4.toInt + 1 := t_addr (n := 1) rfl (by omega)
                  exact ih27 S45 (w27_4 + (1 : Int32)) _ _ _ (Nat.lt_of_lt_of_le (by omega) (Nat.le_of_lt_succ hm27)) (by omega) t47 hP hD hS (lv_sub hl [0, 2, 3, 4, 5] rfl) ko27
        refine loop27 6 S (0 : Int32) _ _ _ (by omega) (by omega) (stp.rf hW) hP hD hS (lv_sub hl [0, 1, 2, 3, 4] rfl) (fun S50 z51 H locs ls hi27 hsh27 hP hD hS hl => ?_)
        have t52 : stp [(4, 8), (17, 100), (18, 100)] [] [] S S50 := t0.tr hsh27 (fun _ q => q) (fun _ q => Or.inl q)
        have et52 := hsh27.x
        refine lv_aload_n hx hb dX4_choose_116 rfl (lv_at hl 1 rfl) ?_
        refine lv_iload_n hx hb dX4_choose_117 rfl (lv_at hl 2 rfl) ?_
        refine lv_iconst (v := 1) hx hb dX4_choose_118 (by decide) ?_
        refine lv_iadd hx hb dX4_choose_119 ?_
        refine lv_iload_n hx hb dX4_choose_120 rfl (lv_at hl 3 rfl) ?_
        refine lv_iload_n hx hb dX4_choose_121 rfl (lv_at hl 4 rfl) ?_
        have l32_1 : (1 : Int32).toInt = 1 := rfl
        have i53 : (x1 + (1 : Int32)).toInt = x1.toInt + 1 := t_addr (n := 1) rfl (by omega)
        have hFc := free_all hD hS hA
        refine va_callv (va_runS (As := [.ref o1, .int (x1 + (1 : Int32)), .int x2, .int x3]) (rest := []) ⟨hx, hb, hml, hown, hts⟩ (c_X4_choose_2 l (cy := cy) (X := X) (D := D) S50 _ o1 (et52.A h_o1) (x1 + (1 : Int32)) x2 x3 (t52.w) (by omega) (by omega)) (cwS 4 hts gX4_choose_X4_choose rfl rfl rfl hd_X4_choose ⟨Nat.le_of_ble_eq_true rfl, Nat.le_of_ble_eq_true rfl⟩) (pS hP hK hD hN) rfl rfl hl.1 rfl (lv_room (Nat.le_of_ble_eq_true rfl)) dX4_choose_122 ⟨(Nat.zero_le _), (Nat.zero_le _)⟩) hS (fun q _ h => hFc q h) hFc (fun u t H1 locs ht hvm hw hB hz1 hk1 hS => ?_)
        have w55 := hw
        obtain ⟨hP, hD⟩ := wd_post hFc ht hB
        generalize H1 = H at hP hS ⊢
        obtain ⟨S56, rfl⟩ : ∃ z, z = u := ⟨_, rfl⟩
        have t57 : stp [(4, 8), (17, 100), (18, 100)] [] [] S S56 := t52.tr w55 (by decide) (fun _ q => absurd q List.not_mem_nil)
        have xe58 : ext S50 S56 := w55.x
        refine W.widen (k := 0) (n := 0) (Nat.le_of_ble_eq_true rfl) (Nat.le_of_ble_eq_true rfl) ?_
        exact W.vret hx hb hr (fun t ht hW9 => ⟨⟨S56, rfl, t57, wd_end hP hK hD ht hW9.alike⟩, hS.F ht⟩) hS.2.2 dX4_choose_125 hlocks
      · have c5i : 5 ≤ x1.toInt := nlt_v rfl rfl c5
        refine W.widen (k := 0) (n := 0) (Nat.le_of_ble_eq_true rfl) (Nat.le_of_ble_eq_true rfl) ?_
        exact W.vret hx hb hr (fun t ht hW9 => ⟨⟨S, rfl, t0, wd_end hP hK hD ht hW9.alike⟩, hS.F ht⟩) hS.2.2 dX4_choose_23 hlocks
  · have c1i : x2.toInt = 0 := eq_v rfl rfl c1
    refine lv_aload_n hx hb dX4_choose_4 rfl (lv_at hl 0 rfl) ?_
    refine lv_iload_n hx hb dX4_choose_5 rfl (lv_at hl 3 rfl) ?_
    have hFc := free_all hD hS hA
    obtain ⟨k59, gk59, hk59⟩ := wGt (cy := cy) X S h_o1.1 h_o1.2.1
    refine va_callv (va_runV (As := [.int x3]) (rest := []) ⟨hx, hb, hml, hown, hts⟩ (c_X4_keepIfLess l (cy := cy) (X := X) (D := D) S _ o1 h_o1 x3 (hW)) (cwV 1 hts gX4_choose_X4_keepIfLess rfl rfl rfl hd_X4_keepIfLess ⟨Nat.le_of_ble_eq_true rfl, Nat.le_of_ble_eq_true rfl⟩) (pV (va_recv hK hP (q := (RX4, TX4, 9)) (ci := 8) (q0 := k59) rfl hk59) hP hK hD hN) rfl rfl hl.1 rfl (lv_room (Nat.le_of_ble_eq_true rfl)) dX4_choose_6 ⟨(Nat.zero_le _), (Nat.zero_le _)⟩) hS (fun q _ h => hFc q h) hFc (fun u t H1 locs ht hvm hw hB hz1 hk1 hS => ?_)
    have w61 := hw
    obtain ⟨hP, hD⟩ := wd_post hFc ht hB
    generalize H1 = H at hP hS ⊢
    obtain ⟨S62, rfl⟩ : ∃ z, z = u := ⟨_, rfl⟩
    have t63 : stp [(4, 8), (17, 100), (18, 100)] [] [] S S62 := t0.tr w61 (by decide) (fun _ q => absurd q List.not_mem_nil)
    have xe64 : ext S S62 := w61.x
    refine W.widen (k := 0) (n := 0) (Nat.le_of_ble_eq_true rfl) (Nat.le_of_ble_eq_true rfl) ?_
    exact W.vret hx hb hr (fun t ht hW9 => ⟨⟨S62, rfl, t63, wd_end hP hK hD ht hW9.alike⟩, hS.F ht⟩) hS.2.2 dX4_choose_9 hlocks
set_option maxHeartbeats 4000000 in
set_option maxRecDepth 100000 in
theorem c_X4_choose_4 (l : Launch) {D : va_G} {cy : Nat → ClassId} {X : va_W} (S : wPS) (sz : Nat) (o1 : Nat) (h_o1 : isA S o1 4) (x1 : Int32) (x2 : Int32) (x3 : Int32) (hW : wtB S []) (h1 : 0 ≤ x1.toInt ∧ x1.toInt ≤ 5) (h2 : 1 ≤ x1.toInt) : Met l yX4_choose wsX4_choose ({ frames := 6, cells := 0, slots := 0, locals := 161 }) (va_Pc [.ref o1, .int x1, .int x2, .int x3] (fun U => U.heap.size = sz ∧ WD D cy X (fun _ => True) S U ∧ NW U)) (va_Qv (fun (u : wPS) => stp [(4, 8), (17, 100), (18, 100)] [] [] S u) (fun u t => WD D cy X (va_A (X ++ PL cy S) sz) u t) (va_A (X ++ PL cy S) sz)) 0 0 (va_A (X ++ PL cy S) sz) := by
  refine Met.ofW (cc := cX4_choose) (maxL := 6) (ret := none) (by decide) rfl ?_
  intro p e s m args below meth c s₁ B hml hv
  obtain ⟨rfl, hsz, ⟨hP, hK, hD0⟩, hN⟩ := hv
  have hx := B.exec
  have hb := B.bytes
  have hr := B.returns
  have hts := atoms_spec (ws := wsX4_choose) B.pre
  have hown : s.vm.findClass RX4 = some m.cls := findClass_of_methodNamed (x := yX4_choose) B.named
  have hlocks := B.notSynchronized
  subst hsz
  have hD := hD0.self (sz := s.heap.size)
  generalize hAe : va_A (X ++ PL cy S) s.heap.size = A at hD ⊢
  have hA : ∀ q : Nat, s.heap.size ≤ q → A q := fun q h => by rw [← hAe]; exact Or.inr h
  have hS : va_S A s.heap s.heap [] := va_S.rf
  have hl := lv_entry ([.ref o1, .int x1, .int x2, .int x3]) (n := 6) (Nat.le_of_ble_eq_true rfl)
  rw [lg_entry_eq]
  generalize (lg_sl ([.ref o1, .int x1, .int x2, .int x3]) ++ List.replicate (6 - (lg_sl ([.ref o1, .int x1, .int x2, .int x3])).length) Slot.unset).toArray = ls at hl ⊢
  have hl : lv_has ls 6 [(0, .ref o1), (1, .int x1), (2, .int x2), (3, .int x3)] := hl
  have t0 : stp [(4, 8), (17, 100), (18, 100)] [] [] S S := stp.rf hW
  refine lv_iload_n hx hb dX4_choose_0 rfl (lv_at hl 2 rfl) ?_
  refine lv_if_ne (tgt := 10) hx hb dX4_choose_1 (by decide) (fun c1 => ?_) (fun c1 => ?_)
  · have c1i : ¬ x2.toInt = 0 := neq_v rfl rfl c1
    refine lv_iload_n hx hb dX4_choose_10 rfl (lv_at hl 1 rfl) ?_
    refine lv_aload_n hx hb dX4_choose_11 rfl (lv_at hl 0 rfl) ?_
    obtain ⟨k2, gk2, hk2⟩ := wGt (cy := cy) X S h_o1.1 h_o1.2.1
    have i3 := ((hW.at h_o1 List.not_mem_nil).to_4 h_o1.2.1).R6
    refine va_get (D := D) (ci := 8) (v := .int (S.I o1 6)) (C := RX4) (T := TX4) (N := 9) hx hb hts hi_X4_choose_X4 hown hK hP k2 hk2 rfl 6 (by decide) (hts (.fieldLink RX4 34 "Hobhouse$Matching" "firstCount" "I") (by decide +kernel)) (fun _ h9 => h9) rfl dX4_choose_12 ?_
    refine lv_icmp_ge (tgt := 23) hx hb dX4_choose_15 (by decide) (fun c4 => ?_) (fun c4 => ?_)
    · have c4i : (S.I o1 6).toInt ≤ x1.toInt := le_v rfl rfl c4
      refine W.widen (k := 0) (n := 0) (Nat.le_of_ble_eq_true rfl) (Nat.le_of_ble_eq_true rfl) ?_
      exact W.vret hx hb hr (fun t ht hW9 => ⟨⟨S, rfl, t0, wd_end hP hK hD ht hW9.alike⟩, hS.F ht⟩) hS.2.2 dX4_choose_23 hlocks
    · have c4i : x1.toInt < (S.I o1 6).toInt := nle_v rfl rfl c4
      refine lv_iload_n hx hb dX4_choose_18 rfl (lv_at hl 1 rfl) ?_
      refine lv_iconst (v := 5) hx hb dX4_choose_19 (by decide) ?_
      refine lv_icmp_lt (tgt := 24) hx hb dX4_choose_20 (by decide) (fun c5 => ?_) (fun c5 => ?_)
      · have c5i : x1.toInt < 5 := lt_v rfl rfl c5
        refine lv_iconst (v := 0) hx hb dX4_choose_24 (by decide) ?_
        refine lv_istore (lv' := [(4, .int (0 : Int32)), (0, .ref o1), (1, .int x1), (2, .int x2), (3, .int x3)]) hx hb dX4_choose_25 hl (by decide) rfl (fun ls hl => ?_)
        have l32_0 : (0 : Int32).toInt = 0 := rfl
        have loop27 : ∀ (n : Nat) (S27_ : wPS) (w27_4 : Int32) (H : Heap) (locs : List Loc) (ls : Array Slot), (5 - w27_4.toInt).toNat < n → 0 ≤ w27_4.toInt ∧ w27_4.toInt ≤ 5 → stp [(4, 8), (17, 100), (18, 100)] [] [] S S27_ → va_P D vwCl (X ++ PL cy S27_) H → va_D A (X ++ PL cy S27_) → va_S A s.heap H locs → lv_has ls 6 [(4, .int w27_4), (0, .ref o1), (1, .int x1), (2, .int x2), (3, .int x3)] → (∀ (S27_x : wPS) (w27_4x : Int32) (H : Heap) (locs : List Loc) (ls : Array Slot), 0 ≤ w27_4x.toInt ∧ w27_4x.toInt ≤ 5 → stp [(4, 8), (17, 100), (18, 100)] [] [] S S27_x → va_P D vwCl (X ++ PL cy S27_x) H → va_D A (X ++ PL cy S27_x) → va_S A s.heap H locs → lv_has ls 6 [(4, .int w27_4x), (0, .ref o1), (1, .int x1), (2, .int x2), (3, .int x3)] → W p l e (headSpec wsX4_choose ({ frames := 6, cells := 0, slots := 0, locals := 161 } : Room)).room s m [.ref o1, .int x1, .int x2, .int x3].toArray below meth c H locs 0 0 (MQ below (va_Qv (fun (u : wPS) => stp [(4, 8), (17, 100), (18, 100)] [] [] S u) (fun u t => WD D cy X A u t) A) [.ref o1, .int x1, .int x2, .int x3].toArray s 0 0 A) (F0 m 116 ls [])) → W p l e (headSpec wsX4_choose ({ frames := 6, cells := 0, slots := 0, locals := 161 } : Room)).room s m [.ref o1, .int x1, .int x2, .int x3].toArray below meth c H locs 0 0 (MQ below (va_Qv (fun (u : wPS) => stp [(4, 8), (17, 100), (18, 100)] [] [] S u) (fun u t => WD D cy X A u t) A) [.ref o1, .int x1, .int x2, .int x3].toArray s 0 0 A) (F0 m 27 ls []) := by
          intro n27
          induction n27 with
          | zero => intro S27_ w27_4 H locs ls hm; exact absurd hm (Nat.not_lt_zero _)
          | succ n27 ih27 =>
            intro S27_ w27_4 H locs ls hm27 hi27 hsh27 hP hD hS hl ko27
            refine lv_iload hx hb dX4_choose_27 (lv_at hl 0 rfl) ?_
            refine lv_aload_n hx hb dX4_choose_29 rfl (lv_at hl 1 rfl) ?_
            obtain ⟨k6, gk6, hk6⟩ := wGt (cy := cy) X S27_ (hsh27.x.A h_o1).1 (hsh27.x.A h_o1).2.1
            have i7 := ((hsh27.w.at (hsh27.x.A h_o1) List.not_mem_nil).to_4 (hsh27.x.A h_o1).2.1).R7
            refine va_get (D := D) (ci := 8) (v := .int (S27_.I o1 7)) (C := RX4) (T := TX4) (N := 9) hx hb hts hi_X4_choose_X4 hown hK hP k6 hk6 rfl 7 (by decide) (hts (.fieldLink RX4 38 "Hobhouse$Matching" "secondCount" "I") (by decide +kernel)) (fun _ h9 => h9) rfl dX4_choose_30 ?_
            refine lv_icmp_ge (tgt := 116) hx hb dX4_choose_33 (by decide) (fun c8 => ?_) (fun c8 => ?_)
            · have c8i : (S27_.I o1 7).toInt ≤ w27_4.toInt := le_v rfl rfl c8
              exact ko27 S27_ w27_4 _ _ _ (by omega) hsh27 hP hD hS (lv_sub hl [0, 1, 2, 3, 4] rfl)
            · have c8i : w27_4.toInt < (S27_.I o1 7).toInt := nle_v rfl rfl c8
              refine lv_aload_n hx hb dX4_choose_36 rfl (lv_at hl 1 rfl) ?_
              have F9 := ((hW.at h_o1 List.not_mem_nil).to_4 h_o1.2.1).F2
              obtain ⟨k10, gk10, hk10⟩ := wGt (cy := cy) X S27_ (hsh27.x.A h_o1).1 (hsh27.x.A h_o1).2.1
              simp only [kE, (hsh27.x.F h_o1 (by decide) F9.1)] at hk10
              refine va_get (D := D) (ci := 8) (v := .ref (S.f o1 2)) (C := RX4) (T := TX4) (N := 9) hx hb hts hi_X4_choose_X4 hown hK hP k10 hk10 rfl 2 (by decide) (hts (.fieldLink RX4 20 "Hobhouse$Matching" "peaks" "[I") (by decide +kernel)) (fun _ h9 => h9) rfl dX4_choose_37 ?_
              refine lv_iload_n hx hb dX4_choose_40 rfl (lv_at hl 2 rfl) ?_
              refine lv_iconst (v := 5) hx hb dX4_choose_41 (by decide) ?_
              refine lv_imul hx hb dX4_choose_42 ?_
              refine lv_iload hx hb dX4_choose_43 (lv_at hl 0 rfl) ?_
              refine lv_iadd hx hb dX4_choose_45 ?_
              have l32_5 : (5 : Int32).toInt = 5 := rfl
              have i11 : (x1 * (5 : Int32)).toInt = x1.toInt * 5 := t_mulr rfl (by omega)
              have i12 : ((x1 * (5 : Int32)) + w27_4).toInt = (x1 * (5 : Int32)).toInt + w27_4.toInt := t_add (by omega)
              obtain ⟨k13, gk13, hk13⟩ := wGt (cy := cy) X S27_ (hsh27.x.A F9.2.1).1 (hsh27.x.A F9.2.1).2.1
              refine va_iald hx hb hK hP k13 2 hk13 rfl (inb (m := 25) ((hsh27.x.n F9.2.1).trans F9.2.2) (by omega) (by omega)) dX4_choose_46 ?_
              refine lv_istore (lv' := [(5, .int (S27_.i (S.f o1 2) ((x1 * (5 : Int32)) + w27_4).toNatClampNeg)), (4, .int w27_4), (0, .ref o1), (1, .int x1), (2, .int x2), (3, .int x3)]) hx hb dX4_choose_47 hl (by decide) rfl (fun ls hl => ?_)
              refine lv_iload hx hb dX4_choose_49 (lv_at hl 0 rfl) ?_
              refine lv_iconst (v := -1) hx hb dX4_choose_51 (by decide) ?_
              refine lv_icmp_eq (tgt := 110) hx hb dX4_choose_52 (by decide) (fun c14 => ?_) (fun c14 => ?_)
              · have c14i : (S27_.i (S.f o1 2) ((x1 * (5 : Int32)) + w27_4).toNatClampNeg).toInt = -1 := eq_v rfl rfl c14
                refine lv_iinc (v := w27_4 + (1 : Int32)) (lv' := [(4, .int (w27_4 + (1 : Int32))), (5, .int (S27_.i (S.f o1 2) ((x1 * (5 : Int32)) + w27_4).toNatClampNeg)), (0, .ref o1), (1, .int x1), (2, .int x2), (3, .int x3)]) hx hb dX4_choose_110 hl (k := 1) rfl (by rfl) (by decide) rfl (fun ls hl => ?_)
                refine lv_goto (tgt := 27) hx hb dX4_choose_113 (by decide) ?_
                have l32_1 : (1 : Int32).toInt = 1 := rfl
                have i15 : (w27_4 + (1 : Int32)).toInt = w27_4.toInt + 1 := t_addr (n := 1) rfl (by omega)
                exact ih27 S27_ (w27_4 + (1 : Int32)) _ _ _ (Nat.lt_of_lt_of_le (by omega) (Nat.le_of_lt_succ hm27)) (by omega) hsh27 hP hD hS (lv_sub hl [0, 2, 3, 4, 5] rfl) ko27
              · have c14i : ¬ (S27_.i (S.f o1 2) ((x1 * (5 : Int32)) + w27_4).toNatClampNeg).toInt = -1 := neq_v rfl rfl c14
                refine lv_aload_n hx hb dX4_choose_55 rfl (lv_at hl 2 rfl) ?_
                have F16 := ((hW.at h_o1 List.not_mem_nil).to_4 h_o1.2.1).F3
                obtain ⟨k17, gk17, hk17⟩ := wGt (cy := cy) X S27_ (hsh27.x.A h_o1).1 (hsh27.x.A h_o1).2.1
                simp only [kE, (hsh27.x.F h_o1 (by decide) F16.1)] at hk17
                refine va_get (D := D) (ci := 8) (v := .ref (S.f o1 3)) (C := RX4) (T := TX4) (N := 9) hx hb hts hi_X4_choose_X4 hown hK hP k17 hk17 rfl 3 (by decide) (hts (.fieldLink RX4 24 "Hobhouse$Matching" "isTaken" "[Z") (by decide +kernel)) (fun _ h9 => h9) rfl dX4_choose_56 ?_
                refine lv_iload hx hb dX4_choose_59 (lv_at hl 1 rfl) ?_
                obtain ⟨k18, gk18, hk18⟩ := wGt (cy := cy) X S27_ (hsh27.x.A F16.2.1).1 (hsh27.x.A F16.2.1).2.1
                refine va_zald hx hb hK hP k18 3 hk18 rfl (inb (m := 5) ((hsh27.x.n F16.2.1).trans F16.2.2) (by omega) (by omega)) dX4_choose_61 ?_
                refine lv_if_ne (tgt := 110) hx hb dX4_choose_62 (by decide) (fun c19 => ?_) (fun c19 => ?_)
                · have c19i : ¬ (S27_.i (S.f o1 3) w27_4.toNatClampNeg).toInt = 0 := neq_v rfl rfl c19
                  refine lv_iinc (v := w27_4 + (1 : Int32)) (lv' := [(4, .int (w27_4 + (1 : Int32))), (5, .int (S27_.i (S.f o1 2) ((x1 * (5 : Int32)) + w27_4).toNatClampNeg)), (0, .ref o1), (1, .int x1), (2, .int x2), (3, .int x3)]) hx hb dX4_choose_110 hl (k := 1) rfl (by rfl) (by decide) rfl (fun ls hl => ?_)
                  refine lv_goto (tgt := 27) hx hb dX4_choose_113 (by decide) ?_
                  have l32_1 : (1 : Int32).toInt = 1 := rfl
                  have i20 : (w27_4 + (1 : Int32)).toInt = w27_4.toInt + 1 := t_addr (n := 1) rfl (by omega)
                  exact ih27 S27_ (w27_4 + (1 : Int32)) _ _ _ (Nat.lt_of_lt_of_le (by omega) (Nat.le_of_lt_succ hm27)) (by omega) hsh27 hP hD hS (lv_sub hl [0, 2, 3, 4, 5] rfl) ko27
                · have c19i : (S27_.i (S.f o1 3) w27_4.toNatClampNeg).toInt = 0 := eq_v rfl rfl c19
                  refine lv_aload_n hx hb dX4_choose_65 rfl (lv_at hl 2 rfl) ?_
                  obtain ⟨k21, gk21, hk21⟩ := wGt (cy := cy) X S27_ (hsh27.x.A h_o1).1 (hsh27.x.A h_o1).2.1
                  simp only [kE, (hsh27.x.F h_o1 (by decide) F16.1)] at hk21
                  refine va_get (D := D) (ci := 8) (v := .ref (S.f o1 3)) (C := RX4) (T := TX4) (N := 9) hx hb hts hi_X4_choose_X4 hown hK hP k21 hk21 rfl 3 (by decide) (hts (.fieldLink RX4 24 "Hobhouse$Matching" "isTaken" "[Z") (by decide +kernel)) (fun _ h9 => h9) rfl dX4_choose_66 ?_
                  refine lv_iload hx hb dX4_choose_69 (lv_at hl 1 rfl) ?_
                  refine lv_iconst (v := 1) hx hb dX4_choose_71 (by decide) ?_
                  obtain ⟨k22, gk22, hk22⟩ := wGt (cy := cy) X S27_ (hsh27.x.A F16.2.1).1 (hsh27.x.A F16.2.1).2.1
                  refine va_zast hx hb hK hP hD hS k22 3 hk22 rfl (inb (m := 5) ((hsh27.x.n F16.2.1).trans F16.2.2) (by omega) (by omega)) dX4_choose_72 (fun H locs hP2 hD2 hS => ?_)
                  have e9 := wPui (cy := cy) (f := (upd (S27_.i (S.f o1 3)) w27_4.toNatClampNeg (vp_nar .boolean (1 : Int32)))) hD (hsh27.x.A F16.2.1).1 (hsh27.x.A F16.2.1).2.1 gk22 rfl
                  obtain ⟨S23, hS23⟩ : ∃ z, S27_.si (S.f o1 3) (upd (S27_.i (S.f o1 3)) w27_4.toNatClampNeg (vp_nar .boolean (1 : Int32))) = z := ⟨_, rfl⟩
                  have hP : va_P D vwCl (X ++ PL cy S23) H := by rw [← hS23, ← e9]; exact hP2
                  have hD : va_D A (X ++ PL cy S23) := by rw [← hS23, ← e9]; exact hD2
                  have xe24 : ext S27_ S23 := by rw [← hS23]; exact ext.si _ _ _
                  have t25 : stp [(4, 8), (17, 100), (18, 100)] [] [] S S23 := by rw [← hS23]; exact hsh27.i (upd (S27_.i (S.f o1 3)) w27_4.toNatClampNeg (vp_nar .boolean (1 : Int32))) (hsh27.x.A F16.2.1) (by decide)
                  refine lv_aload_n hx hb dX4_choose_73 rfl (lv_at hl 2 rfl) ?_
                  have F26 := ((hW.at h_o1 List.not_mem_nil).to_4 h_o1.2.1).F4
                  obtain ⟨k27, gk27, hk27⟩ := wGt (cy := cy) X S23 (xe24.A (hsh27.x.A h_o1)).1 (xe24.A (hsh27.x.A h_o1)).2.1
                  simp only [kE, ((hsh27.x.tr xe24).F h_o1 (by decide) F26.1)] at hk27
                  refine va_get (D := D) (ci := 8) (v := .ref (S.f o1 4)) (C := RX4) (T := TX4) (N := 9) hx hb hts hi_X4_choose_X4 hown hK hP k27 hk27 rfl 4 (by decide) (hts (.fieldLink RX4 28 "Hobhouse$Matching" "partners" "[I") (by decide +kernel)) (fun _ h9 => h9) rfl dX4_choose_74 ?_
                  refine lv_iload_n hx hb dX4_choose_77 rfl (lv_at hl 3 rfl) ?_
                  refine lv_iload hx hb dX4_choose_78 (lv_at hl 1 rfl) ?_
                  obtain ⟨k28, gk28, hk28⟩ := wGt (cy := cy) X S23 ((hsh27.x.tr xe24).A F26.2.1).1 ((hsh27.x.tr xe24).A F26.2.1).2.1
                  refine va_iast hx hb hK hP hD hS k28 2 hk28 rfl (inb (m := 5) (((hsh27.x.tr xe24).n F26.2.1).trans F26.2.2) (by omega) (by omega)) dX4_choose_80 (fun H locs hP2 hD2 hS => ?_)
                  have e9 := wPui (cy := cy) (f := (upd (S23.i (S.f o1 4)) x1.toNatClampNeg w27_4)) hD ((hsh27.x.tr xe24).A F26.2.1).1 ((hsh27.x.tr xe24).A F26.2.1).2.1 gk28 rfl
                  obtain ⟨S29, hS29⟩ : ∃ z, S23.si (S.f o1 4) (upd (S23.i (S.f o1 4)) x1.toNatClampNeg w27_4) = z := ⟨_, rfl⟩
                  have hP : va_P D vwCl (X ++ PL cy S29) H := by rw [← hS29, ← e9]; exact hP2
                  have hD : va_D A (X ++ PL cy S29) := by rw [← hS29, ← e9]; exact hD2
                  have xe30 : ext S23 S29 := by rw [← hS29]; exact ext.si _ _ _
                  have t31 : stp [(4, 8), (17, 100), (18, 100)] [] [] S S29 := by rw [← hS29]; exact t25.i (upd (S23.i (S.f o1 4)) x1.toNatClampNeg w27_4) ((hsh27.x.tr xe24).A F26.2.1) (by decide)
                  refine lv_aload_n hx hb dX4_choose_81 rfl (lv_at hl 2 rfl) ?_
                  refine lv_iload_n hx hb dX4_choose_82 rfl (lv_at hl 3 rfl) ?_
                  refine lv_iconst (v := 1) hx hb dX4_choose_83 (by decide) ?_
                  refine lv_iadd hx hb dX4_choose_84 ?_
                  refine lv_iload_n hx hb dX4_choose_85 rfl (lv_at hl 4 rfl) ?_
                  refine lv_iconst (v := 1) hx hb dX4_choose_86 (by decide) ?_
                  refine lv_isub hx hb dX4_choose_87 ?_
                  refine lv_iload_n hx hb dX4_choose_88 rfl (lv_at hl 5 rfl) ?_
                  refine lv_iload hx hb dX4_choose_89 (lv_at hl 0 rfl) ?_
                  refine lv_iadd hx hb dX4_choose_91 ?_
                  have l32_1 : (1 : Int32).toInt = 1 := rfl
                  have i32 : (x1 + (1 : Int32)).toInt = x1.toInt + 1 := t_addr (n := 1) rfl (by omega)
                  have hFc := free_all hD hS hA
                  refine va_callv (va_runS (As := [.ref o1, .int (x1 + (1 : Int32)), .int (x2 - (1 : Int32)), .int (x3 + (S27_.i (S.f o1 2) ((x1 * (5 : Int32)) + w27_4).toNatClampNeg))]) (rest := []) ⟨hx, hb, hml, hown, hts⟩ (c_X4_choose_3 l (cy := cy) (X := X) (D := D) S29 _ o1 (xe30.A (xe24.A (hsh27.x.A h_o1))) (x1 + (1 : Int32)) (x2 - (1 : Int32)) (x3 + (S27_.i (S.f o1 2) ((x1 * (5 : Int32)) + w27_4).toNatClampNeg)) (t31.w) (by omega) (by omega)) (cwS 4 hts gX4_choose_X4_choose rfl rfl rfl hd_X4_choose ⟨Nat.le_of_ble_eq_true rfl, Nat.le_of_ble_eq_true rfl⟩) (pS hP hK hD hN) rfl rfl hl.1 rfl (lv_room (Nat.le_of_ble_eq_true rfl)) dX4_choose_92 ⟨(Nat.zero_le _), (Nat.zero_le _)⟩) hS (fun q _ h => hFc q h) hFc (fun u t H1 locs ht hvm hw hB hz1 hk1 hS => ?_)
                  have w34 := hw
                  obtain ⟨hP, hD⟩ := wd_post hFc ht hB
                  generalize H1 = H at hP hS ⊢
                  obtain ⟨S35, rfl⟩ : ∃ z, z = u := ⟨_, rfl⟩
                  have t36 : stp [(4, 8), (17, 100), (18, 100)] [] [] S S35 := t31.tr w34 (by decide) (fun _ q => absurd q List.not_mem_nil)
                  have xe37 : ext S29 S35 := w34.x
                  refine lv_aload_n hx hb dX4_choose_95 rfl (lv_at hl 2 rfl) ?_
                  obtain ⟨k38, gk38, hk38⟩ := wGt (cy := cy) X S35 (xe37.A (xe30.A (xe24.A (hsh27.x.A h_o1)))).1 (xe37.A (xe30.A (xe24.A (hsh27.x.A h_o1)))).2.1
                  simp only [kE, ((hsh27.x.tr (xe24.tr (xe30.tr xe37))).F h_o1 (by decide) F26.1)] at hk38
                  refine va_get (D := D) (ci := 8) (v := .ref (S.f o1 4)) (C := RX4) (T := TX4) (N := 9) hx hb hts hi_X4_choose_X4 hown hK hP k38 hk38 rfl 4 (by decide) (hts (.fieldLink RX4 28 "Hobhouse$Matching" "partners" "[I") (by decide +kernel)) (fun _ h9 => h9) rfl dX4_choose_96 ?_
                  refine lv_iload_n hx hb dX4_choose_99 rfl (lv_at hl 3 rfl) ?_
                  refine lv_iconst (v := -1) hx hb dX4_choose_100 (by decide) ?_
                  obtain ⟨k39, gk39, hk39⟩ := wGt (cy := cy) X S35 ((xe30.tr xe37).A ((hsh27.x.tr xe24).A F26.2.1)).1 ((xe30.tr xe37).A ((hsh27.x.tr xe24).A F26.2.1)).2.1
                  refine va_iast hx hb hK hP hD hS k39 2 hk39 rfl (inb (m := 5) (((hsh27.x.tr (xe24.tr (xe30.tr xe37))).n F26.2.1).trans F26.2.2) (by omega) (by omega)) dX4_choose_101 (fun H locs hP2 hD2 hS => ?_)
                  have e9 := wPui (cy := cy) (f := (upd (S35.i (S.f o1 4)) x1.toNatClampNeg (-1 : Int32))) hD ((xe30.tr xe37).A ((hsh27.x.tr xe24).A F26.2.1)).1 ((xe30.tr xe37).A ((hsh27.x.tr xe24).A F26.2.1)).2.1 gk39 rfl
                  obtain ⟨S40, hS40⟩ : ∃ z, S35.si (S.f o1 4) (upd (S35.i (S.f o1 4)) x1.toNatClampNeg (-1 : Int32)) = z := ⟨_, rfl⟩
                  have hP : va_P D vwCl (X ++ PL cy S40) H := by rw [← hS40, ← e9]; exact hP2
                  have hD : va_D A (X ++ PL cy S40) := by rw [← hS40, ← e9]; exact hD2
                  have xe41 : ext S35 S40 := by rw [← hS40]; exact ext.si _ _ _
                  have t42 : stp [(4, 8), (17, 100), (18, 100)] [] [] S S40 := by rw [← hS40]; exact t36.i (upd (S35.i (S.f o1 4)) x1.toNatClampNeg (-1 : Int32)) ((xe30.tr xe37).A ((hsh27.x.tr xe24).A F26.2.1)) (by decide)
                  refine lv_aload_n hx hb dX4_choose_102 rfl (lv_at hl 2 rfl) ?_
                  obtain ⟨k43, gk43, hk43⟩ := wGt (cy := cy) X S40 (xe41.A (xe37.A (xe30.A (xe24.A (hsh27.x.A h_o1))))).1 (xe41.A (xe37.A (xe30.A (xe24.A (hsh27.x.A h_o1))))).2.1
                  simp only [kE, ((hsh27.x.tr (xe24.tr (xe30.tr (xe37.tr xe41)))).F h_o1 (by decide) F16.1)] at hk43
                  refine va_get (D := D) (ci := 8) (v := .ref (S.f o1 3)) (C := RX4) (T := TX4) (N := 9) hx hb hts hi_X4_choose_X4 hown hK hP k43 hk43 rfl 3 (by decide) (hts (.fieldLink RX4 24 "Hobhouse$Matching" "isTaken" "[Z") (by decide +kernel)) (fun _ h9 => h9) rfl dX4_choose_103 ?_
                  refine lv_iload hx hb dX4_choose_106 (lv_at hl 1 rfl) ?_
                  refine lv_iconst (v := 0) hx hb dX4_choose_108 (by decide) ?_
                  obtain ⟨k44, gk44, hk44⟩ := wGt (cy := cy) X S40 ((xe24.tr (xe30.tr (xe37.tr xe41))).A (hsh27.x.A F16.2.1)).1 ((xe24.tr (xe30.tr (xe37.tr xe41))).A (hsh27.x.A F16.2.1)).2.1
                  refine va_zast hx hb hK hP hD hS k44 3 hk44 rfl (inb (m := 5) (((hsh27.x.tr (xe24.tr (xe30.tr (xe37.tr xe41)))).n F16.2.1).trans F16.2.2) (by omega) (by omega)) dX4_choose_109 (fun H locs hP2 hD2 hS => ?_)
                  have e9 := wPui (cy := cy) (f := (upd (S40.i (S.f o1 3)) w27_4.toNatClampNeg (vp_nar .boolean (0 : Int32)))) hD ((xe24.tr (xe30.tr (xe37.tr xe41))).A (hsh27.x.A F16.2.1)).1 ((xe24.tr (xe30.tr (xe37.tr xe41))).A (hsh27.x.A F16.2.1)).2.1 gk44 rfl
                  obtain ⟨S45, hS45⟩ : ∃ z, S40.si (S.f o1 3) (upd (S40.i (S.f o1 3)) w27_4.toNatClampNeg (vp_nar .boolean (0 : Int32))) = z := ⟨_, rfl⟩
                  have hP : va_P D vwCl (X ++ PL cy S45) H := by rw [← hS45, ← e9]; exact hP2
                  have hD : va_D A (X ++ PL cy S45) := by rw [← hS45, ← e9]; exact hD2
                  have xe46 : ext S40 S45 := by rw [← hS45]; exact ext.si _ _ _
                  have t47 : stp [(4, 8), (17, 100), (18, 100)] [] [] S S45 := by rw [← hS45]; exact t42.i (upd (S40.i (S.f o1 3)) w27_4.toNatClampNeg (vp_nar .boolean (0 : Int32))) ((xe24.tr (xe30.tr (xe37.tr xe41))).A (hsh27.x.A F16.2.1)) (by decide)
                  refine lv_iinc (v := w27_4 + (1 : Int32)) (lv' := [(4, .int (w27_4 + (1 : Int32))), (5, .int (S27_.i (S.f o1 2) ((x1 * (5 : Int32)) + w27_4).toNatClampNeg)), (0, .ref o1), (1, .int x1), (2, .int x2), (3, .int x3)]) hx hb dX4_choose_110 hl (k := 1) rfl (by rfl) (by decide) rfl (fun ls hl => ?_)
                  refine lv_goto (tgt := 27) hx hb dX4_choose_113 (by decide) ?_
                  have i48 : (w27_4 + (1 : Int32)).toInt = w27_4.toInt + 1 := t_addr (n := 1) rfl (by omega)
                  exact ih27 S45 (w27_4 + (1 : Int32)) _ _ _ (Nat.lt_of_lt_of_le (by omega) (Nat.le_of_lt_succ hm27)) (by omega) t47 hP hD hS (lv_sub hl [0, 2, 3, 4, 5] rfl) ko27
        refine loop27 6 S (0 : Int32) _ _ _ (by omega) (by omega) (stp.rf hW) hP hD hS (lv_sub hl [0, 1, 2, 3, 4] rfl) (fun S50 z51 H locs ls hi27 hsh27 hP hD hS hl => ?_)
        have t52 : stp [(4, 8), (17, 100), (18, 100)] [] [] S S50 := t0.tr hsh27 (fun _ q => q) (fun _ q => Or.inl q)
        have et52 := hsh27.x
        refine lv_aload_n hx hb dX4_choose_116 rfl (lv_at hl 1 rfl) ?_
        refine lv_iload_n hx hb dX4_choose_117 rfl (lv_at hl 2 rfl) ?_
        refine lv_iconst (v := 1) hx hb dX4_choose_118 (by decide) ?_
        refine lv_iadd hx hb dX4_choose_119 ?_
        refine lv_iload_n hx hb dX4_choose_120 rfl (lv_at hl 3 rfl) ?_
        refine lv_iload_n hx hb dX4_choose_121 rfl (lv_at hl 4 rfl) ?_
        have l32_1 : (1 : Int32).toInt = 1 := rfl
        have i53 : (x1 + (1 : Int32)).toInt = x1.toInt + 1 := t_addr (n := 1) rfl (by omega)
        have hFc := free_all hD hS hA
        refine va_callv (va_runS (As := [.ref o1, .int (x1 + (1 : Int32)), .int x2, .int x3]) (rest := []) ⟨hx, hb, hml, hown, hts⟩ (c_X4_choose_3 l (cy := cy) (X := X) (D := D) S50 _ o1 (et52.A h_o1) (x1 + (1 : Int32)) x2 x3 (t52.w) (by omega) (by omega)) (cwS 4 hts gX4_choose_X4_choose rfl rfl rfl hd_X4_choose ⟨Nat.le_of_ble_eq_true rfl, Nat.le_of_ble_eq_true rfl⟩) (pS hP hK hD hN) rfl rfl hl.1 rfl (lv_room (Nat.le_of_ble_eq_true rfl)) dX4_choose_122 ⟨(Nat.zero_le _), (Nat.zero_le _)⟩) hS (fun q _ h => hFc q h) hFc (fun u t H1 locs ht hvm hw hB hz1 hk1 hS => ?_)
        have w55 := hw
        obtain ⟨hP, hD⟩ := wd_post hFc ht hB
        generalize H1 = H at hP hS ⊢
        obtain ⟨S56, rfl⟩ : ∃ z, z = u := ⟨_, rfl⟩
        have t57 : stp [(4, 8), (17, 100), (18, 100)] [] [] S S56 := t52.tr w55 (by decide) (fun _ q => absurd q List.not_mem_nil)
        have xe58 : ext S50 S56 := w55.x
        refine W.widen (k := 0) (n := 0) (Nat.le_of_ble_eq_true rfl) (Nat.le_of_ble_eq_true rfl) ?_
        exact W.vret hx hb hr (fun t ht hW9 => ⟨⟨S56, rfl, t57, wd_end hP hK hD ht hW9.alike⟩, hS.F ht⟩) hS.2.2 dX4_choose_125 hlocks
      · have c5i : 5 ≤ x1.toInt := nlt_v rfl rfl c5
        refine W.widen (k := 0) (n := 0) (Nat.le_of_ble_eq_true rfl) (Nat.le_of_ble_eq_true rfl) ?_
        exact W.vret hx hb hr (fun t ht hW9 => ⟨⟨S, rfl, t0, wd_end hP hK hD ht hW9.alike⟩, hS.F ht⟩) hS.2.2 dX4_choose_23 hlocks
  · have c1i : x2.toInt = 0 := eq_v rfl rfl c1
    refine lv_aload_n hx hb dX4_choose_4 rfl (lv_at hl 0 rfl) ?_
    refine lv_iload_n hx hb dX4_choose_5 rfl (lv_at hl 3 rfl) ?_
    have hFc := free_all hD hS hA
    obtain ⟨k59, gk59, hk59⟩ := wGt (cy := cy) X S h_o1.1 h_o1.2.1
    refine va_callv (va_runV (As := [.int x3]) (rest := []) ⟨hx, hb, hml, hown, hts⟩ (c_X4_keepIfLess l (cy := cy) (X := X) (D := D) S _ o1 h_o1 x3 (hW)) (cwV 1 hts gX4_choose_X4_keepIfLess rfl rfl rfl hd_X4_keepIfLess ⟨Nat.le_of_ble_eq_true rfl, Nat.le_of_ble_eq_true rfl⟩) (pV (va_recv hK hP (q := (RX4, TX4, 9)) (ci := 8) (q0 := k59) rfl hk59) hP hK hD hN) rfl rfl hl.1 rfl (lv_room (Nat.le_of_ble_eq_true rfl)) dX4_choose_6 ⟨(Nat.zero_le _), (Nat.zero_le _)⟩) hS (fun q _ h => hFc q h) hFc (fun u t H1 locs ht hvm hw hB hz1 hk1 hS => ?_)
    have w61 := hw
    obtain ⟨hP, hD⟩ := wd_post hFc ht hB
    generalize H1 = H at hP hS ⊢
    obtain ⟨S62, rfl⟩ : ∃ z, z = u := ⟨_, rfl⟩
    have t63 : stp [(4, 8), (17, 100), (18, 100)] [] [] S S62 := t0.tr w61 (by decide) (fun _ q => absurd q List.not_mem_nil)
    have xe64 : ext S S62 := w61.x
    refine W.widen (k := 0) (n := 0) (Nat.le_of_ble_eq_true rfl) (Nat.le_of_ble_eq_true rfl) ?_
    exact W.vret hx hb hr (fun t ht hW9 => ⟨⟨S62, rfl, t63, wd_end hP hK hD ht hW9.alike⟩, hS.F ht⟩) hS.2.2 dX4_choose_9 hlocks
set_option maxHeartbeats 4000000 in
set_option maxRecDepth 100000 in
theorem c_X4_choose_5 (l : Launch) {D : va_G} {cy : Nat → ClassId} {X : va_W} (S : wPS) (sz : Nat) (o1 : Nat) (h_o1 : isA S o1 4) (x1 : Int32) (x2 : Int32) (x3 : Int32) (hW : wtB S []) (h1 : 0 ≤ x1.toInt ∧ x1.toInt ≤ 5) (h2 : 0 ≤ x1.toInt) : Met l yX4_choose wsX4_choose ({ frames := 7, cells := 0, slots := 0, locals := 186 }) (va_Pc [.ref o1, .int x1, .int x2, .int x3] (fun U => U.heap.size = sz ∧ WD D cy X (fun _ => True) S U ∧ NW U)) (va_Qv (fun (u : wPS) => stp [(4, 8), (17, 100), (18, 100)] [] [] S u) (fun u t => WD D cy X (va_A (X ++ PL cy S) sz) u t) (va_A (X ++ PL cy S) sz)) 0 0 (va_A (X ++ PL cy S) sz) := by
  refine Met.ofW (cc := cX4_choose) (maxL := 6) (ret := none) (by decide) rfl ?_
  intro p e s m args below meth c s₁ B hml hv
  obtain ⟨rfl, hsz, ⟨hP, hK, hD0⟩, hN⟩ := hv
  have hx := B.exec
  have hb := B.bytes
  have hr := B.returns
  have hts := atoms_spec (ws := wsX4_choose) B.pre
  have hown : s.vm.findClass RX4 = some m.cls := findClass_of_methodNamed (x := yX4_choose) B.named
  have hlocks := B.notSynchronized
  subst hsz
  have hD := hD0.self (sz := s.heap.size)
  generalize hAe : va_A (X ++ PL cy S) s.heap.size = A at hD ⊢
  have hA : ∀ q : Nat, s.heap.size ≤ q → A q := fun q h => by rw [← hAe]; exact Or.inr h
  have hS : va_S A s.heap s.heap [] := va_S.rf
  have hl := lv_entry ([.ref o1, .int x1, .int x2, .int x3]) (n := 6) (Nat.le_of_ble_eq_true rfl)
  rw [lg_entry_eq]
  generalize (lg_sl ([.ref o1, .int x1, .int x2, .int x3]) ++ List.replicate (6 - (lg_sl ([.ref o1, .int x1, .int x2, .int x3])).length) Slot.unset).toArray = ls at hl ⊢
  have hl : lv_has ls 6 [(0, .ref o1), (1, .int x1), (2, .int x2), (3, .int x3)] := hl
  have t0 : stp [(4, 8), (17, 100), (18, 100)] [] [] S S := stp.rf hW
  refine lv_iload_n hx hb dX4_choose_0 rfl (lv_at hl 2 rfl) ?_
  refine lv_if_ne (tgt := 10) hx hb dX4_choose_1 (by decide) (fun c1 => ?_) (fun c1 => ?_)
  · have c1i : ¬ x2.toInt = 0 := neq_v rfl rfl c1
    refine lv_iload_n hx hb dX4_choose_10 rfl (lv_at hl 1 rfl) ?_
    refine lv_aload_n hx hb dX4_choose_11 rfl (lv_at hl 0 rfl) ?_
    obtain ⟨k2, gk2, hk2⟩ := wGt (cy := cy) X S h_o1.1 h_o1.2.1
    have i3 := ((hW.at h_o1 List.not_mem_nil).to_4 h_o1.2.1).R6
    refine va_get (D := D) (ci := 8) (v := .int (S.I o1 6)) (C := RX4) (T := TX4) (N := 9) hx hb hts hi_X4_choose_X4 hown hK hP k2 hk2 rfl 6 (by decide) (hts (.fieldLink RX4 34 "Hobhouse$Matching" "firstCount" "I") (by decide +kernel)) (fun _ h9 => h9) rfl dX4_choose_12 ?_
    refine lv_icmp_ge (tgt := 23) hx hb dX4_choose_15 (by decide) (fun c4 => ?_) (fun c4 => ?_)
    · have c4i : (S.I o1 6).toInt ≤ x1.toInt := le_v rfl rfl c4
      refine W.widen (k := 0) (n := 0) (Nat.le_of_ble_eq_true rfl) (Nat.le_of_ble_eq_true rfl) ?_
      exact W.vret hx hb hr (fun t ht hW9 => ⟨⟨S, rfl, t0, wd_end hP hK hD ht hW9.alike⟩, hS.F ht⟩) hS.2.2 dX4_choose_23 hlocks
    · have c4i : x1.toInt < (S.I o1 6).toInt := nle_v rfl rfl c4
      refine lv_iload_n hx hb dX4_choose_18 rfl (lv_at hl 1 rfl) ?_
      refine lv_iconst (v := 5) hx hb dX4_choose_19 (by decide) ?_
      refine lv_icmp_lt (tgt := 24) hx hb dX4_choose_20 (by decide) (fun c5 => ?_) (fun c5 => ?_)
      · have c5i : x1.toInt < 5 := lt_v rfl rfl c5
        refine lv_iconst (v := 0) hx hb dX4_choose_24 (by decide) ?_
        refine lv_istore (lv' := [(4, .int (0 : Int32)), (0, .ref o1), (1, .int x1), (2, .int x2), (3, .int x3)]) hx hb dX4_choose_25 hl (by decide) rfl (fun ls hl => ?_)
        have l32_0 : (0 : Int32).toInt = 0 := rfl
        have loop27 : ∀ (n : Nat) (S27_ : wPS) (w27_4 : Int32) (H : Heap) (locs : List Loc) (ls : Array Slot), (5 - w27_4.toInt).toNat < n → 0 ≤ w27_4.toInt ∧ w27_4.toInt ≤ 5 → stp [(4, 8), (17, 100), (18, 100)] [] [] S S27_ → va_P D vwCl (X ++ PL cy S27_) H → va_D A (X ++ PL cy S27_) → va_S A s.heap H locs → lv_has ls 6 [(4, .int w27_4), (0, .ref o1), (1, .int x1), (2, .int x2), (3, .int x3)] → (∀ (S27_x : wPS) (w27_4x : Int32) (H : Heap) (locs : List Loc) (ls : Array Slot), 0 ≤ w27_4x.toInt ∧ w27_4x.toInt ≤ 5 → stp [(4, 8), (17, 100), (18, 100)] [] [] S S27_x → va_P D vwCl (X ++ PL cy S27_x) H → va_D A (X ++ PL cy S27_x) → va_S A s.heap H locs → lv_has ls 6 [(4, .int w27_4x), (0, .ref o1), (1, .int x1), (2, .int x2), (3, .int x3)] → W p l e (headSpec wsX4_choose ({ frames := 7, cells := 0, slots := 0, locals := 186 } : Room)).room s m [.ref o1, .int x1, .int x2, .int x3].toArray below meth c H locs 0 0 (MQ below (va_Qv (fun (u : wPS) => stp [(4, 8), (17, 100), (18, 100)] [] [] S u) (fun u t => WD D cy X A u t) A) [.ref o1, .int x1, .int x2, .int x3].toArray s 0 0 A) (F0 m 116 ls [])) → W p l e (headSpec wsX4_choose ({ frames := 7, cells := 0, slots := 0, locals := 186 } : Room)).room s m [.ref o1, .int x1, .int x2, .int x3].toArray below meth c H locs 0 0 (MQ below (va_Qv (fun (u : wPS) => stp [(4, 8), (17, 100), (18, 100)] [] [] S u) (fun u t => WD D cy X A u t) A) [.ref o1, .int x1, .int x2, .int x3].toArray s 0 0 A) (F0 m 27 ls []) := by
          intro n27
          induction n27 with
          | zero => intro S27_ w27_4 H locs ls hm; exact absurd hm (Nat.not_lt_zero _)
          | succ n27 ih27 =>
            intro S27_ w27_4 H locs ls hm27 hi27 hsh27 hP hD hS hl ko27
            refine lv_iload hx hb dX4_choose_27 (lv_at hl 0 rfl) ?_
            refine lv_aload_n hx hb dX4_choose_29 rfl (lv_at hl 1 rfl) ?_
            obtain ⟨k6, gk6, hk6⟩ := wGt (cy := cy) X S27_ (hsh27.x.A h_o1).1 (hsh27.x.A h_o1).2.1
            have i7 := ((hsh27.w.at (hsh27.x.A h_o1) List.not_mem_nil).to_4 (hsh27.x.A h_o1).2.1).R7
            refine va_get (D := D) (ci := 8) (v := .int (S27_.I o1 7)) (C := RX4) (T := TX4) (N := 9) hx hb hts hi_X4_choose_X4 hown hK hP k6 hk6 rfl 7 (by decide) (hts (.fieldLink RX4 38 "Hobhouse$Matching" "secondCount" "I") (by decide +kernel)) (fun _ h9 => h9) rfl dX4_choose_30 ?_
            refine lv_icmp_ge (tgt := 116) hx hb dX4_choose_33 (by decide) (fun c8 => ?_) (fun c8 => ?_)
            · have c8i : (S27_.I o1 7).toInt ≤ w27_4.toInt := le_v rfl rfl c8
              exact ko27 S27_ w27_4 _ _ _ (by omega) hsh27 hP hD hS (lv_sub hl [0, 1, 2, 3, 4] rfl)
            · have c8i : w27_4.toInt < (S27_.I o1 7).toInt := nle_v rfl rfl c8
              refine lv_aload_n hx hb dX4_choose_36 rfl (lv_at hl 1 rfl) ?_
              have F9 := ((hW.at h_o1 List.not_mem_nil).to_4 h_o1.2.1).F2
              obtain ⟨k10, gk10, hk10⟩ := wGt (cy := cy) X S27_ (hsh27.x.A h_o1).1 (hsh27.x.A h_o1).2.1
              simp only [kE, (hsh27.x.F h_o1 (by decide) F9.1)] at hk10
              refine va_get (D := D) (ci := 8) (v := .ref (S.f o1 2)) (C := RX4) (T := TX4) (N := 9) hx hb hts hi_X4_choose_X4 hown hK hP k10 hk10 rfl 2 (by decide) (hts (.fieldLink RX4 20 "Hobhouse$Matching" "peaks" "[I") (by decide +kernel)) (fun _ h9 => h9) rfl dX4_choose_37 ?_
              refine lv_iload_n hx hb dX4_choose_40 rfl (lv_at hl 2 rfl) ?_
              refine lv_iconst (v := 5) hx hb dX4_choose_41 (by decide) ?_
              refine lv_imul hx hb dX4_choose_42 ?_
              refine lv_iload hx hb dX4_choose_43 (lv_at hl 0 rfl) ?_
              refine lv_iadd hx hb dX4_choose_45 ?_
              have l32_5 : (5 : Int32).toInt = 5 := rfl
              have i11 : (x1 * (5 : Int32)).toInt = x1.toInt * 5 := t_mulr rfl (by omega)
              have i12 : ((x1 * (5 : Int32)) + w27_4).toInt = (x1 * (5 : Int32)).toInt + w27_4.toInt := t_add (by omega)
              obtain ⟨k13, gk13, hk13⟩ := wGt (cy := cy) X S27_ (hsh27.x.A F9.2.1).1 (hsh27.x.A F9.2.1).2.1
              refine va_iald hx hb hK hP k13 2 hk13 rfl (inb (m := 25) ((hsh27.x.n F9.2.1).trans F9.2.2) (by omega) (by omega)) dX4_choose_46 ?_
              refine lv_istore (lv' := [(5, .int (S27_.i (S.f o1 2) ((x1 * (5 : Int32)) + w27_4).toNatClampNeg)), (4, .int w27_4), (0, .ref o1), (1, .int x1), (2, .int x2), (3, .int x3)]) hx hb dX4_choose_47 hl (by decide) rfl (fun ls hl => ?_)
              refine lv_iload hx hb dX4_choose_49 (lv_at hl 0 rfl) ?_
              refine lv_iconst (v := -1) hx hb dX4_choose_51 (by decide) ?_
              refine lv_icmp_eq (tgt := 110) hx hb dX4_choose_52 (by decide) (fun c14 => ?_) (fun c14 => ?_)
              · have c14i : (S27_.i (S.f o1 2) ((x1 * (5 : Int32)) + w27_4).toNatClampNeg).toInt = -1 := eq_v rfl rfl c14
                refine lv_iinc (v := w27_4 + (1 : Int32)) (lv' := [(4, .int (w27_4 + (1 : Int32))), (5, .int (S27_.i (S.f o1 2) ((x1 * (5 : Int32)) + w27_4).toNatClampNeg)), (0, .ref o1), (1, .int x1), (2, .int x2), (3, .int x3)]) hx hb dX4_choose_110 hl (k := 1) rfl (by rfl) (by decide) rfl (fun ls hl => ?_)
                refine lv_goto (tgt := 27) hx hb dX4_choose_113 (by decide) ?_
                have l32_1 : (1 : Int32).toInt = 1 := rfl
                have i15 : (w27_4 + (1 : Int32)).toInt = w27_4.toInt + 1 := t_addr (n := 1) rfl (by omega)
                exact ih27 S27_ (w27_4 + (1 : Int32)) _ _ _ (Nat.lt_of_lt_of_le (by omega) (Nat.le_of_lt_succ hm27)) (by omega) hsh27 hP hD hS (lv_sub hl [0, 2, 3, 4, 5] rfl) ko27
              · have c14i : ¬ (S27_.i (S.f o1 2) ((x1 * (5 : Int32)) + w27_4).toNatClampNeg).toInt = -1 := neq_v rfl rfl c14
                refine lv_aload_n hx hb dX4_choose_55 rfl (lv_at hl 2 rfl) ?_
                have F16 := ((hW.at h_o1 List.not_mem_nil).to_4 h_o1.2.1).F3
                obtain ⟨k17, gk17, hk17⟩ := wGt (cy := cy) X S27_ (hsh27.x.A h_o1).1 (hsh27.x.A h_o1).2.1
                simp only [kE, (hsh27.x.F h_o1 (by decide) F16.1)] at hk17
                refine va_get (D := D) (ci := 8) (v := .ref (S.f o1 3)) (C := RX4) (T := TX4) (N := 9) hx hb hts hi_X4_choose_X4 hown hK hP k17 hk17 rfl 3 (by decide) (hts (.fieldLink RX4 24 "Hobhouse$Matching" "isTaken" "[Z") (by decide +kernel)) (fun _ h9 => h9) rfl dX4_choose_56 ?_
                refine lv_iload hx hb dX4_choose_59 (lv_at hl 1 rfl) ?_
                obtain ⟨k18, gk18, hk18⟩ := wGt (cy := cy) X S27_ (hsh27.x.A F16.2.1).1 (hsh27.x.A F16.2.1).2.1
                refine va_zald hx hb hK hP k18 3 hk18 rfl (inb (m := 5) ((hsh27.x.n F16.2.1).trans F16.2.2) (by omega) (by omega)) dX4_choose_61 ?_
                refine lv_if_ne (tgt := 110) hx hb dX4_choose_62 (by decide) (fun c19 => ?_) (fun c19 => ?_)
                · have c19i : ¬ (S27_.i (S.f o1 3) w27_4.toNatClampNeg).toInt = 0 := neq_v rfl rfl c19
                  refine lv_iinc (v := w27_4 + (1 : Int32)) (lv' := [(4, .int (w27_4 + (1 : Int32))), (5, .int (S27_.i (S.f o1 2) ((x1 * (5 : Int32)) + w27_4).toNatClampNeg)), (0, .ref o1), (1, .int x1), (2, .int x2), (3, .int x3)]) hx hb dX4_choose_110 hl (k := 1) rfl (by rfl) (by decide) rfl (fun ls hl => ?_)
                  refine lv_goto (tgt := 27) hx hb dX4_choose_113 (by decide) ?_
                  have l32_1 : (1 : Int32).toInt = 1 := rfl
                  have i20 : (w27_4 + (1 : Int32)).toInt = w27_4.toInt + 1 := t_addr (n := 1) rfl (by omega)
                  exact ih27 S27_ (w27_4 + (1 : Int32)) _ _ _ (Nat.lt_of_lt_of_le (by omega) (Nat.le_of_lt_succ hm27)) (by omega) hsh27 hP hD hS (lv_sub hl [0, 2, 3, 4, 5] rfl) ko27
                · have c19i : (S27_.i (S.f o1 3) w27_4.toNatClampNeg).toInt = 0 := eq_v rfl rfl c19
                  refine lv_aload_n hx hb dX4_choose_65 rfl (lv_at hl 2 rfl) ?_
                  obtain ⟨k21, gk21, hk21⟩ := wGt (cy := cy) X S27_ (hsh27.x.A h_o1).1 (hsh27.x.A h_o1).2.1
                  simp only [kE, (hsh27.x.F h_o1 (by decide) F16.1)] at hk21
                  refine va_get (D := D) (ci := 8) (v := .ref (S.f o1 3)) (C := RX4) (T := TX4) (N := 9) hx hb hts hi_X4_choose_X4 hown hK hP k21 hk21 rfl 3 (by decide) (hts (.fieldLink RX4 24 "Hobhouse$Matching" "isTaken" "[Z") (by decide +kernel)) (fun _ h9 => h9) rfl dX4_choose_66 ?_
                  refine lv_iload hx hb dX4_choose_69 (lv_at hl 1 rfl) ?_
                  refine lv_iconst (v := 1) hx hb dX4_choose_71 (by decide) ?_
                  obtain ⟨k22, gk22, hk22⟩ := wGt (cy := cy) X S27_ (hsh27.x.A F16.2.1).1 (hsh27.x.A F16.2.1).2.1
                  refine va_zast hx hb hK hP hD hS k22 3 hk22 rfl (inb (m := 5) ((hsh27.x.n F16.2.1).trans F16.2.2) (by omega) (by omega)) dX4_choose_72 (fun H locs hP2 hD2 hS => ?_)
                  have e9 := wPui (cy := cy) (f := (upd (S27_.i (S.f o1 3)) w27_4.toNatClampNeg (vp_nar .boolean (1 : Int32)))) hD (hsh27.x.A F16.2.1).1 (hsh27.x.A F16.2.1).2.1 gk22 rfl
                  obtain ⟨S23, hS23⟩ : ∃ z, S27_.si (S.f o1 3) (upd (S27_.i (S.f o1 3)) w27_4.toNatClampNeg (vp_nar .boolean (1 : Int32))) = z := ⟨_, rfl⟩
                  have hP : va_P D vwCl (X ++ PL cy S23) H := by rw [← hS23, ← e9]; exact hP2
                  have hD : va_D A (X ++ PL cy S23) := by rw [← hS23, ← e9]; exact hD2
                  have xe24 : ext S27_ S23 := by rw [← hS23]; exact ext.si _ _ _
                  have t25 : stp [(4, 8), (17, 100), (18, 100)] [] [] S S23 := by rw [← hS23]; exact hsh27.i (upd (S27_.i (S.f o1 3)) w27_4.toNatClampNeg (vp_nar .boolean (1 : Int32))) (hsh27.x.A F16.2.1) (by decide)
                  refine lv_aload_n hx hb dX4_choose_73 rfl (lv_at hl 2 rfl) ?_
                  have F26 := ((hW.at h_o1 List.not_mem_nil).to_4 h_o1.2.1).F4
                  obtain ⟨k27, gk27, hk27⟩ := wGt (cy := cy) X S23 (xe24.A (hsh27.x.A h_o1)).1 (xe24.A (hsh27.x.A h_o1)).2.1
                  simp only [kE, ((hsh27.x.tr xe24).F h_o1 (by decide) F26.1)] at hk27
                  refine va_get (D := D) (ci := 8) (v := .ref (S.f o1 4)) (C := RX4) (T := TX4) (N := 9) hx hb hts hi_X4_choose_X4 hown hK hP k27 hk27 rfl 4 (by decide) (hts (.fieldLink RX4 28 "Hobhouse$Matching" "partners" "[I") (by decide +kernel)) (fun _ h9 => h9) rfl dX4_choose_74 ?_
                  refine lv_iload_n hx hb dX4_choose_77 rfl (lv_at hl 3 rfl) ?_
                  refine lv_iload hx hb dX4_choose_78 (lv_at hl 1 rfl) ?_
                  obtain ⟨k28, gk28, hk28⟩ := wGt (cy := cy) X S23 ((hsh27.x.tr xe24).A F26.2.1).1 ((hsh27.x.tr xe24).A F26.2.1).2.1
                  refine va_iast hx hb hK hP hD hS k28 2 hk28 rfl (inb (m := 5) (((hsh27.x.tr xe24).n F26.2.1).trans F26.2.2) (by omega) (by omega)) dX4_choose_80 (fun H locs hP2 hD2 hS => ?_)
                  have e9 := wPui (cy := cy) (f := (upd (S23.i (S.f o1 4)) x1.toNatClampNeg w27_4)) hD ((hsh27.x.tr xe24).A F26.2.1).1 ((hsh27.x.tr xe24).A F26.2.1).2.1 gk28 rfl
                  obtain ⟨S29, hS29⟩ : ∃ z, S23.si (S.f o1 4) (upd (S23.i (S.f o1 4)) x1.toNatClampNeg w27_4) = z := ⟨_, rfl⟩
                  have hP : va_P D vwCl (X ++ PL cy S29) H := by rw [← hS29, ← e9]; exact hP2
                  have hD : va_D A (X ++ PL cy S29) := by rw [← hS29, ← e9]; exact hD2
                  have xe30 : ext S23 S29 := by rw [← hS29]; exact ext.si _ _ _
                  have t31 : stp [(4, 8), (17, 100), (18, 100)] [] [] S S29 := by rw [← hS29]; exact t25.i (upd (S23.i (S.f o1 4)) x1.toNatClampNeg w27_4) ((hsh27.x.tr xe24).A F26.2.1) (by decide)
                  refine lv_aload_n hx hb dX4_choose_81 rfl (lv_at hl 2 rfl) ?_
                  refine lv_iload_n hx hb dX4_choose_82 rfl (lv_at hl 3 rfl) ?_
                  refine lv_iconst (v := 1) hx hb dX4_choose_83 (by decide) ?_
                  refine lv_iadd hx hb dX4_choose_84 ?_
                  refine lv_iload_n hx hb dX4_choose_85 rfl (lv_at hl 4 rfl) ?_
                  refine lv_iconst (v := 1) hx hb dX4_choose_86 (by decide) ?_
                  refine lv_isub hx hb dX4_choose_87 ?_
                  refine lv_iload_n hx hb dX4_choose_88 rfl (lv_at hl 5 rfl) ?_
                  refine lv_iload hx hb dX4_choose_89 (lv_at hl 0 rfl) ?_
                  refine lv_iadd hx hb dX4_choose_91 ?_
                  have l32_1 : (1 : Int32).toInt = 1 := rfl
                  have i32 : (x1 + (1 : Int32)).toInt = x1.toInt + 1 := t_addr (n := 1) rfl (by omega)
                  have hFc := free_all hD hS hA
                  refine va_callv (va_runS (As := [.ref o1, .int (x1 + (1 : Int32)), .int (x2 - (1 : Int32)), .int (x3 + (S27_.i (S.f o1 2) ((x1 * (5 : Int32)) + w27_4).toNatClampNeg))]) (rest := []) ⟨hx, hb, hml, hown, hts⟩ (c_X4_choose_4 l (cy := cy) (X := X) (D := D) S29 _ o1 (xe30.A (xe24.A (hsh27.x.A h_o1))) (x1 + (1 : Int32)) (x2 - (1 : Int32)) (x3 + (S27_.i (S.f o1 2) ((x1 * (5 : Int32)) + w27_4).toNatClampNeg)) (t31.w) (by omega) (by omega)) (cwS 4 hts gX4_choose_X4_choose rfl rfl rfl hd_X4_choose ⟨Nat.le_of_ble_eq_true rfl, Nat.le_of_ble_eq_true rfl⟩) (pS hP hK hD hN) rfl rfl hl.1 rfl (lv_room (Nat.le_of_ble_eq_true rfl)) dX4_choose_92 ⟨(Nat.zero_le _), (Nat.zero_le _)⟩) hS (fun q _ h => hFc q h) hFc (fun u t H1 locs ht hvm hw hB hz1 hk1 hS => ?_)
                  have w34 := hw
                  obtain ⟨hP, hD⟩ := wd_post hFc ht hB
                  generalize H1 = H at hP hS ⊢
                  obtain ⟨S35, rfl⟩ : ∃ z, z = u := ⟨_, rfl⟩
                  have t36 : stp [(4, 8), (17, 100), (18, 100)] [] [] S S35 := t31.tr w34 (by decide) (fun _ q => absurd q List.not_mem_nil)
                  have xe37 : ext S29 S35 := w34.x
                  refine lv_aload_n hx hb dX4_choose_95 rfl (lv_at hl 2 rfl) ?_
                  obtain ⟨k38, gk38, hk38⟩ := wGt (cy := cy) X S35 (xe37.A (xe30.A (xe24.A (hsh27.x.A h_o1)))).1 (xe37.A (xe30.A (xe24.A (hsh27.x.A h_o1)))).2.1
                  simp only [kE, ((hsh27.x.tr (xe24.tr (xe30.tr xe37))).F h_o1 (by decide) F26.1)] at hk38
                  refine va_get (D := D) (ci := 8) (v := .ref (S.f o1 4)) (C := RX4) (T := TX4) (N := 9) hx hb hts hi_X4_choose_X4 hown hK hP k38 hk38 rfl 4 (by decide) (hts (.fieldLink RX4 28 "Hobhouse$Matching" "partners" "[I") (by decide +kernel)) (fun _ h9 => h9) rfl dX4_choose_96 ?_
                  refine lv_iload_n hx hb dX4_choose_99 rfl (lv_at hl 3 rfl) ?_
                  refine lv_iconst (v := -1) hx hb dX4_choose_100 (by decide) ?_
                  obtain ⟨k39, gk39, hk39⟩ := wGt (cy := cy) X S35 ((xe30.tr xe37).A ((hsh27.x.tr xe24).A F26.2.1)).1 ((xe30.tr xe37).A ((hsh27.x.tr xe24).A F26.2.1)).2.1
                  refine va_iast hx hb hK hP hD hS k39 2 hk39 rfl (inb (m := 5) (((hsh27.x.tr (xe24.tr (xe30.tr xe37))).n F26.2.1).trans F26.2.2) (by omega) (by omega)) dX4_choose_101 (fun H locs hP2 hD2 hS => ?_)
                  have e9 := wPui (cy := cy) (f := (upd (S35.i (S.f o1 4)) x1.toNatClampNeg (-1 : Int32))) hD ((xe30.tr xe37).A ((hsh27.x.tr xe24).A F26.2.1)).1 ((xe30.tr xe37).A ((hsh27.x.tr xe24).A F26.2.1)).2.1 gk39 rfl
                  obtain ⟨S40, hS40⟩ : ∃ z, S35.si (S.f o1 4) (upd (S35.i (S.f o1 4)) x1.toNatClampNeg (-1 : Int32)) = z := ⟨_, rfl⟩
                  have hP : va_P D vwCl (X ++ PL cy S40) H := by rw [← hS40, ← e9]; exact hP2
                  have hD : va_D A (X ++ PL cy S40) := by rw [← hS40, ← e9]; exact hD2
                  have xe41 : ext S35 S40 := by rw [← hS40]; exact ext.si _ _ _
                  have t42 : stp [(4, 8), (17, 100), (18, 100)] [] [] S S40 := by rw [← hS40]; exact t36.i (upd (S35.i (S.f o1 4)) x1.toNatClampNeg (-1 : Int32)) ((xe30.tr xe37).A ((hsh27.x.tr xe24).A F26.2.1)) (by decide)
                  refine lv_aload_n hx hb dX4_choose_102 rfl (lv_at hl 2 rfl) ?_
                  obtain ⟨k43, gk43, hk43⟩ := wGt (cy := cy) X S40 (xe41.A (xe37.A (xe30.A (xe24.A (hsh27.x.A h_o1))))).1 (xe41.A (xe37.A (xe30.A (xe24.A (hsh27.x.A h_o1))))).2.1
                  simp only [kE, ((hsh27.x.tr (xe24.tr (xe30.tr (xe37.tr xe41)))).F h_o1 (by decide) F16.1)] at hk43
                  refine va_get (D := D) (ci := 8) (v := .ref (S.f o1 3)) (C := RX4) (T := TX4) (N := 9) hx hb hts hi_X4_choose_X4 hown hK hP k43 hk43 rfl 3 (by decide) (hts (.fieldLink RX4 24 "Hobhouse$Matching" "isTaken" "[Z") (by decide +kernel)) (fun _ h9 => h9) rfl dX4_choose_103 ?_
                  refine lv_iload hx hb dX4_choose_106 (lv_at hl 1 rfl) ?_
                  refine lv_iconst (v := 0) hx hb dX4_choose_108 (by decide) ?_
                  obtain ⟨k44, gk44, hk44⟩ := wGt (cy := cy) X S40 ((xe24.tr (xe30.tr (xe37.tr xe41))).A (hsh27.x.A F16.2.1)).1 ((xe24.tr (xe30.tr (xe37.tr xe41))).A (hsh27.x.A F16.2.1)).2.1
                  refine va_zast hx hb hK hP hD hS k44 3 hk44 rfl (inb (m := 5) (((hsh27.x.tr (xe24.tr (xe30.tr (xe37.tr xe41)))).n F16.2.1).trans F16.2.2) (by omega) (by omega)) dX4_choose_109 (fun H locs hP2 hD2 hS => ?_)
                  have e9 := wPui (cy := cy) (f := (upd (S40.i (S.f o1 3)) w27_4.toNatClampNeg (vp_nar .boolean (0 : Int32)))) hD ((xe24.tr (xe30.tr (xe37.tr xe41))).A (hsh27.x.A F16.2.1)).1 ((xe24.tr (xe30.tr (xe37.tr xe41))).A (hsh27.x.A F16.2.1)).2.1 gk44 rfl
                  obtain ⟨S45, hS45⟩ : ∃ z, S40.si (S.f o1 3) (upd (S40.i (S.f o1 3)) w27_4.toNatClampNeg (vp_nar .boolean (0 : Int32))) = z := ⟨_, rfl⟩
                  have hP : va_P D vwCl (X ++ PL cy S45) H := by rw [← hS45, ← e9]; exact hP2
                  have hD : va_D A (X ++ PL cy S45) := by rw [← hS45, ← e9]; exact hD2
                  have xe46 : ext S40 S45 := by rw [← hS45]; exact ext.si _ _ _
                  have t47 : stp [(4, 8), (17, 100), (18, 100)] [] [] S S45 := by rw [← hS45]; exact t42.i (upd (S40.i (S.f o1 3)) w27_4.toNatClampNeg (vp_nar .boolean (0 : Int32))) ((xe24.tr (xe30.tr (xe37.tr xe41))).A (hsh27.x.A F16.2.1)) (by decide)
                  refine lv_iinc (v := w27_4 + (1 : Int32)) (lv' := [(4, .int (w27_4 + (1 : Int32))), (5, .int (S27_.i (S.f o1 2) ((x1 * (5 : Int32)) + w27_4).toNatClampNeg)), (0, .ref o1), (1, .int x1), (2, .int x2), (3, .int x3)]) hx hb dX4_choose_110 hl (k := 1) rfl (by rfl) (by decide) rfl (fun ls hl => ?_)
                  refine lv_goto (tgt := 27) hx hb dX4_choose_113 (by decide) ?_
                  have i48 : (w27_4 + (1 : Int32)).toInt = w27_4.toInt + 1 := t_addr (n := 1) rfl (by omega)
                  exact ih27 S45 (w27_4 + (1 : Int32)) _ _ _ (Nat.lt_of_lt_of_le (by omega) (Nat.le_of_lt_succ hm27)) (by omega) t47 hP hD hS (lv_sub hl [0, 2, 3, 4, 5] rfl) ko27
        refine loop27 6 S (0 : Int32) _ _ _ (by omega) (by omega) (stp.rf hW) hP hD hS (lv_sub hl [0, 1, 2, 3, 4] rfl) (fun S50 z51 H locs ls hi27 hsh27 hP hD hS hl => ?_)
        have t52 : stp [(4, 8), (17, 100), (18, 100)] [] [] S S50 := t0.tr hsh27 (fun _ q => q) (fun _ q => Or.inl q)
        have et52 := hsh27.x
        refine lv_aload_n hx hb dX4_choose_116 rfl (lv_at hl 1 rfl) ?_
        refine lv_iload_n hx hb dX4_choose_117 rfl (lv_at hl 2 rfl) ?_
        refine lv_iconst (v := 1) hx hb dX4_choose_118 (by decide) ?_
        refine lv_iadd hx hb dX4_choose_119 ?_
        refine lv_iload_n hx hb dX4_choose_120 rfl (lv_at hl 3 rfl) ?_
        refine lv_iload_n hx hb dX4_choose_121 rfl (lv_at hl 4 rfl) ?_
        have l32_1 : (1 : Int32).toInt = 1 := rfl
        have i53 : (x1 + (1 : Int32)).toInt = x1.toInt + 1 := t_addr (n := 1) rfl (by omega)
        have hFc := free_all hD hS hA
        refine va_callv (va_runS (As := [.ref o1, .int (x1 + (1 : Int32)), .int x2, .int x3]) (rest := []) ⟨hx, hb, hml, hown, hts⟩ (c_X4_choose_4 l (cy := cy) (X := X) (D := D) S50 _ o1 (et52.A h_o1) (x1 + (1 : Int32)) x2 x3 (t52.w) (by omega) (by omega)) (cwS 4 hts gX4_choose_X4_choose rfl rfl rfl hd_X4_choose ⟨Nat.le_of_ble_eq_true rfl, Nat.le_of_ble_eq_true rfl⟩) (pS hP hK hD hN) rfl rfl hl.1 rfl (lv_room (Nat.le_of_ble_eq_true rfl)) dX4_choose_122 ⟨(Nat.zero_le _), (Nat.zero_le _)⟩) hS (fun q _ h => hFc q h) hFc (fun u t H1 locs ht hvm hw hB hz1 hk1 hS => ?_)
        have w55 := hw
        obtain ⟨hP, hD⟩ := wd_post hFc ht hB
        generalize H1 = H at hP hS ⊢
        obtain ⟨S56, rfl⟩ : ∃ z, z = u := ⟨_, rfl⟩
        have t57 : stp [(4, 8), (17, 100), (18, 100)] [] [] S S56 := t52.tr w55 (by decide) (fun _ q => absurd q List.not_mem_nil)
        have xe58 : ext S50 S56 := w55.x
        refine W.widen (k := 0) (n := 0) (Nat.le_of_ble_eq_true rfl) (Nat.le_of_ble_eq_true rfl) ?_
        exact W.vret hx hb hr (fun t ht hW9 => ⟨⟨S56, rfl, t57, wd_end hP hK hD ht hW9.alike⟩, hS.F ht⟩) hS.2.2 dX4_choose_125 hlocks
      · have c5i : 5 ≤ x1.toInt := nlt_v rfl rfl c5
        refine W.widen (k := 0) (n := 0) (Nat.le_of_ble_eq_true rfl) (Nat.le_of_ble_eq_true rfl) ?_
        exact W.vret hx hb hr (fun t ht hW9 => ⟨⟨S, rfl, t0, wd_end hP hK hD ht hW9.alike⟩, hS.F ht⟩) hS.2.2 dX4_choose_23 hlocks
  · have c1i : x2.toInt = 0 := eq_v rfl rfl c1
    refine lv_aload_n hx hb dX4_choose_4 rfl (lv_at hl 0 rfl) ?_
    refine lv_iload_n hx hb dX4_choose_5 rfl (lv_at hl 3 rfl) ?_
    have hFc := free_all hD hS hA
    obtain ⟨k59, gk59, hk59⟩ := wGt (cy := cy) X S h_o1.1 h_o1.2.1
    refine va_callv (va_runV (As := [.int x3]) (rest := []) ⟨hx, hb, hml, hown, hts⟩ (c_X4_keepIfLess l (cy := cy) (X := X) (D := D) S _ o1 h_o1 x3 (hW)) (cwV 1 hts gX4_choose_X4_keepIfLess rfl rfl rfl hd_X4_keepIfLess ⟨Nat.le_of_ble_eq_true rfl, Nat.le_of_ble_eq_true rfl⟩) (pV (va_recv hK hP (q := (RX4, TX4, 9)) (ci := 8) (q0 := k59) rfl hk59) hP hK hD hN) rfl rfl hl.1 rfl (lv_room (Nat.le_of_ble_eq_true rfl)) dX4_choose_6 ⟨(Nat.zero_le _), (Nat.zero_le _)⟩) hS (fun q _ h => hFc q h) hFc (fun u t H1 locs ht hvm hw hB hz1 hk1 hS => ?_)
    have w61 := hw
    obtain ⟨hP, hD⟩ := wd_post hFc ht hB
    generalize H1 = H at hP hS ⊢
    obtain ⟨S62, rfl⟩ : ∃ z, z = u := ⟨_, rfl⟩
    have t63 : stp [(4, 8), (17, 100), (18, 100)] [] [] S S62 := t0.tr w61 (by decide) (fun _ q => absurd q List.not_mem_nil)
    have xe64 : ext S S62 := w61.x
    refine W.widen (k := 0) (n := 0) (Nat.le_of_ble_eq_true rfl) (Nat.le_of_ble_eq_true rfl) ?_
    exact W.vret hx hb hr (fun t ht hW9 => ⟨⟨S62, rfl, t63, wd_end hP hK hD ht hW9.alike⟩, hS.F ht⟩) hS.2.2 dX4_choose_9 hlocks
theorem hi_X4_search_X4 : ∀ w ∈ u_ws RX4 TX4 9, w ∈ wsX4_search := by decide +kernel
theorem hd_X4_search : yX4_search.cls = RX4 ∧ yX4_search.cls ≠ "java/lang/invoke/MethodHandle" ∧ yX4_search.cls ≠ "java/lang/invoke/VarHandle" ∧ (parseMethodDescriptor yX4_search.desc).map (fun d => d.parameters.length) = some 1 := by decide +kernel
set_option maxHeartbeats 4000000 in
set_option maxRecDepth 100000 in
theorem c_X4_search (l : Launch) {D : va_G} {cy : Nat → ClassId} {X : va_W} (S : wPS) (sz : Nat) (o1 : Nat) (h_o1 : isA S o1 4) (x1 : Int32) (hW : wtB S [])  : Met l yX4_search wsX4_search ({ frames := 8, cells := 0, slots := 0, locals := 211 }) (va_Pc [.ref o1, .int x1] (fun U => U.heap.size = sz ∧ WD D cy X (fun _ => True) S U ∧ NW U)) (va_Qi (fun r (u : wPS) => stp [(4, 8), (17, 100), (18, 100)] [] [] S u) (fun u t => WD D cy X (va_A (X ++ PL cy S) sz) u t) (va_A (X ++ PL cy S) sz)) 0 0 (va_A (X ++ PL cy S) sz) := by
  refine Met.ofW (cc := cX4_search) (maxL := 3) (ret := (some .boolean)) (by decide) rfl ?_
  intro p e s m args below meth c s₁ B hml hv
  obtain ⟨rfl, hsz, ⟨hP, hK, hD0⟩, hN⟩ := hv
  have hx := B.exec
  have hb := B.bytes
  have hr := B.returns
  have hts := atoms_spec (ws := wsX4_search) B.pre
  have hown : s.vm.findClass RX4 = some m.cls := findClass_of_methodNamed (x := yX4_search) B.named
  have hlocks := B.notSynchronized
  subst hsz
  have hD := hD0.self (sz := s.heap.size)
  generalize hAe : va_A (X ++ PL cy S) s.heap.size = A at hD ⊢
  have hA : ∀ q : Nat, s.heap.size ≤ q → A q := fun q h => by rw [← hAe]; exact Or.inr h
  have hS : va_S A s.heap s.heap [] := va_S.rf
  have hl := lv_entry ([.ref o1, .int x1]) (n := 3) (Nat.le_of_ble_eq_true rfl)
  rw [lg_entry_eq]
  generalize (lg_sl ([.ref o1, .int x1]) ++ List.replicate (3 - (lg_sl ([.ref o1, .int x1])).length) Slot.unset).toArray = ls at hl ⊢
  have hl : lv_has ls 3 [(0, .ref o1), (1, .int x1)] := hl
  have t0 : stp [(4, 8), (17, 100), (18, 100)] [] [] S S := stp.rf hW
  refine lv_aload_n hx hb dX4_search_0 rfl (lv_at hl 0 rfl) ?_
  refine lv_ldc (own := RX4) (v := 2147483647) hx hb hown (hts (.constant RX4 66 (2147483647)) (by decide +kernel)) dX4_search_1 ?_
  obtain ⟨k1, gk1, hk1⟩ := wGt (cy := cy) X S h_o1.1 h_o1.2.1
  refine va_put (D := D) (ci := 8) (v := .int (2147483647 : Int32)) (ty := .int) (C := RX4) (T := TX4) (N := 9) hx hb hts hi_X4_search_X4 tyX4 tyX4_ok nmX4 hown hK hP hD hS k1 hk1 rfl 8 (by decide) (hts (.fieldLink RX4 67 "Hobhouse$Matching" "leastSum" "I") (by decide +kernel)) (fun _ h9 => h9) rfl (by decide +kernel) (rfl) (rfl) (Nat.le_of_ble_eq_true rfl) dX4_search_3 (fun H locs hP2 hD2 hS => ?_)
  have e9 := wPuI (cy := cy) (j := 8) (v := (2147483647 : Int32)) hD h_o1.1 h_o1.2.1 gk1 rfl
  obtain ⟨S2, hS2⟩ : ∃ z, S.sI o1 8 (2147483647 : Int32) = z := ⟨_, rfl⟩
  have hP : va_P D vwCl (X ++ PL cy S2) H := by rw [← hS2, ← e9]; exact hP2
  have hD : va_D A (X ++ PL cy S2) := by rw [← hS2, ← e9]; exact hD2
  have xe3 : ext S S2 := by rw [← hS2]; exact ext.sI _ _ _ _
  have t4 : stp [(4, 8), (17, 100), (18, 100)] [] [] S S2 := by rw [← hS2]; exact t0.I 8 (2147483647 : Int32) h_o1 (by decide) (trivial) (Or.inl (by decide))
  refine lv_iconst (v := 0) hx hb dX4_search_6 (by decide) ?_
  refine lv_istore_n (lv' := [(2, .int (0 : Int32)), (0, .ref o1), (1, .int x1)]) hx hb dX4_search_7 rfl hl (by decide) rfl (fun ls hl => ?_)
  have l32_0 : (0 : Int32).toInt = 0 := rfl
  have loop8 : ∀ (n : Nat) (S8_ : wPS) (w8_2 : Int32) (H : Heap) (locs : List Loc) (ls : Array Slot), (6 - w8_2.toInt).toNat < n → 0 ≤ w8_2.toInt ∧ w8_2.toInt ≤ 5 → stp [(4, 8), (17, 100), (18, 100)] [] [] S2 S8_ → va_P D vwCl (X ++ PL cy S8_) H → va_D A (X ++ PL cy S8_) → va_S A s.heap H locs → lv_has ls 3 [(2, .int w8_2), (0, .ref o1), (1, .int x1)] → (∀ (S8_x : wPS) (w8_2x : Int32) (H : Heap) (locs : List Loc) (ls : Array Slot), 0 ≤ w8_2x.toInt ∧ w8_2x.toInt ≤ 5 → stp [(4, 8), (17, 100), (18, 100)] [] [] S2 S8_x → va_P D vwCl (X ++ PL cy S8_x) H → va_D A (X ++ PL cy S8_x) → va_S A s.heap H locs → lv_has ls 3 [(2, .int w8_2x), (0, .ref o1), (1, .int x1)] → W p l e (headSpec wsX4_search ({ frames := 8, cells := 0, slots := 0, locals := 211 } : Room)).room s m [.ref o1, .int x1].toArray below meth c H locs 0 0 (MQ below (va_Qi (fun r (u : wPS) => stp [(4, 8), (17, 100), (18, 100)] [] [] S u) (fun u t => WD D cy X A u t) A) [.ref o1, .int x1].toArray s 0 0 A) (F0 m 40 ls [])) → W p l e (headSpec wsX4_search ({ frames := 8, cells := 0, slots := 0, locals := 211 } : Room)).room s m [.ref o1, .int x1].toArray below meth c H locs 0 0 (MQ below (va_Qi (fun r (u : wPS) => stp [(4, 8), (17, 100), (18, 100)] [] [] S u) (fun u t => WD D cy X A u t) A) [.ref o1, .int x1].toArray s 0 0 A) (F0 m 8 ls []) := by
    intro n8
    induction n8 with
    | zero => intro S8_ w8_2 H locs ls hm; exact absurd hm (Nat.not_lt_zero _)
    | succ n8 ih8 =>
      intro S8_ w8_2 H locs ls hm8 hi8 hsh8 hP hD hS hl ko8
      refine lv_iload_n hx hb dX4_search_8 rfl (lv_at hl 0 rfl) ?_
      refine lv_iconst (v := 5) hx hb dX4_search_9 (by decide) ?_
      refine lv_icmp_ge (tgt := 40) hx hb dX4_search_10 (by decide) (fun c5 => ?_) (fun c5 => ?_)
      · have c5i : 5 ≤ w8_2.toInt := le_v rfl rfl c5
        exact ko8 S8_ w8_2 _ _ _ (by omega) hsh8 hP hD hS (lv_sub hl [0, 1, 2] rfl)
      · have c5i : w8_2.toInt < 5 := nle_v rfl rfl c5
        refine lv_aload_n hx hb dX4_search_13 rfl (lv_at hl 1 rfl) ?_
        have F6 := ((hW.at h_o1 List.not_mem_nil).to_4 h_o1.2.1).F3
        obtain ⟨k7, gk7, hk7⟩ := wGt (cy := cy) X S8_ ((xe3.tr hsh8.x).A h_o1).1 ((xe3.tr hsh8.x).A h_o1).2.1
        simp only [kE, ((xe3.tr hsh8.x).F h_o1 (by decide) F6.1)] at hk7
        refine va_get (D := D) (ci := 8) (v := .ref (S.f o1 3)) (C := RX4) (T := TX4) (N := 9) hx hb hts hi_X4_search_X4 hown hK hP k7 hk7 rfl 3 (by decide) (hts (.fieldLink RX4 24 "Hobhouse$Matching" "isTaken" "[Z") (by decide +kernel)) (fun _ h9 => h9) rfl dX4_search_14 ?_
        refine lv_iload_n hx hb dX4_search_17 rfl (lv_at hl 0 rfl) ?_
        refine lv_iconst (v := 0) hx hb dX4_search_18 (by decide) ?_
        obtain ⟨k8, gk8, hk8⟩ := wGt (cy := cy) X S8_ ((xe3.tr hsh8.x).A F6.2.1).1 ((xe3.tr hsh8.x).A F6.2.1).2.1
        refine va_zast hx hb hK hP hD hS k8 3 hk8 rfl (inb (m := 5) (((xe3.tr hsh8.x).n F6.2.1).trans F6.2.2) (by omega) (by omega)) dX4_search_19 (fun H locs hP2 hD2 hS => ?_)
        have e9 := wPui (cy := cy) (f := (upd (S8_.i (S.f o1 3)) w8_2.toNatClampNeg (vp_nar .boolean (0 : Int32)))) hD ((xe3.tr hsh8.x).A F6.2.1).1 ((xe3.tr hsh8.x).A F6.2.1).2.1 gk8 rfl
        obtain ⟨S9, hS9⟩ : ∃ z, S8_.si (S.f o1 3) (upd (S8_.i (S.f o1 3)) w8_2.toNatClampNeg (vp_nar .boolean (0 : Int32))) = z := ⟨_, rfl⟩
        have hP : va_P D vwCl (X ++ PL cy S9) H := by rw [← hS9, ← e9]; exact hP2
        have hD : va_D A (X ++ PL cy S9) := by rw [← hS9, ← e9]; exact hD2
        have xe10 : ext S8_ S9 := by rw [← hS9]; exact ext.si _ _ _
        have t11 : stp [(4, 8), (17, 100), (18, 100)] [] [] S2 S9 := by rw [← hS9]; exact hsh8.i (upd (S8_.i (S.f o1 3)) w8_2.toNatClampNeg (vp_nar .boolean (0 : Int32))) ((xe3.tr hsh8.x).A F6.2.1) (by decide)
        refine lv_aload_n hx hb dX4_search_20 rfl (lv_at hl 1 rfl) ?_
        have F12 := ((hW.at h_o1 List.not_mem_nil).to_4 h_o1.2.1).F4
        obtain ⟨k13, gk13, hk13⟩ := wGt (cy := cy) X S9 (xe10.A ((xe3.tr hsh8.x).A h_o1)).1 (xe10.A ((xe3.tr hsh8.x).A h_o1)).2.1
        simp only [kE, ((xe3.tr (hsh8.x.tr xe10)).F h_o1 (by decide) F12.1)] at hk13
        refine va_get (D := D) (ci := 8) (v := .ref (S.f o1 4)) (C := RX4) (T := TX4) (N := 9) hx hb hts hi_X4_search_X4 hown hK hP k13 hk13 rfl 4 (by decide) (hts (.fieldLink RX4 28 "Hobhouse$Matching" "partners" "[I") (by decide +kernel)) (fun _ h9 => h9) rfl dX4_search_21 ?_
        refine lv_iload_n hx hb dX4_search_24 rfl (lv_at hl 0 rfl) ?_
        refine lv_iconst (v := -1) hx hb dX4_search_25 (by decide) ?_
        obtain ⟨k14, gk14, hk14⟩ := wGt (cy := cy) X S9 ((xe3.tr (hsh8.x.tr xe10)).A F12.2.1).1 ((xe3.tr (hsh8.x.tr xe10)).A F12.2.1).2.1
        refine va_iast hx hb hK hP hD hS k14 2 hk14 rfl (inb (m := 5) (((xe3.tr (hsh8.x.tr xe10)).n F12.2.1).trans F12.2.2) (by omega) (by omega)) dX4_search_26 (fun H locs hP2 hD2 hS => ?_)
        have e9 := wPui (cy := cy) (f := (upd (S9.i (S.f o1 4)) w8_2.toNatClampNeg (-1 : Int32))) hD ((xe3.tr (hsh8.x.tr xe10)).A F12.2.1).1 ((xe3.tr (hsh8.x.tr xe10)).A F12.2.1).2.1 gk14 rfl
        obtain ⟨S15, hS15⟩ : ∃ z, S9.si (S.f o1 4) (upd (S9.i (S.f o1 4)) w8_2.toNatClampNeg (-1 : Int32)) = z := ⟨_, rfl⟩
        have hP : va_P D vwCl (X ++ PL cy S15) H := by rw [← hS15, ← e9]; exact hP2
        have hD : va_D A (X ++ PL cy S15) := by rw [← hS15, ← e9]; exact hD2
        have xe16 : ext S9 S15 := by rw [← hS15]; exact ext.si _ _ _
        have t17 : stp [(4, 8), (17, 100), (18, 100)] [] [] S2 S15 := by rw [← hS15]; exact t11.i (upd (S9.i (S.f o1 4)) w8_2.toNatClampNeg (-1 : Int32)) ((xe3.tr (hsh8.x.tr xe10)).A F12.2.1) (by decide)
        refine lv_aload_n hx hb dX4_search_27 rfl (lv_at hl 1 rfl) ?_
        have F18 := ((hW.at h_o1 List.not_mem_nil).to_4 h_o1.2.1).F5
        obtain ⟨k19, gk19, hk19⟩ := wGt (cy := cy) X S15 (xe16.A (xe10.A ((xe3.tr hsh8.x).A h_o1))).1 (xe16.A (xe10.A ((xe3.tr hsh8.x).A h_o1))).2.1
        simp only [kE, ((xe3.tr (hsh8.x.tr (xe10.tr xe16))).F h_o1 (by decide) F18.1)] at hk19
        refine va_get (D := D) (ci := 8) (v := .ref (S.f o1 5)) (C := RX4) (T := TX4) (N := 9) hx hb hts hi_X4_search_X4 hown hK hP k19 hk19 rfl 5 (by decide) (hts (.fieldLink RX4 31 "Hobhouse$Matching" "bestPartners" "[I") (by decide +kernel)) (fun _ h9 => h9) rfl dX4_search_28 ?_
        refine lv_iload_n hx hb dX4_search_31 rfl (lv_at hl 0 rfl) ?_
        refine lv_iconst (v := -1) hx hb dX4_search_32 (by decide) ?_
        obtain ⟨k20, gk20, hk20⟩ := wGt (cy := cy) X S15 ((xe3.tr (hsh8.x.tr (xe10.tr xe16))).A F18.2.1).1 ((xe3.tr (hsh8.x.tr (xe10.tr xe16))).A F18.2.1).2.1
        refine va_iast hx hb hK hP hD hS k20 2 hk20 rfl (inb (m := 5) (((xe3.tr (hsh8.x.tr (xe10.tr xe16))).n F18.2.1).trans F18.2.2) (by omega) (by omega)) dX4_search_33 (fun H locs hP2 hD2 hS => ?_)
        have e9 := wPui (cy := cy) (f := (upd (S15.i (S.f o1 5)) w8_2.toNatClampNeg (-1 : Int32))) hD ((xe3.tr (hsh8.x.tr (xe10.tr xe16))).A F18.2.1).1 ((xe3.tr (hsh8.x.tr (xe10.tr xe16))).A F18.2.1).2.1 gk20 rfl
        obtain ⟨S21, hS21⟩ : ∃ z, S15.si (S.f o1 5) (upd (S15.i (S.f o1 5)) w8_2.toNatClampNeg (-1 : Int32)) = z := ⟨_, rfl⟩
        have hP : va_P D vwCl (X ++ PL cy S21) H := by rw [← hS21, ← e9]; exact hP2
        have hD : va_D A (X ++ PL cy S21) := by rw [← hS21, ← e9]; exact hD2
        have xe22 : ext S15 S21 := by rw [← hS21]; exact ext.si _ _ _
        have t23 : stp [(4, 8), (17, 100), (18, 100)] [] [] S2 S21 := by rw [← hS21]; exact t17.i (upd (S15.i (S.f o1 5)) w8_2.toNatClampNeg (-1 : Int32)) ((xe3.tr (hsh8.x.tr (xe10.tr xe16))).A F18.2.1) (by decide)
        refine lv_iinc (v := w8_2 + (1 : Int32)) (lv' := [(2, .int (w8_2 + (1 : Int32))), (0, .ref o1), (1, .int x1)]) hx hb dX4_search_34 hl (k := 0) rfl (by rfl) (by decide) rfl (fun ls hl => ?_)
        refine lv_goto (tgt := 8) hx hb dX4_search_37 (by decide) ?_
        have l32_1 : (1 : Int32).toInt = 1 := rfl
        have i24 : (w8_2 + (1 : Int32)).toInt = w8_2.toInt + 1 := t_addr (n := 1) rfl (by omega)
        exact ih8 S21 (w8_2 + (1 : Int32)) _ _ _ (Nat.lt_of_lt_of_le (by omega) (Nat.le_of_lt_succ hm8)) (by omega) t23 hP hD hS (lv_sub hl [0, 1, 2] rfl) ko8
  refine loop8 7 S2 (0 : Int32) _ _ _ (by omega) (by omega) (stp.rf t4.w) hP hD hS (lv_sub hl [0, 1, 2] rfl) (fun S26 z27 H locs ls hi8 hsh8 hP hD hS hl => ?_)
  have t28 : stp [(4, 8), (17, 100), (18, 100)] [] [] S S26 := t4.tr hsh8 (fun _ q => q) (fun _ q => Or.inl q)
  have et28 := hsh8.x
  refine lv_aload_n hx hb dX4_search_40 rfl (lv_at hl 1 rfl) ?_
  refine lv_iconst (v := 0) hx hb dX4_search_41 (by decide) ?_
  refine lv_iload_n hx hb dX4_search_42 rfl (lv_at hl 2 rfl) ?_
  refine lv_iconst (v := 0) hx hb dX4_search_43 (by decide) ?_
  have hFc := free_all hD hS hA
  refine va_callv (va_runS (As := [.ref o1, .int (0 : Int32), .int x1, .int (0 : Int32)]) (rest := []) ⟨hx, hb, hml, hown, hts⟩ (c_X4_choose_5 l (cy := cy) (X := X) (D := D) S26 _ o1 ((xe3.tr et28).A h_o1) (0 : Int32) x1 (0 : Int32) (t28.w) (by omega) (by omega)) (cwS 4 hts gX4_search_X4_choose rfl rfl rfl hd_X4_choose ⟨Nat.le_of_ble_eq_true rfl, Nat.le_of_ble_eq_true rfl⟩) (pS hP hK hD hN) rfl rfl hl.1 rfl (lv_room (Nat.le_of_ble_eq_true rfl)) dX4_search_44 ⟨(Nat.zero_le _), (Nat.zero_le _)⟩) hS (fun q _ h => hFc q h) hFc (fun u t H1 locs ht hvm hw hB hz1 hk1 hS => ?_)
  have w30 := hw
  obtain ⟨hP, hD⟩ := wd_post hFc ht hB
  generalize H1 = H at hP hS ⊢
  obtain ⟨S31, rfl⟩ : ∃ z, z = u := ⟨_, rfl⟩
  have t32 : stp [(4, 8), (17, 100), (18, 100)] [] [] S S31 := t28.tr w30 (by decide) (fun _ q => absurd q List.not_mem_nil)
  have xe33 : ext S26 S31 := w30.x
  refine lv_aload_n hx hb dX4_search_47 rfl (lv_at hl 1 rfl) ?_
  obtain ⟨k34, gk34, hk34⟩ := wGt (cy := cy) X S31 (xe33.A ((xe3.tr et28).A h_o1)).1 (xe33.A ((xe3.tr et28).A h_o1)).2.1
  refine va_get (D := D) (ci := 8) (v := .int (S31.I o1 8)) (C := RX4) (T := TX4) (N := 9) hx hb hts hi_X4_search_X4 hown hK hP k34 hk34 rfl 8 (by decide) (hts (.fieldLink RX4 67 "Hobhouse$Matching" "leastSum" "I") (by decide +kernel)) (fun _ h9 => h9) rfl dX4_search_48 ?_
  refine lv_ldc (own := RX4) (v := 2147483647) hx hb hown (hts (.constant RX4 66 (2147483647)) (by decide +kernel)) dX4_search_51 ?_
  refine lv_icmp_ge (tgt := 60) hx hb dX4_search_53 (by decide) (fun c35 => ?_) (fun c35 => ?_)
  · have c35i : 2147483647 ≤ (S31.I o1 8).toInt := le_v rfl rfl c35
    refine lv_iconst (v := 0) hx hb dX4_search_60 (by decide) ?_
    refine W.widen (k := 0) (n := 0) (Nat.le_of_ble_eq_true rfl) (Nat.le_of_ble_eq_true rfl) ?_
    exact W.zret (v := (0 : Int32)) hx hb hr (by rfl) (fun t ht hW9 => ⟨⟨(0 : Int32), S31, rfl, t32, wd_end hP hK hD ht hW9.alike⟩, hS.F ht⟩) hS.2.2 dX4_search_61 hlocks
  · have c35i : (S31.I o1 8).toInt < 2147483647 := nle_v rfl rfl c35
    refine lv_iconst (v := 1) hx hb dX4_search_56 (by decide) ?_
    refine lv_goto (tgt := 61) hx hb dX4_search_57 (by decide) ?_
    refine W.widen (k := 0) (n := 0) (Nat.le_of_ble_eq_true rfl) (Nat.le_of_ble_eq_true rfl) ?_
    exact W.zret (v := (1 : Int32)) hx hb hr (by rfl) (fun t ht hW9 => ⟨⟨(1 : Int32), S31, rfl, t32, wd_end hP hK hD ht hW9.alike⟩, hS.F ht⟩) hS.2.2 dX4_search_61 hlocks
theorem hi_X4_bind_X2 : ∀ w ∈ u_ws RX2 TX2 20, w ∈ wsX4_bind := by decide +kernel
theorem hi_X4_bind_X4 : ∀ w ∈ u_ws RX4 TX4 9, w ∈ wsX4_bind := by decide +kernel
theorem hd_X4_bind : yX4_bind.cls = RX4 ∧ yX4_bind.cls ≠ "java/lang/invoke/MethodHandle" ∧ yX4_bind.cls ≠ "java/lang/invoke/VarHandle" ∧ (parseMethodDescriptor yX4_bind.desc).map (fun d => d.parameters.length) = some 0 := by decide +kernel
set_option maxHeartbeats 4000000 in
set_option maxRecDepth 100000 in
theorem c_X4_bind (l : Launch) {D : va_G} {cy : Nat → ClassId} {X : va_W} (S : wPS) (sz : Nat) (o1 : Nat) (h_o1 : isA S o1 4) (hW : wtB S [])  : Met l yX4_bind wsX4_bind ({ frames := 0, cells := 0, slots := 0, locals := 0 }) (va_Pc [.ref o1] (fun U => U.heap.size = sz ∧ WD D cy X (fun _ => True) S U ∧ NW U)) (va_Qv (fun (u : wPS) => stp [(2, 19)] [] [] S u) (fun u t => WD D cy X (va_A (X ++ PL cy S) sz) u t) (va_A (X ++ PL cy S) sz)) 0 0 (va_A (X ++ PL cy S) sz) := by
  refine Met.ofW (cc := cX4_bind) (maxL := 3) (ret := none) (by decide) rfl ?_
  intro p e s m args below meth c s₁ B hml hv
  obtain ⟨rfl, hsz, ⟨hP, hK, hD0⟩, hN⟩ := hv
  have hx := B.exec
  have hb := B.bytes
  have hr := B.returns
  have hts := atoms_spec (ws := wsX4_bind) B.pre
  have hown : s.vm.findClass RX4 = some m.cls := findClass_of_methodNamed (x := yX4_bind) B.named
  have hlocks := B.notSynchronized
  subst hsz
  have hD := hD0.self (sz := s.heap.size)
  generalize hAe : va_A (X ++ PL cy S) s.heap.size = A at hD ⊢
  have hA : ∀ q : Nat, s.heap.size ≤ q → A q := fun q h => by rw [← hAe]; exact Or.inr h
  have hS : va_S A s.heap s.heap [] := va_S.rf
  have hl := lv_entry ([.ref o1]) (n := 3) (Nat.le_of_ble_eq_true rfl)
  rw [lg_entry_eq]
  generalize (lg_sl ([.ref o1]) ++ List.replicate (3 - (lg_sl ([.ref o1])).length) Slot.unset).toArray = ls at hl ⊢
  have hl : lv_has ls 3 [(0, .ref o1)] := hl
  have t0 : stp [(2, 19)] [] [] S S := stp.rf hW
  refine lv_iconst (v := 0) hx hb dX4_bind_0 (by decide) ?_
  refine lv_istore_n (lv' := [(1, .int (0 : Int32)), (0, .ref o1)]) hx hb dX4_bind_1 rfl hl (by decide) rfl (fun ls hl => ?_)
  have l32_0 : (0 : Int32).toInt = 0 := rfl
  have loop2 : ∀ (n : Nat) (S2_ : wPS) (w2_1 : Int32) (H : Heap) (locs : List Loc) (ls : Array Slot), (6 - w2_1.toInt).toNat < n → 0 ≤ w2_1.toInt ∧ w2_1.toInt ≤ 5 → stp [(2, 19)] [] [] S S2_ → va_P D vwCl (X ++ PL cy S2_) H → va_D A (X ++ PL cy S2_) → va_S A s.heap H locs → lv_has ls 3 [(1, .int w2_1), (0, .ref o1)] → (∀ (S2_x : wPS) (w2_1x : Int32) (H : Heap) (locs : List Loc) (ls : Array Slot), 0 ≤ w2_1x.toInt ∧ w2_1x.toInt ≤ 5 → stp [(2, 19)] [] [] S S2_x → va_P D vwCl (X ++ PL cy S2_x) H → va_D A (X ++ PL cy S2_x) → va_S A s.heap H locs → lv_has ls 3 [(1, .int w2_1x), (0, .ref o1)] → W p l e (headSpec wsX4_bind ({ frames := 0, cells := 0, slots := 0, locals := 0 } : Room)).room s m [.ref o1].toArray below meth c H locs 0 0 (MQ below (va_Qv (fun (u : wPS) => stp [(2, 19)] [] [] S u) (fun u t => WD D cy X A u t) A) [.ref o1].toArray s 0 0 A) (F0 m 71 ls [])) → W p l e (headSpec wsX4_bind ({ frames := 0, cells := 0, slots := 0, locals := 0 } : Room)).room s m [.ref o1].toArray below meth c H locs 0 0 (MQ below (va_Qv (fun (u : wPS) => stp [(2, 19)] [] [] S u) (fun u t => WD D cy X A u t) A) [.ref o1].toArray s 0 0 A) (F0 m 2 ls []) := by
    intro n2
    induction n2 with
    | zero => intro S2_ w2_1 H locs ls hm; exact absurd hm (Nat.not_lt_zero _)
    | succ n2 ih2 =>
      intro S2_ w2_1 H locs ls hm2 hi2 hsh2 hP hD hS hl ko2
      refine lv_iload_n hx hb dX4_bind_2 rfl (lv_at hl 0 rfl) ?_
      refine lv_aload_n hx hb dX4_bind_3 rfl (lv_at hl 1 rfl) ?_
      obtain ⟨k1, gk1, hk1⟩ := wGt (cy := cy) X S2_ (hsh2.x.A h_o1).1 (hsh2.x.A h_o1).2.1
      have i2 := ((hsh2.w.at (hsh2.x.A h_o1) List.not_mem_nil).to_4 (hsh2.x.A h_o1).2.1).R6
      refine va_get (D := D) (ci := 8) (v := .int (S2_.I o1 6)) (C := RX4) (T := TX4) (N := 9) hx hb hts hi_X4_bind_X4 hown hK hP k1 hk1 rfl 6 (by decide) (hts (.fieldLink RX4 34 "Hobhouse$Matching" "firstCount" "I") (by decide +kernel)) (fun _ h9 => h9) rfl dX4_bind_4 ?_
      refine lv_icmp_ge (tgt := 71) hx hb dX4_bind_7 (by decide) (fun c3 => ?_) (fun c3 => ?_)
      · have c3i : (S2_.I o1 6).toInt ≤ w2_1.toInt := le_v rfl rfl c3
        exact ko2 S2_ w2_1 _ _ _ (by omega) hsh2 hP hD hS (lv_sub hl [0, 1] rfl)
      · have c3i : w2_1.toInt < (S2_.I o1 6).toInt := nle_v rfl rfl c3
        refine lv_aload_n hx hb dX4_bind_10 rfl (lv_at hl 1 rfl) ?_
        have F4 := ((hW.at h_o1 List.not_mem_nil).to_4 h_o1.2.1).F5
        obtain ⟨k5, gk5, hk5⟩ := wGt (cy := cy) X S2_ (hsh2.x.A h_o1).1 (hsh2.x.A h_o1).2.1
        simp only [kE, (hsh2.x.F h_o1 (by decide) F4.1)] at hk5
        refine va_get (D := D) (ci := 8) (v := .ref (S.f o1 5)) (C := RX4) (T := TX4) (N := 9) hx hb hts hi_X4_bind_X4 hown hK hP k5 hk5 rfl 5 (by decide) (hts (.fieldLink RX4 31 "Hobhouse$Matching" "bestPartners" "[I") (by decide +kernel)) (fun _ h9 => h9) rfl dX4_bind_11 ?_
        refine lv_iload_n hx hb dX4_bind_14 rfl (lv_at hl 0 rfl) ?_
        obtain ⟨k6, gk6, hk6⟩ := wGt (cy := cy) X S2_ (hsh2.x.A F4.2.1).1 (hsh2.x.A F4.2.1).2.1
        refine va_iald hx hb hK hP k6 2 hk6 rfl (inb (m := 5) ((hsh2.x.n F4.2.1).trans F4.2.2) (by omega) (by omega)) dX4_bind_15 ?_
        refine lv_istore_n (lv' := [(2, .int (S2_.i (S.f o1 5) w2_1.toNatClampNeg)), (1, .int w2_1), (0, .ref o1)]) hx hb dX4_bind_16 rfl hl (by decide) rfl (fun ls hl => ?_)
        refine lv_iload_n hx hb dX4_bind_17 rfl (lv_at hl 0 rfl) ?_
        refine lv_if_lt (tgt := 65) hx hb dX4_bind_18 (by decide) (fun c7 => ?_) (fun c7 => ?_)
        · have c7i : (S2_.i (S.f o1 5) w2_1.toNatClampNeg).toInt < 0 := lt_v rfl rfl c7
          refine lv_iinc (v := w2_1 + (1 : Int32)) (lv' := [(1, .int (w2_1 + (1 : Int32))), (2, .int (S2_.i (S.f o1 5) w2_1.toNatClampNeg)), (0, .ref o1)]) hx hb dX4_bind_65 hl (k := 1) rfl (by rfl) (by decide) rfl (fun ls hl => ?_)
          refine lv_goto (tgt := 2) hx hb dX4_bind_68 (by decide) ?_
          have l32_1 : (1 : Int32).toInt = 1 := rfl
          have i8 : (w2_1 + (1 : Int32)).toInt = w2_1.toInt + 1 := t_addr (n := 1) rfl (by omega)
          exact ih2 S2_ (w2_1 + (1 : Int32)) _ _ _ (Nat.lt_of_lt_of_le (by omega) (Nat.le_of_lt_succ hm2)) (by omega) hsh2 hP hD hS (lv_sub hl [0, 2] rfl) ko2
        · have c7i : 0 ≤ (S2_.i (S.f o1 5) w2_1.toNatClampNeg).toInt := nlt_v rfl rfl c7
          refine lv_iload_n hx hb dX4_bind_21 rfl (lv_at hl 0 rfl) ?_
          refine lv_aload_n hx hb dX4_bind_22 rfl (lv_at hl 2 rfl) ?_
          obtain ⟨k9, gk9, hk9⟩ := wGt (cy := cy) X S2_ (hsh2.x.A h_o1).1 (hsh2.x.A h_o1).2.1
          have i10 := ((hsh2.w.at (hsh2.x.A h_o1) List.not_mem_nil).to_4 (hsh2.x.A h_o1).2.1).R7
          refine va_get (D := D) (ci := 8) (v := .int (S2_.I o1 7)) (C := RX4) (T := TX4) (N := 9) hx hb hts hi_X4_bind_X4 hown hK hP k9 hk9 rfl 7 (by decide) (hts (.fieldLink RX4 38 "Hobhouse$Matching" "secondCount" "I") (by decide +kernel)) (fun _ h9 => h9) rfl dX4_bind_23 ?_
          refine lv_icmp_ge (tgt := 65) hx hb dX4_bind_26 (by decide) (fun c11 => ?_) (fun c11 => ?_)
          · have c11i : (S2_.I o1 7).toInt ≤ (S2_.i (S.f o1 5) w2_1.toNatClampNeg).toInt := le_v rfl rfl c11
            refine lv_iinc (v := w2_1 + (1 : Int32)) (lv' := [(1, .int (w2_1 + (1 : Int32))), (2, .int (S2_.i (S.f o1 5) w2_1.toNatClampNeg)), (0, .ref o1)]) hx hb dX4_bind_65 hl (k := 1) rfl (by rfl) (by decide) rfl (fun ls hl => ?_)
            refine lv_goto (tgt := 2) hx hb dX4_bind_68 (by decide) ?_
            have l32_1 : (1 : Int32).toInt = 1 := rfl
            have i12 : (w2_1 + (1 : Int32)).toInt = w2_1.toInt + 1 := t_addr (n := 1) rfl (by omega)
            exact ih2 S2_ (w2_1 + (1 : Int32)) _ _ _ (Nat.lt_of_lt_of_le (by omega) (Nat.le_of_lt_succ hm2)) (by omega) hsh2 hP hD hS (lv_sub hl [0, 2] rfl) ko2
          · have c11i : (S2_.i (S.f o1 5) w2_1.toNatClampNeg).toInt < (S2_.I o1 7).toInt := nle_v rfl rfl c11
            refine lv_aload_n hx hb dX4_bind_29 rfl (lv_at hl 2 rfl) ?_
            have F13 := ((hW.at h_o1 List.not_mem_nil).to_4 h_o1.2.1).F0
            obtain ⟨k14, gk14, hk14⟩ := wGt (cy := cy) X S2_ (hsh2.x.A h_o1).1 (hsh2.x.A h_o1).2.1
            simp only [kE, (hsh2.x.F h_o1 (by decide) F13.1)] at hk14
            refine va_get (D := D) (ci := 8) (v := .ref (S.f o1 0)) (C := RX4) (T := TX4) (N := 9) hx hb hts hi_X4_bind_X4 hown hK hP k14 hk14 rfl 0 (by decide) (hts (.fieldLink RX4 11 "Hobhouse$Matching" "firsts" "[LHobhouse$Gear;") (by decide +kernel)) (fun _ h9 => h9) rfl dX4_bind_30 ?_
            refine lv_iload_n hx hb dX4_bind_33 rfl (lv_at hl 1 rfl) ?_
            obtain ⟨k15, gk15, hk15⟩ := wGt (cy := cy) X S2_ (hsh2.x.A F13.2.1).1 (hsh2.x.A F13.2.1).2.1
            have i17 := cl_int (i := w2_1) (by omega)
            have g16 := elq (by have h9 := ((hsh2.w.at (hsh2.x.A h_o1) List.not_mem_nil).to_4 (hsh2.x.A h_o1).2.1).E0 w2_1.toNatClampNeg (by omega); rw [f_of (hsh2.x.F h_o1 (by decide) F13.1)] at h9; exact h9)
            refine va_aldq hx hb hK hP k15 4 hk15 rfl (inb (m := 5) ((hsh2.x.n F13.2.1).trans F13.2.2) (by omega) (by omega)) dX4_bind_34 ?_
            rw [g16.1]
            refine W.eq (g2 := F0 m 35 ls [.ref (S2_.q (S.f o1 0) w2_1.toNatClampNeg)]) rfl ?_
            refine lv_aload_n hx hb dX4_bind_35 rfl (lv_at hl 2 rfl) ?_
            have F18 := ((hW.at h_o1 List.not_mem_nil).to_4 h_o1.2.1).F1
            obtain ⟨k19, gk19, hk19⟩ := wGt (cy := cy) X S2_ (hsh2.x.A h_o1).1 (hsh2.x.A h_o1).2.1
            simp only [kE, (hsh2.x.F h_o1 (by decide) F18.1)] at hk19
            refine va_get (D := D) (ci := 8) (v := .ref (S.f o1 1)) (C := RX4) (T := TX4) (N := 9) hx hb hts hi_X4_bind_X4 hown hK hP k19 hk19 rfl 1 (by decide) (hts (.fieldLink RX4 17 "Hobhouse$Matching" "seconds" "[LHobhouse$Gear;") (by decide +kernel)) (fun _ h9 => h9) rfl dX4_bind_36 ?_
            refine lv_iload_n hx hb dX4_bind_39 rfl (lv_at hl 0 rfl) ?_
            obtain ⟨k20, gk20, hk20⟩ := wGt (cy := cy) X S2_ (hsh2.x.A F18.2.1).1 (hsh2.x.A F18.2.1).2.1
            have i22 := cl_int (i := S2_.i (S.f o1 5) w2_1.toNatClampNeg) (by omega)
            have g21 := elq (by have h9 := ((hsh2.w.at (hsh2.x.A h_o1) List.not_mem_nil).to_4 (hsh2.x.A h_o1).2.1).E1 (S2_.i (S.f o1 5) w2_1.toNatClampNeg).toNatClampNeg (by omega); rw [f_of (hsh2.x.F h_o1 (by decide) F18.1)] at h9; exact h9)
            refine va_aldq hx hb hK hP k20 4 hk20 rfl (inb (m := 5) ((hsh2.x.n F18.2.1).trans F18.2.2) (by omega) (by omega)) dX4_bind_40 ?_
            rw [g21.1]
            refine W.eq (g2 := F0 m 41 ls [.ref (S2_.q (S.f o1 1) (S2_.i (S.f o1 5) w2_1.toNatClampNeg).toNatClampNeg), .ref (S2_.q (S.f o1 0) w2_1.toNatClampNeg)]) rfl ?_
            obtain ⟨k23, gk23, hk23⟩ := wGt (cy := cy) X S2_ g21.2.1 g21.2.2.1
            refine va_get (D := D) (ci := 6) (v := .int (S2_.I (S2_.q (S.f o1 1) (S2_.i (S.f o1 5) w2_1.toNatClampNeg).toNatClampNeg) 0)) (C := RX2) (T := TX2) (N := 20) hx hb hts hi_X4_bind_X2 hown hK hP k23 hk23 rfl 0 (by decide) (hts (.fieldLink RX4 84 "Hobhouse$Gear" "number" "I") (by decide +kernel)) (fun _ h9 => h9) rfl dX4_bind_41 ?_
            obtain ⟨k24, gk24, hk24⟩ := wGt (cy := cy) X S2_ g16.2.1 g16.2.2.1
            refine va_put (D := D) (ci := 6) (v := .int (S2_.I (S2_.q (S.f o1 1) (S2_.i (S.f o1 5) w2_1.toNatClampNeg).toNatClampNeg) 0)) (ty := .int) (C := RX2) (T := TX2) (N := 20) hx hb hts hi_X4_bind_X2 tyX2 tyX2_ok nmX2 hown hK hP hD hS k24 hk24 rfl 19 (by decide) (hts (.fieldLink RX4 87 "Hobhouse$Gear" "mateNumber" "I") (by decide +kernel)) (fun _ h9 => h9) rfl (by decide +kernel) (rfl) (rfl) (Nat.le_of_ble_eq_true rfl) dX4_bind_44 (fun H locs hP2 hD2 hS => ?_)
            have e9 := wPuI (cy := cy) (j := 19) (v := (S2_.I (S2_.q (S.f o1 1) (S2_.i (S.f o1 5) w2_1.toNatClampNeg).toNatClampNeg) 0)) hD g16.2.1 g16.2.2.1 gk24 rfl
            obtain ⟨S25, hS25⟩ : ∃ z, S2_.sI (S2_.q (S.f o1 0) w2_1.toNatClampNeg) 19 (S2_.I (S2_.q (S.f o1 1) (S2_.i (S.f o1 5) w2_1.toNatClampNeg).toNatClampNeg) 0) = z := ⟨_, rfl⟩
            have hP : va_P D vwCl (X ++ PL cy S25) H := by rw [← hS25, ← e9]; exact hP2
            have hD : va_D A (X ++ PL cy S25) := by rw [← hS25, ← e9]; exact hD2
            have xe26 : ext S2_ S25 := by rw [← hS25]; exact ext.sI _ _ _ _
            have t27 : stp [(2, 19)] [] [] S S25 := by rw [← hS25]; exact hsh2.I 19 (S2_.I (S2_.q (S.f o1 1) (S2_.i (S.f o1 5) w2_1.toNatClampNeg).toNatClampNeg) 0) g16.2 (by decide) (trivial) (Or.inl (by decide))
            have k28 : (S25.I o1 6).toInt = (S2_.I o1 6).toInt := by rw [← hS25]; exact congrArg Int32.toInt (sI_I (by rintro ⟨e1, e2⟩; exact absurd e2 (by decide)))
            have k29 : (S25.I o1 7).toInt = (S2_.I o1 7).toInt := by rw [← hS25]; exact congrArg Int32.toInt (sI_I (by rintro ⟨e1, e2⟩; exact absurd e2 (by decide)))
            refine lv_aload_n hx hb dX4_bind_47 rfl (lv_at hl 2 rfl) ?_
            obtain ⟨k30, gk30, hk30⟩ := wGt (cy := cy) X S25 (xe26.A (hsh2.x.A h_o1)).1 (xe26.A (hsh2.x.A h_o1)).2.1
            simp only [kE, ((hsh2.x.tr xe26).F h_o1 (by decide) F18.1)] at hk30
            refine va_get (D := D) (ci := 8) (v := .ref (S.f o1 1)) (C := RX4) (T := TX4) (N := 9) hx hb hts hi_X4_bind_X4 hown hK hP k30 hk30 rfl 1 (by decide) (hts (.fieldLink RX4 17 "Hobhouse$Matching" "seconds" "[LHobhouse$Gear;") (by decide +kernel)) (fun _ h9 => h9) rfl dX4_bind_48 ?_
            refine lv_iload_n hx hb dX4_bind_51 rfl (lv_at hl 0 rfl) ?_
            obtain ⟨k31, gk31, hk31⟩ := wGt (cy := cy) X S25 (xe26.A (hsh2.x.A F18.2.1)).1 (xe26.A (hsh2.x.A F18.2.1)).2.1
            have i33 := cl_int (i := S2_.i (S.f o1 5) w2_1.toNatClampNeg) (by omega)
            have g32 := elq (by have h9 := ((t27.w.at (xe26.A (hsh2.x.A h_o1)) List.not_mem_nil).to_4 (xe26.A (hsh2.x.A h_o1)).2.1).E1 (S2_.i (S.f o1 5) w2_1.toNatClampNeg).toNatClampNeg (by omega); rw [f_of ((hsh2.x.tr xe26).F h_o1 (by decide) F18.1)] at h9; exact h9)
            refine va_aldq hx hb hK hP k31 4 hk31 rfl (inb (m := 5) (((hsh2.x.tr xe26).n F18.2.1).trans F18.2.2) (by omega) (by omega)) dX4_bind_52 ?_
            rw [g32.1]
            refine W.eq (g2 := F0 m 53 ls [.ref (S25.q (S.f o1 1) (S2_.i (S.f o1 5) w2_1.toNatClampNeg).toNatClampNeg)]) rfl ?_
            refine lv_aload_n hx hb dX4_bind_53 rfl (lv_at hl 2 rfl) ?_
            obtain ⟨k34, gk34, hk34⟩ := wGt (cy := cy) X S25 (xe26.A (hsh2.x.A h_o1)).1 (xe26.A (hsh2.x.A h_o1)).2.1
            simp only [kE, ((hsh2.x.tr xe26).F h_o1 (by decide) F13.1)] at hk34
            refine va_get (D := D) (ci := 8) (v := .ref (S.f o1 0)) (C := RX4) (T := TX4) (N := 9) hx hb hts hi_X4_bind_X4 hown hK hP k34 hk34 rfl 0 (by decide) (hts (.fieldLink RX4 11 "Hobhouse$Matching" "firsts" "[LHobhouse$Gear;") (by decide +kernel)) (fun _ h9 => h9) rfl dX4_bind_54 ?_
            refine lv_iload_n hx hb dX4_bind_57 rfl (lv_at hl 1 rfl) ?_
            obtain ⟨k35, gk35, hk35⟩ := wGt (cy := cy) X S25 (xe26.A (hsh2.x.A F13.2.1)).1 (xe26.A (hsh2.x.A F13.2.1)).2.1
            have i37 := cl_int (i := w2_1) (by omega)
            have g36 := elq (by have h9 := ((t27.w.at (xe26.A (hsh2.x.A h_o1)) List.not_mem_nil).to_4 (xe26.A (hsh2.x.A h_o1)).2.1).E0 w2_1.toNatClampNeg (by omega); rw [f_of ((hsh2.x.tr xe26).F h_o1 (by decide) F13.1)] at h9; exact h9)
            refine va_aldq hx hb hK hP k35 4 hk35 rfl (inb (m := 5) (((hsh2.x.tr xe26).n F13.2.1).trans F13.2.2) (by omega) (by omega)) dX4_bind_58 ?_
            rw [g36.1]
            refine W.eq (g2 := F0 m 59 ls [.ref (S25.q (S.f o1 0) w2_1.toNatClampNeg), .ref (S25.q (S.f o1 1) (S2_.i (S.f o1 5) w2_1.toNatClampNeg).toNatClampNeg)]) rfl ?_
            obtain ⟨k38, gk38, hk38⟩ := wGt (cy := cy) X S25 g36.2.1 g36.2.2.1
            refine va_get (D := D) (ci := 6) (v := .int (S25.I (S25.q (S.f o1 0) w2_1.toNatClampNeg) 0)) (C := RX2) (T := TX2) (N := 20) hx hb hts hi_X4_bind_X2 hown hK hP k38 hk38 rfl 0 (by decide) (hts (.fieldLink RX4 84 "Hobhouse$Gear" "number" "I") (by decide +kernel)) (fun _ h9 => h9) rfl dX4_bind_59 ?_
            obtain ⟨k39, gk39, hk39⟩ := wGt (cy := cy) X S25 g32.2.1 g32.2.2.1
            refine va_put (D := D) (ci := 6) (v := .int (S25.I (S25.q (S.f o1 0) w2_1.toNatClampNeg) 0)) (ty := .int) (C := RX2) (T := TX2) (N := 20) hx hb hts hi_X4_bind_X2 tyX2 tyX2_ok nmX2 hown hK hP hD hS k39 hk39 rfl 19 (by decide) (hts (.fieldLink RX4 87 "Hobhouse$Gear" "mateNumber" "I") (by decide +kernel)) (fun _ h9 => h9) rfl (by decide +kernel) (rfl) (rfl) (Nat.le_of_ble_eq_true rfl) dX4_bind_62 (fun H locs hP2 hD2 hS => ?_)
            have e9 := wPuI (cy := cy) (j := 19) (v := (S25.I (S25.q (S.f o1 0) w2_1.toNatClampNeg) 0)) hD g32.2.1 g32.2.2.1 gk39 rfl
            obtain ⟨S40, hS40⟩ : ∃ z, S25.sI (S25.q (S.f o1 1) (S2_.i (S.f o1 5) w2_1.toNatClampNeg).toNatClampNeg) 19 (S25.I (S25.q (S.f o1 0) w2_1.toNatClampNeg) 0) = z := ⟨_, rfl⟩
            have hP : va_P D vwCl (X ++ PL cy S40) H := by rw [← hS40, ← e9]; exact hP2
            have hD : va_D A (X ++ PL cy S40) := by rw [← hS40, ← e9]; exact hD2
            have xe41 : ext S25 S40 := by rw [← hS40]; exact ext.sI _ _ _ _
            have t42 : stp [(2, 19)] [] [] S S40 := by rw [← hS40]; exact t27.I 19 (S25.I (S25.q (S.f o1 0) w2_1.toNatClampNeg) 0) g32.2 (by decide) (trivial) (Or.inl (by decide))
            have k43 : (S40.I o1 6).toInt = (S25.I o1 6).toInt := by rw [← hS40]; exact congrArg Int32.toInt (sI_I (by rintro ⟨e1, e2⟩; exact absurd e2 (by decide)))
            have k44 : (S40.I o1 7).toInt = (S25.I o1 7).toInt := by rw [← hS40]; exact congrArg Int32.toInt (sI_I (by rintro ⟨e1, e2⟩; exact absurd e2 (by decide)))
            refine lv_iinc (v := w2_1 + (1 : Int32)) (lv' := [(1, .int (w2_1 + (1 : Int32))), (2, .int (S2_.i (S.f o1 5) w2_1.toNatClampNeg)), (0, .ref o1)]) hx hb dX4_bind_65 hl (k := 1) rfl (by rfl) (by decide) rfl (fun ls hl => ?_)
            refine lv_goto (tgt := 2) hx hb dX4_bind_68 (by decide) ?_
            have l32_1 : (1 : Int32).toInt = 1 := rfl
            have i45 : (w2_1 + (1 : Int32)).toInt = w2_1.toInt + 1 := t_addr (n := 1) rfl (by omega)
            exact ih2 S40 (w2_1 + (1 : Int32)) _ _ _ (Nat.lt_of_lt_of_le (by omega) (Nat.le_of_lt_succ hm2)) (by omega) t42 hP hD hS (lv_sub hl [0, 2] rfl) ko2
  refine loop2 7 S (0 : Int32) _ _ _ (by omega) (by omega) (stp.rf hW) hP hD hS (lv_sub hl [0, 1] rfl) (fun S47 z48 H locs ls hi2 hsh2 hP hD hS hl => ?_)
  have t49 : stp [(2, 19)] [] [] S S47 := t0.tr hsh2 (fun _ q => q) (fun _ q => Or.inl q)
  have et49 := hsh2.x
  refine W.widen (k := 0) (n := 0) (Nat.le_of_ble_eq_true rfl) (Nat.le_of_ble_eq_true rfl) ?_
  exact W.vret hx hb hr (fun t ht hW9 => ⟨⟨S47, rfl, t49, wd_end hP hK hD ht hW9.alike⟩, hS.F ht⟩) hS.2.2 dX4_bind_71 hlocks
