theorem hd_X12_cut : yX12_cut.cls = RX12 ∧ yX12_cut.cls ≠ "java/lang/invoke/MethodHandle" ∧ yX12_cut.cls ≠ "java/lang/invoke/VarHandle" ∧ (parseMethodDescriptor yX12_cut.desc).map (fun d => d.parameters.length) = some 3 := by decide +kernel
set_option maxHeartbeats 4000000 in
set_option maxRecDepth 100000 in
theorem c_X12_cut (l : Launch) {D : va_G} {cy : Nat → ClassId} {X : va_W} (S : wPS) (sz : Nat) (o1 : Nat) (h_o1 : isA S o1 12) (x1 : Int32) (x2 : Int32) (x3 : Int32) (hW : wtB S [])  : Met l yX12_cut wsX12_cut ({ frames := 4, cells := 0, slots := 0, locals := 85 }) (va_Pc [.ref o1, .int x1, .int x2, .int x3] (fun U => U.heap.size = sz ∧ WD D cy X (fun _ => True) S U ∧ NW U)) (va_Qi (fun r (u : wPS) => stp [(10, 9), (10, 10), (10, 11), (10, 18), (11, 5), (12, 15), (17, 100)] [] [] S u) (fun u t => WD D cy X (va_A (X ++ PL cy S) sz) u t) (va_A (X ++ PL cy S) sz)) 0 0 (va_A (X ++ PL cy S) sz) := by
  refine Met.ofW (cc := cX12_cut) (maxL := 7) (ret := (some .int)) (by decide) rfl ?_
  intro p e s m args below meth c s₁ B hml hv
  obtain ⟨rfl, hsz, ⟨hP, hK, hD0⟩, hN⟩ := hv
  have hx := B.exec
  have hb := B.bytes
  have hr := B.returns
  have hts := atoms_spec (ws := wsX12_cut) B.pre
  have hown : s.vm.findClass RX12 = some m.cls := findClass_of_methodNamed (x := yX12_cut) B.named
  have hlocks := B.notSynchronized
  subst hsz
  have hD := hD0.self (sz := s.heap.size)
  generalize hAe : va_A (X ++ PL cy S) s.heap.size = A at hD ⊢
  have hA : ∀ q : Nat, s.heap.size ≤ q → A q := fun q h => by rw [← hAe]; exact Or.inr h
  have hS : va_S A s.heap s.heap [] := va_S.rf
  have hl := lv_entry ([.ref o1, .int x1, .int x2, .int x3]) (n := 7) (Nat.le_of_ble_eq_true rfl)
  rw [lg_entry_eq]
  generalize (lg_sl ([.ref o1, .int x1, .int x2, .int x3]) ++ List.replicate (7 - (lg_sl ([.ref o1, .int x1, .int x2, .int x3])).length) Slot.unset).toArray = ls at hl ⊢
  have hl : lv_has ls 7 [(0, .ref o1), (1, .int x1), (2, .int x2), (3, .int x3)] := hl
  have t0 : stp [(10, 9), (10, 10), (10, 11), (10, 18), (11, 5), (12, 15), (17, 100)] [] [] S S := stp.rf hW
  have F1 := ((hW.at h_o1 List.not_mem_nil).to_12 h_o1.2.1).F0
  have F2 := ((hW.at h_o1 List.not_mem_nil).to_12 h_o1.2.1).F1
  refine lv_aload_n hx hb dX12_cut_0 rfl (lv_at hl 0 rfl) ?_
  refine lv_iload_n hx hb dX12_cut_1 rfl (lv_at hl 1 rfl) ?_
  have hFc := free_all hD hS hA
  obtain ⟨k3, gk3, hk3⟩ := wGt (cy := cy) X S h_o1.1 h_o1.2.1
  refine va_calli (va_runV (As := [.int x1]) (rest := []) ⟨hx, hb, hml, hown, hts⟩ (c_X12_isGear l (cy := cy) (X := X) (D := D) S _ o1 h_o1 x1 (hW)) (cwV 1 hts gX12_cut_X12_isGear rfl rfl rfl hd_X12_isGear ⟨Nat.le_of_ble_eq_true rfl, Nat.le_of_ble_eq_true rfl⟩) ⟨fun a U g mk q => ⟨q.1, q.2.1, q.2.2.1.calling, NW.same (u := U) (U := U.calling g mk a) rfl q.2.2.2⟩, va_recv hK hP (q := (RX12, TX12, 34)) (ci := 16) (q0 := k3) rfl hk3, fun U hU hW => ⟨rfl, by rw [hU], wd_pre hP hK hD hU hW, hN.warm hW⟩⟩ rfl rfl hl.1 rfl (lv_room (Nat.le_of_ble_eq_true rfl)) dX12_cut_2 ⟨(Nat.zero_le _), (Nat.zero_le _)⟩) hS (fun q _ h => hFc q h) hFc (fun r4 u t H1 locs ht hvm hw hB hz1 hk1 hS => ?_)
  have c5 := hw
  obtain ⟨hP, hD⟩ := wd_post hFc ht hB
  generalize H1 = H at hP hS ⊢
  obtain rfl : r4 = f_X12_isGear S o1 x1 := c5
  have i6 : (f_X12_isGear S o1 x1).toInt = 0 ∨ (0 ≤ x1.toInt ∧ x1.toInt < (S.I (S.f o1 0) 2).toInt) := by have h9 := ig_rng x1 ((hW.at h_o1 List.not_mem_nil).to_12 h_o1.2.1) hW; rw [f_of F1.1] at h9; exact h9
  refine lv_if_eq (tgt := 16) hx hb dX12_cut_5 (by decide) (fun c7 => ?_) (fun c7 => ?_)
  · have c7i : (f_X12_isGear S o1 x1).toInt = 0 := eq_v rfl rfl c7
    refine lv_aload_n hx hb dX12_cut_16 rfl (lv_at hl 0 rfl) ?_
    refine lv_iconst (v := 1) hx hb dX12_cut_17 (by decide) ?_
    have l32_1 : (1 : Int32).toInt = 1 := rfl
    have hFc := free_all hD hS hA
    obtain ⟨k8, gk8, hk8⟩ := wGt (cy := cy) X S h_o1.1 h_o1.2.1
    refine va_calli (va_runV (As := [.int (1 : Int32)]) (rest := []) ⟨hx, hb, hml, hown, hts⟩ (c_X12_fails l (cy := cy) (X := X) (D := D) S _ o1 h_o1 (1 : Int32) (hW)) (cwV 1 hts gX12_cut_X12_fails rfl rfl rfl hd_X12_fails ⟨Nat.le_of_ble_eq_true rfl, Nat.le_of_ble_eq_true rfl⟩) ⟨fun a U g mk q => ⟨q.1, q.2.1, q.2.2.1.calling, NW.same (u := U) (U := U.calling g mk a) rfl q.2.2.2⟩, va_recv hK hP (q := (RX12, TX12, 34)) (ci := 16) (q0 := k8) rfl hk8, fun U hU hW => ⟨rfl, by rw [hU], wd_pre hP hK hD hU hW, hN.warm hW⟩⟩ rfl rfl hl.1 rfl (lv_room (Nat.le_of_ble_eq_true rfl)) dX12_cut_18 ⟨(Nat.zero_le _), (Nat.zero_le _)⟩) hS (fun q _ h => hFc q h) hFc (fun r9 u t H1 locs ht hvm hw hB hz1 hk1 hS => ?_)
    obtain ⟨c10, w11⟩ := hw
    obtain ⟨hP, hD⟩ := wd_post hFc ht hB
    generalize H1 = H at hP hS ⊢
    obtain ⟨S12, rfl⟩ : ∃ z, z = u := ⟨_, rfl⟩
    have t13 : stp [(10, 9), (10, 10), (10, 11), (10, 18), (11, 5), (12, 15), (17, 100)] [] [] S S12 := t0.tr w11 (by decide) (fun _ q => absurd q List.not_mem_nil)
    have xe14 : ext S S12 := w11.x
    refine W.widen (k := 0) (n := 0) (Nat.le_of_ble_eq_true rfl) (Nat.le_of_ble_eq_true rfl) ?_
    exact W.iret (v := r9) hx hb hr (fun t ht hW9 => ⟨⟨r9, S12, rfl, t13, wd_end hP hK hD ht hW9.alike⟩, hS.F ht⟩) hS.2.2 dX12_cut_21 hlocks
  · have c7i : ¬ (f_X12_isGear S o1 x1).toInt = 0 := neq_v rfl rfl c7
    refine lv_aload_n hx hb dX12_cut_8 rfl (lv_at hl 0 rfl) ?_
    refine lv_iload_n hx hb dX12_cut_9 rfl (lv_at hl 2 rfl) ?_
    have hFc := free_all hD hS hA
    obtain ⟨k15, gk15, hk15⟩ := wGt (cy := cy) X S h_o1.1 h_o1.2.1
    refine va_calli (va_runV (As := [.int x2]) (rest := []) ⟨hx, hb, hml, hown, hts⟩ (c_X12_isHob l (cy := cy) (X := X) (D := D) S _ o1 h_o1 x2 (hW)) (cwV 1 hts gX12_cut_X12_isHob rfl rfl rfl hd_X12_isHob ⟨Nat.le_of_ble_eq_true rfl, Nat.le_of_ble_eq_true rfl⟩) ⟨fun a U g mk q => ⟨q.1, q.2.1, q.2.2.1.calling, NW.same (u := U) (U := U.calling g mk a) rfl q.2.2.2⟩, va_recv hK hP (q := (RX12, TX12, 34)) (ci := 16) (q0 := k15) rfl hk15, fun U hU hW => ⟨rfl, by rw [hU], wd_pre hP hK hD hU hW, hN.warm hW⟩⟩ rfl rfl hl.1 rfl (lv_room (Nat.le_of_ble_eq_true rfl)) dX12_cut_10 ⟨(Nat.zero_le _), (Nat.zero_le _)⟩) hS (fun q _ h => hFc q h) hFc (fun r16 u t H1 locs ht hvm hw hB hz1 hk1 hS => ?_)
    have c17 := hw
    obtain ⟨hP, hD⟩ := wd_post hFc ht hB
    generalize H1 = H at hP hS ⊢
    obtain rfl : r16 = f_X12_isHob S o1 x2 := c17
    have i18 : (f_X12_isHob S o1 x2).toInt = 0 ∨ (0 ≤ x2.toInt ∧ x2.toInt < (S.I (S.f o1 1) 2).toInt) := by have h9 := ih_rng x2 ((hW.at h_o1 List.not_mem_nil).to_12 h_o1.2.1) hW; rw [f_of F2.1] at h9; exact h9
    refine lv_if_ne (tgt := 22) hx hb dX12_cut_13 (by decide) (fun c19 => ?_) (fun c19 => ?_)
    · have c19i : ¬ (f_X12_isHob S o1 x2).toInt = 0 := neq_v rfl rfl c19
      refine lv_iload_n hx hb dX12_cut_22 rfl (lv_at hl 3 rfl) ?_
      refine lv_i2l hx hb dX12_cut_23 rfl ?_
      refine lv_lconst (v := 0) hx hb dX12_cut_24 (by decide) ?_
      refine lv_ldc2 (own := RX12) (v := 500) hx hb hown (hts (.constantLong RX12 133 (500)) (by decide +kernel)) dX12_cut_25 ?_
      have hFc := free_all hD hS hA
      refine va_calli (va_runS (As := [.long x3.toInt64, .long (0 : Int64), .long (500 : Int64)]) (rest := []) ⟨hx, hb, hml, hown, hts⟩ (c_X12_in l (cy := cy) (X := X) (D := D) S _ x3.toInt64 (0 : Int64) (500 : Int64)) (cwS 3 hts gX12_cut_X12_in rfl rfl rfl hd_X12_in ⟨Nat.le_of_ble_eq_true rfl, Nat.le_of_ble_eq_true rfl⟩) ⟨fun a U g mk q => ⟨q.1, q.2.1, q.2.2.1.calling, NW.same (u := U) (U := U.calling g mk a) rfl q.2.2.2⟩, fun U hU hW => ⟨rfl, by rw [hU], wd_pre hP hK hD hU hW, hN.warm hW⟩⟩ rfl rfl hl.1 rfl (lv_room (Nat.le_of_ble_eq_true rfl)) dX12_cut_28 ⟨(Nat.zero_le _), (Nat.zero_le _)⟩) hS (fun q _ h => hFc q h) hFc (fun r20 u t H1 locs ht hvm hw hB hz1 hk1 hS => ?_)
      have c21 := hw
      obtain ⟨hP, hD⟩ := wd_post hFc ht hB
      generalize H1 = H at hP hS ⊢
      obtain rfl : r20 = f_X12_in x3.toInt64 (0 : Int64) (500 : Int64) := c21
      have i22 := i64_i x3
      have l64_0 : (0 : Int64).toInt = 0 := rfl
      have l64_500 : (500 : Int64).toInt = 500 := rfl
      have i23 := in_rng x3.toInt64 (0 : Int64) (500 : Int64)
      refine lv_if_ne (tgt := 40) hx hb dX12_cut_31 (by decide) (fun c24 => ?_) (fun c24 => ?_)
      · have c24i : ¬ (f_X12_in x3.toInt64 (0 : Int64) (500 : Int64)).toInt = 0 := neq_v rfl rfl c24
        refine lv_aload_n hx hb dX12_cut_40 rfl (lv_at hl 0 rfl) ?_
        refine lv_iload_n hx hb dX12_cut_41 rfl (lv_at hl 1 rfl) ?_
        have hFc := free_all hD hS hA
        obtain ⟨k25, gk25, hk25⟩ := wGt (cy := cy) X S h_o1.1 h_o1.2.1
        refine va_callq (va_runV (As := [.int x1]) (rest := []) ⟨hx, hb, hml, hown, hts⟩ (c_X12_gearAt l (cy := cy) (X := X) (D := D) S _ o1 h_o1 x1 (hW) (by rw [f_of F1.1]; omega)) (cwV 1 hts gX12_cut_X12_gearAt rfl rfl rfl hd_X12_gearAt ⟨Nat.le_of_ble_eq_true rfl, Nat.le_of_ble_eq_true rfl⟩) ⟨fun a U g mk q => ⟨q.1, q.2.1, q.2.2.1.calling, NW.same (u := U) (U := U.calling g mk a) rfl q.2.2.2⟩, va_recv hK hP (q := (RX12, TX12, 34)) (ci := 16) (q0 := k25) rfl hk25, fun U hU hW => ⟨rfl, by rw [hU], wd_pre hP hK hD hU hW, hN.warm hW⟩⟩ rfl rfl hl.1 rfl (lv_room (Nat.le_of_ble_eq_true rfl)) dX12_cut_42 ⟨(Nat.zero_le _), (Nat.zero_le _)⟩) hS (fun q _ h => hFc q h) hFc (fun r26 u t H1 locs ht hvm hw hB hz1 hk1 hS => ?_)
        obtain ⟨r26, rfl, o27⟩ := hw
        obtain ⟨hP, hD⟩ := wd_post hFc ht hB
        generalize H1 = H at hP hS ⊢
        refine W.eq (g2 := F0 m 45 ls [.ref r26]) rfl ?_
        refine lv_astore (lv' := [(4, .ref r26), (0, .ref o1), (1, .int x1), (2, .int x2), (3, .int x3)]) hx hb dX12_cut_45 hl (by decide) rfl (fun ls hl => ?_)
        refine lv_aload_n hx hb dX12_cut_47 rfl (lv_at hl 1 rfl) ?_
        obtain ⟨k28, gk28, hk28⟩ := wGt (cy := cy) X S h_o1.1 h_o1.2.1
        simp only [kE, F2.1] at hk28
        refine va_get (D := D) (ci := 16) (v := .ref (S.f o1 1)) (C := RX12) (T := TX12) (N := 34) hx hb hts (by decide +kernel) hown hK hP k28 hk28 rfl 1 (by decide) (hts (.fieldLink RX12 28 "HobhouseModel" "hobs" "Ljava/util/ArrayList;") (by decide +kernel)) (fun _ h9 => h9) rfl dX12_cut_48 ?_
        refine lv_iload_n hx hb dX12_cut_51 rfl (lv_at hl 3 rfl) ?_
        have hFc := free_all hD hS hA
        obtain ⟨k29, gk29, hk29⟩ := wGt (cy := cy) X S F2.2.1.1 F2.2.1.2.1
        refine va_callq (va_runV (As := [.int x2]) (rest := []) ⟨hx, hb, hml, hown, hts⟩ (c_Jx4a65c_get_915e3 l (cy := cy) (X := X) (D := D) S _ (S.f o1 1) F2.2.1 x2 (hW) (by omega)) (cwV 1 hts gX12_cut_Jx4a65c_get_915e3 rfl rfl rfl hd_Jx4a65c_get_915e3 ⟨Nat.le_of_ble_eq_true rfl, Nat.le_of_ble_eq_true rfl⟩) ⟨fun a U g mk q => ⟨q.1, q.2.1, q.2.2.1.calling, NW.same (u := U) (U := U.calling g mk a) rfl q.2.2.2⟩, va_recv hK hP (q := (RJx4a65c, TJx4a65c, 3)) (ci := 3) (q0 := k29) rfl hk29, fun U hU hW => ⟨rfl, by rw [hU], wd_pre hP hK hD hU hW, hN.warm hW⟩⟩ rfl rfl hl.1 rfl (lv_room (Nat.le_of_ble_eq_true rfl)) dX12_cut_52 ⟨(Nat.zero_le _), (Nat.zero_le _)⟩) hS (fun q _ h => hFc q h) hFc (fun r30 u t H1 locs ht hvm hw hB hz1 hk1 hS => ?_)
        obtain ⟨r30, rfl, o31⟩ := hw
        obtain ⟨hP, hD⟩ := wd_post hFc ht hB
        generalize H1 = H at hP hS ⊢
        have o31k : isA S r30 11 := by rw [← show _ = 11 from F2.2.2]; exact o31
        refine W.eq (g2 := F0 m 55 ls [.ref r30]) rfl ?_
        obtain ⟨k32, gk32, hk32⟩ := wGt (cy := cy) X S o31k.1 o31k.2.1
        refine va_castS (nm := "HobhouseModel$Hob") hx hb hown (hts (.classLink RX12 322 "HobhouseModel$Hob") (by decide +kernel)) (hK.1 15 _ rfl).2 (va_recv hK hP (ci := 15) (q0 := k32) rfl hk32) dX12_cut_55 ?_
        refine lv_astore (lv' := [(5, .ref r30), (4, .ref r26), (0, .ref o1), (1, .int x1), (2, .int x2), (3, .int x3)]) hx hb dX12_cut_58 hl (by decide) rfl (fun ls hl => ?_)
        refine lv_aload hx hb dX12_cut_60 (lv_at hl 1 rfl) ?_
        obtain ⟨k33, gk33, hk33⟩ := wGt (cy := cy) X S o27.1 o27.2.1
        have i34 := ((hW.at o27 List.not_mem_nil).to_10 o27.2.1).R18
        refine va_getN (D := D) (ci := 14) (v := .int (S.I r26 18)) (C := RX10) (T := TX10) (N := 23) hx hb hts (by decide +kernel) hown hK hP k33 hk33 rfl 18 (by decide) (va_Nw.use rfl (hN (.fieldLinkNest RX12 160 "HobhouseModel$Gear" "isCut" "Z" "HobhouseModel") (by decide +kernel))) (fun _ h9 => h9) rfl dX12_cut_62 ?_
        refine lv_if_ne (tgt := 78) hx hb dX12_cut_65 (by decide) (fun c35 => ?_) (fun c35 => ?_)
        · have c35i : ¬ (S.I r26 18).toInt = 0 := neq_v rfl rfl c35
          refine lv_aload_n hx hb dX12_cut_78 rfl (lv_at hl 2 rfl) ?_
          refine lv_iconst (v := 3) hx hb dX12_cut_79 (by decide) ?_
          have l32_3 : (3 : Int32).toInt = 3 := rfl
          have hFc := free_all hD hS hA
          obtain ⟨k36, gk36, hk36⟩ := wGt (cy := cy) X S h_o1.1 h_o1.2.1
          refine va_calli (va_runV (As := [.int (3 : Int32)]) (rest := []) ⟨hx, hb, hml, hown, hts⟩ (c_X12_fails l (cy := cy) (X := X) (D := D) S _ o1 h_o1 (3 : Int32) (hW)) (cwV 1 hts gX12_cut_X12_fails rfl rfl rfl hd_X12_fails ⟨Nat.le_of_ble_eq_true rfl, Nat.le_of_ble_eq_true rfl⟩) ⟨fun a U g mk q => ⟨q.1, q.2.1, q.2.2.1.calling, NW.same (u := U) (U := U.calling g mk a) rfl q.2.2.2⟩, va_recv hK hP (q := (RX12, TX12, 34)) (ci := 16) (q0 := k36) rfl hk36, fun U hU hW => ⟨rfl, by rw [hU], wd_pre hP hK hD hU hW, hN.warm hW⟩⟩ rfl rfl hl.1 rfl (lv_room (Nat.le_of_ble_eq_true rfl)) dX12_cut_80 ⟨(Nat.zero_le _), (Nat.zero_le _)⟩) hS (fun q _ h => hFc q h) hFc (fun r37 u t H1 locs ht hvm hw hB hz1 hk1 hS => ?_)
          obtain ⟨c38, w39⟩ := hw
          obtain ⟨hP, hD⟩ := wd_post hFc ht hB
          generalize H1 = H at hP hS ⊢
          obtain ⟨S40, rfl⟩ : ∃ z, z = u := ⟨_, rfl⟩
          have t41 : stp [(10, 9), (10, 10), (10, 11), (10, 18), (11, 5), (12, 15), (17, 100)] [] [] S S40 := t0.tr w39 (by decide) (fun _ q => absurd q List.not_mem_nil)
          have xe42 : ext S S40 := w39.x
          refine W.widen (k := 0) (n := 0) (Nat.le_of_ble_eq_true rfl) (Nat.le_of_ble_eq_true rfl) ?_
          exact W.iret (v := r37) hx hb hr (fun t ht hW9 => ⟨⟨r37, S40, rfl, t41, wd_end hP hK hD ht hW9.alike⟩, hS.F ht⟩) hS.2.2 dX12_cut_83 hlocks
        · have c35i : (S.I r26 18).toInt = 0 := eq_v rfl rfl c35
          refine lv_aload hx hb dX12_cut_68 (lv_at hl 0 rfl) ?_
          refine lv_aload hx hb dX12_cut_70 (lv_at hl 1 rfl) ?_
          have hFc := free_all hD hS hA
          obtain ⟨k43, gk43, hk43⟩ := wGt (cy := cy) X S o31k.1 o31k.2.1
          refine va_calli (va_runV (As := [.ref r26]) (rest := []) ⟨hx, hb, hml, hown, hts⟩ (c_X11_canCut l (cy := cy) (X := X) (D := D) S _ r30 o31k r26 o27 (hW)) (cwV 1 hts gX12_cut_X11_canCut rfl rfl rfl hd_X11_canCut ⟨Nat.le_of_ble_eq_true rfl, Nat.le_of_ble_eq_true rfl⟩) ⟨fun a U g mk q => ⟨q.1, q.2.1, q.2.2.1.calling, NW.same (u := U) (U := U.calling g mk a) rfl q.2.2.2⟩, va_recv hK hP (q := (RX11, TX11, 7)) (ci := 15) (q0 := k43) rfl hk43, fun U hU hW => ⟨rfl, by rw [hU], wd_pre hP hK hD hU hW, hN.warm hW⟩⟩ rfl rfl hl.1 rfl (lv_room (Nat.le_of_ble_eq_true rfl)) dX12_cut_72 ⟨(Nat.zero_le _), (Nat.zero_le _)⟩) hS (fun q _ h => hFc q h) hFc (fun r44 u t H1 locs ht hvm hw hB hz1 hk1 hS => ?_)
          have y45 := hw
          obtain ⟨hP, hD⟩ := wd_post hFc ht hB
          generalize H1 = H at hP hS ⊢
          refine lv_if_ne (tgt := 84) hx hb dX12_cut_75 (by decide) (fun c46 => ?_) (fun c46 => ?_)
          · have c46i : ¬ r44.toInt = 0 := neq_v rfl rfl c46
            refine lv_aload hx hb dX12_cut_84 (lv_at hl 0 rfl) ?_
            obtain ⟨k47, gk47, hk47⟩ := wGt (cy := cy) X S o31k.1 o31k.2.1
            have i48 := ((hW.at o31k List.not_mem_nil).to_11 o31k.2.1).R5
            refine va_getN (D := D) (ci := 15) (v := .int (S.I r30 5)) (C := RX11) (T := TX11) (N := 7) hx hb hts (by decide +kernel) hown hK hP k47 hk47 rfl 5 (by decide) (va_Nw.use rfl (hN (.fieldLinkNest RX12 347 "HobhouseModel$Hob" "next" "I" "HobhouseModel") (by decide +kernel))) (fun _ h9 => h9) rfl dX12_cut_86 ?_
            refine lv_istore (lv' := [(6, .int (S.I r30 5)), (5, .ref r30), (4, .ref r26), (0, .ref o1), (1, .int x1), (2, .int x2), (3, .int x3)]) hx hb dX12_cut_89 hl (by decide) rfl (fun ls hl => ?_)
            refine lv_aload hx hb dX12_cut_91 (lv_at hl 1 rfl) ?_
            have F49 := ((hW.at o31k List.not_mem_nil).to_11 o31k.2.1).F2
            obtain ⟨k50, gk50, hk50⟩ := wGt (cy := cy) X S o31k.1 o31k.2.1
            simp only [kE, F49.1] at hk50
            refine va_getN (D := D) (ci := 15) (v := .ref (S.f r30 2)) (C := RX11) (T := TX11) (N := 7) hx hb hts (by decide +kernel) hown hK hP k50 hk50 rfl 2 (by decide) (va_Nw.use rfl (hN (.fieldLinkNest RX12 350 "HobhouseModel$Hob" "wear" "[I" "HobhouseModel") (by decide +kernel))) (fun _ h9 => h9) rfl dX12_cut_93 ?_
            refine lv_iload hx hb dX12_cut_96 (lv_at hl 0 rfl) ?_
            refine lv_dup2_11 hx hb dX12_cut_98 rfl rfl ?_
            obtain ⟨k51, gk51, hk51⟩ := wGt (cy := cy) X S F49.2.1.1 F49.2.1.2.1
            refine va_iald hx hb hK hP k51 2 hk51 rfl (inb (m := 20) F49.2.2 (by omega) (by omega)) dX12_cut_99 ?_
            refine lv_aload hx hb dX12_cut_100 (lv_at hl 2 rfl) ?_
            obtain ⟨k52, gk52, hk52⟩ := wGt (cy := cy) X S o27.1 o27.2.1
            have i53 := ((hW.at o27 List.not_mem_nil).to_10 o27.2.1).R1
            refine va_getN (D := D) (ci := 14) (v := .int (S.I r26 1)) (C := RX10) (T := TX10) (N := 23) hx hb hts (by decide +kernel) hown hK hP k52 hk52 rfl 1 (by decide) (va_Nw.use rfl (hN (.fieldLinkNest RX12 332 "HobhouseModel$Gear" "teeth" "I" "HobhouseModel") (by decide +kernel))) (fun _ h9 => h9) rfl dX12_cut_102 ?_
            refine lv_aload hx hb dX12_cut_105 (lv_at hl 1 rfl) ?_
            obtain ⟨k54, gk54, hk54⟩ := wGt (cy := cy) X S o31k.1 o31k.2.1
            have i55 := ((hW.at o31k List.not_mem_nil).to_11 o31k.2.1).R1
            refine va_getN (D := D) (ci := 15) (v := .int (S.I r30 1)) (C := RX11) (T := TX11) (N := 7) hx hb hts (by decide +kernel) hown hK hP k54 hk54 rfl 1 (by decide) (va_Nw.use rfl (hN (.fieldLinkNest RX12 329 "HobhouseModel$Hob" "starts" "I" "HobhouseModel") (by decide +kernel))) (fun _ h9 => h9) rfl dX12_cut_107 ?_
            refine lv_idiv hx hb dX12_cut_110 (nz_i (by omega)) ?_
            refine lv_iadd hx hb dX12_cut_111 ?_
            obtain ⟨k56, gk56, hk56⟩ := wGt (cy := cy) X S F49.2.1.1 F49.2.1.2.1
            refine va_iast hx hb hK hP hD hS k56 2 hk56 rfl (inb (m := 20) F49.2.2 (by omega) (by omega)) dX12_cut_112 (fun H locs hP2 hD2 hS => ?_)
            have e9 := wPui (cy := cy) (f := (upd (S.i (S.f r30 2)) (S.I r30 5).toNatClampNeg ((S.i (S.f r30 2) (S.I r30 5).toNatClampNeg) + ((S.I r26 1) / (S.I r30 1))))) hD F49.2.1.1 F49.2.1.2.1 gk56 rfl
            obtain ⟨S57, hS57⟩ : ∃ z, S.si (S.f r30 2) (upd (S.i (S.f r30 2)) (S.I r30 5).toNatClampNeg ((S.i (S.f r30 2) (S.I r30 5).toNatClampNeg) + ((S.I r26 1) / (S.I r30 1)))) = z := ⟨_, rfl⟩
            have hP : va_P D vwCl (X ++ PL cy S57) H := by rw [← hS57, ← e9]; exact hP2
            have hD : va_D A (X ++ PL cy S57) := by rw [← hS57, ← e9]; exact hD2
            have xe58 : ext S S57 := by rw [← hS57]; exact ext.si _ _ _
            have t59 : stp [(10, 9), (10, 10), (10, 11), (10, 18), (11, 5), (12, 15), (17, 100)] [] [] S S57 := by rw [← hS57]; exact t0.i (upd (S.i (S.f r30 2)) (S.I r30 5).toNatClampNeg ((S.i (S.f r30 2) (S.I r30 5).toNatClampNeg) + ((S.I r26 1) / (S.I r30 1)))) F49.2.1 (by decide)
            refine lv_aload hx hb dX12_cut_113 (lv_at hl 1 rfl) ?_
            refine lv_iload hx hb dX12_cut_115 (lv_at hl 0 rfl) ?_
            refine lv_iconst (v := 1) hx hb dX12_cut_117 (by decide) ?_
            refine lv_iadd hx hb dX12_cut_118 ?_
            refine lv_aload hx hb dX12_cut_119 (lv_at hl 1 rfl) ?_
            obtain ⟨k60, gk60, hk60⟩ := wGt (cy := cy) X S57 (xe58.A o31k).1 (xe58.A o31k).2.1
            have i61 := ((t59.w.at (xe58.A o31k) List.not_mem_nil).to_11 (xe58.A o31k).2.1).R3
            refine va_getN (D := D) (ci := 15) (v := .int (S57.I r30 3)) (C := RX11) (T := TX11) (N := 7) hx hb hts (by decide +kernel) hown hK hP k60 hk60 rfl 3 (by decide) (va_Nw.use rfl (hN (.fieldLinkNest RX12 353 "HobhouseModel$Hob" "places" "I" "HobhouseModel") (by decide +kernel))) (fun _ h9 => h9) rfl dX12_cut_121 ?_
            refine lv_irem hx hb dX12_cut_124 (nz_i (by omega)) ?_
            have l32_1 : (1 : Int32).toInt = 1 := rfl
            have i62 : ((S.I r30 5) + (1 : Int32)).toInt = (S.I r30 5).toInt + 1 := t_addr (n := 1) rfl (by omega)
            have i63 := rem_rng (x := ((S.I r30 5) + (1 : Int32))) (y := (S57.I r30 3)) (by omega) (by omega)
            obtain ⟨k64, gk64, hk64⟩ := wGt (cy := cy) X S57 (xe58.A o31k).1 (xe58.A o31k).2.1
            refine va_putN (D := D) (ci := 15) (v := .int (((S.I r30 5) + (1 : Int32)) - ((S.I r30 5) + (1 : Int32)) / (S57.I r30 3) * (S57.I r30 3))) (ty := .int) (C := RX11) (T := TX11) (N := 7) hx hb hts (by decide +kernel) tyX11 tyX11_ok nmX11 hown hK hP hD hS k64 hk64 rfl 5 (by decide) (va_Nw.use rfl (hN (.fieldLinkNest RX12 347 "HobhouseModel$Hob" "next" "I" "HobhouseModel") (by decide +kernel))) (fun _ h9 => h9) rfl (by decide +kernel) (rfl) (rfl) (Nat.le_of_ble_eq_true rfl) dX12_cut_125 (fun H locs hP2 hD2 hS => ?_)
            have e9 := wPuI (cy := cy) (j := 5) (v := (((S.I r30 5) + (1 : Int32)) - ((S.I r30 5) + (1 : Int32)) / (S57.I r30 3) * (S57.I r30 3))) hD (xe58.A o31k).1 (xe58.A o31k).2.1 gk64 rfl
            obtain ⟨S65, hS65⟩ : ∃ z, S57.sI r30 5 (((S.I r30 5) + (1 : Int32)) - ((S.I r30 5) + (1 : Int32)) / (S57.I r30 3) * (S57.I r30 3)) = z := ⟨_, rfl⟩
            have hP : va_P D vwCl (X ++ PL cy S65) H := by rw [← hS65, ← e9]; exact hP2
            have hD : va_D A (X ++ PL cy S65) := by rw [← hS65, ← e9]; exact hD2
            have xe66 : ext S57 S65 := by rw [← hS65]; exact ext.sI _ _ _ _
            have t67 : stp [(10, 9), (10, 10), (10, 11), (10, 18), (11, 5), (12, 15), (17, 100)] [] [] S S65 := by rw [← hS65]; exact t59.I 5 (((S.I r30 5) + (1 : Int32)) - ((S.I r30 5) + (1 : Int32)) / (S57.I r30 3) * (S57.I r30 3)) (xe58.A o31k) (by decide) (⟨by omega, by omega⟩) (Or.inl (by decide))
            refine lv_aload hx hb dX12_cut_128 (lv_at hl 2 rfl) ?_
            refine lv_iconst (v := 1) hx hb dX12_cut_130 (by decide) ?_
            obtain ⟨k68, gk68, hk68⟩ := wGt (cy := cy) X S65 ((xe58.tr xe66).A o27).1 ((xe58.tr xe66).A o27).2.1
            refine va_putN (D := D) (ci := 14) (v := .int (1 : Int32)) (ty := .boolean) (C := RX10) (T := TX10) (N := 23) hx hb hts (by decide +kernel) tyX10 tyX10_ok nmX10 hown hK hP hD hS k68 hk68 rfl 18 (by decide) (va_Nw.use rfl (hN (.fieldLinkNest RX12 160 "HobhouseModel$Gear" "isCut" "Z" "HobhouseModel") (by decide +kernel))) (fun _ h9 => h9) rfl (by decide +kernel) (by rfl) (by rfl) (Nat.le_of_ble_eq_true rfl) dX12_cut_131 (fun H locs hP2 hD2 hS => ?_)
            have e9 := wPuI (cy := cy) (j := 18) (v := (1 : Int32)) hD ((xe58.tr xe66).A o27).1 ((xe58.tr xe66).A o27).2.1 gk68 rfl
            obtain ⟨S69, hS69⟩ : ∃ z, S65.sI r26 18 (1 : Int32) = z := ⟨_, rfl⟩
            have hP : va_P D vwCl (X ++ PL cy S69) H := by rw [← hS69, ← e9]; exact hP2
            have hD : va_D A (X ++ PL cy S69) := by rw [← hS69, ← e9]; exact hD2
            have xe70 : ext S65 S69 := by rw [← hS69]; exact ext.sI _ _ _ _
            have t71 : stp [(10, 9), (10, 10), (10, 11), (10, 18), (11, 5), (12, 15), (17, 100)] [] [] S S69 := by rw [← hS69]; exact t67.I 18 (1 : Int32) ((xe58.tr xe66).A o27) (by decide) (⟨by decide, by decide⟩) (Or.inl (by decide))
            refine lv_aload hx hb dX12_cut_134 (lv_at hl 2 rfl) ?_
            refine lv_iload_n hx hb dX12_cut_136 rfl (lv_at hl 6 rfl) ?_
            obtain ⟨k72, gk72, hk72⟩ := wGt (cy := cy) X S69 (xe70.A ((xe58.tr xe66).A o27)).1 (xe70.A ((xe58.tr xe66).A o27)).2.1
            refine va_putN (D := D) (ci := 14) (v := .int x3) (ty := .int) (C := RX10) (T := TX10) (N := 23) hx hb hts (by decide +kernel) tyX10 tyX10_ok nmX10 hown hK hP hD hS k72 hk72 rfl 9 (by decide) (va_Nw.use rfl (hN (.fieldLinkNest RX12 356 "HobhouseModel$Gear" "stock" "I" "HobhouseModel") (by decide +kernel))) (fun _ h9 => h9) rfl (by decide +kernel) (rfl) (rfl) (Nat.le_of_ble_eq_true rfl) dX12_cut_137 (fun H locs hP2 hD2 hS => ?_)
            have e9 := wPuI (cy := cy) (j := 9) (v := x3) hD (xe70.A ((xe58.tr xe66).A o27)).1 (xe70.A ((xe58.tr xe66).A o27)).2.1 gk72 rfl
            obtain ⟨S73, hS73⟩ : ∃ z, S69.sI r26 9 x3 = z := ⟨_, rfl⟩
            have hP : va_P D vwCl (X ++ PL cy S73) H := by rw [← hS73, ← e9]; exact hP2
            have hD : va_D A (X ++ PL cy S73) := by rw [← hS73, ← e9]; exact hD2
            have xe74 : ext S69 S73 := by rw [← hS73]; exact ext.sI _ _ _ _
            have t75 : stp [(10, 9), (10, 10), (10, 11), (10, 18), (11, 5), (12, 15), (17, 100)] [] [] S S73 := by rw [← hS73]; exact t71.I 9 x3 (xe70.A ((xe58.tr xe66).A o27)) (by decide) (trivial) (Or.inl (by decide))
            refine lv_aload hx hb dX12_cut_140 (lv_at hl 2 rfl) ?_
            refine lv_aload hx hb dX12_cut_142 (lv_at hl 1 rfl) ?_
            obtain ⟨k76, gk76, hk76⟩ := wGt (cy := cy) X S73 ((xe66.tr (xe70.tr xe74)).A (xe58.A o31k)).1 ((xe66.tr (xe70.tr xe74)).A (xe58.A o31k)).2.1
            refine va_getN (D := D) (ci := 15) (v := .int (S73.I r30 6)) (C := RX11) (T := TX11) (N := 7) hx hb hts (by decide +kernel) hown hK hP k76 hk76 rfl 6 (by decide) (va_Nw.use rfl (hN (.fieldLinkNest RX12 359 "HobhouseModel$Hob" "error" "I" "HobhouseModel") (by decide +kernel))) (fun _ h9 => h9) rfl dX12_cut_144 ?_
            obtain ⟨k77, gk77, hk77⟩ := wGt (cy := cy) X S73 (xe74.A (xe70.A ((xe58.tr xe66).A o27))).1 (xe74.A (xe70.A ((xe58.tr xe66).A o27))).2.1
            refine va_putN (D := D) (ci := 14) (v := .int (S73.I r30 6)) (ty := .int) (C := RX10) (T := TX10) (N := 23) hx hb hts (by decide +kernel) tyX10 tyX10_ok nmX10 hown hK hP hD hS k77 hk77 rfl 10 (by decide) (va_Nw.use rfl (hN (.fieldLinkNest RX12 362 "HobhouseModel$Gear" "profile" "I" "HobhouseModel") (by decide +kernel))) (fun _ h9 => h9) rfl (by decide +kernel) (rfl) (rfl) (Nat.le_of_ble_eq_true rfl) dX12_cut_147 (fun H locs hP2 hD2 hS => ?_)
            have e9 := wPuI (cy := cy) (j := 10) (v := (S73.I r30 6)) hD (xe74.A (xe70.A ((xe58.tr xe66).A o27))).1 (xe74.A (xe70.A ((xe58.tr xe66).A o27))).2.1 gk77 rfl
            obtain ⟨S78, hS78⟩ : ∃ z, S73.sI r26 10 (S73.I r30 6) = z := ⟨_, rfl⟩
            have hP : va_P D vwCl (X ++ PL cy S78) H := by rw [← hS78, ← e9]; exact hP2
            have hD : va_D A (X ++ PL cy S78) := by rw [← hS78, ← e9]; exact hD2
            have xe79 : ext S73 S78 := by rw [← hS78]; exact ext.sI _ _ _ _
            have t80 : stp [(10, 9), (10, 10), (10, 11), (10, 18), (11, 5), (12, 15), (17, 100)] [] [] S S78 := by rw [← hS78]; exact t75.I 10 (S73.I r30 6) (xe74.A (xe70.A ((xe58.tr xe66).A o27))) (by decide) (trivial) (Or.inl (by decide))
            refine lv_aload hx hb dX12_cut_150 (lv_at hl 2 rfl) ?_
            refine lv_aload hx hb dX12_cut_152 (lv_at hl 1 rfl) ?_
            obtain ⟨k81, gk81, hk81⟩ := wGt (cy := cy) X S78 (xe79.A ((xe66.tr (xe70.tr xe74)).A (xe58.A o31k))).1 (xe79.A ((xe66.tr (xe70.tr xe74)).A (xe58.A o31k))).2.1
            have i82 := ((t80.w.at (xe79.A ((xe66.tr (xe70.tr xe74)).A (xe58.A o31k))) List.not_mem_nil).to_11 (xe79.A ((xe66.tr (xe70.tr xe74)).A (xe58.A o31k))).2.1).R1
            refine va_getN (D := D) (ci := 15) (v := .int (S78.I r30 1)) (C := RX11) (T := TX11) (N := 7) hx hb hts (by decide +kernel) hown hK hP k81 hk81 rfl 1 (by decide) (va_Nw.use rfl (hN (.fieldLinkNest RX12 329 "HobhouseModel$Hob" "starts" "I" "HobhouseModel") (by decide +kernel))) (fun _ h9 => h9) rfl dX12_cut_154 ?_
            obtain ⟨k83, gk83, hk83⟩ := wGt (cy := cy) X S78 (xe79.A (xe74.A (xe70.A ((xe58.tr xe66).A o27)))).1 (xe79.A (xe74.A (xe70.A ((xe58.tr xe66).A o27)))).2.1
            refine va_putN (D := D) (ci := 14) (v := .int (S78.I r30 1)) (ty := .int) (C := RX10) (T := TX10) (N := 23) hx hb hts (by decide +kernel) tyX10 tyX10_ok nmX10 hown hK hP hD hS k83 hk83 rfl 11 (by decide) (va_Nw.use rfl (hN (.fieldLinkNest RX12 365 "HobhouseModel$Gear" "starts" "I" "HobhouseModel") (by decide +kernel))) (fun _ h9 => h9) rfl (by decide +kernel) (rfl) (rfl) (Nat.le_of_ble_eq_true rfl) dX12_cut_157 (fun H locs hP2 hD2 hS => ?_)
            have e9 := wPuI (cy := cy) (j := 11) (v := (S78.I r30 1)) hD (xe79.A (xe74.A (xe70.A ((xe58.tr xe66).A o27)))).1 (xe79.A (xe74.A (xe70.A ((xe58.tr xe66).A o27)))).2.1 gk83 rfl
            obtain ⟨S84, hS84⟩ : ∃ z, S78.sI r26 11 (S78.I r30 1) = z := ⟨_, rfl⟩
            have hP : va_P D vwCl (X ++ PL cy S84) H := by rw [← hS84, ← e9]; exact hP2
            have hD : va_D A (X ++ PL cy S84) := by rw [← hS84, ← e9]; exact hD2
            have xe85 : ext S78 S84 := by rw [← hS84]; exact ext.sI _ _ _ _
            have t86 : stp [(10, 9), (10, 10), (10, 11), (10, 18), (11, 5), (12, 15), (17, 100)] [] [] S S84 := by rw [← hS84]; exact t80.I 11 (S78.I r30 1) (xe79.A (xe74.A (xe70.A ((xe58.tr xe66).A o27)))) (by decide) (trivial) (Or.inl (by decide))
            refine lv_aload_n hx hb dX12_cut_160 rfl (lv_at hl 3 rfl) ?_
            refine lv_iload hx hb dX12_cut_161 (lv_at hl 0 rfl) ?_
            have hFc := free_all hD hS hA
            have o88 : isA S84 o1 12 := ((xe58.tr (xe66.tr (xe70.tr (xe74.tr (xe79.tr xe85))))).A h_o1)
            obtain ⟨k87, gk87, hk87⟩ := wGt (cy := cy) X S84 o88.1 o88.2.1
            refine va_calli (va_runV (As := [.int (S.I r30 5)]) (rest := []) ⟨hx, hb, hml, hown, hts⟩ (c_X12_answer l (cy := cy) (X := X) (D := D) S84 _ o1 ((xe58.tr (xe66.tr (xe70.tr (xe74.tr (xe79.tr xe85))))).A h_o1) (S.I r30 5) (t86.w)) (cwV 1 hts gX12_cut_X12_answer rfl rfl rfl hd_X12_answer ⟨Nat.le_of_ble_eq_true rfl, Nat.le_of_ble_eq_true rfl⟩) ⟨fun a U g mk q => ⟨q.1, q.2.1, q.2.2.1.calling, NW.same (u := U) (U := U.calling g mk a) rfl q.2.2.2⟩, va_recv hK hP (q := (RX12, TX12, 34)) (ci := 16) (q0 := k87) rfl hk87, fun U hU hW => ⟨rfl, by rw [hU], wd_pre hP hK hD hU hW, hN.warm hW⟩⟩ rfl rfl hl.1 rfl (lv_room (Nat.le_of_ble_eq_true rfl)) dX12_cut_163 ⟨(Nat.zero_le _), (Nat.zero_le _)⟩) hS (fun q _ h => hFc q h) hFc (fun r89 u t H1 locs ht hvm hw hB hz1 hk1 hS => ?_)
            obtain ⟨c90, w91⟩ := hw
            obtain ⟨hP, hD⟩ := wd_post hFc ht hB
            generalize H1 = H at hP hS ⊢
            obtain ⟨S92, rfl⟩ : ∃ z, z = u := ⟨_, rfl⟩
            have t93 : stp [(10, 9), (10, 10), (10, 11), (10, 18), (11, 5), (12, 15), (17, 100)] [] [] S S92 := t86.tr w91 (by decide) (fun _ q => absurd q List.not_mem_nil)
            have xe94 : ext S84 S92 := w91.x
            refine W.widen (k := 0) (n := 0) (Nat.le_of_ble_eq_true rfl) (Nat.le_of_ble_eq_true rfl) ?_
            exact W.iret (v := r89) hx hb hr (fun t ht hW9 => ⟨⟨r89, S92, rfl, t93, wd_end hP hK hD ht hW9.alike⟩, hS.F ht⟩) hS.2.2 dX12_cut_166 hlocks
          · have c46i : r44.toInt = 0 := eq_v rfl rfl c46
            refine lv_aload_n hx hb dX12_cut_78 rfl (lv_at hl 2 rfl) ?_
            refine lv_iconst (v := 3) hx hb dX12_cut_79 (by decide) ?_
            have l32_3 : (3 : Int32).toInt = 3 := rfl
            have hFc := free_all hD hS hA
            obtain ⟨k95, gk95, hk95⟩ := wGt (cy := cy) X S h_o1.1 h_o1.2.1
            refine va_calli (va_runV (As := [.int (3 : Int32)]) (rest := []) ⟨hx, hb, hml, hown, hts⟩ (c_X12_fails l (cy := cy) (X := X) (D := D) S _ o1 h_o1 (3 : Int32) (hW)) (cwV 1 hts gX12_cut_X12_fails rfl rfl rfl hd_X12_fails ⟨Nat.le_of_ble_eq_true rfl, Nat.le_of_ble_eq_true rfl⟩) ⟨fun a U g mk q => ⟨q.1, q.2.1, q.2.2.1.calling, NW.same (u := U) (U := U.calling g mk a) rfl q.2.2.2⟩, va_recv hK hP (q := (RX12, TX12, 34)) (ci := 16) (q0 := k95) rfl hk95, fun U hU hW => ⟨rfl, by rw [hU], wd_pre hP hK hD hU hW, hN.warm hW⟩⟩ rfl rfl hl.1 rfl (lv_room (Nat.le_of_ble_eq_true rfl)) dX12_cut_80 ⟨(Nat.zero_le _), (Nat.zero_le _)⟩) hS (fun q _ h => hFc q h) hFc (fun r96 u t H1 locs ht hvm hw hB hz1 hk1 hS => ?_)
            obtain ⟨c97, w98⟩ := hw
            obtain ⟨hP, hD⟩ := wd_post hFc ht hB
            generalize H1 = H at hP hS ⊢
            obtain ⟨S99, rfl⟩ : ∃ z, z = u := ⟨_, rfl⟩
            have t100 : stp [(10, 9), (10, 10), (10, 11), (10, 18), (11, 5), (12, 15), (17, 100)] [] [] S S99 := t0.tr w98 (by decide) (fun _ q => absurd q List.not_mem_nil)
            have xe101 : ext S S99 := w98.x
            refine W.widen (k := 0) (n := 0) (Nat.le_of_ble_eq_true rfl) (Nat.le_of_ble_eq_true rfl) ?_
            exact W.iret (v := r96) hx hb hr (fun t ht hW9 => ⟨⟨r96, S99, rfl, t100, wd_end hP hK hD ht hW9.alike⟩, hS.F ht⟩) hS.2.2 dX12_cut_83 hlocks
      · have c24i : (f_X12_in x3.toInt64 (0 : Int64) (500 : Int64)).toInt = 0 := eq_v rfl rfl c24
        refine lv_aload_n hx hb dX12_cut_34 rfl (lv_at hl 0 rfl) ?_
        refine lv_iconst (v := 2) hx hb dX12_cut_35 (by decide) ?_
        have l32_2 : (2 : Int32).toInt = 2 := rfl
        have hFc := free_all hD hS hA
        obtain ⟨k102, gk102, hk102⟩ := wGt (cy := cy) X S h_o1.1 h_o1.2.1
        refine va_calli (va_runV (As := [.int (2 : Int32)]) (rest := []) ⟨hx, hb, hml, hown, hts⟩ (c_X12_fails l (cy := cy) (X := X) (D := D) S _ o1 h_o1 (2 : Int32) (hW)) (cwV 1 hts gX12_cut_X12_fails rfl rfl rfl hd_X12_fails ⟨Nat.le_of_ble_eq_true rfl, Nat.le_of_ble_eq_true rfl⟩) ⟨fun a U g mk q => ⟨q.1, q.2.1, q.2.2.1.calling, NW.same (u := U) (U := U.calling g mk a) rfl q.2.2.2⟩, va_recv hK hP (q := (RX12, TX12, 34)) (ci := 16) (q0 := k102) rfl hk102, fun U hU hW => ⟨rfl, by rw [hU], wd_pre hP hK hD hU hW, hN.warm hW⟩⟩ rfl rfl hl.1 rfl (lv_room (Nat.le_of_ble_eq_true rfl)) dX12_cut_36 ⟨(Nat.zero_le _), (Nat.zero_le _)⟩) hS (fun q _ h => hFc q h) hFc (fun r103 u t H1 locs ht hvm hw hB hz1 hk1 hS => ?_)
        obtain ⟨c104, w105⟩ := hw
        obtain ⟨hP, hD⟩ := wd_post hFc ht hB
        generalize H1 = H at hP hS ⊢
        obtain ⟨S106, rfl⟩ : ∃ z, z = u := ⟨_, rfl⟩
        have t107 : stp [(10, 9), (10, 10), (10, 11), (10, 18), (11, 5), (12, 15), (17, 100)] [] [] S S106 := t0.tr w105 (by decide) (fun _ q => absurd q List.not_mem_nil)
        have xe108 : ext S S106 := w105.x
        refine W.widen (k := 0) (n := 0) (Nat.le_of_ble_eq_true rfl) (Nat.le_of_ble_eq_true rfl) ?_
        exact W.iret (v := r103) hx hb hr (fun t ht hW9 => ⟨⟨r103, S106, rfl, t107, wd_end hP hK hD ht hW9.alike⟩, hS.F ht⟩) hS.2.2 dX12_cut_39 hlocks
    · have c19i : (f_X12_isHob S o1 x2).toInt = 0 := eq_v rfl rfl c19
      refine lv_aload_n hx hb dX12_cut_16 rfl (lv_at hl 0 rfl) ?_
      refine lv_iconst (v := 1) hx hb dX12_cut_17 (by decide) ?_
      have l32_1 : (1 : Int32).toInt = 1 := rfl
      have hFc := free_all hD hS hA
      obtain ⟨k109, gk109, hk109⟩ := wGt (cy := cy) X S h_o1.1 h_o1.2.1
      refine va_calli (va_runV (As := [.int (1 : Int32)]) (rest := []) ⟨hx, hb, hml, hown, hts⟩ (c_X12_fails l (cy := cy) (X := X) (D := D) S _ o1 h_o1 (1 : Int32) (hW)) (cwV 1 hts gX12_cut_X12_fails rfl rfl rfl hd_X12_fails ⟨Nat.le_of_ble_eq_true rfl, Nat.le_of_ble_eq_true rfl⟩) ⟨fun a U g mk q => ⟨q.1, q.2.1, q.2.2.1.calling, NW.same (u := U) (U := U.calling g mk a) rfl q.2.2.2⟩, va_recv hK hP (q := (RX12, TX12, 34)) (ci := 16) (q0 := k109) rfl hk109, fun U hU hW => ⟨rfl, by rw [hU], wd_pre hP hK hD hU hW, hN.warm hW⟩⟩ rfl rfl hl.1 rfl (lv_room (Nat.le_of_ble_eq_true rfl)) dX12_cut_18 ⟨(Nat.zero_le _), (Nat.zero_le _)⟩) hS (fun q _ h => hFc q h) hFc (fun r110 u t H1 locs ht hvm hw hB hz1 hk1 hS => ?_)
      obtain ⟨c111, w112⟩ := hw
      obtain ⟨hP, hD⟩ := wd_post hFc ht hB
      generalize H1 = H at hP hS ⊢
      obtain ⟨S113, rfl⟩ : ∃ z, z = u := ⟨_, rfl⟩
      have t114 : stp [(10, 9), (10, 10), (10, 11), (10, 18), (11, 5), (12, 15), (17, 100)] [] [] S S113 := t0.tr w112 (by decide) (fun _ q => absurd q List.not_mem_nil)
      have xe115 : ext S S113 := w112.x
      refine W.widen (k := 0) (n := 0) (Nat.le_of_ble_eq_true rfl) (Nat.le_of_ble_eq_true rfl) ?_
      exact W.iret (v := r110) hx hb hr (fun t ht hW9 => ⟨⟨r110, S113, rfl, t114, wd_end hP hK hD ht hW9.alike⟩, hS.F ht⟩) hS.2.2 dX12_cut_21 hlocks
theorem hd_X12_wear : yX12_wear.cls = RX12 ∧ yX12_wear.cls ≠ "java/lang/invoke/MethodHandle" ∧ yX12_wear.cls ≠ "java/lang/invoke/VarHandle" ∧ (parseMethodDescriptor yX12_wear.desc).map (fun d => d.parameters.length) = some 2 := by decide +kernel
set_option maxHeartbeats 4000000 in
set_option maxRecDepth 100000 in
theorem c_X12_wear (l : Launch) {D : va_G} {cy : Nat → ClassId} {X : va_W} (S : wPS) (sz : Nat) (o1 : Nat) (h_o1 : isA S o1 12) (x1 : Int32) (x2 : Int32) (hW : wtB S [])  : Met l yX12_wear wsX12_wear ({ frames := 3, cells := 0, slots := 0, locals := 64 }) (va_Pc [.ref o1, .int x1, .int x2] (fun U => U.heap.size = sz ∧ WD D cy X (fun _ => True) S U ∧ NW U)) (va_Qi (fun r (u : wPS) => stp [(12, 15)] [] [] S u) (fun u t => WD D cy X (va_A (X ++ PL cy S) sz) u t) (va_A (X ++ PL cy S) sz)) 0 0 (va_A (X ++ PL cy S) sz) := by
  refine Met.ofW (cc := cX12_wear) (maxL := 3) (ret := (some .int)) (by decide) rfl ?_
  intro p e s m args below meth c s₁ B hml hv
  obtain ⟨rfl, hsz, ⟨hP, hK, hD0⟩, hN⟩ := hv
  have hx := B.exec
  have hb := B.bytes
  have hr := B.returns
  have hts := atoms_spec (ws := wsX12_wear) B.pre
  have hown : s.vm.findClass RX12 = some m.cls := findClass_of_methodNamed (x := yX12_wear) B.named
  have hlocks := B.notSynchronized
  subst hsz
  have hD := hD0.self (sz := s.heap.size)
  generalize hAe : va_A (X ++ PL cy S) s.heap.size = A at hD ⊢
  have hA : ∀ q : Nat, s.heap.size ≤ q → A q := fun q h => by rw [← hAe]; exact Or.inr h
  have hS : va_S A s.heap s.heap [] := va_S.rf
  have hl := lv_entry ([.ref o1, .int x1, .int x2]) (n := 3) (Nat.le_of_ble_eq_true rfl)
  rw [lg_entry_eq]
  generalize (lg_sl ([.ref o1, .int x1, .int x2]) ++ List.replicate (3 - (lg_sl ([.ref o1, .int x1, .int x2])).length) Slot.unset).toArray = ls at hl ⊢
  have hl : lv_has ls 3 [(0, .ref o1), (1, .int x1), (2, .int x2)] := hl
  have t0 : stp [(12, 15)] [] [] S S := stp.rf hW
  have F1 := ((hW.at h_o1 List.not_mem_nil).to_12 h_o1.2.1).F1
  refine lv_aload_n hx hb dX12_wear_0 rfl (lv_at hl 0 rfl) ?_
  refine lv_iload_n hx hb dX12_wear_1 rfl (lv_at hl 1 rfl) ?_
  have hFc := free_all hD hS hA
  obtain ⟨k2, gk2, hk2⟩ := wGt (cy := cy) X S h_o1.1 h_o1.2.1
  refine va_calli (va_runV (As := [.int x1]) (rest := []) ⟨hx, hb, hml, hown, hts⟩ (c_X12_isHob l (cy := cy) (X := X) (D := D) S _ o1 h_o1 x1 (hW)) (cwV 1 hts gX12_wear_X12_isHob rfl rfl rfl hd_X12_isHob ⟨Nat.le_of_ble_eq_true rfl, Nat.le_of_ble_eq_true rfl⟩) ⟨fun a U g mk q => ⟨q.1, q.2.1, q.2.2.1.calling, NW.same (u := U) (U := U.calling g mk a) rfl q.2.2.2⟩, va_recv hK hP (q := (RX12, TX12, 34)) (ci := 16) (q0 := k2) rfl hk2, fun U hU hW => ⟨rfl, by rw [hU], wd_pre hP hK hD hU hW, hN.warm hW⟩⟩ rfl rfl hl.1 rfl (lv_room (Nat.le_of_ble_eq_true rfl)) dX12_wear_2 ⟨(Nat.zero_le _), (Nat.zero_le _)⟩) hS (fun q _ h => hFc q h) hFc (fun r3 u t H1 locs ht hvm hw hB hz1 hk1 hS => ?_)
  have c4 := hw
  obtain ⟨hP, hD⟩ := wd_post hFc ht hB
  generalize H1 = H at hP hS ⊢
  obtain rfl : r3 = f_X12_isHob S o1 x1 := c4
  have i5 : (f_X12_isHob S o1 x1).toInt = 0 ∨ (0 ≤ x1.toInt ∧ x1.toInt < (S.I (S.f o1 1) 2).toInt) := by have h9 := ih_rng x1 ((hW.at h_o1 List.not_mem_nil).to_12 h_o1.2.1) hW; rw [f_of F1.1] at h9; exact h9
  refine lv_if_eq (tgt := 57) hx hb dX12_wear_5 (by decide) (fun c6 => ?_) (fun c6 => ?_)
  · have c6i : (f_X12_isHob S o1 x1).toInt = 0 := eq_v rfl rfl c6
    refine lv_aload_n hx hb dX12_wear_57 rfl (lv_at hl 0 rfl) ?_
    refine lv_iconst (v := 1) hx hb dX12_wear_58 (by decide) ?_
    have l32_1 : (1 : Int32).toInt = 1 := rfl
    have hFc := free_all hD hS hA
    obtain ⟨k7, gk7, hk7⟩ := wGt (cy := cy) X S h_o1.1 h_o1.2.1
    refine va_calli (va_runV (As := [.int (1 : Int32)]) (rest := []) ⟨hx, hb, hml, hown, hts⟩ (c_X12_fails l (cy := cy) (X := X) (D := D) S _ o1 h_o1 (1 : Int32) (hW)) (cwV 1 hts gX12_wear_X12_fails rfl rfl rfl hd_X12_fails ⟨Nat.le_of_ble_eq_true rfl, Nat.le_of_ble_eq_true rfl⟩) ⟨fun a U g mk q => ⟨q.1, q.2.1, q.2.2.1.calling, NW.same (u := U) (U := U.calling g mk a) rfl q.2.2.2⟩, va_recv hK hP (q := (RX12, TX12, 34)) (ci := 16) (q0 := k7) rfl hk7, fun U hU hW => ⟨rfl, by rw [hU], wd_pre hP hK hD hU hW, hN.warm hW⟩⟩ rfl rfl hl.1 rfl (lv_room (Nat.le_of_ble_eq_true rfl)) dX12_wear_59 ⟨(Nat.zero_le _), (Nat.zero_le _)⟩) hS (fun q _ h => hFc q h) hFc (fun r8 u t H1 locs ht hvm hw hB hz1 hk1 hS => ?_)
    obtain ⟨c9, w10⟩ := hw
    obtain ⟨hP, hD⟩ := wd_post hFc ht hB
    generalize H1 = H at hP hS ⊢
    obtain ⟨S11, rfl⟩ : ∃ z, z = u := ⟨_, rfl⟩
    have t12 : stp [(12, 15)] [] [] S S11 := t0.tr w10 (by decide) (fun _ q => absurd q List.not_mem_nil)
    have xe13 : ext S S11 := w10.x
    refine W.widen (k := 0) (n := 0) (Nat.le_of_ble_eq_true rfl) (Nat.le_of_ble_eq_true rfl) ?_
    exact W.iret (v := r8) hx hb hr (fun t ht hW9 => ⟨⟨r8, S11, rfl, t12, wd_end hP hK hD ht hW9.alike⟩, hS.F ht⟩) hS.2.2 dX12_wear_62 hlocks
  · have c6i : ¬ (f_X12_isHob S o1 x1).toInt = 0 := neq_v rfl rfl c6
    refine lv_iload_n hx hb dX12_wear_8 rfl (lv_at hl 2 rfl) ?_
    refine lv_i2l hx hb dX12_wear_9 rfl ?_
    refine lv_lconst (v := 0) hx hb dX12_wear_10 (by decide) ?_
    refine lv_aload_n hx hb dX12_wear_11 rfl (lv_at hl 0 rfl) ?_
    obtain ⟨k14, gk14, hk14⟩ := wGt (cy := cy) X S h_o1.1 h_o1.2.1
    simp only [kE, F1.1] at hk14
    refine va_get (D := D) (ci := 16) (v := .ref (S.f o1 1)) (C := RX12) (T := TX12) (N := 34) hx hb hts (by decide +kernel) hown hK hP k14 hk14 rfl 1 (by decide) (hts (.fieldLink RX12 28 "HobhouseModel" "hobs" "Ljava/util/ArrayList;") (by decide +kernel)) (fun _ h9 => h9) rfl dX12_wear_12 ?_
    refine lv_iload_n hx hb dX12_wear_15 rfl (lv_at hl 1 rfl) ?_
    have hFc := free_all hD hS hA
    obtain ⟨k15, gk15, hk15⟩ := wGt (cy := cy) X S F1.2.1.1 F1.2.1.2.1
    refine va_callq (va_runV (As := [.int x1]) (rest := [.long (0 : Int64), .long x2.toInt64]) ⟨hx, hb, hml, hown, hts⟩ (c_Jx4a65c_get_915e3 l (cy := cy) (X := X) (D := D) S _ (S.f o1 1) F1.2.1 x1 (hW) (by omega)) (cwV 1 hts gX12_wear_Jx4a65c_get_915e3 rfl rfl rfl hd_Jx4a65c_get_915e3 ⟨Nat.le_of_ble_eq_true rfl, Nat.le_of_ble_eq_true rfl⟩) ⟨fun a U g mk q => ⟨q.1, q.2.1, q.2.2.1.calling, NW.same (u := U) (U := U.calling g mk a) rfl q.2.2.2⟩, va_recv hK hP (q := (RJx4a65c, TJx4a65c, 3)) (ci := 3) (q0 := k15) rfl hk15, fun U hU hW => ⟨rfl, by rw [hU], wd_pre hP hK hD hU hW, hN.warm hW⟩⟩ rfl rfl hl.1 rfl (lv_room (Nat.le_of_ble_eq_true rfl)) dX12_wear_16 ⟨(Nat.zero_le _), (Nat.zero_le _)⟩) hS (fun q _ h => hFc q h) hFc (fun r16 u t H1 locs ht hvm hw hB hz1 hk1 hS => ?_)
    obtain ⟨r16, rfl, o17⟩ := hw
    obtain ⟨hP, hD⟩ := wd_post hFc ht hB
    generalize H1 = H at hP hS ⊢
    have o17k : isA S r16 11 := by rw [← show _ = 11 from F1.2.2]; exact o17
    refine W.eq (g2 := F0 m 19 ls [.ref r16, .long (0 : Int64), .long x2.toInt64]) rfl ?_
    obtain ⟨k18, gk18, hk18⟩ := wGt (cy := cy) X S o17k.1 o17k.2.1
    refine va_castS (nm := "HobhouseModel$Hob") hx hb hown (hts (.classLink RX12 322 "HobhouseModel$Hob") (by decide +kernel)) (hK.1 15 _ rfl).2 (va_recv hK hP (ci := 15) (q0 := k18) rfl hk18) dX12_wear_19 ?_
    obtain ⟨k19, gk19, hk19⟩ := wGt (cy := cy) X S o17k.1 o17k.2.1
    have i20 := ((hW.at o17k List.not_mem_nil).to_11 o17k.2.1).R3
    refine va_getN (D := D) (ci := 15) (v := .int (S.I r16 3)) (C := RX11) (T := TX11) (N := 7) hx hb hts (by decide +kernel) hown hK hP k19 hk19 rfl 3 (by decide) (va_Nw.use rfl (hN (.fieldLinkNest RX12 353 "HobhouseModel$Hob" "places" "I" "HobhouseModel") (by decide +kernel))) (fun _ h9 => h9) rfl dX12_wear_22 ?_
    refine lv_iconst (v := 1) hx hb dX12_wear_25 (by decide) ?_
    refine lv_isub hx hb dX12_wear_26 ?_
    refine lv_i2l hx hb dX12_wear_27 rfl ?_
    have hFc := free_all hD hS hA
    refine va_calli (va_runS (As := [.long x2.toInt64, .long (0 : Int64), .long (((S.I r16 3) - (1 : Int32)).toInt64)]) (rest := []) ⟨hx, hb, hml, hown, hts⟩ (c_X12_in l (cy := cy) (X := X) (D := D) S _ x2.toInt64 (0 : Int64) (((S.I r16 3) - (1 : Int32)).toInt64)) (cwS 3 hts gX12_wear_X12_in rfl rfl rfl hd_X12_in ⟨Nat.le_of_ble_eq_true rfl, Nat.le_of_ble_eq_true rfl⟩) ⟨fun a U g mk q => ⟨q.1, q.2.1, q.2.2.1.calling, NW.same (u := U) (U := U.calling g mk a) rfl q.2.2.2⟩, fun U hU hW => ⟨rfl, by rw [hU], wd_pre hP hK hD hU hW, hN.warm hW⟩⟩ rfl rfl hl.1 rfl (lv_room (Nat.le_of_ble_eq_true rfl)) dX12_wear_28 ⟨(Nat.zero_le _), (Nat.zero_le _)⟩) hS (fun q _ h => hFc q h) hFc (fun r21 u t H1 locs ht hvm hw hB hz1 hk1 hS => ?_)
    have c22 := hw
    obtain ⟨hP, hD⟩ := wd_post hFc ht hB
    generalize H1 = H at hP hS ⊢
    obtain rfl : r21 = f_X12_in x2.toInt64 (0 : Int64) (((S.I r16 3) - (1 : Int32)).toInt64) := c22
    have i23 := i64_i x2
    have l64_0 : (0 : Int64).toInt = 0 := rfl
    have l32_1 : (1 : Int32).toInt = 1 := rfl
    have i24 : ((S.I r16 3) - (1 : Int32)).toInt = (S.I r16 3).toInt - 1 := t_subr (n := 1) rfl (by omega)
    have i25 := i64_i ((S.I r16 3) - (1 : Int32))
    have i26 := in_rng x2.toInt64 (0 : Int64) (((S.I r16 3) - (1 : Int32)).toInt64)
    refine lv_if_eq (tgt := 57) hx hb dX12_wear_31 (by decide) (fun c27 => ?_) (fun c27 => ?_)
    · have c27i : (f_X12_in x2.toInt64 (0 : Int64) (((S.I r16 3) - (1 : Int32)).toInt64)).toInt = 0 := eq_v rfl rfl c27
      refine lv_aload_n hx hb dX12_wear_57 rfl (lv_at hl 0 rfl) ?_
      refine lv_iconst (v := 1) hx hb dX12_wear_58 (by decide) ?_
      have hFc := free_all hD hS hA
      obtain ⟨k28, gk28, hk28⟩ := wGt (cy := cy) X S h_o1.1 h_o1.2.1
      refine va_calli (va_runV (As := [.int (1 : Int32)]) (rest := []) ⟨hx, hb, hml, hown, hts⟩ (c_X12_fails l (cy := cy) (X := X) (D := D) S _ o1 h_o1 (1 : Int32) (hW)) (cwV 1 hts gX12_wear_X12_fails rfl rfl rfl hd_X12_fails ⟨Nat.le_of_ble_eq_true rfl, Nat.le_of_ble_eq_true rfl⟩) ⟨fun a U g mk q => ⟨q.1, q.2.1, q.2.2.1.calling, NW.same (u := U) (U := U.calling g mk a) rfl q.2.2.2⟩, va_recv hK hP (q := (RX12, TX12, 34)) (ci := 16) (q0 := k28) rfl hk28, fun U hU hW => ⟨rfl, by rw [hU], wd_pre hP hK hD hU hW, hN.warm hW⟩⟩ rfl rfl hl.1 rfl (lv_room (Nat.le_of_ble_eq_true rfl)) dX12_wear_59 ⟨(Nat.zero_le _), (Nat.zero_le _)⟩) hS (fun q _ h => hFc q h) hFc (fun r29 u t H1 locs ht hvm hw hB hz1 hk1 hS => ?_)
      obtain ⟨c30, w31⟩ := hw
      obtain ⟨hP, hD⟩ := wd_post hFc ht hB
      generalize H1 = H at hP hS ⊢
      obtain ⟨S32, rfl⟩ : ∃ z, z = u := ⟨_, rfl⟩
      have t33 : stp [(12, 15)] [] [] S S32 := t0.tr w31 (by decide) (fun _ q => absurd q List.not_mem_nil)
      have xe34 : ext S S32 := w31.x
      refine W.widen (k := 0) (n := 0) (Nat.le_of_ble_eq_true rfl) (Nat.le_of_ble_eq_true rfl) ?_
      exact W.iret (v := r29) hx hb hr (fun t ht hW9 => ⟨⟨r29, S32, rfl, t33, wd_end hP hK hD ht hW9.alike⟩, hS.F ht⟩) hS.2.2 dX12_wear_62 hlocks
    · have c27i : ¬ (f_X12_in x2.toInt64 (0 : Int64) (((S.I r16 3) - (1 : Int32)).toInt64)).toInt = 0 := neq_v rfl rfl c27
      refine lv_aload_n hx hb dX12_wear_34 rfl (lv_at hl 0 rfl) ?_
      refine lv_aload_n hx hb dX12_wear_35 rfl (lv_at hl 0 rfl) ?_
      obtain ⟨k35, gk35, hk35⟩ := wGt (cy := cy) X S h_o1.1 h_o1.2.1
      simp only [kE, F1.1] at hk35
      refine va_get (D := D) (ci := 16) (v := .ref (S.f o1 1)) (C := RX12) (T := TX12) (N := 34) hx hb hts (by decide +kernel) hown hK hP k35 hk35 rfl 1 (by decide) (hts (.fieldLink RX12 28 "HobhouseModel" "hobs" "Ljava/util/ArrayList;") (by decide +kernel)) (fun _ h9 => h9) rfl dX12_wear_36 ?_
      refine lv_iload_n hx hb dX12_wear_39 rfl (lv_at hl 1 rfl) ?_
      have hFc := free_all hD hS hA
      obtain ⟨k36, gk36, hk36⟩ := wGt (cy := cy) X S F1.2.1.1 F1.2.1.2.1
      refine va_callq (va_runV (As := [.int x1]) (rest := [.ref o1]) ⟨hx, hb, hml, hown, hts⟩ (c_Jx4a65c_get_915e3 l (cy := cy) (X := X) (D := D) S _ (S.f o1 1) F1.2.1 x1 (hW) (by omega)) (cwV 1 hts gX12_wear_Jx4a65c_get_915e3 rfl rfl rfl hd_Jx4a65c_get_915e3 ⟨Nat.le_of_ble_eq_true rfl, Nat.le_of_ble_eq_true rfl⟩) ⟨fun a U g mk q => ⟨q.1, q.2.1, q.2.2.1.calling, NW.same (u := U) (U := U.calling g mk a) rfl q.2.2.2⟩, va_recv hK hP (q := (RJx4a65c, TJx4a65c, 3)) (ci := 3) (q0 := k36) rfl hk36, fun U hU hW => ⟨rfl, by rw [hU], wd_pre hP hK hD hU hW, hN.warm hW⟩⟩ rfl rfl hl.1 rfl (lv_room (Nat.le_of_ble_eq_true rfl)) dX12_wear_40 ⟨(Nat.zero_le _), (Nat.zero_le _)⟩) hS (fun q _ h => hFc q h) hFc (fun r37 u t H1 locs ht hvm hw hB hz1 hk1 hS => ?_)
      obtain ⟨r37, rfl, o38⟩ := hw
      obtain ⟨hP, hD⟩ := wd_post hFc ht hB
      generalize H1 = H at hP hS ⊢
      have o38k : isA S r37 11 := by rw [← show _ = 11 from F1.2.2]; exact o38
      refine W.eq (g2 := F0 m 43 ls [.ref r37, .ref o1]) rfl ?_
      obtain ⟨k39, gk39, hk39⟩ := wGt (cy := cy) X S o38k.1 o38k.2.1
      refine va_castS (nm := "HobhouseModel$Hob") hx hb hown (hts (.classLink RX12 322 "HobhouseModel$Hob") (by decide +kernel)) (hK.1 15 _ rfl).2 (va_recv hK hP (ci := 15) (q0 := k39) rfl hk39) dX12_wear_43 ?_
      have F40 := ((hW.at o38k List.not_mem_nil).to_11 o38k.2.1).F2
      obtain ⟨k41, gk41, hk41⟩ := wGt (cy := cy) X S o38k.1 o38k.2.1
      simp only [kE, F40.1] at hk41
      refine va_getN (D := D) (ci := 15) (v := .ref (S.f r37 2)) (C := RX11) (T := TX11) (N := 7) hx hb hts (by decide +kernel) hown hK hP k41 hk41 rfl 2 (by decide) (va_Nw.use rfl (hN (.fieldLinkNest RX12 350 "HobhouseModel$Hob" "wear" "[I" "HobhouseModel") (by decide +kernel))) (fun _ h9 => h9) rfl dX12_wear_46 ?_
      refine lv_iload_n hx hb dX12_wear_49 rfl (lv_at hl 2 rfl) ?_
      obtain ⟨k42, gk42, hk42⟩ := wGt (cy := cy) X S F40.2.1.1 F40.2.1.2.1
      refine va_iald hx hb hK hP k42 2 hk42 rfl (inb (m := 20) F40.2.2 (by omega) (by omega)) dX12_wear_50 ?_
      have hFc := free_all hD hS hA
      obtain ⟨k43, gk43, hk43⟩ := wGt (cy := cy) X S h_o1.1 h_o1.2.1
      refine va_calli (va_runV (As := [.int (S.i (S.f r37 2) x2.toNatClampNeg)]) (rest := []) ⟨hx, hb, hml, hown, hts⟩ (c_X12_answer l (cy := cy) (X := X) (D := D) S _ o1 h_o1 (S.i (S.f r37 2) x2.toNatClampNeg) (hW)) (cwV 1 hts gX12_wear_X12_answer rfl rfl rfl hd_X12_answer ⟨Nat.le_of_ble_eq_true rfl, Nat.le_of_ble_eq_true rfl⟩) ⟨fun a U g mk q => ⟨q.1, q.2.1, q.2.2.1.calling, NW.same (u := U) (U := U.calling g mk a) rfl q.2.2.2⟩, va_recv hK hP (q := (RX12, TX12, 34)) (ci := 16) (q0 := k43) rfl hk43, fun U hU hW => ⟨rfl, by rw [hU], wd_pre hP hK hD hU hW, hN.warm hW⟩⟩ rfl rfl hl.1 rfl (lv_room (Nat.le_of_ble_eq_true rfl)) dX12_wear_51 ⟨(Nat.zero_le _), (Nat.zero_le _)⟩) hS (fun q _ h => hFc q h) hFc (fun r44 u t H1 locs ht hvm hw hB hz1 hk1 hS => ?_)
      obtain ⟨c45, w46⟩ := hw
      obtain ⟨hP, hD⟩ := wd_post hFc ht hB
      generalize H1 = H at hP hS ⊢
      obtain ⟨S47, rfl⟩ : ∃ z, z = u := ⟨_, rfl⟩
      have t48 : stp [(12, 15)] [] [] S S47 := t0.tr w46 (by decide) (fun _ q => absurd q List.not_mem_nil)
      have xe49 : ext S S47 := w46.x
      refine lv_goto (tgt := 62) hx hb dX12_wear_54 (by decide) ?_
      refine W.widen (k := 0) (n := 0) (Nat.le_of_ble_eq_true rfl) (Nat.le_of_ble_eq_true rfl) ?_
      exact W.iret (v := r44) hx hb hr (fun t ht hW9 => ⟨⟨r44, S47, rfl, t48, wd_end hP hK hD ht hW9.alike⟩, hS.F ht⟩) hS.2.2 dX12_wear_62 hlocks
theorem hd_X12_regrind : yX12_regrind.cls = RX12 ∧ yX12_regrind.cls ≠ "java/lang/invoke/MethodHandle" ∧ yX12_regrind.cls ≠ "java/lang/invoke/VarHandle" ∧ (parseMethodDescriptor yX12_regrind.desc).map (fun d => d.parameters.length) = some 1 := by decide +kernel
set_option maxHeartbeats 4000000 in
set_option maxRecDepth 100000 in
theorem c_X12_regrind (l : Launch) {D : va_G} {cy : Nat → ClassId} {X : va_W} (S : wPS) (sz : Nat) (o1 : Nat) (h_o1 : isA S o1 12) (x1 : Int32) (hW : wtB S [])  : Met l yX12_regrind wsX12_regrind ({ frames := 3, cells := 0, slots := 0, locals := 64 }) (va_Pc [.ref o1, .int x1] (fun U => U.heap.size = sz ∧ WD D cy X (fun _ => True) S U ∧ NW U)) (va_Qi (fun r (u : wPS) => stp [(11, 4), (11, 6), (12, 15), (17, 100)] [] [] S u) (fun u t => WD D cy X (va_A (X ++ PL cy S) sz) u t) (va_A (X ++ PL cy S) sz)) 0 0 (va_A (X ++ PL cy S) sz) := by
  refine Met.ofW (cc := cX12_regrind) (maxL := 4) (ret := (some .int)) (by decide) rfl ?_
  intro p e s m args below meth c s₁ B hml hv
  obtain ⟨rfl, hsz, ⟨hP, hK, hD0⟩, hN⟩ := hv
  have hx := B.exec
  have hb := B.bytes
  have hr := B.returns
  have hts := atoms_spec (ws := wsX12_regrind) B.pre
  have hown : s.vm.findClass RX12 = some m.cls := findClass_of_methodNamed (x := yX12_regrind) B.named
  have hlocks := B.notSynchronized
  subst hsz
  have hD := hD0.self (sz := s.heap.size)
  generalize hAe : va_A (X ++ PL cy S) s.heap.size = A at hD ⊢
  have hA : ∀ q : Nat, s.heap.size ≤ q → A q := fun q h => by rw [← hAe]; exact Or.inr h
  have hS : va_S A s.heap s.heap [] := va_S.rf
  have hl := lv_entry ([.ref o1, .int x1]) (n := 4) (Nat.le_of_ble_eq_true rfl)
  rw [lg_entry_eq]
  generalize (lg_sl ([.ref o1, .int x1]) ++ List.replicate (4 - (lg_sl ([.ref o1, .int x1])).length) Slot.unset).toArray = ls at hl ⊢
  have hl : lv_has ls 4 [(0, .ref o1), (1, .int x1)] := hl
  have t0 : stp [(11, 4), (11, 6), (12, 15), (17, 100)] [] [] S S := stp.rf hW
  refine lv_aload_n hx hb dX12_regrind_0 rfl (lv_at hl 0 rfl) ?_
  refine lv_iload_n hx hb dX12_regrind_1 rfl (lv_at hl 1 rfl) ?_
  have hFc := free_all hD hS hA
  obtain ⟨k1, gk1, hk1⟩ := wGt (cy := cy) X S h_o1.1 h_o1.2.1
  refine va_calli (va_runV (As := [.int x1]) (rest := []) ⟨hx, hb, hml, hown, hts⟩ (c_X12_isHob l (cy := cy) (X := X) (D := D) S _ o1 h_o1 x1 (hW)) (cwV 1 hts gX12_regrind_X12_isHob rfl rfl rfl hd_X12_isHob ⟨Nat.le_of_ble_eq_true rfl, Nat.le_of_ble_eq_true rfl⟩) ⟨fun a U g mk q => ⟨q.1, q.2.1, q.2.2.1.calling, NW.same (u := U) (U := U.calling g mk a) rfl q.2.2.2⟩, va_recv hK hP (q := (RX12, TX12, 34)) (ci := 16) (q0 := k1) rfl hk1, fun U hU hW => ⟨rfl, by rw [hU], wd_pre hP hK hD hU hW, hN.warm hW⟩⟩ rfl rfl hl.1 rfl (lv_room (Nat.le_of_ble_eq_true rfl)) dX12_regrind_2 ⟨(Nat.zero_le _), (Nat.zero_le _)⟩) hS (fun q _ h => hFc q h) hFc (fun r2 u t H1 locs ht hvm hw hB hz1 hk1 hS => ?_)
  have c3 := hw
  obtain ⟨hP, hD⟩ := wd_post hFc ht hB
  generalize H1 = H at hP hS ⊢
  obtain rfl : r2 = f_X12_isHob S o1 x1 := c3
  have F4 := ((hW.at h_o1 List.not_mem_nil).to_12 h_o1.2.1).F1
  have i5 : (f_X12_isHob S o1 x1).toInt = 0 ∨ (0 ≤ x1.toInt ∧ x1.toInt < (S.I (S.f o1 1) 2).toInt) := by have h9 := ih_rng x1 ((hW.at h_o1 List.not_mem_nil).to_12 h_o1.2.1) hW; rw [f_of F4.1] at h9; exact h9
  refine lv_if_ne (tgt := 14) hx hb dX12_regrind_5 (by decide) (fun c6 => ?_) (fun c6 => ?_)
  · have c6i : ¬ (f_X12_isHob S o1 x1).toInt = 0 := neq_v rfl rfl c6
    refine lv_aload_n hx hb dX12_regrind_14 rfl (lv_at hl 0 rfl) ?_
    obtain ⟨k7, gk7, hk7⟩ := wGt (cy := cy) X S h_o1.1 h_o1.2.1
    simp only [kE, F4.1] at hk7
    refine va_get (D := D) (ci := 16) (v := .ref (S.f o1 1)) (C := RX12) (T := TX12) (N := 34) hx hb hts (by decide +kernel) hown hK hP k7 hk7 rfl 1 (by decide) (hts (.fieldLink RX12 28 "HobhouseModel" "hobs" "Ljava/util/ArrayList;") (by decide +kernel)) (fun _ h9 => h9) rfl dX12_regrind_15 ?_
    refine lv_iload_n hx hb dX12_regrind_18 rfl (lv_at hl 1 rfl) ?_
    have hFc := free_all hD hS hA
    obtain ⟨k8, gk8, hk8⟩ := wGt (cy := cy) X S F4.2.1.1 F4.2.1.2.1
    refine va_callq (va_runV (As := [.int x1]) (rest := []) ⟨hx, hb, hml, hown, hts⟩ (c_Jx4a65c_get_915e3 l (cy := cy) (X := X) (D := D) S _ (S.f o1 1) F4.2.1 x1 (hW) (by omega)) (cwV 1 hts gX12_regrind_Jx4a65c_get_915e3 rfl rfl rfl hd_Jx4a65c_get_915e3 ⟨Nat.le_of_ble_eq_true rfl, Nat.le_of_ble_eq_true rfl⟩) ⟨fun a U g mk q => ⟨q.1, q.2.1, q.2.2.1.calling, NW.same (u := U) (U := U.calling g mk a) rfl q.2.2.2⟩, va_recv hK hP (q := (RJx4a65c, TJx4a65c, 3)) (ci := 3) (q0 := k8) rfl hk8, fun U hU hW => ⟨rfl, by rw [hU], wd_pre hP hK hD hU hW, hN.warm hW⟩⟩ rfl rfl hl.1 rfl (lv_room (Nat.le_of_ble_eq_true rfl)) dX12_regrind_19 ⟨(Nat.zero_le _), (Nat.zero_le _)⟩) hS (fun q _ h => hFc q h) hFc (fun r9 u t H1 locs ht hvm hw hB hz1 hk1 hS => ?_)
    obtain ⟨r9, rfl, o10⟩ := hw
    obtain ⟨hP, hD⟩ := wd_post hFc ht hB
    generalize H1 = H at hP hS ⊢
    have o10k : isA S r9 11 := by rw [← show _ = 11 from F4.2.2]; exact o10
    refine W.eq (g2 := F0 m 22 ls [.ref r9]) rfl ?_
    obtain ⟨k11, gk11, hk11⟩ := wGt (cy := cy) X S o10k.1 o10k.2.1
    refine va_castS (nm := "HobhouseModel$Hob") hx hb hown (hts (.classLink RX12 322 "HobhouseModel$Hob") (by decide +kernel)) (hK.1 15 _ rfl).2 (va_recv hK hP (ci := 15) (q0 := k11) rfl hk11) dX12_regrind_22 ?_
    refine lv_astore_n (lv' := [(2, .ref r9), (0, .ref o1), (1, .int x1)]) hx hb dX12_regrind_25 rfl hl (by decide) rfl (fun ls hl => ?_)
    refine lv_aload_n hx hb dX12_regrind_26 rfl (lv_at hl 0 rfl) ?_
    obtain ⟨k12, gk12, hk12⟩ := wGt (cy := cy) X S o10k.1 o10k.2.1
    refine va_getN (D := D) (ci := 15) (v := .int (S.I r9 6)) (C := RX11) (T := TX11) (N := 7) hx hb hts (by decide +kernel) hown hK hP k12 hk12 rfl 6 (by decide) (va_Nw.use rfl (hN (.fieldLinkNest RX12 359 "HobhouseModel$Hob" "error" "I" "HobhouseModel") (by decide +kernel))) (fun _ h9 => h9) rfl dX12_regrind_27 ?_
    refine lv_bipush (v := 8) hx hb dX12_regrind_30 (by decide +kernel) ?_
    refine lv_icmp_eq (tgt := 45) hx hb dX12_regrind_32 (by decide) (fun c13 => ?_) (fun c13 => ?_)
    · have c13i : (S.I r9 6).toInt = 8 := eq_v rfl rfl c13
      refine lv_aload_n hx hb dX12_regrind_45 rfl (lv_at hl 1 rfl) ?_
      refine lv_iconst (v := 2) hx hb dX12_regrind_46 (by decide) ?_
      have l32_2 : (2 : Int32).toInt = 2 := rfl
      have hFc := free_all hD hS hA
      obtain ⟨k14, gk14, hk14⟩ := wGt (cy := cy) X S h_o1.1 h_o1.2.1
      refine va_calli (va_runV (As := [.int (2 : Int32)]) (rest := []) ⟨hx, hb, hml, hown, hts⟩ (c_X12_fails l (cy := cy) (X := X) (D := D) S _ o1 h_o1 (2 : Int32) (hW)) (cwV 1 hts gX12_regrind_X12_fails rfl rfl rfl hd_X12_fails ⟨Nat.le_of_ble_eq_true rfl, Nat.le_of_ble_eq_true rfl⟩) ⟨fun a U g mk q => ⟨q.1, q.2.1, q.2.2.1.calling, NW.same (u := U) (U := U.calling g mk a) rfl q.2.2.2⟩, va_recv hK hP (q := (RX12, TX12, 34)) (ci := 16) (q0 := k14) rfl hk14, fun U hU hW => ⟨rfl, by rw [hU], wd_pre hP hK hD hU hW, hN.warm hW⟩⟩ rfl rfl hl.1 rfl (lv_room (Nat.le_of_ble_eq_true rfl)) dX12_regrind_47 ⟨(Nat.zero_le _), (Nat.zero_le _)⟩) hS (fun q _ h => hFc q h) hFc (fun r15 u t H1 locs ht hvm hw hB hz1 hk1 hS => ?_)
      obtain ⟨c16, w17⟩ := hw
      obtain ⟨hP, hD⟩ := wd_post hFc ht hB
      generalize H1 = H at hP hS ⊢
      obtain ⟨S18, rfl⟩ : ∃ z, z = u := ⟨_, rfl⟩
      have t19 : stp [(11, 4), (11, 6), (12, 15), (17, 100)] [] [] S S18 := t0.tr w17 (by decide) (fun _ q => absurd q List.not_mem_nil)
      have xe20 : ext S S18 := w17.x
      refine W.widen (k := 0) (n := 0) (Nat.le_of_ble_eq_true rfl) (Nat.le_of_ble_eq_true rfl) ?_
      exact W.iret (v := r15) hx hb hr (fun t ht hW9 => ⟨⟨r15, S18, rfl, t19, wd_end hP hK hD ht hW9.alike⟩, hS.F ht⟩) hS.2.2 dX12_regrind_50 hlocks
    · have c13i : ¬ (S.I r9 6).toInt = 8 := neq_v rfl rfl c13
      refine lv_aload_n hx hb dX12_regrind_35 rfl (lv_at hl 0 rfl) ?_
      obtain ⟨k21, gk21, hk21⟩ := wGt (cy := cy) X S o10k.1 o10k.2.1
      refine va_getN (D := D) (ci := 15) (v := .int (S.I r9 4)) (C := RX11) (T := TX11) (N := 7) hx hb hts (by decide +kernel) hown hK hP k21 hk21 rfl 4 (by decide) (va_Nw.use rfl (hN (.fieldLinkNest RX12 366 "HobhouseModel$Hob" "diameter" "I" "HobhouseModel") (by decide +kernel))) (fun _ h9 => h9) rfl dX12_regrind_36 ?_
      refine lv_sipush (v := 20100) hx hb dX12_regrind_39 (by decide +kernel) ?_
      refine lv_icmp_ge (tgt := 51) hx hb dX12_regrind_42 (by decide) (fun c22 => ?_) (fun c22 => ?_)
      · have c22i : 20100 ≤ (S.I r9 4).toInt := le_v rfl rfl c22
        refine lv_aload_n hx hb dX12_regrind_51 rfl (lv_at hl 0 rfl) ?_
        refine lv_dup hx hb dX12_regrind_52 rfl ?_
        obtain ⟨k23, gk23, hk23⟩ := wGt (cy := cy) X S o10k.1 o10k.2.1
        refine va_getN (D := D) (ci := 15) (v := .int (S.I r9 4)) (C := RX11) (T := TX11) (N := 7) hx hb hts (by decide +kernel) hown hK hP k23 hk23 rfl 4 (by decide) (va_Nw.use rfl (hN (.fieldLinkNest RX12 366 "HobhouseModel$Hob" "diameter" "I" "HobhouseModel") (by decide +kernel))) (fun _ h9 => h9) rfl dX12_regrind_53 ?_
        refine lv_bipush (v := 100) hx hb dX12_regrind_56 (by decide +kernel) ?_
        refine lv_isub hx hb dX12_regrind_58 ?_
        obtain ⟨k24, gk24, hk24⟩ := wGt (cy := cy) X S o10k.1 o10k.2.1
        refine va_putN (D := D) (ci := 15) (v := .int ((S.I r9 4) - (100 : Int32))) (ty := .int) (C := RX11) (T := TX11) (N := 7) hx hb hts (by decide +kernel) tyX11 tyX11_ok nmX11 hown hK hP hD hS k24 hk24 rfl 4 (by decide) (va_Nw.use rfl (hN (.fieldLinkNest RX12 366 "HobhouseModel$Hob" "diameter" "I" "HobhouseModel") (by decide +kernel))) (fun _ h9 => h9) rfl (by decide +kernel) (rfl) (rfl) (Nat.le_of_ble_eq_true rfl) dX12_regrind_59 (fun H locs hP2 hD2 hS => ?_)
        have e9 := wPuI (cy := cy) (j := 4) (v := ((S.I r9 4) - (100 : Int32))) hD o10k.1 o10k.2.1 gk24 rfl
        obtain ⟨S25, hS25⟩ : ∃ z, S.sI r9 4 ((S.I r9 4) - (100 : Int32)) = z := ⟨_, rfl⟩
        have hP : va_P D vwCl (X ++ PL cy S25) H := by rw [← hS25, ← e9]; exact hP2
        have hD : va_D A (X ++ PL cy S25) := by rw [← hS25, ← e9]; exact hD2
        have xe26 : ext S S25 := by rw [← hS25]; exact ext.sI _ _ _ _
        have t27 : stp [(11, 4), (11, 6), (12, 15), (17, 100)] [] [] S S25 := by rw [← hS25]; exact t0.I 4 ((S.I r9 4) - (100 : Int32)) o10k (by decide) (trivial) (Or.inl (by decide))
        refine lv_aload_n hx hb dX12_regrind_62 rfl (lv_at hl 0 rfl) ?_
        refine lv_dup hx hb dX12_regrind_63 rfl ?_
        obtain ⟨k28, gk28, hk28⟩ := wGt (cy := cy) X S25 (xe26.A o10k).1 (xe26.A o10k).2.1
        refine va_getN (D := D) (ci := 15) (v := .int (S25.I r9 6)) (C := RX11) (T := TX11) (N := 7) hx hb hts (by decide +kernel) hown hK hP k28 hk28 rfl 6 (by decide) (va_Nw.use rfl (hN (.fieldLinkNest RX12 359 "HobhouseModel$Hob" "error" "I" "HobhouseModel") (by decide +kernel))) (fun _ h9 => h9) rfl dX12_regrind_64 ?_
        refine lv_iconst (v := 1) hx hb dX12_regrind_67 (by decide) ?_
        refine lv_iadd hx hb dX12_regrind_68 ?_
        obtain ⟨k29, gk29, hk29⟩ := wGt (cy := cy) X S25 (xe26.A o10k).1 (xe26.A o10k).2.1
        refine va_putN (D := D) (ci := 15) (v := .int ((S25.I r9 6) + (1 : Int32))) (ty := .int) (C := RX11) (T := TX11) (N := 7) hx hb hts (by decide +kernel) tyX11 tyX11_ok nmX11 hown hK hP hD hS k29 hk29 rfl 6 (by decide) (va_Nw.use rfl (hN (.fieldLinkNest RX12 359 "HobhouseModel$Hob" "error" "I" "HobhouseModel") (by decide +kernel))) (fun _ h9 => h9) rfl (by decide +kernel) (rfl) (rfl) (Nat.le_of_ble_eq_true rfl) dX12_regrind_69 (fun H locs hP2 hD2 hS => ?_)
        have e9 := wPuI (cy := cy) (j := 6) (v := ((S25.I r9 6) + (1 : Int32))) hD (xe26.A o10k).1 (xe26.A o10k).2.1 gk29 rfl
        obtain ⟨S30, hS30⟩ : ∃ z, S25.sI r9 6 ((S25.I r9 6) + (1 : Int32)) = z := ⟨_, rfl⟩
        have hP : va_P D vwCl (X ++ PL cy S30) H := by rw [← hS30, ← e9]; exact hP2
        have hD : va_D A (X ++ PL cy S30) := by rw [← hS30, ← e9]; exact hD2
        have xe31 : ext S25 S30 := by rw [← hS30]; exact ext.sI _ _ _ _
        have t32 : stp [(11, 4), (11, 6), (12, 15), (17, 100)] [] [] S S30 := by rw [← hS30]; exact t27.I 6 ((S25.I r9 6) + (1 : Int32)) (xe26.A o10k) (by decide) (trivial) (Or.inl (by decide))
        refine lv_iconst (v := 0) hx hb dX12_regrind_72 (by decide) ?_
        refine lv_istore_n (lv' := [(3, .int (0 : Int32)), (2, .ref r9), (0, .ref o1), (1, .int x1)]) hx hb dX12_regrind_73 rfl hl (by decide) rfl (fun ls hl => ?_)
        have l32_0 : (0 : Int32).toInt = 0 := rfl
        have loop74 : ∀ (n : Nat) (S74_ : wPS) (w74_3 : Int32) (H : Heap) (locs : List Loc) (ls : Array Slot), (21 - w74_3.toInt).toNat < n → 0 ≤ w74_3.toInt ∧ w74_3.toInt ≤ 20 → stp [(11, 4), (11, 6), (12, 15), (17, 100)] [] [] S30 S74_ → va_P D vwCl (X ++ PL cy S74_) H → va_D A (X ++ PL cy S74_) → va_S A s.heap H locs → lv_has ls 4 [(3, .int w74_3), (2, .ref r9), (0, .ref o1), (1, .int x1)] → (∀ (S74_x : wPS) (w74_3x : Int32) (H : Heap) (locs : List Loc) (ls : Array Slot), 0 ≤ w74_3x.toInt ∧ w74_3x.toInt ≤ 20 → stp [(11, 4), (11, 6), (12, 15), (17, 100)] [] [] S30 S74_x → va_P D vwCl (X ++ PL cy S74_x) H → va_D A (X ++ PL cy S74_x) → va_S A s.heap H locs → lv_has ls 4 [(3, .int w74_3x), (2, .ref r9), (0, .ref o1), (1, .int x1)] → W p l e (headSpec wsX12_regrind ({ frames := 3, cells := 0, slots := 0, locals := 64 } : Room)).room s m [.ref o1, .int x1].toArray below meth c H locs 0 0 (MQ below (va_Qi (fun r (u : wPS) => stp [(11, 4), (11, 6), (12, 15), (17, 100)] [] [] S u) (fun u t => WD D cy X A u t) A) [.ref o1, .int x1].toArray s 0 0 A) (F0 m 95 ls [])) → W p l e (headSpec wsX12_regrind ({ frames := 3, cells := 0, slots := 0, locals := 64 } : Room)).room s m [.ref o1, .int x1].toArray below meth c H locs 0 0 (MQ below (va_Qi (fun r (u : wPS) => stp [(11, 4), (11, 6), (12, 15), (17, 100)] [] [] S u) (fun u t => WD D cy X A u t) A) [.ref o1, .int x1].toArray s 0 0 A) (F0 m 74 ls []) := by
          intro n74
          induction n74 with
          | zero => intro S74_ w74_3 H locs ls hm; exact absurd hm (Nat.not_lt_zero _)
          | succ n74 ih74 =>
            intro S74_ w74_3 H locs ls hm74 hi74 hsh74 hP hD hS hl ko74
            have r3 := ((hsh74.w.at ((xe31.tr hsh74.x).A (xe26.A o10k)) List.not_mem_nil).to_11 ((xe31.tr hsh74.x).A (xe26.A o10k)).2.1).R3
            refine lv_iload_n hx hb dX12_regrind_74 rfl (lv_at hl 0 rfl) ?_
            refine lv_aload_n hx hb dX12_regrind_75 rfl (lv_at hl 1 rfl) ?_
            obtain ⟨k33, gk33, hk33⟩ := wGt (cy := cy) X S74_ ((xe31.tr hsh74.x).A (xe26.A o10k)).1 ((xe31.tr hsh74.x).A (xe26.A o10k)).2.1
            have i34 := ((hsh74.w.at ((xe31.tr hsh74.x).A (xe26.A o10k)) List.not_mem_nil).to_11 ((xe31.tr hsh74.x).A (xe26.A o10k)).2.1).R3
            refine va_getN (D := D) (ci := 15) (v := .int (S74_.I r9 3)) (C := RX11) (T := TX11) (N := 7) hx hb hts (by decide +kernel) hown hK hP k33 hk33 rfl 3 (by decide) (va_Nw.use rfl (hN (.fieldLinkNest RX12 353 "HobhouseModel$Hob" "places" "I" "HobhouseModel") (by decide +kernel))) (fun _ h9 => h9) rfl dX12_regrind_76 ?_
            refine lv_icmp_ge (tgt := 95) hx hb dX12_regrind_79 (by decide) (fun c35 => ?_) (fun c35 => ?_)
            · have c35i : (S74_.I r9 3).toInt ≤ w74_3.toInt := le_v rfl rfl c35
              exact ko74 S74_ w74_3 _ _ _ (by omega) hsh74 hP hD hS (lv_sub hl [0, 1, 2, 3] rfl)
            · have c35i : w74_3.toInt < (S74_.I r9 3).toInt := nle_v rfl rfl c35
              refine lv_aload_n hx hb dX12_regrind_82 rfl (lv_at hl 1 rfl) ?_
              have F36 := ((hW.at o10k List.not_mem_nil).to_11 o10k.2.1).F2
              obtain ⟨k37, gk37, hk37⟩ := wGt (cy := cy) X S74_ ((xe31.tr hsh74.x).A (xe26.A o10k)).1 ((xe31.tr hsh74.x).A (xe26.A o10k)).2.1
              simp only [kE, ((xe26.tr (xe31.tr hsh74.x)).F o10k (by decide) F36.1)] at hk37
              refine va_getN (D := D) (ci := 15) (v := .ref (S.f r9 2)) (C := RX11) (T := TX11) (N := 7) hx hb hts (by decide +kernel) hown hK hP k37 hk37 rfl 2 (by decide) (va_Nw.use rfl (hN (.fieldLinkNest RX12 350 "HobhouseModel$Hob" "wear" "[I" "HobhouseModel") (by decide +kernel))) (fun _ h9 => h9) rfl dX12_regrind_83 ?_
              refine lv_iload_n hx hb dX12_regrind_86 rfl (lv_at hl 0 rfl) ?_
              refine lv_iconst (v := 0) hx hb dX12_regrind_87 (by decide) ?_
              obtain ⟨k38, gk38, hk38⟩ := wGt (cy := cy) X S74_ ((xe26.tr (xe31.tr hsh74.x)).A F36.2.1).1 ((xe26.tr (xe31.tr hsh74.x)).A F36.2.1).2.1
              refine va_iast hx hb hK hP hD hS k38 2 hk38 rfl (inb (m := 20) (((xe26.tr (xe31.tr hsh74.x)).n F36.2.1).trans F36.2.2) (by omega) (by omega)) dX12_regrind_88 (fun H locs hP2 hD2 hS => ?_)
              have e9 := wPui (cy := cy) (f := (upd (S74_.i (S.f r9 2)) w74_3.toNatClampNeg (0 : Int32))) hD ((xe26.tr (xe31.tr hsh74.x)).A F36.2.1).1 ((xe26.tr (xe31.tr hsh74.x)).A F36.2.1).2.1 gk38 rfl
              obtain ⟨S39, hS39⟩ : ∃ z, S74_.si (S.f r9 2) (upd (S74_.i (S.f r9 2)) w74_3.toNatClampNeg (0 : Int32)) = z := ⟨_, rfl⟩
              have hP : va_P D vwCl (X ++ PL cy S39) H := by rw [← hS39, ← e9]; exact hP2
              have hD : va_D A (X ++ PL cy S39) := by rw [← hS39, ← e9]; exact hD2
              have xe40 : ext S74_ S39 := by rw [← hS39]; exact ext.si _ _ _
              have t41 : stp [(11, 4), (11, 6), (12, 15), (17, 100)] [] [] S30 S39 := by rw [← hS39]; exact hsh74.i (upd (S74_.i (S.f r9 2)) w74_3.toNatClampNeg (0 : Int32)) ((xe26.tr (xe31.tr hsh74.x)).A F36.2.1) (by decide)
              refine lv_iinc (v := w74_3 + (1 : Int32)) (lv' := [(3, .int (w74_3 + (1 : Int32))), (2, .ref r9), (0, .ref o1), (1, .int x1)]) hx hb dX12_regrind_89 hl (k := 0) rfl (by rfl) (by decide) rfl (fun ls hl => ?_)
              refine lv_goto (tgt := 74) hx hb dX12_regrind_92 (by decide) ?_
              have l32_1 : (1 : Int32).toInt = 1 := rfl
              have i42 : (w74_3 + (1 : Int32)).toInt = w74_3.toInt + 1 := t_addr (n := 1) rfl (by omega)
              exact ih74 S39 (w74_3 + (1 : Int32)) _ _ _ (Nat.lt_of_lt_of_le (by omega) (Nat.le_of_lt_succ hm74)) (by omega) t41 hP hD hS (lv_sub hl [0, 1, 2, 3] rfl) ko74
        refine loop74 22 S30 (0 : Int32) _ _ _ (by omega) (by omega) (stp.rf t32.w) hP hD hS (lv_sub hl [0, 1, 2, 3] rfl) (fun S44 z45 H locs ls hi74 hsh74 hP hD hS hl => ?_)
        have t46 : stp [(11, 4), (11, 6), (12, 15), (17, 100)] [] [] S S44 := t32.tr hsh74 (fun _ q => q) (fun _ q => Or.inl q)
        have et46 := hsh74.x
        refine lv_aload_n hx hb dX12_regrind_95 rfl (lv_at hl 2 rfl) ?_
        refine lv_aload_n hx hb dX12_regrind_96 rfl (lv_at hl 1 rfl) ?_
        obtain ⟨k47, gk47, hk47⟩ := wGt (cy := cy) X S44 ((xe31.tr et46).A (xe26.A o10k)).1 ((xe31.tr et46).A (xe26.A o10k)).2.1
        refine va_getN (D := D) (ci := 15) (v := .int (S44.I r9 6)) (C := RX11) (T := TX11) (N := 7) hx hb hts (by decide +kernel) hown hK hP k47 hk47 rfl 6 (by decide) (va_Nw.use rfl (hN (.fieldLinkNest RX12 359 "HobhouseModel$Hob" "error" "I" "HobhouseModel") (by decide +kernel))) (fun _ h9 => h9) rfl dX12_regrind_97 ?_
        have hFc := free_all hD hS hA
        obtain ⟨k48, gk48, hk48⟩ := wGt (cy := cy) X S44 ((xe26.tr (xe31.tr et46)).A h_o1).1 ((xe26.tr (xe31.tr et46)).A h_o1).2.1
        refine va_calli (va_runV (As := [.int (S44.I r9 6)]) (rest := []) ⟨hx, hb, hml, hown, hts⟩ (c_X12_answer l (cy := cy) (X := X) (D := D) S44 _ o1 ((xe26.tr (xe31.tr et46)).A h_o1) (S44.I r9 6) (t46.w)) (cwV 1 hts gX12_regrind_X12_answer rfl rfl rfl hd_X12_answer ⟨Nat.le_of_ble_eq_true rfl, Nat.le_of_ble_eq_true rfl⟩) ⟨fun a U g mk q => ⟨q.1, q.2.1, q.2.2.1.calling, NW.same (u := U) (U := U.calling g mk a) rfl q.2.2.2⟩, va_recv hK hP (q := (RX12, TX12, 34)) (ci := 16) (q0 := k48) rfl hk48, fun U hU hW => ⟨rfl, by rw [hU], wd_pre hP hK hD hU hW, hN.warm hW⟩⟩ rfl rfl hl.1 rfl (lv_room (Nat.le_of_ble_eq_true rfl)) dX12_regrind_100 ⟨(Nat.zero_le _), (Nat.zero_le _)⟩) hS (fun q _ h => hFc q h) hFc (fun r49 u t H1 locs ht hvm hw hB hz1 hk1 hS => ?_)
        obtain ⟨c50, w51⟩ := hw
        obtain ⟨hP, hD⟩ := wd_post hFc ht hB
        generalize H1 = H at hP hS ⊢
        obtain ⟨S52, rfl⟩ : ∃ z, z = u := ⟨_, rfl⟩
        have t53 : stp [(11, 4), (11, 6), (12, 15), (17, 100)] [] [] S S52 := t46.tr w51 (by decide) (fun _ q => absurd q List.not_mem_nil)
        have xe54 : ext S44 S52 := w51.x
        refine W.widen (k := 0) (n := 0) (Nat.le_of_ble_eq_true rfl) (Nat.le_of_ble_eq_true rfl) ?_
        exact W.iret (v := r49) hx hb hr (fun t ht hW9 => ⟨⟨r49, S52, rfl, t53, wd_end hP hK hD ht hW9.alike⟩, hS.F ht⟩) hS.2.2 dX12_regrind_103 hlocks
      · have c22i : (S.I r9 4).toInt < 20100 := nle_v rfl rfl c22
        refine lv_aload_n hx hb dX12_regrind_45 rfl (lv_at hl 1 rfl) ?_
        refine lv_iconst (v := 2) hx hb dX12_regrind_46 (by decide) ?_
        have l32_2 : (2 : Int32).toInt = 2 := rfl
        have hFc := free_all hD hS hA
        obtain ⟨k55, gk55, hk55⟩ := wGt (cy := cy) X S h_o1.1 h_o1.2.1
        refine va_calli (va_runV (As := [.int (2 : Int32)]) (rest := []) ⟨hx, hb, hml, hown, hts⟩ (c_X12_fails l (cy := cy) (X := X) (D := D) S _ o1 h_o1 (2 : Int32) (hW)) (cwV 1 hts gX12_regrind_X12_fails rfl rfl rfl hd_X12_fails ⟨Nat.le_of_ble_eq_true rfl, Nat.le_of_ble_eq_true rfl⟩) ⟨fun a U g mk q => ⟨q.1, q.2.1, q.2.2.1.calling, NW.same (u := U) (U := U.calling g mk a) rfl q.2.2.2⟩, va_recv hK hP (q := (RX12, TX12, 34)) (ci := 16) (q0 := k55) rfl hk55, fun U hU hW => ⟨rfl, by rw [hU], wd_pre hP hK hD hU hW, hN.warm hW⟩⟩ rfl rfl hl.1 rfl (lv_room (Nat.le_of_ble_eq_true rfl)) dX12_regrind_47 ⟨(Nat.zero_le _), (Nat.zero_le _)⟩) hS (fun q _ h => hFc q h) hFc (fun r56 u t H1 locs ht hvm hw hB hz1 hk1 hS => ?_)
        obtain ⟨c57, w58⟩ := hw
        obtain ⟨hP, hD⟩ := wd_post hFc ht hB
        generalize H1 = H at hP hS ⊢
        obtain ⟨S59, rfl⟩ : ∃ z, z = u := ⟨_, rfl⟩
        have t60 : stp [(11, 4), (11, 6), (12, 15), (17, 100)] [] [] S S59 := t0.tr w58 (by decide) (fun _ q => absurd q List.not_mem_nil)
        have xe61 : ext S S59 := w58.x
        refine W.widen (k := 0) (n := 0) (Nat.le_of_ble_eq_true rfl) (Nat.le_of_ble_eq_true rfl) ?_
        exact W.iret (v := r56) hx hb hr (fun t ht hW9 => ⟨⟨r56, S59, rfl, t60, wd_end hP hK hD ht hW9.alike⟩, hS.F ht⟩) hS.2.2 dX12_regrind_50 hlocks
  · have c6i : (f_X12_isHob S o1 x1).toInt = 0 := eq_v rfl rfl c6
    refine lv_aload_n hx hb dX12_regrind_8 rfl (lv_at hl 0 rfl) ?_
    refine lv_iconst (v := 1) hx hb dX12_regrind_9 (by decide) ?_
    have l32_1 : (1 : Int32).toInt = 1 := rfl
    have hFc := free_all hD hS hA
    obtain ⟨k62, gk62, hk62⟩ := wGt (cy := cy) X S h_o1.1 h_o1.2.1
    refine va_calli (va_runV (As := [.int (1 : Int32)]) (rest := []) ⟨hx, hb, hml, hown, hts⟩ (c_X12_fails l (cy := cy) (X := X) (D := D) S _ o1 h_o1 (1 : Int32) (hW)) (cwV 1 hts gX12_regrind_X12_fails rfl rfl rfl hd_X12_fails ⟨Nat.le_of_ble_eq_true rfl, Nat.le_of_ble_eq_true rfl⟩) ⟨fun a U g mk q => ⟨q.1, q.2.1, q.2.2.1.calling, NW.same (u := U) (U := U.calling g mk a) rfl q.2.2.2⟩, va_recv hK hP (q := (RX12, TX12, 34)) (ci := 16) (q0 := k62) rfl hk62, fun U hU hW => ⟨rfl, by rw [hU], wd_pre hP hK hD hU hW, hN.warm hW⟩⟩ rfl rfl hl.1 rfl (lv_room (Nat.le_of_ble_eq_true rfl)) dX12_regrind_10 ⟨(Nat.zero_le _), (Nat.zero_le _)⟩) hS (fun q _ h => hFc q h) hFc (fun r63 u t H1 locs ht hvm hw hB hz1 hk1 hS => ?_)
    obtain ⟨c64, w65⟩ := hw
    obtain ⟨hP, hD⟩ := wd_post hFc ht hB
    generalize H1 = H at hP hS ⊢
    obtain ⟨S66, rfl⟩ : ∃ z, z = u := ⟨_, rfl⟩
    have t67 : stp [(11, 4), (11, 6), (12, 15), (17, 100)] [] [] S S66 := t0.tr w65 (by decide) (fun _ q => absurd q List.not_mem_nil)
    have xe68 : ext S S66 := w65.x
    refine W.widen (k := 0) (n := 0) (Nat.le_of_ble_eq_true rfl) (Nat.le_of_ble_eq_true rfl) ?_
    exact W.iret (v := r63) hx hb hr (fun t ht hW9 => ⟨⟨r63, S66, rfl, t67, wd_end hP hK hD ht hW9.alike⟩, hS.F ht⟩) hS.2.2 dX12_regrind_13 hlocks
theorem hd_X12_inStep : yX12_inStep.cls = RX12 ∧ yX12_inStep.cls ≠ "java/lang/invoke/MethodHandle" ∧ yX12_inStep.cls ≠ "java/lang/invoke/VarHandle" ∧ (parseMethodDescriptor yX12_inStep.desc).map (fun d => d.parameters.length) = some 4 := by decide +kernel
set_option maxHeartbeats 4000000 in
set_option maxRecDepth 100000 in
theorem c_X12_inStep (l : Launch) {D : va_G} {cy : Nat → ClassId} {X : va_W} (S : wPS) (sz : Nat) (o1 : Nat) (h_o1 : isA S o1 12) (x1 : Int32) (x2 : Int32) (x3 : Int32) (x4 : Int32) (hW : wtB S [])  : Met l yX12_inStep wsX12_inStep ({ frames := 17, cells := 0, slots := 0, locals := 357 }) (va_Pc [.ref o1, .int x1, .int x2, .int x3, .int x4] (fun U => U.heap.size = sz ∧ WD D cy X (fun _ => True) S U ∧ NW U)) (va_Qi (fun r (u : wPS) => stp [(12, 15)] [] [] S u ∧ narrow .boolean (.int r) = .int r) (fun u t => WD D cy X (va_A (X ++ PL cy S) sz) u t) (va_A (X ++ PL cy S) sz)) 0 0 (va_A (X ++ PL cy S) sz) := by
  refine Met.ofW (cc := cX12_inStep) (maxL := 7) (ret := (some .boolean)) (by decide) rfl ?_
  intro p e s m args below meth c s₁ B hml hv
  obtain ⟨rfl, hsz, ⟨hP, hK, hD0⟩, hN⟩ := hv
  have hx := B.exec
  have hb := B.bytes
  have hr := B.returns
  have hts := atoms_spec (ws := wsX12_inStep) B.pre
  have hown : s.vm.findClass RX12 = some m.cls := findClass_of_methodNamed (x := yX12_inStep) B.named
  have hlocks := B.notSynchronized
  subst hsz
  have hD := hD0.self (sz := s.heap.size)
  generalize hAe : va_A (X ++ PL cy S) s.heap.size = A at hD ⊢
  have hA : ∀ q : Nat, s.heap.size ≤ q → A q := fun q h => by rw [← hAe]; exact Or.inr h
  have hS : va_S A s.heap s.heap [] := va_S.rf
  have hl := lv_entry ([.ref o1, .int x1, .int x2, .int x3, .int x4]) (n := 7) (Nat.le_of_ble_eq_true rfl)
  rw [lg_entry_eq]
  generalize (lg_sl ([.ref o1, .int x1, .int x2, .int x3, .int x4]) ++ List.replicate (7 - (lg_sl ([.ref o1, .int x1, .int x2, .int x3, .int x4])).length) Slot.unset).toArray = ls at hl ⊢
  have hl : lv_has ls 7 [(0, .ref o1), (1, .int x1), (2, .int x2), (3, .int x3), (4, .int x4)] := hl
  have t0 : stp [(12, 15)] [] [] S S := stp.rf hW
  refine lv_iload_n hx hb dX12_inStep_0 rfl (lv_at hl 1 rfl) ?_
  refine lv_i2l hx hb dX12_inStep_1 rfl ?_
  refine lv_ldc2 (own := RX12) (v := 6) hx hb hown (hts (.constantLong RX12 129 (6)) (by decide +kernel)) dX12_inStep_2 ?_
  refine lv_ldc2 (own := RX12) (v := 200) hx hb hown (hts (.constantLong RX12 131 (200)) (by decide +kernel)) dX12_inStep_5 ?_
  have hFc := free_all hD hS hA
  refine va_calli (va_runS (As := [.long x1.toInt64, .long (6 : Int64), .long (200 : Int64)]) (rest := []) ⟨hx, hb, hml, hown, hts⟩ (c_X12_in l (cy := cy) (X := X) (D := D) S _ x1.toInt64 (6 : Int64) (200 : Int64)) (cwS 3 hts gX12_inStep_X12_in rfl rfl rfl hd_X12_in ⟨Nat.le_of_ble_eq_true rfl, Nat.le_of_ble_eq_true rfl⟩) ⟨fun a U g mk q => ⟨q.1, q.2.1, q.2.2.1.calling, NW.same (u := U) (U := U.calling g mk a) rfl q.2.2.2⟩, fun U hU hW => ⟨rfl, by rw [hU], wd_pre hP hK hD hU hW, hN.warm hW⟩⟩ rfl rfl hl.1 rfl (lv_room (Nat.le_of_ble_eq_true rfl)) dX12_inStep_8 ⟨(Nat.zero_le _), (Nat.zero_le _)⟩) hS (fun q _ h => hFc q h) hFc (fun r1 u t H1 locs ht hvm hw hB hz1 hk1 hS => ?_)
  have c2 := hw
  obtain ⟨hP, hD⟩ := wd_post hFc ht hB
  generalize H1 = H at hP hS ⊢
  obtain rfl : r1 = f_X12_in x1.toInt64 (6 : Int64) (200 : Int64) := c2
  have i3 := i64_i x1
  have l64_6 : (6 : Int64).toInt = 6 := rfl
  have l64_200 : (200 : Int64).toInt = 200 := rfl
  have i4 := in_rng x1.toInt64 (6 : Int64) (200 : Int64)
  refine lv_if_eq (tgt := 45) hx hb dX12_inStep_11 (by decide) (fun c5 => ?_) (fun c5 => ?_)
  · have c5i : (f_X12_in x1.toInt64 (6 : Int64) (200 : Int64)).toInt = 0 := eq_v rfl rfl c5
    refine lv_aload_n hx hb dX12_inStep_45 rfl (lv_at hl 0 rfl) ?_
    refine lv_iconst (v := 1) hx hb dX12_inStep_46 (by decide) ?_
    have l32_1 : (1 : Int32).toInt = 1 := rfl
    have hFc := free_all hD hS hA
    obtain ⟨k6, gk6, hk6⟩ := wGt (cy := cy) X S h_o1.1 h_o1.2.1
    refine va_calli (va_runV (As := [.int (1 : Int32)]) (rest := []) ⟨hx, hb, hml, hown, hts⟩ (c_X12_refuses l (cy := cy) (X := X) (D := D) S _ o1 h_o1 (1 : Int32) (hW)) (cwV 1 hts gX12_inStep_X12_refuses rfl rfl rfl hd_X12_refuses ⟨Nat.le_of_ble_eq_true rfl, Nat.le_of_ble_eq_true rfl⟩) ⟨fun a U g mk q => ⟨q.1, q.2.1, q.2.2.1.calling, NW.same (u := U) (U := U.calling g mk a) rfl q.2.2.2⟩, va_recv hK hP (q := (RX12, TX12, 34)) (ci := 16) (q0 := k6) rfl hk6, fun U hU hW => ⟨rfl, by rw [hU], wd_pre hP hK hD hU hW, hN.warm hW⟩⟩ rfl rfl hl.1 rfl (lv_room (Nat.le_of_ble_eq_true rfl)) dX12_inStep_47 ⟨(Nat.zero_le _), (Nat.zero_le _)⟩) hS (fun q _ h => hFc q h) hFc (fun r7 u t H1 locs ht hvm hw hB hz1 hk1 hS => ?_)
    obtain ⟨w8, y9⟩ := hw
    obtain ⟨hP, hD⟩ := wd_post hFc ht hB
    generalize H1 = H at hP hS ⊢
    obtain ⟨S10, rfl⟩ : ∃ z, z = u := ⟨_, rfl⟩
    have t11 : stp [(12, 15)] [] [] S S10 := t0.tr w8 (by decide) (fun _ q => absurd q List.not_mem_nil)
    have xe12 : ext S S10 := w8.x
    refine W.widen (k := 0) (n := 0) (Nat.le_of_ble_eq_true rfl) (Nat.le_of_ble_eq_true rfl) ?_
    exact W.zret (v := r7) hx hb hr (y9) (fun t ht hW9 => ⟨⟨r7, S10, rfl, ⟨t11, (y9)⟩, wd_end hP hK hD ht hW9.alike⟩, hS.F ht⟩) hS.2.2 dX12_inStep_50 hlocks
  · have c5i : ¬ (f_X12_in x1.toInt64 (6 : Int64) (200 : Int64)).toInt = 0 := neq_v rfl rfl c5
    refine lv_iload_n hx hb dX12_inStep_14 rfl (lv_at hl 2 rfl) ?_
    refine lv_i2l hx hb dX12_inStep_15 rfl ?_
    refine lv_ldc2 (own := RX12) (v := 6) hx hb hown (hts (.constantLong RX12 129 (6)) (by decide +kernel)) dX12_inStep_16 ?_
    refine lv_ldc2 (own := RX12) (v := 200) hx hb hown (hts (.constantLong RX12 131 (200)) (by decide +kernel)) dX12_inStep_19 ?_
    have hFc := free_all hD hS hA
    refine va_calli (va_runS (As := [.long x2.toInt64, .long (6 : Int64), .long (200 : Int64)]) (rest := []) ⟨hx, hb, hml, hown, hts⟩ (c_X12_in l (cy := cy) (X := X) (D := D) S _ x2.toInt64 (6 : Int64) (200 : Int64)) (cwS 3 hts gX12_inStep_X12_in rfl rfl rfl hd_X12_in ⟨Nat.le_of_ble_eq_true rfl, Nat.le_of_ble_eq_true rfl⟩) ⟨fun a U g mk q => ⟨q.1, q.2.1, q.2.2.1.calling, NW.same (u := U) (U := U.calling g mk a) rfl q.2.2.2⟩, fun U hU hW => ⟨rfl, by rw [hU], wd_pre hP hK hD hU hW, hN.warm hW⟩⟩ rfl rfl hl.1 rfl (lv_room (Nat.le_of_ble_eq_true rfl)) dX12_inStep_22 ⟨(Nat.zero_le _), (Nat.zero_le _)⟩) hS (fun q _ h => hFc q h) hFc (fun r13 u t H1 locs ht hvm hw hB hz1 hk1 hS => ?_)
    have c14 := hw
    obtain ⟨hP, hD⟩ := wd_post hFc ht hB
    generalize H1 = H at hP hS ⊢
    obtain rfl : r13 = f_X12_in x2.toInt64 (6 : Int64) (200 : Int64) := c14
    have i15 := i64_i x2
    have i16 := in_rng x2.toInt64 (6 : Int64) (200 : Int64)
    refine lv_if_eq (tgt := 45) hx hb dX12_inStep_25 (by decide) (fun c17 => ?_) (fun c17 => ?_)
    · have c17i : (f_X12_in x2.toInt64 (6 : Int64) (200 : Int64)).toInt = 0 := eq_v rfl rfl c17
      refine lv_aload_n hx hb dX12_inStep_45 rfl (lv_at hl 0 rfl) ?_
      refine lv_iconst (v := 1) hx hb dX12_inStep_46 (by decide) ?_
      have l32_1 : (1 : Int32).toInt = 1 := rfl
      have hFc := free_all hD hS hA
      obtain ⟨k18, gk18, hk18⟩ := wGt (cy := cy) X S h_o1.1 h_o1.2.1
      refine va_calli (va_runV (As := [.int (1 : Int32)]) (rest := []) ⟨hx, hb, hml, hown, hts⟩ (c_X12_refuses l (cy := cy) (X := X) (D := D) S _ o1 h_o1 (1 : Int32) (hW)) (cwV 1 hts gX12_inStep_X12_refuses rfl rfl rfl hd_X12_refuses ⟨Nat.le_of_ble_eq_true rfl, Nat.le_of_ble_eq_true rfl⟩) ⟨fun a U g mk q => ⟨q.1, q.2.1, q.2.2.1.calling, NW.same (u := U) (U := U.calling g mk a) rfl q.2.2.2⟩, va_recv hK hP (q := (RX12, TX12, 34)) (ci := 16) (q0 := k18) rfl hk18, fun U hU hW => ⟨rfl, by rw [hU], wd_pre hP hK hD hU hW, hN.warm hW⟩⟩ rfl rfl hl.1 rfl (lv_room (Nat.le_of_ble_eq_true rfl)) dX12_inStep_47 ⟨(Nat.zero_le _), (Nat.zero_le _)⟩) hS (fun q _ h => hFc q h) hFc (fun r19 u t H1 locs ht hvm hw hB hz1 hk1 hS => ?_)
      obtain ⟨w20, y21⟩ := hw
      obtain ⟨hP, hD⟩ := wd_post hFc ht hB
      generalize H1 = H at hP hS ⊢
      obtain ⟨S22, rfl⟩ : ∃ z, z = u := ⟨_, rfl⟩
      have t23 : stp [(12, 15)] [] [] S S22 := t0.tr w20 (by decide) (fun _ q => absurd q List.not_mem_nil)
      have xe24 : ext S S22 := w20.x
      refine W.widen (k := 0) (n := 0) (Nat.le_of_ble_eq_true rfl) (Nat.le_of_ble_eq_true rfl) ?_
      exact W.zret (v := r19) hx hb hr (y21) (fun t ht hW9 => ⟨⟨r19, S22, rfl, ⟨t23, (y21)⟩, wd_end hP hK hD ht hW9.alike⟩, hS.F ht⟩) hS.2.2 dX12_inStep_50 hlocks
    · have c17i : ¬ (f_X12_in x2.toInt64 (6 : Int64) (200 : Int64)).toInt = 0 := neq_v rfl rfl c17
      refine lv_iload_n hx hb dX12_inStep_28 rfl (lv_at hl 3 rfl) ?_
      refine lv_if_lt (tgt := 45) hx hb dX12_inStep_29 (by decide) (fun c25 => ?_) (fun c25 => ?_)
      · have c25i : x3.toInt < 0 := lt_v rfl rfl c25
        refine lv_aload_n hx hb dX12_inStep_45 rfl (lv_at hl 0 rfl) ?_
        refine lv_iconst (v := 1) hx hb dX12_inStep_46 (by decide) ?_
        have l32_1 : (1 : Int32).toInt = 1 := rfl
        have hFc := free_all hD hS hA
        obtain ⟨k26, gk26, hk26⟩ := wGt (cy := cy) X S h_o1.1 h_o1.2.1
        refine va_calli (va_runV (As := [.int (1 : Int32)]) (rest := []) ⟨hx, hb, hml, hown, hts⟩ (c_X12_refuses l (cy := cy) (X := X) (D := D) S _ o1 h_o1 (1 : Int32) (hW)) (cwV 1 hts gX12_inStep_X12_refuses rfl rfl rfl hd_X12_refuses ⟨Nat.le_of_ble_eq_true rfl, Nat.le_of_ble_eq_true rfl⟩) ⟨fun a U g mk q => ⟨q.1, q.2.1, q.2.2.1.calling, NW.same (u := U) (U := U.calling g mk a) rfl q.2.2.2⟩, va_recv hK hP (q := (RX12, TX12, 34)) (ci := 16) (q0 := k26) rfl hk26, fun U hU hW => ⟨rfl, by rw [hU], wd_pre hP hK hD hU hW, hN.warm hW⟩⟩ rfl rfl hl.1 rfl (lv_room (Nat.le_of_ble_eq_true rfl)) dX12_inStep_47 ⟨(Nat.zero_le _), (Nat.zero_le _)⟩) hS (fun q _ h => hFc q h) hFc (fun r27 u t H1 locs ht hvm hw hB hz1 hk1 hS => ?_)
        obtain ⟨w28, y29⟩ := hw
        obtain ⟨hP, hD⟩ := wd_post hFc ht hB
        generalize H1 = H at hP hS ⊢
        obtain ⟨S30, rfl⟩ : ∃ z, z = u := ⟨_, rfl⟩
        have t31 : stp [(12, 15)] [] [] S S30 := t0.tr w28 (by decide) (fun _ q => absurd q List.not_mem_nil)
        have xe32 : ext S S30 := w28.x
        refine W.widen (k := 0) (n := 0) (Nat.le_of_ble_eq_true rfl) (Nat.le_of_ble_eq_true rfl) ?_
        exact W.zret (v := r27) hx hb hr (y29) (fun t ht hW9 => ⟨⟨r27, S30, rfl, ⟨t31, (y29)⟩, wd_end hP hK hD ht hW9.alike⟩, hS.F ht⟩) hS.2.2 dX12_inStep_50 hlocks
      · have c25i : 0 ≤ x3.toInt := nlt_v rfl rfl c25
        refine lv_iload hx hb dX12_inStep_32 (lv_at hl 4 rfl) ?_
        refine lv_i2l hx hb dX12_inStep_34 rfl ?_
        refine lv_lconst (v := 1) hx hb dX12_inStep_35 (by decide) ?_
        refine lv_ldc2 (own := RX12) (v := 9999) hx hb hown (hts (.constantLong RX12 249 (9999)) (by decide +kernel)) dX12_inStep_36 ?_
        have hFc := free_all hD hS hA
        refine va_calli (va_runS (As := [.long x4.toInt64, .long (1 : Int64), .long (9999 : Int64)]) (rest := []) ⟨hx, hb, hml, hown, hts⟩ (c_X12_in l (cy := cy) (X := X) (D := D) S _ x4.toInt64 (1 : Int64) (9999 : Int64)) (cwS 3 hts gX12_inStep_X12_in rfl rfl rfl hd_X12_in ⟨Nat.le_of_ble_eq_true rfl, Nat.le_of_ble_eq_true rfl⟩) ⟨fun a U g mk q => ⟨q.1, q.2.1, q.2.2.1.calling, NW.same (u := U) (U := U.calling g mk a) rfl q.2.2.2⟩, fun U hU hW => ⟨rfl, by rw [hU], wd_pre hP hK hD hU hW, hN.warm hW⟩⟩ rfl rfl hl.1 rfl (lv_room (Nat.le_of_ble_eq_true rfl)) dX12_inStep_39 ⟨(Nat.zero_le _), (Nat.zero_le _)⟩) hS (fun q _ h => hFc q h) hFc (fun r33 u t H1 locs ht hvm hw hB hz1 hk1 hS => ?_)
        have c34 := hw
        obtain ⟨hP, hD⟩ := wd_post hFc ht hB
        generalize H1 = H at hP hS ⊢
        obtain rfl : r33 = f_X12_in x4.toInt64 (1 : Int64) (9999 : Int64) := c34
        have i35 := i64_i x4
        have l64_1 : (1 : Int64).toInt = 1 := rfl
        have l64_9999 : (9999 : Int64).toInt = 9999 := rfl
        have i36 := in_rng x4.toInt64 (1 : Int64) (9999 : Int64)
        refine lv_if_ne (tgt := 51) hx hb dX12_inStep_42 (by decide) (fun c37 => ?_) (fun c37 => ?_)
        · have c37i : ¬ (f_X12_in x4.toInt64 (1 : Int64) (9999 : Int64)).toInt = 0 := neq_v rfl rfl c37
          refine lv_iload_n hx hb dX12_inStep_51 rfl (lv_at hl 1 rfl) ?_
          refine lv_i2l hx hb dX12_inStep_52 rfl ?_
          refine lv_iload_n hx hb dX12_inStep_53 rfl (lv_at hl 2 rfl) ?_
          refine lv_i2l hx hb dX12_inStep_54 rfl ?_
          refine lv_lmul hx hb dX12_inStep_55 ?_
          refine lv_iload_n hx hb dX12_inStep_56 rfl (lv_at hl 1 rfl) ?_
          refine lv_iload_n hx hb dX12_inStep_57 rfl (lv_at hl 2 rfl) ?_
          have hFc := free_all hD hS hA
          refine va_calli (va_runS (As := [.int x1, .int x2]) (rest := [.long (x1.toInt64 * x2.toInt64)]) ⟨hx, hb, hml, hown, hts⟩ (c_X12_divisor_e8 l (cy := cy) (X := X) (D := D) S _ x1 x2 (by omega) (by omega) (by omega) (by omega)) (cwS 2 hts gX12_inStep_X12_divisor rfl rfl rfl hd_X12_divisor ⟨Nat.le_of_ble_eq_true rfl, Nat.le_of_ble_eq_true rfl⟩) ⟨fun a U g mk q => ⟨q.1, q.2.1, q.2.2.1.calling, NW.same (u := U) (U := U.calling g mk a) rfl q.2.2.2⟩, fun U hU hW => ⟨rfl, by rw [hU], wd_pre hP hK hD hU hW, hN.warm hW⟩⟩ rfl rfl hl.1 rfl (lv_room (Nat.le_of_ble_eq_true rfl)) dX12_inStep_58 ⟨(Nat.zero_le _), (Nat.zero_le _)⟩) hS (fun q _ h => hFc q h) hFc (fun r38 u t H1 locs ht hvm hw hB hz1 hk1 hS => ?_)
          have y39 := hw
          obtain ⟨hP, hD⟩ := wd_post hFc ht hB
          generalize H1 = H at hP hS ⊢
          refine lv_i2l hx hb dX12_inStep_61 rfl ?_
          refine lv_ldiv hx hb dX12_inStep_62 (nz_l (by omega)) ?_
          refine lv_lstore (lv' := [(5, .long ((x1.toInt64 * x2.toInt64) / r38.toInt64)), (0, .ref o1), (1, .int x1), (2, .int x2), (3, .int x3), (4, .int x4)]) hx hb dX12_inStep_63 hl (by decide) rfl (fun ls hl => ?_)
          refine lv_aload_n hx hb dX12_inStep_65 rfl (lv_at hl 1 rfl) ?_
          refine lv_lload hx hb dX12_inStep_66 (lv_at hl 0 rfl) ?_
          refine lv_iload_n hx hb dX12_inStep_68 rfl (lv_at hl 4 rfl) ?_
          refine lv_i2l hx hb dX12_inStep_69 rfl ?_
          refine lv_lmul hx hb dX12_inStep_70 ?_
          refine lv_iload hx hb dX12_inStep_71 (lv_at hl 5 rfl) ?_
          refine lv_i2l hx hb dX12_inStep_73 rfl ?_
          refine lv_lrem hx hb dX12_inStep_74 (nz_l (by omega)) ?_
          refine lv_lconst (v := 0) hx hb dX12_inStep_75 (by decide) ?_
          refine W.lcmp hx hb dX12_inStep_76 ?_
          refine lv_if_ne (tgt := 84) hx hb dX12_inStep_77 (by decide) (fun c40 => ?_) (fun c40 => ?_)
          · refine lv_iconst (v := 0) hx hb dX12_inStep_84 (by decide) ?_
            have l32_0 : (0 : Int32).toInt = 0 := rfl
            have hFc := free_all hD hS hA
            obtain ⟨k41, gk41, hk41⟩ := wGt (cy := cy) X S h_o1.1 h_o1.2.1
            refine va_calli (va_runV (As := [.int (0 : Int32)]) (rest := []) ⟨hx, hb, hml, hown, hts⟩ (c_X12_says l (cy := cy) (X := X) (D := D) S _ o1 h_o1 (0 : Int32) (hW) (by rfl)) (cwV 1 hts gX12_inStep_X12_says rfl rfl rfl hd_X12_says ⟨Nat.le_of_ble_eq_true rfl, Nat.le_of_ble_eq_true rfl⟩) ⟨fun a U g mk q => ⟨q.1, q.2.1, q.2.2.1.calling, NW.same (u := U) (U := U.calling g mk a) rfl q.2.2.2⟩, va_recv hK hP (q := (RX12, TX12, 34)) (ci := 16) (q0 := k41) rfl hk41, fun U hU hW => ⟨rfl, by rw [hU], wd_pre hP hK hD hU hW, hN.warm hW⟩⟩ rfl rfl hl.1 rfl (lv_room (Nat.le_of_ble_eq_true rfl)) dX12_inStep_85 ⟨(Nat.zero_le _), (Nat.zero_le _)⟩) hS (fun q _ h => hFc q h) hFc (fun r42 u t H1 locs ht hvm hw hB hz1 hk1 hS => ?_)
            obtain ⟨w43, y44⟩ := hw
            obtain ⟨hP, hD⟩ := wd_post hFc ht hB
            generalize H1 = H at hP hS ⊢
            obtain ⟨S45, rfl⟩ : ∃ z, z = u := ⟨_, rfl⟩
            have t46 : stp [(12, 15)] [] [] S S45 := t0.tr w43 (by decide) (fun _ q => absurd q List.not_mem_nil)
            have xe47 : ext S S45 := w43.x
            refine W.widen (k := 0) (n := 0) (Nat.le_of_ble_eq_true rfl) (Nat.le_of_ble_eq_true rfl) ?_
            exact W.zret (v := r42) hx hb hr (y44) (fun t ht hW9 => ⟨⟨r42, S45, rfl, ⟨t46, (y44)⟩, wd_end hP hK hD ht hW9.alike⟩, hS.F ht⟩) hS.2.2 dX12_inStep_88 hlocks
          · refine lv_iconst (v := 1) hx hb dX12_inStep_80 (by decide) ?_
            refine lv_goto (tgt := 85) hx hb dX12_inStep_81 (by decide) ?_
            have l32_1 : (1 : Int32).toInt = 1 := rfl
            have hFc := free_all hD hS hA
            obtain ⟨k48, gk48, hk48⟩ := wGt (cy := cy) X S h_o1.1 h_o1.2.1
            refine va_calli (va_runV (As := [.int (1 : Int32)]) (rest := []) ⟨hx, hb, hml, hown, hts⟩ (c_X12_says l (cy := cy) (X := X) (D := D) S _ o1 h_o1 (1 : Int32) (hW) (by rfl)) (cwV 1 hts gX12_inStep_X12_says rfl rfl rfl hd_X12_says ⟨Nat.le_of_ble_eq_true rfl, Nat.le_of_ble_eq_true rfl⟩) ⟨fun a U g mk q => ⟨q.1, q.2.1, q.2.2.1.calling, NW.same (u := U) (U := U.calling g mk a) rfl q.2.2.2⟩, va_recv hK hP (q := (RX12, TX12, 34)) (ci := 16) (q0 := k48) rfl hk48, fun U hU hW => ⟨rfl, by rw [hU], wd_pre hP hK hD hU hW, hN.warm hW⟩⟩ rfl rfl hl.1 rfl (lv_room (Nat.le_of_ble_eq_true rfl)) dX12_inStep_85 ⟨(Nat.zero_le _), (Nat.zero_le _)⟩) hS (fun q _ h => hFc q h) hFc (fun r49 u t H1 locs ht hvm hw hB hz1 hk1 hS => ?_)
            obtain ⟨w50, y51⟩ := hw
            obtain ⟨hP, hD⟩ := wd_post hFc ht hB
            generalize H1 = H at hP hS ⊢
            obtain ⟨S52, rfl⟩ : ∃ z, z = u := ⟨_, rfl⟩
            have t53 : stp [(12, 15)] [] [] S S52 := t0.tr w50 (by decide) (fun _ q => absurd q List.not_mem_nil)
            have xe54 : ext S S52 := w50.x
            refine W.widen (k := 0) (n := 0) (Nat.le_of_ble_eq_true rfl) (Nat.le_of_ble_eq_true rfl) ?_
            exact W.zret (v := r49) hx hb hr (y51) (fun t ht hW9 => ⟨⟨r49, S52, rfl, ⟨t53, (y51)⟩, wd_end hP hK hD ht hW9.alike⟩, hS.F ht⟩) hS.2.2 dX12_inStep_88 hlocks
        · have c37i : (f_X12_in x4.toInt64 (1 : Int64) (9999 : Int64)).toInt = 0 := eq_v rfl rfl c37
          refine lv_aload_n hx hb dX12_inStep_45 rfl (lv_at hl 0 rfl) ?_
          refine lv_iconst (v := 1) hx hb dX12_inStep_46 (by decide) ?_
          have l32_1 : (1 : Int32).toInt = 1 := rfl
          have hFc := free_all hD hS hA
          obtain ⟨k55, gk55, hk55⟩ := wGt (cy := cy) X S h_o1.1 h_o1.2.1
          refine va_calli (va_runV (As := [.int (1 : Int32)]) (rest := []) ⟨hx, hb, hml, hown, hts⟩ (c_X12_refuses l (cy := cy) (X := X) (D := D) S _ o1 h_o1 (1 : Int32) (hW)) (cwV 1 hts gX12_inStep_X12_refuses rfl rfl rfl hd_X12_refuses ⟨Nat.le_of_ble_eq_true rfl, Nat.le_of_ble_eq_true rfl⟩) ⟨fun a U g mk q => ⟨q.1, q.2.1, q.2.2.1.calling, NW.same (u := U) (U := U.calling g mk a) rfl q.2.2.2⟩, va_recv hK hP (q := (RX12, TX12, 34)) (ci := 16) (q0 := k55) rfl hk55, fun U hU hW => ⟨rfl, by rw [hU], wd_pre hP hK hD hU hW, hN.warm hW⟩⟩ rfl rfl hl.1 rfl (lv_room (Nat.le_of_ble_eq_true rfl)) dX12_inStep_47 ⟨(Nat.zero_le _), (Nat.zero_le _)⟩) hS (fun q _ h => hFc q h) hFc (fun r56 u t H1 locs ht hvm hw hB hz1 hk1 hS => ?_)
          obtain ⟨w57, y58⟩ := hw
          obtain ⟨hP, hD⟩ := wd_post hFc ht hB
          generalize H1 = H at hP hS ⊢
          obtain ⟨S59, rfl⟩ : ∃ z, z = u := ⟨_, rfl⟩
          have t60 : stp [(12, 15)] [] [] S S59 := t0.tr w57 (by decide) (fun _ q => absurd q List.not_mem_nil)
          have xe61 : ext S S59 := w57.x
          refine W.widen (k := 0) (n := 0) (Nat.le_of_ble_eq_true rfl) (Nat.le_of_ble_eq_true rfl) ?_
          exact W.zret (v := r56) hx hb hr (y58) (fun t ht hW9 => ⟨⟨r56, S59, rfl, ⟨t60, (y58)⟩, wd_end hP hK hD ht hW9.alike⟩, hS.F ht⟩) hS.2.2 dX12_inStep_50 hlocks
def f_X12_clock (S : wPS) (o1 : Nat) (x1 : Int32) (x2 : Int32) (x3 : Int32) : (Int32 × wPS) := if (f_X12_in x1.toInt64 (6 : Int64) (200 : Int64)) = (0 : Int32) then l2 (f_X12_fails S o1 (1 : Int32)) (fun r7 S10 => (r7, S10)) else if (f_X12_in x2.toInt64 (6 : Int64) (200 : Int64)) = (0 : Int32) then l2 (f_X12_fails S o1 (1 : Int32)) (fun r19 S22 => (r19, S22)) else if (f_X12_in x3.toInt64 (0 : Int64) ((x1 - (1 : Int32)).toInt64)) = (0 : Int32) then l2 (f_X12_fails S o1 (1 : Int32)) (fun r40 S43 => (r40, S43)) else l2 (f_X12_answer S o1 ((x1 - ((x3 * x2) - (x3 * x2) / x1 * x1)) - (x1 - ((x3 * x2) - (x3 * x2) / x1 * x1)) / x1 * x1)) (fun r33 S36 => (r33, S36))
theorem hd_X12_clock : yX12_clock.cls = RX12 ∧ yX12_clock.cls ≠ "java/lang/invoke/MethodHandle" ∧ yX12_clock.cls ≠ "java/lang/invoke/VarHandle" ∧ (parseMethodDescriptor yX12_clock.desc).map (fun d => d.parameters.length) = some 3 := by decide +kernel
set_option maxHeartbeats 4000000 in
set_option maxRecDepth 100000 in
theorem c_X12_clock (l : Launch) {D : va_G} {cy : Nat → ClassId} {X : va_W} (S : wPS) (sz : Nat) (o1 : Nat) (h_o1 : isA S o1 12) (x1 : Int32) (x2 : Int32) (x3 : Int32) (hW : wtB S [])  : Met l yX12_clock wsX12_clock ({ frames := 1, cells := 0, slots := 0, locals := 25 }) (va_Pc [.ref o1, .int x1, .int x2, .int x3] (fun U => U.heap.size = sz ∧ WD D cy X (fun _ => True) S U ∧ NW U)) (va_Qi (fun r (u : wPS) => (r, u) = f_X12_clock S o1 x1 x2 x3 ∧ stp [(12, 15)] [] [] S u) (fun u t => WD D cy X (va_A (X ++ PL cy S) sz) u t) (va_A (X ++ PL cy S) sz)) 0 0 (va_A (X ++ PL cy S) sz) := by
  refine Met.ofW (cc := cX12_clock) (maxL := 4) (ret := (some .int)) (by decide) rfl ?_
  intro p e s m args below meth c s₁ B hml hv
  obtain ⟨rfl, hsz, ⟨hP, hK, hD0⟩, hN⟩ := hv
  have hx := B.exec
  have hb := B.bytes
  have hr := B.returns
  have hts := atoms_spec (ws := wsX12_clock) B.pre
  have hown : s.vm.findClass RX12 = some m.cls := findClass_of_methodNamed (x := yX12_clock) B.named
  have hlocks := B.notSynchronized
  subst hsz
  have hD := hD0.self (sz := s.heap.size)
  generalize hAe : va_A (X ++ PL cy S) s.heap.size = A at hD ⊢
  have hA : ∀ q : Nat, s.heap.size ≤ q → A q := fun q h => by rw [← hAe]; exact Or.inr h
  have hS : va_S A s.heap s.heap [] := va_S.rf
  have hl := lv_entry ([.ref o1, .int x1, .int x2, .int x3]) (n := 4) (Nat.le_of_ble_eq_true rfl)
  rw [lg_entry_eq]
  generalize (lg_sl ([.ref o1, .int x1, .int x2, .int x3]) ++ List.replicate (4 - (lg_sl ([.ref o1, .int x1, .int x2, .int x3])).length) Slot.unset).toArray = ls at hl ⊢
  have hl : lv_has ls 4 [(0, .ref o1), (1, .int x1), (2, .int x2), (3, .int x3)] := hl
  have t0 : stp [(12, 15)] [] [] S S := stp.rf hW
  refine lv_iload_n hx hb dX12_clock_0 rfl (lv_at hl 1 rfl) ?_
  refine lv_i2l hx hb dX12_clock_1 rfl ?_
  refine lv_ldc2 (own := RX12) (v := 6) hx hb hown (hts (.constantLong RX12 129 (6)) (by decide +kernel)) dX12_clock_2 ?_
  refine lv_ldc2 (own := RX12) (v := 200) hx hb hown (hts (.constantLong RX12 131 (200)) (by decide +kernel)) dX12_clock_5 ?_
  have hFc := free_all hD hS hA
  refine va_calli (va_runS (As := [.long x1.toInt64, .long (6 : Int64), .long (200 : Int64)]) (rest := []) ⟨hx, hb, hml, hown, hts⟩ (c_X12_in l (cy := cy) (X := X) (D := D) S _ x1.toInt64 (6 : Int64) (200 : Int64)) (cwS 3 hts gX12_clock_X12_in rfl rfl rfl hd_X12_in ⟨Nat.le_of_ble_eq_true rfl, Nat.le_of_ble_eq_true rfl⟩) ⟨fun a U g mk q => ⟨q.1, q.2.1, q.2.2.1.calling, NW.same (u := U) (U := U.calling g mk a) rfl q.2.2.2⟩, fun U hU hW => ⟨rfl, by rw [hU], wd_pre hP hK hD hU hW, hN.warm hW⟩⟩ rfl rfl hl.1 rfl (lv_room (Nat.le_of_ble_eq_true rfl)) dX12_clock_8 ⟨(Nat.zero_le _), (Nat.zero_le _)⟩) hS (fun q _ h => hFc q h) hFc (fun r1 u t H1 locs ht hvm hw hB hz1 hk1 hS => ?_)
  have c2 := hw
  obtain ⟨hP, hD⟩ := wd_post hFc ht hB
  generalize H1 = H at hP hS ⊢
  obtain rfl : r1 = f_X12_in x1.toInt64 (6 : Int64) (200 : Int64) := c2
  have i3 := i64_i x1
  have l64_6 : (6 : Int64).toInt = 6 := rfl
  have l64_200 : (200 : Int64).toInt = 200 := rfl
  have i4 := in_rng x1.toInt64 (6 : Int64) (200 : Int64)
  refine lv_if_eq (tgt := 41) hx hb dX12_clock_11 (by decide) (fun c5 => ?_) (fun c5 => ?_)
  · have c5i : (f_X12_in x1.toInt64 (6 : Int64) (200 : Int64)).toInt = 0 := eq_v rfl rfl c5
    refine lv_aload_n hx hb dX12_clock_41 rfl (lv_at hl 0 rfl) ?_
    refine lv_iconst (v := 1) hx hb dX12_clock_42 (by decide) ?_
    have l32_1 : (1 : Int32).toInt = 1 := rfl
    have hFc := free_all hD hS hA
    obtain ⟨k6, gk6, hk6⟩ := wGt (cy := cy) X S h_o1.1 h_o1.2.1
    refine va_calli (va_runV (As := [.int (1 : Int32)]) (rest := []) ⟨hx, hb, hml, hown, hts⟩ (c_X12_fails l (cy := cy) (X := X) (D := D) S _ o1 h_o1 (1 : Int32) (hW)) (cwV 1 hts gX12_clock_X12_fails rfl rfl rfl hd_X12_fails ⟨Nat.le_of_ble_eq_true rfl, Nat.le_of_ble_eq_true rfl⟩) ⟨fun a U g mk q => ⟨q.1, q.2.1, q.2.2.1.calling, NW.same (u := U) (U := U.calling g mk a) rfl q.2.2.2⟩, va_recv hK hP (q := (RX12, TX12, 34)) (ci := 16) (q0 := k6) rfl hk6, fun U hU hW => ⟨rfl, by rw [hU], wd_pre hP hK hD hU hW, hN.warm hW⟩⟩ rfl rfl hl.1 rfl (lv_room (Nat.le_of_ble_eq_true rfl)) dX12_clock_43 ⟨(Nat.zero_le _), (Nat.zero_le _)⟩) hS (fun q _ h => hFc q h) hFc (fun r7 u t H1 locs ht hvm hw hB hz1 hk1 hS => ?_)
    obtain ⟨c8, w9⟩ := hw
    obtain ⟨hP, hD⟩ := wd_post hFc ht hB
    generalize H1 = H at hP hS ⊢
    obtain ⟨S10, rfl⟩ : ∃ z, z = u := ⟨_, rfl⟩
    have t11 : stp [(12, 15)] [] [] S S10 := t0.tr w9 (by decide) (fun _ q => absurd q List.not_mem_nil)
    have xe12 : ext S S10 := w9.x
    refine W.widen (k := 0) (n := 0) (Nat.le_of_ble_eq_true rfl) (Nat.le_of_ble_eq_true rfl) ?_
    exact W.iret (v := r7) hx hb hr (fun t ht hW9 => ⟨⟨r7, S10, rfl, ⟨(by show (r7, S10) = f_X12_clock S o1 x1 x2 x3; unfold f_X12_clock; rw [if_pos c5, l2_eq c8.symm]), t11⟩, wd_end hP hK hD ht hW9.alike⟩, hS.F ht⟩) hS.2.2 dX12_clock_46 hlocks
  · have c5i : ¬ (f_X12_in x1.toInt64 (6 : Int64) (200 : Int64)).toInt = 0 := neq_v rfl rfl c5
    refine lv_iload_n hx hb dX12_clock_14 rfl (lv_at hl 2 rfl) ?_
    refine lv_i2l hx hb dX12_clock_15 rfl ?_
    refine lv_ldc2 (own := RX12) (v := 6) hx hb hown (hts (.constantLong RX12 129 (6)) (by decide +kernel)) dX12_clock_16 ?_
    refine lv_ldc2 (own := RX12) (v := 200) hx hb hown (hts (.constantLong RX12 131 (200)) (by decide +kernel)) dX12_clock_19 ?_
    have hFc := free_all hD hS hA
    refine va_calli (va_runS (As := [.long x2.toInt64, .long (6 : Int64), .long (200 : Int64)]) (rest := []) ⟨hx, hb, hml, hown, hts⟩ (c_X12_in l (cy := cy) (X := X) (D := D) S _ x2.toInt64 (6 : Int64) (200 : Int64)) (cwS 3 hts gX12_clock_X12_in rfl rfl rfl hd_X12_in ⟨Nat.le_of_ble_eq_true rfl, Nat.le_of_ble_eq_true rfl⟩) ⟨fun a U g mk q => ⟨q.1, q.2.1, q.2.2.1.calling, NW.same (u := U) (U := U.calling g mk a) rfl q.2.2.2⟩, fun U hU hW => ⟨rfl, by rw [hU], wd_pre hP hK hD hU hW, hN.warm hW⟩⟩ rfl rfl hl.1 rfl (lv_room (Nat.le_of_ble_eq_true rfl)) dX12_clock_22 ⟨(Nat.zero_le _), (Nat.zero_le _)⟩) hS (fun q _ h => hFc q h) hFc (fun r13 u t H1 locs ht hvm hw hB hz1 hk1 hS => ?_)
    have c14 := hw
    obtain ⟨hP, hD⟩ := wd_post hFc ht hB
    generalize H1 = H at hP hS ⊢
    obtain rfl : r13 = f_X12_in x2.toInt64 (6 : Int64) (200 : Int64) := c14
    have i15 := i64_i x2
    have i16 := in_rng x2.toInt64 (6 : Int64) (200 : Int64)
    refine lv_if_eq (tgt := 41) hx hb dX12_clock_25 (by decide) (fun c17 => ?_) (fun c17 => ?_)
    · have c17i : (f_X12_in x2.toInt64 (6 : Int64) (200 : Int64)).toInt = 0 := eq_v rfl rfl c17
      refine lv_aload_n hx hb dX12_clock_41 rfl (lv_at hl 0 rfl) ?_
      refine lv_iconst (v := 1) hx hb dX12_clock_42 (by decide) ?_
      have l32_1 : (1 : Int32).toInt = 1 := rfl
      have hFc := free_all hD hS hA
      obtain ⟨k18, gk18, hk18⟩ := wGt (cy := cy) X S h_o1.1 h_o1.2.1
      refine va_calli (va_runV (As := [.int (1 : Int32)]) (rest := []) ⟨hx, hb, hml, hown, hts⟩ (c_X12_fails l (cy := cy) (X := X) (D := D) S _ o1 h_o1 (1 : Int32) (hW)) (cwV 1 hts gX12_clock_X12_fails rfl rfl rfl hd_X12_fails ⟨Nat.le_of_ble_eq_true rfl, Nat.le_of_ble_eq_true rfl⟩) ⟨fun a U g mk q => ⟨q.1, q.2.1, q.2.2.1.calling, NW.same (u := U) (U := U.calling g mk a) rfl q.2.2.2⟩, va_recv hK hP (q := (RX12, TX12, 34)) (ci := 16) (q0 := k18) rfl hk18, fun U hU hW => ⟨rfl, by rw [hU], wd_pre hP hK hD hU hW, hN.warm hW⟩⟩ rfl rfl hl.1 rfl (lv_room (Nat.le_of_ble_eq_true rfl)) dX12_clock_43 ⟨(Nat.zero_le _), (Nat.zero_le _)⟩) hS (fun q _ h => hFc q h) hFc (fun r19 u t H1 locs ht hvm hw hB hz1 hk1 hS => ?_)
      obtain ⟨c20, w21⟩ := hw
      obtain ⟨hP, hD⟩ := wd_post hFc ht hB
      generalize H1 = H at hP hS ⊢
      obtain ⟨S22, rfl⟩ : ∃ z, z = u := ⟨_, rfl⟩
      have t23 : stp [(12, 15)] [] [] S S22 := t0.tr w21 (by decide) (fun _ q => absurd q List.not_mem_nil)
      have xe24 : ext S S22 := w21.x
      refine W.widen (k := 0) (n := 0) (Nat.le_of_ble_eq_true rfl) (Nat.le_of_ble_eq_true rfl) ?_
      exact W.iret (v := r19) hx hb hr (fun t ht hW9 => ⟨⟨r19, S22, rfl, ⟨(by show (r19, S22) = f_X12_clock S o1 x1 x2 x3; unfold f_X12_clock; rw [if_neg c5, if_pos c17, l2_eq c20.symm]), t23⟩, wd_end hP hK hD ht hW9.alike⟩, hS.F ht⟩) hS.2.2 dX12_clock_46 hlocks
    · have c17i : ¬ (f_X12_in x2.toInt64 (6 : Int64) (200 : Int64)).toInt = 0 := neq_v rfl rfl c17
      refine lv_iload_n hx hb dX12_clock_28 rfl (lv_at hl 3 rfl) ?_
      refine lv_i2l hx hb dX12_clock_29 rfl ?_
      refine lv_lconst (v := 0) hx hb dX12_clock_30 (by decide) ?_
      refine lv_iload_n hx hb dX12_clock_31 rfl (lv_at hl 1 rfl) ?_
      refine lv_iconst (v := 1) hx hb dX12_clock_32 (by decide) ?_
      refine lv_isub hx hb dX12_clock_33 ?_
      refine lv_i2l hx hb dX12_clock_34 rfl ?_
      have hFc := free_all hD hS hA
      refine va_calli (va_runS (As := [.long x3.toInt64, .long (0 : Int64), .long ((x1 - (1 : Int32)).toInt64)]) (rest := []) ⟨hx, hb, hml, hown, hts⟩ (c_X12_in l (cy := cy) (X := X) (D := D) S _ x3.toInt64 (0 : Int64) ((x1 - (1 : Int32)).toInt64)) (cwS 3 hts gX12_clock_X12_in rfl rfl rfl hd_X12_in ⟨Nat.le_of_ble_eq_true rfl, Nat.le_of_ble_eq_true rfl⟩) ⟨fun a U g mk q => ⟨q.1, q.2.1, q.2.2.1.calling, NW.same (u := U) (U := U.calling g mk a) rfl q.2.2.2⟩, fun U hU hW => ⟨rfl, by rw [hU], wd_pre hP hK hD hU hW, hN.warm hW⟩⟩ rfl rfl hl.1 rfl (lv_room (Nat.le_of_ble_eq_true rfl)) dX12_clock_35 ⟨(Nat.zero_le _), (Nat.zero_le _)⟩) hS (fun q _ h => hFc q h) hFc (fun r25 u t H1 locs ht hvm hw hB hz1 hk1 hS => ?_)
      have c26 := hw
      obtain ⟨hP, hD⟩ := wd_post hFc ht hB
      generalize H1 = H at hP hS ⊢
      obtain rfl : r25 = f_X12_in x3.toInt64 (0 : Int64) ((x1 - (1 : Int32)).toInt64) := c26
      have i27 := i64_i x3
      have l64_0 : (0 : Int64).toInt = 0 := rfl
      have l32_1 : (1 : Int32).toInt = 1 := rfl
      have i28 : (x1 - (1 : Int32)).toInt = x1.toInt - 1 := t_subr (n := 1) rfl (by omega)
      have i29 := i64_i (x1 - (1 : Int32))
      have i30 := in_rng x3.toInt64 (0 : Int64) ((x1 - (1 : Int32)).toInt64)
      refine lv_if_ne (tgt := 47) hx hb dX12_clock_38 (by decide) (fun c31 => ?_) (fun c31 => ?_)
      · have c31i : ¬ (f_X12_in x3.toInt64 (0 : Int64) ((x1 - (1 : Int32)).toInt64)).toInt = 0 := neq_v rfl rfl c31
        refine lv_aload_n hx hb dX12_clock_47 rfl (lv_at hl 0 rfl) ?_
        refine lv_iload_n hx hb dX12_clock_48 rfl (lv_at hl 1 rfl) ?_
        refine lv_iload_n hx hb dX12_clock_49 rfl (lv_at hl 3 rfl) ?_
        refine lv_iload_n hx hb dX12_clock_50 rfl (lv_at hl 2 rfl) ?_
        refine lv_imul hx hb dX12_clock_51 ?_
        refine lv_iload_n hx hb dX12_clock_52 rfl (lv_at hl 1 rfl) ?_
        refine lv_irem hx hb dX12_clock_53 (nz_i (by omega)) ?_
        refine lv_isub hx hb dX12_clock_54 ?_
        refine lv_iload_n hx hb dX12_clock_55 rfl (lv_at hl 1 rfl) ?_
        refine lv_irem hx hb dX12_clock_56 (nz_i (by omega)) ?_
        have hFc := free_all hD hS hA
        obtain ⟨k32, gk32, hk32⟩ := wGt (cy := cy) X S h_o1.1 h_o1.2.1
        refine va_calli (va_runV (As := [.int ((x1 - ((x3 * x2) - (x3 * x2) / x1 * x1)) - (x1 - ((x3 * x2) - (x3 * x2) / x1 * x1)) / x1 * x1)]) (rest := []) ⟨hx, hb, hml, hown, hts⟩ (c_X12_answer l (cy := cy) (X := X) (D := D) S _ o1 h_o1 ((x1 - ((x3 * x2) - (x3 * x2) / x1 * x1)) - (x1 - ((x3 * x2) - (x3 * x2) / x1 * x1)) / x1 * x1) (hW)) (cwV 1 hts gX12_clock_X12_answer rfl rfl rfl hd_X12_answer ⟨Nat.le_of_ble_eq_true rfl, Nat.le_of_ble_eq_true rfl⟩) ⟨fun a U g mk q => ⟨q.1, q.2.1, q.2.2.1.calling, NW.same (u := U) (U := U.calling g mk a) rfl q.2.2.2⟩, va_recv hK hP (q := (RX12, TX12, 34)) (ci := 16) (q0 := k32) rfl hk32, fun U hU hW => ⟨rfl, by rw [hU], wd_pre hP hK hD hU hW, hN.warm hW⟩⟩ rfl rfl hl.1 rfl (lv_room (Nat.le_of_ble_eq_true rfl)) dX12_clock_57 ⟨(Nat.zero_le _), (Nat.zero_le _)⟩) hS (fun q _ h => hFc q h) hFc (fun r33 u t H1 locs ht hvm hw hB hz1 hk1 hS => ?_)
        obtain ⟨c34, w35⟩ := hw
        obtain ⟨hP, hD⟩ := wd_post hFc ht hB
        generalize H1 = H at hP hS ⊢
        obtain ⟨S36, rfl⟩ : ∃ z, z = u := ⟨_, rfl⟩
        have t37 : stp [(12, 15)] [] [] S S36 := t0.tr w35 (by decide) (fun _ q => absurd q List.not_mem_nil)
        have xe38 : ext S S36 := w35.x
        refine W.widen (k := 0) (n := 0) (Nat.le_of_ble_eq_true rfl) (Nat.le_of_ble_eq_true rfl) ?_
        exact W.iret (v := r33) hx hb hr (fun t ht hW9 => ⟨⟨r33, S36, rfl, ⟨(by show (r33, S36) = f_X12_clock S o1 x1 x2 x3; unfold f_X12_clock; rw [if_neg c5, if_neg c17, if_neg c31, l2_eq c34.symm]), t37⟩, wd_end hP hK hD ht hW9.alike⟩, hS.F ht⟩) hS.2.2 dX12_clock_60 hlocks
      · have c31i : (f_X12_in x3.toInt64 (0 : Int64) ((x1 - (1 : Int32)).toInt64)).toInt = 0 := eq_v rfl rfl c31
        refine lv_aload_n hx hb dX12_clock_41 rfl (lv_at hl 0 rfl) ?_
        refine lv_iconst (v := 1) hx hb dX12_clock_42 (by decide) ?_
        have hFc := free_all hD hS hA
        obtain ⟨k39, gk39, hk39⟩ := wGt (cy := cy) X S h_o1.1 h_o1.2.1
        refine va_calli (va_runV (As := [.int (1 : Int32)]) (rest := []) ⟨hx, hb, hml, hown, hts⟩ (c_X12_fails l (cy := cy) (X := X) (D := D) S _ o1 h_o1 (1 : Int32) (hW)) (cwV 1 hts gX12_clock_X12_fails rfl rfl rfl hd_X12_fails ⟨Nat.le_of_ble_eq_true rfl, Nat.le_of_ble_eq_true rfl⟩) ⟨fun a U g mk q => ⟨q.1, q.2.1, q.2.2.1.calling, NW.same (u := U) (U := U.calling g mk a) rfl q.2.2.2⟩, va_recv hK hP (q := (RX12, TX12, 34)) (ci := 16) (q0 := k39) rfl hk39, fun U hU hW => ⟨rfl, by rw [hU], wd_pre hP hK hD hU hW, hN.warm hW⟩⟩ rfl rfl hl.1 rfl (lv_room (Nat.le_of_ble_eq_true rfl)) dX12_clock_43 ⟨(Nat.zero_le _), (Nat.zero_le _)⟩) hS (fun q _ h => hFc q h) hFc (fun r40 u t H1 locs ht hvm hw hB hz1 hk1 hS => ?_)
        obtain ⟨c41, w42⟩ := hw
        obtain ⟨hP, hD⟩ := wd_post hFc ht hB
        generalize H1 = H at hP hS ⊢
        obtain ⟨S43, rfl⟩ : ∃ z, z = u := ⟨_, rfl⟩
        have t44 : stp [(12, 15)] [] [] S S43 := t0.tr w42 (by decide) (fun _ q => absurd q List.not_mem_nil)
        have xe45 : ext S S43 := w42.x
        refine W.widen (k := 0) (n := 0) (Nat.le_of_ble_eq_true rfl) (Nat.le_of_ble_eq_true rfl) ?_
        exact W.iret (v := r40) hx hb hr (fun t ht hW9 => ⟨⟨r40, S43, rfl, ⟨(by show (r40, S43) = f_X12_clock S o1 x1 x2 x3; unfold f_X12_clock; rw [if_neg c5, if_neg c17, if_pos c31, l2_eq c41.symm]), t44⟩, wd_end hP hK hD ht hW9.alike⟩, hS.F ht⟩) hS.2.2 dX12_clock_46 hlocks
theorem hd_X12_harden : yX12_harden.cls = RX12 ∧ yX12_harden.cls ≠ "java/lang/invoke/MethodHandle" ∧ yX12_harden.cls ≠ "java/lang/invoke/VarHandle" ∧ (parseMethodDescriptor yX12_harden.desc).map (fun d => d.parameters.length) = some 3 := by decide +kernel
set_option maxHeartbeats 4000000 in
set_option maxRecDepth 100000 in
theorem c_X12_harden (l : Launch) {D : va_G} {cy : Nat → ClassId} {X : va_W} (S : wPS) (sz : Nat) (o1 : Nat) (h_o1 : isA S o1 12) (x1 : Int32) (x2 : Int32) (x3 : Int32) (hW : wtB S [])  : Met l yX12_harden wsX12_harden ({ frames := 4, cells := 0, slots := 0, locals := 85 }) (va_Pc [.ref o1, .int x1, .int x2, .int x3] (fun U => U.heap.size = sz ∧ WD D cy X (fun _ => True) S U ∧ NW U)) (va_Qi (fun r (u : wPS) => stp [(10, 12), (10, 14), (10, 15), (10, 19), (12, 15)] [] [] S u) (fun u t => WD D cy X (va_A (X ++ PL cy S) sz) u t) (va_A (X ++ PL cy S) sz)) 0 0 (va_A (X ++ PL cy S) sz) := by
  refine Met.ofW (cc := cX12_harden) (maxL := 7) (ret := (some .int)) (by decide) rfl ?_
  intro p e s m args below meth c s₁ B hml hv
  obtain ⟨rfl, hsz, ⟨hP, hK, hD0⟩, hN⟩ := hv
  have hx := B.exec
  have hb := B.bytes
  have hr := B.returns
  have hts := atoms_spec (ws := wsX12_harden) B.pre
  have hown : s.vm.findClass RX12 = some m.cls := findClass_of_methodNamed (x := yX12_harden) B.named
  have hlocks := B.notSynchronized
  subst hsz
  have hD := hD0.self (sz := s.heap.size)
  generalize hAe : va_A (X ++ PL cy S) s.heap.size = A at hD ⊢
  have hA : ∀ q : Nat, s.heap.size ≤ q → A q := fun q h => by rw [← hAe]; exact Or.inr h
  have hS : va_S A s.heap s.heap [] := va_S.rf
  have hl := lv_entry ([.ref o1, .int x1, .int x2, .int x3]) (n := 7) (Nat.le_of_ble_eq_true rfl)
  rw [lg_entry_eq]
  generalize (lg_sl ([.ref o1, .int x1, .int x2, .int x3]) ++ List.replicate (7 - (lg_sl ([.ref o1, .int x1, .int x2, .int x3])).length) Slot.unset).toArray = ls at hl ⊢
  have hl : lv_has ls 7 [(0, .ref o1), (1, .int x1), (2, .int x2), (3, .int x3)] := hl
  have t0 : stp [(10, 12), (10, 14), (10, 15), (10, 19), (12, 15)] [] [] S S := stp.rf hW
  refine lv_aload_n hx hb dX12_harden_0 rfl (lv_at hl 0 rfl) ?_
  refine lv_iload_n hx hb dX12_harden_1 rfl (lv_at hl 1 rfl) ?_
  have hFc := free_all hD hS hA
  obtain ⟨k1, gk1, hk1⟩ := wGt (cy := cy) X S h_o1.1 h_o1.2.1
  refine va_calli (va_runV (As := [.int x1]) (rest := []) ⟨hx, hb, hml, hown, hts⟩ (c_X12_isGear l (cy := cy) (X := X) (D := D) S _ o1 h_o1 x1 (hW)) (cwV 1 hts gX12_harden_X12_isGear rfl rfl rfl hd_X12_isGear ⟨Nat.le_of_ble_eq_true rfl, Nat.le_of_ble_eq_true rfl⟩) ⟨fun a U g mk q => ⟨q.1, q.2.1, q.2.2.1.calling, NW.same (u := U) (U := U.calling g mk a) rfl q.2.2.2⟩, va_recv hK hP (q := (RX12, TX12, 34)) (ci := 16) (q0 := k1) rfl hk1, fun U hU hW => ⟨rfl, by rw [hU], wd_pre hP hK hD hU hW, hN.warm hW⟩⟩ rfl rfl hl.1 rfl (lv_room (Nat.le_of_ble_eq_true rfl)) dX12_harden_2 ⟨(Nat.zero_le _), (Nat.zero_le _)⟩) hS (fun q _ h => hFc q h) hFc (fun r2 u t H1 locs ht hvm hw hB hz1 hk1 hS => ?_)
  have c3 := hw
  obtain ⟨hP, hD⟩ := wd_post hFc ht hB
  generalize H1 = H at hP hS ⊢
  obtain rfl : r2 = f_X12_isGear S o1 x1 := c3
  have F4 := ((hW.at h_o1 List.not_mem_nil).to_12 h_o1.2.1).F0
  have i5 : (f_X12_isGear S o1 x1).toInt = 0 ∨ (0 ≤ x1.toInt ∧ x1.toInt < (S.I (S.f o1 0) 2).toInt) := by have h9 := ig_rng x1 ((hW.at h_o1 List.not_mem_nil).to_12 h_o1.2.1) hW; rw [f_of F4.1] at h9; exact h9
  refine lv_if_ne (tgt := 14) hx hb dX12_harden_5 (by decide) (fun c6 => ?_) (fun c6 => ?_)
  · have c6i : ¬ (f_X12_isGear S o1 x1).toInt = 0 := neq_v rfl rfl c6
    refine lv_iload_n hx hb dX12_harden_14 rfl (lv_at hl 2 rfl) ?_
    refine lv_i2l hx hb dX12_harden_15 rfl ?_
    refine lv_lconst (v := 1) hx hb dX12_harden_16 (by decide) ?_
    refine lv_ldc2 (own := RX12) (v := 99) hx hb hown (hts (.constantLong RX12 312 (99)) (by decide +kernel)) dX12_harden_17 ?_
    have hFc := free_all hD hS hA
    refine va_calli (va_runS (As := [.long x2.toInt64, .long (1 : Int64), .long (99 : Int64)]) (rest := []) ⟨hx, hb, hml, hown, hts⟩ (c_X12_in l (cy := cy) (X := X) (D := D) S _ x2.toInt64 (1 : Int64) (99 : Int64)) (cwS 3 hts gX12_harden_X12_in rfl rfl rfl hd_X12_in ⟨Nat.le_of_ble_eq_true rfl, Nat.le_of_ble_eq_true rfl⟩) ⟨fun a U g mk q => ⟨q.1, q.2.1, q.2.2.1.calling, NW.same (u := U) (U := U.calling g mk a) rfl q.2.2.2⟩, fun U hU hW => ⟨rfl, by rw [hU], wd_pre hP hK hD hU hW, hN.warm hW⟩⟩ rfl rfl hl.1 rfl (lv_room (Nat.le_of_ble_eq_true rfl)) dX12_harden_20 ⟨(Nat.zero_le _), (Nat.zero_le _)⟩) hS (fun q _ h => hFc q h) hFc (fun r7 u t H1 locs ht hvm hw hB hz1 hk1 hS => ?_)
    have c8 := hw
    obtain ⟨hP, hD⟩ := wd_post hFc ht hB
    generalize H1 = H at hP hS ⊢
    obtain rfl : r7 = f_X12_in x2.toInt64 (1 : Int64) (99 : Int64) := c8
    have i9 := i64_i x2
    have l64_1 : (1 : Int64).toInt = 1 := rfl
    have l64_99 : (99 : Int64).toInt = 99 := rfl
    have i10 := in_rng x2.toInt64 (1 : Int64) (99 : Int64)
    refine lv_if_ne (tgt := 32) hx hb dX12_harden_23 (by decide) (fun c11 => ?_) (fun c11 => ?_)
    · have c11i : ¬ (f_X12_in x2.toInt64 (1 : Int64) (99 : Int64)).toInt = 0 := neq_v rfl rfl c11
      refine lv_aload_n hx hb dX12_harden_32 rfl (lv_at hl 0 rfl) ?_
      refine lv_iload_n hx hb dX12_harden_33 rfl (lv_at hl 1 rfl) ?_
      have hFc := free_all hD hS hA
      obtain ⟨k12, gk12, hk12⟩ := wGt (cy := cy) X S h_o1.1 h_o1.2.1
      refine va_callq (va_runV (As := [.int x1]) (rest := []) ⟨hx, hb, hml, hown, hts⟩ (c_X12_gearAt l (cy := cy) (X := X) (D := D) S _ o1 h_o1 x1 (hW) (by rw [f_of F4.1]; omega)) (cwV 1 hts gX12_harden_X12_gearAt rfl rfl rfl hd_X12_gearAt ⟨Nat.le_of_ble_eq_true rfl, Nat.le_of_ble_eq_true rfl⟩) ⟨fun a U g mk q => ⟨q.1, q.2.1, q.2.2.1.calling, NW.same (u := U) (U := U.calling g mk a) rfl q.2.2.2⟩, va_recv hK hP (q := (RX12, TX12, 34)) (ci := 16) (q0 := k12) rfl hk12, fun U hU hW => ⟨rfl, by rw [hU], wd_pre hP hK hD hU hW, hN.warm hW⟩⟩ rfl rfl hl.1 rfl (lv_room (Nat.le_of_ble_eq_true rfl)) dX12_harden_34 ⟨(Nat.zero_le _), (Nat.zero_le _)⟩) hS (fun q _ h => hFc q h) hFc (fun r13 u t H1 locs ht hvm hw hB hz1 hk1 hS => ?_)
      obtain ⟨r13, rfl, o14⟩ := hw
      obtain ⟨hP, hD⟩ := wd_post hFc ht hB
      generalize H1 = H at hP hS ⊢
      refine W.eq (g2 := F0 m 37 ls [.ref r13]) rfl ?_
      refine lv_astore (lv' := [(4, .ref r13), (0, .ref o1), (1, .int x1), (2, .int x2), (3, .int x3)]) hx hb dX12_harden_37 hl (by decide) rfl (fun ls hl => ?_)
      refine lv_aload hx hb dX12_harden_39 (lv_at hl 0 rfl) ?_
      obtain ⟨k15, gk15, hk15⟩ := wGt (cy := cy) X S o14.1 o14.2.1
      have i16 := ((hW.at o14 List.not_mem_nil).to_10 o14.2.1).R18
      refine va_getN (D := D) (ci := 14) (v := .int (S.I r13 18)) (C := RX10) (T := TX10) (N := 23) hx hb hts (by decide +kernel) hown hK hP k15 hk15 rfl 18 (by decide) (va_Nw.use rfl (hN (.fieldLinkNest RX12 160 "HobhouseModel$Gear" "isCut" "Z" "HobhouseModel") (by decide +kernel))) (fun _ h9 => h9) rfl dX12_harden_41 ?_
      refine lv_if_eq (tgt := 71) hx hb dX12_harden_44 (by decide) (fun c17 => ?_) (fun c17 => ?_)
      · have c17i : (S.I r13 18).toInt = 0 := eq_v rfl rfl c17
        refine lv_aload_n hx hb dX12_harden_71 rfl (lv_at hl 1 rfl) ?_
        refine lv_iconst (v := 3) hx hb dX12_harden_72 (by decide) ?_
        have l32_3 : (3 : Int32).toInt = 3 := rfl
        have hFc := free_all hD hS hA
        obtain ⟨k18, gk18, hk18⟩ := wGt (cy := cy) X S h_o1.1 h_o1.2.1
        refine va_calli (va_runV (As := [.int (3 : Int32)]) (rest := []) ⟨hx, hb, hml, hown, hts⟩ (c_X12_fails l (cy := cy) (X := X) (D := D) S _ o1 h_o1 (3 : Int32) (hW)) (cwV 1 hts gX12_harden_X12_fails rfl rfl rfl hd_X12_fails ⟨Nat.le_of_ble_eq_true rfl, Nat.le_of_ble_eq_true rfl⟩) ⟨fun a U g mk q => ⟨q.1, q.2.1, q.2.2.1.calling, NW.same (u := U) (U := U.calling g mk a) rfl q.2.2.2⟩, va_recv hK hP (q := (RX12, TX12, 34)) (ci := 16) (q0 := k18) rfl hk18, fun U hU hW => ⟨rfl, by rw [hU], wd_pre hP hK hD hU hW, hN.warm hW⟩⟩ rfl rfl hl.1 rfl (lv_room (Nat.le_of_ble_eq_true rfl)) dX12_harden_73 ⟨(Nat.zero_le _), (Nat.zero_le _)⟩) hS (fun q _ h => hFc q h) hFc (fun r19 u t H1 locs ht hvm hw hB hz1 hk1 hS => ?_)
        obtain ⟨c20, w21⟩ := hw
        obtain ⟨hP, hD⟩ := wd_post hFc ht hB
        generalize H1 = H at hP hS ⊢
        obtain ⟨S22, rfl⟩ : ∃ z, z = u := ⟨_, rfl⟩
        have t23 : stp [(10, 12), (10, 14), (10, 15), (10, 19), (12, 15)] [] [] S S22 := t0.tr w21 (by decide) (fun _ q => absurd q List.not_mem_nil)
        have xe24 : ext S S22 := w21.x
        refine W.widen (k := 0) (n := 0) (Nat.le_of_ble_eq_true rfl) (Nat.le_of_ble_eq_true rfl) ?_
        exact W.iret (v := r19) hx hb hr (fun t ht hW9 => ⟨⟨r19, S22, rfl, t23, wd_end hP hK hD ht hW9.alike⟩, hS.F ht⟩) hS.2.2 dX12_harden_76 hlocks
      · have c17i : ¬ (S.I r13 18).toInt = 0 := neq_v rfl rfl c17
        refine lv_aload hx hb dX12_harden_47 (lv_at hl 0 rfl) ?_
        obtain ⟨k25, gk25, hk25⟩ := wGt (cy := cy) X S o14.1 o14.2.1
        have i26 := ((hW.at o14 List.not_mem_nil).to_10 o14.2.1).R19
        refine va_getN (D := D) (ci := 14) (v := .int (S.I r13 19)) (C := RX10) (T := TX10) (N := 23) hx hb hts (by decide +kernel) hown hK hP k25 hk25 rfl 19 (by decide) (va_Nw.use rfl (hN (.fieldLinkNest RX12 369 "HobhouseModel$Gear" "isHard" "Z" "HobhouseModel") (by decide +kernel))) (fun _ h9 => h9) rfl dX12_harden_49 ?_
        refine lv_if_ne (tgt := 71) hx hb dX12_harden_52 (by decide) (fun c27 => ?_) (fun c27 => ?_)
        · have c27i : ¬ (S.I r13 19).toInt = 0 := neq_v rfl rfl c27
          refine lv_aload_n hx hb dX12_harden_71 rfl (lv_at hl 1 rfl) ?_
          refine lv_iconst (v := 3) hx hb dX12_harden_72 (by decide) ?_
          have l32_3 : (3 : Int32).toInt = 3 := rfl
          have hFc := free_all hD hS hA
          obtain ⟨k28, gk28, hk28⟩ := wGt (cy := cy) X S h_o1.1 h_o1.2.1
          refine va_calli (va_runV (As := [.int (3 : Int32)]) (rest := []) ⟨hx, hb, hml, hown, hts⟩ (c_X12_fails l (cy := cy) (X := X) (D := D) S _ o1 h_o1 (3 : Int32) (hW)) (cwV 1 hts gX12_harden_X12_fails rfl rfl rfl hd_X12_fails ⟨Nat.le_of_ble_eq_true rfl, Nat.le_of_ble_eq_true rfl⟩) ⟨fun a U g mk q => ⟨q.1, q.2.1, q.2.2.1.calling, NW.same (u := U) (U := U.calling g mk a) rfl q.2.2.2⟩, va_recv hK hP (q := (RX12, TX12, 34)) (ci := 16) (q0 := k28) rfl hk28, fun U hU hW => ⟨rfl, by rw [hU], wd_pre hP hK hD hU hW, hN.warm hW⟩⟩ rfl rfl hl.1 rfl (lv_room (Nat.le_of_ble_eq_true rfl)) dX12_harden_73 ⟨(Nat.zero_le _), (Nat.zero_le _)⟩) hS (fun q _ h => hFc q h) hFc (fun r29 u t H1 locs ht hvm hw hB hz1 hk1 hS => ?_)
          obtain ⟨c30, w31⟩ := hw
          obtain ⟨hP, hD⟩ := wd_post hFc ht hB
          generalize H1 = H at hP hS ⊢
          obtain ⟨S32, rfl⟩ : ∃ z, z = u := ⟨_, rfl⟩
          have t33 : stp [(10, 12), (10, 14), (10, 15), (10, 19), (12, 15)] [] [] S S32 := t0.tr w31 (by decide) (fun _ q => absurd q List.not_mem_nil)
          have xe34 : ext S S32 := w31.x
          refine W.widen (k := 0) (n := 0) (Nat.le_of_ble_eq_true rfl) (Nat.le_of_ble_eq_true rfl) ?_
          exact W.iret (v := r29) hx hb hr (fun t ht hW9 => ⟨⟨r29, S32, rfl, t33, wd_end hP hK hD ht hW9.alike⟩, hS.F ht⟩) hS.2.2 dX12_harden_76 hlocks
        · have c27i : (S.I r13 19).toInt = 0 := eq_v rfl rfl c27
          refine lv_aload hx hb dX12_harden_55 (lv_at hl 0 rfl) ?_
          obtain ⟨k35, gk35, hk35⟩ := wGt (cy := cy) X S o14.1 o14.2.1
          have i36 := ((hW.at o14 List.not_mem_nil).to_10 o14.2.1).R20
          refine va_getN (D := D) (ci := 14) (v := .int (S.I r13 20)) (C := RX10) (T := TX10) (N := 23) hx hb hts (by decide +kernel) hown hK hP k35 hk35 rfl 20 (by decide) (va_Nw.use rfl (hN (.fieldLinkNest RX12 372 "HobhouseModel$Gear" "isScrap" "Z" "HobhouseModel") (by decide +kernel))) (fun _ h9 => h9) rfl dX12_harden_57 ?_
          refine lv_if_ne (tgt := 71) hx hb dX12_harden_60 (by decide) (fun c37 => ?_) (fun c37 => ?_)
          · have c37i : ¬ (S.I r13 20).toInt = 0 := neq_v rfl rfl c37
            refine lv_aload_n hx hb dX12_harden_71 rfl (lv_at hl 1 rfl) ?_
            refine lv_iconst (v := 3) hx hb dX12_harden_72 (by decide) ?_
            have l32_3 : (3 : Int32).toInt = 3 := rfl
            have hFc := free_all hD hS hA
            obtain ⟨k38, gk38, hk38⟩ := wGt (cy := cy) X S h_o1.1 h_o1.2.1
            refine va_calli (va_runV (As := [.int (3 : Int32)]) (rest := []) ⟨hx, hb, hml, hown, hts⟩ (c_X12_fails l (cy := cy) (X := X) (D := D) S _ o1 h_o1 (3 : Int32) (hW)) (cwV 1 hts gX12_harden_X12_fails rfl rfl rfl hd_X12_fails ⟨Nat.le_of_ble_eq_true rfl, Nat.le_of_ble_eq_true rfl⟩) ⟨fun a U g mk q => ⟨q.1, q.2.1, q.2.2.1.calling, NW.same (u := U) (U := U.calling g mk a) rfl q.2.2.2⟩, va_recv hK hP (q := (RX12, TX12, 34)) (ci := 16) (q0 := k38) rfl hk38, fun U hU hW => ⟨rfl, by rw [hU], wd_pre hP hK hD hU hW, hN.warm hW⟩⟩ rfl rfl hl.1 rfl (lv_room (Nat.le_of_ble_eq_true rfl)) dX12_harden_73 ⟨(Nat.zero_le _), (Nat.zero_le _)⟩) hS (fun q _ h => hFc q h) hFc (fun r39 u t H1 locs ht hvm hw hB hz1 hk1 hS => ?_)
            obtain ⟨c40, w41⟩ := hw
            obtain ⟨hP, hD⟩ := wd_post hFc ht hB
            generalize H1 = H at hP hS ⊢
            obtain ⟨S42, rfl⟩ : ∃ z, z = u := ⟨_, rfl⟩
            have t43 : stp [(10, 12), (10, 14), (10, 15), (10, 19), (12, 15)] [] [] S S42 := t0.tr w41 (by decide) (fun _ q => absurd q List.not_mem_nil)
            have xe44 : ext S S42 := w41.x
            refine W.widen (k := 0) (n := 0) (Nat.le_of_ble_eq_true rfl) (Nat.le_of_ble_eq_true rfl) ?_
            exact W.iret (v := r39) hx hb hr (fun t ht hW9 => ⟨⟨r39, S42, rfl, t43, wd_end hP hK hD ht hW9.alike⟩, hS.F ht⟩) hS.2.2 dX12_harden_76 hlocks
          · have c37i : (S.I r13 20).toInt = 0 := eq_v rfl rfl c37
            refine lv_aload hx hb dX12_harden_63 (lv_at hl 0 rfl) ?_
            have hFc := free_all hD hS hA
            obtain ⟨k45, gk45, hk45⟩ := wGt (cy := cy) X S o14.1 o14.2.1
            refine va_calli (va_runV (As := []) (rest := []) ⟨hx, hb, hml, hown, hts⟩ (c_X10_isBroken l (cy := cy) (X := X) (D := D) S _ r13 o14) (cwV 0 hts gX12_harden_X10_isBroken rfl rfl rfl hd_X10_isBroken ⟨Nat.le_of_ble_eq_true rfl, Nat.le_of_ble_eq_true rfl⟩) ⟨fun a U g mk q => ⟨q.1, q.2.1, q.2.2.1.calling, NW.same (u := U) (U := U.calling g mk a) rfl q.2.2.2⟩, va_recv hK hP (q := (RX10, TX10, 23)) (ci := 14) (q0 := k45) rfl hk45, fun U hU hW => ⟨rfl, by rw [hU], wd_pre hP hK hD hU hW, hN.warm hW⟩⟩ rfl rfl hl.1 rfl (lv_room (Nat.le_of_ble_eq_true rfl)) dX12_harden_65 ⟨(Nat.zero_le _), (Nat.zero_le _)⟩) hS (fun q _ h => hFc q h) hFc (fun r46 u t H1 locs ht hvm hw hB hz1 hk1 hS => ?_)
            have c47 := hw
            obtain ⟨hP, hD⟩ := wd_post hFc ht hB
            generalize H1 = H at hP hS ⊢
            obtain rfl : r46 = f_X10_isBroken S r13 := c47
            refine lv_if_eq (tgt := 77) hx hb dX12_harden_68 (by decide) (fun c48 => ?_) (fun c48 => ?_)
            · have c48i : (f_X10_isBroken S r13).toInt = 0 := eq_v rfl rfl c48
              refine lv_aload hx hb dX12_harden_77 (lv_at hl 0 rfl) ?_
              have hFc := free_all hD hS hA
              obtain ⟨k49, gk49, hk49⟩ := wGt (cy := cy) X S o14.1 o14.2.1
              refine va_calll (va_runV (As := []) (rest := []) ⟨hx, hb, hml, hown, hts⟩ (c_X10_across l (cy := cy) (X := X) (D := D) S _ r13 o14) (cwV 0 hts gX12_harden_X10_across rfl rfl rfl hd_X10_across ⟨Nat.le_of_ble_eq_true rfl, Nat.le_of_ble_eq_true rfl⟩) ⟨fun a U g mk q => ⟨q.1, q.2.1, q.2.2.1.calling, NW.same (u := U) (U := U.calling g mk a) rfl q.2.2.2⟩, va_recv hK hP (q := (RX10, TX10, 23)) (ci := 14) (q0 := k49) rfl hk49, fun U hU hW => ⟨rfl, by rw [hU], wd_pre hP hK hD hU hW, hN.warm hW⟩⟩ rfl rfl hl.1 rfl (lv_room (Nat.le_of_ble_eq_true rfl)) dX12_harden_79 ⟨(Nat.zero_le _), (Nat.zero_le _)⟩) hS (fun q _ h => hFc q h) hFc (fun r50 u t H1 locs ht hvm hw hB hz1 hk1 hS => ?_)
              have c51 := hw
              obtain ⟨hP, hD⟩ := wd_post hFc ht hB
              generalize H1 = H at hP hS ⊢
              obtain rfl : r50 = f_X10_across S r13 := c51
              refine lv_aload hx hb dX12_harden_82 (lv_at hl 0 rfl) ?_
              have hFc := free_all hD hS hA
              obtain ⟨k52, gk52, hk52⟩ := wGt (cy := cy) X S o14.1 o14.2.1
              refine va_calll (va_runV (As := []) (rest := [.long (f_X10_across S r13)]) ⟨hx, hb, hml, hown, hts⟩ (c_X10_across l (cy := cy) (X := X) (D := D) S _ r13 o14) (cwV 0 hts gX12_harden_X10_across rfl rfl rfl hd_X10_across ⟨Nat.le_of_ble_eq_true rfl, Nat.le_of_ble_eq_true rfl⟩) ⟨fun a U g mk q => ⟨q.1, q.2.1, q.2.2.1.calling, NW.same (u := U) (U := U.calling g mk a) rfl q.2.2.2⟩, va_recv hK hP (q := (RX10, TX10, 23)) (ci := 14) (q0 := k52) rfl hk52, fun U hU hW => ⟨rfl, by rw [hU], wd_pre hP hK hD hU hW, hN.warm hW⟩⟩ rfl rfl hl.1 rfl (lv_room (Nat.le_of_ble_eq_true rfl)) dX12_harden_84 ⟨(Nat.zero_le _), (Nat.zero_le _)⟩) hS (fun q _ h => hFc q h) hFc (fun r53 u t H1 locs ht hvm hw hB hz1 hk1 hS => ?_)
              have c54 := hw
              obtain ⟨hP, hD⟩ := wd_post hFc ht hB
              generalize H1 = H at hP hS ⊢
              obtain rfl : r53 = f_X10_across S r13 := c54
              refine lv_lmul hx hb dX12_harden_87 ?_
              refine lv_aload hx hb dX12_harden_88 (lv_at hl 0 rfl) ?_
              obtain ⟨k55, gk55, hk55⟩ := wGt (cy := cy) X S o14.1 o14.2.1
              have i56 := ((hW.at o14 List.not_mem_nil).to_10 o14.2.1).R4
              refine va_getN (D := D) (ci := 14) (v := .int (S.I r13 4)) (C := RX10) (T := TX10) (N := 23) hx hb hts (by decide +kernel) hown hK hP k55 hk55 rfl 4 (by decide) (va_Nw.use rfl (hN (.fieldLinkNest RX12 209 "HobhouseModel$Gear" "width" "I" "HobhouseModel") (by decide +kernel))) (fun _ h9 => h9) rfl dX12_harden_90 ?_
              refine lv_i2l hx hb dX12_harden_93 rfl ?_
              refine lv_ldiv hx hb dX12_harden_94 (nz_l (by omega)) ?_
              refine lv_ldc2 (own := RX12) (v := 2000) hx hb hown (hts (.constantLong RX12 379 (2000)) (by decide +kernel)) dX12_harden_95 ?_
              refine lv_ldiv hx hb dX12_harden_98 (by decide) ?_
              refine lv_lstore (lv' := [(5, .long ((((f_X10_across S r13) * (f_X10_across S r13)) / ((S.I r13 4).toInt64)) / (2000 : Int64))), (4, .ref r13), (0, .ref o1), (1, .int x1), (2, .int x2), (3, .int x3)]) hx hb dX12_harden_99 hl (by decide) rfl (fun ls hl => ?_)
              refine lv_aload hx hb dX12_harden_101 (lv_at hl 1 rfl) ?_
              refine lv_iconst (v := 1) hx hb dX12_harden_103 (by decide) ?_
              have l32_1 : (1 : Int32).toInt = 1 := rfl
              obtain ⟨k57, gk57, hk57⟩ := wGt (cy := cy) X S o14.1 o14.2.1
              refine va_putN (D := D) (ci := 14) (v := .int (1 : Int32)) (ty := .boolean) (C := RX10) (T := TX10) (N := 23) hx hb hts (by decide +kernel) tyX10 tyX10_ok nmX10 hown hK hP hD hS k57 hk57 rfl 19 (by decide) (va_Nw.use rfl (hN (.fieldLinkNest RX12 369 "HobhouseModel$Gear" "isHard" "Z" "HobhouseModel") (by decide +kernel))) (fun _ h9 => h9) rfl (by decide +kernel) (by rfl) (by rfl) (Nat.le_of_ble_eq_true rfl) dX12_harden_104 (fun H locs hP2 hD2 hS => ?_)
              have e9 := wPuI (cy := cy) (j := 19) (v := (1 : Int32)) hD o14.1 o14.2.1 gk57 rfl
              obtain ⟨S58, hS58⟩ : ∃ z, S.sI r13 19 (1 : Int32) = z := ⟨_, rfl⟩
              have hP : va_P D vwCl (X ++ PL cy S58) H := by rw [← hS58, ← e9]; exact hP2
              have hD : va_D A (X ++ PL cy S58) := by rw [← hS58, ← e9]; exact hD2
              have xe59 : ext S S58 := by rw [← hS58]; exact ext.sI _ _ _ _
              have t60 : stp [(10, 12), (10, 14), (10, 15), (10, 19), (12, 15)] [] [] S S58 := by rw [← hS58]; exact t0.I 19 (1 : Int32) o14 (by decide) (⟨by decide, by decide⟩) (Or.inl (by decide))
              refine lv_aload hx hb dX12_harden_107 (lv_at hl 1 rfl) ?_
              refine lv_iload_n hx hb dX12_harden_109 rfl (lv_at hl 4 rfl) ?_
              refine lv_i2l hx hb dX12_harden_110 rfl ?_
              refine lv_ldc2 (own := RX12) (v := 250000) hx hb hown (hts (.constantLong RX12 381 (250000)) (by decide +kernel)) dX12_harden_111 ?_
              refine lv_lmul hx hb dX12_harden_114 ?_
              have hFc := free_all hD hS hA
              refine va_calll (va_runS (As := [.long (x2.toInt64 * (250000 : Int64))]) (rest := [.ref r13]) ⟨hx, hb, hml, hown, hts⟩ (c_X12_root l (cy := cy) (X := X) (D := D) S58 _ (x2.toInt64 * (250000 : Int64))) (cwS 1 hts gX12_harden_X12_root rfl rfl rfl hd_X12_root ⟨Nat.le_of_ble_eq_true rfl, Nat.le_of_ble_eq_true rfl⟩) ⟨fun a U g mk q => ⟨q.1, q.2.1, q.2.2.1.calling, NW.same (u := U) (U := U.calling g mk a) rfl q.2.2.2⟩, fun U hU hW => ⟨rfl, by rw [hU], wd_pre hP hK hD hU hW, hN.warm hW⟩⟩ rfl rfl hl.1 rfl (lv_room (Nat.le_of_ble_eq_true rfl)) dX12_harden_115 ⟨(Nat.zero_le _), (Nat.zero_le _)⟩) hS (fun q _ h => hFc q h) hFc (fun r61 u t H1 locs ht hvm hw hB hz1 hk1 hS => ?_)
              have y62 := hw
              obtain ⟨hP, hD⟩ := wd_post hFc ht hB
              generalize H1 = H at hP hS ⊢
              refine lv_l2i hx hb dX12_harden_118 rfl ?_
              obtain ⟨k63, gk63, hk63⟩ := wGt (cy := cy) X S58 (xe59.A o14).1 (xe59.A o14).2.1
              refine va_putN (D := D) (ci := 14) (v := .int r61.toInt32) (ty := .int) (C := RX10) (T := TX10) (N := 23) hx hb hts (by decide +kernel) tyX10 tyX10_ok nmX10 hown hK hP hD hS k63 hk63 rfl 12 (by decide) (va_Nw.use rfl (hN (.fieldLinkNest RX12 383 "HobhouseModel$Gear" "depth" "I" "HobhouseModel") (by decide +kernel))) (fun _ h9 => h9) rfl (by decide +kernel) (rfl) (rfl) (Nat.le_of_ble_eq_true rfl) dX12_harden_119 (fun H locs hP2 hD2 hS => ?_)
              have e9 := wPuI (cy := cy) (j := 12) (v := r61.toInt32) hD (xe59.A o14).1 (xe59.A o14).2.1 gk63 rfl
              obtain ⟨S64, hS64⟩ : ∃ z, S58.sI r13 12 r61.toInt32 = z := ⟨_, rfl⟩
              have hP : va_P D vwCl (X ++ PL cy S64) H := by rw [← hS64, ← e9]; exact hP2
              have hD : va_D A (X ++ PL cy S64) := by rw [← hS64, ← e9]; exact hD2
              have xe65 : ext S58 S64 := by rw [← hS64]; exact ext.sI _ _ _ _
              have t66 : stp [(10, 12), (10, 14), (10, 15), (10, 19), (12, 15)] [] [] S S64 := by rw [← hS64]; exact t60.I 12 r61.toInt32 (xe59.A o14) (by decide) (trivial) (Or.inl (by decide))
              refine lv_aload hx hb dX12_harden_122 (lv_at hl 1 rfl) ?_
              refine lv_aload hx hb dX12_harden_124 (lv_at hl 1 rfl) ?_
              have hFc := free_all hD hS hA
              obtain ⟨k67, gk67, hk67⟩ := wGt (cy := cy) X S64 (xe65.A (xe59.A o14)).1 (xe65.A (xe59.A o14)).2.1
              refine va_calll (va_runV (As := []) (rest := [.ref r13]) ⟨hx, hb, hml, hown, hts⟩ (c_X10_across l (cy := cy) (X := X) (D := D) S64 _ r13 (xe65.A (xe59.A o14))) (cwV 0 hts gX12_harden_X10_across rfl rfl rfl hd_X10_across ⟨Nat.le_of_ble_eq_true rfl, Nat.le_of_ble_eq_true rfl⟩) ⟨fun a U g mk q => ⟨q.1, q.2.1, q.2.2.1.calling, NW.same (u := U) (U := U.calling g mk a) rfl q.2.2.2⟩, va_recv hK hP (q := (RX10, TX10, 23)) (ci := 14) (q0 := k67) rfl hk67, fun U hU hW => ⟨rfl, by rw [hU], wd_pre hP hK hD hU hW, hN.warm hW⟩⟩ rfl rfl hl.1 rfl (lv_room (Nat.le_of_ble_eq_true rfl)) dX12_harden_126 ⟨(Nat.zero_le _), (Nat.zero_le _)⟩) hS (fun q _ h => hFc q h) hFc (fun r68 u t H1 locs ht hvm hw hB hz1 hk1 hS => ?_)
              have c69 := hw
              obtain ⟨hP, hD⟩ := wd_post hFc ht hB
              generalize H1 = H at hP hS ⊢
              obtain rfl : r68 = f_X10_across S64 r13 := c69
              refine lv_ldc2 (own := RX12) (v := 3) hx hb hown (hts (.constantLong RX12 247 (3)) (by decide +kernel)) dX12_harden_129 ?_
              refine lv_lmul hx hb dX12_harden_132 ?_
              refine lv_ldc2 (own := RX12) (v := 10000) hx hb hown (hts (.constantLong RX12 135 (10000)) (by decide +kernel)) dX12_harden_133 ?_
              refine lv_ldiv hx hb dX12_harden_136 (by decide) ?_
              refine lv_iload_n hx hb dX12_harden_137 rfl (lv_at hl 5 rfl) ?_
              refine lv_if_eq (tgt := 150) hx hb dX12_harden_138 (by decide) (fun c70 => ?_) (fun c70 => ?_)
              · have c70i : x3.toInt = 0 := eq_v rfl rfl c70
                refine lv_lload hx hb dX12_harden_150 (lv_at hl 0 rfl) ?_
                refine lv_ladd hx hb dX12_harden_152 ?_
                refine lv_l2i hx hb dX12_harden_153 rfl ?_
                obtain ⟨k71, gk71, hk71⟩ := wGt (cy := cy) X S64 (xe65.A (xe59.A o14)).1 (xe65.A (xe59.A o14)).2.1
                refine va_putN (D := D) (ci := 14) (v := .int (((((f_X10_across S64 r13) * (3 : Int64)) / (10000 : Int64)) + ((((f_X10_across S r13) * (f_X10_across S r13)) / ((S.I r13 4).toInt64)) / (2000 : Int64))).toInt32)) (ty := .int) (C := RX10) (T := TX10) (N := 23) hx hb hts (by decide +kernel) tyX10 tyX10_ok nmX10 hown hK hP hD hS k71 hk71 rfl 14 (by decide) (va_Nw.use rfl (hN (.fieldLinkNest RX12 386 "HobhouseModel$Gear" "need" "I" "HobhouseModel") (by decide +kernel))) (fun _ h9 => h9) rfl (by decide +kernel) (rfl) (rfl) (Nat.le_of_ble_eq_true rfl) dX12_harden_154 (fun H locs hP2 hD2 hS => ?_)
                have e9 := wPuI (cy := cy) (j := 14) (v := (((((f_X10_across S64 r13) * (3 : Int64)) / (10000 : Int64)) + ((((f_X10_across S r13) * (f_X10_across S r13)) / ((S.I r13 4).toInt64)) / (2000 : Int64))).toInt32)) hD (xe65.A (xe59.A o14)).1 (xe65.A (xe59.A o14)).2.1 gk71 rfl
                obtain ⟨S72, hS72⟩ : ∃ z, S64.sI r13 14 (((((f_X10_across S64 r13) * (3 : Int64)) / (10000 : Int64)) + ((((f_X10_across S r13) * (f_X10_across S r13)) / ((S.I r13 4).toInt64)) / (2000 : Int64))).toInt32) = z := ⟨_, rfl⟩
                have hP : va_P D vwCl (X ++ PL cy S72) H := by rw [← hS72, ← e9]; exact hP2
                have hD : va_D A (X ++ PL cy S72) := by rw [← hS72, ← e9]; exact hD2
                have xe73 : ext S64 S72 := by rw [← hS72]; exact ext.sI _ _ _ _
                have t74 : stp [(10, 12), (10, 14), (10, 15), (10, 19), (12, 15)] [] [] S S72 := by rw [← hS72]; exact t66.I 14 (((((f_X10_across S64 r13) * (3 : Int64)) / (10000 : Int64)) + ((((f_X10_across S r13) * (f_X10_across S r13)) / ((S.I r13 4).toInt64)) / (2000 : Int64))).toInt32) (xe65.A (xe59.A o14)) (by decide) (trivial) (Or.inl (by decide))
                refine lv_aload hx hb dX12_harden_157 (lv_at hl 1 rfl) ?_
                refine lv_aload hx hb dX12_harden_159 (lv_at hl 1 rfl) ?_
                obtain ⟨k75, gk75, hk75⟩ := wGt (cy := cy) X S72 (xe73.A (xe65.A (xe59.A o14))).1 (xe73.A (xe65.A (xe59.A o14))).2.1
                refine va_getN (D := D) (ci := 14) (v := .int (S72.I r13 9)) (C := RX10) (T := TX10) (N := 23) hx hb hts (by decide +kernel) hown hK hP k75 hk75 rfl 9 (by decide) (va_Nw.use rfl (hN (.fieldLinkNest RX12 356 "HobhouseModel$Gear" "stock" "I" "HobhouseModel") (by decide +kernel))) (fun _ h9 => h9) rfl dX12_harden_161 ?_
                obtain ⟨k76, gk76, hk76⟩ := wGt (cy := cy) X S72 (xe73.A (xe65.A (xe59.A o14))).1 (xe73.A (xe65.A (xe59.A o14))).2.1
                refine va_putN (D := D) (ci := 14) (v := .int (S72.I r13 9)) (ty := .int) (C := RX10) (T := TX10) (N := 23) hx hb hts (by decide +kernel) tyX10 tyX10_ok nmX10 hown hK hP hD hS k76 hk76 rfl 15 (by decide) (va_Nw.use rfl (hN (.fieldLinkNest RX12 389 "HobhouseModel$Gear" "had" "I" "HobhouseModel") (by decide +kernel))) (fun _ h9 => h9) rfl (by decide +kernel) (rfl) (rfl) (Nat.le_of_ble_eq_true rfl) dX12_harden_164 (fun H locs hP2 hD2 hS => ?_)
                have e9 := wPuI (cy := cy) (j := 15) (v := (S72.I r13 9)) hD (xe73.A (xe65.A (xe59.A o14))).1 (xe73.A (xe65.A (xe59.A o14))).2.1 gk76 rfl
                obtain ⟨S77, hS77⟩ : ∃ z, S72.sI r13 15 (S72.I r13 9) = z := ⟨_, rfl⟩
                have hP : va_P D vwCl (X ++ PL cy S77) H := by rw [← hS77, ← e9]; exact hP2
                have hD : va_D A (X ++ PL cy S77) := by rw [← hS77, ← e9]; exact hD2
                have xe78 : ext S72 S77 := by rw [← hS77]; exact ext.sI _ _ _ _
                have t79 : stp [(10, 12), (10, 14), (10, 15), (10, 19), (12, 15)] [] [] S S77 := by rw [← hS77]; exact t74.I 15 (S72.I r13 9) (xe73.A (xe65.A (xe59.A o14))) (by decide) (trivial) (Or.inl (by decide))
                refine lv_aload_n hx hb dX12_harden_167 rfl (lv_at hl 2 rfl) ?_
                refine lv_aload hx hb dX12_harden_168 (lv_at hl 1 rfl) ?_
                obtain ⟨k80, gk80, hk80⟩ := wGt (cy := cy) X S77 (xe78.A (xe73.A (xe65.A (xe59.A o14)))).1 (xe78.A (xe73.A (xe65.A (xe59.A o14)))).2.1
                refine va_getN (D := D) (ci := 14) (v := .int (S77.I r13 14)) (C := RX10) (T := TX10) (N := 23) hx hb hts (by decide +kernel) hown hK hP k80 hk80 rfl 14 (by decide) (va_Nw.use rfl (hN (.fieldLinkNest RX12 386 "HobhouseModel$Gear" "need" "I" "HobhouseModel") (by decide +kernel))) (fun _ h9 => h9) rfl dX12_harden_170 ?_
                have hFc := free_all hD hS hA
                obtain ⟨k81, gk81, hk81⟩ := wGt (cy := cy) X S77 ((xe59.tr (xe65.tr (xe73.tr xe78))).A h_o1).1 ((xe59.tr (xe65.tr (xe73.tr xe78))).A h_o1).2.1
                refine va_calli (va_runV (As := [.int (S77.I r13 14)]) (rest := []) ⟨hx, hb, hml, hown, hts⟩ (c_X12_answer l (cy := cy) (X := X) (D := D) S77 _ o1 ((xe59.tr (xe65.tr (xe73.tr xe78))).A h_o1) (S77.I r13 14) (t79.w)) (cwV 1 hts gX12_harden_X12_answer rfl rfl rfl hd_X12_answer ⟨Nat.le_of_ble_eq_true rfl, Nat.le_of_ble_eq_true rfl⟩) ⟨fun a U g mk q => ⟨q.1, q.2.1, q.2.2.1.calling, NW.same (u := U) (U := U.calling g mk a) rfl q.2.2.2⟩, va_recv hK hP (q := (RX12, TX12, 34)) (ci := 16) (q0 := k81) rfl hk81, fun U hU hW => ⟨rfl, by rw [hU], wd_pre hP hK hD hU hW, hN.warm hW⟩⟩ rfl rfl hl.1 rfl (lv_room (Nat.le_of_ble_eq_true rfl)) dX12_harden_173 ⟨(Nat.zero_le _), (Nat.zero_le _)⟩) hS (fun q _ h => hFc q h) hFc (fun r82 u t H1 locs ht hvm hw hB hz1 hk1 hS => ?_)
                obtain ⟨c83, w84⟩ := hw
                obtain ⟨hP, hD⟩ := wd_post hFc ht hB
                generalize H1 = H at hP hS ⊢
                obtain ⟨S85, rfl⟩ : ∃ z, z = u := ⟨_, rfl⟩
                have t86 : stp [(10, 12), (10, 14), (10, 15), (10, 19), (12, 15)] [] [] S S85 := t79.tr w84 (by decide) (fun _ q => absurd q List.not_mem_nil)
                have xe87 : ext S77 S85 := w84.x
                refine W.widen (k := 0) (n := 0) (Nat.le_of_ble_eq_true rfl) (Nat.le_of_ble_eq_true rfl) ?_
                exact W.iret (v := r82) hx hb hr (fun t ht hW9 => ⟨⟨r82, S85, rfl, t86, wd_end hP hK hD ht hW9.alike⟩, hS.F ht⟩) hS.2.2 dX12_harden_176 hlocks
              · have c70i : ¬ x3.toInt = 0 := neq_v rfl rfl c70
                refine lv_lload hx hb dX12_harden_141 (lv_at hl 0 rfl) ?_
                refine lv_ldc2 (own := RX12) (v := 2) hx hb hown (hts (.constantLong RX12 3 (2)) (by decide +kernel)) dX12_harden_143 ?_
                refine lv_ldiv hx hb dX12_harden_146 (by decide) ?_
                refine lv_goto (tgt := 152) hx hb dX12_harden_147 (by decide) ?_
                refine lv_ladd hx hb dX12_harden_152 ?_
                refine lv_l2i hx hb dX12_harden_153 rfl ?_
                obtain ⟨k88, gk88, hk88⟩ := wGt (cy := cy) X S64 (xe65.A (xe59.A o14)).1 (xe65.A (xe59.A o14)).2.1
                refine va_putN (D := D) (ci := 14) (v := .int (((((f_X10_across S64 r13) * (3 : Int64)) / (10000 : Int64)) + (((((f_X10_across S r13) * (f_X10_across S r13)) / ((S.I r13 4).toInt64)) / (2000 : Int64)) / (2 : Int64))).toInt32)) (ty := .int) (C := RX10) (T := TX10) (N := 23) hx hb hts (by decide +kernel) tyX10 tyX10_ok nmX10 hown hK hP hD hS k88 hk88 rfl 14 (by decide) (va_Nw.use rfl (hN (.fieldLinkNest RX12 386 "HobhouseModel$Gear" "need" "I" "HobhouseModel") (by decide +kernel))) (fun _ h9 => h9) rfl (by decide +kernel) (rfl) (rfl) (Nat.le_of_ble_eq_true rfl) dX12_harden_154 (fun H locs hP2 hD2 hS => ?_)
                have e9 := wPuI (cy := cy) (j := 14) (v := (((((f_X10_across S64 r13) * (3 : Int64)) / (10000 : Int64)) + (((((f_X10_across S r13) * (f_X10_across S r13)) / ((S.I r13 4).toInt64)) / (2000 : Int64)) / (2 : Int64))).toInt32)) hD (xe65.A (xe59.A o14)).1 (xe65.A (xe59.A o14)).2.1 gk88 rfl
                obtain ⟨S89, hS89⟩ : ∃ z, S64.sI r13 14 (((((f_X10_across S64 r13) * (3 : Int64)) / (10000 : Int64)) + (((((f_X10_across S r13) * (f_X10_across S r13)) / ((S.I r13 4).toInt64)) / (2000 : Int64)) / (2 : Int64))).toInt32) = z := ⟨_, rfl⟩
                have hP : va_P D vwCl (X ++ PL cy S89) H := by rw [← hS89, ← e9]; exact hP2
                have hD : va_D A (X ++ PL cy S89) := by rw [← hS89, ← e9]; exact hD2
                have xe90 : ext S64 S89 := by rw [← hS89]; exact ext.sI _ _ _ _
                have t91 : stp [(10, 12), (10, 14), (10, 15), (10, 19), (12, 15)] [] [] S S89 := by rw [← hS89]; exact t66.I 14 (((((f_X10_across S64 r13) * (3 : Int64)) / (10000 : Int64)) + (((((f_X10_across S r13) * (f_X10_across S r13)) / ((S.I r13 4).toInt64)) / (2000 : Int64)) / (2 : Int64))).toInt32) (xe65.A (xe59.A o14)) (by decide) (trivial) (Or.inl (by decide))
                refine lv_aload hx hb dX12_harden_157 (lv_at hl 1 rfl) ?_
                refine lv_aload hx hb dX12_harden_159 (lv_at hl 1 rfl) ?_
                obtain ⟨k92, gk92, hk92⟩ := wGt (cy := cy) X S89 (xe90.A (xe65.A (xe59.A o14))).1 (xe90.A (xe65.A (xe59.A o14))).2.1
                refine va_getN (D := D) (ci := 14) (v := .int (S89.I r13 9)) (C := RX10) (T := TX10) (N := 23) hx hb hts (by decide +kernel) hown hK hP k92 hk92 rfl 9 (by decide) (va_Nw.use rfl (hN (.fieldLinkNest RX12 356 "HobhouseModel$Gear" "stock" "I" "HobhouseModel") (by decide +kernel))) (fun _ h9 => h9) rfl dX12_harden_161 ?_
                obtain ⟨k93, gk93, hk93⟩ := wGt (cy := cy) X S89 (xe90.A (xe65.A (xe59.A o14))).1 (xe90.A (xe65.A (xe59.A o14))).2.1
                refine va_putN (D := D) (ci := 14) (v := .int (S89.I r13 9)) (ty := .int) (C := RX10) (T := TX10) (N := 23) hx hb hts (by decide +kernel) tyX10 tyX10_ok nmX10 hown hK hP hD hS k93 hk93 rfl 15 (by decide) (va_Nw.use rfl (hN (.fieldLinkNest RX12 389 "HobhouseModel$Gear" "had" "I" "HobhouseModel") (by decide +kernel))) (fun _ h9 => h9) rfl (by decide +kernel) (rfl) (rfl) (Nat.le_of_ble_eq_true rfl) dX12_harden_164 (fun H locs hP2 hD2 hS => ?_)
                have e9 := wPuI (cy := cy) (j := 15) (v := (S89.I r13 9)) hD (xe90.A (xe65.A (xe59.A o14))).1 (xe90.A (xe65.A (xe59.A o14))).2.1 gk93 rfl
                obtain ⟨S94, hS94⟩ : ∃ z, S89.sI r13 15 (S89.I r13 9) = z := ⟨_, rfl⟩
                have hP : va_P D vwCl (X ++ PL cy S94) H := by rw [← hS94, ← e9]; exact hP2
                have hD : va_D A (X ++ PL cy S94) := by rw [← hS94, ← e9]; exact hD2
                have xe95 : ext S89 S94 := by rw [← hS94]; exact ext.sI _ _ _ _
                have t96 : stp [(10, 12), (10, 14), (10, 15), (10, 19), (12, 15)] [] [] S S94 := by rw [← hS94]; exact t91.I 15 (S89.I r13 9) (xe90.A (xe65.A (xe59.A o14))) (by decide) (trivial) (Or.inl (by decide))
                refine lv_aload_n hx hb dX12_harden_167 rfl (lv_at hl 2 rfl) ?_
                refine lv_aload hx hb dX12_harden_168 (lv_at hl 1 rfl) ?_
                obtain ⟨k97, gk97, hk97⟩ := wGt (cy := cy) X S94 (xe95.A (xe90.A (xe65.A (xe59.A o14)))).1 (xe95.A (xe90.A (xe65.A (xe59.A o14)))).2.1
                refine va_getN (D := D) (ci := 14) (v := .int (S94.I r13 14)) (C := RX10) (T := TX10) (N := 23) hx hb hts (by decide +kernel) hown hK hP k97 hk97 rfl 14 (by decide) (va_Nw.use rfl (hN (.fieldLinkNest RX12 386 "HobhouseModel$Gear" "need" "I" "HobhouseModel") (by decide +kernel))) (fun _ h9 => h9) rfl dX12_harden_170 ?_
                have hFc := free_all hD hS hA
                obtain ⟨k98, gk98, hk98⟩ := wGt (cy := cy) X S94 ((xe59.tr (xe65.tr (xe90.tr xe95))).A h_o1).1 ((xe59.tr (xe65.tr (xe90.tr xe95))).A h_o1).2.1
                refine va_calli (va_runV (As := [.int (S94.I r13 14)]) (rest := []) ⟨hx, hb, hml, hown, hts⟩ (c_X12_answer l (cy := cy) (X := X) (D := D) S94 _ o1 ((xe59.tr (xe65.tr (xe90.tr xe95))).A h_o1) (S94.I r13 14) (t96.w)) (cwV 1 hts gX12_harden_X12_answer rfl rfl rfl hd_X12_answer ⟨Nat.le_of_ble_eq_true rfl, Nat.le_of_ble_eq_true rfl⟩) ⟨fun a U g mk q => ⟨q.1, q.2.1, q.2.2.1.calling, NW.same (u := U) (U := U.calling g mk a) rfl q.2.2.2⟩, va_recv hK hP (q := (RX12, TX12, 34)) (ci := 16) (q0 := k98) rfl hk98, fun U hU hW => ⟨rfl, by rw [hU], wd_pre hP hK hD hU hW, hN.warm hW⟩⟩ rfl rfl hl.1 rfl (lv_room (Nat.le_of_ble_eq_true rfl)) dX12_harden_173 ⟨(Nat.zero_le _), (Nat.zero_le _)⟩) hS (fun q _ h => hFc q h) hFc (fun r99 u t H1 locs ht hvm hw hB hz1 hk1 hS => ?_)
                obtain ⟨c100, w101⟩ := hw
                obtain ⟨hP, hD⟩ := wd_post hFc ht hB
                generalize H1 = H at hP hS ⊢
                obtain ⟨S102, rfl⟩ : ∃ z, z = u := ⟨_, rfl⟩
                have t103 : stp [(10, 12), (10, 14), (10, 15), (10, 19), (12, 15)] [] [] S S102 := t96.tr w101 (by decide) (fun _ q => absurd q List.not_mem_nil)
                have xe104 : ext S94 S102 := w101.x
                refine W.widen (k := 0) (n := 0) (Nat.le_of_ble_eq_true rfl) (Nat.le_of_ble_eq_true rfl) ?_
                exact W.iret (v := r99) hx hb hr (fun t ht hW9 => ⟨⟨r99, S102, rfl, t103, wd_end hP hK hD ht hW9.alike⟩, hS.F ht⟩) hS.2.2 dX12_harden_176 hlocks
            · have c48i : ¬ (f_X10_isBroken S r13).toInt = 0 := neq_v rfl rfl c48
              refine lv_aload_n hx hb dX12_harden_71 rfl (lv_at hl 1 rfl) ?_
              refine lv_iconst (v := 3) hx hb dX12_harden_72 (by decide) ?_
              have l32_3 : (3 : Int32).toInt = 3 := rfl
              have hFc := free_all hD hS hA
              obtain ⟨k105, gk105, hk105⟩ := wGt (cy := cy) X S h_o1.1 h_o1.2.1
              refine va_calli (va_runV (As := [.int (3 : Int32)]) (rest := []) ⟨hx, hb, hml, hown, hts⟩ (c_X12_fails l (cy := cy) (X := X) (D := D) S _ o1 h_o1 (3 : Int32) (hW)) (cwV 1 hts gX12_harden_X12_fails rfl rfl rfl hd_X12_fails ⟨Nat.le_of_ble_eq_true rfl, Nat.le_of_ble_eq_true rfl⟩) ⟨fun a U g mk q => ⟨q.1, q.2.1, q.2.2.1.calling, NW.same (u := U) (U := U.calling g mk a) rfl q.2.2.2⟩, va_recv hK hP (q := (RX12, TX12, 34)) (ci := 16) (q0 := k105) rfl hk105, fun U hU hW => ⟨rfl, by rw [hU], wd_pre hP hK hD hU hW, hN.warm hW⟩⟩ rfl rfl hl.1 rfl (lv_room (Nat.le_of_ble_eq_true rfl)) dX12_harden_73 ⟨(Nat.zero_le _), (Nat.zero_le _)⟩) hS (fun q _ h => hFc q h) hFc (fun r106 u t H1 locs ht hvm hw hB hz1 hk1 hS => ?_)
              obtain ⟨c107, w108⟩ := hw
              obtain ⟨hP, hD⟩ := wd_post hFc ht hB
              generalize H1 = H at hP hS ⊢
              obtain ⟨S109, rfl⟩ : ∃ z, z = u := ⟨_, rfl⟩
              have t110 : stp [(10, 12), (10, 14), (10, 15), (10, 19), (12, 15)] [] [] S S109 := t0.tr w108 (by decide) (fun _ q => absurd q List.not_mem_nil)
              have xe111 : ext S S109 := w108.x
              refine W.widen (k := 0) (n := 0) (Nat.le_of_ble_eq_true rfl) (Nat.le_of_ble_eq_true rfl) ?_
              exact W.iret (v := r106) hx hb hr (fun t ht hW9 => ⟨⟨r106, S109, rfl, t110, wd_end hP hK hD ht hW9.alike⟩, hS.F ht⟩) hS.2.2 dX12_harden_76 hlocks
    · have c11i : (f_X12_in x2.toInt64 (1 : Int64) (99 : Int64)).toInt = 0 := eq_v rfl rfl c11
      refine lv_aload_n hx hb dX12_harden_26 rfl (lv_at hl 0 rfl) ?_
      refine lv_iconst (v := 2) hx hb dX12_harden_27 (by decide) ?_
      have l32_2 : (2 : Int32).toInt = 2 := rfl
      have hFc := free_all hD hS hA
      obtain ⟨k112, gk112, hk112⟩ := wGt (cy := cy) X S h_o1.1 h_o1.2.1
      refine va_calli (va_runV (As := [.int (2 : Int32)]) (rest := []) ⟨hx, hb, hml, hown, hts⟩ (c_X12_fails l (cy := cy) (X := X) (D := D) S _ o1 h_o1 (2 : Int32) (hW)) (cwV 1 hts gX12_harden_X12_fails rfl rfl rfl hd_X12_fails ⟨Nat.le_of_ble_eq_true rfl, Nat.le_of_ble_eq_true rfl⟩) ⟨fun a U g mk q => ⟨q.1, q.2.1, q.2.2.1.calling, NW.same (u := U) (U := U.calling g mk a) rfl q.2.2.2⟩, va_recv hK hP (q := (RX12, TX12, 34)) (ci := 16) (q0 := k112) rfl hk112, fun U hU hW => ⟨rfl, by rw [hU], wd_pre hP hK hD hU hW, hN.warm hW⟩⟩ rfl rfl hl.1 rfl (lv_room (Nat.le_of_ble_eq_true rfl)) dX12_harden_28 ⟨(Nat.zero_le _), (Nat.zero_le _)⟩) hS (fun q _ h => hFc q h) hFc (fun r113 u t H1 locs ht hvm hw hB hz1 hk1 hS => ?_)
      obtain ⟨c114, w115⟩ := hw
      obtain ⟨hP, hD⟩ := wd_post hFc ht hB
      generalize H1 = H at hP hS ⊢
      obtain ⟨S116, rfl⟩ : ∃ z, z = u := ⟨_, rfl⟩
      have t117 : stp [(10, 12), (10, 14), (10, 15), (10, 19), (12, 15)] [] [] S S116 := t0.tr w115 (by decide) (fun _ q => absurd q List.not_mem_nil)
      have xe118 : ext S S116 := w115.x
      refine W.widen (k := 0) (n := 0) (Nat.le_of_ble_eq_true rfl) (Nat.le_of_ble_eq_true rfl) ?_
      exact W.iret (v := r113) hx hb hr (fun t ht hW9 => ⟨⟨r113, S116, rfl, t117, wd_end hP hK hD ht hW9.alike⟩, hS.F ht⟩) hS.2.2 dX12_harden_31 hlocks
  · have c6i : (f_X12_isGear S o1 x1).toInt = 0 := eq_v rfl rfl c6
    refine lv_aload_n hx hb dX12_harden_8 rfl (lv_at hl 0 rfl) ?_
    refine lv_iconst (v := 1) hx hb dX12_harden_9 (by decide) ?_
    have l32_1 : (1 : Int32).toInt = 1 := rfl
    have hFc := free_all hD hS hA
    obtain ⟨k119, gk119, hk119⟩ := wGt (cy := cy) X S h_o1.1 h_o1.2.1
    refine va_calli (va_runV (As := [.int (1 : Int32)]) (rest := []) ⟨hx, hb, hml, hown, hts⟩ (c_X12_fails l (cy := cy) (X := X) (D := D) S _ o1 h_o1 (1 : Int32) (hW)) (cwV 1 hts gX12_harden_X12_fails rfl rfl rfl hd_X12_fails ⟨Nat.le_of_ble_eq_true rfl, Nat.le_of_ble_eq_true rfl⟩) ⟨fun a U g mk q => ⟨q.1, q.2.1, q.2.2.1.calling, NW.same (u := U) (U := U.calling g mk a) rfl q.2.2.2⟩, va_recv hK hP (q := (RX12, TX12, 34)) (ci := 16) (q0 := k119) rfl hk119, fun U hU hW => ⟨rfl, by rw [hU], wd_pre hP hK hD hU hW, hN.warm hW⟩⟩ rfl rfl hl.1 rfl (lv_room (Nat.le_of_ble_eq_true rfl)) dX12_harden_10 ⟨(Nat.zero_le _), (Nat.zero_le _)⟩) hS (fun q _ h => hFc q h) hFc (fun r120 u t H1 locs ht hvm hw hB hz1 hk1 hS => ?_)
    obtain ⟨c121, w122⟩ := hw
    obtain ⟨hP, hD⟩ := wd_post hFc ht hB
    generalize H1 = H at hP hS ⊢
    obtain ⟨S123, rfl⟩ : ∃ z, z = u := ⟨_, rfl⟩
    have t124 : stp [(10, 12), (10, 14), (10, 15), (10, 19), (12, 15)] [] [] S S123 := t0.tr w122 (by decide) (fun _ q => absurd q List.not_mem_nil)
    have xe125 : ext S S123 := w122.x
    refine W.widen (k := 0) (n := 0) (Nat.le_of_ble_eq_true rfl) (Nat.le_of_ble_eq_true rfl) ?_
    exact W.iret (v := r120) hx hb hr (fun t ht hW9 => ⟨⟨r120, S123, rfl, t124, wd_end hP hK hD ht hW9.alike⟩, hS.F ht⟩) hS.2.2 dX12_harden_13 hlocks
theorem hd_X12_caseOf : yX12_caseOf.cls = RX12 ∧ yX12_caseOf.cls ≠ "java/lang/invoke/MethodHandle" ∧ yX12_caseOf.cls ≠ "java/lang/invoke/VarHandle" ∧ (parseMethodDescriptor yX12_caseOf.desc).map (fun d => d.parameters.length) = some 1 := by decide +kernel
set_option maxHeartbeats 4000000 in
set_option maxRecDepth 100000 in
theorem c_X12_caseOf (l : Launch) {D : va_G} {cy : Nat → ClassId} {X : va_W} (S : wPS) (sz : Nat) (o1 : Nat) (h_o1 : isA S o1 12) (x1 : Int32) (hW : wtB S [])  : Met l yX12_caseOf wsX12_caseOf ({ frames := 4, cells := 0, slots := 0, locals := 85 }) (va_Pc [.ref o1, .int x1] (fun U => U.heap.size = sz ∧ WD D cy X (fun _ => True) S U ∧ NW U)) (va_Qi (fun r (u : wPS) => stp [(12, 15)] [] [] S u) (fun u t => WD D cy X (va_A (X ++ PL cy S) sz) u t) (va_A (X ++ PL cy S) sz)) 0 0 (va_A (X ++ PL cy S) sz) := by
  refine Met.ofW (cc := cX12_caseOf) (maxL := 2) (ret := (some .int)) (by decide) rfl ?_
  intro p e s m args below meth c s₁ B hml hv
  obtain ⟨rfl, hsz, ⟨hP, hK, hD0⟩, hN⟩ := hv
  have hx := B.exec
  have hb := B.bytes
  have hr := B.returns
  have hts := atoms_spec (ws := wsX12_caseOf) B.pre
  have hown : s.vm.findClass RX12 = some m.cls := findClass_of_methodNamed (x := yX12_caseOf) B.named
  have hlocks := B.notSynchronized
  subst hsz
  have hD := hD0.self (sz := s.heap.size)
  generalize hAe : va_A (X ++ PL cy S) s.heap.size = A at hD ⊢
  have hA : ∀ q : Nat, s.heap.size ≤ q → A q := fun q h => by rw [← hAe]; exact Or.inr h
  have hS : va_S A s.heap s.heap [] := va_S.rf
  have hl := lv_entry ([.ref o1, .int x1]) (n := 2) (Nat.le_of_ble_eq_true rfl)
  rw [lg_entry_eq]
  generalize (lg_sl ([.ref o1, .int x1]) ++ List.replicate (2 - (lg_sl ([.ref o1, .int x1])).length) Slot.unset).toArray = ls at hl ⊢
  have hl : lv_has ls 2 [(0, .ref o1), (1, .int x1)] := hl
  have t0 : stp [(12, 15)] [] [] S S := stp.rf hW
  refine lv_aload_n hx hb dX12_caseOf_0 rfl (lv_at hl 0 rfl) ?_
  refine lv_iload_n hx hb dX12_caseOf_1 rfl (lv_at hl 1 rfl) ?_
  have hFc := free_all hD hS hA
  obtain ⟨k1, gk1, hk1⟩ := wGt (cy := cy) X S h_o1.1 h_o1.2.1
  refine va_calli (va_runV (As := [.int x1]) (rest := []) ⟨hx, hb, hml, hown, hts⟩ (c_X12_isGear l (cy := cy) (X := X) (D := D) S _ o1 h_o1 x1 (hW)) (cwV 1 hts gX12_caseOf_X12_isGear rfl rfl rfl hd_X12_isGear ⟨Nat.le_of_ble_eq_true rfl, Nat.le_of_ble_eq_true rfl⟩) ⟨fun a U g mk q => ⟨q.1, q.2.1, q.2.2.1.calling, NW.same (u := U) (U := U.calling g mk a) rfl q.2.2.2⟩, va_recv hK hP (q := (RX12, TX12, 34)) (ci := 16) (q0 := k1) rfl hk1, fun U hU hW => ⟨rfl, by rw [hU], wd_pre hP hK hD hU hW, hN.warm hW⟩⟩ rfl rfl hl.1 rfl (lv_room (Nat.le_of_ble_eq_true rfl)) dX12_caseOf_2 ⟨(Nat.zero_le _), (Nat.zero_le _)⟩) hS (fun q _ h => hFc q h) hFc (fun r2 u t H1 locs ht hvm hw hB hz1 hk1 hS => ?_)
  have c3 := hw
  obtain ⟨hP, hD⟩ := wd_post hFc ht hB
  generalize H1 = H at hP hS ⊢
  obtain rfl : r2 = f_X12_isGear S o1 x1 := c3
  have F4 := ((hW.at h_o1 List.not_mem_nil).to_12 h_o1.2.1).F0
  have i5 : (f_X12_isGear S o1 x1).toInt = 0 ∨ (0 ≤ x1.toInt ∧ x1.toInt < (S.I (S.f o1 0) 2).toInt) := by have h9 := ig_rng x1 ((hW.at h_o1 List.not_mem_nil).to_12 h_o1.2.1) hW; rw [f_of F4.1] at h9; exact h9
  refine lv_if_eq (tgt := 23) hx hb dX12_caseOf_5 (by decide) (fun c6 => ?_) (fun c6 => ?_)
  · have c6i : (f_X12_isGear S o1 x1).toInt = 0 := eq_v rfl rfl c6
    refine lv_aload_n hx hb dX12_caseOf_23 rfl (lv_at hl 0 rfl) ?_
    refine lv_iconst (v := 1) hx hb dX12_caseOf_24 (by decide) ?_
    have l32_1 : (1 : Int32).toInt = 1 := rfl
    have hFc := free_all hD hS hA
    obtain ⟨k7, gk7, hk7⟩ := wGt (cy := cy) X S h_o1.1 h_o1.2.1
    refine va_calli (va_runV (As := [.int (1 : Int32)]) (rest := []) ⟨hx, hb, hml, hown, hts⟩ (c_X12_fails l (cy := cy) (X := X) (D := D) S _ o1 h_o1 (1 : Int32) (hW)) (cwV 1 hts gX12_caseOf_X12_fails rfl rfl rfl hd_X12_fails ⟨Nat.le_of_ble_eq_true rfl, Nat.le_of_ble_eq_true rfl⟩) ⟨fun a U g mk q => ⟨q.1, q.2.1, q.2.2.1.calling, NW.same (u := U) (U := U.calling g mk a) rfl q.2.2.2⟩, va_recv hK hP (q := (RX12, TX12, 34)) (ci := 16) (q0 := k7) rfl hk7, fun U hU hW => ⟨rfl, by rw [hU], wd_pre hP hK hD hU hW, hN.warm hW⟩⟩ rfl rfl hl.1 rfl (lv_room (Nat.le_of_ble_eq_true rfl)) dX12_caseOf_25 ⟨(Nat.zero_le _), (Nat.zero_le _)⟩) hS (fun q _ h => hFc q h) hFc (fun r8 u t H1 locs ht hvm hw hB hz1 hk1 hS => ?_)
    obtain ⟨c9, w10⟩ := hw
    obtain ⟨hP, hD⟩ := wd_post hFc ht hB
    generalize H1 = H at hP hS ⊢
    obtain ⟨S11, rfl⟩ : ∃ z, z = u := ⟨_, rfl⟩
    have t12 : stp [(12, 15)] [] [] S S11 := t0.tr w10 (by decide) (fun _ q => absurd q List.not_mem_nil)
    have xe13 : ext S S11 := w10.x
    refine W.widen (k := 0) (n := 0) (Nat.le_of_ble_eq_true rfl) (Nat.le_of_ble_eq_true rfl) ?_
    exact W.iret (v := r8) hx hb hr (fun t ht hW9 => ⟨⟨r8, S11, rfl, t12, wd_end hP hK hD ht hW9.alike⟩, hS.F ht⟩) hS.2.2 dX12_caseOf_28 hlocks
  · have c6i : ¬ (f_X12_isGear S o1 x1).toInt = 0 := neq_v rfl rfl c6
    refine lv_aload_n hx hb dX12_caseOf_8 rfl (lv_at hl 0 rfl) ?_
    refine lv_aload_n hx hb dX12_caseOf_9 rfl (lv_at hl 0 rfl) ?_
    refine lv_iload_n hx hb dX12_caseOf_10 rfl (lv_at hl 1 rfl) ?_
    have hFc := free_all hD hS hA
    obtain ⟨k14, gk14, hk14⟩ := wGt (cy := cy) X S h_o1.1 h_o1.2.1
    refine va_callq (va_runV (As := [.int x1]) (rest := [.ref o1]) ⟨hx, hb, hml, hown, hts⟩ (c_X12_gearAt l (cy := cy) (X := X) (D := D) S _ o1 h_o1 x1 (hW) (by rw [f_of F4.1]; omega)) (cwV 1 hts gX12_caseOf_X12_gearAt rfl rfl rfl hd_X12_gearAt ⟨Nat.le_of_ble_eq_true rfl, Nat.le_of_ble_eq_true rfl⟩) ⟨fun a U g mk q => ⟨q.1, q.2.1, q.2.2.1.calling, NW.same (u := U) (U := U.calling g mk a) rfl q.2.2.2⟩, va_recv hK hP (q := (RX12, TX12, 34)) (ci := 16) (q0 := k14) rfl hk14, fun U hU hW => ⟨rfl, by rw [hU], wd_pre hP hK hD hU hW, hN.warm hW⟩⟩ rfl rfl hl.1 rfl (lv_room (Nat.le_of_ble_eq_true rfl)) dX12_caseOf_11 ⟨(Nat.zero_le _), (Nat.zero_le _)⟩) hS (fun q _ h => hFc q h) hFc (fun r15 u t H1 locs ht hvm hw hB hz1 hk1 hS => ?_)
    obtain ⟨r15, rfl, o16⟩ := hw
    obtain ⟨hP, hD⟩ := wd_post hFc ht hB
    generalize H1 = H at hP hS ⊢
    refine W.eq (g2 := F0 m 14 ls [.ref r15, .ref o1]) rfl ?_
    have hFc := free_all hD hS hA
    obtain ⟨k17, gk17, hk17⟩ := wGt (cy := cy) X S o16.1 o16.2.1
    refine va_calli (va_runV (As := []) (rest := [.ref o1]) ⟨hx, hb, hml, hown, hts⟩ (c_X10_caseLeft l (cy := cy) (X := X) (D := D) S _ r15 o16) (cwV 0 hts gX12_caseOf_X10_caseLeft rfl rfl rfl hd_X10_caseLeft ⟨Nat.le_of_ble_eq_true rfl, Nat.le_of_ble_eq_true rfl⟩) ⟨fun a U g mk q => ⟨q.1, q.2.1, q.2.2.1.calling, NW.same (u := U) (U := U.calling g mk a) rfl q.2.2.2⟩, va_recv hK hP (q := (RX10, TX10, 23)) (ci := 14) (q0 := k17) rfl hk17, fun U hU hW => ⟨rfl, by rw [hU], wd_pre hP hK hD hU hW, hN.warm hW⟩⟩ rfl rfl hl.1 rfl (lv_room (Nat.le_of_ble_eq_true rfl)) dX12_caseOf_14 ⟨(Nat.zero_le _), (Nat.zero_le _)⟩) hS (fun q _ h => hFc q h) hFc (fun r18 u t H1 locs ht hvm hw hB hz1 hk1 hS => ?_)
    clear hw
    obtain ⟨hP, hD⟩ := wd_post hFc ht hB
    generalize H1 = H at hP hS ⊢
    have hFc := free_all hD hS hA
    obtain ⟨k19, gk19, hk19⟩ := wGt (cy := cy) X S h_o1.1 h_o1.2.1
    refine va_calli (va_runV (As := [.int r18]) (rest := []) ⟨hx, hb, hml, hown, hts⟩ (c_X12_answer l (cy := cy) (X := X) (D := D) S _ o1 h_o1 r18 (hW)) (cwV 1 hts gX12_caseOf_X12_answer rfl rfl rfl hd_X12_answer ⟨Nat.le_of_ble_eq_true rfl, Nat.le_of_ble_eq_true rfl⟩) ⟨fun a U g mk q => ⟨q.1, q.2.1, q.2.2.1.calling, NW.same (u := U) (U := U.calling g mk a) rfl q.2.2.2⟩, va_recv hK hP (q := (RX12, TX12, 34)) (ci := 16) (q0 := k19) rfl hk19, fun U hU hW => ⟨rfl, by rw [hU], wd_pre hP hK hD hU hW, hN.warm hW⟩⟩ rfl rfl hl.1 rfl (lv_room (Nat.le_of_ble_eq_true rfl)) dX12_caseOf_17 ⟨(Nat.zero_le _), (Nat.zero_le _)⟩) hS (fun q _ h => hFc q h) hFc (fun r20 u t H1 locs ht hvm hw hB hz1 hk1 hS => ?_)
    obtain ⟨c21, w22⟩ := hw
    obtain ⟨hP, hD⟩ := wd_post hFc ht hB
    generalize H1 = H at hP hS ⊢
    obtain ⟨S23, rfl⟩ : ∃ z, z = u := ⟨_, rfl⟩
    have t24 : stp [(12, 15)] [] [] S S23 := t0.tr w22 (by decide) (fun _ q => absurd q List.not_mem_nil)
    have xe25 : ext S S23 := w22.x
    refine lv_goto (tgt := 28) hx hb dX12_caseOf_20 (by decide) ?_
    refine W.widen (k := 0) (n := 0) (Nat.le_of_ble_eq_true rfl) (Nat.le_of_ble_eq_true rfl) ?_
    exact W.iret (v := r20) hx hb hr (fun t ht hW9 => ⟨⟨r20, S23, rfl, t24, wd_end hP hK hD ht hW9.alike⟩, hS.F ht⟩) hS.2.2 dX12_caseOf_28 hlocks
theorem hd_X12_isClean : yX12_isClean.cls = RX12 ∧ yX12_isClean.cls ≠ "java/lang/invoke/MethodHandle" ∧ yX12_isClean.cls ≠ "java/lang/invoke/VarHandle" ∧ (parseMethodDescriptor yX12_isClean.desc).map (fun d => d.parameters.length) = some 1 := by decide +kernel
set_option maxHeartbeats 4000000 in
set_option maxRecDepth 100000 in
theorem c_X12_isClean (l : Launch) {D : va_G} {cy : Nat → ClassId} {X : va_W} (S : wPS) (sz : Nat) (o1 : Nat) (h_o1 : isA S o1 12) (x1 : Int32) (hW : wtB S [])  : Met l yX12_isClean wsX12_isClean ({ frames := 4, cells := 0, slots := 0, locals := 85 }) (va_Pc [.ref o1, .int x1] (fun U => U.heap.size = sz ∧ WD D cy X (fun _ => True) S U ∧ NW U)) (va_Qi (fun r (u : wPS) => stp [(12, 15)] [] [] S u ∧ narrow .boolean (.int r) = .int r) (fun u t => WD D cy X (va_A (X ++ PL cy S) sz) u t) (va_A (X ++ PL cy S) sz)) 0 0 (va_A (X ++ PL cy S) sz) := by
  refine Met.ofW (cc := cX12_isClean) (maxL := 2) (ret := (some .boolean)) (by decide) rfl ?_
  intro p e s m args below meth c s₁ B hml hv
  obtain ⟨rfl, hsz, ⟨hP, hK, hD0⟩, hN⟩ := hv
  have hx := B.exec
  have hb := B.bytes
  have hr := B.returns
  have hts := atoms_spec (ws := wsX12_isClean) B.pre
  have hown : s.vm.findClass RX12 = some m.cls := findClass_of_methodNamed (x := yX12_isClean) B.named
  have hlocks := B.notSynchronized
  subst hsz
  have hD := hD0.self (sz := s.heap.size)
  generalize hAe : va_A (X ++ PL cy S) s.heap.size = A at hD ⊢
  have hA : ∀ q : Nat, s.heap.size ≤ q → A q := fun q h => by rw [← hAe]; exact Or.inr h
  have hS : va_S A s.heap s.heap [] := va_S.rf
  have hl := lv_entry ([.ref o1, .int x1]) (n := 2) (Nat.le_of_ble_eq_true rfl)
  rw [lg_entry_eq]
  generalize (lg_sl ([.ref o1, .int x1]) ++ List.replicate (2 - (lg_sl ([.ref o1, .int x1])).length) Slot.unset).toArray = ls at hl ⊢
  have hl : lv_has ls 2 [(0, .ref o1), (1, .int x1)] := hl
  have t0 : stp [(12, 15)] [] [] S S := stp.rf hW
  refine lv_aload_n hx hb dX12_isClean_0 rfl (lv_at hl 0 rfl) ?_
  refine lv_iload_n hx hb dX12_isClean_1 rfl (lv_at hl 1 rfl) ?_
  have hFc := free_all hD hS hA
  obtain ⟨k1, gk1, hk1⟩ := wGt (cy := cy) X S h_o1.1 h_o1.2.1
  refine va_calli (va_runV (As := [.int x1]) (rest := []) ⟨hx, hb, hml, hown, hts⟩ (c_X12_isGear l (cy := cy) (X := X) (D := D) S _ o1 h_o1 x1 (hW)) (cwV 1 hts gX12_isClean_X12_isGear rfl rfl rfl hd_X12_isGear ⟨Nat.le_of_ble_eq_true rfl, Nat.le_of_ble_eq_true rfl⟩) ⟨fun a U g mk q => ⟨q.1, q.2.1, q.2.2.1.calling, NW.same (u := U) (U := U.calling g mk a) rfl q.2.2.2⟩, va_recv hK hP (q := (RX12, TX12, 34)) (ci := 16) (q0 := k1) rfl hk1, fun U hU hW => ⟨rfl, by rw [hU], wd_pre hP hK hD hU hW, hN.warm hW⟩⟩ rfl rfl hl.1 rfl (lv_room (Nat.le_of_ble_eq_true rfl)) dX12_isClean_2 ⟨(Nat.zero_le _), (Nat.zero_le _)⟩) hS (fun q _ h => hFc q h) hFc (fun r2 u t H1 locs ht hvm hw hB hz1 hk1 hS => ?_)
  have c3 := hw
  obtain ⟨hP, hD⟩ := wd_post hFc ht hB
  generalize H1 = H at hP hS ⊢
  obtain rfl : r2 = f_X12_isGear S o1 x1 := c3
  have F4 := ((hW.at h_o1 List.not_mem_nil).to_12 h_o1.2.1).F0
  have i5 : (f_X12_isGear S o1 x1).toInt = 0 ∨ (0 ≤ x1.toInt ∧ x1.toInt < (S.I (S.f o1 0) 2).toInt) := by have h9 := ig_rng x1 ((hW.at h_o1 List.not_mem_nil).to_12 h_o1.2.1) hW; rw [f_of F4.1] at h9; exact h9
  refine lv_if_ne (tgt := 14) hx hb dX12_isClean_5 (by decide) (fun c6 => ?_) (fun c6 => ?_)
  · have c6i : ¬ (f_X12_isGear S o1 x1).toInt = 0 := neq_v rfl rfl c6
    refine lv_aload_n hx hb dX12_isClean_14 rfl (lv_at hl 0 rfl) ?_
    refine lv_iload_n hx hb dX12_isClean_15 rfl (lv_at hl 1 rfl) ?_
    have hFc := free_all hD hS hA
    obtain ⟨k7, gk7, hk7⟩ := wGt (cy := cy) X S h_o1.1 h_o1.2.1
    refine va_callq (va_runV (As := [.int x1]) (rest := []) ⟨hx, hb, hml, hown, hts⟩ (c_X12_gearAt l (cy := cy) (X := X) (D := D) S _ o1 h_o1 x1 (hW) (by rw [f_of F4.1]; omega)) (cwV 1 hts gX12_isClean_X12_gearAt rfl rfl rfl hd_X12_gearAt ⟨Nat.le_of_ble_eq_true rfl, Nat.le_of_ble_eq_true rfl⟩) ⟨fun a U g mk q => ⟨q.1, q.2.1, q.2.2.1.calling, NW.same (u := U) (U := U.calling g mk a) rfl q.2.2.2⟩, va_recv hK hP (q := (RX12, TX12, 34)) (ci := 16) (q0 := k7) rfl hk7, fun U hU hW => ⟨rfl, by rw [hU], wd_pre hP hK hD hU hW, hN.warm hW⟩⟩ rfl rfl hl.1 rfl (lv_room (Nat.le_of_ble_eq_true rfl)) dX12_isClean_16 ⟨(Nat.zero_le _), (Nat.zero_le _)⟩) hS (fun q _ h => hFc q h) hFc (fun r8 u t H1 locs ht hvm hw hB hz1 hk1 hS => ?_)
    obtain ⟨r8, rfl, o9⟩ := hw
    obtain ⟨hP, hD⟩ := wd_post hFc ht hB
    generalize H1 = H at hP hS ⊢
    refine W.eq (g2 := F0 m 19 ls [.ref r8]) rfl ?_
    obtain ⟨k10, gk10, hk10⟩ := wGt (cy := cy) X S o9.1 o9.2.1
    have i11 := ((hW.at o9 List.not_mem_nil).to_10 o9.2.1).R19
    refine va_getN (D := D) (ci := 14) (v := .int (S.I r8 19)) (C := RX10) (T := TX10) (N := 23) hx hb hts (by decide +kernel) hown hK hP k10 hk10 rfl 19 (by decide) (va_Nw.use rfl (hN (.fieldLinkNest RX12 369 "HobhouseModel$Gear" "isHard" "Z" "HobhouseModel") (by decide +kernel))) (fun _ h9 => h9) rfl dX12_isClean_19 ?_
    refine lv_if_eq (tgt := 56) hx hb dX12_isClean_22 (by decide) (fun c12 => ?_) (fun c12 => ?_)
    · have c12i : (S.I r8 19).toInt = 0 := eq_v rfl rfl c12
      refine lv_aload_n hx hb dX12_isClean_56 rfl (lv_at hl 0 rfl) ?_
      refine lv_iconst (v := 2) hx hb dX12_isClean_57 (by decide) ?_
      have l32_2 : (2 : Int32).toInt = 2 := rfl
      have hFc := free_all hD hS hA
      obtain ⟨k13, gk13, hk13⟩ := wGt (cy := cy) X S h_o1.1 h_o1.2.1
      refine va_calli (va_runV (As := [.int (2 : Int32)]) (rest := []) ⟨hx, hb, hml, hown, hts⟩ (c_X12_refuses l (cy := cy) (X := X) (D := D) S _ o1 h_o1 (2 : Int32) (hW)) (cwV 1 hts gX12_isClean_X12_refuses rfl rfl rfl hd_X12_refuses ⟨Nat.le_of_ble_eq_true rfl, Nat.le_of_ble_eq_true rfl⟩) ⟨fun a U g mk q => ⟨q.1, q.2.1, q.2.2.1.calling, NW.same (u := U) (U := U.calling g mk a) rfl q.2.2.2⟩, va_recv hK hP (q := (RX12, TX12, 34)) (ci := 16) (q0 := k13) rfl hk13, fun U hU hW => ⟨rfl, by rw [hU], wd_pre hP hK hD hU hW, hN.warm hW⟩⟩ rfl rfl hl.1 rfl (lv_room (Nat.le_of_ble_eq_true rfl)) dX12_isClean_58 ⟨(Nat.zero_le _), (Nat.zero_le _)⟩) hS (fun q _ h => hFc q h) hFc (fun r14 u t H1 locs ht hvm hw hB hz1 hk1 hS => ?_)
      obtain ⟨w15, y16⟩ := hw
      obtain ⟨hP, hD⟩ := wd_post hFc ht hB
      generalize H1 = H at hP hS ⊢
      obtain ⟨S17, rfl⟩ : ∃ z, z = u := ⟨_, rfl⟩
      have t18 : stp [(12, 15)] [] [] S S17 := t0.tr w15 (by decide) (fun _ q => absurd q List.not_mem_nil)
      have xe19 : ext S S17 := w15.x
      refine W.widen (k := 0) (n := 0) (Nat.le_of_ble_eq_true rfl) (Nat.le_of_ble_eq_true rfl) ?_
      exact W.zret (v := r14) hx hb hr (y16) (fun t ht hW9 => ⟨⟨r14, S17, rfl, ⟨t18, (y16)⟩, wd_end hP hK hD ht hW9.alike⟩, hS.F ht⟩) hS.2.2 dX12_isClean_61 hlocks
    · have c12i : ¬ (S.I r8 19).toInt = 0 := neq_v rfl rfl c12
      refine lv_aload_n hx hb dX12_isClean_25 rfl (lv_at hl 0 rfl) ?_
      refine lv_aload_n hx hb dX12_isClean_26 rfl (lv_at hl 0 rfl) ?_
      refine lv_iload_n hx hb dX12_isClean_27 rfl (lv_at hl 1 rfl) ?_
      have hFc := free_all hD hS hA
      obtain ⟨k20, gk20, hk20⟩ := wGt (cy := cy) X S h_o1.1 h_o1.2.1
      refine va_callq (va_runV (As := [.int x1]) (rest := [.ref o1]) ⟨hx, hb, hml, hown, hts⟩ (c_X12_gearAt l (cy := cy) (X := X) (D := D) S _ o1 h_o1 x1 (hW) (by rw [f_of F4.1]; omega)) (cwV 1 hts gX12_isClean_X12_gearAt rfl rfl rfl hd_X12_gearAt ⟨Nat.le_of_ble_eq_true rfl, Nat.le_of_ble_eq_true rfl⟩) ⟨fun a U g mk q => ⟨q.1, q.2.1, q.2.2.1.calling, NW.same (u := U) (U := U.calling g mk a) rfl q.2.2.2⟩, va_recv hK hP (q := (RX12, TX12, 34)) (ci := 16) (q0 := k20) rfl hk20, fun U hU hW => ⟨rfl, by rw [hU], wd_pre hP hK hD hU hW, hN.warm hW⟩⟩ rfl rfl hl.1 rfl (lv_room (Nat.le_of_ble_eq_true rfl)) dX12_isClean_28 ⟨(Nat.zero_le _), (Nat.zero_le _)⟩) hS (fun q _ h => hFc q h) hFc (fun r21 u t H1 locs ht hvm hw hB hz1 hk1 hS => ?_)
      obtain ⟨r21, rfl, o22⟩ := hw
      obtain ⟨hP, hD⟩ := wd_post hFc ht hB
      generalize H1 = H at hP hS ⊢
      refine W.eq (g2 := F0 m 31 ls [.ref r21, .ref o1]) rfl ?_
      obtain ⟨k23, gk23, hk23⟩ := wGt (cy := cy) X S o22.1 o22.2.1
      refine va_getN (D := D) (ci := 14) (v := .int (S.I r21 15)) (C := RX10) (T := TX10) (N := 23) hx hb hts (by decide +kernel) hown hK hP k23 hk23 rfl 15 (by decide) (va_Nw.use rfl (hN (.fieldLinkNest RX12 389 "HobhouseModel$Gear" "had" "I" "HobhouseModel") (by decide +kernel))) (fun _ h9 => h9) rfl dX12_isClean_31 ?_
      refine lv_aload_n hx hb dX12_isClean_34 rfl (lv_at hl 0 rfl) ?_
      refine lv_iload_n hx hb dX12_isClean_35 rfl (lv_at hl 1 rfl) ?_
      have hFc := free_all hD hS hA
      obtain ⟨k24, gk24, hk24⟩ := wGt (cy := cy) X S h_o1.1 h_o1.2.1
      refine va_callq (va_runV (As := [.int x1]) (rest := [.int (S.I r21 15), .ref o1]) ⟨hx, hb, hml, hown, hts⟩ (c_X12_gearAt l (cy := cy) (X := X) (D := D) S _ o1 h_o1 x1 (hW) (by rw [f_of F4.1]; omega)) (cwV 1 hts gX12_isClean_X12_gearAt rfl rfl rfl hd_X12_gearAt ⟨Nat.le_of_ble_eq_true rfl, Nat.le_of_ble_eq_true rfl⟩) ⟨fun a U g mk q => ⟨q.1, q.2.1, q.2.2.1.calling, NW.same (u := U) (U := U.calling g mk a) rfl q.2.2.2⟩, va_recv hK hP (q := (RX12, TX12, 34)) (ci := 16) (q0 := k24) rfl hk24, fun U hU hW => ⟨rfl, by rw [hU], wd_pre hP hK hD hU hW, hN.warm hW⟩⟩ rfl rfl hl.1 rfl (lv_room (Nat.le_of_ble_eq_true rfl)) dX12_isClean_36 ⟨(Nat.zero_le _), (Nat.zero_le _)⟩) hS (fun q _ h => hFc q h) hFc (fun r25 u t H1 locs ht hvm hw hB hz1 hk1 hS => ?_)
      obtain ⟨r25, rfl, o26⟩ := hw
      obtain ⟨hP, hD⟩ := wd_post hFc ht hB
      generalize H1 = H at hP hS ⊢
      refine W.eq (g2 := F0 m 39 ls [.ref r25, .int (S.I r21 15), .ref o1]) rfl ?_
      obtain ⟨k27, gk27, hk27⟩ := wGt (cy := cy) X S o26.1 o26.2.1
      refine va_getN (D := D) (ci := 14) (v := .int (S.I r25 14)) (C := RX10) (T := TX10) (N := 23) hx hb hts (by decide +kernel) hown hK hP k27 hk27 rfl 14 (by decide) (va_Nw.use rfl (hN (.fieldLinkNest RX12 386 "HobhouseModel$Gear" "need" "I" "HobhouseModel") (by decide +kernel))) (fun _ h9 => h9) rfl dX12_isClean_39 ?_
      refine lv_icmp_lt (tgt := 49) hx hb dX12_isClean_42 (by decide) (fun c28 => ?_) (fun c28 => ?_)
      · have c28i : (S.I r21 15).toInt < (S.I r25 14).toInt := lt_v rfl rfl c28
        refine lv_iconst (v := 0) hx hb dX12_isClean_49 (by decide) ?_
        have l32_0 : (0 : Int32).toInt = 0 := rfl
        have hFc := free_all hD hS hA
        obtain ⟨k29, gk29, hk29⟩ := wGt (cy := cy) X S h_o1.1 h_o1.2.1
        refine va_calli (va_runV (As := [.int (0 : Int32)]) (rest := []) ⟨hx, hb, hml, hown, hts⟩ (c_X12_says l (cy := cy) (X := X) (D := D) S _ o1 h_o1 (0 : Int32) (hW) (by rfl)) (cwV 1 hts gX12_isClean_X12_says rfl rfl rfl hd_X12_says ⟨Nat.le_of_ble_eq_true rfl, Nat.le_of_ble_eq_true rfl⟩) ⟨fun a U g mk q => ⟨q.1, q.2.1, q.2.2.1.calling, NW.same (u := U) (U := U.calling g mk a) rfl q.2.2.2⟩, va_recv hK hP (q := (RX12, TX12, 34)) (ci := 16) (q0 := k29) rfl hk29, fun U hU hW => ⟨rfl, by rw [hU], wd_pre hP hK hD hU hW, hN.warm hW⟩⟩ rfl rfl hl.1 rfl (lv_room (Nat.le_of_ble_eq_true rfl)) dX12_isClean_50 ⟨(Nat.zero_le _), (Nat.zero_le _)⟩) hS (fun q _ h => hFc q h) hFc (fun r30 u t H1 locs ht hvm hw hB hz1 hk1 hS => ?_)
        obtain ⟨w31, y32⟩ := hw
        obtain ⟨hP, hD⟩ := wd_post hFc ht hB
        generalize H1 = H at hP hS ⊢
        obtain ⟨S33, rfl⟩ : ∃ z, z = u := ⟨_, rfl⟩
        have t34 : stp [(12, 15)] [] [] S S33 := t0.tr w31 (by decide) (fun _ q => absurd q List.not_mem_nil)
        have xe35 : ext S S33 := w31.x
        refine lv_goto (tgt := 61) hx hb dX12_isClean_53 (by decide) ?_
        refine W.widen (k := 0) (n := 0) (Nat.le_of_ble_eq_true rfl) (Nat.le_of_ble_eq_true rfl) ?_
        exact W.zret (v := r30) hx hb hr (y32) (fun t ht hW9 => ⟨⟨r30, S33, rfl, ⟨t34, (y32)⟩, wd_end hP hK hD ht hW9.alike⟩, hS.F ht⟩) hS.2.2 dX12_isClean_61 hlocks
      · have c28i : (S.I r25 14).toInt ≤ (S.I r21 15).toInt := nlt_v rfl rfl c28
        refine lv_iconst (v := 1) hx hb dX12_isClean_45 (by decide) ?_
        refine lv_goto (tgt := 50) hx hb dX12_isClean_46 (by decide) ?_
        have l32_1 : (1 : Int32).toInt = 1 := rfl
        have hFc := free_all hD hS hA
        obtain ⟨k36, gk36, hk36⟩ := wGt (cy := cy) X S h_o1.1 h_o1.2.1
        refine va_calli (va_runV (As := [.int (1 : Int32)]) (rest := []) ⟨hx, hb, hml, hown, hts⟩ (c_X12_says l (cy := cy) (X := X) (D := D) S _ o1 h_o1 (1 : Int32) (hW) (by rfl)) (cwV 1 hts gX12_isClean_X12_says rfl rfl rfl hd_X12_says ⟨Nat.le_of_ble_eq_true rfl, Nat.le_of_ble_eq_true rfl⟩) ⟨fun a U g mk q => ⟨q.1, q.2.1, q.2.2.1.calling, NW.same (u := U) (U := U.calling g mk a) rfl q.2.2.2⟩, va_recv hK hP (q := (RX12, TX12, 34)) (ci := 16) (q0 := k36) rfl hk36, fun U hU hW => ⟨rfl, by rw [hU], wd_pre hP hK hD hU hW, hN.warm hW⟩⟩ rfl rfl hl.1 rfl (lv_room (Nat.le_of_ble_eq_true rfl)) dX12_isClean_50 ⟨(Nat.zero_le _), (Nat.zero_le _)⟩) hS (fun q _ h => hFc q h) hFc (fun r37 u t H1 locs ht hvm hw hB hz1 hk1 hS => ?_)
        obtain ⟨w38, y39⟩ := hw
        obtain ⟨hP, hD⟩ := wd_post hFc ht hB
        generalize H1 = H at hP hS ⊢
        obtain ⟨S40, rfl⟩ : ∃ z, z = u := ⟨_, rfl⟩
        have t41 : stp [(12, 15)] [] [] S S40 := t0.tr w38 (by decide) (fun _ q => absurd q List.not_mem_nil)
        have xe42 : ext S S40 := w38.x
        refine lv_goto (tgt := 61) hx hb dX12_isClean_53 (by decide) ?_
        refine W.widen (k := 0) (n := 0) (Nat.le_of_ble_eq_true rfl) (Nat.le_of_ble_eq_true rfl) ?_
        exact W.zret (v := r37) hx hb hr (y39) (fun t ht hW9 => ⟨⟨r37, S40, rfl, ⟨t41, (y39)⟩, wd_end hP hK hD ht hW9.alike⟩, hS.F ht⟩) hS.2.2 dX12_isClean_61 hlocks
  · have c6i : (f_X12_isGear S o1 x1).toInt = 0 := eq_v rfl rfl c6
    refine lv_aload_n hx hb dX12_isClean_8 rfl (lv_at hl 0 rfl) ?_
    refine lv_iconst (v := 1) hx hb dX12_isClean_9 (by decide) ?_
    have l32_1 : (1 : Int32).toInt = 1 := rfl
    have hFc := free_all hD hS hA
    obtain ⟨k43, gk43, hk43⟩ := wGt (cy := cy) X S h_o1.1 h_o1.2.1
    refine va_calli (va_runV (As := [.int (1 : Int32)]) (rest := []) ⟨hx, hb, hml, hown, hts⟩ (c_X12_refuses l (cy := cy) (X := X) (D := D) S _ o1 h_o1 (1 : Int32) (hW)) (cwV 1 hts gX12_isClean_X12_refuses rfl rfl rfl hd_X12_refuses ⟨Nat.le_of_ble_eq_true rfl, Nat.le_of_ble_eq_true rfl⟩) ⟨fun a U g mk q => ⟨q.1, q.2.1, q.2.2.1.calling, NW.same (u := U) (U := U.calling g mk a) rfl q.2.2.2⟩, va_recv hK hP (q := (RX12, TX12, 34)) (ci := 16) (q0 := k43) rfl hk43, fun U hU hW => ⟨rfl, by rw [hU], wd_pre hP hK hD hU hW, hN.warm hW⟩⟩ rfl rfl hl.1 rfl (lv_room (Nat.le_of_ble_eq_true rfl)) dX12_isClean_10 ⟨(Nat.zero_le _), (Nat.zero_le _)⟩) hS (fun q _ h => hFc q h) hFc (fun r44 u t H1 locs ht hvm hw hB hz1 hk1 hS => ?_)
    obtain ⟨w45, y46⟩ := hw
    obtain ⟨hP, hD⟩ := wd_post hFc ht hB
    generalize H1 = H at hP hS ⊢
    obtain ⟨S47, rfl⟩ : ∃ z, z = u := ⟨_, rfl⟩
    have t48 : stp [(12, 15)] [] [] S S47 := t0.tr w45 (by decide) (fun _ q => absurd q List.not_mem_nil)
    have xe49 : ext S S47 := w45.x
    refine W.widen (k := 0) (n := 0) (Nat.le_of_ble_eq_true rfl) (Nat.le_of_ble_eq_true rfl) ?_
    exact W.zret (v := r44) hx hb hr (y46) (fun t ht hW9 => ⟨⟨r44, S47, rfl, ⟨t48, (y46)⟩, wd_end hP hK hD ht hW9.alike⟩, hS.F ht⟩) hS.2.2 dX12_isClean_13 hlocks
theorem hd_X12_grind : yX12_grind.cls = RX12 ∧ yX12_grind.cls ≠ "java/lang/invoke/MethodHandle" ∧ yX12_grind.cls ≠ "java/lang/invoke/VarHandle" ∧ (parseMethodDescriptor yX12_grind.desc).map (fun d => d.parameters.length) = some 3 := by decide +kernel
set_option maxHeartbeats 4000000 in
set_option maxRecDepth 100000 in
theorem c_X12_grind (l : Launch) {D : va_G} {cy : Nat → ClassId} {X : va_W} (S : wPS) (sz : Nat) (o1 : Nat) (h_o1 : isA S o1 12) (x1 : Int32) (x2 : Int32) (x3 : Int32) (hW : wtB S [])  : Met l yX12_grind wsX12_grind ({ frames := 4, cells := 0, slots := 0, locals := 85 }) (va_Pc [.ref o1, .int x1, .int x2, .int x3] (fun U => U.heap.size = sz ∧ WD D cy X (fun _ => True) S U ∧ NW U)) (va_Qi (fun r (u : wPS) => stp [(10, 9), (10, 13), (10, 20), (10, 21), (12, 15)] [] [] S u) (fun u t => WD D cy X (va_A (X ++ PL cy S) sz) u t) (va_A (X ++ PL cy S) sz)) 0 0 (va_A (X ++ PL cy S) sz) := by
  refine Met.ofW (cc := cX12_grind) (maxL := 6) (ret := (some .int)) (by decide) rfl ?_
  intro p e s m args below meth c s₁ B hml hv
  obtain ⟨rfl, hsz, ⟨hP, hK, hD0⟩, hN⟩ := hv
  have hx := B.exec
  have hb := B.bytes
  have hr := B.returns
  have hts := atoms_spec (ws := wsX12_grind) B.pre
  have hown : s.vm.findClass RX12 = some m.cls := findClass_of_methodNamed (x := yX12_grind) B.named
  have hlocks := B.notSynchronized
  subst hsz
  have hD := hD0.self (sz := s.heap.size)
  generalize hAe : va_A (X ++ PL cy S) s.heap.size = A at hD ⊢
  have hA : ∀ q : Nat, s.heap.size ≤ q → A q := fun q h => by rw [← hAe]; exact Or.inr h
  have hS : va_S A s.heap s.heap [] := va_S.rf
  have hl := lv_entry ([.ref o1, .int x1, .int x2, .int x3]) (n := 6) (Nat.le_of_ble_eq_true rfl)
  rw [lg_entry_eq]
  generalize (lg_sl ([.ref o1, .int x1, .int x2, .int x3]) ++ List.replicate (6 - (lg_sl ([.ref o1, .int x1, .int x2, .int x3])).length) Slot.unset).toArray = ls at hl ⊢
  have hl : lv_has ls 6 [(0, .ref o1), (1, .int x1), (2, .int x2), (3, .int x3)] := hl
  have t0 : stp [(10, 9), (10, 13), (10, 20), (10, 21), (12, 15)] [] [] S S := stp.rf hW
  refine lv_aload_n hx hb dX12_grind_0 rfl (lv_at hl 0 rfl) ?_
  refine lv_iload_n hx hb dX12_grind_1 rfl (lv_at hl 1 rfl) ?_
  have hFc := free_all hD hS hA
  obtain ⟨k1, gk1, hk1⟩ := wGt (cy := cy) X S h_o1.1 h_o1.2.1
  refine va_calli (va_runV (As := [.int x1]) (rest := []) ⟨hx, hb, hml, hown, hts⟩ (c_X12_isGear l (cy := cy) (X := X) (D := D) S _ o1 h_o1 x1 (hW)) (cwV 1 hts gX12_grind_X12_isGear rfl rfl rfl hd_X12_isGear ⟨Nat.le_of_ble_eq_true rfl, Nat.le_of_ble_eq_true rfl⟩) ⟨fun a U g mk q => ⟨q.1, q.2.1, q.2.2.1.calling, NW.same (u := U) (U := U.calling g mk a) rfl q.2.2.2⟩, va_recv hK hP (q := (RX12, TX12, 34)) (ci := 16) (q0 := k1) rfl hk1, fun U hU hW => ⟨rfl, by rw [hU], wd_pre hP hK hD hU hW, hN.warm hW⟩⟩ rfl rfl hl.1 rfl (lv_room (Nat.le_of_ble_eq_true rfl)) dX12_grind_2 ⟨(Nat.zero_le _), (Nat.zero_le _)⟩) hS (fun q _ h => hFc q h) hFc (fun r2 u t H1 locs ht hvm hw hB hz1 hk1 hS => ?_)
  have c3 := hw
  obtain ⟨hP, hD⟩ := wd_post hFc ht hB
  generalize H1 = H at hP hS ⊢
  obtain rfl : r2 = f_X12_isGear S o1 x1 := c3
  have F4 := ((hW.at h_o1 List.not_mem_nil).to_12 h_o1.2.1).F0
  have i5 : (f_X12_isGear S o1 x1).toInt = 0 ∨ (0 ≤ x1.toInt ∧ x1.toInt < (S.I (S.f o1 0) 2).toInt) := by have h9 := ig_rng x1 ((hW.at h_o1 List.not_mem_nil).to_12 h_o1.2.1) hW; rw [f_of F4.1] at h9; exact h9
  refine lv_if_ne (tgt := 14) hx hb dX12_grind_5 (by decide) (fun c6 => ?_) (fun c6 => ?_)
  · have c6i : ¬ (f_X12_isGear S o1 x1).toInt = 0 := neq_v rfl rfl c6
    refine lv_iload_n hx hb dX12_grind_14 rfl (lv_at hl 2 rfl) ?_
    refine lv_i2l hx hb dX12_grind_15 rfl ?_
    refine lv_lconst (v := 1) hx hb dX12_grind_16 (by decide) ?_
    refine lv_ldc2 (own := RX12) (v := 99) hx hb hown (hts (.constantLong RX12 312 (99)) (by decide +kernel)) dX12_grind_17 ?_
    have hFc := free_all hD hS hA
    refine va_calli (va_runS (As := [.long x2.toInt64, .long (1 : Int64), .long (99 : Int64)]) (rest := []) ⟨hx, hb, hml, hown, hts⟩ (c_X12_in l (cy := cy) (X := X) (D := D) S _ x2.toInt64 (1 : Int64) (99 : Int64)) (cwS 3 hts gX12_grind_X12_in rfl rfl rfl hd_X12_in ⟨Nat.le_of_ble_eq_true rfl, Nat.le_of_ble_eq_true rfl⟩) ⟨fun a U g mk q => ⟨q.1, q.2.1, q.2.2.1.calling, NW.same (u := U) (U := U.calling g mk a) rfl q.2.2.2⟩, fun U hU hW => ⟨rfl, by rw [hU], wd_pre hP hK hD hU hW, hN.warm hW⟩⟩ rfl rfl hl.1 rfl (lv_room (Nat.le_of_ble_eq_true rfl)) dX12_grind_20 ⟨(Nat.zero_le _), (Nat.zero_le _)⟩) hS (fun q _ h => hFc q h) hFc (fun r7 u t H1 locs ht hvm hw hB hz1 hk1 hS => ?_)
    have c8 := hw
    obtain ⟨hP, hD⟩ := wd_post hFc ht hB
    generalize H1 = H at hP hS ⊢
    obtain rfl : r7 = f_X12_in x2.toInt64 (1 : Int64) (99 : Int64) := c8
    have i9 := i64_i x2
    have l64_1 : (1 : Int64).toInt = 1 := rfl
    have l64_99 : (99 : Int64).toInt = 99 := rfl
    have i10 := in_rng x2.toInt64 (1 : Int64) (99 : Int64)
    refine lv_if_eq (tgt := 38) hx hb dX12_grind_23 (by decide) (fun c11 => ?_) (fun c11 => ?_)
    · have c11i : (f_X12_in x2.toInt64 (1 : Int64) (99 : Int64)).toInt = 0 := eq_v rfl rfl c11
      refine lv_aload_n hx hb dX12_grind_38 rfl (lv_at hl 0 rfl) ?_
      refine lv_iconst (v := 2) hx hb dX12_grind_39 (by decide) ?_
      have l32_2 : (2 : Int32).toInt = 2 := rfl
      have hFc := free_all hD hS hA
      obtain ⟨k12, gk12, hk12⟩ := wGt (cy := cy) X S h_o1.1 h_o1.2.1
      refine va_calli (va_runV (As := [.int (2 : Int32)]) (rest := []) ⟨hx, hb, hml, hown, hts⟩ (c_X12_fails l (cy := cy) (X := X) (D := D) S _ o1 h_o1 (2 : Int32) (hW)) (cwV 1 hts gX12_grind_X12_fails rfl rfl rfl hd_X12_fails ⟨Nat.le_of_ble_eq_true rfl, Nat.le_of_ble_eq_true rfl⟩) ⟨fun a U g mk q => ⟨q.1, q.2.1, q.2.2.1.calling, NW.same (u := U) (U := U.calling g mk a) rfl q.2.2.2⟩, va_recv hK hP (q := (RX12, TX12, 34)) (ci := 16) (q0 := k12) rfl hk12, fun U hU hW => ⟨rfl, by rw [hU], wd_pre hP hK hD hU hW, hN.warm hW⟩⟩ rfl rfl hl.1 rfl (lv_room (Nat.le_of_ble_eq_true rfl)) dX12_grind_40 ⟨(Nat.zero_le _), (Nat.zero_le _)⟩) hS (fun q _ h => hFc q h) hFc (fun r13 u t H1 locs ht hvm hw hB hz1 hk1 hS => ?_)
      obtain ⟨c14, w15⟩ := hw
      obtain ⟨hP, hD⟩ := wd_post hFc ht hB
      generalize H1 = H at hP hS ⊢
      obtain ⟨S16, rfl⟩ : ∃ z, z = u := ⟨_, rfl⟩
      have t17 : stp [(10, 9), (10, 13), (10, 20), (10, 21), (12, 15)] [] [] S S16 := t0.tr w15 (by decide) (fun _ q => absurd q List.not_mem_nil)
      have xe18 : ext S S16 := w15.x
      refine W.widen (k := 0) (n := 0) (Nat.le_of_ble_eq_true rfl) (Nat.le_of_ble_eq_true rfl) ?_
      exact W.iret (v := r13) hx hb hr (fun t ht hW9 => ⟨⟨r13, S16, rfl, t17, wd_end hP hK hD ht hW9.alike⟩, hS.F ht⟩) hS.2.2 dX12_grind_43 hlocks
    · have c11i : ¬ (f_X12_in x2.toInt64 (1 : Int64) (99 : Int64)).toInt = 0 := neq_v rfl rfl c11
      refine lv_iload_n hx hb dX12_grind_26 rfl (lv_at hl 3 rfl) ?_
      refine lv_i2l hx hb dX12_grind_27 rfl ?_
      refine lv_lconst (v := 1) hx hb dX12_grind_28 (by decide) ?_
      refine lv_ldc2 (own := RX12) (v := 999) hx hb hown (hts (.constantLong RX12 395 (999)) (by decide +kernel)) dX12_grind_29 ?_
      have hFc := free_all hD hS hA
      refine va_calli (va_runS (As := [.long x3.toInt64, .long (1 : Int64), .long (999 : Int64)]) (rest := []) ⟨hx, hb, hml, hown, hts⟩ (c_X12_in l (cy := cy) (X := X) (D := D) S _ x3.toInt64 (1 : Int64) (999 : Int64)) (cwS 3 hts gX12_grind_X12_in rfl rfl rfl hd_X12_in ⟨Nat.le_of_ble_eq_true rfl, Nat.le_of_ble_eq_true rfl⟩) ⟨fun a U g mk q => ⟨q.1, q.2.1, q.2.2.1.calling, NW.same (u := U) (U := U.calling g mk a) rfl q.2.2.2⟩, fun U hU hW => ⟨rfl, by rw [hU], wd_pre hP hK hD hU hW, hN.warm hW⟩⟩ rfl rfl hl.1 rfl (lv_room (Nat.le_of_ble_eq_true rfl)) dX12_grind_32 ⟨(Nat.zero_le _), (Nat.zero_le _)⟩) hS (fun q _ h => hFc q h) hFc (fun r19 u t H1 locs ht hvm hw hB hz1 hk1 hS => ?_)
      have c20 := hw
      obtain ⟨hP, hD⟩ := wd_post hFc ht hB
      generalize H1 = H at hP hS ⊢
      obtain rfl : r19 = f_X12_in x3.toInt64 (1 : Int64) (999 : Int64) := c20
      have i21 := i64_i x3
      have l64_999 : (999 : Int64).toInt = 999 := rfl
      have i22 := in_rng x3.toInt64 (1 : Int64) (999 : Int64)
      refine lv_if_ne (tgt := 44) hx hb dX12_grind_35 (by decide) (fun c23 => ?_) (fun c23 => ?_)
      · have c23i : ¬ (f_X12_in x3.toInt64 (1 : Int64) (999 : Int64)).toInt = 0 := neq_v rfl rfl c23
        refine lv_aload_n hx hb dX12_grind_44 rfl (lv_at hl 0 rfl) ?_
        refine lv_iload_n hx hb dX12_grind_45 rfl (lv_at hl 1 rfl) ?_
        have hFc := free_all hD hS hA
        obtain ⟨k24, gk24, hk24⟩ := wGt (cy := cy) X S h_o1.1 h_o1.2.1
        refine va_callq (va_runV (As := [.int x1]) (rest := []) ⟨hx, hb, hml, hown, hts⟩ (c_X12_gearAt l (cy := cy) (X := X) (D := D) S _ o1 h_o1 x1 (hW) (by rw [f_of F4.1]; omega)) (cwV 1 hts gX12_grind_X12_gearAt rfl rfl rfl hd_X12_gearAt ⟨Nat.le_of_ble_eq_true rfl, Nat.le_of_ble_eq_true rfl⟩) ⟨fun a U g mk q => ⟨q.1, q.2.1, q.2.2.1.calling, NW.same (u := U) (U := U.calling g mk a) rfl q.2.2.2⟩, va_recv hK hP (q := (RX12, TX12, 34)) (ci := 16) (q0 := k24) rfl hk24, fun U hU hW => ⟨rfl, by rw [hU], wd_pre hP hK hD hU hW, hN.warm hW⟩⟩ rfl rfl hl.1 rfl (lv_room (Nat.le_of_ble_eq_true rfl)) dX12_grind_46 ⟨(Nat.zero_le _), (Nat.zero_le _)⟩) hS (fun q _ h => hFc q h) hFc (fun r25 u t H1 locs ht hvm hw hB hz1 hk1 hS => ?_)
        obtain ⟨r25, rfl, o26⟩ := hw
        obtain ⟨hP, hD⟩ := wd_post hFc ht hB
        generalize H1 = H at hP hS ⊢
        refine W.eq (g2 := F0 m 49 ls [.ref r25]) rfl ?_
        refine lv_astore (lv' := [(4, .ref r25), (0, .ref o1), (1, .int x1), (2, .int x2), (3, .int x3)]) hx hb dX12_grind_49 hl (by decide) rfl (fun ls hl => ?_)
        refine lv_aload hx hb dX12_grind_51 (lv_at hl 0 rfl) ?_
        obtain ⟨k27, gk27, hk27⟩ := wGt (cy := cy) X S o26.1 o26.2.1
        have i28 := ((hW.at o26 List.not_mem_nil).to_10 o26.2.1).R18
        refine va_getN (D := D) (ci := 14) (v := .int (S.I r25 18)) (C := RX10) (T := TX10) (N := 23) hx hb hts (by decide +kernel) hown hK hP k27 hk27 rfl 18 (by decide) (va_Nw.use rfl (hN (.fieldLinkNest RX12 160 "HobhouseModel$Gear" "isCut" "Z" "HobhouseModel") (by decide +kernel))) (fun _ h9 => h9) rfl dX12_grind_53 ?_
        refine lv_if_eq (tgt := 83) hx hb dX12_grind_56 (by decide) (fun c29 => ?_) (fun c29 => ?_)
        · have c29i : (S.I r25 18).toInt = 0 := eq_v rfl rfl c29
          refine lv_aload_n hx hb dX12_grind_83 rfl (lv_at hl 1 rfl) ?_
          refine lv_iconst (v := 3) hx hb dX12_grind_84 (by decide) ?_
          have l32_3 : (3 : Int32).toInt = 3 := rfl
          have hFc := free_all hD hS hA
          obtain ⟨k30, gk30, hk30⟩ := wGt (cy := cy) X S h_o1.1 h_o1.2.1
          refine va_calli (va_runV (As := [.int (3 : Int32)]) (rest := []) ⟨hx, hb, hml, hown, hts⟩ (c_X12_fails l (cy := cy) (X := X) (D := D) S _ o1 h_o1 (3 : Int32) (hW)) (cwV 1 hts gX12_grind_X12_fails rfl rfl rfl hd_X12_fails ⟨Nat.le_of_ble_eq_true rfl, Nat.le_of_ble_eq_true rfl⟩) ⟨fun a U g mk q => ⟨q.1, q.2.1, q.2.2.1.calling, NW.same (u := U) (U := U.calling g mk a) rfl q.2.2.2⟩, va_recv hK hP (q := (RX12, TX12, 34)) (ci := 16) (q0 := k30) rfl hk30, fun U hU hW => ⟨rfl, by rw [hU], wd_pre hP hK hD hU hW, hN.warm hW⟩⟩ rfl rfl hl.1 rfl (lv_room (Nat.le_of_ble_eq_true rfl)) dX12_grind_85 ⟨(Nat.zero_le _), (Nat.zero_le _)⟩) hS (fun q _ h => hFc q h) hFc (fun r31 u t H1 locs ht hvm hw hB hz1 hk1 hS => ?_)
          obtain ⟨c32, w33⟩ := hw
          obtain ⟨hP, hD⟩ := wd_post hFc ht hB
          generalize H1 = H at hP hS ⊢
          obtain ⟨S34, rfl⟩ : ∃ z, z = u := ⟨_, rfl⟩
          have t35 : stp [(10, 9), (10, 13), (10, 20), (10, 21), (12, 15)] [] [] S S34 := t0.tr w33 (by decide) (fun _ q => absurd q List.not_mem_nil)
          have xe36 : ext S S34 := w33.x
          refine W.widen (k := 0) (n := 0) (Nat.le_of_ble_eq_true rfl) (Nat.le_of_ble_eq_true rfl) ?_
          exact W.iret (v := r31) hx hb hr (fun t ht hW9 => ⟨⟨r31, S34, rfl, t35, wd_end hP hK hD ht hW9.alike⟩, hS.F ht⟩) hS.2.2 dX12_grind_88 hlocks
        · have c29i : ¬ (S.I r25 18).toInt = 0 := neq_v rfl rfl c29
          refine lv_aload hx hb dX12_grind_59 (lv_at hl 0 rfl) ?_
          obtain ⟨k37, gk37, hk37⟩ := wGt (cy := cy) X S o26.1 o26.2.1
          have i38 := ((hW.at o26 List.not_mem_nil).to_10 o26.2.1).R20
          refine va_getN (D := D) (ci := 14) (v := .int (S.I r25 20)) (C := RX10) (T := TX10) (N := 23) hx hb hts (by decide +kernel) hown hK hP k37 hk37 rfl 20 (by decide) (va_Nw.use rfl (hN (.fieldLinkNest RX12 372 "HobhouseModel$Gear" "isScrap" "Z" "HobhouseModel") (by decide +kernel))) (fun _ h9 => h9) rfl dX12_grind_61 ?_
          refine lv_if_ne (tgt := 83) hx hb dX12_grind_64 (by decide) (fun c39 => ?_) (fun c39 => ?_)
          · have c39i : ¬ (S.I r25 20).toInt = 0 := neq_v rfl rfl c39
            refine lv_aload_n hx hb dX12_grind_83 rfl (lv_at hl 1 rfl) ?_
            refine lv_iconst (v := 3) hx hb dX12_grind_84 (by decide) ?_
            have l32_3 : (3 : Int32).toInt = 3 := rfl
            have hFc := free_all hD hS hA
            obtain ⟨k40, gk40, hk40⟩ := wGt (cy := cy) X S h_o1.1 h_o1.2.1
            refine va_calli (va_runV (As := [.int (3 : Int32)]) (rest := []) ⟨hx, hb, hml, hown, hts⟩ (c_X12_fails l (cy := cy) (X := X) (D := D) S _ o1 h_o1 (3 : Int32) (hW)) (cwV 1 hts gX12_grind_X12_fails rfl rfl rfl hd_X12_fails ⟨Nat.le_of_ble_eq_true rfl, Nat.le_of_ble_eq_true rfl⟩) ⟨fun a U g mk q => ⟨q.1, q.2.1, q.2.2.1.calling, NW.same (u := U) (U := U.calling g mk a) rfl q.2.2.2⟩, va_recv hK hP (q := (RX12, TX12, 34)) (ci := 16) (q0 := k40) rfl hk40, fun U hU hW => ⟨rfl, by rw [hU], wd_pre hP hK hD hU hW, hN.warm hW⟩⟩ rfl rfl hl.1 rfl (lv_room (Nat.le_of_ble_eq_true rfl)) dX12_grind_85 ⟨(Nat.zero_le _), (Nat.zero_le _)⟩) hS (fun q _ h => hFc q h) hFc (fun r41 u t H1 locs ht hvm hw hB hz1 hk1 hS => ?_)
            obtain ⟨c42, w43⟩ := hw
            obtain ⟨hP, hD⟩ := wd_post hFc ht hB
            generalize H1 = H at hP hS ⊢
            obtain ⟨S44, rfl⟩ : ∃ z, z = u := ⟨_, rfl⟩
            have t45 : stp [(10, 9), (10, 13), (10, 20), (10, 21), (12, 15)] [] [] S S44 := t0.tr w43 (by decide) (fun _ q => absurd q List.not_mem_nil)
            have xe46 : ext S S44 := w43.x
            refine W.widen (k := 0) (n := 0) (Nat.le_of_ble_eq_true rfl) (Nat.le_of_ble_eq_true rfl) ?_
            exact W.iret (v := r41) hx hb hr (fun t ht hW9 => ⟨⟨r41, S44, rfl, t45, wd_end hP hK hD ht hW9.alike⟩, hS.F ht⟩) hS.2.2 dX12_grind_88 hlocks
          · have c39i : (S.I r25 20).toInt = 0 := eq_v rfl rfl c39
            refine lv_aload hx hb dX12_grind_67 (lv_at hl 0 rfl) ?_
            have hFc := free_all hD hS hA
            obtain ⟨k47, gk47, hk47⟩ := wGt (cy := cy) X S o26.1 o26.2.1
            refine va_calli (va_runV (As := []) (rest := []) ⟨hx, hb, hml, hown, hts⟩ (c_X10_isBroken l (cy := cy) (X := X) (D := D) S _ r25 o26) (cwV 0 hts gX12_grind_X10_isBroken rfl rfl rfl hd_X10_isBroken ⟨Nat.le_of_ble_eq_true rfl, Nat.le_of_ble_eq_true rfl⟩) ⟨fun a U g mk q => ⟨q.1, q.2.1, q.2.2.1.calling, NW.same (u := U) (U := U.calling g mk a) rfl q.2.2.2⟩, va_recv hK hP (q := (RX10, TX10, 23)) (ci := 14) (q0 := k47) rfl hk47, fun U hU hW => ⟨rfl, by rw [hU], wd_pre hP hK hD hU hW, hN.warm hW⟩⟩ rfl rfl hl.1 rfl (lv_room (Nat.le_of_ble_eq_true rfl)) dX12_grind_69 ⟨(Nat.zero_le _), (Nat.zero_le _)⟩) hS (fun q _ h => hFc q h) hFc (fun r48 u t H1 locs ht hvm hw hB hz1 hk1 hS => ?_)
            have c49 := hw
            obtain ⟨hP, hD⟩ := wd_post hFc ht hB
            generalize H1 = H at hP hS ⊢
            obtain rfl : r48 = f_X10_isBroken S r25 := c49
            refine lv_if_ne (tgt := 83) hx hb dX12_grind_72 (by decide) (fun c50 => ?_) (fun c50 => ?_)
            · have c50i : ¬ (f_X10_isBroken S r25).toInt = 0 := neq_v rfl rfl c50
              refine lv_aload_n hx hb dX12_grind_83 rfl (lv_at hl 1 rfl) ?_
              refine lv_iconst (v := 3) hx hb dX12_grind_84 (by decide) ?_
              have l32_3 : (3 : Int32).toInt = 3 := rfl
              have hFc := free_all hD hS hA
              obtain ⟨k51, gk51, hk51⟩ := wGt (cy := cy) X S h_o1.1 h_o1.2.1
              refine va_calli (va_runV (As := [.int (3 : Int32)]) (rest := []) ⟨hx, hb, hml, hown, hts⟩ (c_X12_fails l (cy := cy) (X := X) (D := D) S _ o1 h_o1 (3 : Int32) (hW)) (cwV 1 hts gX12_grind_X12_fails rfl rfl rfl hd_X12_fails ⟨Nat.le_of_ble_eq_true rfl, Nat.le_of_ble_eq_true rfl⟩) ⟨fun a U g mk q => ⟨q.1, q.2.1, q.2.2.1.calling, NW.same (u := U) (U := U.calling g mk a) rfl q.2.2.2⟩, va_recv hK hP (q := (RX12, TX12, 34)) (ci := 16) (q0 := k51) rfl hk51, fun U hU hW => ⟨rfl, by rw [hU], wd_pre hP hK hD hU hW, hN.warm hW⟩⟩ rfl rfl hl.1 rfl (lv_room (Nat.le_of_ble_eq_true rfl)) dX12_grind_85 ⟨(Nat.zero_le _), (Nat.zero_le _)⟩) hS (fun q _ h => hFc q h) hFc (fun r52 u t H1 locs ht hvm hw hB hz1 hk1 hS => ?_)
              obtain ⟨c53, w54⟩ := hw
              obtain ⟨hP, hD⟩ := wd_post hFc ht hB
              generalize H1 = H at hP hS ⊢
              obtain ⟨S55, rfl⟩ : ∃ z, z = u := ⟨_, rfl⟩
              have t56 : stp [(10, 9), (10, 13), (10, 20), (10, 21), (12, 15)] [] [] S S55 := t0.tr w54 (by decide) (fun _ q => absurd q List.not_mem_nil)
              have xe57 : ext S S55 := w54.x
              refine W.widen (k := 0) (n := 0) (Nat.le_of_ble_eq_true rfl) (Nat.le_of_ble_eq_true rfl) ?_
              exact W.iret (v := r52) hx hb hr (fun t ht hW9 => ⟨⟨r52, S55, rfl, t56, wd_end hP hK hD ht hW9.alike⟩, hS.F ht⟩) hS.2.2 dX12_grind_88 hlocks
            · have c50i : (f_X10_isBroken S r25).toInt = 0 := eq_v rfl rfl c50
              refine lv_aload hx hb dX12_grind_75 (lv_at hl 0 rfl) ?_
              obtain ⟨k58, gk58, hk58⟩ := wGt (cy := cy) X S o26.1 o26.2.1
              refine va_getN (D := D) (ci := 14) (v := .int (S.I r25 9)) (C := RX10) (T := TX10) (N := 23) hx hb hts (by decide +kernel) hown hK hP k58 hk58 rfl 9 (by decide) (va_Nw.use rfl (hN (.fieldLinkNest RX12 356 "HobhouseModel$Gear" "stock" "I" "HobhouseModel") (by decide +kernel))) (fun _ h9 => h9) rfl dX12_grind_77 ?_
              refine lv_if_ne (tgt := 89) hx hb dX12_grind_80 (by decide) (fun c59 => ?_) (fun c59 => ?_)
              · have c59i : ¬ (S.I r25 9).toInt = 0 := neq_v rfl rfl c59
                refine lv_iload_n hx hb dX12_grind_89 rfl (lv_at hl 3 rfl) ?_
                refine lv_aload hx hb dX12_grind_90 (lv_at hl 0 rfl) ?_
                obtain ⟨k60, gk60, hk60⟩ := wGt (cy := cy) X S o26.1 o26.2.1
                refine va_getN (D := D) (ci := 14) (v := .int (S.I r25 9)) (C := RX10) (T := TX10) (N := 23) hx hb hts (by decide +kernel) hown hK hP k60 hk60 rfl 9 (by decide) (va_Nw.use rfl (hN (.fieldLinkNest RX12 356 "HobhouseModel$Gear" "stock" "I" "HobhouseModel") (by decide +kernel))) (fun _ h9 => h9) rfl dX12_grind_92 ?_
                refine va_mmin hx hb (hml.trans hl.1.symm) hown (hts (.methodLink RX12 212 Lib.Math.min.name) (by decide +kernel)) (hts (.static Lib.Math.min.name) (by decide +kernel)) (hts (.initialized "java/lang/Math") (by decide +kernel)) (hts (.code Lib.Math.min.name Lib.Math.min.code 2 (some .int)) (by decide +kernel)) (Nat.le_of_ble_eq_true rfl) (Nat.le_of_ble_eq_true rfl) (Nat.zero_le _) (Nat.zero_le _) dX12_grind_95 ?_
                refine lv_istore (lv' := [(5, .int (if (S.I r25 9) < x2 then (S.I r25 9) else x2)), (4, .ref r25), (0, .ref o1), (1, .int x1), (2, .int x2), (3, .int x3)]) hx hb dX12_grind_98 hl (by decide) rfl (fun ls hl => ?_)
                refine lv_aload hx hb dX12_grind_100 (lv_at hl 1 rfl) ?_
                refine lv_dup hx hb dX12_grind_102 rfl ?_
                obtain ⟨k61, gk61, hk61⟩ := wGt (cy := cy) X S o26.1 o26.2.1
                refine va_getN (D := D) (ci := 14) (v := .int (S.I r25 9)) (C := RX10) (T := TX10) (N := 23) hx hb hts (by decide +kernel) hown hK hP k61 hk61 rfl 9 (by decide) (va_Nw.use rfl (hN (.fieldLinkNest RX12 356 "HobhouseModel$Gear" "stock" "I" "HobhouseModel") (by decide +kernel))) (fun _ h9 => h9) rfl dX12_grind_103 ?_
                refine lv_iload hx hb dX12_grind_106 (lv_at hl 0 rfl) ?_
                refine lv_isub hx hb dX12_grind_108 ?_
                obtain ⟨k62, gk62, hk62⟩ := wGt (cy := cy) X S o26.1 o26.2.1
                refine va_putN (D := D) (ci := 14) (v := .int ((S.I r25 9) - (if (S.I r25 9) < x2 then (S.I r25 9) else x2))) (ty := .int) (C := RX10) (T := TX10) (N := 23) hx hb hts (by decide +kernel) tyX10 tyX10_ok nmX10 hown hK hP hD hS k62 hk62 rfl 9 (by decide) (va_Nw.use rfl (hN (.fieldLinkNest RX12 356 "HobhouseModel$Gear" "stock" "I" "HobhouseModel") (by decide +kernel))) (fun _ h9 => h9) rfl (by decide +kernel) (rfl) (rfl) (Nat.le_of_ble_eq_true rfl) dX12_grind_109 (fun H locs hP2 hD2 hS => ?_)
                have e9 := wPuI (cy := cy) (j := 9) (v := ((S.I r25 9) - (if (S.I r25 9) < x2 then (S.I r25 9) else x2))) hD o26.1 o26.2.1 gk62 rfl
                obtain ⟨S63, hS63⟩ : ∃ z, S.sI r25 9 ((S.I r25 9) - (if (S.I r25 9) < x2 then (S.I r25 9) else x2)) = z := ⟨_, rfl⟩
                have hP : va_P D vwCl (X ++ PL cy S63) H := by rw [← hS63, ← e9]; exact hP2
                have hD : va_D A (X ++ PL cy S63) := by rw [← hS63, ← e9]; exact hD2
                have xe64 : ext S S63 := by rw [← hS63]; exact ext.sI _ _ _ _
                have t65 : stp [(10, 9), (10, 13), (10, 20), (10, 21), (12, 15)] [] [] S S63 := by rw [← hS63]; exact t0.I 9 ((S.I r25 9) - (if (S.I r25 9) < x2 then (S.I r25 9) else x2)) o26 (by decide) (trivial) (Or.inl (by decide))
                refine lv_aload hx hb dX12_grind_112 (lv_at hl 1 rfl) ?_
                refine lv_dup hx hb dX12_grind_114 rfl ?_
                obtain ⟨k66, gk66, hk66⟩ := wGt (cy := cy) X S63 (xe64.A o26).1 (xe64.A o26).2.1
                refine va_getN (D := D) (ci := 14) (v := .int (S63.I r25 13)) (C := RX10) (T := TX10) (N := 23) hx hb hts (by decide +kernel) hown hK hP k66 hk66 rfl 13 (by decide) (va_Nw.use rfl (hN (.fieldLinkNest RX12 397 "HobhouseModel$Gear" "ground" "I" "HobhouseModel") (by decide +kernel))) (fun _ h9 => h9) rfl dX12_grind_115 ?_
                refine lv_aload hx hb dX12_grind_118 (lv_at hl 1 rfl) ?_
                obtain ⟨k67, gk67, hk67⟩ := wGt (cy := cy) X S63 (xe64.A o26).1 (xe64.A o26).2.1
                have i68 := ((t65.w.at (xe64.A o26) List.not_mem_nil).to_10 (xe64.A o26).2.1).R19
                refine va_getN (D := D) (ci := 14) (v := .int (S63.I r25 19)) (C := RX10) (T := TX10) (N := 23) hx hb hts (by decide +kernel) hown hK hP k67 hk67 rfl 19 (by decide) (va_Nw.use rfl (hN (.fieldLinkNest RX12 369 "HobhouseModel$Gear" "isHard" "Z" "HobhouseModel") (by decide +kernel))) (fun _ h9 => h9) rfl dX12_grind_120 ?_
                refine lv_if_eq (tgt := 131) hx hb dX12_grind_123 (by decide) (fun c69 => ?_) (fun c69 => ?_)
                · have c69i : (S63.I r25 19).toInt = 0 := eq_v rfl rfl c69
                  refine lv_iconst (v := 0) hx hb dX12_grind_131 (by decide) ?_
                  refine lv_iadd hx hb dX12_grind_132 ?_
                  obtain ⟨k70, gk70, hk70⟩ := wGt (cy := cy) X S63 (xe64.A o26).1 (xe64.A o26).2.1
                  refine va_putN (D := D) (ci := 14) (v := .int ((S63.I r25 13) + (0 : Int32))) (ty := .int) (C := RX10) (T := TX10) (N := 23) hx hb hts (by decide +kernel) tyX10 tyX10_ok nmX10 hown hK hP hD hS k70 hk70 rfl 13 (by decide) (va_Nw.use rfl (hN (.fieldLinkNest RX12 397 "HobhouseModel$Gear" "ground" "I" "HobhouseModel") (by decide +kernel))) (fun _ h9 => h9) rfl (by decide +kernel) (rfl) (rfl) (Nat.le_of_ble_eq_true rfl) dX12_grind_133 (fun H locs hP2 hD2 hS => ?_)
                  have e9 := wPuI (cy := cy) (j := 13) (v := ((S63.I r25 13) + (0 : Int32))) hD (xe64.A o26).1 (xe64.A o26).2.1 gk70 rfl
                  obtain ⟨S71, hS71⟩ : ∃ z, S63.sI r25 13 ((S63.I r25 13) + (0 : Int32)) = z := ⟨_, rfl⟩
                  have hP : va_P D vwCl (X ++ PL cy S71) H := by rw [← hS71, ← e9]; exact hP2
                  have hD : va_D A (X ++ PL cy S71) := by rw [← hS71, ← e9]; exact hD2
                  have xe72 : ext S63 S71 := by rw [← hS71]; exact ext.sI _ _ _ _
                  have t73 : stp [(10, 9), (10, 13), (10, 20), (10, 21), (12, 15)] [] [] S S71 := by rw [← hS71]; exact t65.I 13 ((S63.I r25 13) + (0 : Int32)) (xe64.A o26) (by decide) (trivial) (Or.inl (by decide))
                  refine lv_aload hx hb dX12_grind_136 (lv_at hl 1 rfl) ?_
                  refine lv_aload hx hb dX12_grind_138 (lv_at hl 1 rfl) ?_
                  obtain ⟨k74, gk74, hk74⟩ := wGt (cy := cy) X S71 (xe72.A (xe64.A o26)).1 (xe72.A (xe64.A o26)).2.1
                  refine va_getN (D := D) (ci := 14) (v := .int (S71.I r25 9)) (C := RX10) (T := TX10) (N := 23) hx hb hts (by decide +kernel) hown hK hP k74 hk74 rfl 9 (by decide) (va_Nw.use rfl (hN (.fieldLinkNest RX12 356 "HobhouseModel$Gear" "stock" "I" "HobhouseModel") (by decide +kernel))) (fun _ h9 => h9) rfl dX12_grind_140 ?_
                  refine lv_if_ne (tgt := 150) hx hb dX12_grind_143 (by decide) (fun c75 => ?_) (fun c75 => ?_)
                  · have c75i : ¬ (S71.I r25 9).toInt = 0 := neq_v rfl rfl c75
                    refine lv_iconst (v := 0) hx hb dX12_grind_150 (by decide) ?_
                    have l32_0 : (0 : Int32).toInt = 0 := rfl
                    obtain ⟨k76, gk76, hk76⟩ := wGt (cy := cy) X S71 (xe72.A (xe64.A o26)).1 (xe72.A (xe64.A o26)).2.1
                    refine va_putN (D := D) (ci := 14) (v := .int (0 : Int32)) (ty := .boolean) (C := RX10) (T := TX10) (N := 23) hx hb hts (by decide +kernel) tyX10 tyX10_ok nmX10 hown hK hP hD hS k76 hk76 rfl 21 (by decide) (va_Nw.use rfl (hN (.fieldLinkNest RX12 400 "HobhouseModel$Gear" "isGround" "Z" "HobhouseModel") (by decide +kernel))) (fun _ h9 => h9) rfl (by decide +kernel) (by rfl) (by rfl) (Nat.le_of_ble_eq_true rfl) dX12_grind_151 (fun H locs hP2 hD2 hS => ?_)
                    have e9 := wPuI (cy := cy) (j := 21) (v := (0 : Int32)) hD (xe72.A (xe64.A o26)).1 (xe72.A (xe64.A o26)).2.1 gk76 rfl
                    obtain ⟨S77, hS77⟩ : ∃ z, S71.sI r25 21 (0 : Int32) = z := ⟨_, rfl⟩
                    have hP : va_P D vwCl (X ++ PL cy S77) H := by rw [← hS77, ← e9]; exact hP2
                    have hD : va_D A (X ++ PL cy S77) := by rw [← hS77, ← e9]; exact hD2
                    have xe78 : ext S71 S77 := by rw [← hS77]; exact ext.sI _ _ _ _
                    have t79 : stp [(10, 9), (10, 13), (10, 20), (10, 21), (12, 15)] [] [] S S77 := by rw [← hS77]; exact t73.I 21 (0 : Int32) (xe72.A (xe64.A o26)) (by decide) (⟨by decide, by decide⟩) (Or.inl (by decide))
                    refine lv_aload hx hb dX12_grind_154 (lv_at hl 1 rfl) ?_
                    refine lv_iload hx hb dX12_grind_156 (lv_at hl 0 rfl) ?_
                    refine lv_bipush (v := 30) hx hb dX12_grind_158 (by decide +kernel) ?_
                    refine lv_icmp_gt (tgt := 176) hx hb dX12_grind_160 (by decide) (fun c80 => ?_) (fun c80 => ?_)
                    · have c80i : 30 < (if (S.I r25 9) < x2 then (S.I r25 9) else x2).toInt := lt_v rfl rfl c80
                      refine lv_iconst (v := 1) hx hb dX12_grind_176 (by decide) ?_
                      refine lv_goto (tgt := 181) hx hb dX12_grind_177 (by decide) ?_
                      have l32_1 : (1 : Int32).toInt = 1 := rfl
                      obtain ⟨k81, gk81, hk81⟩ := wGt (cy := cy) X S77 (xe78.A (xe72.A (xe64.A o26))).1 (xe78.A (xe72.A (xe64.A o26))).2.1
                      refine va_putN (D := D) (ci := 14) (v := .int (1 : Int32)) (ty := .boolean) (C := RX10) (T := TX10) (N := 23) hx hb hts (by decide +kernel) tyX10 tyX10_ok nmX10 hown hK hP hD hS k81 hk81 rfl 20 (by decide) (va_Nw.use rfl (hN (.fieldLinkNest RX12 372 "HobhouseModel$Gear" "isScrap" "Z" "HobhouseModel") (by decide +kernel))) (fun _ h9 => h9) rfl (by decide +kernel) (by rfl) (by rfl) (Nat.le_of_ble_eq_true rfl) dX12_grind_181 (fun H locs hP2 hD2 hS => ?_)
                      have e9 := wPuI (cy := cy) (j := 20) (v := (1 : Int32)) hD (xe78.A (xe72.A (xe64.A o26))).1 (xe78.A (xe72.A (xe64.A o26))).2.1 gk81 rfl
                      obtain ⟨S82, hS82⟩ : ∃ z, S77.sI r25 20 (1 : Int32) = z := ⟨_, rfl⟩
                      have hP : va_P D vwCl (X ++ PL cy S82) H := by rw [← hS82, ← e9]; exact hP2
                      have hD : va_D A (X ++ PL cy S82) := by rw [← hS82, ← e9]; exact hD2
                      have xe83 : ext S77 S82 := by rw [← hS82]; exact ext.sI _ _ _ _
                      have t84 : stp [(10, 9), (10, 13), (10, 20), (10, 21), (12, 15)] [] [] S S82 := by rw [← hS82]; exact t79.I 20 (1 : Int32) (xe78.A (xe72.A (xe64.A o26))) (by decide) (⟨by decide, by decide⟩) (Or.inl (by decide))
                      refine lv_aload_n hx hb dX12_grind_184 rfl (lv_at hl 2 rfl) ?_
                      refine lv_aload hx hb dX12_grind_185 (lv_at hl 1 rfl) ?_
                      obtain ⟨k85, gk85, hk85⟩ := wGt (cy := cy) X S82 (xe83.A (xe78.A (xe72.A (xe64.A o26)))).1 (xe83.A (xe78.A (xe72.A (xe64.A o26)))).2.1
                      refine va_getN (D := D) (ci := 14) (v := .int (S82.I r25 9)) (C := RX10) (T := TX10) (N := 23) hx hb hts (by decide +kernel) hown hK hP k85 hk85 rfl 9 (by decide) (va_Nw.use rfl (hN (.fieldLinkNest RX12 356 "HobhouseModel$Gear" "stock" "I" "HobhouseModel") (by decide +kernel))) (fun _ h9 => h9) rfl dX12_grind_187 ?_
                      have hFc := free_all hD hS hA
                      obtain ⟨k86, gk86, hk86⟩ := wGt (cy := cy) X S82 ((xe64.tr (xe72.tr (xe78.tr xe83))).A h_o1).1 ((xe64.tr (xe72.tr (xe78.tr xe83))).A h_o1).2.1
                      refine va_calli (va_runV (As := [.int (S82.I r25 9)]) (rest := []) ⟨hx, hb, hml, hown, hts⟩ (c_X12_answer l (cy := cy) (X := X) (D := D) S82 _ o1 ((xe64.tr (xe72.tr (xe78.tr xe83))).A h_o1) (S82.I r25 9) (t84.w)) (cwV 1 hts gX12_grind_X12_answer rfl rfl rfl hd_X12_answer ⟨Nat.le_of_ble_eq_true rfl, Nat.le_of_ble_eq_true rfl⟩) ⟨fun a U g mk q => ⟨q.1, q.2.1, q.2.2.1.calling, NW.same (u := U) (U := U.calling g mk a) rfl q.2.2.2⟩, va_recv hK hP (q := (RX12, TX12, 34)) (ci := 16) (q0 := k86) rfl hk86, fun U hU hW => ⟨rfl, by rw [hU], wd_pre hP hK hD hU hW, hN.warm hW⟩⟩ rfl rfl hl.1 rfl (lv_room (Nat.le_of_ble_eq_true rfl)) dX12_grind_190 ⟨(Nat.zero_le _), (Nat.zero_le _)⟩) hS (fun q _ h => hFc q h) hFc (fun r87 u t H1 locs ht hvm hw hB hz1 hk1 hS => ?_)
                      obtain ⟨c88, w89⟩ := hw
                      obtain ⟨hP, hD⟩ := wd_post hFc ht hB
                      generalize H1 = H at hP hS ⊢
                      obtain ⟨S90, rfl⟩ : ∃ z, z = u := ⟨_, rfl⟩
                      have t91 : stp [(10, 9), (10, 13), (10, 20), (10, 21), (12, 15)] [] [] S S90 := t84.tr w89 (by decide) (fun _ q => absurd q List.not_mem_nil)
                      have xe92 : ext S82 S90 := w89.x
                      refine W.widen (k := 0) (n := 0) (Nat.le_of_ble_eq_true rfl) (Nat.le_of_ble_eq_true rfl) ?_
                      exact W.iret (v := r87) hx hb hr (fun t ht hW9 => ⟨⟨r87, S90, rfl, t91, wd_end hP hK hD ht hW9.alike⟩, hS.F ht⟩) hS.2.2 dX12_grind_193 hlocks
                    · have c80i : (if (S.I r25 9) < x2 then (S.I r25 9) else x2).toInt ≤ 30 := nlt_v rfl rfl c80
                      refine lv_iload hx hb dX12_grind_163 (lv_at hl 0 rfl) ?_
                      refine lv_bipush (v := 20) hx hb dX12_grind_165 (by decide +kernel) ?_
                      refine lv_icmp_le (tgt := 180) hx hb dX12_grind_167 (by decide) (fun c93 => ?_) (fun c93 => ?_)
                      · have c93i : (if (S.I r25 9) < x2 then (S.I r25 9) else x2).toInt ≤ 20 := le_v rfl rfl c93
                        refine lv_iconst (v := 0) hx hb dX12_grind_180 (by decide) ?_
                        obtain ⟨k94, gk94, hk94⟩ := wGt (cy := cy) X S77 (xe78.A (xe72.A (xe64.A o26))).1 (xe78.A (xe72.A (xe64.A o26))).2.1
                        refine va_putN (D := D) (ci := 14) (v := .int (0 : Int32)) (ty := .boolean) (C := RX10) (T := TX10) (N := 23) hx hb hts (by decide +kernel) tyX10 tyX10_ok nmX10 hown hK hP hD hS k94 hk94 rfl 20 (by decide) (va_Nw.use rfl (hN (.fieldLinkNest RX12 372 "HobhouseModel$Gear" "isScrap" "Z" "HobhouseModel") (by decide +kernel))) (fun _ h9 => h9) rfl (by decide +kernel) (by rfl) (by rfl) (Nat.le_of_ble_eq_true rfl) dX12_grind_181 (fun H locs hP2 hD2 hS => ?_)
                        have e9 := wPuI (cy := cy) (j := 20) (v := (0 : Int32)) hD (xe78.A (xe72.A (xe64.A o26))).1 (xe78.A (xe72.A (xe64.A o26))).2.1 gk94 rfl
                        obtain ⟨S95, hS95⟩ : ∃ z, S77.sI r25 20 (0 : Int32) = z := ⟨_, rfl⟩
                        have hP : va_P D vwCl (X ++ PL cy S95) H := by rw [← hS95, ← e9]; exact hP2
                        have hD : va_D A (X ++ PL cy S95) := by rw [← hS95, ← e9]; exact hD2
                        have xe96 : ext S77 S95 := by rw [← hS95]; exact ext.sI _ _ _ _
                        have t97 : stp [(10, 9), (10, 13), (10, 20), (10, 21), (12, 15)] [] [] S S95 := by rw [← hS95]; exact t79.I 20 (0 : Int32) (xe78.A (xe72.A (xe64.A o26))) (by decide) (⟨by decide, by decide⟩) (Or.inl (by decide))
                        refine lv_aload_n hx hb dX12_grind_184 rfl (lv_at hl 2 rfl) ?_
                        refine lv_aload hx hb dX12_grind_185 (lv_at hl 1 rfl) ?_
                        obtain ⟨k98, gk98, hk98⟩ := wGt (cy := cy) X S95 (xe96.A (xe78.A (xe72.A (xe64.A o26)))).1 (xe96.A (xe78.A (xe72.A (xe64.A o26)))).2.1
                        refine va_getN (D := D) (ci := 14) (v := .int (S95.I r25 9)) (C := RX10) (T := TX10) (N := 23) hx hb hts (by decide +kernel) hown hK hP k98 hk98 rfl 9 (by decide) (va_Nw.use rfl (hN (.fieldLinkNest RX12 356 "HobhouseModel$Gear" "stock" "I" "HobhouseModel") (by decide +kernel))) (fun _ h9 => h9) rfl dX12_grind_187 ?_
                        have hFc := free_all hD hS hA
                        obtain ⟨k99, gk99, hk99⟩ := wGt (cy := cy) X S95 ((xe64.tr (xe72.tr (xe78.tr xe96))).A h_o1).1 ((xe64.tr (xe72.tr (xe78.tr xe96))).A h_o1).2.1
                        refine va_calli (va_runV (As := [.int (S95.I r25 9)]) (rest := []) ⟨hx, hb, hml, hown, hts⟩ (c_X12_answer l (cy := cy) (X := X) (D := D) S95 _ o1 ((xe64.tr (xe72.tr (xe78.tr xe96))).A h_o1) (S95.I r25 9) (t97.w)) (cwV 1 hts gX12_grind_X12_answer rfl rfl rfl hd_X12_answer ⟨Nat.le_of_ble_eq_true rfl, Nat.le_of_ble_eq_true rfl⟩) ⟨fun a U g mk q => ⟨q.1, q.2.1, q.2.2.1.calling, NW.same (u := U) (U := U.calling g mk a) rfl q.2.2.2⟩, va_recv hK hP (q := (RX12, TX12, 34)) (ci := 16) (q0 := k99) rfl hk99, fun U hU hW => ⟨rfl, by rw [hU], wd_pre hP hK hD hU hW, hN.warm hW⟩⟩ rfl rfl hl.1 rfl (lv_room (Nat.le_of_ble_eq_true rfl)) dX12_grind_190 ⟨(Nat.zero_le _), (Nat.zero_le _)⟩) hS (fun q _ h => hFc q h) hFc (fun r100 u t H1 locs ht hvm hw hB hz1 hk1 hS => ?_)
                        obtain ⟨c101, w102⟩ := hw
                        obtain ⟨hP, hD⟩ := wd_post hFc ht hB
                        generalize H1 = H at hP hS ⊢
                        obtain ⟨S103, rfl⟩ : ∃ z, z = u := ⟨_, rfl⟩
                        have t104 : stp [(10, 9), (10, 13), (10, 20), (10, 21), (12, 15)] [] [] S S103 := t97.tr w102 (by decide) (fun _ q => absurd q List.not_mem_nil)
                        have xe105 : ext S95 S103 := w102.x
                        refine W.widen (k := 0) (n := 0) (Nat.le_of_ble_eq_true rfl) (Nat.le_of_ble_eq_true rfl) ?_
                        exact W.iret (v := r100) hx hb hr (fun t ht hW9 => ⟨⟨r100, S103, rfl, t104, wd_end hP hK hD ht hW9.alike⟩, hS.F ht⟩) hS.2.2 dX12_grind_193 hlocks
                      · have c93i : 20 < (if (S.I r25 9) < x2 then (S.I r25 9) else x2).toInt := nle_v rfl rfl c93
                        refine lv_iload_n hx hb dX12_grind_170 rfl (lv_at hl 5 rfl) ?_
                        refine lv_bipush (v := 100) hx hb dX12_grind_171 (by decide +kernel) ?_
                        refine lv_icmp_le (tgt := 180) hx hb dX12_grind_173 (by decide) (fun c106 => ?_) (fun c106 => ?_)
                        · have c106i : x3.toInt ≤ 100 := le_v rfl rfl c106
                          refine lv_iconst (v := 0) hx hb dX12_grind_180 (by decide) ?_
                          obtain ⟨k107, gk107, hk107⟩ := wGt (cy := cy) X S77 (xe78.A (xe72.A (xe64.A o26))).1 (xe78.A (xe72.A (xe64.A o26))).2.1
                          refine va_putN (D := D) (ci := 14) (v := .int (0 : Int32)) (ty := .boolean) (C := RX10) (T := TX10) (N := 23) hx hb hts (by decide +kernel) tyX10 tyX10_ok nmX10 hown hK hP hD hS k107 hk107 rfl 20 (by decide) (va_Nw.use rfl (hN (.fieldLinkNest RX12 372 "HobhouseModel$Gear" "isScrap" "Z" "HobhouseModel") (by decide +kernel))) (fun _ h9 => h9) rfl (by decide +kernel) (by rfl) (by rfl) (Nat.le_of_ble_eq_true rfl) dX12_grind_181 (fun H locs hP2 hD2 hS => ?_)
                          have e9 := wPuI (cy := cy) (j := 20) (v := (0 : Int32)) hD (xe78.A (xe72.A (xe64.A o26))).1 (xe78.A (xe72.A (xe64.A o26))).2.1 gk107 rfl
                          obtain ⟨S108, hS108⟩ : ∃ z, S77.sI r25 20 (0 : Int32) = z := ⟨_, rfl⟩
                          have hP : va_P D vwCl (X ++ PL cy S108) H := by rw [← hS108, ← e9]; exact hP2
                          have hD : va_D A (X ++ PL cy S108) := by rw [← hS108, ← e9]; exact hD2
                          have xe109 : ext S77 S108 := by rw [← hS108]; exact ext.sI _ _ _ _
                          have t110 : stp [(10, 9), (10, 13), (10, 20), (10, 21), (12, 15)] [] [] S S108 := by rw [← hS108]; exact t79.I 20 (0 : Int32) (xe78.A (xe72.A (xe64.A o26))) (by decide) (⟨by decide, by decide⟩) (Or.inl (by decide))
                          refine lv_aload_n hx hb dX12_grind_184 rfl (lv_at hl 2 rfl) ?_
                          refine lv_aload hx hb dX12_grind_185 (lv_at hl 1 rfl) ?_
                          obtain ⟨k111, gk111, hk111⟩ := wGt (cy := cy) X S108 (xe109.A (xe78.A (xe72.A (xe64.A o26)))).1 (xe109.A (xe78.A (xe72.A (xe64.A o26)))).2.1
                          refine va_getN (D := D) (ci := 14) (v := .int (S108.I r25 9)) (C := RX10) (T := TX10) (N := 23) hx hb hts (by decide +kernel) hown hK hP k111 hk111 rfl 9 (by decide) (va_Nw.use rfl (hN (.fieldLinkNest RX12 356 "HobhouseModel$Gear" "stock" "I" "HobhouseModel") (by decide +kernel))) (fun _ h9 => h9) rfl dX12_grind_187 ?_
                          have hFc := free_all hD hS hA
                          obtain ⟨k112, gk112, hk112⟩ := wGt (cy := cy) X S108 ((xe64.tr (xe72.tr (xe78.tr xe109))).A h_o1).1 ((xe64.tr (xe72.tr (xe78.tr xe109))).A h_o1).2.1
                          refine va_calli (va_runV (As := [.int (S108.I r25 9)]) (rest := []) ⟨hx, hb, hml, hown, hts⟩ (c_X12_answer l (cy := cy) (X := X) (D := D) S108 _ o1 ((xe64.tr (xe72.tr (xe78.tr xe109))).A h_o1) (S108.I r25 9) (t110.w)) (cwV 1 hts gX12_grind_X12_answer rfl rfl rfl hd_X12_answer ⟨Nat.le_of_ble_eq_true rfl, Nat.le_of_ble_eq_true rfl⟩) ⟨fun a U g mk q => ⟨q.1, q.2.1, q.2.2.1.calling, NW.same (u := U) (U := U.calling g mk a) rfl q.2.2.2⟩, va_recv hK hP (q := (RX12, TX12, 34)) (ci := 16) (q0 := k112) rfl hk112, fun U hU hW => ⟨rfl, by rw [hU], wd_pre hP hK hD hU hW, hN.warm hW⟩⟩ rfl rfl hl.1 rfl (lv_room (Nat.le_of_ble_eq_true rfl)) dX12_grind_190 ⟨(Nat.zero_le _), (Nat.zero_le _)⟩) hS (fun q _ h => hFc q h) hFc (fun r113 u t H1 locs ht hvm hw hB hz1 hk1 hS => ?_)
                          obtain ⟨c114, w115⟩ := hw
                          obtain ⟨hP, hD⟩ := wd_post hFc ht hB
                          generalize H1 = H at hP hS ⊢
                          obtain ⟨S116, rfl⟩ : ∃ z, z = u := ⟨_, rfl⟩
                          have t117 : stp [(10, 9), (10, 13), (10, 20), (10, 21), (12, 15)] [] [] S S116 := t110.tr w115 (by decide) (fun _ q => absurd q List.not_mem_nil)
                          have xe118 : ext S108 S116 := w115.x
                          refine W.widen (k := 0) (n := 0) (Nat.le_of_ble_eq_true rfl) (Nat.le_of_ble_eq_true rfl) ?_
                          exact W.iret (v := r113) hx hb hr (fun t ht hW9 => ⟨⟨r113, S116, rfl, t117, wd_end hP hK hD ht hW9.alike⟩, hS.F ht⟩) hS.2.2 dX12_grind_193 hlocks
                        · have c106i : 100 < x3.toInt := nle_v rfl rfl c106
                          refine lv_iconst (v := 1) hx hb dX12_grind_176 (by decide) ?_
                          refine lv_goto (tgt := 181) hx hb dX12_grind_177 (by decide) ?_
                          have l32_1 : (1 : Int32).toInt = 1 := rfl
                          obtain ⟨k119, gk119, hk119⟩ := wGt (cy := cy) X S77 (xe78.A (xe72.A (xe64.A o26))).1 (xe78.A (xe72.A (xe64.A o26))).2.1
                          refine va_putN (D := D) (ci := 14) (v := .int (1 : Int32)) (ty := .boolean) (C := RX10) (T := TX10) (N := 23) hx hb hts (by decide +kernel) tyX10 tyX10_ok nmX10 hown hK hP hD hS k119 hk119 rfl 20 (by decide) (va_Nw.use rfl (hN (.fieldLinkNest RX12 372 "HobhouseModel$Gear" "isScrap" "Z" "HobhouseModel") (by decide +kernel))) (fun _ h9 => h9) rfl (by decide +kernel) (by rfl) (by rfl) (Nat.le_of_ble_eq_true rfl) dX12_grind_181 (fun H locs hP2 hD2 hS => ?_)
                          have e9 := wPuI (cy := cy) (j := 20) (v := (1 : Int32)) hD (xe78.A (xe72.A (xe64.A o26))).1 (xe78.A (xe72.A (xe64.A o26))).2.1 gk119 rfl
                          obtain ⟨S120, hS120⟩ : ∃ z, S77.sI r25 20 (1 : Int32) = z := ⟨_, rfl⟩
                          have hP : va_P D vwCl (X ++ PL cy S120) H := by rw [← hS120, ← e9]; exact hP2
                          have hD : va_D A (X ++ PL cy S120) := by rw [← hS120, ← e9]; exact hD2
                          have xe121 : ext S77 S120 := by rw [← hS120]; exact ext.sI _ _ _ _
                          have t122 : stp [(10, 9), (10, 13), (10, 20), (10, 21), (12, 15)] [] [] S S120 := by rw [← hS120]; exact t79.I 20 (1 : Int32) (xe78.A (xe72.A (xe64.A o26))) (by decide) (⟨by decide, by decide⟩) (Or.inl (by decide))
                          refine lv_aload_n hx hb dX12_grind_184 rfl (lv_at hl 2 rfl) ?_
                          refine lv_aload hx hb dX12_grind_185 (lv_at hl 1 rfl) ?_
                          obtain ⟨k123, gk123, hk123⟩ := wGt (cy := cy) X S120 (xe121.A (xe78.A (xe72.A (xe64.A o26)))).1 (xe121.A (xe78.A (xe72.A (xe64.A o26)))).2.1
                          refine va_getN (D := D) (ci := 14) (v := .int (S120.I r25 9)) (C := RX10) (T := TX10) (N := 23) hx hb hts (by decide +kernel) hown hK hP k123 hk123 rfl 9 (by decide) (va_Nw.use rfl (hN (.fieldLinkNest RX12 356 "HobhouseModel$Gear" "stock" "I" "HobhouseModel") (by decide +kernel))) (fun _ h9 => h9) rfl dX12_grind_187 ?_
                          have hFc := free_all hD hS hA
                          obtain ⟨k124, gk124, hk124⟩ := wGt (cy := cy) X S120 ((xe64.tr (xe72.tr (xe78.tr xe121))).A h_o1).1 ((xe64.tr (xe72.tr (xe78.tr xe121))).A h_o1).2.1
                          refine va_calli (va_runV (As := [.int (S120.I r25 9)]) (rest := []) ⟨hx, hb, hml, hown, hts⟩ (c_X12_answer l (cy := cy) (X := X) (D := D) S120 _ o1 ((xe64.tr (xe72.tr (xe78.tr xe121))).A h_o1) (S120.I r25 9) (t122.w)) (cwV 1 hts gX12_grind_X12_answer rfl rfl rfl hd_X12_answer ⟨Nat.le_of_ble_eq_true rfl, Nat.le_of_ble_eq_true rfl⟩) ⟨fun a U g mk q => ⟨q.1, q.2.1, q.2.2.1.calling, NW.same (u := U) (U := U.calling g mk a) rfl q.2.2.2⟩, va_recv hK hP (q := (RX12, TX12, 34)) (ci := 16) (q0 := k124) rfl hk124, fun U hU hW => ⟨rfl, by rw [hU], wd_pre hP hK hD hU hW, hN.warm hW⟩⟩ rfl rfl hl.1 rfl (lv_room (Nat.le_of_ble_eq_true rfl)) dX12_grind_190 ⟨(Nat.zero_le _), (Nat.zero_le _)⟩) hS (fun q _ h => hFc q h) hFc (fun r125 u t H1 locs ht hvm hw hB hz1 hk1 hS => ?_)
                          obtain ⟨c126, w127⟩ := hw
                          obtain ⟨hP, hD⟩ := wd_post hFc ht hB
                          generalize H1 = H at hP hS ⊢
                          obtain ⟨S128, rfl⟩ : ∃ z, z = u := ⟨_, rfl⟩
                          have t129 : stp [(10, 9), (10, 13), (10, 20), (10, 21), (12, 15)] [] [] S S128 := t122.tr w127 (by decide) (fun _ q => absurd q List.not_mem_nil)
                          have xe130 : ext S120 S128 := w127.x
                          refine W.widen (k := 0) (n := 0) (Nat.le_of_ble_eq_true rfl) (Nat.le_of_ble_eq_true rfl) ?_
                          exact W.iret (v := r125) hx hb hr (fun t ht hW9 => ⟨⟨r125, S128, rfl, t129, wd_end hP hK hD ht hW9.alike⟩, hS.F ht⟩) hS.2.2 dX12_grind_193 hlocks
                  · have c75i : (S71.I r25 9).toInt = 0 := eq_v rfl rfl c75
                    refine lv_iconst (v := 1) hx hb dX12_grind_146 (by decide) ?_
                    refine lv_goto (tgt := 151) hx hb dX12_grind_147 (by decide) ?_
                    have l32_1 : (1 : Int32).toInt = 1 := rfl
                    obtain ⟨k131, gk131, hk131⟩ := wGt (cy := cy) X S71 (xe72.A (xe64.A o26)).1 (xe72.A (xe64.A o26)).2.1
                    refine va_putN (D := D) (ci := 14) (v := .int (1 : Int32)) (ty := .boolean) (C := RX10) (T := TX10) (N := 23) hx hb hts (by decide +kernel) tyX10 tyX10_ok nmX10 hown hK hP hD hS k131 hk131 rfl 21 (by decide) (va_Nw.use rfl (hN (.fieldLinkNest RX12 400 "HobhouseModel$Gear" "isGround" "Z" "HobhouseModel") (by decide +kernel))) (fun _ h9 => h9) rfl (by decide +kernel) (by rfl) (by rfl) (Nat.le_of_ble_eq_true rfl) dX12_grind_151 (fun H locs hP2 hD2 hS => ?_)
                    have e9 := wPuI (cy := cy) (j := 21) (v := (1 : Int32)) hD (xe72.A (xe64.A o26)).1 (xe72.A (xe64.A o26)).2.1 gk131 rfl
                    obtain ⟨S132, hS132⟩ : ∃ z, S71.sI r25 21 (1 : Int32) = z := ⟨_, rfl⟩
                    have hP : va_P D vwCl (X ++ PL cy S132) H := by rw [← hS132, ← e9]; exact hP2
                    have hD : va_D A (X ++ PL cy S132) := by rw [← hS132, ← e9]; exact hD2
                    have xe133 : ext S71 S132 := by rw [← hS132]; exact ext.sI _ _ _ _
                    have t134 : stp [(10, 9), (10, 13), (10, 20), (10, 21), (12, 15)] [] [] S S132 := by rw [← hS132]; exact t73.I 21 (1 : Int32) (xe72.A (xe64.A o26)) (by decide) (⟨by decide, by decide⟩) (Or.inl (by decide))
                    refine lv_aload hx hb dX12_grind_154 (lv_at hl 1 rfl) ?_
                    refine lv_iload hx hb dX12_grind_156 (lv_at hl 0 rfl) ?_
                    refine lv_bipush (v := 30) hx hb dX12_grind_158 (by decide +kernel) ?_
                    refine lv_icmp_gt (tgt := 176) hx hb dX12_grind_160 (by decide) (fun c135 => ?_) (fun c135 => ?_)
                    · have c135i : 30 < (if (S.I r25 9) < x2 then (S.I r25 9) else x2).toInt := lt_v rfl rfl c135
                      refine lv_iconst (v := 1) hx hb dX12_grind_176 (by decide) ?_
                      refine lv_goto (tgt := 181) hx hb dX12_grind_177 (by decide) ?_
                      obtain ⟨k136, gk136, hk136⟩ := wGt (cy := cy) X S132 (xe133.A (xe72.A (xe64.A o26))).1 (xe133.A (xe72.A (xe64.A o26))).2.1
                      refine va_putN (D := D) (ci := 14) (v := .int (1 : Int32)) (ty := .boolean) (C := RX10) (T := TX10) (N := 23) hx hb hts (by decide +kernel) tyX10 tyX10_ok nmX10 hown hK hP hD hS k136 hk136 rfl 20 (by decide) (va_Nw.use rfl (hN (.fieldLinkNest RX12 372 "HobhouseModel$Gear" "isScrap" "Z" "HobhouseModel") (by decide +kernel))) (fun _ h9 => h9) rfl (by decide +kernel) (by rfl) (by rfl) (Nat.le_of_ble_eq_true rfl) dX12_grind_181 (fun H locs hP2 hD2 hS => ?_)
                      have e9 := wPuI (cy := cy) (j := 20) (v := (1 : Int32)) hD (xe133.A (xe72.A (xe64.A o26))).1 (xe133.A (xe72.A (xe64.A o26))).2.1 gk136 rfl
                      obtain ⟨S137, hS137⟩ : ∃ z, S132.sI r25 20 (1 : Int32) = z := ⟨_, rfl⟩
                      have hP : va_P D vwCl (X ++ PL cy S137) H := by rw [← hS137, ← e9]; exact hP2
                      have hD : va_D A (X ++ PL cy S137) := by rw [← hS137, ← e9]; exact hD2
                      have xe138 : ext S132 S137 := by rw [← hS137]; exact ext.sI _ _ _ _
                      have t139 : stp [(10, 9), (10, 13), (10, 20), (10, 21), (12, 15)] [] [] S S137 := by rw [← hS137]; exact t134.I 20 (1 : Int32) (xe133.A (xe72.A (xe64.A o26))) (by decide) (⟨by decide, by decide⟩) (Or.inl (by decide))
                      refine lv_aload_n hx hb dX12_grind_184 rfl (lv_at hl 2 rfl) ?_
                      refine lv_aload hx hb dX12_grind_185 (lv_at hl 1 rfl) ?_
                      obtain ⟨k140, gk140, hk140⟩ := wGt (cy := cy) X S137 (xe138.A (xe133.A (xe72.A (xe64.A o26)))).1 (xe138.A (xe133.A (xe72.A (xe64.A o26)))).2.1
                      refine va_getN (D := D) (ci := 14) (v := .int (S137.I r25 9)) (C := RX10) (T := TX10) (N := 23) hx hb hts (by decide +kernel) hown hK hP k140 hk140 rfl 9 (by decide) (va_Nw.use rfl (hN (.fieldLinkNest RX12 356 "HobhouseModel$Gear" "stock" "I" "HobhouseModel") (by decide +kernel))) (fun _ h9 => h9) rfl dX12_grind_187 ?_
                      have hFc := free_all hD hS hA
                      obtain ⟨k141, gk141, hk141⟩ := wGt (cy := cy) X S137 ((xe64.tr (xe72.tr (xe133.tr xe138))).A h_o1).1 ((xe64.tr (xe72.tr (xe133.tr xe138))).A h_o1).2.1
                      refine va_calli (va_runV (As := [.int (S137.I r25 9)]) (rest := []) ⟨hx, hb, hml, hown, hts⟩ (c_X12_answer l (cy := cy) (X := X) (D := D) S137 _ o1 ((xe64.tr (xe72.tr (xe133.tr xe138))).A h_o1) (S137.I r25 9) (t139.w)) (cwV 1 hts gX12_grind_X12_answer rfl rfl rfl hd_X12_answer ⟨Nat.le_of_ble_eq_true rfl, Nat.le_of_ble_eq_true rfl⟩) ⟨fun a U g mk q => ⟨q.1, q.2.1, q.2.2.1.calling, NW.same (u := U) (U := U.calling g mk a) rfl q.2.2.2⟩, va_recv hK hP (q := (RX12, TX12, 34)) (ci := 16) (q0 := k141) rfl hk141, fun U hU hW => ⟨rfl, by rw [hU], wd_pre hP hK hD hU hW, hN.warm hW⟩⟩ rfl rfl hl.1 rfl (lv_room (Nat.le_of_ble_eq_true rfl)) dX12_grind_190 ⟨(Nat.zero_le _), (Nat.zero_le _)⟩) hS (fun q _ h => hFc q h) hFc (fun r142 u t H1 locs ht hvm hw hB hz1 hk1 hS => ?_)
                      obtain ⟨c143, w144⟩ := hw
                      obtain ⟨hP, hD⟩ := wd_post hFc ht hB
                      generalize H1 = H at hP hS ⊢
                      obtain ⟨S145, rfl⟩ : ∃ z, z = u := ⟨_, rfl⟩
                      have t146 : stp [(10, 9), (10, 13), (10, 20), (10, 21), (12, 15)] [] [] S S145 := t139.tr w144 (by decide) (fun _ q => absurd q List.not_mem_nil)
                      have xe147 : ext S137 S145 := w144.x
                      refine W.widen (k := 0) (n := 0) (Nat.le_of_ble_eq_true rfl) (Nat.le_of_ble_eq_true rfl) ?_
                      exact W.iret (v := r142) hx hb hr (fun t ht hW9 => ⟨⟨r142, S145, rfl, t146, wd_end hP hK hD ht hW9.alike⟩, hS.F ht⟩) hS.2.2 dX12_grind_193 hlocks
                    · have c135i : (if (S.I r25 9) < x2 then (S.I r25 9) else x2).toInt ≤ 30 := nlt_v rfl rfl c135
                      refine lv_iload hx hb dX12_grind_163 (lv_at hl 0 rfl) ?_
                      refine lv_bipush (v := 20) hx hb dX12_grind_165 (by decide +kernel) ?_
                      refine lv_icmp_le (tgt := 180) hx hb dX12_grind_167 (by decide) (fun c148 => ?_) (fun c148 => ?_)
                      · have c148i : (if (S.I r25 9) < x2 then (S.I r25 9) else x2).toInt ≤ 20 := le_v rfl rfl c148
                        refine lv_iconst (v := 0) hx hb dX12_grind_180 (by decide) ?_
                        have l32_0 : (0 : Int32).toInt = 0 := rfl
                        obtain ⟨k149, gk149, hk149⟩ := wGt (cy := cy) X S132 (xe133.A (xe72.A (xe64.A o26))).1 (xe133.A (xe72.A (xe64.A o26))).2.1
                        refine va_putN (D := D) (ci := 14) (v := .int (0 : Int32)) (ty := .boolean) (C := RX10) (T := TX10) (N := 23) hx hb hts (by decide +kernel) tyX10 tyX10_ok nmX10 hown hK hP hD hS k149 hk149 rfl 20 (by decide) (va_Nw.use rfl (hN (.fieldLinkNest RX12 372 "HobhouseModel$Gear" "isScrap" "Z" "HobhouseModel") (by decide +kernel))) (fun _ h9 => h9) rfl (by decide +kernel) (by rfl) (by rfl) (Nat.le_of_ble_eq_true rfl) dX12_grind_181 (fun H locs hP2 hD2 hS => ?_)
                        have e9 := wPuI (cy := cy) (j := 20) (v := (0 : Int32)) hD (xe133.A (xe72.A (xe64.A o26))).1 (xe133.A (xe72.A (xe64.A o26))).2.1 gk149 rfl
                        obtain ⟨S150, hS150⟩ : ∃ z, S132.sI r25 20 (0 : Int32) = z := ⟨_, rfl⟩
                        have hP : va_P D vwCl (X ++ PL cy S150) H := by rw [← hS150, ← e9]; exact hP2
                        have hD : va_D A (X ++ PL cy S150) := by rw [← hS150, ← e9]; exact hD2
                        have xe151 : ext S132 S150 := by rw [← hS150]; exact ext.sI _ _ _ _
                        have t152 : stp [(10, 9), (10, 13), (10, 20), (10, 21), (12, 15)] [] [] S S150 := by rw [← hS150]; exact t134.I 20 (0 : Int32) (xe133.A (xe72.A (xe64.A o26))) (by decide) (⟨by decide, by decide⟩) (Or.inl (by decide))
                        refine lv_aload_n hx hb dX12_grind_184 rfl (lv_at hl 2 rfl) ?_
                        refine lv_aload hx hb dX12_grind_185 (lv_at hl 1 rfl) ?_
                        obtain ⟨k153, gk153, hk153⟩ := wGt (cy := cy) X S150 (xe151.A (xe133.A (xe72.A (xe64.A o26)))).1 (xe151.A (xe133.A (xe72.A (xe64.A o26)))).2.1
                        refine va_getN (D := D) (ci := 14) (v := .int (S150.I r25 9)) (C := RX10) (T := TX10) (N := 23) hx hb hts (by decide +kernel) hown hK hP k153 hk153 rfl 9 (by decide) (va_Nw.use rfl (hN (.fieldLinkNest RX12 356 "HobhouseModel$Gear" "stock" "I" "HobhouseModel") (by decide +kernel))) (fun _ h9 => h9) rfl dX12_grind_187 ?_
                        have hFc := free_all hD hS hA
                        obtain ⟨k154, gk154, hk154⟩ := wGt (cy := cy) X S150 ((xe64.tr (xe72.tr (xe133.tr xe151))).A h_o1).1 ((xe64.tr (xe72.tr (xe133.tr xe151))).A h_o1).2.1
                        refine va_calli (va_runV (As := [.int (S150.I r25 9)]) (rest := []) ⟨hx, hb, hml, hown, hts⟩ (c_X12_answer l (cy := cy) (X := X) (D := D) S150 _ o1 ((xe64.tr (xe72.tr (xe133.tr xe151))).A h_o1) (S150.I r25 9) (t152.w)) (cwV 1 hts gX12_grind_X12_answer rfl rfl rfl hd_X12_answer ⟨Nat.le_of_ble_eq_true rfl, Nat.le_of_ble_eq_true rfl⟩) ⟨fun a U g mk q => ⟨q.1, q.2.1, q.2.2.1.calling, NW.same (u := U) (U := U.calling g mk a) rfl q.2.2.2⟩, va_recv hK hP (q := (RX12, TX12, 34)) (ci := 16) (q0 := k154) rfl hk154, fun U hU hW => ⟨rfl, by rw [hU], wd_pre hP hK hD hU hW, hN.warm hW⟩⟩ rfl rfl hl.1 rfl (lv_room (Nat.le_of_ble_eq_true rfl)) dX12_grind_190 ⟨(Nat.zero_le _), (Nat.zero_le _)⟩) hS (fun q _ h => hFc q h) hFc (fun r155 u t H1 locs ht hvm hw hB hz1 hk1 hS => ?_)
                        obtain ⟨c156, w157⟩ := hw
                        obtain ⟨hP, hD⟩ := wd_post hFc ht hB
                        generalize H1 = H at hP hS ⊢
                        obtain ⟨S158, rfl⟩ : ∃ z, z = u := ⟨_, rfl⟩
                        have t159 : stp [(10, 9), (10, 13), (10, 20), (10, 21), (12, 15)] [] [] S S158 := t152.tr w157 (by decide) (fun _ q => absurd q List.not_mem_nil)
                        have xe160 : ext S150 S158 := w157.x
                        refine W.widen (k := 0) (n := 0) (Nat.le_of_ble_eq_true rfl) (Nat.le_of_ble_eq_true rfl) ?_
                        exact W.iret (v := r155) hx hb hr (fun t ht hW9 => ⟨⟨r155, S158, rfl, t159, wd_end hP hK hD ht hW9.alike⟩, hS.F ht⟩) hS.2.2 dX12_grind_193 hlocks
                      · have c148i : 20 < (if (S.I r25 9) < x2 then (S.I r25 9) else x2).toInt := nle_v rfl rfl c148
                        refine lv_iload_n hx hb dX12_grind_170 rfl (lv_at hl 5 rfl) ?_
                        refine lv_bipush (v := 100) hx hb dX12_grind_171 (by decide +kernel) ?_
                        refine lv_icmp_le (tgt := 180) hx hb dX12_grind_173 (by decide) (fun c161 => ?_) (fun c161 => ?_)
                        · have c161i : x3.toInt ≤ 100 := le_v rfl rfl c161
                          refine lv_iconst (v := 0) hx hb dX12_grind_180 (by decide) ?_
                          have l32_0 : (0 : Int32).toInt = 0 := rfl
                          obtain ⟨k162, gk162, hk162⟩ := wGt (cy := cy) X S132 (xe133.A (xe72.A (xe64.A o26))).1 (xe133.A (xe72.A (xe64.A o26))).2.1
                          refine va_putN (D := D) (ci := 14) (v := .int (0 : Int32)) (ty := .boolean) (C := RX10) (T := TX10) (N := 23) hx hb hts (by decide +kernel) tyX10 tyX10_ok nmX10 hown hK hP hD hS k162 hk162 rfl 20 (by decide) (va_Nw.use rfl (hN (.fieldLinkNest RX12 372 "HobhouseModel$Gear" "isScrap" "Z" "HobhouseModel") (by decide +kernel))) (fun _ h9 => h9) rfl (by decide +kernel) (by rfl) (by rfl) (Nat.le_of_ble_eq_true rfl) dX12_grind_181 (fun H locs hP2 hD2 hS => ?_)
                          have e9 := wPuI (cy := cy) (j := 20) (v := (0 : Int32)) hD (xe133.A (xe72.A (xe64.A o26))).1 (xe133.A (xe72.A (xe64.A o26))).2.1 gk162 rfl
                          obtain ⟨S163, hS163⟩ : ∃ z, S132.sI r25 20 (0 : Int32) = z := ⟨_, rfl⟩
                          have hP : va_P D vwCl (X ++ PL cy S163) H := by rw [← hS163, ← e9]; exact hP2
                          have hD : va_D A (X ++ PL cy S163) := by rw [← hS163, ← e9]; exact hD2
                          have xe164 : ext S132 S163 := by rw [← hS163]; exact ext.sI _ _ _ _
                          have t165 : stp [(10, 9), (10, 13), (10, 20), (10, 21), (12, 15)] [] [] S S163 := by rw [← hS163]; exact t134.I 20 (0 : Int32) (xe133.A (xe72.A (xe64.A o26))) (by decide) (⟨by decide, by decide⟩) (Or.inl (by decide))
                          refine lv_aload_n hx hb dX12_grind_184 rfl (lv_at hl 2 rfl) ?_
                          refine lv_aload hx hb dX12_grind_185 (lv_at hl 1 rfl) ?_
                          obtain ⟨k166, gk166, hk166⟩ := wGt (cy := cy) X S163 (xe164.A (xe133.A (xe72.A (xe64.A o26)))).1 (xe164.A (xe133.A (xe72.A (xe64.A o26)))).2.1
                          refine va_getN (D := D) (ci := 14) (v := .int (S163.I r25 9)) (C := RX10) (T := TX10) (N := 23) hx hb hts (by decide +kernel) hown hK hP k166 hk166 rfl 9 (by decide) (va_Nw.use rfl (hN (.fieldLinkNest RX12 356 "HobhouseModel$Gear" "stock" "I" "HobhouseModel") (by decide +kernel))) (fun _ h9 => h9) rfl dX12_grind_187 ?_
                          have hFc := free_all hD hS hA
                          obtain ⟨k167, gk167, hk167⟩ := wGt (cy := cy) X S163 ((xe64.tr (xe72.tr (xe133.tr xe164))).A h_o1).1 ((xe64.tr (xe72.tr (xe133.tr xe164))).A h_o1).2.1
                          refine va_calli (va_runV (As := [.int (S163.I r25 9)]) (rest := []) ⟨hx, hb, hml, hown, hts⟩ (c_X12_answer l (cy := cy) (X := X) (D := D) S163 _ o1 ((xe64.tr (xe72.tr (xe133.tr xe164))).A h_o1) (S163.I r25 9) (t165.w)) (cwV 1 hts gX12_grind_X12_answer rfl rfl rfl hd_X12_answer ⟨Nat.le_of_ble_eq_true rfl, Nat.le_of_ble_eq_true rfl⟩) ⟨fun a U g mk q => ⟨q.1, q.2.1, q.2.2.1.calling, NW.same (u := U) (U := U.calling g mk a) rfl q.2.2.2⟩, va_recv hK hP (q := (RX12, TX12, 34)) (ci := 16) (q0 := k167) rfl hk167, fun U hU hW => ⟨rfl, by rw [hU], wd_pre hP hK hD hU hW, hN.warm hW⟩⟩ rfl rfl hl.1 rfl (lv_room (Nat.le_of_ble_eq_true rfl)) dX12_grind_190 ⟨(Nat.zero_le _), (Nat.zero_le _)⟩) hS (fun q _ h => hFc q h) hFc (fun r168 u t H1 locs ht hvm hw hB hz1 hk1 hS => ?_)
                          obtain ⟨c169, w170⟩ := hw
                          obtain ⟨hP, hD⟩ := wd_post hFc ht hB
                          generalize H1 = H at hP hS ⊢
                          obtain ⟨S171, rfl⟩ : ∃ z, z = u := ⟨_, rfl⟩
                          have t172 : stp [(10, 9), (10, 13), (10, 20), (10, 21), (12, 15)] [] [] S S171 := t165.tr w170 (by decide) (fun _ q => absurd q List.not_mem_nil)
                          have xe173 : ext S163 S171 := w170.x
                          refine W.widen (k := 0) (n := 0) (Nat.le_of_ble_eq_true rfl) (Nat.le_of_ble_eq_true rfl) ?_
                          exact W.iret (v := r168) hx hb hr (fun t ht hW9 => ⟨⟨r168, S171, rfl, t172, wd_end hP hK hD ht hW9.alike⟩, hS.F ht⟩) hS.2.2 dX12_grind_193 hlocks
                        · have c161i : 100 < x3.toInt := nle_v rfl rfl c161
                          refine lv_iconst (v := 1) hx hb dX12_grind_176 (by decide) ?_
                          refine lv_goto (tgt := 181) hx hb dX12_grind_177 (by decide) ?_
                          obtain ⟨k174, gk174, hk174⟩ := wGt (cy := cy) X S132 (xe133.A (xe72.A (xe64.A o26))).1 (xe133.A (xe72.A (xe64.A o26))).2.1
                          refine va_putN (D := D) (ci := 14) (v := .int (1 : Int32)) (ty := .boolean) (C := RX10) (T := TX10) (N := 23) hx hb hts (by decide +kernel) tyX10 tyX10_ok nmX10 hown hK hP hD hS k174 hk174 rfl 20 (by decide) (va_Nw.use rfl (hN (.fieldLinkNest RX12 372 "HobhouseModel$Gear" "isScrap" "Z" "HobhouseModel") (by decide +kernel))) (fun _ h9 => h9) rfl (by decide +kernel) (by rfl) (by rfl) (Nat.le_of_ble_eq_true rfl) dX12_grind_181 (fun H locs hP2 hD2 hS => ?_)
                          have e9 := wPuI (cy := cy) (j := 20) (v := (1 : Int32)) hD (xe133.A (xe72.A (xe64.A o26))).1 (xe133.A (xe72.A (xe64.A o26))).2.1 gk174 rfl
                          obtain ⟨S175, hS175⟩ : ∃ z, S132.sI r25 20 (1 : Int32) = z := ⟨_, rfl⟩
                          have hP : va_P D vwCl (X ++ PL cy S175) H := by rw [← hS175, ← e9]; exact hP2
                          have hD : va_D A (X ++ PL cy S175) := by rw [← hS175, ← e9]; exact hD2
                          have xe176 : ext S132 S175 := by rw [← hS175]; exact ext.sI _ _ _ _
                          have t177 : stp [(10, 9), (10, 13), (10, 20), (10, 21), (12, 15)] [] [] S S175 := by rw [← hS175]; exact t134.I 20 (1 : Int32) (xe133.A (xe72.A (xe64.A o26))) (by decide) (⟨by decide, by decide⟩) (Or.inl (by decide))
                          refine lv_aload_n hx hb dX12_grind_184 rfl (lv_at hl 2 rfl) ?_
                          refine lv_aload hx hb dX12_grind_185 (lv_at hl 1 rfl) ?_
                          obtain ⟨k178, gk178, hk178⟩ := wGt (cy := cy) X S175 (xe176.A (xe133.A (xe72.A (xe64.A o26)))).1 (xe176.A (xe133.A (xe72.A (xe64.A o26)))).2.1
                          refine va_getN (D := D) (ci := 14) (v := .int (S175.I r25 9)) (C := RX10) (T := TX10) (N := 23) hx hb hts (by decide +kernel) hown hK hP k178 hk178 rfl 9 (by decide) (va_Nw.use rfl (hN (.fieldLinkNest RX12 356 "HobhouseModel$Gear" "stock" "I" "HobhouseModel") (by decide +kernel))) (fun _ h9 => h9) rfl dX12_grind_187 ?_
                          have hFc := free_all hD hS hA
                          obtain ⟨k179, gk179, hk179⟩ := wGt (cy := cy) X S175 ((xe64.tr (xe72.tr (xe133.tr xe176))).A h_o1).1 ((xe64.tr (xe72.tr (xe133.tr xe176))).A h_o1).2.1
                          refine va_calli (va_runV (As := [.int (S175.I r25 9)]) (rest := []) ⟨hx, hb, hml, hown, hts⟩ (c_X12_answer l (cy := cy) (X := X) (D := D) S175 _ o1 ((xe64.tr (xe72.tr (xe133.tr xe176))).A h_o1) (S175.I r25 9) (t177.w)) (cwV 1 hts gX12_grind_X12_answer rfl rfl rfl hd_X12_answer ⟨Nat.le_of_ble_eq_true rfl, Nat.le_of_ble_eq_true rfl⟩) ⟨fun a U g mk q => ⟨q.1, q.2.1, q.2.2.1.calling, NW.same (u := U) (U := U.calling g mk a) rfl q.2.2.2⟩, va_recv hK hP (q := (RX12, TX12, 34)) (ci := 16) (q0 := k179) rfl hk179, fun U hU hW => ⟨rfl, by rw [hU], wd_pre hP hK hD hU hW, hN.warm hW⟩⟩ rfl rfl hl.1 rfl (lv_room (Nat.le_of_ble_eq_true rfl)) dX12_grind_190 ⟨(Nat.zero_le _), (Nat.zero_le _)⟩) hS (fun q _ h => hFc q h) hFc (fun r180 u t H1 locs ht hvm hw hB hz1 hk1 hS => ?_)
                          obtain ⟨c181, w182⟩ := hw
                          obtain ⟨hP, hD⟩ := wd_post hFc ht hB
                          generalize H1 = H at hP hS ⊢
                          obtain ⟨S183, rfl⟩ : ∃ z, z = u := ⟨_, rfl⟩
                          have t184 : stp [(10, 9), (10, 13), (10, 20), (10, 21), (12, 15)] [] [] S S183 := t177.tr w182 (by decide) (fun _ q => absurd q List.not_mem_nil)
                          have xe185 : ext S175 S183 := w182.x
                          refine W.widen (k := 0) (n := 0) (Nat.le_of_ble_eq_true rfl) (Nat.le_of_ble_eq_true rfl) ?_
                          exact W.iret (v := r180) hx hb hr (fun t ht hW9 => ⟨⟨r180, S183, rfl, t184, wd_end hP hK hD ht hW9.alike⟩, hS.F ht⟩) hS.2.2 dX12_grind_193 hlocks
                · have c69i : ¬ (S63.I r25 19).toInt = 0 := neq_v rfl rfl c69
                  refine lv_iload hx hb dX12_grind_126 (lv_at hl 0 rfl) ?_
                  refine lv_goto (tgt := 132) hx hb dX12_grind_128 (by decide) ?_
                  refine lv_iadd hx hb dX12_grind_132 ?_
                  obtain ⟨k186, gk186, hk186⟩ := wGt (cy := cy) X S63 (xe64.A o26).1 (xe64.A o26).2.1
                  refine va_putN (D := D) (ci := 14) (v := .int ((S63.I r25 13) + (if (S.I r25 9) < x2 then (S.I r25 9) else x2))) (ty := .int) (C := RX10) (T := TX10) (N := 23) hx hb hts (by decide +kernel) tyX10 tyX10_ok nmX10 hown hK hP hD hS k186 hk186 rfl 13 (by decide) (va_Nw.use rfl (hN (.fieldLinkNest RX12 397 "HobhouseModel$Gear" "ground" "I" "HobhouseModel") (by decide +kernel))) (fun _ h9 => h9) rfl (by decide +kernel) (rfl) (rfl) (Nat.le_of_ble_eq_true rfl) dX12_grind_133 (fun H locs hP2 hD2 hS => ?_)
                  have e9 := wPuI (cy := cy) (j := 13) (v := ((S63.I r25 13) + (if (S.I r25 9) < x2 then (S.I r25 9) else x2))) hD (xe64.A o26).1 (xe64.A o26).2.1 gk186 rfl
                  obtain ⟨S187, hS187⟩ : ∃ z, S63.sI r25 13 ((S63.I r25 13) + (if (S.I r25 9) < x2 then (S.I r25 9) else x2)) = z := ⟨_, rfl⟩
                  have hP : va_P D vwCl (X ++ PL cy S187) H := by rw [← hS187, ← e9]; exact hP2
                  have hD : va_D A (X ++ PL cy S187) := by rw [← hS187, ← e9]; exact hD2
                  have xe188 : ext S63 S187 := by rw [← hS187]; exact ext.sI _ _ _ _
                  have t189 : stp [(10, 9), (10, 13), (10, 20), (10, 21), (12, 15)] [] [] S S187 := by rw [← hS187]; exact t65.I 13 ((S63.I r25 13) + (if (S.I r25 9) < x2 then (S.I r25 9) else x2)) (xe64.A o26) (by decide) (trivial) (Or.inl (by decide))
                  refine lv_aload hx hb dX12_grind_136 (lv_at hl 1 rfl) ?_
                  refine lv_aload hx hb dX12_grind_138 (lv_at hl 1 rfl) ?_
                  obtain ⟨k190, gk190, hk190⟩ := wGt (cy := cy) X S187 (xe188.A (xe64.A o26)).1 (xe188.A (xe64.A o26)).2.1
                  refine va_getN (D := D) (ci := 14) (v := .int (S187.I r25 9)) (C := RX10) (T := TX10) (N := 23) hx hb hts (by decide +kernel) hown hK hP k190 hk190 rfl 9 (by decide) (va_Nw.use rfl (hN (.fieldLinkNest RX12 356 "HobhouseModel$Gear" "stock" "I" "HobhouseModel") (by decide +kernel))) (fun _ h9 => h9) rfl dX12_grind_140 ?_
                  refine lv_if_ne (tgt := 150) hx hb dX12_grind_143 (by decide) (fun c191 => ?_) (fun c191 => ?_)
                  · have c191i : ¬ (S187.I r25 9).toInt = 0 := neq_v rfl rfl c191
                    refine lv_iconst (v := 0) hx hb dX12_grind_150 (by decide) ?_
                    have l32_0 : (0 : Int32).toInt = 0 := rfl
                    obtain ⟨k192, gk192, hk192⟩ := wGt (cy := cy) X S187 (xe188.A (xe64.A o26)).1 (xe188.A (xe64.A o26)).2.1
                    refine va_putN (D := D) (ci := 14) (v := .int (0 : Int32)) (ty := .boolean) (C := RX10) (T := TX10) (N := 23) hx hb hts (by decide +kernel) tyX10 tyX10_ok nmX10 hown hK hP hD hS k192 hk192 rfl 21 (by decide) (va_Nw.use rfl (hN (.fieldLinkNest RX12 400 "HobhouseModel$Gear" "isGround" "Z" "HobhouseModel") (by decide +kernel))) (fun _ h9 => h9) rfl (by decide +kernel) (by rfl) (by rfl) (Nat.le_of_ble_eq_true rfl) dX12_grind_151 (fun H locs hP2 hD2 hS => ?_)
                    have e9 := wPuI (cy := cy) (j := 21) (v := (0 : Int32)) hD (xe188.A (xe64.A o26)).1 (xe188.A (xe64.A o26)).2.1 gk192 rfl
                    obtain ⟨S193, hS193⟩ : ∃ z, S187.sI r25 21 (0 : Int32) = z := ⟨_, rfl⟩
                    have hP : va_P D vwCl (X ++ PL cy S193) H := by rw [← hS193, ← e9]; exact hP2
                    have hD : va_D A (X ++ PL cy S193) := by rw [← hS193, ← e9]; exact hD2
                    have xe194 : ext S187 S193 := by rw [← hS193]; exact ext.sI _ _ _ _
                    have t195 : stp [(10, 9), (10, 13), (10, 20), (10, 21), (12, 15)] [] [] S S193 := by rw [← hS193]; exact t189.I 21 (0 : Int32) (xe188.A (xe64.A o26)) (by decide) (⟨by decide, by decide⟩) (Or.inl (by decide))
                    refine lv_aload hx hb dX12_grind_154 (lv_at hl 1 rfl) ?_
                    refine lv_iload hx hb dX12_grind_156 (lv_at hl 0 rfl) ?_
                    refine lv_bipush (v := 30) hx hb dX12_grind_158 (by decide +kernel) ?_
                    refine lv_icmp_gt (tgt := 176) hx hb dX12_grind_160 (by decide) (fun c196 => ?_) (fun c196 => ?_)
                    · have c196i : 30 < (if (S.I r25 9) < x2 then (S.I r25 9) else x2).toInt := lt_v rfl rfl c196
                      refine lv_iconst (v := 1) hx hb dX12_grind_176 (by decide) ?_
                      refine lv_goto (tgt := 181) hx hb dX12_grind_177 (by decide) ?_
                      have l32_1 : (1 : Int32).toInt = 1 := rfl
                      obtain ⟨k197, gk197, hk197⟩ := wGt (cy := cy) X S193 (xe194.A (xe188.A (xe64.A o26))).1 (xe194.A (xe188.A (xe64.A o26))).2.1
                      refine va_putN (D := D) (ci := 14) (v := .int (1 : Int32)) (ty := .boolean) (C := RX10) (T := TX10) (N := 23) hx hb hts (by decide +kernel) tyX10 tyX10_ok nmX10 hown hK hP hD hS k197 hk197 rfl 20 (by decide) (va_Nw.use rfl (hN (.fieldLinkNest RX12 372 "HobhouseModel$Gear" "isScrap" "Z" "HobhouseModel") (by decide +kernel))) (fun _ h9 => h9) rfl (by decide +kernel) (by rfl) (by rfl) (Nat.le_of_ble_eq_true rfl) dX12_grind_181 (fun H locs hP2 hD2 hS => ?_)
                      have e9 := wPuI (cy := cy) (j := 20) (v := (1 : Int32)) hD (xe194.A (xe188.A (xe64.A o26))).1 (xe194.A (xe188.A (xe64.A o26))).2.1 gk197 rfl
                      obtain ⟨S198, hS198⟩ : ∃ z, S193.sI r25 20 (1 : Int32) = z := ⟨_, rfl⟩
                      have hP : va_P D vwCl (X ++ PL cy S198) H := by rw [← hS198, ← e9]; exact hP2
                      have hD : va_D A (X ++ PL cy S198) := by rw [← hS198, ← e9]; exact hD2
                      have xe199 : ext S193 S198 := by rw [← hS198]; exact ext.sI _ _ _ _
                      have t200 : stp [(10, 9), (10, 13), (10, 20), (10, 21), (12, 15)] [] [] S S198 := by rw [← hS198]; exact t195.I 20 (1 : Int32) (xe194.A (xe188.A (xe64.A o26))) (by decide) (⟨by decide, by decide⟩) (Or.inl (by decide))
                      refine lv_aload_n hx hb dX12_grind_184 rfl (lv_at hl 2 rfl) ?_
                      refine lv_aload hx hb dX12_grind_185 (lv_at hl 1 rfl) ?_
                      obtain ⟨k201, gk201, hk201⟩ := wGt (cy := cy) X S198 (xe199.A (xe194.A (xe188.A (xe64.A o26)))).1 (xe199.A (xe194.A (xe188.A (xe64.A o26)))).2.1
                      refine va_getN (D := D) (ci := 14) (v := .int (S198.I r25 9)) (C := RX10) (T := TX10) (N := 23) hx hb hts (by decide +kernel) hown hK hP k201 hk201 rfl 9 (by decide) (va_Nw.use rfl (hN (.fieldLinkNest RX12 356 "HobhouseModel$Gear" "stock" "I" "HobhouseModel") (by decide +kernel))) (fun _ h9 => h9) rfl dX12_grind_187 ?_
                      have hFc := free_all hD hS hA
                      obtain ⟨k202, gk202, hk202⟩ := wGt (cy := cy) X S198 ((xe64.tr (xe188.tr (xe194.tr xe199))).A h_o1).1 ((xe64.tr (xe188.tr (xe194.tr xe199))).A h_o1).2.1
                      refine va_calli (va_runV (As := [.int (S198.I r25 9)]) (rest := []) ⟨hx, hb, hml, hown, hts⟩ (c_X12_answer l (cy := cy) (X := X) (D := D) S198 _ o1 ((xe64.tr (xe188.tr (xe194.tr xe199))).A h_o1) (S198.I r25 9) (t200.w)) (cwV 1 hts gX12_grind_X12_answer rfl rfl rfl hd_X12_answer ⟨Nat.le_of_ble_eq_true rfl, Nat.le_of_ble_eq_true rfl⟩) ⟨fun a U g mk q => ⟨q.1, q.2.1, q.2.2.1.calling, NW.same (u := U) (U := U.calling g mk a) rfl q.2.2.2⟩, va_recv hK hP (q := (RX12, TX12, 34)) (ci := 16) (q0 := k202) rfl hk202, fun U hU hW => ⟨rfl, by rw [hU], wd_pre hP hK hD hU hW, hN.warm hW⟩⟩ rfl rfl hl.1 rfl (lv_room (Nat.le_of_ble_eq_true rfl)) dX12_grind_190 ⟨(Nat.zero_le _), (Nat.zero_le _)⟩) hS (fun q _ h => hFc q h) hFc (fun r203 u t H1 locs ht hvm hw hB hz1 hk1 hS => ?_)
                      obtain ⟨c204, w205⟩ := hw
                      obtain ⟨hP, hD⟩ := wd_post hFc ht hB
                      generalize H1 = H at hP hS ⊢
                      obtain ⟨S206, rfl⟩ : ∃ z, z = u := ⟨_, rfl⟩
                      have t207 : stp [(10, 9), (10, 13), (10, 20), (10, 21), (12, 15)] [] [] S S206 := t200.tr w205 (by decide) (fun _ q => absurd q List.not_mem_nil)
                      have xe208 : ext S198 S206 := w205.x
                      refine W.widen (k := 0) (n := 0) (Nat.le_of_ble_eq_true rfl) (Nat.le_of_ble_eq_true rfl) ?_
                      exact W.iret (v := r203) hx hb hr (fun t ht hW9 => ⟨⟨r203, S206, rfl, t207, wd_end hP hK hD ht hW9.alike⟩, hS.F ht⟩) hS.2.2 dX12_grind_193 hlocks
                    · have c196i : (if (S.I r25 9) < x2 then (S.I r25 9) else x2).toInt ≤ 30 := nlt_v rfl rfl c196
                      refine lv_iload hx hb dX12_grind_163 (lv_at hl 0 rfl) ?_
                      refine lv_bipush (v := 20) hx hb dX12_grind_165 (by decide +kernel) ?_
                      refine lv_icmp_le (tgt := 180) hx hb dX12_grind_167 (by decide) (fun c209 => ?_) (fun c209 => ?_)
                      · have c209i : (if (S.I r25 9) < x2 then (S.I r25 9) else x2).toInt ≤ 20 := le_v rfl rfl c209
                        refine lv_iconst (v := 0) hx hb dX12_grind_180 (by decide) ?_
                        obtain ⟨k210, gk210, hk210⟩ := wGt (cy := cy) X S193 (xe194.A (xe188.A (xe64.A o26))).1 (xe194.A (xe188.A (xe64.A o26))).2.1
                        refine va_putN (D := D) (ci := 14) (v := .int (0 : Int32)) (ty := .boolean) (C := RX10) (T := TX10) (N := 23) hx hb hts (by decide +kernel) tyX10 tyX10_ok nmX10 hown hK hP hD hS k210 hk210 rfl 20 (by decide) (va_Nw.use rfl (hN (.fieldLinkNest RX12 372 "HobhouseModel$Gear" "isScrap" "Z" "HobhouseModel") (by decide +kernel))) (fun _ h9 => h9) rfl (by decide +kernel) (by rfl) (by rfl) (Nat.le_of_ble_eq_true rfl) dX12_grind_181 (fun H locs hP2 hD2 hS => ?_)
                        have e9 := wPuI (cy := cy) (j := 20) (v := (0 : Int32)) hD (xe194.A (xe188.A (xe64.A o26))).1 (xe194.A (xe188.A (xe64.A o26))).2.1 gk210 rfl
                        obtain ⟨S211, hS211⟩ : ∃ z, S193.sI r25 20 (0 : Int32) = z := ⟨_, rfl⟩
                        have hP : va_P D vwCl (X ++ PL cy S211) H := by rw [← hS211, ← e9]; exact hP2
                        have hD : va_D A (X ++ PL cy S211) := by rw [← hS211, ← e9]; exact hD2
                        have xe212 : ext S193 S211 := by rw [← hS211]; exact ext.sI _ _ _ _
                        have t213 : stp [(10, 9), (10, 13), (10, 20), (10, 21), (12, 15)] [] [] S S211 := by rw [← hS211]; exact t195.I 20 (0 : Int32) (xe194.A (xe188.A (xe64.A o26))) (by decide) (⟨by decide, by decide⟩) (Or.inl (by decide))
                        refine lv_aload_n hx hb dX12_grind_184 rfl (lv_at hl 2 rfl) ?_
                        refine lv_aload hx hb dX12_grind_185 (lv_at hl 1 rfl) ?_
                        obtain ⟨k214, gk214, hk214⟩ := wGt (cy := cy) X S211 (xe212.A (xe194.A (xe188.A (xe64.A o26)))).1 (xe212.A (xe194.A (xe188.A (xe64.A o26)))).2.1
                        refine va_getN (D := D) (ci := 14) (v := .int (S211.I r25 9)) (C := RX10) (T := TX10) (N := 23) hx hb hts (by decide +kernel) hown hK hP k214 hk214 rfl 9 (by decide) (va_Nw.use rfl (hN (.fieldLinkNest RX12 356 "HobhouseModel$Gear" "stock" "I" "HobhouseModel") (by decide +kernel))) (fun _ h9 => h9) rfl dX12_grind_187 ?_
                        have hFc := free_all hD hS hA
                        obtain ⟨k215, gk215, hk215⟩ := wGt (cy := cy) X S211 ((xe64.tr (xe188.tr (xe194.tr xe212))).A h_o1).1 ((xe64.tr (xe188.tr (xe194.tr xe212))).A h_o1).2.1
                        refine va_calli (va_runV (As := [.int (S211.I r25 9)]) (rest := []) ⟨hx, hb, hml, hown, hts⟩ (c_X12_answer l (cy := cy) (X := X) (D := D) S211 _ o1 ((xe64.tr (xe188.tr (xe194.tr xe212))).A h_o1) (S211.I r25 9) (t213.w)) (cwV 1 hts gX12_grind_X12_answer rfl rfl rfl hd_X12_answer ⟨Nat.le_of_ble_eq_true rfl, Nat.le_of_ble_eq_true rfl⟩) ⟨fun a U g mk q => ⟨q.1, q.2.1, q.2.2.1.calling, NW.same (u := U) (U := U.calling g mk a) rfl q.2.2.2⟩, va_recv hK hP (q := (RX12, TX12, 34)) (ci := 16) (q0 := k215) rfl hk215, fun U hU hW => ⟨rfl, by rw [hU], wd_pre hP hK hD hU hW, hN.warm hW⟩⟩ rfl rfl hl.1 rfl (lv_room (Nat.le_of_ble_eq_true rfl)) dX12_grind_190 ⟨(Nat.zero_le _), (Nat.zero_le _)⟩) hS (fun q _ h => hFc q h) hFc (fun r216 u t H1 locs ht hvm hw hB hz1 hk1 hS => ?_)
                        obtain ⟨c217, w218⟩ := hw
                        obtain ⟨hP, hD⟩ := wd_post hFc ht hB
                        generalize H1 = H at hP hS ⊢
                        obtain ⟨S219, rfl⟩ : ∃ z, z = u := ⟨_, rfl⟩
                        have t220 : stp [(10, 9), (10, 13), (10, 20), (10, 21), (12, 15)] [] [] S S219 := t213.tr w218 (by decide) (fun _ q => absurd q List.not_mem_nil)
                        have xe221 : ext S211 S219 := w218.x
                        refine W.widen (k := 0) (n := 0) (Nat.le_of_ble_eq_true rfl) (Nat.le_of_ble_eq_true rfl) ?_
                        exact W.iret (v := r216) hx hb hr (fun t ht hW9 => ⟨⟨r216, S219, rfl, t220, wd_end hP hK hD ht hW9.alike⟩, hS.F ht⟩) hS.2.2 dX12_grind_193 hlocks
                      · have c209i : 20 < (if (S.I r25 9) < x2 then (S.I r25 9) else x2).toInt := nle_v rfl rfl c209
                        refine lv_iload_n hx hb dX12_grind_170 rfl (lv_at hl 5 rfl) ?_
                        refine lv_bipush (v := 100) hx hb dX12_grind_171 (by decide +kernel) ?_
                        refine lv_icmp_le (tgt := 180) hx hb dX12_grind_173 (by decide) (fun c222 => ?_) (fun c222 => ?_)
                        · have c222i : x3.toInt ≤ 100 := le_v rfl rfl c222
                          refine lv_iconst (v := 0) hx hb dX12_grind_180 (by decide) ?_
                          obtain ⟨k223, gk223, hk223⟩ := wGt (cy := cy) X S193 (xe194.A (xe188.A (xe64.A o26))).1 (xe194.A (xe188.A (xe64.A o26))).2.1
                          refine va_putN (D := D) (ci := 14) (v := .int (0 : Int32)) (ty := .boolean) (C := RX10) (T := TX10) (N := 23) hx hb hts (by decide +kernel) tyX10 tyX10_ok nmX10 hown hK hP hD hS k223 hk223 rfl 20 (by decide) (va_Nw.use rfl (hN (.fieldLinkNest RX12 372 "HobhouseModel$Gear" "isScrap" "Z" "HobhouseModel") (by decide +kernel))) (fun _ h9 => h9) rfl (by decide +kernel) (by rfl) (by rfl) (Nat.le_of_ble_eq_true rfl) dX12_grind_181 (fun H locs hP2 hD2 hS => ?_)
                          have e9 := wPuI (cy := cy) (j := 20) (v := (0 : Int32)) hD (xe194.A (xe188.A (xe64.A o26))).1 (xe194.A (xe188.A (xe64.A o26))).2.1 gk223 rfl
                          obtain ⟨S224, hS224⟩ : ∃ z, S193.sI r25 20 (0 : Int32) = z := ⟨_, rfl⟩
                          have hP : va_P D vwCl (X ++ PL cy S224) H := by rw [← hS224, ← e9]; exact hP2
                          have hD : va_D A (X ++ PL cy S224) := by rw [← hS224, ← e9]; exact hD2
                          have xe225 : ext S193 S224 := by rw [← hS224]; exact ext.sI _ _ _ _
                          have t226 : stp [(10, 9), (10, 13), (10, 20), (10, 21), (12, 15)] [] [] S S224 := by rw [← hS224]; exact t195.I 20 (0 : Int32) (xe194.A (xe188.A (xe64.A o26))) (by decide) (⟨by decide, by decide⟩) (Or.inl (by decide))
                          refine lv_aload_n hx hb dX12_grind_184 rfl (lv_at hl 2 rfl) ?_
                          refine lv_aload hx hb dX12_grind_185 (lv_at hl 1 rfl) ?_
                          obtain ⟨k227, gk227, hk227⟩ := wGt (cy := cy) X S224 (xe225.A (xe194.A (xe188.A (xe64.A o26)))).1 (xe225.A (xe194.A (xe188.A (xe64.A o26)))).2.1
                          refine va_getN (D := D) (ci := 14) (v := .int (S224.I r25 9)) (C := RX10) (T := TX10) (N := 23) hx hb hts (by decide +kernel) hown hK hP k227 hk227 rfl 9 (by decide) (va_Nw.use rfl (hN (.fieldLinkNest RX12 356 "HobhouseModel$Gear" "stock" "I" "HobhouseModel") (by decide +kernel))) (fun _ h9 => h9) rfl dX12_grind_187 ?_
                          have hFc := free_all hD hS hA
                          obtain ⟨k228, gk228, hk228⟩ := wGt (cy := cy) X S224 ((xe64.tr (xe188.tr (xe194.tr xe225))).A h_o1).1 ((xe64.tr (xe188.tr (xe194.tr xe225))).A h_o1).2.1
                          refine va_calli (va_runV (As := [.int (S224.I r25 9)]) (rest := []) ⟨hx, hb, hml, hown, hts⟩ (c_X12_answer l (cy := cy) (X := X) (D := D) S224 _ o1 ((xe64.tr (xe188.tr (xe194.tr xe225))).A h_o1) (S224.I r25 9) (t226.w)) (cwV 1 hts gX12_grind_X12_answer rfl rfl rfl hd_X12_answer ⟨Nat.le_of_ble_eq_true rfl, Nat.le_of_ble_eq_true rfl⟩) ⟨fun a U g mk q => ⟨q.1, q.2.1, q.2.2.1.calling, NW.same (u := U) (U := U.calling g mk a) rfl q.2.2.2⟩, va_recv hK hP (q := (RX12, TX12, 34)) (ci := 16) (q0 := k228) rfl hk228, fun U hU hW => ⟨rfl, by rw [hU], wd_pre hP hK hD hU hW, hN.warm hW⟩⟩ rfl rfl hl.1 rfl (lv_room (Nat.le_of_ble_eq_true rfl)) dX12_grind_190 ⟨(Nat.zero_le _), (Nat.zero_le _)⟩) hS (fun q _ h => hFc q h) hFc (fun r229 u t H1 locs ht hvm hw hB hz1 hk1 hS => ?_)
                          obtain ⟨c230, w231⟩ := hw
                          obtain ⟨hP, hD⟩ := wd_post hFc ht hB
                          generalize H1 = H at hP hS ⊢
                          obtain ⟨S232, rfl⟩ : ∃ z, z = u := ⟨_, rfl⟩
                          have t233 : stp [(10, 9), (10, 13), (10, 20), (10, 21), (12, 15)] [] [] S S232 := t226.tr w231 (by decide) (fun _ q => absurd q List.not_mem_nil)
                          have xe234 : ext S224 S232 := w231.x
                          refine W.widen (k := 0) (n := 0) (Nat.le_of_ble_eq_true rfl) (Nat.le_of_ble_eq_true rfl) ?_
                          exact W.iret (v := r229) hx hb hr (fun t ht hW9 => ⟨⟨r229, S232, rfl, t233, wd_end hP hK hD ht hW9.alike⟩, hS.F ht⟩) hS.2.2 dX12_grind_193 hlocks
                        · have c222i : 100 < x3.toInt := nle_v rfl rfl c222
                          refine lv_iconst (v := 1) hx hb dX12_grind_176 (by decide) ?_
                          refine lv_goto (tgt := 181) hx hb dX12_grind_177 (by decide) ?_
                          have l32_1 : (1 : Int32).toInt = 1 := rfl
                          obtain ⟨k235, gk235, hk235⟩ := wGt (cy := cy) X S193 (xe194.A (xe188.A (xe64.A o26))).1 (xe194.A (xe188.A (xe64.A o26))).2.1
                          refine va_putN (D := D) (ci := 14) (v := .int (1 : Int32)) (ty := .boolean) (C := RX10) (T := TX10) (N := 23) hx hb hts (by decide +kernel) tyX10 tyX10_ok nmX10 hown hK hP hD hS k235 hk235 rfl 20 (by decide) (va_Nw.use rfl (hN (.fieldLinkNest RX12 372 "HobhouseModel$Gear" "isScrap" "Z" "HobhouseModel") (by decide +kernel))) (fun _ h9 => h9) rfl (by decide +kernel) (by rfl) (by rfl) (Nat.le_of_ble_eq_true rfl) dX12_grind_181 (fun H locs hP2 hD2 hS => ?_)
                          have e9 := wPuI (cy := cy) (j := 20) (v := (1 : Int32)) hD (xe194.A (xe188.A (xe64.A o26))).1 (xe194.A (xe188.A (xe64.A o26))).2.1 gk235 rfl
                          obtain ⟨S236, hS236⟩ : ∃ z, S193.sI r25 20 (1 : Int32) = z := ⟨_, rfl⟩
                          have hP : va_P D vwCl (X ++ PL cy S236) H := by rw [← hS236, ← e9]; exact hP2
                          have hD : va_D A (X ++ PL cy S236) := by rw [← hS236, ← e9]; exact hD2
                          have xe237 : ext S193 S236 := by rw [← hS236]; exact ext.sI _ _ _ _
                          have t238 : stp [(10, 9), (10, 13), (10, 20), (10, 21), (12, 15)] [] [] S S236 := by rw [← hS236]; exact t195.I 20 (1 : Int32) (xe194.A (xe188.A (xe64.A o26))) (by decide) (⟨by decide, by decide⟩) (Or.inl (by decide))
                          refine lv_aload_n hx hb dX12_grind_184 rfl (lv_at hl 2 rfl) ?_
                          refine lv_aload hx hb dX12_grind_185 (lv_at hl 1 rfl) ?_
                          obtain ⟨k239, gk239, hk239⟩ := wGt (cy := cy) X S236 (xe237.A (xe194.A (xe188.A (xe64.A o26)))).1 (xe237.A (xe194.A (xe188.A (xe64.A o26)))).2.1
                          refine va_getN (D := D) (ci := 14) (v := .int (S236.I r25 9)) (C := RX10) (T := TX10) (N := 23) hx hb hts (by decide +kernel) hown hK hP k239 hk239 rfl 9 (by decide) (va_Nw.use rfl (hN (.fieldLinkNest RX12 356 "HobhouseModel$Gear" "stock" "I" "HobhouseModel") (by decide +kernel))) (fun _ h9 => h9) rfl dX12_grind_187 ?_
                          have hFc := free_all hD hS hA
                          obtain ⟨k240, gk240, hk240⟩ := wGt (cy := cy) X S236 ((xe64.tr (xe188.tr (xe194.tr xe237))).A h_o1).1 ((xe64.tr (xe188.tr (xe194.tr xe237))).A h_o1).2.1
                          refine va_calli (va_runV (As := [.int (S236.I r25 9)]) (rest := []) ⟨hx, hb, hml, hown, hts⟩ (c_X12_answer l (cy := cy) (X := X) (D := D) S236 _ o1 ((xe64.tr (xe188.tr (xe194.tr xe237))).A h_o1) (S236.I r25 9) (t238.w)) (cwV 1 hts gX12_grind_X12_answer rfl rfl rfl hd_X12_answer ⟨Nat.le_of_ble_eq_true rfl, Nat.le_of_ble_eq_true rfl⟩) ⟨fun a U g mk q => ⟨q.1, q.2.1, q.2.2.1.calling, NW.same (u := U) (U := U.calling g mk a) rfl q.2.2.2⟩, va_recv hK hP (q := (RX12, TX12, 34)) (ci := 16) (q0 := k240) rfl hk240, fun U hU hW => ⟨rfl, by rw [hU], wd_pre hP hK hD hU hW, hN.warm hW⟩⟩ rfl rfl hl.1 rfl (lv_room (Nat.le_of_ble_eq_true rfl)) dX12_grind_190 ⟨(Nat.zero_le _), (Nat.zero_le _)⟩) hS (fun q _ h => hFc q h) hFc (fun r241 u t H1 locs ht hvm hw hB hz1 hk1 hS => ?_)
                          obtain ⟨c242, w243⟩ := hw
                          obtain ⟨hP, hD⟩ := wd_post hFc ht hB
                          generalize H1 = H at hP hS ⊢
                          obtain ⟨S244, rfl⟩ : ∃ z, z = u := ⟨_, rfl⟩
                          have t245 : stp [(10, 9), (10, 13), (10, 20), (10, 21), (12, 15)] [] [] S S244 := t238.tr w243 (by decide) (fun _ q => absurd q List.not_mem_nil)
                          have xe246 : ext S236 S244 := w243.x
                          refine W.widen (k := 0) (n := 0) (Nat.le_of_ble_eq_true rfl) (Nat.le_of_ble_eq_true rfl) ?_
                          exact W.iret (v := r241) hx hb hr (fun t ht hW9 => ⟨⟨r241, S244, rfl, t245, wd_end hP hK hD ht hW9.alike⟩, hS.F ht⟩) hS.2.2 dX12_grind_193 hlocks
                  · have c191i : (S187.I r25 9).toInt = 0 := eq_v rfl rfl c191
                    refine lv_iconst (v := 1) hx hb dX12_grind_146 (by decide) ?_
                    refine lv_goto (tgt := 151) hx hb dX12_grind_147 (by decide) ?_
                    have l32_1 : (1 : Int32).toInt = 1 := rfl
                    obtain ⟨k247, gk247, hk247⟩ := wGt (cy := cy) X S187 (xe188.A (xe64.A o26)).1 (xe188.A (xe64.A o26)).2.1
                    refine va_putN (D := D) (ci := 14) (v := .int (1 : Int32)) (ty := .boolean) (C := RX10) (T := TX10) (N := 23) hx hb hts (by decide +kernel) tyX10 tyX10_ok nmX10 hown hK hP hD hS k247 hk247 rfl 21 (by decide) (va_Nw.use rfl (hN (.fieldLinkNest RX12 400 "HobhouseModel$Gear" "isGround" "Z" "HobhouseModel") (by decide +kernel))) (fun _ h9 => h9) rfl (by decide +kernel) (by rfl) (by rfl) (Nat.le_of_ble_eq_true rfl) dX12_grind_151 (fun H locs hP2 hD2 hS => ?_)
                    have e9 := wPuI (cy := cy) (j := 21) (v := (1 : Int32)) hD (xe188.A (xe64.A o26)).1 (xe188.A (xe64.A o26)).2.1 gk247 rfl
                    obtain ⟨S248, hS248⟩ : ∃ z, S187.sI r25 21 (1 : Int32) = z := ⟨_, rfl⟩
                    have hP : va_P D vwCl (X ++ PL cy S248) H := by rw [← hS248, ← e9]; exact hP2
                    have hD : va_D A (X ++ PL cy S248) := by rw [← hS248, ← e9]; exact hD2
                    have xe249 : ext S187 S248 := by rw [← hS248]; exact ext.sI _ _ _ _
                    have t250 : stp [(10, 9), (10, 13), (10, 20), (10, 21), (12, 15)] [] [] S S248 := by rw [← hS248]; exact t189.I 21 (1 : Int32) (xe188.A (xe64.A o26)) (by decide) (⟨by decide, by decide⟩) (Or.inl (by decide))
                    refine lv_aload hx hb dX12_grind_154 (lv_at hl 1 rfl) ?_
                    refine lv_iload hx hb dX12_grind_156 (lv_at hl 0 rfl) ?_
                    refine lv_bipush (v := 30) hx hb dX12_grind_158 (by decide +kernel) ?_
                    refine lv_icmp_gt (tgt := 176) hx hb dX12_grind_160 (by decide) (fun c251 => ?_) (fun c251 => ?_)
                    · have c251i : 30 < (if (S.I r25 9) < x2 then (S.I r25 9) else x2).toInt := lt_v rfl rfl c251
                      refine lv_iconst (v := 1) hx hb dX12_grind_176 (by decide) ?_
                      refine lv_goto (tgt := 181) hx hb dX12_grind_177 (by decide) ?_
                      obtain ⟨k252, gk252, hk252⟩ := wGt (cy := cy) X S248 (xe249.A (xe188.A (xe64.A o26))).1 (xe249.A (xe188.A (xe64.A o26))).2.1
                      refine va_putN (D := D) (ci := 14) (v := .int (1 : Int32)) (ty := .boolean) (C := RX10) (T := TX10) (N := 23) hx hb hts (by decide +kernel) tyX10 tyX10_ok nmX10 hown hK hP hD hS k252 hk252 rfl 20 (by decide) (va_Nw.use rfl (hN (.fieldLinkNest RX12 372 "HobhouseModel$Gear" "isScrap" "Z" "HobhouseModel") (by decide +kernel))) (fun _ h9 => h9) rfl (by decide +kernel) (by rfl) (by rfl) (Nat.le_of_ble_eq_true rfl) dX12_grind_181 (fun H locs hP2 hD2 hS => ?_)
                      have e9 := wPuI (cy := cy) (j := 20) (v := (1 : Int32)) hD (xe249.A (xe188.A (xe64.A o26))).1 (xe249.A (xe188.A (xe64.A o26))).2.1 gk252 rfl
                      obtain ⟨S253, hS253⟩ : ∃ z, S248.sI r25 20 (1 : Int32) = z := ⟨_, rfl⟩
                      have hP : va_P D vwCl (X ++ PL cy S253) H := by rw [← hS253, ← e9]; exact hP2
                      have hD : va_D A (X ++ PL cy S253) := by rw [← hS253, ← e9]; exact hD2
                      have xe254 : ext S248 S253 := by rw [← hS253]; exact ext.sI _ _ _ _
                      have t255 : stp [(10, 9), (10, 13), (10, 20), (10, 21), (12, 15)] [] [] S S253 := by rw [← hS253]; exact t250.I 20 (1 : Int32) (xe249.A (xe188.A (xe64.A o26))) (by decide) (⟨by decide, by decide⟩) (Or.inl (by decide))
                      refine lv_aload_n hx hb dX12_grind_184 rfl (lv_at hl 2 rfl) ?_
                      refine lv_aload hx hb dX12_grind_185 (lv_at hl 1 rfl) ?_
                      obtain ⟨k256, gk256, hk256⟩ := wGt (cy := cy) X S253 (xe254.A (xe249.A (xe188.A (xe64.A o26)))).1 (xe254.A (xe249.A (xe188.A (xe64.A o26)))).2.1
                      refine va_getN (D := D) (ci := 14) (v := .int (S253.I r25 9)) (C := RX10) (T := TX10) (N := 23) hx hb hts (by decide +kernel) hown hK hP k256 hk256 rfl 9 (by decide) (va_Nw.use rfl (hN (.fieldLinkNest RX12 356 "HobhouseModel$Gear" "stock" "I" "HobhouseModel") (by decide +kernel))) (fun _ h9 => h9) rfl dX12_grind_187 ?_
                      have hFc := free_all hD hS hA
                      obtain ⟨k257, gk257, hk257⟩ := wGt (cy := cy) X S253 ((xe64.tr (xe188.tr (xe249.tr xe254))).A h_o1).1 ((xe64.tr (xe188.tr (xe249.tr xe254))).A h_o1).2.1
                      refine va_calli (va_runV (As := [.int (S253.I r25 9)]) (rest := []) ⟨hx, hb, hml, hown, hts⟩ (c_X12_answer l (cy := cy) (X := X) (D := D) S253 _ o1 ((xe64.tr (xe188.tr (xe249.tr xe254))).A h_o1) (S253.I r25 9) (t255.w)) (cwV 1 hts gX12_grind_X12_answer rfl rfl rfl hd_X12_answer ⟨Nat.le_of_ble_eq_true rfl, Nat.le_of_ble_eq_true rfl⟩) ⟨fun a U g mk q => ⟨q.1, q.2.1, q.2.2.1.calling, NW.same (u := U) (U := U.calling g mk a) rfl q.2.2.2⟩, va_recv hK hP (q := (RX12, TX12, 34)) (ci := 16) (q0 := k257) rfl hk257, fun U hU hW => ⟨rfl, by rw [hU], wd_pre hP hK hD hU hW, hN.warm hW⟩⟩ rfl rfl hl.1 rfl (lv_room (Nat.le_of_ble_eq_true rfl)) dX12_grind_190 ⟨(Nat.zero_le _), (Nat.zero_le _)⟩) hS (fun q _ h => hFc q h) hFc (fun r258 u t H1 locs ht hvm hw hB hz1 hk1 hS => ?_)
                      obtain ⟨c259, w260⟩ := hw
                      obtain ⟨hP, hD⟩ := wd_post hFc ht hB
                      generalize H1 = H at hP hS ⊢
                      obtain ⟨S261, rfl⟩ : ∃ z, z = u := ⟨_, rfl⟩
                      have t262 : stp [(10, 9), (10, 13), (10, 20), (10, 21), (12, 15)] [] [] S S261 := t255.tr w260 (by decide) (fun _ q => absurd q List.not_mem_nil)
                      have xe263 : ext S253 S261 := w260.x
                      refine W.widen (k := 0) (n := 0) (Nat.le_of_ble_eq_true rfl) (Nat.le_of_ble_eq_true rfl) ?_
                      exact W.iret (v := r258) hx hb hr (fun t ht hW9 => ⟨⟨r258, S261, rfl, t262, wd_end hP hK hD ht hW9.alike⟩, hS.F ht⟩) hS.2.2 dX12_grind_193 hlocks
                    · have c251i : (if (S.I r25 9) < x2 then (S.I r25 9) else x2).toInt ≤ 30 := nlt_v rfl rfl c251
                      refine lv_iload hx hb dX12_grind_163 (lv_at hl 0 rfl) ?_
                      refine lv_bipush (v := 20) hx hb dX12_grind_165 (by decide +kernel) ?_
                      refine lv_icmp_le (tgt := 180) hx hb dX12_grind_167 (by decide) (fun c264 => ?_) (fun c264 => ?_)
                      · have c264i : (if (S.I r25 9) < x2 then (S.I r25 9) else x2).toInt ≤ 20 := le_v rfl rfl c264
                        refine lv_iconst (v := 0) hx hb dX12_grind_180 (by decide) ?_
                        have l32_0 : (0 : Int32).toInt = 0 := rfl
                        obtain ⟨k265, gk265, hk265⟩ := wGt (cy := cy) X S248 (xe249.A (xe188.A (xe64.A o26))).1 (xe249.A (xe188.A (xe64.A o26))).2.1
                        refine va_putN (D := D) (ci := 14) (v := .int (0 : Int32)) (ty := .boolean) (C := RX10) (T := TX10) (N := 23) hx hb hts (by decide +kernel) tyX10 tyX10_ok nmX10 hown hK hP hD hS k265 hk265 rfl 20 (by decide) (va_Nw.use rfl (hN (.fieldLinkNest RX12 372 "HobhouseModel$Gear" "isScrap" "Z" "HobhouseModel") (by decide +kernel))) (fun _ h9 => h9) rfl (by decide +kernel) (by rfl) (by rfl) (Nat.le_of_ble_eq_true rfl) dX12_grind_181 (fun H locs hP2 hD2 hS => ?_)
                        have e9 := wPuI (cy := cy) (j := 20) (v := (0 : Int32)) hD (xe249.A (xe188.A (xe64.A o26))).1 (xe249.A (xe188.A (xe64.A o26))).2.1 gk265 rfl
                        obtain ⟨S266, hS266⟩ : ∃ z, S248.sI r25 20 (0 : Int32) = z := ⟨_, rfl⟩
                        have hP : va_P D vwCl (X ++ PL cy S266) H := by rw [← hS266, ← e9]; exact hP2
                        have hD : va_D A (X ++ PL cy S266) := by rw [← hS266, ← e9]; exact hD2
                        have xe267 : ext S248 S266 := by rw [← hS266]; exact ext.sI _ _ _ _
                        have t268 : stp [(10, 9), (10, 13), (10, 20), (10, 21), (12, 15)] [] [] S S266 := by rw [← hS266]; exact t250.I 20 (0 : Int32) (xe249.A (xe188.A (xe64.A o26))) (by decide) (⟨by decide, by decide⟩) (Or.inl (by decide))
                        refine lv_aload_n hx hb dX12_grind_184 rfl (lv_at hl 2 rfl) ?_
                        refine lv_aload hx hb dX12_grind_185 (lv_at hl 1 rfl) ?_
                        obtain ⟨k269, gk269, hk269⟩ := wGt (cy := cy) X S266 (xe267.A (xe249.A (xe188.A (xe64.A o26)))).1 (xe267.A (xe249.A (xe188.A (xe64.A o26)))).2.1
                        refine va_getN (D := D) (ci := 14) (v := .int (S266.I r25 9)) (C := RX10) (T := TX10) (N := 23) hx hb hts (by decide +kernel) hown hK hP k269 hk269 rfl 9 (by decide) (va_Nw.use rfl (hN (.fieldLinkNest RX12 356 "HobhouseModel$Gear" "stock" "I" "HobhouseModel") (by decide +kernel))) (fun _ h9 => h9) rfl dX12_grind_187 ?_
                        have hFc := free_all hD hS hA
                        obtain ⟨k270, gk270, hk270⟩ := wGt (cy := cy) X S266 ((xe64.tr (xe188.tr (xe249.tr xe267))).A h_o1).1 ((xe64.tr (xe188.tr (xe249.tr xe267))).A h_o1).2.1
                        refine va_calli (va_runV (As := [.int (S266.I r25 9)]) (rest := []) ⟨hx, hb, hml, hown, hts⟩ (c_X12_answer l (cy := cy) (X := X) (D := D) S266 _ o1 ((xe64.tr (xe188.tr (xe249.tr xe267))).A h_o1) (S266.I r25 9) (t268.w)) (cwV 1 hts gX12_grind_X12_answer rfl rfl rfl hd_X12_answer ⟨Nat.le_of_ble_eq_true rfl, Nat.le_of_ble_eq_true rfl⟩) ⟨fun a U g mk q => ⟨q.1, q.2.1, q.2.2.1.calling, NW.same (u := U) (U := U.calling g mk a) rfl q.2.2.2⟩, va_recv hK hP (q := (RX12, TX12, 34)) (ci := 16) (q0 := k270) rfl hk270, fun U hU hW => ⟨rfl, by rw [hU], wd_pre hP hK hD hU hW, hN.warm hW⟩⟩ rfl rfl hl.1 rfl (lv_room (Nat.le_of_ble_eq_true rfl)) dX12_grind_190 ⟨(Nat.zero_le _), (Nat.zero_le _)⟩) hS (fun q _ h => hFc q h) hFc (fun r271 u t H1 locs ht hvm hw hB hz1 hk1 hS => ?_)
                        obtain ⟨c272, w273⟩ := hw
                        obtain ⟨hP, hD⟩ := wd_post hFc ht hB
                        generalize H1 = H at hP hS ⊢
                        obtain ⟨S274, rfl⟩ : ∃ z, z = u := ⟨_, rfl⟩
                        have t275 : stp [(10, 9), (10, 13), (10, 20), (10, 21), (12, 15)] [] [] S S274 := t268.tr w273 (by decide) (fun _ q => absurd q List.not_mem_nil)
                        have xe276 : ext S266 S274 := w273.x
                        refine W.widen (k := 0) (n := 0) (Nat.le_of_ble_eq_true rfl) (Nat.le_of_ble_eq_true rfl) ?_
                        exact W.iret (v := r271) hx hb hr (fun t ht hW9 => ⟨⟨r271, S274, rfl, t275, wd_end hP hK hD ht hW9.alike⟩, hS.F ht⟩) hS.2.2 dX12_grind_193 hlocks
                      · have c264i : 20 < (if (S.I r25 9) < x2 then (S.I r25 9) else x2).toInt := nle_v rfl rfl c264
                        refine lv_iload_n hx hb dX12_grind_170 rfl (lv_at hl 5 rfl) ?_
                        refine lv_bipush (v := 100) hx hb dX12_grind_171 (by decide +kernel) ?_
                        refine lv_icmp_le (tgt := 180) hx hb dX12_grind_173 (by decide) (fun c277 => ?_) (fun c277 => ?_)
                        · have c277i : x3.toInt ≤ 100 := le_v rfl rfl c277
                          refine lv_iconst (v := 0) hx hb dX12_grind_180 (by decide) ?_
                          have l32_0 : (0 : Int32).toInt = 0 := rfl
                          obtain ⟨k278, gk278, hk278⟩ := wGt (cy := cy) X S248 (xe249.A (xe188.A (xe64.A o26))).1 (xe249.A (xe188.A (xe64.A o26))).2.1
                          refine va_putN (D := D) (ci := 14) (v := .int (0 : Int32)) (ty := .boolean) (C := RX10) (T := TX10) (N := 23) hx hb hts (by decide +kernel) tyX10 tyX10_ok nmX10 hown hK hP hD hS k278 hk278 rfl 20 (by decide) (va_Nw.use rfl (hN (.fieldLinkNest RX12 372 "HobhouseModel$Gear" "isScrap" "Z" "HobhouseModel") (by decide +kernel))) (fun _ h9 => h9) rfl (by decide +kernel) (by rfl) (by rfl) (Nat.le_of_ble_eq_true rfl) dX12_grind_181 (fun H locs hP2 hD2 hS => ?_)
                          have e9 := wPuI (cy := cy) (j := 20) (v := (0 : Int32)) hD (xe249.A (xe188.A (xe64.A o26))).1 (xe249.A (xe188.A (xe64.A o26))).2.1 gk278 rfl
                          obtain ⟨S279, hS279⟩ : ∃ z, S248.sI r25 20 (0 : Int32) = z := ⟨_, rfl⟩
                          have hP : va_P D vwCl (X ++ PL cy S279) H := by rw [← hS279, ← e9]; exact hP2
                          have hD : va_D A (X ++ PL cy S279) := by rw [← hS279, ← e9]; exact hD2
                          have xe280 : ext S248 S279 := by rw [← hS279]; exact ext.sI _ _ _ _
                          have t281 : stp [(10, 9), (10, 13), (10, 20), (10, 21), (12, 15)] [] [] S S279 := by rw [← hS279]; exact t250.I 20 (0 : Int32) (xe249.A (xe188.A (xe64.A o26))) (by decide) (⟨by decide, by decide⟩) (Or.inl (by decide))
                          refine lv_aload_n hx hb dX12_grind_184 rfl (lv_at hl 2 rfl) ?_
                          refine lv_aload hx hb dX12_grind_185 (lv_at hl 1 rfl) ?_
                          obtain ⟨k282, gk282, hk282⟩ := wGt (cy := cy) X S279 (xe280.A (xe249.A (xe188.A (xe64.A o26)))).1 (xe280.A (xe249.A (xe188.A (xe64.A o26)))).2.1
                          refine va_getN (D := D) (ci := 14) (v := .int (S279.I r25 9)) (C := RX10) (T := TX10) (N := 23) hx hb hts (by decide +kernel) hown hK hP k282 hk282 rfl 9 (by decide) (va_Nw.use rfl (hN (.fieldLinkNest RX12 356 "HobhouseModel$Gear" "stock" "I" "HobhouseModel") (by decide +kernel))) (fun _ h9 => h9) rfl dX12_grind_187 ?_
                          have hFc := free_all hD hS hA
                          obtain ⟨k283, gk283, hk283⟩ := wGt (cy := cy) X S279 ((xe64.tr (xe188.tr (xe249.tr xe280))).A h_o1).1 ((xe64.tr (xe188.tr (xe249.tr xe280))).A h_o1).2.1
                          refine va_calli (va_runV (As := [.int (S279.I r25 9)]) (rest := []) ⟨hx, hb, hml, hown, hts⟩ (c_X12_answer l (cy := cy) (X := X) (D := D) S279 _ o1 ((xe64.tr (xe188.tr (xe249.tr xe280))).A h_o1) (S279.I r25 9) (t281.w)) (cwV 1 hts gX12_grind_X12_answer rfl rfl rfl hd_X12_answer ⟨Nat.le_of_ble_eq_true rfl, Nat.le_of_ble_eq_true rfl⟩) ⟨fun a U g mk q => ⟨q.1, q.2.1, q.2.2.1.calling, NW.same (u := U) (U := U.calling g mk a) rfl q.2.2.2⟩, va_recv hK hP (q := (RX12, TX12, 34)) (ci := 16) (q0 := k283) rfl hk283, fun U hU hW => ⟨rfl, by rw [hU], wd_pre hP hK hD hU hW, hN.warm hW⟩⟩ rfl rfl hl.1 rfl (lv_room (Nat.le_of_ble_eq_true rfl)) dX12_grind_190 ⟨(Nat.zero_le _), (Nat.zero_le _)⟩) hS (fun q _ h => hFc q h) hFc (fun r284 u t H1 locs ht hvm hw hB hz1 hk1 hS => ?_)
                          obtain ⟨c285, w286⟩ := hw
                          obtain ⟨hP, hD⟩ := wd_post hFc ht hB
                          generalize H1 = H at hP hS ⊢
                          obtain ⟨S287, rfl⟩ : ∃ z, z = u := ⟨_, rfl⟩
                          have t288 : stp [(10, 9), (10, 13), (10, 20), (10, 21), (12, 15)] [] [] S S287 := t281.tr w286 (by decide) (fun _ q => absurd q List.not_mem_nil)
                          have xe289 : ext S279 S287 := w286.x
                          refine W.widen (k := 0) (n := 0) (Nat.le_of_ble_eq_true rfl) (Nat.le_of_ble_eq_true rfl) ?_
                          exact W.iret (v := r284) hx hb hr (fun t ht hW9 => ⟨⟨r284, S287, rfl, t288, wd_end hP hK hD ht hW9.alike⟩, hS.F ht⟩) hS.2.2 dX12_grind_193 hlocks
                        · have c277i : 100 < x3.toInt := nle_v rfl rfl c277
                          refine lv_iconst (v := 1) hx hb dX12_grind_176 (by decide) ?_
                          refine lv_goto (tgt := 181) hx hb dX12_grind_177 (by decide) ?_
                          obtain ⟨k290, gk290, hk290⟩ := wGt (cy := cy) X S248 (xe249.A (xe188.A (xe64.A o26))).1 (xe249.A (xe188.A (xe64.A o26))).2.1
                          refine va_putN (D := D) (ci := 14) (v := .int (1 : Int32)) (ty := .boolean) (C := RX10) (T := TX10) (N := 23) hx hb hts (by decide +kernel) tyX10 tyX10_ok nmX10 hown hK hP hD hS k290 hk290 rfl 20 (by decide) (va_Nw.use rfl (hN (.fieldLinkNest RX12 372 "HobhouseModel$Gear" "isScrap" "Z" "HobhouseModel") (by decide +kernel))) (fun _ h9 => h9) rfl (by decide +kernel) (by rfl) (by rfl) (Nat.le_of_ble_eq_true rfl) dX12_grind_181 (fun H locs hP2 hD2 hS => ?_)
                          have e9 := wPuI (cy := cy) (j := 20) (v := (1 : Int32)) hD (xe249.A (xe188.A (xe64.A o26))).1 (xe249.A (xe188.A (xe64.A o26))).2.1 gk290 rfl
                          obtain ⟨S291, hS291⟩ : ∃ z, S248.sI r25 20 (1 : Int32) = z := ⟨_, rfl⟩
                          have hP : va_P D vwCl (X ++ PL cy S291) H := by rw [← hS291, ← e9]; exact hP2
                          have hD : va_D A (X ++ PL cy S291) := by rw [← hS291, ← e9]; exact hD2
                          have xe292 : ext S248 S291 := by rw [← hS291]; exact ext.sI _ _ _ _
                          have t293 : stp [(10, 9), (10, 13), (10, 20), (10, 21), (12, 15)] [] [] S S291 := by rw [← hS291]; exact t250.I 20 (1 : Int32) (xe249.A (xe188.A (xe64.A o26))) (by decide) (⟨by decide, by decide⟩) (Or.inl (by decide))
                          refine lv_aload_n hx hb dX12_grind_184 rfl (lv_at hl 2 rfl) ?_
                          refine lv_aload hx hb dX12_grind_185 (lv_at hl 1 rfl) ?_
                          obtain ⟨k294, gk294, hk294⟩ := wGt (cy := cy) X S291 (xe292.A (xe249.A (xe188.A (xe64.A o26)))).1 (xe292.A (xe249.A (xe188.A (xe64.A o26)))).2.1
                          refine va_getN (D := D) (ci := 14) (v := .int (S291.I r25 9)) (C := RX10) (T := TX10) (N := 23) hx hb hts (by decide +kernel) hown hK hP k294 hk294 rfl 9 (by decide) (va_Nw.use rfl (hN (.fieldLinkNest RX12 356 "HobhouseModel$Gear" "stock" "I" "HobhouseModel") (by decide +kernel))) (fun _ h9 => h9) rfl dX12_grind_187 ?_
                          have hFc := free_all hD hS hA
                          obtain ⟨k295, gk295, hk295⟩ := wGt (cy := cy) X S291 ((xe64.tr (xe188.tr (xe249.tr xe292))).A h_o1).1 ((xe64.tr (xe188.tr (xe249.tr xe292))).A h_o1).2.1
                          refine va_calli (va_runV (As := [.int (S291.I r25 9)]) (rest := []) ⟨hx, hb, hml, hown, hts⟩ (c_X12_answer l (cy := cy) (X := X) (D := D) S291 _ o1 ((xe64.tr (xe188.tr (xe249.tr xe292))).A h_o1) (S291.I r25 9) (t293.w)) (cwV 1 hts gX12_grind_X12_answer rfl rfl rfl hd_X12_answer ⟨Nat.le_of_ble_eq_true rfl, Nat.le_of_ble_eq_true rfl⟩) ⟨fun a U g mk q => ⟨q.1, q.2.1, q.2.2.1.calling, NW.same (u := U) (U := U.calling g mk a) rfl q.2.2.2⟩, va_recv hK hP (q := (RX12, TX12, 34)) (ci := 16) (q0 := k295) rfl hk295, fun U hU hW => ⟨rfl, by rw [hU], wd_pre hP hK hD hU hW, hN.warm hW⟩⟩ rfl rfl hl.1 rfl (lv_room (Nat.le_of_ble_eq_true rfl)) dX12_grind_190 ⟨(Nat.zero_le _), (Nat.zero_le _)⟩) hS (fun q _ h => hFc q h) hFc (fun r296 u t H1 locs ht hvm hw hB hz1 hk1 hS => ?_)
                          obtain ⟨c297, w298⟩ := hw
                          obtain ⟨hP, hD⟩ := wd_post hFc ht hB
                          generalize H1 = H at hP hS ⊢
                          obtain ⟨S299, rfl⟩ : ∃ z, z = u := ⟨_, rfl⟩
                          have t300 : stp [(10, 9), (10, 13), (10, 20), (10, 21), (12, 15)] [] [] S S299 := t293.tr w298 (by decide) (fun _ q => absurd q List.not_mem_nil)
                          have xe301 : ext S291 S299 := w298.x
                          refine W.widen (k := 0) (n := 0) (Nat.le_of_ble_eq_true rfl) (Nat.le_of_ble_eq_true rfl) ?_
                          exact W.iret (v := r296) hx hb hr (fun t ht hW9 => ⟨⟨r296, S299, rfl, t300, wd_end hP hK hD ht hW9.alike⟩, hS.F ht⟩) hS.2.2 dX12_grind_193 hlocks
              · have c59i : (S.I r25 9).toInt = 0 := eq_v rfl rfl c59
                refine lv_aload_n hx hb dX12_grind_83 rfl (lv_at hl 1 rfl) ?_
                refine lv_iconst (v := 3) hx hb dX12_grind_84 (by decide) ?_
                have l32_3 : (3 : Int32).toInt = 3 := rfl
                have hFc := free_all hD hS hA
                obtain ⟨k302, gk302, hk302⟩ := wGt (cy := cy) X S h_o1.1 h_o1.2.1
                refine va_calli (va_runV (As := [.int (3 : Int32)]) (rest := []) ⟨hx, hb, hml, hown, hts⟩ (c_X12_fails l (cy := cy) (X := X) (D := D) S _ o1 h_o1 (3 : Int32) (hW)) (cwV 1 hts gX12_grind_X12_fails rfl rfl rfl hd_X12_fails ⟨Nat.le_of_ble_eq_true rfl, Nat.le_of_ble_eq_true rfl⟩) ⟨fun a U g mk q => ⟨q.1, q.2.1, q.2.2.1.calling, NW.same (u := U) (U := U.calling g mk a) rfl q.2.2.2⟩, va_recv hK hP (q := (RX12, TX12, 34)) (ci := 16) (q0 := k302) rfl hk302, fun U hU hW => ⟨rfl, by rw [hU], wd_pre hP hK hD hU hW, hN.warm hW⟩⟩ rfl rfl hl.1 rfl (lv_room (Nat.le_of_ble_eq_true rfl)) dX12_grind_85 ⟨(Nat.zero_le _), (Nat.zero_le _)⟩) hS (fun q _ h => hFc q h) hFc (fun r303 u t H1 locs ht hvm hw hB hz1 hk1 hS => ?_)
                obtain ⟨c304, w305⟩ := hw
                obtain ⟨hP, hD⟩ := wd_post hFc ht hB
                generalize H1 = H at hP hS ⊢
                obtain ⟨S306, rfl⟩ : ∃ z, z = u := ⟨_, rfl⟩
                have t307 : stp [(10, 9), (10, 13), (10, 20), (10, 21), (12, 15)] [] [] S S306 := t0.tr w305 (by decide) (fun _ q => absurd q List.not_mem_nil)
                have xe308 : ext S S306 := w305.x
                refine W.widen (k := 0) (n := 0) (Nat.le_of_ble_eq_true rfl) (Nat.le_of_ble_eq_true rfl) ?_
                exact W.iret (v := r303) hx hb hr (fun t ht hW9 => ⟨⟨r303, S306, rfl, t307, wd_end hP hK hD ht hW9.alike⟩, hS.F ht⟩) hS.2.2 dX12_grind_88 hlocks
      · have c23i : (f_X12_in x3.toInt64 (1 : Int64) (999 : Int64)).toInt = 0 := eq_v rfl rfl c23
        refine lv_aload_n hx hb dX12_grind_38 rfl (lv_at hl 0 rfl) ?_
        refine lv_iconst (v := 2) hx hb dX12_grind_39 (by decide) ?_
        have l32_2 : (2 : Int32).toInt = 2 := rfl
        have hFc := free_all hD hS hA
        obtain ⟨k309, gk309, hk309⟩ := wGt (cy := cy) X S h_o1.1 h_o1.2.1
        refine va_calli (va_runV (As := [.int (2 : Int32)]) (rest := []) ⟨hx, hb, hml, hown, hts⟩ (c_X12_fails l (cy := cy) (X := X) (D := D) S _ o1 h_o1 (2 : Int32) (hW)) (cwV 1 hts gX12_grind_X12_fails rfl rfl rfl hd_X12_fails ⟨Nat.le_of_ble_eq_true rfl, Nat.le_of_ble_eq_true rfl⟩) ⟨fun a U g mk q => ⟨q.1, q.2.1, q.2.2.1.calling, NW.same (u := U) (U := U.calling g mk a) rfl q.2.2.2⟩, va_recv hK hP (q := (RX12, TX12, 34)) (ci := 16) (q0 := k309) rfl hk309, fun U hU hW => ⟨rfl, by rw [hU], wd_pre hP hK hD hU hW, hN.warm hW⟩⟩ rfl rfl hl.1 rfl (lv_room (Nat.le_of_ble_eq_true rfl)) dX12_grind_40 ⟨(Nat.zero_le _), (Nat.zero_le _)⟩) hS (fun q _ h => hFc q h) hFc (fun r310 u t H1 locs ht hvm hw hB hz1 hk1 hS => ?_)
        obtain ⟨c311, w312⟩ := hw
        obtain ⟨hP, hD⟩ := wd_post hFc ht hB
        generalize H1 = H at hP hS ⊢
        obtain ⟨S313, rfl⟩ : ∃ z, z = u := ⟨_, rfl⟩
        have t314 : stp [(10, 9), (10, 13), (10, 20), (10, 21), (12, 15)] [] [] S S313 := t0.tr w312 (by decide) (fun _ q => absurd q List.not_mem_nil)
        have xe315 : ext S S313 := w312.x
        refine W.widen (k := 0) (n := 0) (Nat.le_of_ble_eq_true rfl) (Nat.le_of_ble_eq_true rfl) ?_
        exact W.iret (v := r310) hx hb hr (fun t ht hW9 => ⟨⟨r310, S313, rfl, t314, wd_end hP hK hD ht hW9.alike⟩, hS.F ht⟩) hS.2.2 dX12_grind_43 hlocks
  · have c6i : (f_X12_isGear S o1 x1).toInt = 0 := eq_v rfl rfl c6
    refine lv_aload_n hx hb dX12_grind_8 rfl (lv_at hl 0 rfl) ?_
    refine lv_iconst (v := 1) hx hb dX12_grind_9 (by decide) ?_
    have l32_1 : (1 : Int32).toInt = 1 := rfl
    have hFc := free_all hD hS hA
    obtain ⟨k316, gk316, hk316⟩ := wGt (cy := cy) X S h_o1.1 h_o1.2.1
    refine va_calli (va_runV (As := [.int (1 : Int32)]) (rest := []) ⟨hx, hb, hml, hown, hts⟩ (c_X12_fails l (cy := cy) (X := X) (D := D) S _ o1 h_o1 (1 : Int32) (hW)) (cwV 1 hts gX12_grind_X12_fails rfl rfl rfl hd_X12_fails ⟨Nat.le_of_ble_eq_true rfl, Nat.le_of_ble_eq_true rfl⟩) ⟨fun a U g mk q => ⟨q.1, q.2.1, q.2.2.1.calling, NW.same (u := U) (U := U.calling g mk a) rfl q.2.2.2⟩, va_recv hK hP (q := (RX12, TX12, 34)) (ci := 16) (q0 := k316) rfl hk316, fun U hU hW => ⟨rfl, by rw [hU], wd_pre hP hK hD hU hW, hN.warm hW⟩⟩ rfl rfl hl.1 rfl (lv_room (Nat.le_of_ble_eq_true rfl)) dX12_grind_10 ⟨(Nat.zero_le _), (Nat.zero_le _)⟩) hS (fun q _ h => hFc q h) hFc (fun r317 u t H1 locs ht hvm hw hB hz1 hk1 hS => ?_)
    obtain ⟨c318, w319⟩ := hw
    obtain ⟨hP, hD⟩ := wd_post hFc ht hB
    generalize H1 = H at hP hS ⊢
    obtain ⟨S320, rfl⟩ : ∃ z, z = u := ⟨_, rfl⟩
    have t321 : stp [(10, 9), (10, 13), (10, 20), (10, 21), (12, 15)] [] [] S S320 := t0.tr w319 (by decide) (fun _ q => absurd q List.not_mem_nil)
    have xe322 : ext S S320 := w319.x
    refine W.widen (k := 0) (n := 0) (Nat.le_of_ble_eq_true rfl) (Nat.le_of_ble_eq_true rfl) ?_
    exact W.iret (v := r317) hx hb hr (fun t ht hW9 => ⟨⟨r317, S320, rfl, t321, wd_end hP hK hD ht hW9.alike⟩, hS.F ht⟩) hS.2.2 dX12_grind_13 hlocks
theorem hd_X12_stateOf : yX12_stateOf.cls = RX12 ∧ yX12_stateOf.cls ≠ "java/lang/invoke/MethodHandle" ∧ yX12_stateOf.cls ≠ "java/lang/invoke/VarHandle" ∧ (parseMethodDescriptor yX12_stateOf.desc).map (fun d => d.parameters.length) = some 1 := by decide +kernel
set_option maxHeartbeats 4000000 in
set_option maxRecDepth 100000 in
theorem c_X12_stateOf (l : Launch) {D : va_G} {cy : Nat → ClassId} {X : va_W} (S : wPS) (sz : Nat) (o1 : Nat) (h_o1 : isA S o1 12) (x1 : Int32) (hW : wtB S [])  : Met l yX12_stateOf wsX12_stateOf ({ frames := 4, cells := 0, slots := 0, locals := 85 }) (va_Pc [.ref o1, .int x1] (fun U => U.heap.size = sz ∧ WD D cy X (fun _ => True) S U ∧ NW U)) (va_Qi (fun r (u : wPS) => stp [(12, 15)] [] [] S u ∧ narrow .char (.int r) = .int r) (fun u t => WD D cy X (va_A (X ++ PL cy S) sz) u t) (va_A (X ++ PL cy S) sz)) 0 0 (va_A (X ++ PL cy S) sz) := by
  refine Met.ofW (cc := cX12_stateOf) (maxL := 3) (ret := (some .char)) (by decide) rfl ?_
  intro p e s m args below meth c s₁ B hml hv
  obtain ⟨rfl, hsz, ⟨hP, hK, hD0⟩, hN⟩ := hv
  have hx := B.exec
  have hb := B.bytes
  have hr := B.returns
  have hts := atoms_spec (ws := wsX12_stateOf) B.pre
  have hown : s.vm.findClass RX12 = some m.cls := findClass_of_methodNamed (x := yX12_stateOf) B.named
  have hlocks := B.notSynchronized
  subst hsz
  have hD := hD0.self (sz := s.heap.size)
  generalize hAe : va_A (X ++ PL cy S) s.heap.size = A at hD ⊢
  have hA : ∀ q : Nat, s.heap.size ≤ q → A q := fun q h => by rw [← hAe]; exact Or.inr h
  have hS : va_S A s.heap s.heap [] := va_S.rf
  have hl := lv_entry ([.ref o1, .int x1]) (n := 3) (Nat.le_of_ble_eq_true rfl)
  rw [lg_entry_eq]
  generalize (lg_sl ([.ref o1, .int x1]) ++ List.replicate (3 - (lg_sl ([.ref o1, .int x1])).length) Slot.unset).toArray = ls at hl ⊢
  have hl : lv_has ls 3 [(0, .ref o1), (1, .int x1)] := hl
  have t0 : stp [(12, 15)] [] [] S S := stp.rf hW
  have F1 := ((hW.at h_o1 List.not_mem_nil).to_12 h_o1.2.1).F0
  refine lv_aload_n hx hb dX12_stateOf_0 rfl (lv_at hl 0 rfl) ?_
  refine lv_aload_n hx hb dX12_stateOf_1 rfl (lv_at hl 0 rfl) ?_
  refine lv_iload_n hx hb dX12_stateOf_2 rfl (lv_at hl 1 rfl) ?_
  have hFc := free_all hD hS hA
  obtain ⟨k2, gk2, hk2⟩ := wGt (cy := cy) X S h_o1.1 h_o1.2.1
  refine va_calli (va_runV (As := [.int x1]) (rest := [.ref o1]) ⟨hx, hb, hml, hown, hts⟩ (c_X12_isGear l (cy := cy) (X := X) (D := D) S _ o1 h_o1 x1 (hW)) (cwV 1 hts gX12_stateOf_X12_isGear rfl rfl rfl hd_X12_isGear ⟨Nat.le_of_ble_eq_true rfl, Nat.le_of_ble_eq_true rfl⟩) ⟨fun a U g mk q => ⟨q.1, q.2.1, q.2.2.1.calling, NW.same (u := U) (U := U.calling g mk a) rfl q.2.2.2⟩, va_recv hK hP (q := (RX12, TX12, 34)) (ci := 16) (q0 := k2) rfl hk2, fun U hU hW => ⟨rfl, by rw [hU], wd_pre hP hK hD hU hW, hN.warm hW⟩⟩ rfl rfl hl.1 rfl (lv_room (Nat.le_of_ble_eq_true rfl)) dX12_stateOf_3 ⟨(Nat.zero_le _), (Nat.zero_le _)⟩) hS (fun q _ h => hFc q h) hFc (fun r3 u t H1 locs ht hvm hw hB hz1 hk1 hS => ?_)
  have c4 := hw
  obtain ⟨hP, hD⟩ := wd_post hFc ht hB
  generalize H1 = H at hP hS ⊢
  obtain rfl : r3 = f_X12_isGear S o1 x1 := c4
  have i5 : (f_X12_isGear S o1 x1).toInt = 0 ∨ (0 ≤ x1.toInt ∧ x1.toInt < (S.I (S.f o1 0) 2).toInt) := by have h9 := ig_rng x1 ((hW.at h_o1 List.not_mem_nil).to_12 h_o1.2.1) hW; rw [f_of F1.1] at h9; exact h9
  refine lv_if_eq (tgt := 13) hx hb dX12_stateOf_6 (by decide) (fun c6 => ?_) (fun c6 => ?_)
  · have c6i : (f_X12_isGear S o1 x1).toInt = 0 := eq_v rfl rfl c6
    refine lv_iconst (v := 1) hx hb dX12_stateOf_13 (by decide) ?_
    obtain ⟨k7, gk7, hk7⟩ := wGt (cy := cy) X S h_o1.1 h_o1.2.1
    refine va_put (D := D) (ci := 16) (v := .int (1 : Int32)) (ty := .int) (C := RX12) (T := TX12) (N := 34) hx hb hts (by decide +kernel) tyX12 tyX12_ok nmX12 hown hK hP hD hS k7 hk7 rfl 15 (by decide) (hts (.fieldLink RX12 94 "HobhouseModel" "thrown" "I") (by decide +kernel)) (fun _ h9 => h9) rfl (by decide +kernel) (rfl) (rfl) (Nat.le_of_ble_eq_true rfl) dX12_stateOf_14 (fun H locs hP2 hD2 hS => ?_)
    have e9 := wPuI (cy := cy) (j := 15) (v := (1 : Int32)) hD h_o1.1 h_o1.2.1 gk7 rfl
    obtain ⟨S8, hS8⟩ : ∃ z, S.sI o1 15 (1 : Int32) = z := ⟨_, rfl⟩
    have hP : va_P D vwCl (X ++ PL cy S8) H := by rw [← hS8, ← e9]; exact hP2
    have hD : va_D A (X ++ PL cy S8) := by rw [← hS8, ← e9]; exact hD2
    have xe9 : ext S S8 := by rw [← hS8]; exact ext.sI _ _ _ _
    have t10 : stp [(12, 15)] [] [] S S8 := by rw [← hS8]; exact t0.I 15 (1 : Int32) h_o1 (by decide) (trivial) (Or.inl (by decide))
    have k11 : (S8.I (S.f o1 0) 2).toInt = (S.I (S.f o1 0) 2).toInt := by rw [← hS8]; exact congrArg Int32.toInt (sI_I (by rintro ⟨e1, e2⟩; exact absurd e2 (by decide)))
    have k12 : (S8.I o1 15).toInt = (1 : Int32).toInt := by rw [← hS8, sI_eq]
    refine lv_aload_n hx hb dX12_stateOf_17 rfl (lv_at hl 0 rfl) ?_
    have l0 : (0 : Int32).toInt = 0 := rfl
    have l1 : (1 : Int32).toInt = 1 := rfl
    obtain ⟨k13, gk13, hk13⟩ := wGt (cy := cy) X S8 (xe9.A h_o1).1 (xe9.A h_o1).2.1
    refine va_get (D := D) (ci := 16) (v := .int (S8.I o1 15)) (C := RX12) (T := TX12) (N := 34) hx hb hts (by decide +kernel) hown hK hP k13 hk13 rfl 15 (by decide) (hts (.fieldLink RX12 94 "HobhouseModel" "thrown" "I") (by decide +kernel)) (fun _ h9 => h9) rfl dX12_stateOf_18 ?_
    refine lv_if_le (tgt := 26) hx hb dX12_stateOf_21 (by decide) (fun c14 => ?_) (fun c14 => ?_)
    · have c14i : (S8.I o1 15).toInt ≤ 0 := le_v rfl rfl c14
      refine lv_aload_n hx hb dX12_stateOf_26 rfl (lv_at hl 0 rfl) ?_
      refine lv_iload_n hx hb dX12_stateOf_27 rfl (lv_at hl 1 rfl) ?_
      have hFc := free_all hD hS hA
      obtain ⟨k15, gk15, hk15⟩ := wGt (cy := cy) X S8 (xe9.A h_o1).1 (xe9.A h_o1).2.1
      refine va_callq (va_runV (As := [.int x1]) (rest := []) ⟨hx, hb, hml, hown, hts⟩ (c_X12_gearAt l (cy := cy) (X := X) (D := D) S8 _ o1 (xe9.A h_o1) x1 (t10.w) (by rw [f_of (xe9.F h_o1 (by decide) F1.1)]; omega)) (cwV 1 hts gX12_stateOf_X12_gearAt rfl rfl rfl hd_X12_gearAt ⟨Nat.le_of_ble_eq_true rfl, Nat.le_of_ble_eq_true rfl⟩) ⟨fun a U g mk q => ⟨q.1, q.2.1, q.2.2.1.calling, NW.same (u := U) (U := U.calling g mk a) rfl q.2.2.2⟩, va_recv hK hP (q := (RX12, TX12, 34)) (ci := 16) (q0 := k15) rfl hk15, fun U hU hW => ⟨rfl, by rw [hU], wd_pre hP hK hD hU hW, hN.warm hW⟩⟩ rfl rfl hl.1 rfl (lv_room (Nat.le_of_ble_eq_true rfl)) dX12_stateOf_28 ⟨(Nat.zero_le _), (Nat.zero_le _)⟩) hS (fun q _ h => hFc q h) hFc (fun r16 u t H1 locs ht hvm hw hB hz1 hk1 hS => ?_)
      obtain ⟨r16, rfl, o17⟩ := hw
      obtain ⟨hP, hD⟩ := wd_post hFc ht hB
      generalize H1 = H at hP hS ⊢
      refine W.eq (g2 := F0 m 31 ls [.ref r16]) rfl ?_
      refine lv_astore_n (lv' := [(2, .ref r16), (0, .ref o1), (1, .int x1)]) hx hb dX12_stateOf_31 rfl hl (by decide) rfl (fun ls hl => ?_)
      refine lv_aload_n hx hb dX12_stateOf_32 rfl (lv_at hl 0 rfl) ?_
      have hFc := free_all hD hS hA
      obtain ⟨k18, gk18, hk18⟩ := wGt (cy := cy) X S8 o17.1 o17.2.1
      refine va_calli (va_runV (As := []) (rest := []) ⟨hx, hb, hml, hown, hts⟩ (c_X10_isBroken l (cy := cy) (X := X) (D := D) S8 _ r16 o17) (cwV 0 hts gX12_stateOf_X10_isBroken rfl rfl rfl hd_X10_isBroken ⟨Nat.le_of_ble_eq_true rfl, Nat.le_of_ble_eq_true rfl⟩) ⟨fun a U g mk q => ⟨q.1, q.2.1, q.2.2.1.calling, NW.same (u := U) (U := U.calling g mk a) rfl q.2.2.2⟩, va_recv hK hP (q := (RX10, TX10, 23)) (ci := 14) (q0 := k18) rfl hk18, fun U hU hW => ⟨rfl, by rw [hU], wd_pre hP hK hD hU hW, hN.warm hW⟩⟩ rfl rfl hl.1 rfl (lv_room (Nat.le_of_ble_eq_true rfl)) dX12_stateOf_33 ⟨(Nat.zero_le _), (Nat.zero_le _)⟩) hS (fun q _ h => hFc q h) hFc (fun r19 u t H1 locs ht hvm hw hB hz1 hk1 hS => ?_)
      have c20 := hw
      obtain ⟨hP, hD⟩ := wd_post hFc ht hB
      generalize H1 = H at hP hS ⊢
      obtain rfl : r19 = f_X10_isBroken S8 r16 := c20
      refine lv_if_eq (tgt := 42) hx hb dX12_stateOf_36 (by decide) (fun c21 => ?_) (fun c21 => ?_)
      · have c21i : (f_X10_isBroken S8 r16).toInt = 0 := eq_v rfl rfl c21
        refine lv_aload_n hx hb dX12_stateOf_42 rfl (lv_at hl 0 rfl) ?_
        obtain ⟨k22, gk22, hk22⟩ := wGt (cy := cy) X S8 o17.1 o17.2.1
        have i23 := ((t10.w.at o17 List.not_mem_nil).to_10 o17.2.1).R20
        refine va_getN (D := D) (ci := 14) (v := .int (S8.I r16 20)) (C := RX10) (T := TX10) (N := 23) hx hb hts (by decide +kernel) hown hK hP k22 hk22 rfl 20 (by decide) (va_Nw.use rfl (hN (.fieldLinkNest RX12 372 "HobhouseModel$Gear" "isScrap" "Z" "HobhouseModel") (by decide +kernel))) (fun _ h9 => h9) rfl dX12_stateOf_43 ?_
        refine lv_if_eq (tgt := 52) hx hb dX12_stateOf_46 (by decide) (fun c24 => ?_) (fun c24 => ?_)
        · have c24i : (S8.I r16 20).toInt = 0 := eq_v rfl rfl c24
          refine lv_aload_n hx hb dX12_stateOf_52 rfl (lv_at hl 0 rfl) ?_
          obtain ⟨k25, gk25, hk25⟩ := wGt (cy := cy) X S8 o17.1 o17.2.1
          have i26 := ((t10.w.at o17 List.not_mem_nil).to_10 o17.2.1).R21
          refine va_getN (D := D) (ci := 14) (v := .int (S8.I r16 21)) (C := RX10) (T := TX10) (N := 23) hx hb hts (by decide +kernel) hown hK hP k25 hk25 rfl 21 (by decide) (va_Nw.use rfl (hN (.fieldLinkNest RX12 400 "HobhouseModel$Gear" "isGround" "Z" "HobhouseModel") (by decide +kernel))) (fun _ h9 => h9) rfl dX12_stateOf_53 ?_
          refine lv_if_eq (tgt := 62) hx hb dX12_stateOf_56 (by decide) (fun c27 => ?_) (fun c27 => ?_)
          · have c27i : (S8.I r16 21).toInt = 0 := eq_v rfl rfl c27
            refine lv_aload_n hx hb dX12_stateOf_62 rfl (lv_at hl 0 rfl) ?_
            obtain ⟨k28, gk28, hk28⟩ := wGt (cy := cy) X S8 o17.1 o17.2.1
            have i29 := ((t10.w.at o17 List.not_mem_nil).to_10 o17.2.1).R19
            refine va_getN (D := D) (ci := 14) (v := .int (S8.I r16 19)) (C := RX10) (T := TX10) (N := 23) hx hb hts (by decide +kernel) hown hK hP k28 hk28 rfl 19 (by decide) (va_Nw.use rfl (hN (.fieldLinkNest RX12 369 "HobhouseModel$Gear" "isHard" "Z" "HobhouseModel") (by decide +kernel))) (fun _ h9 => h9) rfl dX12_stateOf_63 ?_
            refine lv_if_eq (tgt := 74) hx hb dX12_stateOf_66 (by decide) (fun c30 => ?_) (fun c30 => ?_)
            · have c30i : (S8.I r16 19).toInt = 0 := eq_v rfl rfl c30
              refine lv_aload_n hx hb dX12_stateOf_74 rfl (lv_at hl 0 rfl) ?_
              obtain ⟨k31, gk31, hk31⟩ := wGt (cy := cy) X S8 o17.1 o17.2.1
              have i32 := ((t10.w.at o17 List.not_mem_nil).to_10 o17.2.1).R18
              refine va_getN (D := D) (ci := 14) (v := .int (S8.I r16 18)) (C := RX10) (T := TX10) (N := 23) hx hb hts (by decide +kernel) hown hK hP k31 hk31 rfl 18 (by decide) (va_Nw.use rfl (hN (.fieldLinkNest RX12 160 "HobhouseModel$Gear" "isCut" "Z" "HobhouseModel") (by decide +kernel))) (fun _ h9 => h9) rfl dX12_stateOf_75 ?_
              refine lv_if_eq (tgt := 86) hx hb dX12_stateOf_78 (by decide) (fun c33 => ?_) (fun c33 => ?_)
              · have c33i : (S8.I r16 18).toInt = 0 := eq_v rfl rfl c33
                refine lv_bipush (v := 98) hx hb dX12_stateOf_86 (by decide +kernel) ?_
                refine W.widen (k := 0) (n := 0) (Nat.le_of_ble_eq_true rfl) (Nat.le_of_ble_eq_true rfl) ?_
                exact W.zret (v := (98 : Int32)) hx hb hr (by rfl) (fun t ht hW9 => ⟨⟨(98 : Int32), S8, rfl, ⟨t10, (by rfl)⟩, wd_end hP hK hD ht hW9.alike⟩, hS.F ht⟩) hS.2.2 dX12_stateOf_88 hlocks
              · have c33i : ¬ (S8.I r16 18).toInt = 0 := neq_v rfl rfl c33
                refine lv_bipush (v := 99) hx hb dX12_stateOf_81 (by decide +kernel) ?_
                refine lv_goto (tgt := 88) hx hb dX12_stateOf_83 (by decide) ?_
                refine W.widen (k := 0) (n := 0) (Nat.le_of_ble_eq_true rfl) (Nat.le_of_ble_eq_true rfl) ?_
                exact W.zret (v := (99 : Int32)) hx hb hr (by rfl) (fun t ht hW9 => ⟨⟨(99 : Int32), S8, rfl, ⟨t10, (by rfl)⟩, wd_end hP hK hD ht hW9.alike⟩, hS.F ht⟩) hS.2.2 dX12_stateOf_88 hlocks
            · have c30i : ¬ (S8.I r16 19).toInt = 0 := neq_v rfl rfl c30
              refine lv_bipush (v := 104) hx hb dX12_stateOf_69 (by decide +kernel) ?_
              refine lv_goto (tgt := 88) hx hb dX12_stateOf_71 (by decide) ?_
              refine W.widen (k := 0) (n := 0) (Nat.le_of_ble_eq_true rfl) (Nat.le_of_ble_eq_true rfl) ?_
              exact W.zret (v := (104 : Int32)) hx hb hr (by rfl) (fun t ht hW9 => ⟨⟨(104 : Int32), S8, rfl, ⟨t10, (by rfl)⟩, wd_end hP hK hD ht hW9.alike⟩, hS.F ht⟩) hS.2.2 dX12_stateOf_88 hlocks
          · have c27i : ¬ (S8.I r16 21).toInt = 0 := neq_v rfl rfl c27
            refine lv_bipush (v := 103) hx hb dX12_stateOf_59 (by decide +kernel) ?_
            refine W.widen (k := 0) (n := 0) (Nat.le_of_ble_eq_true rfl) (Nat.le_of_ble_eq_true rfl) ?_
            exact W.zret (v := (103 : Int32)) hx hb hr (by rfl) (fun t ht hW9 => ⟨⟨(103 : Int32), S8, rfl, ⟨t10, (by rfl)⟩, wd_end hP hK hD ht hW9.alike⟩, hS.F ht⟩) hS.2.2 dX12_stateOf_61 hlocks
        · have c24i : ¬ (S8.I r16 20).toInt = 0 := neq_v rfl rfl c24
          refine lv_bipush (v := 120) hx hb dX12_stateOf_49 (by decide +kernel) ?_
          refine W.widen (k := 0) (n := 0) (Nat.le_of_ble_eq_true rfl) (Nat.le_of_ble_eq_true rfl) ?_
          exact W.zret (v := (120 : Int32)) hx hb hr (by rfl) (fun t ht hW9 => ⟨⟨(120 : Int32), S8, rfl, ⟨t10, (by rfl)⟩, wd_end hP hK hD ht hW9.alike⟩, hS.F ht⟩) hS.2.2 dX12_stateOf_51 hlocks
      · have c21i : ¬ (f_X10_isBroken S8 r16).toInt = 0 := neq_v rfl rfl c21
        refine lv_bipush (v := 47) hx hb dX12_stateOf_39 (by decide +kernel) ?_
        refine W.widen (k := 0) (n := 0) (Nat.le_of_ble_eq_true rfl) (Nat.le_of_ble_eq_true rfl) ?_
        exact W.zret (v := (47 : Int32)) hx hb hr (by rfl) (fun t ht hW9 => ⟨⟨(47 : Int32), S8, rfl, ⟨t10, (by rfl)⟩, wd_end hP hK hD ht hW9.alike⟩, hS.F ht⟩) hS.2.2 dX12_stateOf_41 hlocks
    · have c14i : 0 < (S8.I o1 15).toInt := nle_v rfl rfl c14
      refine lv_iconst (v := 0) hx hb dX12_stateOf_24 (by decide) ?_
      refine W.widen (k := 0) (n := 0) (Nat.le_of_ble_eq_true rfl) (Nat.le_of_ble_eq_true rfl) ?_
      exact W.zret (v := (0 : Int32)) hx hb hr (by rfl) (fun t ht hW9 => ⟨⟨(0 : Int32), S8, rfl, ⟨t10, (by rfl)⟩, wd_end hP hK hD ht hW9.alike⟩, hS.F ht⟩) hS.2.2 dX12_stateOf_25 hlocks
  · have c6i : ¬ (f_X12_isGear S o1 x1).toInt = 0 := neq_v rfl rfl c6
    refine lv_iconst (v := 0) hx hb dX12_stateOf_9 (by decide) ?_
    refine lv_goto (tgt := 14) hx hb dX12_stateOf_10 (by decide) ?_
    obtain ⟨k34, gk34, hk34⟩ := wGt (cy := cy) X S h_o1.1 h_o1.2.1
    refine va_put (D := D) (ci := 16) (v := .int (0 : Int32)) (ty := .int) (C := RX12) (T := TX12) (N := 34) hx hb hts (by decide +kernel) tyX12 tyX12_ok nmX12 hown hK hP hD hS k34 hk34 rfl 15 (by decide) (hts (.fieldLink RX12 94 "HobhouseModel" "thrown" "I") (by decide +kernel)) (fun _ h9 => h9) rfl (by decide +kernel) (rfl) (rfl) (Nat.le_of_ble_eq_true rfl) dX12_stateOf_14 (fun H locs hP2 hD2 hS => ?_)
    have e9 := wPuI (cy := cy) (j := 15) (v := (0 : Int32)) hD h_o1.1 h_o1.2.1 gk34 rfl
    obtain ⟨S35, hS35⟩ : ∃ z, S.sI o1 15 (0 : Int32) = z := ⟨_, rfl⟩
    have hP : va_P D vwCl (X ++ PL cy S35) H := by rw [← hS35, ← e9]; exact hP2
    have hD : va_D A (X ++ PL cy S35) := by rw [← hS35, ← e9]; exact hD2
    have xe36 : ext S S35 := by rw [← hS35]; exact ext.sI _ _ _ _
    have t37 : stp [(12, 15)] [] [] S S35 := by rw [← hS35]; exact t0.I 15 (0 : Int32) h_o1 (by decide) (trivial) (Or.inl (by decide))
    have k38 : (S35.I (S.f o1 0) 2).toInt = (S.I (S.f o1 0) 2).toInt := by rw [← hS35]; exact congrArg Int32.toInt (sI_I (by rintro ⟨e1, e2⟩; exact absurd e2 (by decide)))
    have k39 : (S35.I o1 15).toInt = (0 : Int32).toInt := by rw [← hS35, sI_eq]
    refine lv_aload_n hx hb dX12_stateOf_17 rfl (lv_at hl 0 rfl) ?_
    have l0 : (0 : Int32).toInt = 0 := rfl
    have l1 : (1 : Int32).toInt = 1 := rfl
    obtain ⟨k40, gk40, hk40⟩ := wGt (cy := cy) X S35 (xe36.A h_o1).1 (xe36.A h_o1).2.1
    refine va_get (D := D) (ci := 16) (v := .int (S35.I o1 15)) (C := RX12) (T := TX12) (N := 34) hx hb hts (by decide +kernel) hown hK hP k40 hk40 rfl 15 (by decide) (hts (.fieldLink RX12 94 "HobhouseModel" "thrown" "I") (by decide +kernel)) (fun _ h9 => h9) rfl dX12_stateOf_18 ?_
    refine lv_if_le (tgt := 26) hx hb dX12_stateOf_21 (by decide) (fun c41 => ?_) (fun c41 => ?_)
    · have c41i : (S35.I o1 15).toInt ≤ 0 := le_v rfl rfl c41
      refine lv_aload_n hx hb dX12_stateOf_26 rfl (lv_at hl 0 rfl) ?_
      refine lv_iload_n hx hb dX12_stateOf_27 rfl (lv_at hl 1 rfl) ?_
      have hFc := free_all hD hS hA
      obtain ⟨k42, gk42, hk42⟩ := wGt (cy := cy) X S35 (xe36.A h_o1).1 (xe36.A h_o1).2.1
      refine va_callq (va_runV (As := [.int x1]) (rest := []) ⟨hx, hb, hml, hown, hts⟩ (c_X12_gearAt l (cy := cy) (X := X) (D := D) S35 _ o1 (xe36.A h_o1) x1 (t37.w) (by rw [f_of (xe36.F h_o1 (by decide) F1.1)]; omega)) (cwV 1 hts gX12_stateOf_X12_gearAt rfl rfl rfl hd_X12_gearAt ⟨Nat.le_of_ble_eq_true rfl, Nat.le_of_ble_eq_true rfl⟩) ⟨fun a U g mk q => ⟨q.1, q.2.1, q.2.2.1.calling, NW.same (u := U) (U := U.calling g mk a) rfl q.2.2.2⟩, va_recv hK hP (q := (RX12, TX12, 34)) (ci := 16) (q0 := k42) rfl hk42, fun U hU hW => ⟨rfl, by rw [hU], wd_pre hP hK hD hU hW, hN.warm hW⟩⟩ rfl rfl hl.1 rfl (lv_room (Nat.le_of_ble_eq_true rfl)) dX12_stateOf_28 ⟨(Nat.zero_le _), (Nat.zero_le _)⟩) hS (fun q _ h => hFc q h) hFc (fun r43 u t H1 locs ht hvm hw hB hz1 hk1 hS => ?_)
      obtain ⟨r43, rfl, o44⟩ := hw
      obtain ⟨hP, hD⟩ := wd_post hFc ht hB
      generalize H1 = H at hP hS ⊢
      refine W.eq (g2 := F0 m 31 ls [.ref r43]) rfl ?_
      refine lv_astore_n (lv' := [(2, .ref r43), (0, .ref o1), (1, .int x1)]) hx hb dX12_stateOf_31 rfl hl (by decide) rfl (fun ls hl => ?_)
      refine lv_aload_n hx hb dX12_stateOf_32 rfl (lv_at hl 0 rfl) ?_
      have hFc := free_all hD hS hA
      obtain ⟨k45, gk45, hk45⟩ := wGt (cy := cy) X S35 o44.1 o44.2.1
      refine va_calli (va_runV (As := []) (rest := []) ⟨hx, hb, hml, hown, hts⟩ (c_X10_isBroken l (cy := cy) (X := X) (D := D) S35 _ r43 o44) (cwV 0 hts gX12_stateOf_X10_isBroken rfl rfl rfl hd_X10_isBroken ⟨Nat.le_of_ble_eq_true rfl, Nat.le_of_ble_eq_true rfl⟩) ⟨fun a U g mk q => ⟨q.1, q.2.1, q.2.2.1.calling, NW.same (u := U) (U := U.calling g mk a) rfl q.2.2.2⟩, va_recv hK hP (q := (RX10, TX10, 23)) (ci := 14) (q0 := k45) rfl hk45, fun U hU hW => ⟨rfl, by rw [hU], wd_pre hP hK hD hU hW, hN.warm hW⟩⟩ rfl rfl hl.1 rfl (lv_room (Nat.le_of_ble_eq_true rfl)) dX12_stateOf_33 ⟨(Nat.zero_le _), (Nat.zero_le _)⟩) hS (fun q _ h => hFc q h) hFc (fun r46 u t H1 locs ht hvm hw hB hz1 hk1 hS => ?_)
      have c47 := hw
      obtain ⟨hP, hD⟩ := wd_post hFc ht hB
      generalize H1 = H at hP hS ⊢
      obtain rfl : r46 = f_X10_isBroken S35 r43 := c47
      refine lv_if_eq (tgt := 42) hx hb dX12_stateOf_36 (by decide) (fun c48 => ?_) (fun c48 => ?_)
      · have c48i : (f_X10_isBroken S35 r43).toInt = 0 := eq_v rfl rfl c48
        refine lv_aload_n hx hb dX12_stateOf_42 rfl (lv_at hl 0 rfl) ?_
        obtain ⟨k49, gk49, hk49⟩ := wGt (cy := cy) X S35 o44.1 o44.2.1
        have i50 := ((t37.w.at o44 List.not_mem_nil).to_10 o44.2.1).R20
        refine va_getN (D := D) (ci := 14) (v := .int (S35.I r43 20)) (C := RX10) (T := TX10) (N := 23) hx hb hts (by decide +kernel) hown hK hP k49 hk49 rfl 20 (by decide) (va_Nw.use rfl (hN (.fieldLinkNest RX12 372 "HobhouseModel$Gear" "isScrap" "Z" "HobhouseModel") (by decide +kernel))) (fun _ h9 => h9) rfl dX12_stateOf_43 ?_
        refine lv_if_eq (tgt := 52) hx hb dX12_stateOf_46 (by decide) (fun c51 => ?_) (fun c51 => ?_)
        · have c51i : (S35.I r43 20).toInt = 0 := eq_v rfl rfl c51
          refine lv_aload_n hx hb dX12_stateOf_52 rfl (lv_at hl 0 rfl) ?_
          obtain ⟨k52, gk52, hk52⟩ := wGt (cy := cy) X S35 o44.1 o44.2.1
          have i53 := ((t37.w.at o44 List.not_mem_nil).to_10 o44.2.1).R21
          refine va_getN (D := D) (ci := 14) (v := .int (S35.I r43 21)) (C := RX10) (T := TX10) (N := 23) hx hb hts (by decide +kernel) hown hK hP k52 hk52 rfl 21 (by decide) (va_Nw.use rfl (hN (.fieldLinkNest RX12 400 "HobhouseModel$Gear" "isGround" "Z" "HobhouseModel") (by decide +kernel))) (fun _ h9 => h9) rfl dX12_stateOf_53 ?_
          refine lv_if_eq (tgt := 62) hx hb dX12_stateOf_56 (by decide) (fun c54 => ?_) (fun c54 => ?_)
          · have c54i : (S35.I r43 21).toInt = 0 := eq_v rfl rfl c54
            refine lv_aload_n hx hb dX12_stateOf_62 rfl (lv_at hl 0 rfl) ?_
            obtain ⟨k55, gk55, hk55⟩ := wGt (cy := cy) X S35 o44.1 o44.2.1
            have i56 := ((t37.w.at o44 List.not_mem_nil).to_10 o44.2.1).R19
            refine va_getN (D := D) (ci := 14) (v := .int (S35.I r43 19)) (C := RX10) (T := TX10) (N := 23) hx hb hts (by decide +kernel) hown hK hP k55 hk55 rfl 19 (by decide) (va_Nw.use rfl (hN (.fieldLinkNest RX12 369 "HobhouseModel$Gear" "isHard" "Z" "HobhouseModel") (by decide +kernel))) (fun _ h9 => h9) rfl dX12_stateOf_63 ?_
            refine lv_if_eq (tgt := 74) hx hb dX12_stateOf_66 (by decide) (fun c57 => ?_) (fun c57 => ?_)
            · have c57i : (S35.I r43 19).toInt = 0 := eq_v rfl rfl c57
              refine lv_aload_n hx hb dX12_stateOf_74 rfl (lv_at hl 0 rfl) ?_
              obtain ⟨k58, gk58, hk58⟩ := wGt (cy := cy) X S35 o44.1 o44.2.1
              have i59 := ((t37.w.at o44 List.not_mem_nil).to_10 o44.2.1).R18
              refine va_getN (D := D) (ci := 14) (v := .int (S35.I r43 18)) (C := RX10) (T := TX10) (N := 23) hx hb hts (by decide +kernel) hown hK hP k58 hk58 rfl 18 (by decide) (va_Nw.use rfl (hN (.fieldLinkNest RX12 160 "HobhouseModel$Gear" "isCut" "Z" "HobhouseModel") (by decide +kernel))) (fun _ h9 => h9) rfl dX12_stateOf_75 ?_
              refine lv_if_eq (tgt := 86) hx hb dX12_stateOf_78 (by decide) (fun c60 => ?_) (fun c60 => ?_)
              · have c60i : (S35.I r43 18).toInt = 0 := eq_v rfl rfl c60
                refine lv_bipush (v := 98) hx hb dX12_stateOf_86 (by decide +kernel) ?_
                refine W.widen (k := 0) (n := 0) (Nat.le_of_ble_eq_true rfl) (Nat.le_of_ble_eq_true rfl) ?_
                exact W.zret (v := (98 : Int32)) hx hb hr (by rfl) (fun t ht hW9 => ⟨⟨(98 : Int32), S35, rfl, ⟨t37, (by rfl)⟩, wd_end hP hK hD ht hW9.alike⟩, hS.F ht⟩) hS.2.2 dX12_stateOf_88 hlocks
              · have c60i : ¬ (S35.I r43 18).toInt = 0 := neq_v rfl rfl c60
                refine lv_bipush (v := 99) hx hb dX12_stateOf_81 (by decide +kernel) ?_
                refine lv_goto (tgt := 88) hx hb dX12_stateOf_83 (by decide) ?_
                refine W.widen (k := 0) (n := 0) (Nat.le_of_ble_eq_true rfl) (Nat.le_of_ble_eq_true rfl) ?_
                exact W.zret (v := (99 : Int32)) hx hb hr (by rfl) (fun t ht hW9 => ⟨⟨(99 : Int32), S35, rfl, ⟨t37, (by rfl)⟩, wd_end hP hK hD ht hW9.alike⟩, hS.F ht⟩) hS.2.2 dX12_stateOf_88 hlocks
            · have c57i : ¬ (S35.I r43 19).toInt = 0 := neq_v rfl rfl c57
              refine lv_bipush (v := 104) hx hb dX12_stateOf_69 (by decide +kernel) ?_
              refine lv_goto (tgt := 88) hx hb dX12_stateOf_71 (by decide) ?_
              refine W.widen (k := 0) (n := 0) (Nat.le_of_ble_eq_true rfl) (Nat.le_of_ble_eq_true rfl) ?_
              exact W.zret (v := (104 : Int32)) hx hb hr (by rfl) (fun t ht hW9 => ⟨⟨(104 : Int32), S35, rfl, ⟨t37, (by rfl)⟩, wd_end hP hK hD ht hW9.alike⟩, hS.F ht⟩) hS.2.2 dX12_stateOf_88 hlocks
          · have c54i : ¬ (S35.I r43 21).toInt = 0 := neq_v rfl rfl c54
            refine lv_bipush (v := 103) hx hb dX12_stateOf_59 (by decide +kernel) ?_
            refine W.widen (k := 0) (n := 0) (Nat.le_of_ble_eq_true rfl) (Nat.le_of_ble_eq_true rfl) ?_
            exact W.zret (v := (103 : Int32)) hx hb hr (by rfl) (fun t ht hW9 => ⟨⟨(103 : Int32), S35, rfl, ⟨t37, (by rfl)⟩, wd_end hP hK hD ht hW9.alike⟩, hS.F ht⟩) hS.2.2 dX12_stateOf_61 hlocks
        · have c51i : ¬ (S35.I r43 20).toInt = 0 := neq_v rfl rfl c51
          refine lv_bipush (v := 120) hx hb dX12_stateOf_49 (by decide +kernel) ?_
          refine W.widen (k := 0) (n := 0) (Nat.le_of_ble_eq_true rfl) (Nat.le_of_ble_eq_true rfl) ?_
          exact W.zret (v := (120 : Int32)) hx hb hr (by rfl) (fun t ht hW9 => ⟨⟨(120 : Int32), S35, rfl, ⟨t37, (by rfl)⟩, wd_end hP hK hD ht hW9.alike⟩, hS.F ht⟩) hS.2.2 dX12_stateOf_51 hlocks
      · have c48i : ¬ (f_X10_isBroken S35 r43).toInt = 0 := neq_v rfl rfl c48
        refine lv_bipush (v := 47) hx hb dX12_stateOf_39 (by decide +kernel) ?_
        refine W.widen (k := 0) (n := 0) (Nat.le_of_ble_eq_true rfl) (Nat.le_of_ble_eq_true rfl) ?_
        exact W.zret (v := (47 : Int32)) hx hb hr (by rfl) (fun t ht hW9 => ⟨⟨(47 : Int32), S35, rfl, ⟨t37, (by rfl)⟩, wd_end hP hK hD ht hW9.alike⟩, hS.F ht⟩) hS.2.2 dX12_stateOf_41 hlocks
    · have c41i : 0 < (S35.I o1 15).toInt := nle_v rfl rfl c41
      refine lv_iconst (v := 0) hx hb dX12_stateOf_24 (by decide) ?_
      refine W.widen (k := 0) (n := 0) (Nat.le_of_ble_eq_true rfl) (Nat.le_of_ble_eq_true rfl) ?_
      exact W.zret (v := (0 : Int32)) hx hb hr (by rfl) (fun t ht hW9 => ⟨⟨(0 : Int32), S35, rfl, ⟨t37, (by rfl)⟩, wd_end hP hK hD ht hW9.alike⟩, hS.F ht⟩) hS.2.2 dX12_stateOf_25 hlocks
theorem hd_X12_chart : yX12_chart.cls = RX12 ∧ yX12_chart.cls ≠ "java/lang/invoke/MethodHandle" ∧ yX12_chart.cls ≠ "java/lang/invoke/VarHandle" ∧ (parseMethodDescriptor yX12_chart.desc).map (fun d => d.parameters.length) = some 3 := by decide +kernel
set_option maxHeartbeats 4000000 in
set_option maxRecDepth 100000 in
theorem c_X12_chart (l : Launch) {D : va_G} {cy : Nat → ClassId} {X : va_W} (S : wPS) (sz : Nat) (o1 : Nat) (h_o1 : isA S o1 12) (x1 : Int32) (x2 : Int32) (x3 : Int32) (hW : wtB S [])  : Met l yX12_chart wsX12_chart ({ frames := 4, cells := 0, slots := 0, locals := 85 }) (va_Pc [.ref o1, .int x1, .int x2, .int x3] (fun U => U.heap.size = sz ∧ WD D cy X (fun _ => True) S U ∧ NW U)) (va_Qi (fun r (u : wPS) => stp [(12, 15), (17, 100)] [] [] S u) (fun u t => WD D cy X (va_A (X ++ PL cy S) sz) u t) (va_A (X ++ PL cy S) sz)) 0 0 (va_A (X ++ PL cy S) sz) := by
  refine Met.ofW (cc := cX12_chart) (maxL := 5) (ret := (some .int)) (by decide) rfl ?_
  intro p e s m args below meth c s₁ B hml hv
  obtain ⟨rfl, hsz, ⟨hP, hK, hD0⟩, hN⟩ := hv
  have hx := B.exec
  have hb := B.bytes
  have hr := B.returns
  have hts := atoms_spec (ws := wsX12_chart) B.pre
  have hown : s.vm.findClass RX12 = some m.cls := findClass_of_methodNamed (x := yX12_chart) B.named
  have hlocks := B.notSynchronized
  subst hsz
  have hD := hD0.self (sz := s.heap.size)
  generalize hAe : va_A (X ++ PL cy S) s.heap.size = A at hD ⊢
  have hA : ∀ q : Nat, s.heap.size ≤ q → A q := fun q h => by rw [← hAe]; exact Or.inr h
  have hS : va_S A s.heap s.heap [] := va_S.rf
  have hl := lv_entry ([.ref o1, .int x1, .int x2, .int x3]) (n := 5) (Nat.le_of_ble_eq_true rfl)
  rw [lg_entry_eq]
  generalize (lg_sl ([.ref o1, .int x1, .int x2, .int x3]) ++ List.replicate (5 - (lg_sl ([.ref o1, .int x1, .int x2, .int x3])).length) Slot.unset).toArray = ls at hl ⊢
  have hl : lv_has ls 5 [(0, .ref o1), (1, .int x1), (2, .int x2), (3, .int x3)] := hl
  have t0 : stp [(12, 15), (17, 100)] [] [] S S := stp.rf hW
  have F1 := ((hW.at h_o1 List.not_mem_nil).to_12 h_o1.2.1).F0
  refine lv_aload_n hx hb dX12_chart_0 rfl (lv_at hl 0 rfl) ?_
  refine lv_iload_n hx hb dX12_chart_1 rfl (lv_at hl 1 rfl) ?_
  have hFc := free_all hD hS hA
  obtain ⟨k2, gk2, hk2⟩ := wGt (cy := cy) X S h_o1.1 h_o1.2.1
  refine va_calli (va_runV (As := [.int x1]) (rest := []) ⟨hx, hb, hml, hown, hts⟩ (c_X12_isGear l (cy := cy) (X := X) (D := D) S _ o1 h_o1 x1 (hW)) (cwV 1 hts gX12_chart_X12_isGear rfl rfl rfl hd_X12_isGear ⟨Nat.le_of_ble_eq_true rfl, Nat.le_of_ble_eq_true rfl⟩) ⟨fun a U g mk q => ⟨q.1, q.2.1, q.2.2.1.calling, NW.same (u := U) (U := U.calling g mk a) rfl q.2.2.2⟩, va_recv hK hP (q := (RX12, TX12, 34)) (ci := 16) (q0 := k2) rfl hk2, fun U hU hW => ⟨rfl, by rw [hU], wd_pre hP hK hD hU hW, hN.warm hW⟩⟩ rfl rfl hl.1 rfl (lv_room (Nat.le_of_ble_eq_true rfl)) dX12_chart_2 ⟨(Nat.zero_le _), (Nat.zero_le _)⟩) hS (fun q _ h => hFc q h) hFc (fun r3 u t H1 locs ht hvm hw hB hz1 hk1 hS => ?_)
  have c4 := hw
  obtain ⟨hP, hD⟩ := wd_post hFc ht hB
  generalize H1 = H at hP hS ⊢
  obtain rfl : r3 = f_X12_isGear S o1 x1 := c4
  have i5 : (f_X12_isGear S o1 x1).toInt = 0 ∨ (0 ≤ x1.toInt ∧ x1.toInt < (S.I (S.f o1 0) 2).toInt) := by have h9 := ig_rng x1 ((hW.at h_o1 List.not_mem_nil).to_12 h_o1.2.1) hW; rw [f_of F1.1] at h9; exact h9
  refine lv_if_ne (tgt := 14) hx hb dX12_chart_5 (by decide) (fun c6 => ?_) (fun c6 => ?_)
  · have c6i : ¬ (f_X12_isGear S o1 x1).toInt = 0 := neq_v rfl rfl c6
    refine lv_iload_n hx hb dX12_chart_14 rfl (lv_at hl 2 rfl) ?_
    refine lv_i2l hx hb dX12_chart_15 rfl ?_
    refine lv_lconst (v := 0) hx hb dX12_chart_16 (by decide) ?_
    refine lv_aload_n hx hb dX12_chart_17 rfl (lv_at hl 0 rfl) ?_
    refine lv_iload_n hx hb dX12_chart_18 rfl (lv_at hl 1 rfl) ?_
    have hFc := free_all hD hS hA
    obtain ⟨k7, gk7, hk7⟩ := wGt (cy := cy) X S h_o1.1 h_o1.2.1
    refine va_callq (va_runV (As := [.int x1]) (rest := [.long (0 : Int64), .long x2.toInt64]) ⟨hx, hb, hml, hown, hts⟩ (c_X12_gearAt l (cy := cy) (X := X) (D := D) S _ o1 h_o1 x1 (hW) (by rw [f_of F1.1]; omega)) (cwV 1 hts gX12_chart_X12_gearAt rfl rfl rfl hd_X12_gearAt ⟨Nat.le_of_ble_eq_true rfl, Nat.le_of_ble_eq_true rfl⟩) ⟨fun a U g mk q => ⟨q.1, q.2.1, q.2.2.1.calling, NW.same (u := U) (U := U.calling g mk a) rfl q.2.2.2⟩, va_recv hK hP (q := (RX12, TX12, 34)) (ci := 16) (q0 := k7) rfl hk7, fun U hU hW => ⟨rfl, by rw [hU], wd_pre hP hK hD hU hW, hN.warm hW⟩⟩ rfl rfl hl.1 rfl (lv_room (Nat.le_of_ble_eq_true rfl)) dX12_chart_19 ⟨(Nat.zero_le _), (Nat.zero_le _)⟩) hS (fun q _ h => hFc q h) hFc (fun r8 u t H1 locs ht hvm hw hB hz1 hk1 hS => ?_)
    obtain ⟨r8, rfl, o9⟩ := hw
    obtain ⟨hP, hD⟩ := wd_post hFc ht hB
    generalize H1 = H at hP hS ⊢
    refine W.eq (g2 := F0 m 22 ls [.ref r8, .long (0 : Int64), .long x2.toInt64]) rfl ?_
    obtain ⟨k10, gk10, hk10⟩ := wGt (cy := cy) X S o9.1 o9.2.1
    have i11 := ((hW.at o9 List.not_mem_nil).to_10 o9.2.1).R1
    refine va_getN (D := D) (ci := 14) (v := .int (S.I r8 1)) (C := RX10) (T := TX10) (N := 23) hx hb hts (by decide +kernel) hown hK hP k10 hk10 rfl 1 (by decide) (va_Nw.use rfl (hN (.fieldLinkNest RX12 332 "HobhouseModel$Gear" "teeth" "I" "HobhouseModel") (by decide +kernel))) (fun _ h9 => h9) rfl dX12_chart_22 ?_
    refine lv_iconst (v := 1) hx hb dX12_chart_25 (by decide) ?_
    refine lv_isub hx hb dX12_chart_26 ?_
    refine lv_i2l hx hb dX12_chart_27 rfl ?_
    have hFc := free_all hD hS hA
    refine va_calli (va_runS (As := [.long x2.toInt64, .long (0 : Int64), .long (((S.I r8 1) - (1 : Int32)).toInt64)]) (rest := []) ⟨hx, hb, hml, hown, hts⟩ (c_X12_in l (cy := cy) (X := X) (D := D) S _ x2.toInt64 (0 : Int64) (((S.I r8 1) - (1 : Int32)).toInt64)) (cwS 3 hts gX12_chart_X12_in rfl rfl rfl hd_X12_in ⟨Nat.le_of_ble_eq_true rfl, Nat.le_of_ble_eq_true rfl⟩) ⟨fun a U g mk q => ⟨q.1, q.2.1, q.2.2.1.calling, NW.same (u := U) (U := U.calling g mk a) rfl q.2.2.2⟩, fun U hU hW => ⟨rfl, by rw [hU], wd_pre hP hK hD hU hW, hN.warm hW⟩⟩ rfl rfl hl.1 rfl (lv_room (Nat.le_of_ble_eq_true rfl)) dX12_chart_28 ⟨(Nat.zero_le _), (Nat.zero_le _)⟩) hS (fun q _ h => hFc q h) hFc (fun r12 u t H1 locs ht hvm hw hB hz1 hk1 hS => ?_)
    have c13 := hw
    obtain ⟨hP, hD⟩ := wd_post hFc ht hB
    generalize H1 = H at hP hS ⊢
    obtain rfl : r12 = f_X12_in x2.toInt64 (0 : Int64) (((S.I r8 1) - (1 : Int32)).toInt64) := c13
    have i14 := i64_i x2
    have l64_0 : (0 : Int64).toInt = 0 := rfl
    have l32_1 : (1 : Int32).toInt = 1 := rfl
    have i15 : ((S.I r8 1) - (1 : Int32)).toInt = (S.I r8 1).toInt - 1 := t_subr (n := 1) rfl (by omega)
    have i16 := i64_i ((S.I r8 1) - (1 : Int32))
    have i17 := in_rng x2.toInt64 (0 : Int64) (((S.I r8 1) - (1 : Int32)).toInt64)
    refine lv_if_eq (tgt := 48) hx hb dX12_chart_31 (by decide) (fun c18 => ?_) (fun c18 => ?_)
    · have c18i : (f_X12_in x2.toInt64 (0 : Int64) (((S.I r8 1) - (1 : Int32)).toInt64)).toInt = 0 := eq_v rfl rfl c18
      refine lv_aload_n hx hb dX12_chart_48 rfl (lv_at hl 0 rfl) ?_
      refine lv_iconst (v := 2) hx hb dX12_chart_49 (by decide) ?_
      have l32_2 : (2 : Int32).toInt = 2 := rfl
      have hFc := free_all hD hS hA
      obtain ⟨k19, gk19, hk19⟩ := wGt (cy := cy) X S h_o1.1 h_o1.2.1
      refine va_calli (va_runV (As := [.int (2 : Int32)]) (rest := []) ⟨hx, hb, hml, hown, hts⟩ (c_X12_fails l (cy := cy) (X := X) (D := D) S _ o1 h_o1 (2 : Int32) (hW)) (cwV 1 hts gX12_chart_X12_fails rfl rfl rfl hd_X12_fails ⟨Nat.le_of_ble_eq_true rfl, Nat.le_of_ble_eq_true rfl⟩) ⟨fun a U g mk q => ⟨q.1, q.2.1, q.2.2.1.calling, NW.same (u := U) (U := U.calling g mk a) rfl q.2.2.2⟩, va_recv hK hP (q := (RX12, TX12, 34)) (ci := 16) (q0 := k19) rfl hk19, fun U hU hW => ⟨rfl, by rw [hU], wd_pre hP hK hD hU hW, hN.warm hW⟩⟩ rfl rfl hl.1 rfl (lv_room (Nat.le_of_ble_eq_true rfl)) dX12_chart_50 ⟨(Nat.zero_le _), (Nat.zero_le _)⟩) hS (fun q _ h => hFc q h) hFc (fun r20 u t H1 locs ht hvm hw hB hz1 hk1 hS => ?_)
      obtain ⟨c21, w22⟩ := hw
      obtain ⟨hP, hD⟩ := wd_post hFc ht hB
      generalize H1 = H at hP hS ⊢
      obtain ⟨S23, rfl⟩ : ∃ z, z = u := ⟨_, rfl⟩
      have t24 : stp [(12, 15), (17, 100)] [] [] S S23 := t0.tr w22 (by decide) (fun _ q => absurd q List.not_mem_nil)
      have xe25 : ext S S23 := w22.x
      refine W.widen (k := 0) (n := 0) (Nat.le_of_ble_eq_true rfl) (Nat.le_of_ble_eq_true rfl) ?_
      exact W.iret (v := r20) hx hb hr (fun t ht hW9 => ⟨⟨r20, S23, rfl, t24, wd_end hP hK hD ht hW9.alike⟩, hS.F ht⟩) hS.2.2 dX12_chart_53 hlocks
    · have c18i : ¬ (f_X12_in x2.toInt64 (0 : Int64) (((S.I r8 1) - (1 : Int32)).toInt64)).toInt = 0 := neq_v rfl rfl c18
      refine lv_iload_n hx hb dX12_chart_34 rfl (lv_at hl 3 rfl) ?_
      refine lv_i2l hx hb dX12_chart_35 rfl ?_
      refine lv_ldc2 (own := RX12) (v := -500) hx hb hown (hts (.constantLong RX12 137 (-500)) (by decide +kernel)) dX12_chart_36 ?_
      refine lv_ldc2 (own := RX12) (v := 500) hx hb hown (hts (.constantLong RX12 133 (500)) (by decide +kernel)) dX12_chart_39 ?_
      have hFc := free_all hD hS hA
      refine va_calli (va_runS (As := [.long x3.toInt64, .long (-500 : Int64), .long (500 : Int64)]) (rest := []) ⟨hx, hb, hml, hown, hts⟩ (c_X12_in l (cy := cy) (X := X) (D := D) S _ x3.toInt64 (-500 : Int64) (500 : Int64)) (cwS 3 hts gX12_chart_X12_in rfl rfl rfl hd_X12_in ⟨Nat.le_of_ble_eq_true rfl, Nat.le_of_ble_eq_true rfl⟩) ⟨fun a U g mk q => ⟨q.1, q.2.1, q.2.2.1.calling, NW.same (u := U) (U := U.calling g mk a) rfl q.2.2.2⟩, fun U hU hW => ⟨rfl, by rw [hU], wd_pre hP hK hD hU hW, hN.warm hW⟩⟩ rfl rfl hl.1 rfl (lv_room (Nat.le_of_ble_eq_true rfl)) dX12_chart_42 ⟨(Nat.zero_le _), (Nat.zero_le _)⟩) hS (fun q _ h => hFc q h) hFc (fun r26 u t H1 locs ht hvm hw hB hz1 hk1 hS => ?_)
      have c27 := hw
      obtain ⟨hP, hD⟩ := wd_post hFc ht hB
      generalize H1 = H at hP hS ⊢
      obtain rfl : r26 = f_X12_in x3.toInt64 (-500 : Int64) (500 : Int64) := c27
      have i28 := i64_i x3
      have i29 : (-500 : Int64).toInt = -500 := rfl
      have l64_500 : (500 : Int64).toInt = 500 := rfl
      have i30 := in_rng x3.toInt64 (-500 : Int64) (500 : Int64)
      refine lv_if_ne (tgt := 54) hx hb dX12_chart_45 (by decide) (fun c31 => ?_) (fun c31 => ?_)
      · have c31i : ¬ (f_X12_in x3.toInt64 (-500 : Int64) (500 : Int64)).toInt = 0 := neq_v rfl rfl c31
        refine lv_aload_n hx hb dX12_chart_54 rfl (lv_at hl 0 rfl) ?_
        refine lv_iload_n hx hb dX12_chart_55 rfl (lv_at hl 1 rfl) ?_
        have hFc := free_all hD hS hA
        obtain ⟨k32, gk32, hk32⟩ := wGt (cy := cy) X S h_o1.1 h_o1.2.1
        refine va_callq (va_runV (As := [.int x1]) (rest := []) ⟨hx, hb, hml, hown, hts⟩ (c_X12_gearAt l (cy := cy) (X := X) (D := D) S _ o1 h_o1 x1 (hW) (by rw [f_of F1.1]; omega)) (cwV 1 hts gX12_chart_X12_gearAt rfl rfl rfl hd_X12_gearAt ⟨Nat.le_of_ble_eq_true rfl, Nat.le_of_ble_eq_true rfl⟩) ⟨fun a U g mk q => ⟨q.1, q.2.1, q.2.2.1.calling, NW.same (u := U) (U := U.calling g mk a) rfl q.2.2.2⟩, va_recv hK hP (q := (RX12, TX12, 34)) (ci := 16) (q0 := k32) rfl hk32, fun U hU hW => ⟨rfl, by rw [hU], wd_pre hP hK hD hU hW, hN.warm hW⟩⟩ rfl rfl hl.1 rfl (lv_room (Nat.le_of_ble_eq_true rfl)) dX12_chart_56 ⟨(Nat.zero_le _), (Nat.zero_le _)⟩) hS (fun q _ h => hFc q h) hFc (fun r33 u t H1 locs ht hvm hw hB hz1 hk1 hS => ?_)
        obtain ⟨r33, rfl, o34⟩ := hw
        obtain ⟨hP, hD⟩ := wd_post hFc ht hB
        generalize H1 = H at hP hS ⊢
        refine W.eq (g2 := F0 m 59 ls [.ref r33]) rfl ?_
        have F35 := ((hW.at o34 List.not_mem_nil).to_10 o34.2.1).F5
        obtain ⟨k36, gk36, hk36⟩ := wGt (cy := cy) X S o34.1 o34.2.1
        simp only [kE, F35.1] at hk36
        refine va_getN (D := D) (ci := 14) (v := .ref (S.f r33 5)) (C := RX10) (T := TX10) (N := 23) hx hb hts (by decide +kernel) hown hK hP k36 hk36 rfl 5 (by decide) (va_Nw.use rfl (hN (.fieldLinkNest RX12 403 "HobhouseModel$Gear" "errors" "[I" "HobhouseModel") (by decide +kernel))) (fun _ h9 => h9) rfl dX12_chart_59 ?_
        refine lv_iload_n hx hb dX12_chart_62 rfl (lv_at hl 2 rfl) ?_
        obtain ⟨k37, gk37, hk37⟩ := wGt (cy := cy) X S F35.2.1.1 F35.2.1.2.1
        refine va_iald hx hb hK hP k37 2 hk37 rfl (inb (m := 200) F35.2.2 (by omega) (by omega)) dX12_chart_63 ?_
        refine lv_istore (lv' := [(4, .int (S.i (S.f r33 5) x2.toNatClampNeg)), (0, .ref o1), (1, .int x1), (2, .int x2), (3, .int x3)]) hx hb dX12_chart_64 hl (by decide) rfl (fun ls hl => ?_)
        refine lv_aload_n hx hb dX12_chart_66 rfl (lv_at hl 1 rfl) ?_
        refine lv_iload_n hx hb dX12_chart_67 rfl (lv_at hl 2 rfl) ?_
        have hFc := free_all hD hS hA
        obtain ⟨k38, gk38, hk38⟩ := wGt (cy := cy) X S h_o1.1 h_o1.2.1
        refine va_callq (va_runV (As := [.int x1]) (rest := []) ⟨hx, hb, hml, hown, hts⟩ (c_X12_gearAt l (cy := cy) (X := X) (D := D) S _ o1 h_o1 x1 (hW) (by rw [f_of F1.1]; omega)) (cwV 1 hts gX12_chart_X12_gearAt rfl rfl rfl hd_X12_gearAt ⟨Nat.le_of_ble_eq_true rfl, Nat.le_of_ble_eq_true rfl⟩) ⟨fun a U g mk q => ⟨q.1, q.2.1, q.2.2.1.calling, NW.same (u := U) (U := U.calling g mk a) rfl q.2.2.2⟩, va_recv hK hP (q := (RX12, TX12, 34)) (ci := 16) (q0 := k38) rfl hk38, fun U hU hW => ⟨rfl, by rw [hU], wd_pre hP hK hD hU hW, hN.warm hW⟩⟩ rfl rfl hl.1 rfl (lv_room (Nat.le_of_ble_eq_true rfl)) dX12_chart_68 ⟨(Nat.zero_le _), (Nat.zero_le _)⟩) hS (fun q _ h => hFc q h) hFc (fun r39 u t H1 locs ht hvm hw hB hz1 hk1 hS => ?_)
        obtain ⟨r39, rfl, o40⟩ := hw
        obtain ⟨hP, hD⟩ := wd_post hFc ht hB
        generalize H1 = H at hP hS ⊢
        refine W.eq (g2 := F0 m 71 ls [.ref r39]) rfl ?_
        have F41 := ((hW.at o40 List.not_mem_nil).to_10 o40.2.1).F5
        obtain ⟨k42, gk42, hk42⟩ := wGt (cy := cy) X S o40.1 o40.2.1
        simp only [kE, F41.1] at hk42
        refine va_getN (D := D) (ci := 14) (v := .ref (S.f r39 5)) (C := RX10) (T := TX10) (N := 23) hx hb hts (by decide +kernel) hown hK hP k42 hk42 rfl 5 (by decide) (va_Nw.use rfl (hN (.fieldLinkNest RX12 403 "HobhouseModel$Gear" "errors" "[I" "HobhouseModel") (by decide +kernel))) (fun _ h9 => h9) rfl dX12_chart_71 ?_
        refine lv_iload_n hx hb dX12_chart_74 rfl (lv_at hl 3 rfl) ?_
        refine lv_iload_n hx hb dX12_chart_75 rfl (lv_at hl 4 rfl) ?_
        obtain ⟨k43, gk43, hk43⟩ := wGt (cy := cy) X S F41.2.1.1 F41.2.1.2.1
        refine va_iast hx hb hK hP hD hS k43 2 hk43 rfl (inb (m := 200) F41.2.2 (by omega) (by omega)) dX12_chart_76 (fun H locs hP2 hD2 hS => ?_)
        have e9 := wPui (cy := cy) (f := (upd (S.i (S.f r39 5)) x2.toNatClampNeg x3)) hD F41.2.1.1 F41.2.1.2.1 gk43 rfl
        obtain ⟨S44, hS44⟩ : ∃ z, S.si (S.f r39 5) (upd (S.i (S.f r39 5)) x2.toNatClampNeg x3) = z := ⟨_, rfl⟩
        have hP : va_P D vwCl (X ++ PL cy S44) H := by rw [← hS44, ← e9]; exact hP2
        have hD : va_D A (X ++ PL cy S44) := by rw [← hS44, ← e9]; exact hD2
        have xe45 : ext S S44 := by rw [← hS44]; exact ext.si _ _ _
        have t46 : stp [(12, 15), (17, 100)] [] [] S S44 := by rw [← hS44]; exact t0.i (upd (S.i (S.f r39 5)) x2.toNatClampNeg x3) F41.2.1 (by decide)
        refine lv_aload_n hx hb dX12_chart_77 rfl (lv_at hl 1 rfl) ?_
        refine lv_iload hx hb dX12_chart_78 (lv_at hl 0 rfl) ?_
        have hFc := free_all hD hS hA
        obtain ⟨k47, gk47, hk47⟩ := wGt (cy := cy) X S44 (xe45.A h_o1).1 (xe45.A h_o1).2.1
        refine va_calli (va_runV (As := [.int (S.i (S.f r33 5) x2.toNatClampNeg)]) (rest := []) ⟨hx, hb, hml, hown, hts⟩ (c_X12_answer l (cy := cy) (X := X) (D := D) S44 _ o1 (xe45.A h_o1) (S.i (S.f r33 5) x2.toNatClampNeg) (t46.w)) (cwV 1 hts gX12_chart_X12_answer rfl rfl rfl hd_X12_answer ⟨Nat.le_of_ble_eq_true rfl, Nat.le_of_ble_eq_true rfl⟩) ⟨fun a U g mk q => ⟨q.1, q.2.1, q.2.2.1.calling, NW.same (u := U) (U := U.calling g mk a) rfl q.2.2.2⟩, va_recv hK hP (q := (RX12, TX12, 34)) (ci := 16) (q0 := k47) rfl hk47, fun U hU hW => ⟨rfl, by rw [hU], wd_pre hP hK hD hU hW, hN.warm hW⟩⟩ rfl rfl hl.1 rfl (lv_room (Nat.le_of_ble_eq_true rfl)) dX12_chart_80 ⟨(Nat.zero_le _), (Nat.zero_le _)⟩) hS (fun q _ h => hFc q h) hFc (fun r48 u t H1 locs ht hvm hw hB hz1 hk1 hS => ?_)
        obtain ⟨c49, w50⟩ := hw
        obtain ⟨hP, hD⟩ := wd_post hFc ht hB
        generalize H1 = H at hP hS ⊢
        obtain ⟨S51, rfl⟩ : ∃ z, z = u := ⟨_, rfl⟩
        have t52 : stp [(12, 15), (17, 100)] [] [] S S51 := t46.tr w50 (by decide) (fun _ q => absurd q List.not_mem_nil)
        have xe53 : ext S44 S51 := w50.x
        refine W.widen (k := 0) (n := 0) (Nat.le_of_ble_eq_true rfl) (Nat.le_of_ble_eq_true rfl) ?_
        exact W.iret (v := r48) hx hb hr (fun t ht hW9 => ⟨⟨r48, S51, rfl, t52, wd_end hP hK hD ht hW9.alike⟩, hS.F ht⟩) hS.2.2 dX12_chart_83 hlocks
      · have c31i : (f_X12_in x3.toInt64 (-500 : Int64) (500 : Int64)).toInt = 0 := eq_v rfl rfl c31
        refine lv_aload_n hx hb dX12_chart_48 rfl (lv_at hl 0 rfl) ?_
        refine lv_iconst (v := 2) hx hb dX12_chart_49 (by decide) ?_
        have l32_2 : (2 : Int32).toInt = 2 := rfl
        have hFc := free_all hD hS hA
        obtain ⟨k54, gk54, hk54⟩ := wGt (cy := cy) X S h_o1.1 h_o1.2.1
        refine va_calli (va_runV (As := [.int (2 : Int32)]) (rest := []) ⟨hx, hb, hml, hown, hts⟩ (c_X12_fails l (cy := cy) (X := X) (D := D) S _ o1 h_o1 (2 : Int32) (hW)) (cwV 1 hts gX12_chart_X12_fails rfl rfl rfl hd_X12_fails ⟨Nat.le_of_ble_eq_true rfl, Nat.le_of_ble_eq_true rfl⟩) ⟨fun a U g mk q => ⟨q.1, q.2.1, q.2.2.1.calling, NW.same (u := U) (U := U.calling g mk a) rfl q.2.2.2⟩, va_recv hK hP (q := (RX12, TX12, 34)) (ci := 16) (q0 := k54) rfl hk54, fun U hU hW => ⟨rfl, by rw [hU], wd_pre hP hK hD hU hW, hN.warm hW⟩⟩ rfl rfl hl.1 rfl (lv_room (Nat.le_of_ble_eq_true rfl)) dX12_chart_50 ⟨(Nat.zero_le _), (Nat.zero_le _)⟩) hS (fun q _ h => hFc q h) hFc (fun r55 u t H1 locs ht hvm hw hB hz1 hk1 hS => ?_)
        obtain ⟨c56, w57⟩ := hw
        obtain ⟨hP, hD⟩ := wd_post hFc ht hB
        generalize H1 = H at hP hS ⊢
        obtain ⟨S58, rfl⟩ : ∃ z, z = u := ⟨_, rfl⟩
        have t59 : stp [(12, 15), (17, 100)] [] [] S S58 := t0.tr w57 (by decide) (fun _ q => absurd q List.not_mem_nil)
        have xe60 : ext S S58 := w57.x
        refine W.widen (k := 0) (n := 0) (Nat.le_of_ble_eq_true rfl) (Nat.le_of_ble_eq_true rfl) ?_
        exact W.iret (v := r55) hx hb hr (fun t ht hW9 => ⟨⟨r55, S58, rfl, t59, wd_end hP hK hD ht hW9.alike⟩, hS.F ht⟩) hS.2.2 dX12_chart_53 hlocks
  · have c6i : (f_X12_isGear S o1 x1).toInt = 0 := eq_v rfl rfl c6
    refine lv_aload_n hx hb dX12_chart_8 rfl (lv_at hl 0 rfl) ?_
    refine lv_iconst (v := 1) hx hb dX12_chart_9 (by decide) ?_
    have l32_1 : (1 : Int32).toInt = 1 := rfl
    have hFc := free_all hD hS hA
    obtain ⟨k61, gk61, hk61⟩ := wGt (cy := cy) X S h_o1.1 h_o1.2.1
    refine va_calli (va_runV (As := [.int (1 : Int32)]) (rest := []) ⟨hx, hb, hml, hown, hts⟩ (c_X12_fails l (cy := cy) (X := X) (D := D) S _ o1 h_o1 (1 : Int32) (hW)) (cwV 1 hts gX12_chart_X12_fails rfl rfl rfl hd_X12_fails ⟨Nat.le_of_ble_eq_true rfl, Nat.le_of_ble_eq_true rfl⟩) ⟨fun a U g mk q => ⟨q.1, q.2.1, q.2.2.1.calling, NW.same (u := U) (U := U.calling g mk a) rfl q.2.2.2⟩, va_recv hK hP (q := (RX12, TX12, 34)) (ci := 16) (q0 := k61) rfl hk61, fun U hU hW => ⟨rfl, by rw [hU], wd_pre hP hK hD hU hW, hN.warm hW⟩⟩ rfl rfl hl.1 rfl (lv_room (Nat.le_of_ble_eq_true rfl)) dX12_chart_10 ⟨(Nat.zero_le _), (Nat.zero_le _)⟩) hS (fun q _ h => hFc q h) hFc (fun r62 u t H1 locs ht hvm hw hB hz1 hk1 hS => ?_)
    obtain ⟨c63, w64⟩ := hw
    obtain ⟨hP, hD⟩ := wd_post hFc ht hB
    generalize H1 = H at hP hS ⊢
    obtain ⟨S65, rfl⟩ : ∃ z, z = u := ⟨_, rfl⟩
    have t66 : stp [(12, 15), (17, 100)] [] [] S S65 := t0.tr w64 (by decide) (fun _ q => absurd q List.not_mem_nil)
    have xe67 : ext S S65 := w64.x
    refine W.widen (k := 0) (n := 0) (Nat.le_of_ble_eq_true rfl) (Nat.le_of_ble_eq_true rfl) ?_
    exact W.iret (v := r62) hx hb hr (fun t ht hW9 => ⟨⟨r62, S65, rfl, t66, wd_end hP hK hD ht hW9.alike⟩, hS.F ht⟩) hS.2.2 dX12_chart_13 hlocks
theorem hd_X12_total : yX12_total.cls = RX12 ∧ yX12_total.cls ≠ "java/lang/invoke/MethodHandle" ∧ yX12_total.cls ≠ "java/lang/invoke/VarHandle" ∧ (parseMethodDescriptor yX12_total.desc).map (fun d => d.parameters.length) = some 1 := by decide +kernel
set_option maxHeartbeats 4000000 in
set_option maxRecDepth 100000 in
theorem c_X12_total (l : Launch) {D : va_G} {cy : Nat → ClassId} {X : va_W} (S : wPS) (sz : Nat) (o1 : Nat) (h_o1 : isA S o1 12) (x1 : Int32) (hW : wtB S [])  : Met l yX12_total wsX12_total ({ frames := 4, cells := 0, slots := 0, locals := 85 }) (va_Pc [.ref o1, .int x1] (fun U => U.heap.size = sz ∧ WD D cy X (fun _ => True) S U ∧ NW U)) (va_Qi (fun r (u : wPS) => stp [(12, 15)] [] [] S u) (fun u t => WD D cy X (va_A (X ++ PL cy S) sz) u t) (va_A (X ++ PL cy S) sz)) 0 0 (va_A (X ++ PL cy S) sz) := by
  refine Met.ofW (cc := cX12_total) (maxL := 2) (ret := (some .int)) (by decide) rfl ?_
  intro p e s m args below meth c s₁ B hml hv
  obtain ⟨rfl, hsz, ⟨hP, hK, hD0⟩, hN⟩ := hv
  have hx := B.exec
  have hb := B.bytes
  have hr := B.returns
  have hts := atoms_spec (ws := wsX12_total) B.pre
  have hown : s.vm.findClass RX12 = some m.cls := findClass_of_methodNamed (x := yX12_total) B.named
  have hlocks := B.notSynchronized
  subst hsz
  have hD := hD0.self (sz := s.heap.size)
  generalize hAe : va_A (X ++ PL cy S) s.heap.size = A at hD ⊢
  have hA : ∀ q : Nat, s.heap.size ≤ q → A q := fun q h => by rw [← hAe]; exact Or.inr h
  have hS : va_S A s.heap s.heap [] := va_S.rf
  have hl := lv_entry ([.ref o1, .int x1]) (n := 2) (Nat.le_of_ble_eq_true rfl)
  rw [lg_entry_eq]
  generalize (lg_sl ([.ref o1, .int x1]) ++ List.replicate (2 - (lg_sl ([.ref o1, .int x1])).length) Slot.unset).toArray = ls at hl ⊢
  have hl : lv_has ls 2 [(0, .ref o1), (1, .int x1)] := hl
  have t0 : stp [(12, 15)] [] [] S S := stp.rf hW
  refine lv_aload_n hx hb dX12_total_0 rfl (lv_at hl 0 rfl) ?_
  refine lv_iload_n hx hb dX12_total_1 rfl (lv_at hl 1 rfl) ?_
  have hFc := free_all hD hS hA
  obtain ⟨k1, gk1, hk1⟩ := wGt (cy := cy) X S h_o1.1 h_o1.2.1
  refine va_calli (va_runV (As := [.int x1]) (rest := []) ⟨hx, hb, hml, hown, hts⟩ (c_X12_isGear l (cy := cy) (X := X) (D := D) S _ o1 h_o1 x1 (hW)) (cwV 1 hts gX12_total_X12_isGear rfl rfl rfl hd_X12_isGear ⟨Nat.le_of_ble_eq_true rfl, Nat.le_of_ble_eq_true rfl⟩) ⟨fun a U g mk q => ⟨q.1, q.2.1, q.2.2.1.calling, NW.same (u := U) (U := U.calling g mk a) rfl q.2.2.2⟩, va_recv hK hP (q := (RX12, TX12, 34)) (ci := 16) (q0 := k1) rfl hk1, fun U hU hW => ⟨rfl, by rw [hU], wd_pre hP hK hD hU hW, hN.warm hW⟩⟩ rfl rfl hl.1 rfl (lv_room (Nat.le_of_ble_eq_true rfl)) dX12_total_2 ⟨(Nat.zero_le _), (Nat.zero_le _)⟩) hS (fun q _ h => hFc q h) hFc (fun r2 u t H1 locs ht hvm hw hB hz1 hk1 hS => ?_)
  have c3 := hw
  obtain ⟨hP, hD⟩ := wd_post hFc ht hB
  generalize H1 = H at hP hS ⊢
  obtain rfl : r2 = f_X12_isGear S o1 x1 := c3
  have F4 := ((hW.at h_o1 List.not_mem_nil).to_12 h_o1.2.1).F0
  have i5 : (f_X12_isGear S o1 x1).toInt = 0 ∨ (0 ≤ x1.toInt ∧ x1.toInt < (S.I (S.f o1 0) 2).toInt) := by have h9 := ig_rng x1 ((hW.at h_o1 List.not_mem_nil).to_12 h_o1.2.1) hW; rw [f_of F4.1] at h9; exact h9
  refine lv_if_eq (tgt := 23) hx hb dX12_total_5 (by decide) (fun c6 => ?_) (fun c6 => ?_)
  · have c6i : (f_X12_isGear S o1 x1).toInt = 0 := eq_v rfl rfl c6
    refine lv_aload_n hx hb dX12_total_23 rfl (lv_at hl 0 rfl) ?_
    refine lv_iconst (v := 1) hx hb dX12_total_24 (by decide) ?_
    have l32_1 : (1 : Int32).toInt = 1 := rfl
    have hFc := free_all hD hS hA
    obtain ⟨k7, gk7, hk7⟩ := wGt (cy := cy) X S h_o1.1 h_o1.2.1
    refine va_calli (va_runV (As := [.int (1 : Int32)]) (rest := []) ⟨hx, hb, hml, hown, hts⟩ (c_X12_fails l (cy := cy) (X := X) (D := D) S _ o1 h_o1 (1 : Int32) (hW)) (cwV 1 hts gX12_total_X12_fails rfl rfl rfl hd_X12_fails ⟨Nat.le_of_ble_eq_true rfl, Nat.le_of_ble_eq_true rfl⟩) ⟨fun a U g mk q => ⟨q.1, q.2.1, q.2.2.1.calling, NW.same (u := U) (U := U.calling g mk a) rfl q.2.2.2⟩, va_recv hK hP (q := (RX12, TX12, 34)) (ci := 16) (q0 := k7) rfl hk7, fun U hU hW => ⟨rfl, by rw [hU], wd_pre hP hK hD hU hW, hN.warm hW⟩⟩ rfl rfl hl.1 rfl (lv_room (Nat.le_of_ble_eq_true rfl)) dX12_total_25 ⟨(Nat.zero_le _), (Nat.zero_le _)⟩) hS (fun q _ h => hFc q h) hFc (fun r8 u t H1 locs ht hvm hw hB hz1 hk1 hS => ?_)
    obtain ⟨c9, w10⟩ := hw
    obtain ⟨hP, hD⟩ := wd_post hFc ht hB
    generalize H1 = H at hP hS ⊢
    obtain ⟨S11, rfl⟩ : ∃ z, z = u := ⟨_, rfl⟩
    have t12 : stp [(12, 15)] [] [] S S11 := t0.tr w10 (by decide) (fun _ q => absurd q List.not_mem_nil)
    have xe13 : ext S S11 := w10.x
    refine W.widen (k := 0) (n := 0) (Nat.le_of_ble_eq_true rfl) (Nat.le_of_ble_eq_true rfl) ?_
    exact W.iret (v := r8) hx hb hr (fun t ht hW9 => ⟨⟨r8, S11, rfl, t12, wd_end hP hK hD ht hW9.alike⟩, hS.F ht⟩) hS.2.2 dX12_total_28 hlocks
  · have c6i : ¬ (f_X12_isGear S o1 x1).toInt = 0 := neq_v rfl rfl c6
    refine lv_aload_n hx hb dX12_total_8 rfl (lv_at hl 0 rfl) ?_
    refine lv_aload_n hx hb dX12_total_9 rfl (lv_at hl 0 rfl) ?_
    refine lv_iload_n hx hb dX12_total_10 rfl (lv_at hl 1 rfl) ?_
    have hFc := free_all hD hS hA
    obtain ⟨k14, gk14, hk14⟩ := wGt (cy := cy) X S h_o1.1 h_o1.2.1
    refine va_callq (va_runV (As := [.int x1]) (rest := [.ref o1]) ⟨hx, hb, hml, hown, hts⟩ (c_X12_gearAt l (cy := cy) (X := X) (D := D) S _ o1 h_o1 x1 (hW) (by rw [f_of F4.1]; omega)) (cwV 1 hts gX12_total_X12_gearAt rfl rfl rfl hd_X12_gearAt ⟨Nat.le_of_ble_eq_true rfl, Nat.le_of_ble_eq_true rfl⟩) ⟨fun a U g mk q => ⟨q.1, q.2.1, q.2.2.1.calling, NW.same (u := U) (U := U.calling g mk a) rfl q.2.2.2⟩, va_recv hK hP (q := (RX12, TX12, 34)) (ci := 16) (q0 := k14) rfl hk14, fun U hU hW => ⟨rfl, by rw [hU], wd_pre hP hK hD hU hW, hN.warm hW⟩⟩ rfl rfl hl.1 rfl (lv_room (Nat.le_of_ble_eq_true rfl)) dX12_total_11 ⟨(Nat.zero_le _), (Nat.zero_le _)⟩) hS (fun q _ h => hFc q h) hFc (fun r15 u t H1 locs ht hvm hw hB hz1 hk1 hS => ?_)
    obtain ⟨r15, rfl, o16⟩ := hw
    obtain ⟨hP, hD⟩ := wd_post hFc ht hB
    generalize H1 = H at hP hS ⊢
    refine W.eq (g2 := F0 m 14 ls [.ref r15, .ref o1]) rfl ?_
    have hFc := free_all hD hS hA
    obtain ⟨k17, gk17, hk17⟩ := wGt (cy := cy) X S o16.1 o16.2.1
    refine va_calli (va_runV (As := []) (rest := [.ref o1]) ⟨hx, hb, hml, hown, hts⟩ (c_X10_total l (cy := cy) (X := X) (D := D) S _ r15 o16 (hW)) (cwV 0 hts gX12_total_X10_total rfl rfl rfl hd_X10_total ⟨Nat.le_of_ble_eq_true rfl, Nat.le_of_ble_eq_true rfl⟩) ⟨fun a U g mk q => ⟨q.1, q.2.1, q.2.2.1.calling, NW.same (u := U) (U := U.calling g mk a) rfl q.2.2.2⟩, va_recv hK hP (q := (RX10, TX10, 23)) (ci := 14) (q0 := k17) rfl hk17, fun U hU hW => ⟨rfl, by rw [hU], wd_pre hP hK hD hU hW, hN.warm hW⟩⟩ rfl rfl hl.1 rfl (lv_room (Nat.le_of_ble_eq_true rfl)) dX12_total_14 ⟨(Nat.zero_le _), (Nat.zero_le _)⟩) hS (fun q _ h => hFc q h) hFc (fun r18 u t H1 locs ht hvm hw hB hz1 hk1 hS => ?_)
    clear hw
    obtain ⟨hP, hD⟩ := wd_post hFc ht hB
    generalize H1 = H at hP hS ⊢
    have hFc := free_all hD hS hA
    obtain ⟨k19, gk19, hk19⟩ := wGt (cy := cy) X S h_o1.1 h_o1.2.1
    refine va_calli (va_runV (As := [.int r18]) (rest := []) ⟨hx, hb, hml, hown, hts⟩ (c_X12_answer l (cy := cy) (X := X) (D := D) S _ o1 h_o1 r18 (hW)) (cwV 1 hts gX12_total_X12_answer rfl rfl rfl hd_X12_answer ⟨Nat.le_of_ble_eq_true rfl, Nat.le_of_ble_eq_true rfl⟩) ⟨fun a U g mk q => ⟨q.1, q.2.1, q.2.2.1.calling, NW.same (u := U) (U := U.calling g mk a) rfl q.2.2.2⟩, va_recv hK hP (q := (RX12, TX12, 34)) (ci := 16) (q0 := k19) rfl hk19, fun U hU hW => ⟨rfl, by rw [hU], wd_pre hP hK hD hU hW, hN.warm hW⟩⟩ rfl rfl hl.1 rfl (lv_room (Nat.le_of_ble_eq_true rfl)) dX12_total_17 ⟨(Nat.zero_le _), (Nat.zero_le _)⟩) hS (fun q _ h => hFc q h) hFc (fun r20 u t H1 locs ht hvm hw hB hz1 hk1 hS => ?_)
    obtain ⟨c21, w22⟩ := hw
    obtain ⟨hP, hD⟩ := wd_post hFc ht hB
    generalize H1 = H at hP hS ⊢
    obtain ⟨S23, rfl⟩ : ∃ z, z = u := ⟨_, rfl⟩
    have t24 : stp [(12, 15)] [] [] S S23 := t0.tr w22 (by decide) (fun _ q => absurd q List.not_mem_nil)
    have xe25 : ext S S23 := w22.x
    refine lv_goto (tgt := 28) hx hb dX12_total_20 (by decide) ?_
    refine W.widen (k := 0) (n := 0) (Nat.le_of_ble_eq_true rfl) (Nat.le_of_ble_eq_true rfl) ?_
    exact W.iret (v := r20) hx hb hr (fun t ht hW9 => ⟨⟨r20, S23, rfl, t24, wd_end hP hK hD ht hW9.alike⟩, hS.F ht⟩) hS.2.2 dX12_total_28 hlocks
theorem hd_X12_grade : yX12_grade.cls = RX12 ∧ yX12_grade.cls ≠ "java/lang/invoke/MethodHandle" ∧ yX12_grade.cls ≠ "java/lang/invoke/VarHandle" ∧ (parseMethodDescriptor yX12_grade.desc).map (fun d => d.parameters.length) = some 1 := by decide +kernel
set_option maxHeartbeats 4000000 in
set_option maxRecDepth 100000 in
theorem c_X12_grade (l : Launch) {D : va_G} {cy : Nat → ClassId} {X : va_W} (S : wPS) (sz : Nat) (o1 : Nat) (h_o1 : isA S o1 12) (x1 : Int32) (hW : wtB S [])  : Met l yX12_grade wsX12_grade ({ frames := 4, cells := 0, slots := 0, locals := 85 }) (va_Pc [.ref o1, .int x1] (fun U => U.heap.size = sz ∧ WD D cy X (fun _ => True) S U ∧ NW U)) (va_Qi (fun r (u : wPS) => stp [(12, 15)] [] [] S u) (fun u t => WD D cy X (va_A (X ++ PL cy S) sz) u t) (va_A (X ++ PL cy S) sz)) 0 0 (va_A (X ++ PL cy S) sz) := by
  refine Met.ofW (cc := cX12_grade) (maxL := 2) (ret := (some .int)) (by decide) rfl ?_
  intro p e s m args below meth c s₁ B hml hv
  obtain ⟨rfl, hsz, ⟨hP, hK, hD0⟩, hN⟩ := hv
  have hx := B.exec
  have hb := B.bytes
  have hr := B.returns
  have hts := atoms_spec (ws := wsX12_grade) B.pre
  have hown : s.vm.findClass RX12 = some m.cls := findClass_of_methodNamed (x := yX12_grade) B.named
  have hlocks := B.notSynchronized
  subst hsz
  have hD := hD0.self (sz := s.heap.size)
  generalize hAe : va_A (X ++ PL cy S) s.heap.size = A at hD ⊢
  have hA : ∀ q : Nat, s.heap.size ≤ q → A q := fun q h => by rw [← hAe]; exact Or.inr h
  have hS : va_S A s.heap s.heap [] := va_S.rf
  have hl := lv_entry ([.ref o1, .int x1]) (n := 2) (Nat.le_of_ble_eq_true rfl)
  rw [lg_entry_eq]
  generalize (lg_sl ([.ref o1, .int x1]) ++ List.replicate (2 - (lg_sl ([.ref o1, .int x1])).length) Slot.unset).toArray = ls at hl ⊢
  have hl : lv_has ls 2 [(0, .ref o1), (1, .int x1)] := hl
  have t0 : stp [(12, 15)] [] [] S S := stp.rf hW
  refine lv_aload_n hx hb dX12_grade_0 rfl (lv_at hl 0 rfl) ?_
  refine lv_iload_n hx hb dX12_grade_1 rfl (lv_at hl 1 rfl) ?_
  have hFc := free_all hD hS hA
  obtain ⟨k1, gk1, hk1⟩ := wGt (cy := cy) X S h_o1.1 h_o1.2.1
  refine va_calli (va_runV (As := [.int x1]) (rest := []) ⟨hx, hb, hml, hown, hts⟩ (c_X12_isGear l (cy := cy) (X := X) (D := D) S _ o1 h_o1 x1 (hW)) (cwV 1 hts gX12_grade_X12_isGear rfl rfl rfl hd_X12_isGear ⟨Nat.le_of_ble_eq_true rfl, Nat.le_of_ble_eq_true rfl⟩) ⟨fun a U g mk q => ⟨q.1, q.2.1, q.2.2.1.calling, NW.same (u := U) (U := U.calling g mk a) rfl q.2.2.2⟩, va_recv hK hP (q := (RX12, TX12, 34)) (ci := 16) (q0 := k1) rfl hk1, fun U hU hW => ⟨rfl, by rw [hU], wd_pre hP hK hD hU hW, hN.warm hW⟩⟩ rfl rfl hl.1 rfl (lv_room (Nat.le_of_ble_eq_true rfl)) dX12_grade_2 ⟨(Nat.zero_le _), (Nat.zero_le _)⟩) hS (fun q _ h => hFc q h) hFc (fun r2 u t H1 locs ht hvm hw hB hz1 hk1 hS => ?_)
  have c3 := hw
  obtain ⟨hP, hD⟩ := wd_post hFc ht hB
  generalize H1 = H at hP hS ⊢
  obtain rfl : r2 = f_X12_isGear S o1 x1 := c3
  have F4 := ((hW.at h_o1 List.not_mem_nil).to_12 h_o1.2.1).F0
  have i5 : (f_X12_isGear S o1 x1).toInt = 0 ∨ (0 ≤ x1.toInt ∧ x1.toInt < (S.I (S.f o1 0) 2).toInt) := by have h9 := ig_rng x1 ((hW.at h_o1 List.not_mem_nil).to_12 h_o1.2.1) hW; rw [f_of F4.1] at h9; exact h9
  refine lv_if_eq (tgt := 23) hx hb dX12_grade_5 (by decide) (fun c6 => ?_) (fun c6 => ?_)
  · have c6i : (f_X12_isGear S o1 x1).toInt = 0 := eq_v rfl rfl c6
    refine lv_aload_n hx hb dX12_grade_23 rfl (lv_at hl 0 rfl) ?_
    refine lv_iconst (v := 1) hx hb dX12_grade_24 (by decide) ?_
    have l32_1 : (1 : Int32).toInt = 1 := rfl
    have hFc := free_all hD hS hA
    obtain ⟨k7, gk7, hk7⟩ := wGt (cy := cy) X S h_o1.1 h_o1.2.1
    refine va_calli (va_runV (As := [.int (1 : Int32)]) (rest := []) ⟨hx, hb, hml, hown, hts⟩ (c_X12_fails l (cy := cy) (X := X) (D := D) S _ o1 h_o1 (1 : Int32) (hW)) (cwV 1 hts gX12_grade_X12_fails rfl rfl rfl hd_X12_fails ⟨Nat.le_of_ble_eq_true rfl, Nat.le_of_ble_eq_true rfl⟩) ⟨fun a U g mk q => ⟨q.1, q.2.1, q.2.2.1.calling, NW.same (u := U) (U := U.calling g mk a) rfl q.2.2.2⟩, va_recv hK hP (q := (RX12, TX12, 34)) (ci := 16) (q0 := k7) rfl hk7, fun U hU hW => ⟨rfl, by rw [hU], wd_pre hP hK hD hU hW, hN.warm hW⟩⟩ rfl rfl hl.1 rfl (lv_room (Nat.le_of_ble_eq_true rfl)) dX12_grade_25 ⟨(Nat.zero_le _), (Nat.zero_le _)⟩) hS (fun q _ h => hFc q h) hFc (fun r8 u t H1 locs ht hvm hw hB hz1 hk1 hS => ?_)
    obtain ⟨c9, w10⟩ := hw
    obtain ⟨hP, hD⟩ := wd_post hFc ht hB
    generalize H1 = H at hP hS ⊢
    obtain ⟨S11, rfl⟩ : ∃ z, z = u := ⟨_, rfl⟩
    have t12 : stp [(12, 15)] [] [] S S11 := t0.tr w10 (by decide) (fun _ q => absurd q List.not_mem_nil)
    have xe13 : ext S S11 := w10.x
    refine W.widen (k := 0) (n := 0) (Nat.le_of_ble_eq_true rfl) (Nat.le_of_ble_eq_true rfl) ?_
    exact W.iret (v := r8) hx hb hr (fun t ht hW9 => ⟨⟨r8, S11, rfl, t12, wd_end hP hK hD ht hW9.alike⟩, hS.F ht⟩) hS.2.2 dX12_grade_28 hlocks
  · have c6i : ¬ (f_X12_isGear S o1 x1).toInt = 0 := neq_v rfl rfl c6
    refine lv_aload_n hx hb dX12_grade_8 rfl (lv_at hl 0 rfl) ?_
    refine lv_aload_n hx hb dX12_grade_9 rfl (lv_at hl 0 rfl) ?_
    refine lv_iload_n hx hb dX12_grade_10 rfl (lv_at hl 1 rfl) ?_
    have hFc := free_all hD hS hA
    obtain ⟨k14, gk14, hk14⟩ := wGt (cy := cy) X S h_o1.1 h_o1.2.1
    refine va_callq (va_runV (As := [.int x1]) (rest := [.ref o1]) ⟨hx, hb, hml, hown, hts⟩ (c_X12_gearAt l (cy := cy) (X := X) (D := D) S _ o1 h_o1 x1 (hW) (by rw [f_of F4.1]; omega)) (cwV 1 hts gX12_grade_X12_gearAt rfl rfl rfl hd_X12_gearAt ⟨Nat.le_of_ble_eq_true rfl, Nat.le_of_ble_eq_true rfl⟩) ⟨fun a U g mk q => ⟨q.1, q.2.1, q.2.2.1.calling, NW.same (u := U) (U := U.calling g mk a) rfl q.2.2.2⟩, va_recv hK hP (q := (RX12, TX12, 34)) (ci := 16) (q0 := k14) rfl hk14, fun U hU hW => ⟨rfl, by rw [hU], wd_pre hP hK hD hU hW, hN.warm hW⟩⟩ rfl rfl hl.1 rfl (lv_room (Nat.le_of_ble_eq_true rfl)) dX12_grade_11 ⟨(Nat.zero_le _), (Nat.zero_le _)⟩) hS (fun q _ h => hFc q h) hFc (fun r15 u t H1 locs ht hvm hw hB hz1 hk1 hS => ?_)
    obtain ⟨r15, rfl, o16⟩ := hw
    obtain ⟨hP, hD⟩ := wd_post hFc ht hB
    generalize H1 = H at hP hS ⊢
    refine W.eq (g2 := F0 m 14 ls [.ref r15, .ref o1]) rfl ?_
    have hFc := free_all hD hS hA
    obtain ⟨k17, gk17, hk17⟩ := wGt (cy := cy) X S o16.1 o16.2.1
    refine va_calli (va_runV (As := []) (rest := [.ref o1]) ⟨hx, hb, hml, hown, hts⟩ (c_X10_grade l (cy := cy) (X := X) (D := D) S _ r15 o16 (hW)) (cwV 0 hts gX12_grade_X10_grade rfl rfl rfl hd_X10_grade ⟨Nat.le_of_ble_eq_true rfl, Nat.le_of_ble_eq_true rfl⟩) ⟨fun a U g mk q => ⟨q.1, q.2.1, q.2.2.1.calling, NW.same (u := U) (U := U.calling g mk a) rfl q.2.2.2⟩, va_recv hK hP (q := (RX10, TX10, 23)) (ci := 14) (q0 := k17) rfl hk17, fun U hU hW => ⟨rfl, by rw [hU], wd_pre hP hK hD hU hW, hN.warm hW⟩⟩ rfl rfl hl.1 rfl (lv_room (Nat.le_of_ble_eq_true rfl)) dX12_grade_14 ⟨(Nat.zero_le _), (Nat.zero_le _)⟩) hS (fun q _ h => hFc q h) hFc (fun r18 u t H1 locs ht hvm hw hB hz1 hk1 hS => ?_)
    have y19 := hw
    obtain ⟨hP, hD⟩ := wd_post hFc ht hB
    generalize H1 = H at hP hS ⊢
    have hFc := free_all hD hS hA
    obtain ⟨k20, gk20, hk20⟩ := wGt (cy := cy) X S h_o1.1 h_o1.2.1
    refine va_calli (va_runV (As := [.int r18]) (rest := []) ⟨hx, hb, hml, hown, hts⟩ (c_X12_answer l (cy := cy) (X := X) (D := D) S _ o1 h_o1 r18 (hW)) (cwV 1 hts gX12_grade_X12_answer rfl rfl rfl hd_X12_answer ⟨Nat.le_of_ble_eq_true rfl, Nat.le_of_ble_eq_true rfl⟩) ⟨fun a U g mk q => ⟨q.1, q.2.1, q.2.2.1.calling, NW.same (u := U) (U := U.calling g mk a) rfl q.2.2.2⟩, va_recv hK hP (q := (RX12, TX12, 34)) (ci := 16) (q0 := k20) rfl hk20, fun U hU hW => ⟨rfl, by rw [hU], wd_pre hP hK hD hU hW, hN.warm hW⟩⟩ rfl rfl hl.1 rfl (lv_room (Nat.le_of_ble_eq_true rfl)) dX12_grade_17 ⟨(Nat.zero_le _), (Nat.zero_le _)⟩) hS (fun q _ h => hFc q h) hFc (fun r21 u t H1 locs ht hvm hw hB hz1 hk1 hS => ?_)
    obtain ⟨c22, w23⟩ := hw
    obtain ⟨hP, hD⟩ := wd_post hFc ht hB
    generalize H1 = H at hP hS ⊢
    obtain ⟨S24, rfl⟩ : ∃ z, z = u := ⟨_, rfl⟩
    have t25 : stp [(12, 15)] [] [] S S24 := t0.tr w23 (by decide) (fun _ q => absurd q List.not_mem_nil)
    have xe26 : ext S S24 := w23.x
    refine lv_goto (tgt := 28) hx hb dX12_grade_20 (by decide) ?_
    refine W.widen (k := 0) (n := 0) (Nat.le_of_ble_eq_true rfl) (Nat.le_of_ble_eq_true rfl) ?_
    exact W.iret (v := r21) hx hb hr (fun t ht hW9 => ⟨⟨r21, S24, rfl, t25, wd_end hP hK hD ht hW9.alike⟩, hS.F ht⟩) hS.2.2 dX12_grade_28 hlocks
theorem hd_X12_part : yX12_part.cls = RX12 ∧ yX12_part.cls ≠ "java/lang/invoke/MethodHandle" ∧ yX12_part.cls ≠ "java/lang/invoke/VarHandle" ∧ (parseMethodDescriptor yX12_part.desc).map (fun d => d.parameters.length) = some 2 := by decide +kernel
set_option maxHeartbeats 4000000 in
set_option maxRecDepth 100000 in
theorem c_X12_part (l : Launch) {D : va_G} {cy : Nat → ClassId} {X : va_W} (S : wPS) (sz : Nat) (o1 : Nat) (h_o1 : isA S o1 12) (x1 : Int32) (x2 : Int32) (hW : wtB S [])  : Met l yX12_part wsX12_part ({ frames := 4, cells := 0, slots := 0, locals := 85 }) (va_Pc [.ref o1, .int x1, .int x2] (fun U => U.heap.size = sz ∧ WD D cy X (fun _ => True) S U ∧ NW U)) (va_Qi (fun r (u : wPS) => stp [(12, 15)] [] [] S u) (fun u t => WD D cy X (va_A (X ++ PL cy S) sz) u t) (va_A (X ++ PL cy S) sz)) 0 0 (va_A (X ++ PL cy S) sz) := by
  refine Met.ofW (cc := cX12_part) (maxL := 3) (ret := (some .int)) (by decide) rfl ?_
  intro p e s m args below meth c s₁ B hml hv
  obtain ⟨rfl, hsz, ⟨hP, hK, hD0⟩, hN⟩ := hv
  have hx := B.exec
  have hb := B.bytes
  have hr := B.returns
  have hts := atoms_spec (ws := wsX12_part) B.pre
  have hown : s.vm.findClass RX12 = some m.cls := findClass_of_methodNamed (x := yX12_part) B.named
  have hlocks := B.notSynchronized
  subst hsz
  have hD := hD0.self (sz := s.heap.size)
  generalize hAe : va_A (X ++ PL cy S) s.heap.size = A at hD ⊢
  have hA : ∀ q : Nat, s.heap.size ≤ q → A q := fun q h => by rw [← hAe]; exact Or.inr h
  have hS : va_S A s.heap s.heap [] := va_S.rf
  have hl := lv_entry ([.ref o1, .int x1, .int x2]) (n := 3) (Nat.le_of_ble_eq_true rfl)
  rw [lg_entry_eq]
  generalize (lg_sl ([.ref o1, .int x1, .int x2]) ++ List.replicate (3 - (lg_sl ([.ref o1, .int x1, .int x2])).length) Slot.unset).toArray = ls at hl ⊢
  have hl : lv_has ls 3 [(0, .ref o1), (1, .int x1), (2, .int x2)] := hl
  have t0 : stp [(12, 15)] [] [] S S := stp.rf hW
  refine lv_aload_n hx hb dX12_part_0 rfl (lv_at hl 0 rfl) ?_
  refine lv_iload_n hx hb dX12_part_1 rfl (lv_at hl 1 rfl) ?_
  have hFc := free_all hD hS hA
  obtain ⟨k1, gk1, hk1⟩ := wGt (cy := cy) X S h_o1.1 h_o1.2.1
  refine va_calli (va_runV (As := [.int x1]) (rest := []) ⟨hx, hb, hml, hown, hts⟩ (c_X12_isGear l (cy := cy) (X := X) (D := D) S _ o1 h_o1 x1 (hW)) (cwV 1 hts gX12_part_X12_isGear rfl rfl rfl hd_X12_isGear ⟨Nat.le_of_ble_eq_true rfl, Nat.le_of_ble_eq_true rfl⟩) ⟨fun a U g mk q => ⟨q.1, q.2.1, q.2.2.1.calling, NW.same (u := U) (U := U.calling g mk a) rfl q.2.2.2⟩, va_recv hK hP (q := (RX12, TX12, 34)) (ci := 16) (q0 := k1) rfl hk1, fun U hU hW => ⟨rfl, by rw [hU], wd_pre hP hK hD hU hW, hN.warm hW⟩⟩ rfl rfl hl.1 rfl (lv_room (Nat.le_of_ble_eq_true rfl)) dX12_part_2 ⟨(Nat.zero_le _), (Nat.zero_le _)⟩) hS (fun q _ h => hFc q h) hFc (fun r2 u t H1 locs ht hvm hw hB hz1 hk1 hS => ?_)
  have c3 := hw
  obtain ⟨hP, hD⟩ := wd_post hFc ht hB
  generalize H1 = H at hP hS ⊢
  obtain rfl : r2 = f_X12_isGear S o1 x1 := c3
  have F4 := ((hW.at h_o1 List.not_mem_nil).to_12 h_o1.2.1).F0
  have i5 : (f_X12_isGear S o1 x1).toInt = 0 ∨ (0 ≤ x1.toInt ∧ x1.toInt < (S.I (S.f o1 0) 2).toInt) := by have h9 := ig_rng x1 ((hW.at h_o1 List.not_mem_nil).to_12 h_o1.2.1) hW; rw [f_of F4.1] at h9; exact h9
  refine lv_if_ne (tgt := 14) hx hb dX12_part_5 (by decide) (fun c6 => ?_) (fun c6 => ?_)
  · have c6i : ¬ (f_X12_isGear S o1 x1).toInt = 0 := neq_v rfl rfl c6
    refine lv_iload_n hx hb dX12_part_14 rfl (lv_at hl 2 rfl) ?_
    refine lv_iconst (v := 1) hx hb dX12_part_15 (by decide) ?_
    refine lv_icmp_lt (tgt := 32) hx hb dX12_part_16 (by decide) (fun c7 => ?_) (fun c7 => ?_)
    · have c7i : x2.toInt < 1 := lt_v rfl rfl c7
      refine lv_aload_n hx hb dX12_part_32 rfl (lv_at hl 0 rfl) ?_
      refine lv_iconst (v := 2) hx hb dX12_part_33 (by decide) ?_
      have l32_2 : (2 : Int32).toInt = 2 := rfl
      have hFc := free_all hD hS hA
      obtain ⟨k8, gk8, hk8⟩ := wGt (cy := cy) X S h_o1.1 h_o1.2.1
      refine va_calli (va_runV (As := [.int (2 : Int32)]) (rest := []) ⟨hx, hb, hml, hown, hts⟩ (c_X12_fails l (cy := cy) (X := X) (D := D) S _ o1 h_o1 (2 : Int32) (hW)) (cwV 1 hts gX12_part_X12_fails rfl rfl rfl hd_X12_fails ⟨Nat.le_of_ble_eq_true rfl, Nat.le_of_ble_eq_true rfl⟩) ⟨fun a U g mk q => ⟨q.1, q.2.1, q.2.2.1.calling, NW.same (u := U) (U := U.calling g mk a) rfl q.2.2.2⟩, va_recv hK hP (q := (RX12, TX12, 34)) (ci := 16) (q0 := k8) rfl hk8, fun U hU hW => ⟨rfl, by rw [hU], wd_pre hP hK hD hU hW, hN.warm hW⟩⟩ rfl rfl hl.1 rfl (lv_room (Nat.le_of_ble_eq_true rfl)) dX12_part_34 ⟨(Nat.zero_le _), (Nat.zero_le _)⟩) hS (fun q _ h => hFc q h) hFc (fun r9 u t H1 locs ht hvm hw hB hz1 hk1 hS => ?_)
      obtain ⟨c10, w11⟩ := hw
      obtain ⟨hP, hD⟩ := wd_post hFc ht hB
      generalize H1 = H at hP hS ⊢
      obtain ⟨S12, rfl⟩ : ∃ z, z = u := ⟨_, rfl⟩
      have t13 : stp [(12, 15)] [] [] S S12 := t0.tr w11 (by decide) (fun _ q => absurd q List.not_mem_nil)
      have xe14 : ext S S12 := w11.x
      refine W.widen (k := 0) (n := 0) (Nat.le_of_ble_eq_true rfl) (Nat.le_of_ble_eq_true rfl) ?_
      exact W.iret (v := r9) hx hb hr (fun t ht hW9 => ⟨⟨r9, S12, rfl, t13, wd_end hP hK hD ht hW9.alike⟩, hS.F ht⟩) hS.2.2 dX12_part_37 hlocks
    · have c7i : 1 ≤ x2.toInt := nlt_v rfl rfl c7
      refine lv_aload_n hx hb dX12_part_19 rfl (lv_at hl 0 rfl) ?_
      refine lv_iload_n hx hb dX12_part_20 rfl (lv_at hl 1 rfl) ?_
      have hFc := free_all hD hS hA
      obtain ⟨k15, gk15, hk15⟩ := wGt (cy := cy) X S h_o1.1 h_o1.2.1
      refine va_callq (va_runV (As := [.int x1]) (rest := []) ⟨hx, hb, hml, hown, hts⟩ (c_X12_gearAt l (cy := cy) (X := X) (D := D) S _ o1 h_o1 x1 (hW) (by rw [f_of F4.1]; omega)) (cwV 1 hts gX12_part_X12_gearAt rfl rfl rfl hd_X12_gearAt ⟨Nat.le_of_ble_eq_true rfl, Nat.le_of_ble_eq_true rfl⟩) ⟨fun a U g mk q => ⟨q.1, q.2.1, q.2.2.1.calling, NW.same (u := U) (U := U.calling g mk a) rfl q.2.2.2⟩, va_recv hK hP (q := (RX12, TX12, 34)) (ci := 16) (q0 := k15) rfl hk15, fun U hU hW => ⟨rfl, by rw [hU], wd_pre hP hK hD hU hW, hN.warm hW⟩⟩ rfl rfl hl.1 rfl (lv_room (Nat.le_of_ble_eq_true rfl)) dX12_part_21 ⟨(Nat.zero_le _), (Nat.zero_le _)⟩) hS (fun q _ h => hFc q h) hFc (fun r16 u t H1 locs ht hvm hw hB hz1 hk1 hS => ?_)
      obtain ⟨r16, rfl, o17⟩ := hw
      obtain ⟨hP, hD⟩ := wd_post hFc ht hB
      generalize H1 = H at hP hS ⊢
      refine W.eq (g2 := F0 m 24 ls [.ref r16]) rfl ?_
      obtain ⟨k18, gk18, hk18⟩ := wGt (cy := cy) X S o17.1 o17.2.1
      have i19 := ((hW.at o17 List.not_mem_nil).to_10 o17.2.1).R1
      refine va_getN (D := D) (ci := 14) (v := .int (S.I r16 1)) (C := RX10) (T := TX10) (N := 23) hx hb hts (by decide +kernel) hown hK hP k18 hk18 rfl 1 (by decide) (va_Nw.use rfl (hN (.fieldLinkNest RX12 332 "HobhouseModel$Gear" "teeth" "I" "HobhouseModel") (by decide +kernel))) (fun _ h9 => h9) rfl dX12_part_24 ?_
      refine lv_iload_n hx hb dX12_part_27 rfl (lv_at hl 2 rfl) ?_
      refine lv_irem hx hb dX12_part_28 (nz_i (by omega)) ?_
      refine lv_if_eq (tgt := 38) hx hb dX12_part_29 (by decide) (fun c20 => ?_) (fun c20 => ?_)
      · have c20i : ((S.I r16 1) - (S.I r16 1) / x2 * x2).toInt = 0 := eq_v rfl rfl c20
        refine lv_aload_n hx hb dX12_part_38 rfl (lv_at hl 0 rfl) ?_
        refine lv_aload_n hx hb dX12_part_39 rfl (lv_at hl 0 rfl) ?_
        refine lv_iload_n hx hb dX12_part_40 rfl (lv_at hl 1 rfl) ?_
        have hFc := free_all hD hS hA
        obtain ⟨k21, gk21, hk21⟩ := wGt (cy := cy) X S h_o1.1 h_o1.2.1
        refine va_callq (va_runV (As := [.int x1]) (rest := [.ref o1]) ⟨hx, hb, hml, hown, hts⟩ (c_X12_gearAt l (cy := cy) (X := X) (D := D) S _ o1 h_o1 x1 (hW) (by rw [f_of F4.1]; omega)) (cwV 1 hts gX12_part_X12_gearAt rfl rfl rfl hd_X12_gearAt ⟨Nat.le_of_ble_eq_true rfl, Nat.le_of_ble_eq_true rfl⟩) ⟨fun a U g mk q => ⟨q.1, q.2.1, q.2.2.1.calling, NW.same (u := U) (U := U.calling g mk a) rfl q.2.2.2⟩, va_recv hK hP (q := (RX12, TX12, 34)) (ci := 16) (q0 := k21) rfl hk21, fun U hU hW => ⟨rfl, by rw [hU], wd_pre hP hK hD hU hW, hN.warm hW⟩⟩ rfl rfl hl.1 rfl (lv_room (Nat.le_of_ble_eq_true rfl)) dX12_part_41 ⟨(Nat.zero_le _), (Nat.zero_le _)⟩) hS (fun q _ h => hFc q h) hFc (fun r22 u t H1 locs ht hvm hw hB hz1 hk1 hS => ?_)
        obtain ⟨r22, rfl, o23⟩ := hw
        obtain ⟨hP, hD⟩ := wd_post hFc ht hB
        generalize H1 = H at hP hS ⊢
        refine W.eq (g2 := F0 m 44 ls [.ref r22, .ref o1]) rfl ?_
        refine lv_iload_n hx hb dX12_part_44 rfl (lv_at hl 2 rfl) ?_
        have hFc := free_all hD hS hA
        obtain ⟨k24, gk24, hk24⟩ := wGt (cy := cy) X S o23.1 o23.2.1
        refine va_calli (va_runV (As := [.int x2]) (rest := [.ref o1]) ⟨hx, hb, hml, hown, hts⟩ (c_X10_part l (cy := cy) (X := X) (D := D) S _ r22 o23 x2 (hW) ⟨by omega, by have h9 := rem0_le (by omega) (by omega) c20; omega⟩) (cwV 1 hts gX12_part_X10_part rfl rfl rfl hd_X10_part ⟨Nat.le_of_ble_eq_true rfl, Nat.le_of_ble_eq_true rfl⟩) ⟨fun a U g mk q => ⟨q.1, q.2.1, q.2.2.1.calling, NW.same (u := U) (U := U.calling g mk a) rfl q.2.2.2⟩, va_recv hK hP (q := (RX10, TX10, 23)) (ci := 14) (q0 := k24) rfl hk24, fun U hU hW => ⟨rfl, by rw [hU], wd_pre hP hK hD hU hW, hN.warm hW⟩⟩ rfl rfl hl.1 rfl (lv_room (Nat.le_of_ble_eq_true rfl)) dX12_part_45 ⟨(Nat.zero_le _), (Nat.zero_le _)⟩) hS (fun q _ h => hFc q h) hFc (fun r25 u t H1 locs ht hvm hw hB hz1 hk1 hS => ?_)
        clear hw
        obtain ⟨hP, hD⟩ := wd_post hFc ht hB
        generalize H1 = H at hP hS ⊢
        have hFc := free_all hD hS hA
        obtain ⟨k26, gk26, hk26⟩ := wGt (cy := cy) X S h_o1.1 h_o1.2.1
        refine va_calli (va_runV (As := [.int r25]) (rest := []) ⟨hx, hb, hml, hown, hts⟩ (c_X12_answer l (cy := cy) (X := X) (D := D) S _ o1 h_o1 r25 (hW)) (cwV 1 hts gX12_part_X12_answer rfl rfl rfl hd_X12_answer ⟨Nat.le_of_ble_eq_true rfl, Nat.le_of_ble_eq_true rfl⟩) ⟨fun a U g mk q => ⟨q.1, q.2.1, q.2.2.1.calling, NW.same (u := U) (U := U.calling g mk a) rfl q.2.2.2⟩, va_recv hK hP (q := (RX12, TX12, 34)) (ci := 16) (q0 := k26) rfl hk26, fun U hU hW => ⟨rfl, by rw [hU], wd_pre hP hK hD hU hW, hN.warm hW⟩⟩ rfl rfl hl.1 rfl (lv_room (Nat.le_of_ble_eq_true rfl)) dX12_part_48 ⟨(Nat.zero_le _), (Nat.zero_le _)⟩) hS (fun q _ h => hFc q h) hFc (fun r27 u t H1 locs ht hvm hw hB hz1 hk1 hS => ?_)
        obtain ⟨c28, w29⟩ := hw
        obtain ⟨hP, hD⟩ := wd_post hFc ht hB
        generalize H1 = H at hP hS ⊢
        obtain ⟨S30, rfl⟩ : ∃ z, z = u := ⟨_, rfl⟩
        have t31 : stp [(12, 15)] [] [] S S30 := t0.tr w29 (by decide) (fun _ q => absurd q List.not_mem_nil)
        have xe32 : ext S S30 := w29.x
        refine W.widen (k := 0) (n := 0) (Nat.le_of_ble_eq_true rfl) (Nat.le_of_ble_eq_true rfl) ?_
        exact W.iret (v := r27) hx hb hr (fun t ht hW9 => ⟨⟨r27, S30, rfl, t31, wd_end hP hK hD ht hW9.alike⟩, hS.F ht⟩) hS.2.2 dX12_part_51 hlocks
      · have c20i : ¬ ((S.I r16 1) - (S.I r16 1) / x2 * x2).toInt = 0 := neq_v rfl rfl c20
        refine lv_aload_n hx hb dX12_part_32 rfl (lv_at hl 0 rfl) ?_
        refine lv_iconst (v := 2) hx hb dX12_part_33 (by decide) ?_
        have l32_2 : (2 : Int32).toInt = 2 := rfl
        have hFc := free_all hD hS hA
        obtain ⟨k33, gk33, hk33⟩ := wGt (cy := cy) X S h_o1.1 h_o1.2.1
        refine va_calli (va_runV (As := [.int (2 : Int32)]) (rest := []) ⟨hx, hb, hml, hown, hts⟩ (c_X12_fails l (cy := cy) (X := X) (D := D) S _ o1 h_o1 (2 : Int32) (hW)) (cwV 1 hts gX12_part_X12_fails rfl rfl rfl hd_X12_fails ⟨Nat.le_of_ble_eq_true rfl, Nat.le_of_ble_eq_true rfl⟩) ⟨fun a U g mk q => ⟨q.1, q.2.1, q.2.2.1.calling, NW.same (u := U) (U := U.calling g mk a) rfl q.2.2.2⟩, va_recv hK hP (q := (RX12, TX12, 34)) (ci := 16) (q0 := k33) rfl hk33, fun U hU hW => ⟨rfl, by rw [hU], wd_pre hP hK hD hU hW, hN.warm hW⟩⟩ rfl rfl hl.1 rfl (lv_room (Nat.le_of_ble_eq_true rfl)) dX12_part_34 ⟨(Nat.zero_le _), (Nat.zero_le _)⟩) hS (fun q _ h => hFc q h) hFc (fun r34 u t H1 locs ht hvm hw hB hz1 hk1 hS => ?_)
        obtain ⟨c35, w36⟩ := hw
        obtain ⟨hP, hD⟩ := wd_post hFc ht hB
        generalize H1 = H at hP hS ⊢
        obtain ⟨S37, rfl⟩ : ∃ z, z = u := ⟨_, rfl⟩
        have t38 : stp [(12, 15)] [] [] S S37 := t0.tr w36 (by decide) (fun _ q => absurd q List.not_mem_nil)
        have xe39 : ext S S37 := w36.x
        refine W.widen (k := 0) (n := 0) (Nat.le_of_ble_eq_true rfl) (Nat.le_of_ble_eq_true rfl) ?_
        exact W.iret (v := r34) hx hb hr (fun t ht hW9 => ⟨⟨r34, S37, rfl, t38, wd_end hP hK hD ht hW9.alike⟩, hS.F ht⟩) hS.2.2 dX12_part_37 hlocks
  · have c6i : (f_X12_isGear S o1 x1).toInt = 0 := eq_v rfl rfl c6
    refine lv_aload_n hx hb dX12_part_8 rfl (lv_at hl 0 rfl) ?_
    refine lv_iconst (v := 1) hx hb dX12_part_9 (by decide) ?_
    have l32_1 : (1 : Int32).toInt = 1 := rfl
    have hFc := free_all hD hS hA
    obtain ⟨k40, gk40, hk40⟩ := wGt (cy := cy) X S h_o1.1 h_o1.2.1
    refine va_calli (va_runV (As := [.int (1 : Int32)]) (rest := []) ⟨hx, hb, hml, hown, hts⟩ (c_X12_fails l (cy := cy) (X := X) (D := D) S _ o1 h_o1 (1 : Int32) (hW)) (cwV 1 hts gX12_part_X12_fails rfl rfl rfl hd_X12_fails ⟨Nat.le_of_ble_eq_true rfl, Nat.le_of_ble_eq_true rfl⟩) ⟨fun a U g mk q => ⟨q.1, q.2.1, q.2.2.1.calling, NW.same (u := U) (U := U.calling g mk a) rfl q.2.2.2⟩, va_recv hK hP (q := (RX12, TX12, 34)) (ci := 16) (q0 := k40) rfl hk40, fun U hU hW => ⟨rfl, by rw [hU], wd_pre hP hK hD hU hW, hN.warm hW⟩⟩ rfl rfl hl.1 rfl (lv_room (Nat.le_of_ble_eq_true rfl)) dX12_part_10 ⟨(Nat.zero_le _), (Nat.zero_le _)⟩) hS (fun q _ h => hFc q h) hFc (fun r41 u t H1 locs ht hvm hw hB hz1 hk1 hS => ?_)
    obtain ⟨c42, w43⟩ := hw
    obtain ⟨hP, hD⟩ := wd_post hFc ht hB
    generalize H1 = H at hP hS ⊢
    obtain ⟨S44, rfl⟩ : ∃ z, z = u := ⟨_, rfl⟩
    have t45 : stp [(12, 15)] [] [] S S44 := t0.tr w43 (by decide) (fun _ q => absurd q List.not_mem_nil)
    have xe46 : ext S S44 := w43.x
    refine W.widen (k := 0) (n := 0) (Nat.le_of_ble_eq_true rfl) (Nat.le_of_ble_eq_true rfl) ?_
    exact W.iret (v := r41) hx hb hr (fun t ht hW9 => ⟨⟨r41, S44, rfl, t45, wd_end hP hK hD ht hW9.alike⟩, hS.F ht⟩) hS.2.2 dX12_part_13 hlocks
theorem hd_X12_cause : yX12_cause.cls = RX12 ∧ yX12_cause.cls ≠ "java/lang/invoke/MethodHandle" ∧ yX12_cause.cls ≠ "java/lang/invoke/VarHandle" ∧ (parseMethodDescriptor yX12_cause.desc).map (fun d => d.parameters.length) = some 1 := by decide +kernel
set_option maxHeartbeats 4000000 in
set_option maxRecDepth 100000 in
theorem c_X12_cause (l : Launch) {D : va_G} {cy : Nat → ClassId} {X : va_W} (S : wPS) (sz : Nat) (o1 : Nat) (h_o1 : isA S o1 12) (x1 : Int32) (hW : wtB S [])  : Met l yX12_cause wsX12_cause ({ frames := 17, cells := 0, slots := 0, locals := 357 }) (va_Pc [.ref o1, .int x1] (fun U => U.heap.size = sz ∧ WD D cy X (fun _ => True) S U ∧ NW U)) (va_Qi (fun r (u : wPS) => stp [(12, 15)] [] [] S u ∧ narrow .char (.int r) = .int r) (fun u t => WD D cy X (va_A (X ++ PL cy S) sz) u t) (va_A (X ++ PL cy S) sz)) 0 0 (va_A (X ++ PL cy S) sz) := by
  refine Met.ofW (cc := cX12_cause) (maxL := 7) (ret := (some .char)) (by decide) rfl ?_
  intro p e s m args below meth c s₁ B hml hv
  obtain ⟨rfl, hsz, ⟨hP, hK, hD0⟩, hN⟩ := hv
  have hx := B.exec
  have hb := B.bytes
  have hr := B.returns
  have hts := atoms_spec (ws := wsX12_cause) B.pre
  have hown : s.vm.findClass RX12 = some m.cls := findClass_of_methodNamed (x := yX12_cause) B.named
  have hlocks := B.notSynchronized
  subst hsz
  have hD := hD0.self (sz := s.heap.size)
  generalize hAe : va_A (X ++ PL cy S) s.heap.size = A at hD ⊢
  have hA : ∀ q : Nat, s.heap.size ≤ q → A q := fun q h => by rw [← hAe]; exact Or.inr h
  have hS : va_S A s.heap s.heap [] := va_S.rf
  have hl := lv_entry ([.ref o1, .int x1]) (n := 7) (Nat.le_of_ble_eq_true rfl)
  rw [lg_entry_eq]
  generalize (lg_sl ([.ref o1, .int x1]) ++ List.replicate (7 - (lg_sl ([.ref o1, .int x1])).length) Slot.unset).toArray = ls at hl ⊢
  have hl : lv_has ls 7 [(0, .ref o1), (1, .int x1)] := hl
  have t0 : stp [(12, 15)] [] [] S S := stp.rf hW
  have F1 := ((hW.at h_o1 List.not_mem_nil).to_12 h_o1.2.1).F0
  refine lv_aload_n hx hb dX12_cause_0 rfl (lv_at hl 0 rfl) ?_
  refine lv_aload_n hx hb dX12_cause_1 rfl (lv_at hl 0 rfl) ?_
  refine lv_iload_n hx hb dX12_cause_2 rfl (lv_at hl 1 rfl) ?_
  have hFc := free_all hD hS hA
  obtain ⟨k2, gk2, hk2⟩ := wGt (cy := cy) X S h_o1.1 h_o1.2.1
  refine va_calli (va_runV (As := [.int x1]) (rest := [.ref o1]) ⟨hx, hb, hml, hown, hts⟩ (c_X12_isGear l (cy := cy) (X := X) (D := D) S _ o1 h_o1 x1 (hW)) (cwV 1 hts gX12_cause_X12_isGear rfl rfl rfl hd_X12_isGear ⟨Nat.le_of_ble_eq_true rfl, Nat.le_of_ble_eq_true rfl⟩) ⟨fun a U g mk q => ⟨q.1, q.2.1, q.2.2.1.calling, NW.same (u := U) (U := U.calling g mk a) rfl q.2.2.2⟩, va_recv hK hP (q := (RX12, TX12, 34)) (ci := 16) (q0 := k2) rfl hk2, fun U hU hW => ⟨rfl, by rw [hU], wd_pre hP hK hD hU hW, hN.warm hW⟩⟩ rfl rfl hl.1 rfl (lv_room (Nat.le_of_ble_eq_true rfl)) dX12_cause_3 ⟨(Nat.zero_le _), (Nat.zero_le _)⟩) hS (fun q _ h => hFc q h) hFc (fun r3 u t H1 locs ht hvm hw hB hz1 hk1 hS => ?_)
  have c4 := hw
  obtain ⟨hP, hD⟩ := wd_post hFc ht hB
  generalize H1 = H at hP hS ⊢
  obtain rfl : r3 = f_X12_isGear S o1 x1 := c4
  have i5 : (f_X12_isGear S o1 x1).toInt = 0 ∨ (0 ≤ x1.toInt ∧ x1.toInt < (S.I (S.f o1 0) 2).toInt) := by have h9 := ig_rng x1 ((hW.at h_o1 List.not_mem_nil).to_12 h_o1.2.1) hW; rw [f_of F1.1] at h9; exact h9
  refine lv_if_eq (tgt := 13) hx hb dX12_cause_6 (by decide) (fun c6 => ?_) (fun c6 => ?_)
  · have c6i : (f_X12_isGear S o1 x1).toInt = 0 := eq_v rfl rfl c6
    refine lv_iconst (v := 1) hx hb dX12_cause_13 (by decide) ?_
    obtain ⟨k7, gk7, hk7⟩ := wGt (cy := cy) X S h_o1.1 h_o1.2.1
    refine va_put (D := D) (ci := 16) (v := .int (1 : Int32)) (ty := .int) (C := RX12) (T := TX12) (N := 34) hx hb hts (by decide +kernel) tyX12 tyX12_ok nmX12 hown hK hP hD hS k7 hk7 rfl 15 (by decide) (hts (.fieldLink RX12 94 "HobhouseModel" "thrown" "I") (by decide +kernel)) (fun _ h9 => h9) rfl (by decide +kernel) (rfl) (rfl) (Nat.le_of_ble_eq_true rfl) dX12_cause_14 (fun H locs hP2 hD2 hS => ?_)
    have e9 := wPuI (cy := cy) (j := 15) (v := (1 : Int32)) hD h_o1.1 h_o1.2.1 gk7 rfl
    obtain ⟨S8, hS8⟩ : ∃ z, S.sI o1 15 (1 : Int32) = z := ⟨_, rfl⟩
    have hP : va_P D vwCl (X ++ PL cy S8) H := by rw [← hS8, ← e9]; exact hP2
    have hD : va_D A (X ++ PL cy S8) := by rw [← hS8, ← e9]; exact hD2
    have xe9 : ext S S8 := by rw [← hS8]; exact ext.sI _ _ _ _
    have t10 : stp [(12, 15)] [] [] S S8 := by rw [← hS8]; exact t0.I 15 (1 : Int32) h_o1 (by decide) (trivial) (Or.inl (by decide))
    have k11 : (S8.I (S.f o1 0) 2).toInt = (S.I (S.f o1 0) 2).toInt := by rw [← hS8]; exact congrArg Int32.toInt (sI_I (by rintro ⟨e1, e2⟩; exact absurd e2 (by decide)))
    have k12 : (S8.I o1 15).toInt = (1 : Int32).toInt := by rw [← hS8, sI_eq]
    refine lv_aload_n hx hb dX12_cause_17 rfl (lv_at hl 0 rfl) ?_
    have l0 : (0 : Int32).toInt = 0 := rfl
    have l1 : (1 : Int32).toInt = 1 := rfl
    obtain ⟨k13, gk13, hk13⟩ := wGt (cy := cy) X S8 (xe9.A h_o1).1 (xe9.A h_o1).2.1
    refine va_get (D := D) (ci := 16) (v := .int (S8.I o1 15)) (C := RX12) (T := TX12) (N := 34) hx hb hts (by decide +kernel) hown hK hP k13 hk13 rfl 15 (by decide) (hts (.fieldLink RX12 94 "HobhouseModel" "thrown" "I") (by decide +kernel)) (fun _ h9 => h9) rfl dX12_cause_18 ?_
    refine lv_if_le (tgt := 26) hx hb dX12_cause_21 (by decide) (fun c14 => ?_) (fun c14 => ?_)
    · have c14i : (S8.I o1 15).toInt ≤ 0 := le_v rfl rfl c14
      refine lv_aload_n hx hb dX12_cause_26 rfl (lv_at hl 0 rfl) ?_
      refine lv_iload_n hx hb dX12_cause_27 rfl (lv_at hl 1 rfl) ?_
      have hFc := free_all hD hS hA
      obtain ⟨k15, gk15, hk15⟩ := wGt (cy := cy) X S8 (xe9.A h_o1).1 (xe9.A h_o1).2.1
      refine va_callq (va_runV (As := [.int x1]) (rest := []) ⟨hx, hb, hml, hown, hts⟩ (c_X12_gearAt l (cy := cy) (X := X) (D := D) S8 _ o1 (xe9.A h_o1) x1 (t10.w) (by rw [f_of (xe9.F h_o1 (by decide) F1.1)]; omega)) (cwV 1 hts gX12_cause_X12_gearAt rfl rfl rfl hd_X12_gearAt ⟨Nat.le_of_ble_eq_true rfl, Nat.le_of_ble_eq_true rfl⟩) ⟨fun a U g mk q => ⟨q.1, q.2.1, q.2.2.1.calling, NW.same (u := U) (U := U.calling g mk a) rfl q.2.2.2⟩, va_recv hK hP (q := (RX12, TX12, 34)) (ci := 16) (q0 := k15) rfl hk15, fun U hU hW => ⟨rfl, by rw [hU], wd_pre hP hK hD hU hW, hN.warm hW⟩⟩ rfl rfl hl.1 rfl (lv_room (Nat.le_of_ble_eq_true rfl)) dX12_cause_28 ⟨(Nat.zero_le _), (Nat.zero_le _)⟩) hS (fun q _ h => hFc q h) hFc (fun r16 u t H1 locs ht hvm hw hB hz1 hk1 hS => ?_)
      obtain ⟨r16, rfl, o17⟩ := hw
      obtain ⟨hP, hD⟩ := wd_post hFc ht hB
      generalize H1 = H at hP hS ⊢
      refine W.eq (g2 := F0 m 31 ls [.ref r16]) rfl ?_
      refine lv_astore_n (lv' := [(2, .ref r16), (0, .ref o1), (1, .int x1)]) hx hb dX12_cause_31 rfl hl (by decide) rfl (fun ls hl => ?_)
      refine lv_aload_n hx hb dX12_cause_32 rfl (lv_at hl 0 rfl) ?_
      refine lv_aload_n hx hb dX12_cause_33 rfl (lv_at hl 0 rfl) ?_
      obtain ⟨k18, gk18, hk18⟩ := wGt (cy := cy) X S8 o17.1 o17.2.1
      have i19 := ((t10.w.at o17 List.not_mem_nil).to_10 o17.2.1).R1
      refine va_getN (D := D) (ci := 14) (v := .int (S8.I r16 1)) (C := RX10) (T := TX10) (N := 23) hx hb hts (by decide +kernel) hown hK hP k18 hk18 rfl 1 (by decide) (va_Nw.use rfl (hN (.fieldLinkNest RX12 332 "HobhouseModel$Gear" "teeth" "I" "HobhouseModel") (by decide +kernel))) (fun _ h9 => h9) rfl dX12_cause_34 ?_
      refine lv_aload_n hx hb dX12_cause_37 rfl (lv_at hl 1 rfl) ?_
      obtain ⟨k20, gk20, hk20⟩ := wGt (cy := cy) X S8 (xe9.A h_o1).1 (xe9.A h_o1).2.1
      have i21 := ((t10.w.at (xe9.A h_o1) List.not_mem_nil).to_12 (xe9.A h_o1).2.1).R18
      refine va_get (D := D) (ci := 16) (v := .int (S8.I o1 18)) (C := RX12) (T := TX12) (N := 34) hx hb hts (by decide +kernel) hown hK hP k20 hk20 rfl 18 (by decide) (hts (.fieldLink RX12 76 "HobhouseModel" "wheelTeeth" "I") (by decide +kernel)) (fun _ h9 => h9) rfl dX12_cause_38 ?_
      have hFc := free_all hD hS hA
      refine va_calli (va_runS (As := [.int (S8.I r16 1), .int (S8.I o1 18)]) (rest := [.ref r16]) ⟨hx, hb, hml, hown, hts⟩ (c_X12_divisor_e8 l (cy := cy) (X := X) (D := D) S8 _ (S8.I r16 1) (S8.I o1 18) (by omega) (by omega) (by omega) (by omega)) (cwS 2 hts gX12_cause_X12_divisor rfl rfl rfl hd_X12_divisor ⟨Nat.le_of_ble_eq_true rfl, Nat.le_of_ble_eq_true rfl⟩) ⟨fun a U g mk q => ⟨q.1, q.2.1, q.2.2.1.calling, NW.same (u := U) (U := U.calling g mk a) rfl q.2.2.2⟩, fun U hU hW => ⟨rfl, by rw [hU], wd_pre hP hK hD hU hW, hN.warm hW⟩⟩ rfl rfl hl.1 rfl (lv_room (Nat.le_of_ble_eq_true rfl)) dX12_cause_41 ⟨(Nat.zero_le _), (Nat.zero_le _)⟩) hS (fun q _ h => hFc q h) hFc (fun r22 u t H1 locs ht hvm hw hB hz1 hk1 hS => ?_)
      have y23 := hw
      obtain ⟨hP, hD⟩ := wd_post hFc ht hB
      generalize H1 = H at hP hS ⊢
      have hFc := free_all hD hS hA
      obtain ⟨k24, gk24, hk24⟩ := wGt (cy := cy) X S8 o17.1 o17.2.1
      refine va_calli (va_runV (As := [.int r22]) (rest := []) ⟨hx, hb, hml, hown, hts⟩ (c_X10_part l (cy := cy) (X := X) (D := D) S8 _ r16 o17 r22 (t10.w) (by omega)) (cwV 1 hts gX12_cause_X10_part rfl rfl rfl hd_X10_part ⟨Nat.le_of_ble_eq_true rfl, Nat.le_of_ble_eq_true rfl⟩) ⟨fun a U g mk q => ⟨q.1, q.2.1, q.2.2.1.calling, NW.same (u := U) (U := U.calling g mk a) rfl q.2.2.2⟩, va_recv hK hP (q := (RX10, TX10, 23)) (ci := 14) (q0 := k24) rfl hk24, fun U hU hW => ⟨rfl, by rw [hU], wd_pre hP hK hD hU hW, hN.warm hW⟩⟩ rfl rfl hl.1 rfl (lv_room (Nat.le_of_ble_eq_true rfl)) dX12_cause_44 ⟨(Nat.zero_le _), (Nat.zero_le _)⟩) hS (fun q _ h => hFc q h) hFc (fun r25 u t H1 locs ht hvm hw hB hz1 hk1 hS => ?_)
      clear hw
      obtain ⟨hP, hD⟩ := wd_post hFc ht hB
      generalize H1 = H at hP hS ⊢
      refine lv_istore_n (lv' := [(3, .int r25), (2, .ref r16), (0, .ref o1), (1, .int x1)]) hx hb dX12_cause_47 rfl hl (by decide) rfl (fun ls hl => ?_)
      refine lv_aload_n hx hb dX12_cause_48 rfl (lv_at hl 1 rfl) ?_
      refine lv_aload_n hx hb dX12_cause_49 rfl (lv_at hl 1 rfl) ?_
      obtain ⟨k26, gk26, hk26⟩ := wGt (cy := cy) X S8 o17.1 o17.2.1
      refine va_getN (D := D) (ci := 14) (v := .int (S8.I r16 11)) (C := RX10) (T := TX10) (N := 23) hx hb hts (by decide +kernel) hown hK hP k26 hk26 rfl 11 (by decide) (va_Nw.use rfl (hN (.fieldLinkNest RX12 365 "HobhouseModel$Gear" "starts" "I" "HobhouseModel") (by decide +kernel))) (fun _ h9 => h9) rfl dX12_cause_50 ?_
      have hFc := free_all hD hS hA
      obtain ⟨k27, gk27, hk27⟩ := wGt (cy := cy) X S8 o17.1 o17.2.1
      refine va_calli (va_runV (As := [.int (S8.I r16 11)]) (rest := []) ⟨hx, hb, hml, hown, hts⟩ (c_X10_partOrNone l (cy := cy) (X := X) (D := D) S8 _ r16 o17 (S8.I r16 11) (t10.w)) (cwV 1 hts gX12_cause_X10_partOrNone rfl rfl rfl hd_X10_partOrNone ⟨Nat.le_of_ble_eq_true rfl, Nat.le_of_ble_eq_true rfl⟩) ⟨fun a U g mk q => ⟨q.1, q.2.1, q.2.2.1.calling, NW.same (u := U) (U := U.calling g mk a) rfl q.2.2.2⟩, va_recv hK hP (q := (RX10, TX10, 23)) (ci := 14) (q0 := k27) rfl hk27, fun U hU hW => ⟨rfl, by rw [hU], wd_pre hP hK hD hU hW, hN.warm hW⟩⟩ rfl rfl hl.1 rfl (lv_room (Nat.le_of_ble_eq_true rfl)) dX12_cause_53 ⟨(Nat.zero_le _), (Nat.zero_le _)⟩) hS (fun q _ h => hFc q h) hFc (fun r28 u t H1 locs ht hvm hw hB hz1 hk1 hS => ?_)
      clear hw
      obtain ⟨hP, hD⟩ := wd_post hFc ht hB
      generalize H1 = H at hP hS ⊢
      refine lv_istore (lv' := [(4, .int r28), (3, .int r25), (2, .ref r16), (0, .ref o1), (1, .int x1)]) hx hb dX12_cause_56 hl (by decide) rfl (fun ls hl => ?_)
      refine lv_aload_n hx hb dX12_cause_58 rfl (lv_at hl 2 rfl) ?_
      have hFc := free_all hD hS hA
      obtain ⟨k29, gk29, hk29⟩ := wGt (cy := cy) X S8 o17.1 o17.2.1
      refine va_calli (va_runV (As := []) (rest := []) ⟨hx, hb, hml, hown, hts⟩ (c_X10_total l (cy := cy) (X := X) (D := D) S8 _ r16 o17 (t10.w)) (cwV 0 hts gX12_cause_X10_total rfl rfl rfl hd_X10_total ⟨Nat.le_of_ble_eq_true rfl, Nat.le_of_ble_eq_true rfl⟩) ⟨fun a U g mk q => ⟨q.1, q.2.1, q.2.2.1.calling, NW.same (u := U) (U := U.calling g mk a) rfl q.2.2.2⟩, va_recv hK hP (q := (RX10, TX10, 23)) (ci := 14) (q0 := k29) rfl hk29, fun U hU hW => ⟨rfl, by rw [hU], wd_pre hP hK hD hU hW, hN.warm hW⟩⟩ rfl rfl hl.1 rfl (lv_room (Nat.le_of_ble_eq_true rfl)) dX12_cause_59 ⟨(Nat.zero_le _), (Nat.zero_le _)⟩) hS (fun q _ h => hFc q h) hFc (fun r30 u t H1 locs ht hvm hw hB hz1 hk1 hS => ?_)
      clear hw
      obtain ⟨hP, hD⟩ := wd_post hFc ht hB
      generalize H1 = H at hP hS ⊢
      refine lv_istore (lv' := [(5, .int r30), (4, .int r28), (3, .int r25), (2, .ref r16), (0, .ref o1), (1, .int x1)]) hx hb dX12_cause_62 hl (by decide) rfl (fun ls hl => ?_)
      refine lv_iload_n hx hb dX12_cause_64 rfl (lv_at hl 2 rfl) ?_
      refine lv_iload hx hb dX12_cause_65 (lv_at hl 1 rfl) ?_
      refine lv_iload hx hb dX12_cause_67 (lv_at hl 0 rfl) ?_
      refine va_mmax hx hb (hml.trans hl.1.symm) hown (hts (.methodLink RX12 418 Lib.Math.max.name) (by decide +kernel)) (hts (.static Lib.Math.max.name) (by decide +kernel)) (hts (.initialized "java/lang/Math") (by decide +kernel)) (hts (.code Lib.Math.max.name Lib.Math.max.code 2 (some .int)) (by decide +kernel)) (Nat.le_of_ble_eq_true rfl) (Nat.le_of_ble_eq_true rfl) (Nat.zero_le _) (Nat.zero_le _) dX12_cause_69 ?_
      refine va_mmax hx hb (hml.trans hl.1.symm) hown (hts (.methodLink RX12 418 Lib.Math.max.name) (by decide +kernel)) (hts (.static Lib.Math.max.name) (by decide +kernel)) (hts (.initialized "java/lang/Math") (by decide +kernel)) (hts (.code Lib.Math.max.name Lib.Math.max.code 2 (some .int)) (by decide +kernel)) (Nat.le_of_ble_eq_true rfl) (Nat.le_of_ble_eq_true rfl) (Nat.zero_le _) (Nat.zero_le _) dX12_cause_72 ?_
      refine lv_istore (lv' := [(6, .int (if r25 < (if r28 < r30 then r30 else r28) then (if r28 < r30 then r30 else r28) else r25)), (5, .int r30), (4, .int r28), (3, .int r25), (2, .ref r16), (0, .ref o1), (1, .int x1)]) hx hb dX12_cause_75 hl (by decide) rfl (fun ls hl => ?_)
      refine lv_iload hx hb dX12_cause_77 (lv_at hl 0 rfl) ?_
      refine lv_if_ne (tgt := 87) hx hb dX12_cause_79 (by decide) (fun c31 => ?_) (fun c31 => ?_)
      · have c31i : ¬ (if r25 < (if r28 < r30 then r30 else r28) then (if r28 < r30 then r30 else r28) else r25).toInt = 0 := neq_v rfl rfl c31
        refine lv_iload_n hx hb dX12_cause_87 rfl (lv_at hl 3 rfl) ?_
        refine lv_iload hx hb dX12_cause_88 (lv_at hl 0 rfl) ?_
        refine lv_icmp_ne (tgt := 98) hx hb dX12_cause_90 (by decide) (fun c32 => ?_) (fun c32 => ?_)
        · have c32i : ¬ r25.toInt = (if r25 < (if r28 < r30 then r30 else r28) then (if r28 < r30 then r30 else r28) else r25).toInt := neq_v rfl rfl c32
          refine lv_iload hx hb dX12_cause_98 (lv_at hl 2 rfl) ?_
          refine lv_iload hx hb dX12_cause_100 (lv_at hl 0 rfl) ?_
          refine lv_icmp_ne (tgt := 110) hx hb dX12_cause_102 (by decide) (fun c33 => ?_) (fun c33 => ?_)
          · have c33i : ¬ r28.toInt = (if r25 < (if r28 < r30 then r30 else r28) then (if r28 < r30 then r30 else r28) else r25).toInt := neq_v rfl rfl c33
            refine lv_bipush (v := 115) hx hb dX12_cause_110 (by decide +kernel) ?_
            refine W.widen (k := 0) (n := 0) (Nat.le_of_ble_eq_true rfl) (Nat.le_of_ble_eq_true rfl) ?_
            exact W.zret (v := (115 : Int32)) hx hb hr (by rfl) (fun t ht hW9 => ⟨⟨(115 : Int32), S8, rfl, ⟨t10, (by rfl)⟩, wd_end hP hK hD ht hW9.alike⟩, hS.F ht⟩) hS.2.2 dX12_cause_112 hlocks
          · have c33i : r28.toInt = (if r25 < (if r28 < r30 then r30 else r28) then (if r28 < r30 then r30 else r28) else r25).toInt := eq_v rfl rfl c33
            refine lv_bipush (v := 116) hx hb dX12_cause_105 (by decide +kernel) ?_
            refine lv_goto (tgt := 112) hx hb dX12_cause_107 (by decide) ?_
            refine W.widen (k := 0) (n := 0) (Nat.le_of_ble_eq_true rfl) (Nat.le_of_ble_eq_true rfl) ?_
            exact W.zret (v := (116 : Int32)) hx hb hr (by rfl) (fun t ht hW9 => ⟨⟨(116 : Int32), S8, rfl, ⟨t10, (by rfl)⟩, wd_end hP hK hD ht hW9.alike⟩, hS.F ht⟩) hS.2.2 dX12_cause_112 hlocks
        · have c32i : r25.toInt = (if r25 < (if r28 < r30 then r30 else r28) then (if r28 < r30 then r30 else r28) else r25).toInt := eq_v rfl rfl c32
          refine lv_bipush (v := 109) hx hb dX12_cause_93 (by decide +kernel) ?_
          refine lv_goto (tgt := 112) hx hb dX12_cause_95 (by decide) ?_
          refine W.widen (k := 0) (n := 0) (Nat.le_of_ble_eq_true rfl) (Nat.le_of_ble_eq_true rfl) ?_
          exact W.zret (v := (109 : Int32)) hx hb hr (by rfl) (fun t ht hW9 => ⟨⟨(109 : Int32), S8, rfl, ⟨t10, (by rfl)⟩, wd_end hP hK hD ht hW9.alike⟩, hS.F ht⟩) hS.2.2 dX12_cause_112 hlocks
      · have c31i : (if r25 < (if r28 < r30 then r30 else r28) then (if r28 < r30 then r30 else r28) else r25).toInt = 0 := eq_v rfl rfl c31
        refine lv_bipush (v := 110) hx hb dX12_cause_82 (by decide +kernel) ?_
        refine lv_goto (tgt := 112) hx hb dX12_cause_84 (by decide) ?_
        refine W.widen (k := 0) (n := 0) (Nat.le_of_ble_eq_true rfl) (Nat.le_of_ble_eq_true rfl) ?_
        exact W.zret (v := (110 : Int32)) hx hb hr (by rfl) (fun t ht hW9 => ⟨⟨(110 : Int32), S8, rfl, ⟨t10, (by rfl)⟩, wd_end hP hK hD ht hW9.alike⟩, hS.F ht⟩) hS.2.2 dX12_cause_112 hlocks
    · have c14i : 0 < (S8.I o1 15).toInt := nle_v rfl rfl c14
      refine lv_iconst (v := 0) hx hb dX12_cause_24 (by decide) ?_
      refine W.widen (k := 0) (n := 0) (Nat.le_of_ble_eq_true rfl) (Nat.le_of_ble_eq_true rfl) ?_
      exact W.zret (v := (0 : Int32)) hx hb hr (by rfl) (fun t ht hW9 => ⟨⟨(0 : Int32), S8, rfl, ⟨t10, (by rfl)⟩, wd_end hP hK hD ht hW9.alike⟩, hS.F ht⟩) hS.2.2 dX12_cause_25 hlocks
  · have c6i : ¬ (f_X12_isGear S o1 x1).toInt = 0 := neq_v rfl rfl c6
    refine lv_iconst (v := 0) hx hb dX12_cause_9 (by decide) ?_
    refine lv_goto (tgt := 14) hx hb dX12_cause_10 (by decide) ?_
    obtain ⟨k34, gk34, hk34⟩ := wGt (cy := cy) X S h_o1.1 h_o1.2.1
    refine va_put (D := D) (ci := 16) (v := .int (0 : Int32)) (ty := .int) (C := RX12) (T := TX12) (N := 34) hx hb hts (by decide +kernel) tyX12 tyX12_ok nmX12 hown hK hP hD hS k34 hk34 rfl 15 (by decide) (hts (.fieldLink RX12 94 "HobhouseModel" "thrown" "I") (by decide +kernel)) (fun _ h9 => h9) rfl (by decide +kernel) (rfl) (rfl) (Nat.le_of_ble_eq_true rfl) dX12_cause_14 (fun H locs hP2 hD2 hS => ?_)
    have e9 := wPuI (cy := cy) (j := 15) (v := (0 : Int32)) hD h_o1.1 h_o1.2.1 gk34 rfl
    obtain ⟨S35, hS35⟩ : ∃ z, S.sI o1 15 (0 : Int32) = z := ⟨_, rfl⟩
    have hP : va_P D vwCl (X ++ PL cy S35) H := by rw [← hS35, ← e9]; exact hP2
    have hD : va_D A (X ++ PL cy S35) := by rw [← hS35, ← e9]; exact hD2
    have xe36 : ext S S35 := by rw [← hS35]; exact ext.sI _ _ _ _
    have t37 : stp [(12, 15)] [] [] S S35 := by rw [← hS35]; exact t0.I 15 (0 : Int32) h_o1 (by decide) (trivial) (Or.inl (by decide))
    have k38 : (S35.I (S.f o1 0) 2).toInt = (S.I (S.f o1 0) 2).toInt := by rw [← hS35]; exact congrArg Int32.toInt (sI_I (by rintro ⟨e1, e2⟩; exact absurd e2 (by decide)))
    have k39 : (S35.I o1 15).toInt = (0 : Int32).toInt := by rw [← hS35, sI_eq]
    refine lv_aload_n hx hb dX12_cause_17 rfl (lv_at hl 0 rfl) ?_
    have l0 : (0 : Int32).toInt = 0 := rfl
    have l1 : (1 : Int32).toInt = 1 := rfl
    obtain ⟨k40, gk40, hk40⟩ := wGt (cy := cy) X S35 (xe36.A h_o1).1 (xe36.A h_o1).2.1
    refine va_get (D := D) (ci := 16) (v := .int (S35.I o1 15)) (C := RX12) (T := TX12) (N := 34) hx hb hts (by decide +kernel) hown hK hP k40 hk40 rfl 15 (by decide) (hts (.fieldLink RX12 94 "HobhouseModel" "thrown" "I") (by decide +kernel)) (fun _ h9 => h9) rfl dX12_cause_18 ?_
    refine lv_if_le (tgt := 26) hx hb dX12_cause_21 (by decide) (fun c41 => ?_) (fun c41 => ?_)
    · have c41i : (S35.I o1 15).toInt ≤ 0 := le_v rfl rfl c41
      refine lv_aload_n hx hb dX12_cause_26 rfl (lv_at hl 0 rfl) ?_
      refine lv_iload_n hx hb dX12_cause_27 rfl (lv_at hl 1 rfl) ?_
      have hFc := free_all hD hS hA
      obtain ⟨k42, gk42, hk42⟩ := wGt (cy := cy) X S35 (xe36.A h_o1).1 (xe36.A h_o1).2.1
      refine va_callq (va_runV (As := [.int x1]) (rest := []) ⟨hx, hb, hml, hown, hts⟩ (c_X12_gearAt l (cy := cy) (X := X) (D := D) S35 _ o1 (xe36.A h_o1) x1 (t37.w) (by rw [f_of (xe36.F h_o1 (by decide) F1.1)]; omega)) (cwV 1 hts gX12_cause_X12_gearAt rfl rfl rfl hd_X12_gearAt ⟨Nat.le_of_ble_eq_true rfl, Nat.le_of_ble_eq_true rfl⟩) ⟨fun a U g mk q => ⟨q.1, q.2.1, q.2.2.1.calling, NW.same (u := U) (U := U.calling g mk a) rfl q.2.2.2⟩, va_recv hK hP (q := (RX12, TX12, 34)) (ci := 16) (q0 := k42) rfl hk42, fun U hU hW => ⟨rfl, by rw [hU], wd_pre hP hK hD hU hW, hN.warm hW⟩⟩ rfl rfl hl.1 rfl (lv_room (Nat.le_of_ble_eq_true rfl)) dX12_cause_28 ⟨(Nat.zero_le _), (Nat.zero_le _)⟩) hS (fun q _ h => hFc q h) hFc (fun r43 u t H1 locs ht hvm hw hB hz1 hk1 hS => ?_)
      obtain ⟨r43, rfl, o44⟩ := hw
      obtain ⟨hP, hD⟩ := wd_post hFc ht hB
      generalize H1 = H at hP hS ⊢
      refine W.eq (g2 := F0 m 31 ls [.ref r43]) rfl ?_
      refine lv_astore_n (lv' := [(2, .ref r43), (0, .ref o1), (1, .int x1)]) hx hb dX12_cause_31 rfl hl (by decide) rfl (fun ls hl => ?_)
      refine lv_aload_n hx hb dX12_cause_32 rfl (lv_at hl 0 rfl) ?_
      refine lv_aload_n hx hb dX12_cause_33 rfl (lv_at hl 0 rfl) ?_
      obtain ⟨k45, gk45, hk45⟩ := wGt (cy := cy) X S35 o44.1 o44.2.1
      have i46 := ((t37.w.at o44 List.not_mem_nil).to_10 o44.2.1).R1
      refine va_getN (D := D) (ci := 14) (v := .int (S35.I r43 1)) (C := RX10) (T := TX10) (N := 23) hx hb hts (by decide +kernel) hown hK hP k45 hk45 rfl 1 (by decide) (va_Nw.use rfl (hN (.fieldLinkNest RX12 332 "HobhouseModel$Gear" "teeth" "I" "HobhouseModel") (by decide +kernel))) (fun _ h9 => h9) rfl dX12_cause_34 ?_
      refine lv_aload_n hx hb dX12_cause_37 rfl (lv_at hl 1 rfl) ?_
      obtain ⟨k47, gk47, hk47⟩ := wGt (cy := cy) X S35 (xe36.A h_o1).1 (xe36.A h_o1).2.1
      have i48 := ((t37.w.at (xe36.A h_o1) List.not_mem_nil).to_12 (xe36.A h_o1).2.1).R18
      refine va_get (D := D) (ci := 16) (v := .int (S35.I o1 18)) (C := RX12) (T := TX12) (N := 34) hx hb hts (by decide +kernel) hown hK hP k47 hk47 rfl 18 (by decide) (hts (.fieldLink RX12 76 "HobhouseModel" "wheelTeeth" "I") (by decide +kernel)) (fun _ h9 => h9) rfl dX12_cause_38 ?_
      have hFc := free_all hD hS hA
      refine va_calli (va_runS (As := [.int (S35.I r43 1), .int (S35.I o1 18)]) (rest := [.ref r43]) ⟨hx, hb, hml, hown, hts⟩ (c_X12_divisor_e8 l (cy := cy) (X := X) (D := D) S35 _ (S35.I r43 1) (S35.I o1 18) (by omega) (by omega) (by omega) (by omega)) (cwS 2 hts gX12_cause_X12_divisor rfl rfl rfl hd_X12_divisor ⟨Nat.le_of_ble_eq_true rfl, Nat.le_of_ble_eq_true rfl⟩) ⟨fun a U g mk q => ⟨q.1, q.2.1, q.2.2.1.calling, NW.same (u := U) (U := U.calling g mk a) rfl q.2.2.2⟩, fun U hU hW => ⟨rfl, by rw [hU], wd_pre hP hK hD hU hW, hN.warm hW⟩⟩ rfl rfl hl.1 rfl (lv_room (Nat.le_of_ble_eq_true rfl)) dX12_cause_41 ⟨(Nat.zero_le _), (Nat.zero_le _)⟩) hS (fun q _ h => hFc q h) hFc (fun r49 u t H1 locs ht hvm hw hB hz1 hk1 hS => ?_)
      have y50 := hw
      obtain ⟨hP, hD⟩ := wd_post hFc ht hB
      generalize H1 = H at hP hS ⊢
      have hFc := free_all hD hS hA
      obtain ⟨k51, gk51, hk51⟩ := wGt (cy := cy) X S35 o44.1 o44.2.1
      refine va_calli (va_runV (As := [.int r49]) (rest := []) ⟨hx, hb, hml, hown, hts⟩ (c_X10_part l (cy := cy) (X := X) (D := D) S35 _ r43 o44 r49 (t37.w) (by omega)) (cwV 1 hts gX12_cause_X10_part rfl rfl rfl hd_X10_part ⟨Nat.le_of_ble_eq_true rfl, Nat.le_of_ble_eq_true rfl⟩) ⟨fun a U g mk q => ⟨q.1, q.2.1, q.2.2.1.calling, NW.same (u := U) (U := U.calling g mk a) rfl q.2.2.2⟩, va_recv hK hP (q := (RX10, TX10, 23)) (ci := 14) (q0 := k51) rfl hk51, fun U hU hW => ⟨rfl, by rw [hU], wd_pre hP hK hD hU hW, hN.warm hW⟩⟩ rfl rfl hl.1 rfl (lv_room (Nat.le_of_ble_eq_true rfl)) dX12_cause_44 ⟨(Nat.zero_le _), (Nat.zero_le _)⟩) hS (fun q _ h => hFc q h) hFc (fun r52 u t H1 locs ht hvm hw hB hz1 hk1 hS => ?_)
      clear hw
      obtain ⟨hP, hD⟩ := wd_post hFc ht hB
      generalize H1 = H at hP hS ⊢
      refine lv_istore_n (lv' := [(3, .int r52), (2, .ref r43), (0, .ref o1), (1, .int x1)]) hx hb dX12_cause_47 rfl hl (by decide) rfl (fun ls hl => ?_)
      refine lv_aload_n hx hb dX12_cause_48 rfl (lv_at hl 1 rfl) ?_
      refine lv_aload_n hx hb dX12_cause_49 rfl (lv_at hl 1 rfl) ?_
      obtain ⟨k53, gk53, hk53⟩ := wGt (cy := cy) X S35 o44.1 o44.2.1
      refine va_getN (D := D) (ci := 14) (v := .int (S35.I r43 11)) (C := RX10) (T := TX10) (N := 23) hx hb hts (by decide +kernel) hown hK hP k53 hk53 rfl 11 (by decide) (va_Nw.use rfl (hN (.fieldLinkNest RX12 365 "HobhouseModel$Gear" "starts" "I" "HobhouseModel") (by decide +kernel))) (fun _ h9 => h9) rfl dX12_cause_50 ?_
      have hFc := free_all hD hS hA
      obtain ⟨k54, gk54, hk54⟩ := wGt (cy := cy) X S35 o44.1 o44.2.1
      refine va_calli (va_runV (As := [.int (S35.I r43 11)]) (rest := []) ⟨hx, hb, hml, hown, hts⟩ (c_X10_partOrNone l (cy := cy) (X := X) (D := D) S35 _ r43 o44 (S35.I r43 11) (t37.w)) (cwV 1 hts gX12_cause_X10_partOrNone rfl rfl rfl hd_X10_partOrNone ⟨Nat.le_of_ble_eq_true rfl, Nat.le_of_ble_eq_true rfl⟩) ⟨fun a U g mk q => ⟨q.1, q.2.1, q.2.2.1.calling, NW.same (u := U) (U := U.calling g mk a) rfl q.2.2.2⟩, va_recv hK hP (q := (RX10, TX10, 23)) (ci := 14) (q0 := k54) rfl hk54, fun U hU hW => ⟨rfl, by rw [hU], wd_pre hP hK hD hU hW, hN.warm hW⟩⟩ rfl rfl hl.1 rfl (lv_room (Nat.le_of_ble_eq_true rfl)) dX12_cause_53 ⟨(Nat.zero_le _), (Nat.zero_le _)⟩) hS (fun q _ h => hFc q h) hFc (fun r55 u t H1 locs ht hvm hw hB hz1 hk1 hS => ?_)
      clear hw
      obtain ⟨hP, hD⟩ := wd_post hFc ht hB
      generalize H1 = H at hP hS ⊢
      refine lv_istore (lv' := [(4, .int r55), (3, .int r52), (2, .ref r43), (0, .ref o1), (1, .int x1)]) hx hb dX12_cause_56 hl (by decide) rfl (fun ls hl => ?_)
      refine lv_aload_n hx hb dX12_cause_58 rfl (lv_at hl 2 rfl) ?_
      have hFc := free_all hD hS hA
      obtain ⟨k56, gk56, hk56⟩ := wGt (cy := cy) X S35 o44.1 o44.2.1
      refine va_calli (va_runV (As := []) (rest := []) ⟨hx, hb, hml, hown, hts⟩ (c_X10_total l (cy := cy) (X := X) (D := D) S35 _ r43 o44 (t37.w)) (cwV 0 hts gX12_cause_X10_total rfl rfl rfl hd_X10_total ⟨Nat.le_of_ble_eq_true rfl, Nat.le_of_ble_eq_true rfl⟩) ⟨fun a U g mk q => ⟨q.1, q.2.1, q.2.2.1.calling, NW.same (u := U) (U := U.calling g mk a) rfl q.2.2.2⟩, va_recv hK hP (q := (RX10, TX10, 23)) (ci := 14) (q0 := k56) rfl hk56, fun U hU hW => ⟨rfl, by rw [hU], wd_pre hP hK hD hU hW, hN.warm hW⟩⟩ rfl rfl hl.1 rfl (lv_room (Nat.le_of_ble_eq_true rfl)) dX12_cause_59 ⟨(Nat.zero_le _), (Nat.zero_le _)⟩) hS (fun q _ h => hFc q h) hFc (fun r57 u t H1 locs ht hvm hw hB hz1 hk1 hS => ?_)
      clear hw
      obtain ⟨hP, hD⟩ := wd_post hFc ht hB
      generalize H1 = H at hP hS ⊢
      refine lv_istore (lv' := [(5, .int r57), (4, .int r55), (3, .int r52), (2, .ref r43), (0, .ref o1), (1, .int x1)]) hx hb dX12_cause_62 hl (by decide) rfl (fun ls hl => ?_)
      refine lv_iload_n hx hb dX12_cause_64 rfl (lv_at hl 2 rfl) ?_
      refine lv_iload hx hb dX12_cause_65 (lv_at hl 1 rfl) ?_
      refine lv_iload hx hb dX12_cause_67 (lv_at hl 0 rfl) ?_
      refine va_mmax hx hb (hml.trans hl.1.symm) hown (hts (.methodLink RX12 418 Lib.Math.max.name) (by decide +kernel)) (hts (.static Lib.Math.max.name) (by decide +kernel)) (hts (.initialized "java/lang/Math") (by decide +kernel)) (hts (.code Lib.Math.max.name Lib.Math.max.code 2 (some .int)) (by decide +kernel)) (Nat.le_of_ble_eq_true rfl) (Nat.le_of_ble_eq_true rfl) (Nat.zero_le _) (Nat.zero_le _) dX12_cause_69 ?_
      refine va_mmax hx hb (hml.trans hl.1.symm) hown (hts (.methodLink RX12 418 Lib.Math.max.name) (by decide +kernel)) (hts (.static Lib.Math.max.name) (by decide +kernel)) (hts (.initialized "java/lang/Math") (by decide +kernel)) (hts (.code Lib.Math.max.name Lib.Math.max.code 2 (some .int)) (by decide +kernel)) (Nat.le_of_ble_eq_true rfl) (Nat.le_of_ble_eq_true rfl) (Nat.zero_le _) (Nat.zero_le _) dX12_cause_72 ?_
      refine lv_istore (lv' := [(6, .int (if r52 < (if r55 < r57 then r57 else r55) then (if r55 < r57 then r57 else r55) else r52)), (5, .int r57), (4, .int r55), (3, .int r52), (2, .ref r43), (0, .ref o1), (1, .int x1)]) hx hb dX12_cause_75 hl (by decide) rfl (fun ls hl => ?_)
      refine lv_iload hx hb dX12_cause_77 (lv_at hl 0 rfl) ?_
      refine lv_if_ne (tgt := 87) hx hb dX12_cause_79 (by decide) (fun c58 => ?_) (fun c58 => ?_)
      · have c58i : ¬ (if r52 < (if r55 < r57 then r57 else r55) then (if r55 < r57 then r57 else r55) else r52).toInt = 0 := neq_v rfl rfl c58
        refine lv_iload_n hx hb dX12_cause_87 rfl (lv_at hl 3 rfl) ?_
        refine lv_iload hx hb dX12_cause_88 (lv_at hl 0 rfl) ?_
        refine lv_icmp_ne (tgt := 98) hx hb dX12_cause_90 (by decide) (fun c59 => ?_) (fun c59 => ?_)
        · have c59i : ¬ r52.toInt = (if r52 < (if r55 < r57 then r57 else r55) then (if r55 < r57 then r57 else r55) else r52).toInt := neq_v rfl rfl c59
          refine lv_iload hx hb dX12_cause_98 (lv_at hl 2 rfl) ?_
          refine lv_iload hx hb dX12_cause_100 (lv_at hl 0 rfl) ?_
          refine lv_icmp_ne (tgt := 110) hx hb dX12_cause_102 (by decide) (fun c60 => ?_) (fun c60 => ?_)
          · have c60i : ¬ r55.toInt = (if r52 < (if r55 < r57 then r57 else r55) then (if r55 < r57 then r57 else r55) else r52).toInt := neq_v rfl rfl c60
            refine lv_bipush (v := 115) hx hb dX12_cause_110 (by decide +kernel) ?_
            refine W.widen (k := 0) (n := 0) (Nat.le_of_ble_eq_true rfl) (Nat.le_of_ble_eq_true rfl) ?_
            exact W.zret (v := (115 : Int32)) hx hb hr (by rfl) (fun t ht hW9 => ⟨⟨(115 : Int32), S35, rfl, ⟨t37, (by rfl)⟩, wd_end hP hK hD ht hW9.alike⟩, hS.F ht⟩) hS.2.2 dX12_cause_112 hlocks
          · have c60i : r55.toInt = (if r52 < (if r55 < r57 then r57 else r55) then (if r55 < r57 then r57 else r55) else r52).toInt := eq_v rfl rfl c60
            refine lv_bipush (v := 116) hx hb dX12_cause_105 (by decide +kernel) ?_
            refine lv_goto (tgt := 112) hx hb dX12_cause_107 (by decide) ?_
            refine W.widen (k := 0) (n := 0) (Nat.le_of_ble_eq_true rfl) (Nat.le_of_ble_eq_true rfl) ?_
            exact W.zret (v := (116 : Int32)) hx hb hr (by rfl) (fun t ht hW9 => ⟨⟨(116 : Int32), S35, rfl, ⟨t37, (by rfl)⟩, wd_end hP hK hD ht hW9.alike⟩, hS.F ht⟩) hS.2.2 dX12_cause_112 hlocks
        · have c59i : r52.toInt = (if r52 < (if r55 < r57 then r57 else r55) then (if r55 < r57 then r57 else r55) else r52).toInt := eq_v rfl rfl c59
          refine lv_bipush (v := 109) hx hb dX12_cause_93 (by decide +kernel) ?_
          refine lv_goto (tgt := 112) hx hb dX12_cause_95 (by decide) ?_
          refine W.widen (k := 0) (n := 0) (Nat.le_of_ble_eq_true rfl) (Nat.le_of_ble_eq_true rfl) ?_
          exact W.zret (v := (109 : Int32)) hx hb hr (by rfl) (fun t ht hW9 => ⟨⟨(109 : Int32), S35, rfl, ⟨t37, (by rfl)⟩, wd_end hP hK hD ht hW9.alike⟩, hS.F ht⟩) hS.2.2 dX12_cause_112 hlocks
      · have c58i : (if r52 < (if r55 < r57 then r57 else r55) then (if r55 < r57 then r57 else r55) else r52).toInt = 0 := eq_v rfl rfl c58
        refine lv_bipush (v := 110) hx hb dX12_cause_82 (by decide +kernel) ?_
        refine lv_goto (tgt := 112) hx hb dX12_cause_84 (by decide) ?_
        refine W.widen (k := 0) (n := 0) (Nat.le_of_ble_eq_true rfl) (Nat.le_of_ble_eq_true rfl) ?_
        exact W.zret (v := (110 : Int32)) hx hb hr (by rfl) (fun t ht hW9 => ⟨⟨(110 : Int32), S35, rfl, ⟨t37, (by rfl)⟩, wd_end hP hK hD ht hW9.alike⟩, hS.F ht⟩) hS.2.2 dX12_cause_112 hlocks
    · have c41i : 0 < (S35.I o1 15).toInt := nle_v rfl rfl c41
      refine lv_iconst (v := 0) hx hb dX12_cause_24 (by decide) ?_
      refine W.widen (k := 0) (n := 0) (Nat.le_of_ble_eq_true rfl) (Nat.le_of_ble_eq_true rfl) ?_
      exact W.zret (v := (0 : Int32)) hx hb hr (by rfl) (fun t ht hW9 => ⟨⟨(0 : Int32), S35, rfl, ⟨t37, (by rfl)⟩, wd_end hP hK hD ht hW9.alike⟩, hS.F ht⟩) hS.2.2 dX12_cause_25 hlocks
theorem hd_X12_laysPlaces : yX12_laysPlaces.cls = RX12 ∧ yX12_laysPlaces.cls ≠ "java/lang/invoke/MethodHandle" ∧ yX12_laysPlaces.cls ≠ "java/lang/invoke/VarHandle" ∧ (parseMethodDescriptor yX12_laysPlaces.desc).map (fun d => d.parameters.length) = some 2 := by decide +kernel
set_option maxHeartbeats 4000000 in
set_option maxRecDepth 100000 in
theorem c_X12_laysPlaces (l : Launch) {D : va_G} {cy : Nat → ClassId} {X : va_W} (S : wPS) (sz : Nat) (o1 : Nat) (h_o1 : isA S o1 12) (o2 : Nat) (h_o2 : isA S o2 10) (o3 : Nat) (h_o3 : isA S o3 10) (hW : wtB S [])  : Met l yX12_laysPlaces wsX12_laysPlaces ({ frames := 17, cells := 0, slots := 0, locals := 357 }) (va_Pc [.ref o1, .ref o2, .ref o3] (fun U => U.heap.size = sz ∧ WD D cy X (fun _ => True) S U ∧ NW U)) (va_Qi (fun r (u : wPS) => stp [(17, 100)] [] [] S u ∧ 1 ≤ r.toInt ∧ r.toInt ≤ 200) (fun u t => WD D cy X (va_A (X ++ PL cy S) sz) u t) (va_A (X ++ PL cy S) sz)) 0 0 (va_A (X ++ PL cy S) sz) := by
  refine Met.ofW (cc := cX12_laysPlaces) (maxL := 4) (ret := (some .int)) (by decide) rfl ?_
  intro p e s m args below meth c s₁ B hml hv
  obtain ⟨rfl, hsz, ⟨hP, hK, hD0⟩, hN⟩ := hv
  have hx := B.exec
  have hb := B.bytes
  have hr := B.returns
  have hts := atoms_spec (ws := wsX12_laysPlaces) B.pre
  have hown : s.vm.findClass RX12 = some m.cls := findClass_of_methodNamed (x := yX12_laysPlaces) B.named
  have hlocks := B.notSynchronized
  subst hsz
  have hD := hD0.self (sz := s.heap.size)
  generalize hAe : va_A (X ++ PL cy S) s.heap.size = A at hD ⊢
  have hA : ∀ q : Nat, s.heap.size ≤ q → A q := fun q h => by rw [← hAe]; exact Or.inr h
  have hS : va_S A s.heap s.heap [] := va_S.rf
  have hl := lv_entry ([.ref o1, .ref o2, .ref o3]) (n := 4) (Nat.le_of_ble_eq_true rfl)
  rw [lg_entry_eq]
  generalize (lg_sl ([.ref o1, .ref o2, .ref o3]) ++ List.replicate (4 - (lg_sl ([.ref o1, .ref o2, .ref o3])).length) Slot.unset).toArray = ls at hl ⊢
  have hl : lv_has ls 4 [(0, .ref o1), (1, .ref o2), (2, .ref o3)] := hl
  have t0 : stp [(17, 100)] [] [] S S := stp.rf hW
  refine lv_aload_n hx hb dX12_laysPlaces_0 rfl (lv_at hl 1 rfl) ?_
  obtain ⟨k1, gk1, hk1⟩ := wGt (cy := cy) X S h_o2.1 h_o2.2.1
  have i2 := ((hW.at h_o2 List.not_mem_nil).to_10 h_o2.2.1).R1
  refine va_getN (D := D) (ci := 14) (v := .int (S.I o2 1)) (C := RX10) (T := TX10) (N := 23) hx hb hts (by decide +kernel) hown hK hP k1 hk1 rfl 1 (by decide) (va_Nw.use rfl (hN (.fieldLinkNest RX12 332 "HobhouseModel$Gear" "teeth" "I" "HobhouseModel") (by decide +kernel))) (fun _ h9 => h9) rfl dX12_laysPlaces_1 ?_
  refine lv_aload_n hx hb dX12_laysPlaces_4 rfl (lv_at hl 2 rfl) ?_
  obtain ⟨k3, gk3, hk3⟩ := wGt (cy := cy) X S h_o3.1 h_o3.2.1
  have i4 := ((hW.at h_o3 List.not_mem_nil).to_10 h_o3.2.1).R1
  refine va_getN (D := D) (ci := 14) (v := .int (S.I o3 1)) (C := RX10) (T := TX10) (N := 23) hx hb hts (by decide +kernel) hown hK hP k3 hk3 rfl 1 (by decide) (va_Nw.use rfl (hN (.fieldLinkNest RX12 332 "HobhouseModel$Gear" "teeth" "I" "HobhouseModel") (by decide +kernel))) (fun _ h9 => h9) rfl dX12_laysPlaces_5 ?_
  have hFc := free_all hD hS hA
  refine va_calli (va_runS (As := [.int (S.I o2 1), .int (S.I o3 1)]) (rest := []) ⟨hx, hb, hml, hown, hts⟩ (c_X12_divisor_e8 l (cy := cy) (X := X) (D := D) S _ (S.I o2 1) (S.I o3 1) (by omega) (by omega) (by omega) (by omega)) (cwS 2 hts gX12_laysPlaces_X12_divisor rfl rfl rfl hd_X12_divisor ⟨Nat.le_of_ble_eq_true rfl, Nat.le_of_ble_eq_true rfl⟩) ⟨fun a U g mk q => ⟨q.1, q.2.1, q.2.2.1.calling, NW.same (u := U) (U := U.calling g mk a) rfl q.2.2.2⟩, fun U hU hW => ⟨rfl, by rw [hU], wd_pre hP hK hD hU hW, hN.warm hW⟩⟩ rfl rfl hl.1 rfl (lv_room (Nat.le_of_ble_eq_true rfl)) dX12_laysPlaces_8 ⟨(Nat.zero_le _), (Nat.zero_le _)⟩) hS (fun q _ h => hFc q h) hFc (fun r5 u t H1 locs ht hvm hw hB hz1 hk1 hS => ?_)
  have y6 := hw
  obtain ⟨hP, hD⟩ := wd_post hFc ht hB
  generalize H1 = H at hP hS ⊢
  refine lv_istore_n (lv' := [(3, .int r5), (0, .ref o1), (1, .ref o2), (2, .ref o3)]) hx hb dX12_laysPlaces_11 rfl hl (by decide) rfl (fun ls hl => ?_)
  refine lv_aload_n hx hb dX12_laysPlaces_12 rfl (lv_at hl 2 rfl) ?_
  refine lv_iload_n hx hb dX12_laysPlaces_13 rfl (lv_at hl 0 rfl) ?_
  refine lv_aload_n hx hb dX12_laysPlaces_14 rfl (lv_at hl 1 rfl) ?_
  have F7 := ((hW.at h_o1 List.not_mem_nil).to_12 h_o1.2.1).F29
  obtain ⟨k8, gk8, hk8⟩ := wGt (cy := cy) X S h_o1.1 h_o1.2.1
  simp only [kE, F7.1] at hk8
  refine va_get (D := D) (ci := 16) (v := .ref (S.f o1 29)) (C := RX12) (T := TX12) (N := 34) hx hb hts (by decide +kernel) hown hK hP k8 hk8 rfl 29 (by decide) (hts (.fieldLink RX12 79 "HobhouseModel" "highOne" "[I") (by decide +kernel)) (fun _ h9 => h9) rfl dX12_laysPlaces_15 ?_
  refine lv_aload_n hx hb dX12_laysPlaces_18 rfl (lv_at hl 1 rfl) ?_
  have F9 := ((hW.at h_o1 List.not_mem_nil).to_12 h_o1.2.1).F30
  obtain ⟨k10, gk10, hk10⟩ := wGt (cy := cy) X S h_o1.1 h_o1.2.1
  simp only [kE, F9.1] at hk10
  refine va_get (D := D) (ci := 16) (v := .ref (S.f o1 30)) (C := RX12) (T := TX12) (N := 34) hx hb hts (by decide +kernel) hown hK hP k10 hk10 rfl 30 (by decide) (hts (.fieldLink RX12 82 "HobhouseModel" "lowOne" "[I") (by decide +kernel)) (fun _ h9 => h9) rfl dX12_laysPlaces_19 ?_
  have hFc := free_all hD hS hA
  obtain ⟨k11, gk11, hk11⟩ := wGt (cy := cy) X S h_o2.1 h_o2.2.1
  refine va_callv (va_runV (As := [.int r5, .ref (S.f o1 29), .ref (S.f o1 30)]) (rest := []) ⟨hx, hb, hml, hown, hts⟩ (c_X10_places l (cy := cy) (X := X) (D := D) S _ o2 h_o2 r5 (S.f o1 29) F7.2.1 (S.f o1 30) F9.2.1 (hW) (by omega) F7.2.2 F9.2.2) (cwV 3 hts gX12_laysPlaces_X10_places rfl rfl rfl hd_X10_places ⟨Nat.le_of_ble_eq_true rfl, Nat.le_of_ble_eq_true rfl⟩) ⟨fun a U g mk q => ⟨q.1, q.2.1, q.2.2.1.calling, NW.same (u := U) (U := U.calling g mk a) rfl q.2.2.2⟩, va_recv hK hP (q := (RX10, TX10, 23)) (ci := 14) (q0 := k11) rfl hk11, fun U hU hW => ⟨rfl, by rw [hU], wd_pre hP hK hD hU hW, hN.warm hW⟩⟩ rfl rfl hl.1 rfl (lv_room (Nat.le_of_ble_eq_true rfl)) dX12_laysPlaces_22 ⟨(Nat.zero_le _), (Nat.zero_le _)⟩) hS (fun q _ h => hFc q h) hFc (fun u t H1 locs ht hvm hw hB hz1 hk1 hS => ?_)
  have w13 := hw
  obtain ⟨hP, hD⟩ := wd_post hFc ht hB
  generalize H1 = H at hP hS ⊢
  obtain ⟨S14, rfl⟩ : ∃ z, z = u := ⟨_, rfl⟩
  have t15 : stp [(17, 100)] [] [] S S14 := t0.tr w13 (by decide) (fun _ q => absurd q List.not_mem_nil)
  have xe16 : ext S S14 := w13.x
  refine lv_aload_n hx hb dX12_laysPlaces_25 rfl (lv_at hl 3 rfl) ?_
  refine lv_iload_n hx hb dX12_laysPlaces_26 rfl (lv_at hl 0 rfl) ?_
  refine lv_aload_n hx hb dX12_laysPlaces_27 rfl (lv_at hl 1 rfl) ?_
  have F17 := ((hW.at h_o1 List.not_mem_nil).to_12 h_o1.2.1).F31
  obtain ⟨k18, gk18, hk18⟩ := wGt (cy := cy) X S14 (xe16.A h_o1).1 (xe16.A h_o1).2.1
  simp only [kE, (xe16.F h_o1 (by decide) F17.1)] at hk18
  refine va_get (D := D) (ci := 16) (v := .ref (S.f o1 31)) (C := RX12) (T := TX12) (N := 34) hx hb hts (by decide +kernel) hown hK hP k18 hk18 rfl 31 (by decide) (hts (.fieldLink RX12 85 "HobhouseModel" "highOther" "[I") (by decide +kernel)) (fun _ h9 => h9) rfl dX12_laysPlaces_28 ?_
  refine lv_aload_n hx hb dX12_laysPlaces_31 rfl (lv_at hl 1 rfl) ?_
  have F19 := ((hW.at h_o1 List.not_mem_nil).to_12 h_o1.2.1).F32
  obtain ⟨k20, gk20, hk20⟩ := wGt (cy := cy) X S14 (xe16.A h_o1).1 (xe16.A h_o1).2.1
  simp only [kE, (xe16.F h_o1 (by decide) F19.1)] at hk20
  refine va_get (D := D) (ci := 16) (v := .ref (S.f o1 32)) (C := RX12) (T := TX12) (N := 34) hx hb hts (by decide +kernel) hown hK hP k20 hk20 rfl 32 (by decide) (hts (.fieldLink RX12 88 "HobhouseModel" "lowOther" "[I") (by decide +kernel)) (fun _ h9 => h9) rfl dX12_laysPlaces_32 ?_
  have hFc := free_all hD hS hA
  obtain ⟨k21, gk21, hk21⟩ := wGt (cy := cy) X S14 (xe16.A h_o3).1 (xe16.A h_o3).2.1
  refine va_callv (va_runV (As := [.int r5, .ref (S.f o1 31), .ref (S.f o1 32)]) (rest := []) ⟨hx, hb, hml, hown, hts⟩ (c_X10_places l (cy := cy) (X := X) (D := D) S14 _ o3 (xe16.A h_o3) r5 (S.f o1 31) (xe16.A F17.2.1) (S.f o1 32) (xe16.A F19.2.1) (t15.w) (by omega) ((xe16.n F17.2.1).trans F17.2.2) ((xe16.n F19.2.1).trans F19.2.2)) (cwV 3 hts gX12_laysPlaces_X10_places rfl rfl rfl hd_X10_places ⟨Nat.le_of_ble_eq_true rfl, Nat.le_of_ble_eq_true rfl⟩) ⟨fun a U g mk q => ⟨q.1, q.2.1, q.2.2.1.calling, NW.same (u := U) (U := U.calling g mk a) rfl q.2.2.2⟩, va_recv hK hP (q := (RX10, TX10, 23)) (ci := 14) (q0 := k21) rfl hk21, fun U hU hW => ⟨rfl, by rw [hU], wd_pre hP hK hD hU hW, hN.warm hW⟩⟩ rfl rfl hl.1 rfl (lv_room (Nat.le_of_ble_eq_true rfl)) dX12_laysPlaces_35 ⟨(Nat.zero_le _), (Nat.zero_le _)⟩) hS (fun q _ h => hFc q h) hFc (fun u t H1 locs ht hvm hw hB hz1 hk1 hS => ?_)
  have w23 := hw
  obtain ⟨hP, hD⟩ := wd_post hFc ht hB
  generalize H1 = H at hP hS ⊢
  obtain ⟨S24, rfl⟩ : ∃ z, z = u := ⟨_, rfl⟩
  have t25 : stp [(17, 100)] [] [] S S24 := t15.tr w23 (by decide) (fun _ q => absurd q List.not_mem_nil)
  have xe26 : ext S14 S24 := w23.x
  refine lv_iload_n hx hb dX12_laysPlaces_38 rfl (lv_at hl 0 rfl) ?_
  refine W.widen (k := 0) (n := 0) (Nat.le_of_ble_eq_true rfl) (Nat.le_of_ble_eq_true rfl) ?_
  exact W.iret (v := r5) hx hb hr (fun t ht hW9 => ⟨⟨r5, S24, rfl, ⟨t25, (by omega)⟩, wd_end hP hK hD ht hW9.alike⟩, hS.F ht⟩) hS.2.2 dX12_laysPlaces_39 hlocks
theorem hd_X12_peakBy : yX12_peakBy.cls = RX12 ∧ yX12_peakBy.cls ≠ "java/lang/invoke/MethodHandle" ∧ yX12_peakBy.cls ≠ "java/lang/invoke/VarHandle" ∧ (parseMethodDescriptor yX12_peakBy.desc).map (fun d => d.parameters.length) = some 2 := by decide +kernel
set_option maxHeartbeats 4000000 in
set_option maxRecDepth 100000 in
theorem c_X12_peakBy (l : Launch) {D : va_G} {cy : Nat → ClassId} {X : va_W} (S : wPS) (sz : Nat) (o1 : Nat) (h_o1 : isA S o1 12) (x1 : Int32) (x2 : Int32) (hW : wtB S []) (h1 : 1 ≤ x1.toInt ∧ x1.toInt ≤ 200) (h2 : 0 ≤ x2.toInt ∧ x2.toInt ≤ 300) : Met l yX12_peakBy wsX12_peakBy ({ frames := 1, cells := 0, slots := 0, locals := 13 }) (va_Pc [.ref o1, .int x1, .int x2] (fun U => U.heap.size = sz ∧ WD D cy X (fun _ => True) S U ∧ NW U)) (va_Qi (fun r (_ : Unit) => True) (fun _ t => WD D cy X (va_A (X ++ PL cy S) sz) S t) (va_A (X ++ PL cy S) sz)) 0 0 (va_A (X ++ PL cy S) sz) := by
  refine Met.ofW (cc := cX12_peakBy) (maxL := 6) (ret := (some .int)) (by decide) rfl ?_
  intro p e s m args below meth c s₁ B hml hv
  obtain ⟨rfl, hsz, ⟨hP, hK, hD0⟩, hN⟩ := hv
  have hx := B.exec
  have hb := B.bytes
  have hr := B.returns
  have hts := atoms_spec (ws := wsX12_peakBy) B.pre
  have hown : s.vm.findClass RX12 = some m.cls := findClass_of_methodNamed (x := yX12_peakBy) B.named
  have hlocks := B.notSynchronized
  subst hsz
  have hD := hD0.self (sz := s.heap.size)
  generalize hAe : va_A (X ++ PL cy S) s.heap.size = A at hD ⊢
  have hA : ∀ q : Nat, s.heap.size ≤ q → A q := fun q h => by rw [← hAe]; exact Or.inr h
  have hS : va_S A s.heap s.heap [] := va_S.rf
  have hl := lv_entry ([.ref o1, .int x1, .int x2]) (n := 6) (Nat.le_of_ble_eq_true rfl)
  rw [lg_entry_eq]
  generalize (lg_sl ([.ref o1, .int x1, .int x2]) ++ List.replicate (6 - (lg_sl ([.ref o1, .int x1, .int x2])).length) Slot.unset).toArray = ls at hl ⊢
  have hl : lv_has ls 6 [(0, .ref o1), (1, .int x1), (2, .int x2)] := hl
  refine lv_aload_n hx hb dX12_peakBy_0 rfl (lv_at hl 0 rfl) ?_
  have F1 := ((hW.at h_o1 List.not_mem_nil).to_12 h_o1.2.1).F29
  obtain ⟨k2, gk2, hk2⟩ := wGt (cy := cy) X S h_o1.1 h_o1.2.1
  simp only [kE, F1.1] at hk2
  refine va_get (D := D) (ci := 16) (v := .ref (S.f o1 29)) (C := RX12) (T := TX12) (N := 34) hx hb hts (by decide +kernel) hown hK hP k2 hk2 rfl 29 (by decide) (hts (.fieldLink RX12 79 "HobhouseModel" "highOne" "[I") (by decide +kernel)) (fun _ h9 => h9) rfl dX12_peakBy_1 ?_
  refine lv_iconst (v := 0) hx hb dX12_peakBy_4 (by decide) ?_
  obtain ⟨k3, gk3, hk3⟩ := wGt (cy := cy) X S F1.2.1.1 F1.2.1.2.1
  refine va_iald hx hb hK hP k3 2 hk3 rfl (inb F1.2.2 (by decide) (by decide)) dX12_peakBy_5 ?_
  refine lv_aload_n hx hb dX12_peakBy_6 rfl (lv_at hl 0 rfl) ?_
  have F4 := ((hW.at h_o1 List.not_mem_nil).to_12 h_o1.2.1).F31
  obtain ⟨k5, gk5, hk5⟩ := wGt (cy := cy) X S h_o1.1 h_o1.2.1
  simp only [kE, F4.1] at hk5
  refine va_get (D := D) (ci := 16) (v := .ref (S.f o1 31)) (C := RX12) (T := TX12) (N := 34) hx hb hts (by decide +kernel) hown hK hP k5 hk5 rfl 31 (by decide) (hts (.fieldLink RX12 85 "HobhouseModel" "highOther" "[I") (by decide +kernel)) (fun _ h9 => h9) rfl dX12_peakBy_7 ?_
  refine lv_iload_n hx hb dX12_peakBy_10 rfl (lv_at hl 2 rfl) ?_
  refine lv_iload_n hx hb dX12_peakBy_11 rfl (lv_at hl 1 rfl) ?_
  refine lv_irem hx hb dX12_peakBy_12 (nz_i (by omega)) ?_
  have i6 := rem_rng (x := x2) (y := x1) (by omega) (by omega)
  obtain ⟨k7, gk7, hk7⟩ := wGt (cy := cy) X S F4.2.1.1 F4.2.1.2.1
  refine va_iald hx hb hK hP k7 2 hk7 rfl (inb (m := 200) F4.2.2 (by omega) (by omega)) dX12_peakBy_13 ?_
  refine lv_iadd hx hb dX12_peakBy_14 ?_
  refine lv_istore_n (lv' := [(3, .int ((S.i (S.f o1 29) (0 : Int32).toNatClampNeg) + (S.i (S.f o1 31) (x2 - x2 / x1 * x1).toNatClampNeg))), (0, .ref o1), (1, .int x1), (2, .int x2)]) hx hb dX12_peakBy_15 rfl hl (by decide) rfl (fun ls hl => ?_)
  refine lv_aload_n hx hb dX12_peakBy_16 rfl (lv_at hl 1 rfl) ?_
  have F8 := ((hW.at h_o1 List.not_mem_nil).to_12 h_o1.2.1).F30
  obtain ⟨k9, gk9, hk9⟩ := wGt (cy := cy) X S h_o1.1 h_o1.2.1
  simp only [kE, F8.1] at hk9
  refine va_get (D := D) (ci := 16) (v := .ref (S.f o1 30)) (C := RX12) (T := TX12) (N := 34) hx hb hts (by decide +kernel) hown hK hP k9 hk9 rfl 30 (by decide) (hts (.fieldLink RX12 82 "HobhouseModel" "lowOne" "[I") (by decide +kernel)) (fun _ h9 => h9) rfl dX12_peakBy_17 ?_
  refine lv_iconst (v := 0) hx hb dX12_peakBy_20 (by decide) ?_
  obtain ⟨k10, gk10, hk10⟩ := wGt (cy := cy) X S F8.2.1.1 F8.2.1.2.1
  refine va_iald hx hb hK hP k10 2 hk10 rfl (inb F8.2.2 (by decide) (by decide)) dX12_peakBy_21 ?_
  refine lv_aload_n hx hb dX12_peakBy_22 rfl (lv_at hl 1 rfl) ?_
  have F11 := ((hW.at h_o1 List.not_mem_nil).to_12 h_o1.2.1).F32
  obtain ⟨k12, gk12, hk12⟩ := wGt (cy := cy) X S h_o1.1 h_o1.2.1
  simp only [kE, F11.1] at hk12
  refine va_get (D := D) (ci := 16) (v := .ref (S.f o1 32)) (C := RX12) (T := TX12) (N := 34) hx hb hts (by decide +kernel) hown hK hP k12 hk12 rfl 32 (by decide) (hts (.fieldLink RX12 88 "HobhouseModel" "lowOther" "[I") (by decide +kernel)) (fun _ h9 => h9) rfl dX12_peakBy_23 ?_
  refine lv_iload_n hx hb dX12_peakBy_26 rfl (lv_at hl 3 rfl) ?_
  refine lv_iload_n hx hb dX12_peakBy_27 rfl (lv_at hl 2 rfl) ?_
  refine lv_irem hx hb dX12_peakBy_28 (nz_i (by omega)) ?_
  obtain ⟨k13, gk13, hk13⟩ := wGt (cy := cy) X S F11.2.1.1 F11.2.1.2.1
  refine va_iald hx hb hK hP k13 2 hk13 rfl (inb (m := 200) F11.2.2 (by omega) (by omega)) dX12_peakBy_29 ?_
  refine lv_iadd hx hb dX12_peakBy_30 ?_
  refine lv_istore (lv' := [(4, .int ((S.i (S.f o1 30) (0 : Int32).toNatClampNeg) + (S.i (S.f o1 32) (x2 - x2 / x1 * x1).toNatClampNeg))), (3, .int ((S.i (S.f o1 29) (0 : Int32).toNatClampNeg) + (S.i (S.f o1 31) (x2 - x2 / x1 * x1).toNatClampNeg))), (0, .ref o1), (1, .int x1), (2, .int x2)]) hx hb dX12_peakBy_31 hl (by decide) rfl (fun ls hl => ?_)
  refine lv_iconst (v := 1) hx hb dX12_peakBy_33 (by decide) ?_
  refine lv_istore (lv' := [(5, .int (1 : Int32)), (4, .int ((S.i (S.f o1 30) (0 : Int32).toNatClampNeg) + (S.i (S.f o1 32) (x2 - x2 / x1 * x1).toNatClampNeg))), (3, .int ((S.i (S.f o1 29) (0 : Int32).toNatClampNeg) + (S.i (S.f o1 31) (x2 - x2 / x1 * x1).toNatClampNeg))), (0, .ref o1), (1, .int x1), (2, .int x2)]) hx hb dX12_peakBy_34 hl (by decide) rfl (fun ls hl => ?_)
  have l32_1 : (1 : Int32).toInt = 1 := rfl
  have loop36 : ∀ (n : Nat) (w36_3 : Int32) (w36_4 : Int32) (w36_5 : Int32) (H : Heap) (locs : List Loc) (ls : Array Slot), (201 - w36_5.toInt).toNat < n → 1 ≤ w36_5.toInt ∧ w36_5.toInt ≤ 201 → va_P D vwCl (X ++ PL cy S) H → va_S A s.heap H locs → lv_has ls 6 [(5, .int w36_5), (4, .int w36_4), (3, .int w36_3), (0, .ref o1), (1, .int x1), (2, .int x2)] → (∀ (w36_3x : Int32) (w36_4x : Int32) (w36_5x : Int32) (H : Heap) (locs : List Loc) (ls : Array Slot), 1 ≤ w36_5x.toInt ∧ w36_5x.toInt ≤ 201 → va_P D vwCl (X ++ PL cy S) H → va_S A s.heap H locs → lv_has ls 6 [(5, .int w36_5x), (4, .int w36_4x), (3, .int w36_3x), (0, .ref o1), (1, .int x1), (2, .int x2)] → W p l e (headSpec wsX12_peakBy ({ frames := 1, cells := 0, slots := 0, locals := 13 } : Room)).room s m [.ref o1, .int x1, .int x2].toArray below meth c H locs 0 0 (MQ below (va_Qi (fun r (_ : Unit) => True) (fun _ t => WD D cy X A S t) A) [.ref o1, .int x1, .int x2].toArray s 0 0 A) (F0 m 98 ls [])) → W p l e (headSpec wsX12_peakBy ({ frames := 1, cells := 0, slots := 0, locals := 13 } : Room)).room s m [.ref o1, .int x1, .int x2].toArray below meth c H locs 0 0 (MQ below (va_Qi (fun r (_ : Unit) => True) (fun _ t => WD D cy X A S t) A) [.ref o1, .int x1, .int x2].toArray s 0 0 A) (F0 m 36 ls []) := by
    intro n36
    induction n36 with
    | zero => intro w36_3 w36_4 w36_5 H locs ls hm; exact absurd hm (Nat.not_lt_zero _)
    | succ n36 ih36 =>
      intro w36_3 w36_4 w36_5 H locs ls hm36 hi36 hP hS hl ko36
      refine lv_iload hx hb dX12_peakBy_36 (lv_at hl 0 rfl) ?_
      refine lv_iload_n hx hb dX12_peakBy_38 rfl (lv_at hl 4 rfl) ?_
      refine lv_icmp_ge (tgt := 98) hx hb dX12_peakBy_39 (by decide) (fun c14 => ?_) (fun c14 => ?_)
      · have c14i : x1.toInt ≤ w36_5.toInt := le_v rfl rfl c14
        exact ko36 w36_3 w36_4 w36_5 _ _ _ (by omega) hP hS (lv_sub hl [0, 1, 2, 3, 4, 5] rfl)
      · have c14i : w36_5.toInt < x1.toInt := nle_v rfl rfl c14
        refine lv_iload_n hx hb dX12_peakBy_42 rfl (lv_at hl 2 rfl) ?_
        refine lv_aload_n hx hb dX12_peakBy_43 rfl (lv_at hl 3 rfl) ?_
        obtain ⟨k15, gk15, hk15⟩ := wGt (cy := cy) X S h_o1.1 h_o1.2.1
        simp only [kE, F1.1] at hk15
        refine va_get (D := D) (ci := 16) (v := .ref (S.f o1 29)) (C := RX12) (T := TX12) (N := 34) hx hb hts (by decide +kernel) hown hK hP k15 hk15 rfl 29 (by decide) (hts (.fieldLink RX12 79 "HobhouseModel" "highOne" "[I") (by decide +kernel)) (fun _ h9 => h9) rfl dX12_peakBy_44 ?_
        refine lv_iload hx hb dX12_peakBy_47 (lv_at hl 0 rfl) ?_
        obtain ⟨k16, gk16, hk16⟩ := wGt (cy := cy) X S F1.2.1.1 F1.2.1.2.1
        refine va_iald hx hb hK hP k16 2 hk16 rfl (inb (m := 200) F1.2.2 (by omega) (by omega)) dX12_peakBy_49 ?_
        refine lv_aload_n hx hb dX12_peakBy_50 rfl (lv_at hl 3 rfl) ?_
        obtain ⟨k17, gk17, hk17⟩ := wGt (cy := cy) X S h_o1.1 h_o1.2.1
        simp only [kE, F4.1] at hk17
        refine va_get (D := D) (ci := 16) (v := .ref (S.f o1 31)) (C := RX12) (T := TX12) (N := 34) hx hb hts (by decide +kernel) hown hK hP k17 hk17 rfl 31 (by decide) (hts (.fieldLink RX12 85 "HobhouseModel" "highOther" "[I") (by decide +kernel)) (fun _ h9 => h9) rfl dX12_peakBy_51 ?_
        refine lv_iload hx hb dX12_peakBy_54 (lv_at hl 0 rfl) ?_
        refine lv_iload_n hx hb dX12_peakBy_56 rfl (lv_at hl 5 rfl) ?_
        refine lv_iadd hx hb dX12_peakBy_57 ?_
        refine lv_iload_n hx hb dX12_peakBy_58 rfl (lv_at hl 4 rfl) ?_
        refine lv_irem hx hb dX12_peakBy_59 (nz_i (by omega)) ?_
        have i18 : (w36_5 + x2).toInt = w36_5.toInt + x2.toInt := t_add (by omega)
        have i19 := rem_rng (x := (w36_5 + x2)) (y := x1) (by omega) (by omega)
        obtain ⟨k20, gk20, hk20⟩ := wGt (cy := cy) X S F4.2.1.1 F4.2.1.2.1
        refine va_iald hx hb hK hP k20 2 hk20 rfl (inb (m := 200) F4.2.2 (by omega) (by omega)) dX12_peakBy_60 ?_
        refine lv_iadd hx hb dX12_peakBy_61 ?_
        refine va_mmax hx hb (hml.trans hl.1.symm) hown (hts (.methodLink RX12 418 Lib.Math.max.name) (by decide +kernel)) (hts (.static Lib.Math.max.name) (by decide +kernel)) (hts (.initialized "java/lang/Math") (by decide +kernel)) (hts (.code Lib.Math.max.name Lib.Math.max.code 2 (some .int)) (by decide +kernel)) (Nat.le_of_ble_eq_true rfl) (Nat.le_of_ble_eq_true rfl) (Nat.zero_le _) (Nat.zero_le _) dX12_peakBy_62 ?_
        refine lv_istore_n (lv' := [(3, .int (if w36_3 < ((S.i (S.f o1 29) w36_5.toNatClampNeg) + (S.i (S.f o1 31) ((w36_5 + x2) - (w36_5 + x2) / x1 * x1).toNatClampNeg)) then ((S.i (S.f o1 29) w36_5.toNatClampNeg) + (S.i (S.f o1 31) ((w36_5 + x2) - (w36_5 + x2) / x1 * x1).toNatClampNeg)) else w36_3)), (5, .int w36_5), (4, .int w36_4), (0, .ref o1), (1, .int x1), (2, .int x2)]) hx hb dX12_peakBy_65 rfl hl (by decide) rfl (fun ls hl => ?_)
        refine lv_iload hx hb dX12_peakBy_66 (lv_at hl 2 rfl) ?_
        refine lv_aload_n hx hb dX12_peakBy_68 rfl (lv_at hl 3 rfl) ?_
        obtain ⟨k21, gk21, hk21⟩ := wGt (cy := cy) X S h_o1.1 h_o1.2.1
        simp only [kE, F8.1] at hk21
        refine va_get (D := D) (ci := 16) (v := .ref (S.f o1 30)) (C := RX12) (T := TX12) (N := 34) hx hb hts (by decide +kernel) hown hK hP k21 hk21 rfl 30 (by decide) (hts (.fieldLink RX12 82 "HobhouseModel" "lowOne" "[I") (by decide +kernel)) (fun _ h9 => h9) rfl dX12_peakBy_69 ?_
        refine lv_iload hx hb dX12_peakBy_72 (lv_at hl 1 rfl) ?_
        obtain ⟨k22, gk22, hk22⟩ := wGt (cy := cy) X S F8.2.1.1 F8.2.1.2.1
        refine va_iald hx hb hK hP k22 2 hk22 rfl (inb (m := 200) F8.2.2 (by omega) (by omega)) dX12_peakBy_74 ?_
        refine lv_aload_n hx hb dX12_peakBy_75 rfl (lv_at hl 3 rfl) ?_
        obtain ⟨k23, gk23, hk23⟩ := wGt (cy := cy) X S h_o1.1 h_o1.2.1
        simp only [kE, F11.1] at hk23
        refine va_get (D := D) (ci := 16) (v := .ref (S.f o1 32)) (C := RX12) (T := TX12) (N := 34) hx hb hts (by decide +kernel) hown hK hP k23 hk23 rfl 32 (by decide) (hts (.fieldLink RX12 88 "HobhouseModel" "lowOther" "[I") (by decide +kernel)) (fun _ h9 => h9) rfl dX12_peakBy_76 ?_
        refine lv_iload hx hb dX12_peakBy_79 (lv_at hl 1 rfl) ?_
        refine lv_iload_n hx hb dX12_peakBy_81 rfl (lv_at hl 5 rfl) ?_
        refine lv_iadd hx hb dX12_peakBy_82 ?_
        refine lv_iload_n hx hb dX12_peakBy_83 rfl (lv_at hl 4 rfl) ?_
        refine lv_irem hx hb dX12_peakBy_84 (nz_i (by omega)) ?_
        obtain ⟨k24, gk24, hk24⟩ := wGt (cy := cy) X S F11.2.1.1 F11.2.1.2.1
        refine va_iald hx hb hK hP k24 2 hk24 rfl (inb (m := 200) F11.2.2 (by omega) (by omega)) dX12_peakBy_85 ?_
        refine lv_iadd hx hb dX12_peakBy_86 ?_
        refine va_mmin hx hb (hml.trans hl.1.symm) hown (hts (.methodLink RX12 212 Lib.Math.min.name) (by decide +kernel)) (hts (.static Lib.Math.min.name) (by decide +kernel)) (hts (.initialized "java/lang/Math") (by decide +kernel)) (hts (.code Lib.Math.min.name Lib.Math.min.code 2 (some .int)) (by decide +kernel)) (Nat.le_of_ble_eq_true rfl) (Nat.le_of_ble_eq_true rfl) (Nat.zero_le _) (Nat.zero_le _) dX12_peakBy_87 ?_
        refine lv_istore (lv' := [(4, .int (if ((S.i (S.f o1 30) w36_5.toNatClampNeg) + (S.i (S.f o1 32) ((w36_5 + x2) - (w36_5 + x2) / x1 * x1).toNatClampNeg)) < w36_4 then ((S.i (S.f o1 30) w36_5.toNatClampNeg) + (S.i (S.f o1 32) ((w36_5 + x2) - (w36_5 + x2) / x1 * x1).toNatClampNeg)) else w36_4)), (3, .int (if w36_3 < ((S.i (S.f o1 29) w36_5.toNatClampNeg) + (S.i (S.f o1 31) ((w36_5 + x2) - (w36_5 + x2) / x1 * x1).toNatClampNeg)) then ((S.i (S.f o1 29) w36_5.toNatClampNeg) + (S.i (S.f o1 31) ((w36_5 + x2) - (w36_5 + x2) / x1 * x1).toNatClampNeg)) else w36_3)), (5, .int w36_5), (0, .ref o1), (1, .int x1), (2, .int x2)]) hx hb dX12_peakBy_90 hl (by decide) rfl (fun ls hl => ?_)
        refine lv_iinc (v := w36_5 + (1 : Int32)) (lv' := [(5, .int (w36_5 + (1 : Int32))), (4, .int (if ((S.i (S.f o1 30) w36_5.toNatClampNeg) + (S.i (S.f o1 32) ((w36_5 + x2) - (w36_5 + x2) / x1 * x1).toNatClampNeg)) < w36_4 then ((S.i (S.f o1 30) w36_5.toNatClampNeg) + (S.i (S.f o1 32) ((w36_5 + x2) - (w36_5 + x2) / x1 * x1).toNatClampNeg)) else w36_4)), (3, .int (if w36_3 < ((S.i (S.f o1 29) w36_5.toNatClampNeg) + (S.i (S.f o1 31) ((w36_5 + x2) - (w36_5 + x2) / x1 * x1).toNatClampNeg)) then ((S.i (S.f o1 29) w36_5.toNatClampNeg) + (S.i (S.f o1 31) ((w36_5 + x2) - (w36_5 + x2) / x1 * x1).toNatClampNeg)) else w36_3)), (0, .ref o1), (1, .int x1), (2, .int x2)]) hx hb dX12_peakBy_92 hl (k := 2) rfl (by rfl) (by decide) rfl (fun ls hl => ?_)
        refine lv_goto (tgt := 36) hx hb dX12_peakBy_95 (by decide) ?_
        have i25 : (w36_5 + (1 : Int32)).toInt = w36_5.toInt + 1 := t_addr (n := 1) rfl (by omega)
        exact ih36 (if w36_3 < ((S.i (S.f o1 29) w36_5.toNatClampNeg) + (S.i (S.f o1 31) ((w36_5 + x2) - (w36_5 + x2) / x1 * x1).toNatClampNeg)) then ((S.i (S.f o1 29) w36_5.toNatClampNeg) + (S.i (S.f o1 31) ((w36_5 + x2) - (w36_5 + x2) / x1 * x1).toNatClampNeg)) else w36_3) (if ((S.i (S.f o1 30) w36_5.toNatClampNeg) + (S.i (S.f o1 32) ((w36_5 + x2) - (w36_5 + x2) / x1 * x1).toNatClampNeg)) < w36_4 then ((S.i (S.f o1 30) w36_5.toNatClampNeg) + (S.i (S.f o1 32) ((w36_5 + x2) - (w36_5 + x2) / x1 * x1).toNatClampNeg)) else w36_4) (w36_5 + (1 : Int32)) _ _ _ (Nat.lt_of_lt_of_le (by omega) (Nat.le_of_lt_succ hm36)) (by omega) hP hS (lv_sub hl [0, 1, 2, 3, 4, 5] rfl) ko36
  refine loop36 202 ((S.i (S.f o1 29) (0 : Int32).toNatClampNeg) + (S.i (S.f o1 31) (x2 - x2 / x1 * x1).toNatClampNeg)) ((S.i (S.f o1 30) (0 : Int32).toNatClampNeg) + (S.i (S.f o1 32) (x2 - x2 / x1 * x1).toNatClampNeg)) (1 : Int32) _ _ _ (by omega) (by omega) hP hS (lv_sub hl [0, 1, 2, 3, 4, 5] rfl) (fun z27 z28 z29 H locs ls hi36 hP hS hl => ?_)
  refine lv_iload_n hx hb dX12_peakBy_98 rfl (lv_at hl 2 rfl) ?_
  refine lv_iload hx hb dX12_peakBy_99 (lv_at hl 1 rfl) ?_
  refine lv_isub hx hb dX12_peakBy_101 ?_
  refine W.widen (k := 0) (n := 0) (Nat.le_of_ble_eq_true rfl) (Nat.le_of_ble_eq_true rfl) ?_
  exact W.iret (v := z27 - z28) hx hb hr (fun t ht hW9 => ⟨⟨z27 - z28, (), rfl, trivial, wd_end hP hK hD ht hW9.alike⟩, hS.F ht⟩) hS.2.2 dX12_peakBy_102 hlocks
theorem hd_X12_peakOf : yX12_peakOf.cls = RX12 ∧ yX12_peakOf.cls ≠ "java/lang/invoke/MethodHandle" ∧ yX12_peakOf.cls ≠ "java/lang/invoke/VarHandle" ∧ (parseMethodDescriptor yX12_peakOf.desc).map (fun d => d.parameters.length) = some 3 := by decide +kernel
set_option maxHeartbeats 4000000 in
set_option maxRecDepth 100000 in
theorem c_X12_peakOf (l : Launch) {D : va_G} {cy : Nat → ClassId} {X : va_W} (S : wPS) (sz : Nat) (o1 : Nat) (h_o1 : isA S o1 12) (o2 : Nat) (h_o2 : isA S o2 10) (o3 : Nat) (h_o3 : isA S o3 10) (x1 : Int32) (hW : wtB S []) (h2 : 0 ≤ x1.toInt ∧ x1.toInt ≤ 300) : Met l yX12_peakOf wsX12_peakOf ({ frames := 18, cells := 0, slots := 0, locals := 380 }) (va_Pc [.ref o1, .ref o2, .ref o3, .int x1] (fun U => U.heap.size = sz ∧ WD D cy X (fun _ => True) S U ∧ NW U)) (va_Qi (fun r (u : wPS) => stp [(17, 100)] [] [] S u) (fun u t => WD D cy X (va_A (X ++ PL cy S) sz) u t) (va_A (X ++ PL cy S) sz)) 0 0 (va_A (X ++ PL cy S) sz) := by
  refine Met.ofW (cc := cX12_peakOf) (maxL := 4) (ret := (some .int)) (by decide) rfl ?_
  intro p e s m args below meth c s₁ B hml hv
  obtain ⟨rfl, hsz, ⟨hP, hK, hD0⟩, hN⟩ := hv
  have hx := B.exec
  have hb := B.bytes
  have hr := B.returns
  have hts := atoms_spec (ws := wsX12_peakOf) B.pre
  have hown : s.vm.findClass RX12 = some m.cls := findClass_of_methodNamed (x := yX12_peakOf) B.named
  have hlocks := B.notSynchronized
  subst hsz
  have hD := hD0.self (sz := s.heap.size)
  generalize hAe : va_A (X ++ PL cy S) s.heap.size = A at hD ⊢
  have hA : ∀ q : Nat, s.heap.size ≤ q → A q := fun q h => by rw [← hAe]; exact Or.inr h
  have hS : va_S A s.heap s.heap [] := va_S.rf
  have hl := lv_entry ([.ref o1, .ref o2, .ref o3, .int x1]) (n := 4) (Nat.le_of_ble_eq_true rfl)
  rw [lg_entry_eq]
  generalize (lg_sl ([.ref o1, .ref o2, .ref o3, .int x1]) ++ List.replicate (4 - (lg_sl ([.ref o1, .ref o2, .ref o3, .int x1])).length) Slot.unset).toArray = ls at hl ⊢
  have hl : lv_has ls 4 [(0, .ref o1), (1, .ref o2), (2, .ref o3), (3, .int x1)] := hl
  have t0 : stp [(17, 100)] [] [] S S := stp.rf hW
  refine lv_aload_n hx hb dX12_peakOf_0 rfl (lv_at hl 0 rfl) ?_
  refine lv_aload_n hx hb dX12_peakOf_1 rfl (lv_at hl 0 rfl) ?_
  refine lv_aload_n hx hb dX12_peakOf_2 rfl (lv_at hl 1 rfl) ?_
  refine lv_aload_n hx hb dX12_peakOf_3 rfl (lv_at hl 2 rfl) ?_
  have hFc := free_all hD hS hA
  obtain ⟨k1, gk1, hk1⟩ := wGt (cy := cy) X S h_o1.1 h_o1.2.1
  refine va_calli (va_runV (As := [.ref o2, .ref o3]) (rest := [.ref o1]) ⟨hx, hb, hml, hown, hts⟩ (c_X12_laysPlaces l (cy := cy) (X := X) (D := D) S _ o1 h_o1 o2 h_o2 o3 h_o3 (hW)) (cwV 2 hts gX12_peakOf_X12_laysPlaces rfl rfl rfl hd_X12_laysPlaces ⟨Nat.le_of_ble_eq_true rfl, Nat.le_of_ble_eq_true rfl⟩) ⟨fun a U g mk q => ⟨q.1, q.2.1, q.2.2.1.calling, NW.same (u := U) (U := U.calling g mk a) rfl q.2.2.2⟩, va_recv hK hP (q := (RX12, TX12, 34)) (ci := 16) (q0 := k1) rfl hk1, fun U hU hW => ⟨rfl, by rw [hU], wd_pre hP hK hD hU hW, hN.warm hW⟩⟩ rfl rfl hl.1 rfl (lv_room (Nat.le_of_ble_eq_true rfl)) dX12_peakOf_4 ⟨(Nat.zero_le _), (Nat.zero_le _)⟩) hS (fun q _ h => hFc q h) hFc (fun r2 u t H1 locs ht hvm hw hB hz1 hk1 hS => ?_)
  obtain ⟨w3, y4⟩ := hw
  obtain ⟨hP, hD⟩ := wd_post hFc ht hB
  generalize H1 = H at hP hS ⊢
  obtain ⟨S5, rfl⟩ : ∃ z, z = u := ⟨_, rfl⟩
  have t6 : stp [(17, 100)] [] [] S S5 := t0.tr w3 (by decide) (fun _ q => absurd q List.not_mem_nil)
  have xe7 : ext S S5 := w3.x
  refine lv_iload_n hx hb dX12_peakOf_7 rfl (lv_at hl 3 rfl) ?_
  have hFc := free_all hD hS hA
  obtain ⟨k8, gk8, hk8⟩ := wGt (cy := cy) X S5 (xe7.A h_o1).1 (xe7.A h_o1).2.1
  refine va_calli (va_runV (As := [.int r2, .int x1]) (rest := []) ⟨hx, hb, hml, hown, hts⟩ (c_X12_peakBy l (cy := cy) (X := X) (D := D) S5 _ o1 (xe7.A h_o1) r2 x1 (t6.w) (by omega) (by omega)) (cwV 2 hts gX12_peakOf_X12_peakBy rfl rfl rfl hd_X12_peakBy ⟨Nat.le_of_ble_eq_true rfl, Nat.le_of_ble_eq_true rfl⟩) ⟨fun a U g mk q => ⟨q.1, q.2.1, q.2.2.1.calling, NW.same (u := U) (U := U.calling g mk a) rfl q.2.2.2⟩, va_recv hK hP (q := (RX12, TX12, 34)) (ci := 16) (q0 := k8) rfl hk8, fun U hU hW => ⟨rfl, by rw [hU], wd_pre hP hK hD hU hW, hN.warm hW⟩⟩ rfl rfl hl.1 rfl (lv_room (Nat.le_of_ble_eq_true rfl)) dX12_peakOf_8 ⟨(Nat.zero_le _), (Nat.zero_le _)⟩) hS (fun q _ h => hFc q h) hFc (fun r9 u t H1 locs ht hvm hw hB hz1 hk1 hS => ?_)
  clear hw
  obtain ⟨hP, hD⟩ := wd_post hFc ht hB
  generalize H1 = H at hP hS ⊢
  refine W.widen (k := 0) (n := 0) (Nat.le_of_ble_eq_true rfl) (Nat.le_of_ble_eq_true rfl) ?_
  exact W.iret (v := r9) hx hb hr (fun t ht hW9 => ⟨⟨r9, S5, rfl, t6, wd_end hP hK hD ht hW9.alike⟩, hS.F ht⟩) hS.2.2 dX12_peakOf_11 hlocks
theorem hd_X12_quietestOf : yX12_quietestOf.cls = RX12 ∧ yX12_quietestOf.cls ≠ "java/lang/invoke/MethodHandle" ∧ yX12_quietestOf.cls ≠ "java/lang/invoke/VarHandle" ∧ (parseMethodDescriptor yX12_quietestOf.desc).map (fun d => d.parameters.length) = some 2 := by decide +kernel
set_option maxHeartbeats 4000000 in
set_option maxRecDepth 100000 in
theorem c_X12_quietestOf (l : Launch) {D : va_G} {cy : Nat → ClassId} {X : va_W} (S : wPS) (sz : Nat) (o1 : Nat) (h_o1 : isA S o1 12) (o2 : Nat) (h_o2 : isA S o2 10) (o3 : Nat) (h_o3 : isA S o3 10) (hW : wtB S [])  : Met l yX12_quietestOf wsX12_quietestOf ({ frames := 18, cells := 0, slots := 0, locals := 380 }) (va_Pc [.ref o1, .ref o2, .ref o3] (fun U => U.heap.size = sz ∧ WD D cy X (fun _ => True) S U ∧ NW U)) (va_Qi (fun r (u : wPS) => stp [(17, 100)] [] [] S u ∧ 0 ≤ r.toInt ∧ r.toInt ≤ 200) (fun u t => WD D cy X (va_A (X ++ PL cy S) sz) u t) (va_A (X ++ PL cy S) sz)) 0 0 (va_A (X ++ PL cy S) sz) := by
  refine Met.ofW (cc := cX12_quietestOf) (maxL := 6) (ret := (some .int)) (by decide) rfl ?_
  intro p e s m args below meth c s₁ B hml hv
  obtain ⟨rfl, hsz, ⟨hP, hK, hD0⟩, hN⟩ := hv
  have hx := B.exec
  have hb := B.bytes
  have hr := B.returns
  have hts := atoms_spec (ws := wsX12_quietestOf) B.pre
  have hown : s.vm.findClass RX12 = some m.cls := findClass_of_methodNamed (x := yX12_quietestOf) B.named
  have hlocks := B.notSynchronized
  subst hsz
  have hD := hD0.self (sz := s.heap.size)
  generalize hAe : va_A (X ++ PL cy S) s.heap.size = A at hD ⊢
  have hA : ∀ q : Nat, s.heap.size ≤ q → A q := fun q h => by rw [← hAe]; exact Or.inr h
  have hS : va_S A s.heap s.heap [] := va_S.rf
  have hl := lv_entry ([.ref o1, .ref o2, .ref o3]) (n := 6) (Nat.le_of_ble_eq_true rfl)
  rw [lg_entry_eq]
  generalize (lg_sl ([.ref o1, .ref o2, .ref o3]) ++ List.replicate (6 - (lg_sl ([.ref o1, .ref o2, .ref o3])).length) Slot.unset).toArray = ls at hl ⊢
  have hl : lv_has ls 6 [(0, .ref o1), (1, .ref o2), (2, .ref o3)] := hl
  have t0 : stp [(17, 100)] [] [] S S := stp.rf hW
  refine lv_aload_n hx hb dX12_quietestOf_0 rfl (lv_at hl 0 rfl) ?_
  refine lv_aload_n hx hb dX12_quietestOf_1 rfl (lv_at hl 1 rfl) ?_
  refine lv_aload_n hx hb dX12_quietestOf_2 rfl (lv_at hl 2 rfl) ?_
  have hFc := free_all hD hS hA
  obtain ⟨k1, gk1, hk1⟩ := wGt (cy := cy) X S h_o1.1 h_o1.2.1
  refine va_calli (va_runV (As := [.ref o2, .ref o3]) (rest := []) ⟨hx, hb, hml, hown, hts⟩ (c_X12_laysPlaces l (cy := cy) (X := X) (D := D) S _ o1 h_o1 o2 h_o2 o3 h_o3 (hW)) (cwV 2 hts gX12_quietestOf_X12_laysPlaces rfl rfl rfl hd_X12_laysPlaces ⟨Nat.le_of_ble_eq_true rfl, Nat.le_of_ble_eq_true rfl⟩) ⟨fun a U g mk q => ⟨q.1, q.2.1, q.2.2.1.calling, NW.same (u := U) (U := U.calling g mk a) rfl q.2.2.2⟩, va_recv hK hP (q := (RX12, TX12, 34)) (ci := 16) (q0 := k1) rfl hk1, fun U hU hW => ⟨rfl, by rw [hU], wd_pre hP hK hD hU hW, hN.warm hW⟩⟩ rfl rfl hl.1 rfl (lv_room (Nat.le_of_ble_eq_true rfl)) dX12_quietestOf_3 ⟨(Nat.zero_le _), (Nat.zero_le _)⟩) hS (fun q _ h => hFc q h) hFc (fun r2 u t H1 locs ht hvm hw hB hz1 hk1 hS => ?_)
  obtain ⟨w3, y4⟩ := hw
  obtain ⟨hP, hD⟩ := wd_post hFc ht hB
  generalize H1 = H at hP hS ⊢
  obtain ⟨S5, rfl⟩ : ∃ z, z = u := ⟨_, rfl⟩
  have t6 : stp [(17, 100)] [] [] S S5 := t0.tr w3 (by decide) (fun _ q => absurd q List.not_mem_nil)
  have xe7 : ext S S5 := w3.x
  refine lv_istore_n (lv' := [(3, .int r2), (0, .ref o1), (1, .ref o2), (2, .ref o3)]) hx hb dX12_quietestOf_6 rfl hl (by decide) rfl (fun ls hl => ?_)
  refine lv_iconst (v := 0) hx hb dX12_quietestOf_7 (by decide) ?_
  refine lv_istore (lv' := [(4, .int (0 : Int32)), (3, .int r2), (0, .ref o1), (1, .ref o2), (2, .ref o3)]) hx hb dX12_quietestOf_8 hl (by decide) rfl (fun ls hl => ?_)
  refine lv_iconst (v := 1) hx hb dX12_quietestOf_10 (by decide) ?_
  refine lv_istore (lv' := [(5, .int (1 : Int32)), (4, .int (0 : Int32)), (3, .int r2), (0, .ref o1), (1, .ref o2), (2, .ref o3)]) hx hb dX12_quietestOf_11 hl (by decide) rfl (fun ls hl => ?_)
  have l32_1 : (1 : Int32).toInt = 1 := rfl
  have l32_0 : (0 : Int32).toInt = 0 := rfl
  have loop13 : ∀ (n : Nat) (w13_4 : Int32) (w13_5 : Int32) (H : Heap) (locs : List Loc) (ls : Array Slot), (201 - w13_5.toInt).toNat < n → 1 ≤ w13_5.toInt ∧ w13_5.toInt ≤ 201 ∧ 0 ≤ w13_4.toInt ∧ w13_4.toInt ≤ 200 → va_P D vwCl (X ++ PL cy S5) H → va_S A s.heap H locs → lv_has ls 6 [(5, .int w13_5), (4, .int w13_4), (3, .int r2), (0, .ref o1), (1, .ref o2), (2, .ref o3)] → (∀ (w13_4x : Int32) (w13_5x : Int32) (H : Heap) (locs : List Loc) (ls : Array Slot), 1 ≤ w13_5x.toInt ∧ w13_5x.toInt ≤ 201 ∧ 0 ≤ w13_4x.toInt ∧ w13_4x.toInt ≤ 200 → va_P D vwCl (X ++ PL cy S5) H → va_S A s.heap H locs → lv_has ls 6 [(5, .int w13_5x), (4, .int w13_4x), (3, .int r2), (0, .ref o1), (1, .ref o2), (2, .ref o3)] → W p l e (headSpec wsX12_quietestOf ({ frames := 18, cells := 0, slots := 0, locals := 380 } : Room)).room s m [.ref o1, .ref o2, .ref o3].toArray below meth c H locs 0 0 (MQ below (va_Qi (fun r (u : wPS) => stp [(17, 100)] [] [] S u ∧ 0 ≤ r.toInt ∧ r.toInt ≤ 200) (fun u t => WD D cy X A u t) A) [.ref o1, .ref o2, .ref o3].toArray s 0 0 A) (F0 m 51 ls [])) → W p l e (headSpec wsX12_quietestOf ({ frames := 18, cells := 0, slots := 0, locals := 380 } : Room)).room s m [.ref o1, .ref o2, .ref o3].toArray below meth c H locs 0 0 (MQ below (va_Qi (fun r (u : wPS) => stp [(17, 100)] [] [] S u ∧ 0 ≤ r.toInt ∧ r.toInt ≤ 200) (fun u t => WD D cy X A u t) A) [.ref o1, .ref o2, .ref o3].toArray s 0 0 A) (F0 m 13 ls []) := by
    intro n13
    induction n13 with
    | zero => intro w13_4 w13_5 H locs ls hm; exact absurd hm (Nat.not_lt_zero _)
    | succ n13 ih13 =>
      intro w13_4 w13_5 H locs ls hm13 hi13 hP hS hl ko13
      refine lv_iload hx hb dX12_quietestOf_13 (lv_at hl 0 rfl) ?_
      refine lv_iload_n hx hb dX12_quietestOf_15 rfl (lv_at hl 2 rfl) ?_
      refine lv_icmp_ge (tgt := 51) hx hb dX12_quietestOf_16 (by decide) (fun c8 => ?_) (fun c8 => ?_)
      · have c8i : r2.toInt ≤ w13_5.toInt := le_v rfl rfl c8
        exact ko13 w13_4 w13_5 _ _ _ (by omega) hP hS (lv_sub hl [0, 1, 2, 3, 4, 5] rfl)
      · have c8i : w13_5.toInt < r2.toInt := nle_v rfl rfl c8
        refine lv_aload_n hx hb dX12_quietestOf_19 rfl (lv_at hl 3 rfl) ?_
        refine lv_iload_n hx hb dX12_quietestOf_20 rfl (lv_at hl 2 rfl) ?_
        refine lv_iload hx hb dX12_quietestOf_21 (lv_at hl 0 rfl) ?_
        have hFc := free_all hD hS hA
        obtain ⟨k9, gk9, hk9⟩ := wGt (cy := cy) X S5 (xe7.A h_o1).1 (xe7.A h_o1).2.1
        refine va_calli (va_runV (As := [.int r2, .int w13_5]) (rest := []) ⟨hx, hb, hml, hown, hts⟩ (c_X12_peakBy l (cy := cy) (X := X) (D := D) S5 _ o1 (xe7.A h_o1) r2 w13_5 (t6.w) (by omega) (by omega)) (cwV 2 hts gX12_quietestOf_X12_peakBy rfl rfl rfl hd_X12_peakBy ⟨Nat.le_of_ble_eq_true rfl, Nat.le_of_ble_eq_true rfl⟩) ⟨fun a U g mk q => ⟨q.1, q.2.1, q.2.2.1.calling, NW.same (u := U) (U := U.calling g mk a) rfl q.2.2.2⟩, va_recv hK hP (q := (RX12, TX12, 34)) (ci := 16) (q0 := k9) rfl hk9, fun U hU hW => ⟨rfl, by rw [hU], wd_pre hP hK hD hU hW, hN.warm hW⟩⟩ rfl rfl hl.1 rfl (lv_room (Nat.le_of_ble_eq_true rfl)) dX12_quietestOf_23 ⟨(Nat.zero_le _), (Nat.zero_le _)⟩) hS (fun q _ h => hFc q h) hFc (fun r10 u t H1 locs ht hvm hw hB hz1 hk1 hS => ?_)
        clear hw
        obtain ⟨hP, hD⟩ := wd_post hFc ht hB
        generalize H1 = H at hP hS ⊢
        refine lv_aload_n hx hb dX12_quietestOf_26 rfl (lv_at hl 3 rfl) ?_
        refine lv_iload_n hx hb dX12_quietestOf_27 rfl (lv_at hl 2 rfl) ?_
        refine lv_iload hx hb dX12_quietestOf_28 (lv_at hl 1 rfl) ?_
        have hFc := free_all hD hS hA
        obtain ⟨k11, gk11, hk11⟩ := wGt (cy := cy) X S5 (xe7.A h_o1).1 (xe7.A h_o1).2.1
        refine va_calli (va_runV (As := [.int r2, .int w13_4]) (rest := [.int r10]) ⟨hx, hb, hml, hown, hts⟩ (c_X12_peakBy l (cy := cy) (X := X) (D := D) S5 _ o1 (xe7.A h_o1) r2 w13_4 (t6.w) (by omega) (by omega)) (cwV 2 hts gX12_quietestOf_X12_peakBy rfl rfl rfl hd_X12_peakBy ⟨Nat.le_of_ble_eq_true rfl, Nat.le_of_ble_eq_true rfl⟩) ⟨fun a U g mk q => ⟨q.1, q.2.1, q.2.2.1.calling, NW.same (u := U) (U := U.calling g mk a) rfl q.2.2.2⟩, va_recv hK hP (q := (RX12, TX12, 34)) (ci := 16) (q0 := k11) rfl hk11, fun U hU hW => ⟨rfl, by rw [hU], wd_pre hP hK hD hU hW, hN.warm hW⟩⟩ rfl rfl hl.1 rfl (lv_room (Nat.le_of_ble_eq_true rfl)) dX12_quietestOf_30 ⟨(Nat.zero_le _), (Nat.zero_le _)⟩) hS (fun q _ h => hFc q h) hFc (fun r12 u t H1 locs ht hvm hw hB hz1 hk1 hS => ?_)
        clear hw
        obtain ⟨hP, hD⟩ := wd_post hFc ht hB
        generalize H1 = H at hP hS ⊢
        refine lv_icmp_ge (tgt := 41) hx hb dX12_quietestOf_33 (by decide) (fun c13 => ?_) (fun c13 => ?_)
        · have c13i : r12.toInt ≤ r10.toInt := le_v rfl rfl c13
          refine lv_iload hx hb dX12_quietestOf_41 (lv_at hl 1 rfl) ?_
          refine lv_istore (lv' := [(4, .int w13_4), (5, .int w13_5), (3, .int r2), (0, .ref o1), (1, .ref o2), (2, .ref o3)]) hx hb dX12_quietestOf_43 hl (by decide) rfl (fun ls hl => ?_)
          refine lv_iinc (v := w13_5 + (1 : Int32)) (lv' := [(5, .int (w13_5 + (1 : Int32))), (4, .int w13_4), (3, .int r2), (0, .ref o1), (1, .ref o2), (2, .ref o3)]) hx hb dX12_quietestOf_45 hl (k := 1) rfl (by rfl) (by decide) rfl (fun ls hl => ?_)
          refine lv_goto (tgt := 13) hx hb dX12_quietestOf_48 (by decide) ?_
          have i14 : (w13_5 + (1 : Int32)).toInt = w13_5.toInt + 1 := t_addr (n := 1) rfl (by omega)
          exact ih13 w13_4 (w13_5 + (1 : Int32)) _ _ _ (Nat.lt_of_lt_of_le (by omega) (Nat.le_of_lt_succ hm13)) (by omega) hP hS (lv_sub hl [0, 1, 2, 3, 4, 5] rfl) ko13
        · have c13i : r10.toInt < r12.toInt := nle_v rfl rfl c13
          refine lv_iload hx hb dX12_quietestOf_36 (lv_at hl 0 rfl) ?_
          refine lv_goto (tgt := 43) hx hb dX12_quietestOf_38 (by decide) ?_
          refine lv_istore (lv' := [(4, .int w13_5), (5, .int w13_5), (3, .int r2), (0, .ref o1), (1, .ref o2), (2, .ref o3)]) hx hb dX12_quietestOf_43 hl (by decide) rfl (fun ls hl => ?_)
          refine lv_iinc (v := w13_5 + (1 : Int32)) (lv' := [(5, .int (w13_5 + (1 : Int32))), (4, .int w13_5), (3, .int r2), (0, .ref o1), (1, .ref o2), (2, .ref o3)]) hx hb dX12_quietestOf_45 hl (k := 1) rfl (by rfl) (by decide) rfl (fun ls hl => ?_)
          refine lv_goto (tgt := 13) hx hb dX12_quietestOf_48 (by decide) ?_
          have i15 : (w13_5 + (1 : Int32)).toInt = w13_5.toInt + 1 := t_addr (n := 1) rfl (by omega)
          exact ih13 w13_5 (w13_5 + (1 : Int32)) _ _ _ (Nat.lt_of_lt_of_le (by omega) (Nat.le_of_lt_succ hm13)) (by omega) hP hS (lv_sub hl [0, 1, 2, 3, 4, 5] rfl) ko13
  refine loop13 202 (0 : Int32) (1 : Int32) _ _ _ (by omega) (by omega) hP hS (lv_sub hl [0, 1, 2, 3, 4, 5] rfl) (fun z17 z18 H locs ls hi13 hP hS hl => ?_)
  refine lv_iload hx hb dX12_quietestOf_51 (lv_at hl 1 rfl) ?_
  refine W.widen (k := 0) (n := 0) (Nat.le_of_ble_eq_true rfl) (Nat.le_of_ble_eq_true rfl) ?_
  exact W.iret (v := z17) hx hb hr (fun t ht hW9 => ⟨⟨z17, S5, rfl, ⟨t6, (by omega)⟩, wd_end hP hK hD ht hW9.alike⟩, hS.F ht⟩) hS.2.2 dX12_quietestOf_53 hlocks
theorem hd_X12_peak : yX12_peak.cls = RX12 ∧ yX12_peak.cls ≠ "java/lang/invoke/MethodHandle" ∧ yX12_peak.cls ≠ "java/lang/invoke/VarHandle" ∧ (parseMethodDescriptor yX12_peak.desc).map (fun d => d.parameters.length) = some 3 := by decide +kernel
set_option maxHeartbeats 4000000 in
set_option maxRecDepth 100000 in
theorem c_X12_peak (l : Launch) {D : va_G} {cy : Nat → ClassId} {X : va_W} (S : wPS) (sz : Nat) (o1 : Nat) (h_o1 : isA S o1 12) (x1 : Int32) (x2 : Int32) (x3 : Int32) (hW : wtB S [])  : Met l yX12_peak wsX12_peak ({ frames := 19, cells := 0, slots := 0, locals := 403 }) (va_Pc [.ref o1, .int x1, .int x2, .int x3] (fun U => U.heap.size = sz ∧ WD D cy X (fun _ => True) S U ∧ NW U)) (va_Qi (fun r (u : wPS) => stp [(12, 15), (17, 100)] [] [] S u) (fun u t => WD D cy X (va_A (X ++ PL cy S) sz) u t) (va_A (X ++ PL cy S) sz)) 0 0 (va_A (X ++ PL cy S) sz) := by
  refine Met.ofW (cc := cX12_peak) (maxL := 4) (ret := (some .int)) (by decide) rfl ?_
  intro p e s m args below meth c s₁ B hml hv
  obtain ⟨rfl, hsz, ⟨hP, hK, hD0⟩, hN⟩ := hv
  have hx := B.exec
  have hb := B.bytes
  have hr := B.returns
  have hts := atoms_spec (ws := wsX12_peak) B.pre
  have hown : s.vm.findClass RX12 = some m.cls := findClass_of_methodNamed (x := yX12_peak) B.named
  have hlocks := B.notSynchronized
  subst hsz
  have hD := hD0.self (sz := s.heap.size)
  generalize hAe : va_A (X ++ PL cy S) s.heap.size = A at hD ⊢
  have hA : ∀ q : Nat, s.heap.size ≤ q → A q := fun q h => by rw [← hAe]; exact Or.inr h
  have hS : va_S A s.heap s.heap [] := va_S.rf
  have hl := lv_entry ([.ref o1, .int x1, .int x2, .int x3]) (n := 4) (Nat.le_of_ble_eq_true rfl)
  rw [lg_entry_eq]
  generalize (lg_sl ([.ref o1, .int x1, .int x2, .int x3]) ++ List.replicate (4 - (lg_sl ([.ref o1, .int x1, .int x2, .int x3])).length) Slot.unset).toArray = ls at hl ⊢
  have hl : lv_has ls 4 [(0, .ref o1), (1, .int x1), (2, .int x2), (3, .int x3)] := hl
  have t0 : stp [(12, 15), (17, 100)] [] [] S S := stp.rf hW
  refine lv_aload_n hx hb dX12_peak_0 rfl (lv_at hl 0 rfl) ?_
  refine lv_iload_n hx hb dX12_peak_1 rfl (lv_at hl 1 rfl) ?_
  have hFc := free_all hD hS hA
  obtain ⟨k1, gk1, hk1⟩ := wGt (cy := cy) X S h_o1.1 h_o1.2.1
  refine va_calli (va_runV (As := [.int x1]) (rest := []) ⟨hx, hb, hml, hown, hts⟩ (c_X12_isGear l (cy := cy) (X := X) (D := D) S _ o1 h_o1 x1 (hW)) (cwV 1 hts gX12_peak_X12_isGear rfl rfl rfl hd_X12_isGear ⟨Nat.le_of_ble_eq_true rfl, Nat.le_of_ble_eq_true rfl⟩) ⟨fun a U g mk q => ⟨q.1, q.2.1, q.2.2.1.calling, NW.same (u := U) (U := U.calling g mk a) rfl q.2.2.2⟩, va_recv hK hP (q := (RX12, TX12, 34)) (ci := 16) (q0 := k1) rfl hk1, fun U hU hW => ⟨rfl, by rw [hU], wd_pre hP hK hD hU hW, hN.warm hW⟩⟩ rfl rfl hl.1 rfl (lv_room (Nat.le_of_ble_eq_true rfl)) dX12_peak_2 ⟨(Nat.zero_le _), (Nat.zero_le _)⟩) hS (fun q _ h => hFc q h) hFc (fun r2 u t H1 locs ht hvm hw hB hz1 hk1 hS => ?_)
  have c3 := hw
  obtain ⟨hP, hD⟩ := wd_post hFc ht hB
  generalize H1 = H at hP hS ⊢
  obtain rfl : r2 = f_X12_isGear S o1 x1 := c3
  have F4 := ((hW.at h_o1 List.not_mem_nil).to_12 h_o1.2.1).F0
  have i5 : (f_X12_isGear S o1 x1).toInt = 0 ∨ (0 ≤ x1.toInt ∧ x1.toInt < (S.I (S.f o1 0) 2).toInt) := by have h9 := ig_rng x1 ((hW.at h_o1 List.not_mem_nil).to_12 h_o1.2.1) hW; rw [f_of F4.1] at h9; exact h9
  refine lv_if_eq (tgt := 16) hx hb dX12_peak_5 (by decide) (fun c6 => ?_) (fun c6 => ?_)
  · have c6i : (f_X12_isGear S o1 x1).toInt = 0 := eq_v rfl rfl c6
    refine lv_aload_n hx hb dX12_peak_16 rfl (lv_at hl 0 rfl) ?_
    refine lv_iconst (v := 1) hx hb dX12_peak_17 (by decide) ?_
    have l32_1 : (1 : Int32).toInt = 1 := rfl
    have hFc := free_all hD hS hA
    obtain ⟨k7, gk7, hk7⟩ := wGt (cy := cy) X S h_o1.1 h_o1.2.1
    refine va_calli (va_runV (As := [.int (1 : Int32)]) (rest := []) ⟨hx, hb, hml, hown, hts⟩ (c_X12_fails l (cy := cy) (X := X) (D := D) S _ o1 h_o1 (1 : Int32) (hW)) (cwV 1 hts gX12_peak_X12_fails rfl rfl rfl hd_X12_fails ⟨Nat.le_of_ble_eq_true rfl, Nat.le_of_ble_eq_true rfl⟩) ⟨fun a U g mk q => ⟨q.1, q.2.1, q.2.2.1.calling, NW.same (u := U) (U := U.calling g mk a) rfl q.2.2.2⟩, va_recv hK hP (q := (RX12, TX12, 34)) (ci := 16) (q0 := k7) rfl hk7, fun U hU hW => ⟨rfl, by rw [hU], wd_pre hP hK hD hU hW, hN.warm hW⟩⟩ rfl rfl hl.1 rfl (lv_room (Nat.le_of_ble_eq_true rfl)) dX12_peak_18 ⟨(Nat.zero_le _), (Nat.zero_le _)⟩) hS (fun q _ h => hFc q h) hFc (fun r8 u t H1 locs ht hvm hw hB hz1 hk1 hS => ?_)
    obtain ⟨c9, w10⟩ := hw
    obtain ⟨hP, hD⟩ := wd_post hFc ht hB
    generalize H1 = H at hP hS ⊢
    obtain ⟨S11, rfl⟩ : ∃ z, z = u := ⟨_, rfl⟩
    have t12 : stp [(12, 15), (17, 100)] [] [] S S11 := t0.tr w10 (by decide) (fun _ q => absurd q List.not_mem_nil)
    have xe13 : ext S S11 := w10.x
    refine W.widen (k := 0) (n := 0) (Nat.le_of_ble_eq_true rfl) (Nat.le_of_ble_eq_true rfl) ?_
    exact W.iret (v := r8) hx hb hr (fun t ht hW9 => ⟨⟨r8, S11, rfl, t12, wd_end hP hK hD ht hW9.alike⟩, hS.F ht⟩) hS.2.2 dX12_peak_21 hlocks
  · have c6i : ¬ (f_X12_isGear S o1 x1).toInt = 0 := neq_v rfl rfl c6
    refine lv_aload_n hx hb dX12_peak_8 rfl (lv_at hl 0 rfl) ?_
    refine lv_iload_n hx hb dX12_peak_9 rfl (lv_at hl 2 rfl) ?_
    have hFc := free_all hD hS hA
    obtain ⟨k14, gk14, hk14⟩ := wGt (cy := cy) X S h_o1.1 h_o1.2.1
    refine va_calli (va_runV (As := [.int x2]) (rest := []) ⟨hx, hb, hml, hown, hts⟩ (c_X12_isGear l (cy := cy) (X := X) (D := D) S _ o1 h_o1 x2 (hW)) (cwV 1 hts gX12_peak_X12_isGear rfl rfl rfl hd_X12_isGear ⟨Nat.le_of_ble_eq_true rfl, Nat.le_of_ble_eq_true rfl⟩) ⟨fun a U g mk q => ⟨q.1, q.2.1, q.2.2.1.calling, NW.same (u := U) (U := U.calling g mk a) rfl q.2.2.2⟩, va_recv hK hP (q := (RX12, TX12, 34)) (ci := 16) (q0 := k14) rfl hk14, fun U hU hW => ⟨rfl, by rw [hU], wd_pre hP hK hD hU hW, hN.warm hW⟩⟩ rfl rfl hl.1 rfl (lv_room (Nat.le_of_ble_eq_true rfl)) dX12_peak_10 ⟨(Nat.zero_le _), (Nat.zero_le _)⟩) hS (fun q _ h => hFc q h) hFc (fun r15 u t H1 locs ht hvm hw hB hz1 hk1 hS => ?_)
    have c16 := hw
    obtain ⟨hP, hD⟩ := wd_post hFc ht hB
    generalize H1 = H at hP hS ⊢
    obtain rfl : r15 = f_X12_isGear S o1 x2 := c16
    have i17 : (f_X12_isGear S o1 x2).toInt = 0 ∨ (0 ≤ x2.toInt ∧ x2.toInt < (S.I (S.f o1 0) 2).toInt) := by have h9 := ig_rng x2 ((hW.at h_o1 List.not_mem_nil).to_12 h_o1.2.1) hW; rw [f_of F4.1] at h9; exact h9
    refine lv_if_ne (tgt := 22) hx hb dX12_peak_13 (by decide) (fun c18 => ?_) (fun c18 => ?_)
    · have c18i : ¬ (f_X12_isGear S o1 x2).toInt = 0 := neq_v rfl rfl c18
      refine lv_iload_n hx hb dX12_peak_22 rfl (lv_at hl 3 rfl) ?_
      refine lv_i2l hx hb dX12_peak_23 rfl ?_
      refine lv_lconst (v := 0) hx hb dX12_peak_24 (by decide) ?_
      refine lv_aload_n hx hb dX12_peak_25 rfl (lv_at hl 0 rfl) ?_
      refine lv_iload_n hx hb dX12_peak_26 rfl (lv_at hl 2 rfl) ?_
      have hFc := free_all hD hS hA
      obtain ⟨k19, gk19, hk19⟩ := wGt (cy := cy) X S h_o1.1 h_o1.2.1
      refine va_callq (va_runV (As := [.int x2]) (rest := [.long (0 : Int64), .long x3.toInt64]) ⟨hx, hb, hml, hown, hts⟩ (c_X12_gearAt l (cy := cy) (X := X) (D := D) S _ o1 h_o1 x2 (hW) (by rw [f_of F4.1]; omega)) (cwV 1 hts gX12_peak_X12_gearAt rfl rfl rfl hd_X12_gearAt ⟨Nat.le_of_ble_eq_true rfl, Nat.le_of_ble_eq_true rfl⟩) ⟨fun a U g mk q => ⟨q.1, q.2.1, q.2.2.1.calling, NW.same (u := U) (U := U.calling g mk a) rfl q.2.2.2⟩, va_recv hK hP (q := (RX12, TX12, 34)) (ci := 16) (q0 := k19) rfl hk19, fun U hU hW => ⟨rfl, by rw [hU], wd_pre hP hK hD hU hW, hN.warm hW⟩⟩ rfl rfl hl.1 rfl (lv_room (Nat.le_of_ble_eq_true rfl)) dX12_peak_27 ⟨(Nat.zero_le _), (Nat.zero_le _)⟩) hS (fun q _ h => hFc q h) hFc (fun r20 u t H1 locs ht hvm hw hB hz1 hk1 hS => ?_)
      obtain ⟨r20, rfl, o21⟩ := hw
      obtain ⟨hP, hD⟩ := wd_post hFc ht hB
      generalize H1 = H at hP hS ⊢
      refine W.eq (g2 := F0 m 30 ls [.ref r20, .long (0 : Int64), .long x3.toInt64]) rfl ?_
      obtain ⟨k22, gk22, hk22⟩ := wGt (cy := cy) X S o21.1 o21.2.1
      have i23 := ((hW.at o21 List.not_mem_nil).to_10 o21.2.1).R1
      refine va_getN (D := D) (ci := 14) (v := .int (S.I r20 1)) (C := RX10) (T := TX10) (N := 23) hx hb hts (by decide +kernel) hown hK hP k22 hk22 rfl 1 (by decide) (va_Nw.use rfl (hN (.fieldLinkNest RX12 332 "HobhouseModel$Gear" "teeth" "I" "HobhouseModel") (by decide +kernel))) (fun _ h9 => h9) rfl dX12_peak_30 ?_
      refine lv_iconst (v := 1) hx hb dX12_peak_33 (by decide) ?_
      refine lv_isub hx hb dX12_peak_34 ?_
      refine lv_i2l hx hb dX12_peak_35 rfl ?_
      have hFc := free_all hD hS hA
      refine va_calli (va_runS (As := [.long x3.toInt64, .long (0 : Int64), .long (((S.I r20 1) - (1 : Int32)).toInt64)]) (rest := []) ⟨hx, hb, hml, hown, hts⟩ (c_X12_in l (cy := cy) (X := X) (D := D) S _ x3.toInt64 (0 : Int64) (((S.I r20 1) - (1 : Int32)).toInt64)) (cwS 3 hts gX12_peak_X12_in rfl rfl rfl hd_X12_in ⟨Nat.le_of_ble_eq_true rfl, Nat.le_of_ble_eq_true rfl⟩) ⟨fun a U g mk q => ⟨q.1, q.2.1, q.2.2.1.calling, NW.same (u := U) (U := U.calling g mk a) rfl q.2.2.2⟩, fun U hU hW => ⟨rfl, by rw [hU], wd_pre hP hK hD hU hW, hN.warm hW⟩⟩ rfl rfl hl.1 rfl (lv_room (Nat.le_of_ble_eq_true rfl)) dX12_peak_36 ⟨(Nat.zero_le _), (Nat.zero_le _)⟩) hS (fun q _ h => hFc q h) hFc (fun r24 u t H1 locs ht hvm hw hB hz1 hk1 hS => ?_)
      have c25 := hw
      obtain ⟨hP, hD⟩ := wd_post hFc ht hB
      generalize H1 = H at hP hS ⊢
      obtain rfl : r24 = f_X12_in x3.toInt64 (0 : Int64) (((S.I r20 1) - (1 : Int32)).toInt64) := c25
      have i26 := i64_i x3
      have l64_0 : (0 : Int64).toInt = 0 := rfl
      have l32_1 : (1 : Int32).toInt = 1 := rfl
      have i27 : ((S.I r20 1) - (1 : Int32)).toInt = (S.I r20 1).toInt - 1 := t_subr (n := 1) rfl (by omega)
      have i28 := i64_i ((S.I r20 1) - (1 : Int32))
      have i29 := in_rng x3.toInt64 (0 : Int64) (((S.I r20 1) - (1 : Int32)).toInt64)
      refine lv_if_ne (tgt := 48) hx hb dX12_peak_39 (by decide) (fun c30 => ?_) (fun c30 => ?_)
      · have c30i : ¬ (f_X12_in x3.toInt64 (0 : Int64) (((S.I r20 1) - (1 : Int32)).toInt64)).toInt = 0 := neq_v rfl rfl c30
        refine lv_aload_n hx hb dX12_peak_48 rfl (lv_at hl 0 rfl) ?_
        refine lv_iload_n hx hb dX12_peak_49 rfl (lv_at hl 1 rfl) ?_
        refine lv_iload_n hx hb dX12_peak_50 rfl (lv_at hl 2 rfl) ?_
        have hFc := free_all hD hS hA
        obtain ⟨k31, gk31, hk31⟩ := wGt (cy := cy) X S h_o1.1 h_o1.2.1
        refine va_calli (va_runV (As := [.int x1, .int x2]) (rest := []) ⟨hx, hb, hml, hown, hts⟩ (c_X12_isPair l (cy := cy) (X := X) (D := D) S _ o1 h_o1 x1 x2 (hW) (by rw [f_of F4.1]; omega) (by rw [f_of F4.1]; omega)) (cwV 2 hts gX12_peak_X12_isPair rfl rfl rfl hd_X12_isPair ⟨Nat.le_of_ble_eq_true rfl, Nat.le_of_ble_eq_true rfl⟩) ⟨fun a U g mk q => ⟨q.1, q.2.1, q.2.2.1.calling, NW.same (u := U) (U := U.calling g mk a) rfl q.2.2.2⟩, va_recv hK hP (q := (RX12, TX12, 34)) (ci := 16) (q0 := k31) rfl hk31, fun U hU hW => ⟨rfl, by rw [hU], wd_pre hP hK hD hU hW, hN.warm hW⟩⟩ rfl rfl hl.1 rfl (lv_room (Nat.le_of_ble_eq_true rfl)) dX12_peak_51 ⟨(Nat.zero_le _), (Nat.zero_le _)⟩) hS (fun q _ h => hFc q h) hFc (fun r32 u t H1 locs ht hvm hw hB hz1 hk1 hS => ?_)
        have y33 := hw
        obtain ⟨hP, hD⟩ := wd_post hFc ht hB
        generalize H1 = H at hP hS ⊢
        refine lv_if_eq (tgt := 79) hx hb dX12_peak_54 (by decide) (fun c34 => ?_) (fun c34 => ?_)
        · have c34i : r32.toInt = 0 := eq_v rfl rfl c34
          refine lv_aload_n hx hb dX12_peak_79 rfl (lv_at hl 0 rfl) ?_
          refine lv_iconst (v := 3) hx hb dX12_peak_80 (by decide) ?_
          have l32_3 : (3 : Int32).toInt = 3 := rfl
          have hFc := free_all hD hS hA
          obtain ⟨k35, gk35, hk35⟩ := wGt (cy := cy) X S h_o1.1 h_o1.2.1
          refine va_calli (va_runV (As := [.int (3 : Int32)]) (rest := []) ⟨hx, hb, hml, hown, hts⟩ (c_X12_fails l (cy := cy) (X := X) (D := D) S _ o1 h_o1 (3 : Int32) (hW)) (cwV 1 hts gX12_peak_X12_fails rfl rfl rfl hd_X12_fails ⟨Nat.le_of_ble_eq_true rfl, Nat.le_of_ble_eq_true rfl⟩) ⟨fun a U g mk q => ⟨q.1, q.2.1, q.2.2.1.calling, NW.same (u := U) (U := U.calling g mk a) rfl q.2.2.2⟩, va_recv hK hP (q := (RX12, TX12, 34)) (ci := 16) (q0 := k35) rfl hk35, fun U hU hW => ⟨rfl, by rw [hU], wd_pre hP hK hD hU hW, hN.warm hW⟩⟩ rfl rfl hl.1 rfl (lv_room (Nat.le_of_ble_eq_true rfl)) dX12_peak_81 ⟨(Nat.zero_le _), (Nat.zero_le _)⟩) hS (fun q _ h => hFc q h) hFc (fun r36 u t H1 locs ht hvm hw hB hz1 hk1 hS => ?_)
          obtain ⟨c37, w38⟩ := hw
          obtain ⟨hP, hD⟩ := wd_post hFc ht hB
          generalize H1 = H at hP hS ⊢
          obtain ⟨S39, rfl⟩ : ∃ z, z = u := ⟨_, rfl⟩
          have t40 : stp [(12, 15), (17, 100)] [] [] S S39 := t0.tr w38 (by decide) (fun _ q => absurd q List.not_mem_nil)
          have xe41 : ext S S39 := w38.x
          refine W.widen (k := 0) (n := 0) (Nat.le_of_ble_eq_true rfl) (Nat.le_of_ble_eq_true rfl) ?_
          exact W.iret (v := r36) hx hb hr (fun t ht hW9 => ⟨⟨r36, S39, rfl, t40, wd_end hP hK hD ht hW9.alike⟩, hS.F ht⟩) hS.2.2 dX12_peak_84 hlocks
        · have c34i : ¬ r32.toInt = 0 := neq_v rfl rfl c34
          refine lv_aload_n hx hb dX12_peak_57 rfl (lv_at hl 0 rfl) ?_
          refine lv_aload_n hx hb dX12_peak_58 rfl (lv_at hl 0 rfl) ?_
          refine lv_aload_n hx hb dX12_peak_59 rfl (lv_at hl 0 rfl) ?_
          refine lv_iload_n hx hb dX12_peak_60 rfl (lv_at hl 1 rfl) ?_
          have hFc := free_all hD hS hA
          obtain ⟨k42, gk42, hk42⟩ := wGt (cy := cy) X S h_o1.1 h_o1.2.1
          refine va_callq (va_runV (As := [.int x1]) (rest := [.ref o1, .ref o1]) ⟨hx, hb, hml, hown, hts⟩ (c_X12_gearAt l (cy := cy) (X := X) (D := D) S _ o1 h_o1 x1 (hW) (by rw [f_of F4.1]; omega)) (cwV 1 hts gX12_peak_X12_gearAt rfl rfl rfl hd_X12_gearAt ⟨Nat.le_of_ble_eq_true rfl, Nat.le_of_ble_eq_true rfl⟩) ⟨fun a U g mk q => ⟨q.1, q.2.1, q.2.2.1.calling, NW.same (u := U) (U := U.calling g mk a) rfl q.2.2.2⟩, va_recv hK hP (q := (RX12, TX12, 34)) (ci := 16) (q0 := k42) rfl hk42, fun U hU hW => ⟨rfl, by rw [hU], wd_pre hP hK hD hU hW, hN.warm hW⟩⟩ rfl rfl hl.1 rfl (lv_room (Nat.le_of_ble_eq_true rfl)) dX12_peak_61 ⟨(Nat.zero_le _), (Nat.zero_le _)⟩) hS (fun q _ h => hFc q h) hFc (fun r43 u t H1 locs ht hvm hw hB hz1 hk1 hS => ?_)
          obtain ⟨r43, rfl, o44⟩ := hw
          obtain ⟨hP, hD⟩ := wd_post hFc ht hB
          generalize H1 = H at hP hS ⊢
          refine W.eq (g2 := F0 m 64 ls [.ref r43, .ref o1, .ref o1]) rfl ?_
          refine lv_aload_n hx hb dX12_peak_64 rfl (lv_at hl 0 rfl) ?_
          refine lv_iload_n hx hb dX12_peak_65 rfl (lv_at hl 2 rfl) ?_
          have hFc := free_all hD hS hA
          obtain ⟨k45, gk45, hk45⟩ := wGt (cy := cy) X S h_o1.1 h_o1.2.1
          refine va_callq (va_runV (As := [.int x2]) (rest := [.ref r43, .ref o1, .ref o1]) ⟨hx, hb, hml, hown, hts⟩ (c_X12_gearAt l (cy := cy) (X := X) (D := D) S _ o1 h_o1 x2 (hW) (by rw [f_of F4.1]; omega)) (cwV 1 hts gX12_peak_X12_gearAt rfl rfl rfl hd_X12_gearAt ⟨Nat.le_of_ble_eq_true rfl, Nat.le_of_ble_eq_true rfl⟩) ⟨fun a U g mk q => ⟨q.1, q.2.1, q.2.2.1.calling, NW.same (u := U) (U := U.calling g mk a) rfl q.2.2.2⟩, va_recv hK hP (q := (RX12, TX12, 34)) (ci := 16) (q0 := k45) rfl hk45, fun U hU hW => ⟨rfl, by rw [hU], wd_pre hP hK hD hU hW, hN.warm hW⟩⟩ rfl rfl hl.1 rfl (lv_room (Nat.le_of_ble_eq_true rfl)) dX12_peak_66 ⟨(Nat.zero_le _), (Nat.zero_le _)⟩) hS (fun q _ h => hFc q h) hFc (fun r46 u t H1 locs ht hvm hw hB hz1 hk1 hS => ?_)
          obtain ⟨r46, rfl, o47⟩ := hw
          obtain ⟨hP, hD⟩ := wd_post hFc ht hB
          generalize H1 = H at hP hS ⊢
          refine W.eq (g2 := F0 m 69 ls [.ref r46, .ref r43, .ref o1, .ref o1]) rfl ?_
          refine lv_iload_n hx hb dX12_peak_69 rfl (lv_at hl 3 rfl) ?_
          have hFc := free_all hD hS hA
          obtain ⟨k48, gk48, hk48⟩ := wGt (cy := cy) X S h_o1.1 h_o1.2.1
          refine va_calli (va_runV (As := [.ref r43, .ref r46, .int x3]) (rest := [.ref o1]) ⟨hx, hb, hml, hown, hts⟩ (c_X12_peakOf l (cy := cy) (X := X) (D := D) S _ o1 h_o1 r43 o44 r46 o47 x3 (hW) (by omega)) (cwV 3 hts gX12_peak_X12_peakOf rfl rfl rfl hd_X12_peakOf ⟨Nat.le_of_ble_eq_true rfl, Nat.le_of_ble_eq_true rfl⟩) ⟨fun a U g mk q => ⟨q.1, q.2.1, q.2.2.1.calling, NW.same (u := U) (U := U.calling g mk a) rfl q.2.2.2⟩, va_recv hK hP (q := (RX12, TX12, 34)) (ci := 16) (q0 := k48) rfl hk48, fun U hU hW => ⟨rfl, by rw [hU], wd_pre hP hK hD hU hW, hN.warm hW⟩⟩ rfl rfl hl.1 rfl (lv_room (Nat.le_of_ble_eq_true rfl)) dX12_peak_70 ⟨(Nat.zero_le _), (Nat.zero_le _)⟩) hS (fun q _ h => hFc q h) hFc (fun r49 u t H1 locs ht hvm hw hB hz1 hk1 hS => ?_)
          have w50 := hw
          obtain ⟨hP, hD⟩ := wd_post hFc ht hB
          generalize H1 = H at hP hS ⊢
          obtain ⟨S51, rfl⟩ : ∃ z, z = u := ⟨_, rfl⟩
          have t52 : stp [(12, 15), (17, 100)] [] [] S S51 := t0.tr w50 (by decide) (fun _ q => absurd q List.not_mem_nil)
          have xe53 : ext S S51 := w50.x
          have hFc := free_all hD hS hA
          obtain ⟨k54, gk54, hk54⟩ := wGt (cy := cy) X S51 (xe53.A h_o1).1 (xe53.A h_o1).2.1
          refine va_calli (va_runV (As := [.int r49]) (rest := []) ⟨hx, hb, hml, hown, hts⟩ (c_X12_answer l (cy := cy) (X := X) (D := D) S51 _ o1 (xe53.A h_o1) r49 (t52.w)) (cwV 1 hts gX12_peak_X12_answer rfl rfl rfl hd_X12_answer ⟨Nat.le_of_ble_eq_true rfl, Nat.le_of_ble_eq_true rfl⟩) ⟨fun a U g mk q => ⟨q.1, q.2.1, q.2.2.1.calling, NW.same (u := U) (U := U.calling g mk a) rfl q.2.2.2⟩, va_recv hK hP (q := (RX12, TX12, 34)) (ci := 16) (q0 := k54) rfl hk54, fun U hU hW => ⟨rfl, by rw [hU], wd_pre hP hK hD hU hW, hN.warm hW⟩⟩ rfl rfl hl.1 rfl (lv_room (Nat.le_of_ble_eq_true rfl)) dX12_peak_73 ⟨(Nat.zero_le _), (Nat.zero_le _)⟩) hS (fun q _ h => hFc q h) hFc (fun r55 u t H1 locs ht hvm hw hB hz1 hk1 hS => ?_)
          obtain ⟨c56, w57⟩ := hw
          obtain ⟨hP, hD⟩ := wd_post hFc ht hB
          generalize H1 = H at hP hS ⊢
          obtain ⟨S58, rfl⟩ : ∃ z, z = u := ⟨_, rfl⟩
          have t59 : stp [(12, 15), (17, 100)] [] [] S S58 := t52.tr w57 (by decide) (fun _ q => absurd q List.not_mem_nil)
          have xe60 : ext S51 S58 := w57.x
          refine lv_goto (tgt := 84) hx hb dX12_peak_76 (by decide) ?_
          refine W.widen (k := 0) (n := 0) (Nat.le_of_ble_eq_true rfl) (Nat.le_of_ble_eq_true rfl) ?_
          exact W.iret (v := r55) hx hb hr (fun t ht hW9 => ⟨⟨r55, S58, rfl, t59, wd_end hP hK hD ht hW9.alike⟩, hS.F ht⟩) hS.2.2 dX12_peak_84 hlocks
      · have c30i : (f_X12_in x3.toInt64 (0 : Int64) (((S.I r20 1) - (1 : Int32)).toInt64)).toInt = 0 := eq_v rfl rfl c30
        refine lv_aload_n hx hb dX12_peak_42 rfl (lv_at hl 0 rfl) ?_
        refine lv_iconst (v := 2) hx hb dX12_peak_43 (by decide) ?_
        have l32_2 : (2 : Int32).toInt = 2 := rfl
        have hFc := free_all hD hS hA
        obtain ⟨k61, gk61, hk61⟩ := wGt (cy := cy) X S h_o1.1 h_o1.2.1
        refine va_calli (va_runV (As := [.int (2 : Int32)]) (rest := []) ⟨hx, hb, hml, hown, hts⟩ (c_X12_fails l (cy := cy) (X := X) (D := D) S _ o1 h_o1 (2 : Int32) (hW)) (cwV 1 hts gX12_peak_X12_fails rfl rfl rfl hd_X12_fails ⟨Nat.le_of_ble_eq_true rfl, Nat.le_of_ble_eq_true rfl⟩) ⟨fun a U g mk q => ⟨q.1, q.2.1, q.2.2.1.calling, NW.same (u := U) (U := U.calling g mk a) rfl q.2.2.2⟩, va_recv hK hP (q := (RX12, TX12, 34)) (ci := 16) (q0 := k61) rfl hk61, fun U hU hW => ⟨rfl, by rw [hU], wd_pre hP hK hD hU hW, hN.warm hW⟩⟩ rfl rfl hl.1 rfl (lv_room (Nat.le_of_ble_eq_true rfl)) dX12_peak_44 ⟨(Nat.zero_le _), (Nat.zero_le _)⟩) hS (fun q _ h => hFc q h) hFc (fun r62 u t H1 locs ht hvm hw hB hz1 hk1 hS => ?_)
        obtain ⟨c63, w64⟩ := hw
        obtain ⟨hP, hD⟩ := wd_post hFc ht hB
        generalize H1 = H at hP hS ⊢
        obtain ⟨S65, rfl⟩ : ∃ z, z = u := ⟨_, rfl⟩
        have t66 : stp [(12, 15), (17, 100)] [] [] S S65 := t0.tr w64 (by decide) (fun _ q => absurd q List.not_mem_nil)
        have xe67 : ext S S65 := w64.x
        refine W.widen (k := 0) (n := 0) (Nat.le_of_ble_eq_true rfl) (Nat.le_of_ble_eq_true rfl) ?_
        exact W.iret (v := r62) hx hb hr (fun t ht hW9 => ⟨⟨r62, S65, rfl, t66, wd_end hP hK hD ht hW9.alike⟩, hS.F ht⟩) hS.2.2 dX12_peak_47 hlocks
    · have c18i : (f_X12_isGear S o1 x2).toInt = 0 := eq_v rfl rfl c18
      refine lv_aload_n hx hb dX12_peak_16 rfl (lv_at hl 0 rfl) ?_
      refine lv_iconst (v := 1) hx hb dX12_peak_17 (by decide) ?_
      have l32_1 : (1 : Int32).toInt = 1 := rfl
      have hFc := free_all hD hS hA
      obtain ⟨k68, gk68, hk68⟩ := wGt (cy := cy) X S h_o1.1 h_o1.2.1
      refine va_calli (va_runV (As := [.int (1 : Int32)]) (rest := []) ⟨hx, hb, hml, hown, hts⟩ (c_X12_fails l (cy := cy) (X := X) (D := D) S _ o1 h_o1 (1 : Int32) (hW)) (cwV 1 hts gX12_peak_X12_fails rfl rfl rfl hd_X12_fails ⟨Nat.le_of_ble_eq_true rfl, Nat.le_of_ble_eq_true rfl⟩) ⟨fun a U g mk q => ⟨q.1, q.2.1, q.2.2.1.calling, NW.same (u := U) (U := U.calling g mk a) rfl q.2.2.2⟩, va_recv hK hP (q := (RX12, TX12, 34)) (ci := 16) (q0 := k68) rfl hk68, fun U hU hW => ⟨rfl, by rw [hU], wd_pre hP hK hD hU hW, hN.warm hW⟩⟩ rfl rfl hl.1 rfl (lv_room (Nat.le_of_ble_eq_true rfl)) dX12_peak_18 ⟨(Nat.zero_le _), (Nat.zero_le _)⟩) hS (fun q _ h => hFc q h) hFc (fun r69 u t H1 locs ht hvm hw hB hz1 hk1 hS => ?_)
      obtain ⟨c70, w71⟩ := hw
      obtain ⟨hP, hD⟩ := wd_post hFc ht hB
      generalize H1 = H at hP hS ⊢
      obtain ⟨S72, rfl⟩ : ∃ z, z = u := ⟨_, rfl⟩
      have t73 : stp [(12, 15), (17, 100)] [] [] S S72 := t0.tr w71 (by decide) (fun _ q => absurd q List.not_mem_nil)
      have xe74 : ext S S72 := w71.x
      refine W.widen (k := 0) (n := 0) (Nat.le_of_ble_eq_true rfl) (Nat.le_of_ble_eq_true rfl) ?_
      exact W.iret (v := r69) hx hb hr (fun t ht hW9 => ⟨⟨r69, S72, rfl, t73, wd_end hP hK hD ht hW9.alike⟩, hS.F ht⟩) hS.2.2 dX12_peak_21 hlocks
theorem hd_X12_quietest : yX12_quietest.cls = RX12 ∧ yX12_quietest.cls ≠ "java/lang/invoke/MethodHandle" ∧ yX12_quietest.cls ≠ "java/lang/invoke/VarHandle" ∧ (parseMethodDescriptor yX12_quietest.desc).map (fun d => d.parameters.length) = some 2 := by decide +kernel
set_option maxHeartbeats 4000000 in
set_option maxRecDepth 100000 in
theorem c_X12_quietest (l : Launch) {D : va_G} {cy : Nat → ClassId} {X : va_W} (S : wPS) (sz : Nat) (o1 : Nat) (h_o1 : isA S o1 12) (x1 : Int32) (x2 : Int32) (hW : wtB S [])  : Met l yX12_quietest wsX12_quietest ({ frames := 19, cells := 0, slots := 0, locals := 405 }) (va_Pc [.ref o1, .int x1, .int x2] (fun U => U.heap.size = sz ∧ WD D cy X (fun _ => True) S U ∧ NW U)) (va_Qi (fun r (u : wPS) => stp [(12, 15), (17, 100)] [] [] S u) (fun u t => WD D cy X (va_A (X ++ PL cy S) sz) u t) (va_A (X ++ PL cy S) sz)) 0 0 (va_A (X ++ PL cy S) sz) := by
  refine Met.ofW (cc := cX12_quietest) (maxL := 3) (ret := (some .int)) (by decide) rfl ?_
  intro p e s m args below meth c s₁ B hml hv
  obtain ⟨rfl, hsz, ⟨hP, hK, hD0⟩, hN⟩ := hv
  have hx := B.exec
  have hb := B.bytes
  have hr := B.returns
  have hts := atoms_spec (ws := wsX12_quietest) B.pre
  have hown : s.vm.findClass RX12 = some m.cls := findClass_of_methodNamed (x := yX12_quietest) B.named
  have hlocks := B.notSynchronized
  subst hsz
  have hD := hD0.self (sz := s.heap.size)
  generalize hAe : va_A (X ++ PL cy S) s.heap.size = A at hD ⊢
  have hA : ∀ q : Nat, s.heap.size ≤ q → A q := fun q h => by rw [← hAe]; exact Or.inr h
  have hS : va_S A s.heap s.heap [] := va_S.rf
  have hl := lv_entry ([.ref o1, .int x1, .int x2]) (n := 3) (Nat.le_of_ble_eq_true rfl)
  rw [lg_entry_eq]
  generalize (lg_sl ([.ref o1, .int x1, .int x2]) ++ List.replicate (3 - (lg_sl ([.ref o1, .int x1, .int x2])).length) Slot.unset).toArray = ls at hl ⊢
  have hl : lv_has ls 3 [(0, .ref o1), (1, .int x1), (2, .int x2)] := hl
  have t0 : stp [(12, 15), (17, 100)] [] [] S S := stp.rf hW
  have F1 := ((hW.at h_o1 List.not_mem_nil).to_12 h_o1.2.1).F0
  refine lv_aload_n hx hb dX12_quietest_0 rfl (lv_at hl 0 rfl) ?_
  refine lv_iload_n hx hb dX12_quietest_1 rfl (lv_at hl 1 rfl) ?_
  refine lv_iload_n hx hb dX12_quietest_2 rfl (lv_at hl 2 rfl) ?_
  refine lv_iconst (v := 1) hx hb dX12_quietest_3 (by decide) ?_
  refine lv_iconst (v := 2) hx hb dX12_quietest_4 (by decide) ?_
  have l32_1 : (1 : Int32).toInt = 1 := rfl
  have l32_2 : (2 : Int32).toInt = 2 := rfl
  have hFc := free_all hD hS hA
  obtain ⟨k2, gk2, hk2⟩ := wGt (cy := cy) X S h_o1.1 h_o1.2.1
  refine va_calli (va_runV (As := [.int x1, .int x2, .int (1 : Int32), .int (2 : Int32)]) (rest := []) ⟨hx, hb, hml, hown, hts⟩ (c_X12_isAsked l (cy := cy) (X := X) (D := D) S _ o1 h_o1 x1 x2 (hW)) (cwV 4 hts gX12_quietest_X12_isAsked rfl rfl rfl hd_X12_isAsked ⟨Nat.le_of_ble_eq_true rfl, Nat.le_of_ble_eq_true rfl⟩) ⟨fun a U g mk q => ⟨q.1, q.2.1, q.2.2.1.calling, NW.same (u := U) (U := U.calling g mk a) rfl q.2.2.2⟩, va_recv hK hP (q := (RX12, TX12, 34)) (ci := 16) (q0 := k2) rfl hk2, fun U hU hW => ⟨rfl, by rw [hU], wd_pre hP hK hD hU hW, hN.warm hW⟩⟩ rfl rfl hl.1 rfl (lv_room (Nat.le_of_ble_eq_true rfl)) dX12_quietest_5 ⟨(Nat.zero_le _), (Nat.zero_le _)⟩) hS (fun q _ h => hFc q h) hFc (fun r3 u t H1 locs ht hvm hw hB hz1 hk1 hS => ?_)
  obtain ⟨w4, y5, y6⟩ := hw
  obtain ⟨hP, hD⟩ := wd_post hFc ht hB
  generalize H1 = H at hP hS ⊢
  obtain ⟨S7, rfl⟩ : ∃ z, z = u := ⟨_, rfl⟩
  have t8 : stp [(12, 15), (17, 100)] [] [] S S7 := t0.tr w4 (by decide) (fun _ q => absurd q List.not_mem_nil)
  have xe9 : ext S S7 := w4.x
  have k10 : (S7.I (S.f o1 0) 2).toInt = (S.I (S.f o1 0) 2).toInt := by rw [(w4.fR (S.f o1 0) F1.2.1.1 List.not_mem_nil).1 2 (by rw [F1.2.1.2.1]; decide) |>.1]
  refine lv_if_eq (tgt := 28) hx hb dX12_quietest_8 (by decide) (fun c11 => ?_) (fun c11 => ?_)
  · have c11i : r3.toInt = 0 := eq_v rfl rfl c11
    refine lv_iconst (v := 0) hx hb dX12_quietest_28 (by decide) ?_
    refine W.widen (k := 0) (n := 0) (Nat.le_of_ble_eq_true rfl) (Nat.le_of_ble_eq_true rfl) ?_
    exact W.iret (v := (0 : Int32)) hx hb hr (fun t ht hW9 => ⟨⟨(0 : Int32), S7, rfl, t8, wd_end hP hK hD ht hW9.alike⟩, hS.F ht⟩) hS.2.2 dX12_quietest_29 hlocks
  · have c11i : ¬ r3.toInt = 0 := neq_v rfl rfl c11
    refine lv_aload_n hx hb dX12_quietest_11 rfl (lv_at hl 0 rfl) ?_
    refine lv_aload_n hx hb dX12_quietest_12 rfl (lv_at hl 0 rfl) ?_
    refine lv_iload_n hx hb dX12_quietest_13 rfl (lv_at hl 1 rfl) ?_
    have hFc := free_all hD hS hA
    obtain ⟨k12, gk12, hk12⟩ := wGt (cy := cy) X S7 (xe9.A h_o1).1 (xe9.A h_o1).2.1
    refine va_callq (va_runV (As := [.int x1]) (rest := [.ref o1]) ⟨hx, hb, hml, hown, hts⟩ (c_X12_gearAt l (cy := cy) (X := X) (D := D) S7 _ o1 (xe9.A h_o1) x1 (t8.w) (by rw [f_of (xe9.F h_o1 (by decide) F1.1)]; omega)) (cwV 1 hts gX12_quietest_X12_gearAt rfl rfl rfl hd_X12_gearAt ⟨Nat.le_of_ble_eq_true rfl, Nat.le_of_ble_eq_true rfl⟩) ⟨fun a U g mk q => ⟨q.1, q.2.1, q.2.2.1.calling, NW.same (u := U) (U := U.calling g mk a) rfl q.2.2.2⟩, va_recv hK hP (q := (RX12, TX12, 34)) (ci := 16) (q0 := k12) rfl hk12, fun U hU hW => ⟨rfl, by rw [hU], wd_pre hP hK hD hU hW, hN.warm hW⟩⟩ rfl rfl hl.1 rfl (lv_room (Nat.le_of_ble_eq_true rfl)) dX12_quietest_14 ⟨(Nat.zero_le _), (Nat.zero_le _)⟩) hS (fun q _ h => hFc q h) hFc (fun r13 u t H1 locs ht hvm hw hB hz1 hk1 hS => ?_)
    obtain ⟨r13, rfl, o14⟩ := hw
    obtain ⟨hP, hD⟩ := wd_post hFc ht hB
    generalize H1 = H at hP hS ⊢
    refine W.eq (g2 := F0 m 17 ls [.ref r13, .ref o1]) rfl ?_
    refine lv_aload_n hx hb dX12_quietest_17 rfl (lv_at hl 0 rfl) ?_
    refine lv_iload_n hx hb dX12_quietest_18 rfl (lv_at hl 2 rfl) ?_
    have hFc := free_all hD hS hA
    obtain ⟨k15, gk15, hk15⟩ := wGt (cy := cy) X S7 (xe9.A h_o1).1 (xe9.A h_o1).2.1
    refine va_callq (va_runV (As := [.int x2]) (rest := [.ref r13, .ref o1]) ⟨hx, hb, hml, hown, hts⟩ (c_X12_gearAt l (cy := cy) (X := X) (D := D) S7 _ o1 (xe9.A h_o1) x2 (t8.w) (by rw [f_of (xe9.F h_o1 (by decide) F1.1)]; omega)) (cwV 1 hts gX12_quietest_X12_gearAt rfl rfl rfl hd_X12_gearAt ⟨Nat.le_of_ble_eq_true rfl, Nat.le_of_ble_eq_true rfl⟩) ⟨fun a U g mk q => ⟨q.1, q.2.1, q.2.2.1.calling, NW.same (u := U) (U := U.calling g mk a) rfl q.2.2.2⟩, va_recv hK hP (q := (RX12, TX12, 34)) (ci := 16) (q0 := k15) rfl hk15, fun U hU hW => ⟨rfl, by rw [hU], wd_pre hP hK hD hU hW, hN.warm hW⟩⟩ rfl rfl hl.1 rfl (lv_room (Nat.le_of_ble_eq_true rfl)) dX12_quietest_19 ⟨(Nat.zero_le _), (Nat.zero_le _)⟩) hS (fun q _ h => hFc q h) hFc (fun r16 u t H1 locs ht hvm hw hB hz1 hk1 hS => ?_)
    obtain ⟨r16, rfl, o17⟩ := hw
    obtain ⟨hP, hD⟩ := wd_post hFc ht hB
    generalize H1 = H at hP hS ⊢
    refine W.eq (g2 := F0 m 22 ls [.ref r16, .ref r13, .ref o1]) rfl ?_
    have hFc := free_all hD hS hA
    obtain ⟨k18, gk18, hk18⟩ := wGt (cy := cy) X S7 (xe9.A h_o1).1 (xe9.A h_o1).2.1
    refine va_calli (va_runV (As := [.ref r13, .ref r16]) (rest := []) ⟨hx, hb, hml, hown, hts⟩ (c_X12_quietestOf l (cy := cy) (X := X) (D := D) S7 _ o1 (xe9.A h_o1) r13 o14 r16 o17 (t8.w)) (cwV 2 hts gX12_quietest_X12_quietestOf rfl rfl rfl hd_X12_quietestOf ⟨Nat.le_of_ble_eq_true rfl, Nat.le_of_ble_eq_true rfl⟩) ⟨fun a U g mk q => ⟨q.1, q.2.1, q.2.2.1.calling, NW.same (u := U) (U := U.calling g mk a) rfl q.2.2.2⟩, va_recv hK hP (q := (RX12, TX12, 34)) (ci := 16) (q0 := k18) rfl hk18, fun U hU hW => ⟨rfl, by rw [hU], wd_pre hP hK hD hU hW, hN.warm hW⟩⟩ rfl rfl hl.1 rfl (lv_room (Nat.le_of_ble_eq_true rfl)) dX12_quietest_22 ⟨(Nat.zero_le _), (Nat.zero_le _)⟩) hS (fun q _ h => hFc q h) hFc (fun r19 u t H1 locs ht hvm hw hB hz1 hk1 hS => ?_)
    obtain ⟨w20, y21⟩ := hw
    obtain ⟨hP, hD⟩ := wd_post hFc ht hB
    generalize H1 = H at hP hS ⊢
    obtain ⟨S22, rfl⟩ : ∃ z, z = u := ⟨_, rfl⟩
    have t23 : stp [(12, 15), (17, 100)] [] [] S S22 := t8.tr w20 (by decide) (fun _ q => absurd q List.not_mem_nil)
    have xe24 : ext S7 S22 := w20.x
    have k25 : (S22.I (S.f o1 0) 2).toInt = (S7.I (S.f o1 0) 2).toInt := by rw [(w20.fR (S.f o1 0) (xe9.A F1.2.1).1 List.not_mem_nil).1 2 (by rw [(xe9.A F1.2.1).2.1]; decide) |>.1]
    refine lv_goto (tgt := 29) hx hb dX12_quietest_25 (by decide) ?_
    refine W.widen (k := 0) (n := 0) (Nat.le_of_ble_eq_true rfl) (Nat.le_of_ble_eq_true rfl) ?_
    exact W.iret (v := r19) hx hb hr (fun t ht hW9 => ⟨⟨r19, S22, rfl, t23, wd_end hP hK hD ht hW9.alike⟩, hS.F ht⟩) hS.2.2 dX12_quietest_29 hlocks
theorem hd_X12_note : yX12_note.cls = RX12 ∧ yX12_note.cls ≠ "java/lang/invoke/MethodHandle" ∧ yX12_note.cls ≠ "java/lang/invoke/VarHandle" ∧ (parseMethodDescriptor yX12_note.desc).map (fun d => d.parameters.length) = some 3 := by decide +kernel
set_option maxHeartbeats 4000000 in
set_option maxRecDepth 100000 in
theorem c_X12_note (l : Launch) {D : va_G} {cy : Nat → ClassId} {X : va_W} (S : wPS) (sz : Nat) (o1 : Nat) (h_o1 : isA S o1 12) (x1 : Int32) (x2 : Int32) (x3 : Int32) (hW : wtB S [])  : Met l yX12_note wsX12_note ({ frames := 5, cells := 0, slots := 0, locals := 109 }) (va_Pc [.ref o1, .int x1, .int x2, .int x3] (fun U => U.heap.size = sz ∧ WD D cy X (fun _ => True) S U ∧ NW U)) (va_Qi (fun r (u : wPS) => stp [(12, 15)] [] [] S u) (fun u t => WD D cy X (va_A (X ++ PL cy S) sz) u t) (va_A (X ++ PL cy S) sz)) 0 0 (va_A (X ++ PL cy S) sz) := by
  refine Met.ofW (cc := cX12_note) (maxL := 9) (ret := (some .int)) (by decide) rfl ?_
  intro p e s m args below meth c s₁ B hml hv
  obtain ⟨rfl, hsz, ⟨hP, hK, hD0⟩, hN⟩ := hv
  have hx := B.exec
  have hb := B.bytes
  have hr := B.returns
  have hts := atoms_spec (ws := wsX12_note) B.pre
  have hown : s.vm.findClass RX12 = some m.cls := findClass_of_methodNamed (x := yX12_note) B.named
  have hlocks := B.notSynchronized
  subst hsz
  have hD := hD0.self (sz := s.heap.size)
  generalize hAe : va_A (X ++ PL cy S) s.heap.size = A at hD ⊢
  have hA : ∀ q : Nat, s.heap.size ≤ q → A q := fun q h => by rw [← hAe]; exact Or.inr h
  have hS : va_S A s.heap s.heap [] := va_S.rf
  have hl := lv_entry ([.ref o1, .int x1, .int x2, .int x3]) (n := 9) (Nat.le_of_ble_eq_true rfl)
  rw [lg_entry_eq]
  generalize (lg_sl ([.ref o1, .int x1, .int x2, .int x3]) ++ List.replicate (9 - (lg_sl ([.ref o1, .int x1, .int x2, .int x3])).length) Slot.unset).toArray = ls at hl ⊢
  have hl : lv_has ls 9 [(0, .ref o1), (1, .int x1), (2, .int x2), (3, .int x3)] := hl
  have t0 : stp [(12, 15)] [] [] S S := stp.rf hW
  refine lv_aload_n hx hb dX12_note_0 rfl (lv_at hl 0 rfl) ?_
  refine lv_iload_n hx hb dX12_note_1 rfl (lv_at hl 1 rfl) ?_
  have hFc := free_all hD hS hA
  obtain ⟨k1, gk1, hk1⟩ := wGt (cy := cy) X S h_o1.1 h_o1.2.1
  refine va_calli (va_runV (As := [.int x1]) (rest := []) ⟨hx, hb, hml, hown, hts⟩ (c_X12_isGear l (cy := cy) (X := X) (D := D) S _ o1 h_o1 x1 (hW)) (cwV 1 hts gX12_note_X12_isGear rfl rfl rfl hd_X12_isGear ⟨Nat.le_of_ble_eq_true rfl, Nat.le_of_ble_eq_true rfl⟩) ⟨fun a U g mk q => ⟨q.1, q.2.1, q.2.2.1.calling, NW.same (u := U) (U := U.calling g mk a) rfl q.2.2.2⟩, va_recv hK hP (q := (RX12, TX12, 34)) (ci := 16) (q0 := k1) rfl hk1, fun U hU hW => ⟨rfl, by rw [hU], wd_pre hP hK hD hU hW, hN.warm hW⟩⟩ rfl rfl hl.1 rfl (lv_room (Nat.le_of_ble_eq_true rfl)) dX12_note_2 ⟨(Nat.zero_le _), (Nat.zero_le _)⟩) hS (fun q _ h => hFc q h) hFc (fun r2 u t H1 locs ht hvm hw hB hz1 hk1 hS => ?_)
  have c3 := hw
  obtain ⟨hP, hD⟩ := wd_post hFc ht hB
  generalize H1 = H at hP hS ⊢
  obtain rfl : r2 = f_X12_isGear S o1 x1 := c3
  have F4 := ((hW.at h_o1 List.not_mem_nil).to_12 h_o1.2.1).F0
  have i5 : (f_X12_isGear S o1 x1).toInt = 0 ∨ (0 ≤ x1.toInt ∧ x1.toInt < (S.I (S.f o1 0) 2).toInt) := by have h9 := ig_rng x1 ((hW.at h_o1 List.not_mem_nil).to_12 h_o1.2.1) hW; rw [f_of F4.1] at h9; exact h9
  refine lv_if_eq (tgt := 16) hx hb dX12_note_5 (by decide) (fun c6 => ?_) (fun c6 => ?_)
  · have c6i : (f_X12_isGear S o1 x1).toInt = 0 := eq_v rfl rfl c6
    refine lv_aload_n hx hb dX12_note_16 rfl (lv_at hl 0 rfl) ?_
    refine lv_iconst (v := 1) hx hb dX12_note_17 (by decide) ?_
    have l32_1 : (1 : Int32).toInt = 1 := rfl
    have hFc := free_all hD hS hA
    obtain ⟨k7, gk7, hk7⟩ := wGt (cy := cy) X S h_o1.1 h_o1.2.1
    refine va_calli (va_runV (As := [.int (1 : Int32)]) (rest := []) ⟨hx, hb, hml, hown, hts⟩ (c_X12_fails l (cy := cy) (X := X) (D := D) S _ o1 h_o1 (1 : Int32) (hW)) (cwV 1 hts gX12_note_X12_fails rfl rfl rfl hd_X12_fails ⟨Nat.le_of_ble_eq_true rfl, Nat.le_of_ble_eq_true rfl⟩) ⟨fun a U g mk q => ⟨q.1, q.2.1, q.2.2.1.calling, NW.same (u := U) (U := U.calling g mk a) rfl q.2.2.2⟩, va_recv hK hP (q := (RX12, TX12, 34)) (ci := 16) (q0 := k7) rfl hk7, fun U hU hW => ⟨rfl, by rw [hU], wd_pre hP hK hD hU hW, hN.warm hW⟩⟩ rfl rfl hl.1 rfl (lv_room (Nat.le_of_ble_eq_true rfl)) dX12_note_18 ⟨(Nat.zero_le _), (Nat.zero_le _)⟩) hS (fun q _ h => hFc q h) hFc (fun r8 u t H1 locs ht hvm hw hB hz1 hk1 hS => ?_)
    obtain ⟨c9, w10⟩ := hw
    obtain ⟨hP, hD⟩ := wd_post hFc ht hB
    generalize H1 = H at hP hS ⊢
    obtain ⟨S11, rfl⟩ : ∃ z, z = u := ⟨_, rfl⟩
    have t12 : stp [(12, 15)] [] [] S S11 := t0.tr w10 (by decide) (fun _ q => absurd q List.not_mem_nil)
    have xe13 : ext S S11 := w10.x
    refine W.widen (k := 0) (n := 0) (Nat.le_of_ble_eq_true rfl) (Nat.le_of_ble_eq_true rfl) ?_
    exact W.iret (v := r8) hx hb hr (fun t ht hW9 => ⟨⟨r8, S11, rfl, t12, wd_end hP hK hD ht hW9.alike⟩, hS.F ht⟩) hS.2.2 dX12_note_21 hlocks
  · have c6i : ¬ (f_X12_isGear S o1 x1).toInt = 0 := neq_v rfl rfl c6
    refine lv_aload_n hx hb dX12_note_8 rfl (lv_at hl 0 rfl) ?_
    refine lv_iload_n hx hb dX12_note_9 rfl (lv_at hl 2 rfl) ?_
    have hFc := free_all hD hS hA
    obtain ⟨k14, gk14, hk14⟩ := wGt (cy := cy) X S h_o1.1 h_o1.2.1
    refine va_calli (va_runV (As := [.int x2]) (rest := []) ⟨hx, hb, hml, hown, hts⟩ (c_X12_isGear l (cy := cy) (X := X) (D := D) S _ o1 h_o1 x2 (hW)) (cwV 1 hts gX12_note_X12_isGear rfl rfl rfl hd_X12_isGear ⟨Nat.le_of_ble_eq_true rfl, Nat.le_of_ble_eq_true rfl⟩) ⟨fun a U g mk q => ⟨q.1, q.2.1, q.2.2.1.calling, NW.same (u := U) (U := U.calling g mk a) rfl q.2.2.2⟩, va_recv hK hP (q := (RX12, TX12, 34)) (ci := 16) (q0 := k14) rfl hk14, fun U hU hW => ⟨rfl, by rw [hU], wd_pre hP hK hD hU hW, hN.warm hW⟩⟩ rfl rfl hl.1 rfl (lv_room (Nat.le_of_ble_eq_true rfl)) dX12_note_10 ⟨(Nat.zero_le _), (Nat.zero_le _)⟩) hS (fun q _ h => hFc q h) hFc (fun r15 u t H1 locs ht hvm hw hB hz1 hk1 hS => ?_)
    have c16 := hw
    obtain ⟨hP, hD⟩ := wd_post hFc ht hB
    generalize H1 = H at hP hS ⊢
    obtain rfl : r15 = f_X12_isGear S o1 x2 := c16
    have i17 : (f_X12_isGear S o1 x2).toInt = 0 ∨ (0 ≤ x2.toInt ∧ x2.toInt < (S.I (S.f o1 0) 2).toInt) := by have h9 := ig_rng x2 ((hW.at h_o1 List.not_mem_nil).to_12 h_o1.2.1) hW; rw [f_of F4.1] at h9; exact h9
    refine lv_if_ne (tgt := 22) hx hb dX12_note_13 (by decide) (fun c18 => ?_) (fun c18 => ?_)
    · have c18i : ¬ (f_X12_isGear S o1 x2).toInt = 0 := neq_v rfl rfl c18
      refine lv_iload_n hx hb dX12_note_22 rfl (lv_at hl 3 rfl) ?_
      refine lv_i2l hx hb dX12_note_23 rfl ?_
      refine lv_lconst (v := 1) hx hb dX12_note_24 (by decide) ?_
      refine lv_ldc2 (own := RX12) (v := 200) hx hb hown (hts (.constantLong RX12 131 (200)) (by decide +kernel)) dX12_note_25 ?_
      have hFc := free_all hD hS hA
      refine va_calli (va_runS (As := [.long x3.toInt64, .long (1 : Int64), .long (200 : Int64)]) (rest := []) ⟨hx, hb, hml, hown, hts⟩ (c_X12_in l (cy := cy) (X := X) (D := D) S _ x3.toInt64 (1 : Int64) (200 : Int64)) (cwS 3 hts gX12_note_X12_in rfl rfl rfl hd_X12_in ⟨Nat.le_of_ble_eq_true rfl, Nat.le_of_ble_eq_true rfl⟩) ⟨fun a U g mk q => ⟨q.1, q.2.1, q.2.2.1.calling, NW.same (u := U) (U := U.calling g mk a) rfl q.2.2.2⟩, fun U hU hW => ⟨rfl, by rw [hU], wd_pre hP hK hD hU hW, hN.warm hW⟩⟩ rfl rfl hl.1 rfl (lv_room (Nat.le_of_ble_eq_true rfl)) dX12_note_28 ⟨(Nat.zero_le _), (Nat.zero_le _)⟩) hS (fun q _ h => hFc q h) hFc (fun r19 u t H1 locs ht hvm hw hB hz1 hk1 hS => ?_)
      have c20 := hw
      obtain ⟨hP, hD⟩ := wd_post hFc ht hB
      generalize H1 = H at hP hS ⊢
      obtain rfl : r19 = f_X12_in x3.toInt64 (1 : Int64) (200 : Int64) := c20
      have i21 := i64_i x3
      have l64_1 : (1 : Int64).toInt = 1 := rfl
      have l64_200 : (200 : Int64).toInt = 200 := rfl
      have i22 := in_rng x3.toInt64 (1 : Int64) (200 : Int64)
      refine lv_if_ne (tgt := 40) hx hb dX12_note_31 (by decide) (fun c23 => ?_) (fun c23 => ?_)
      · have c23i : ¬ (f_X12_in x3.toInt64 (1 : Int64) (200 : Int64)).toInt = 0 := neq_v rfl rfl c23
        refine lv_aload_n hx hb dX12_note_40 rfl (lv_at hl 0 rfl) ?_
        refine lv_iload_n hx hb dX12_note_41 rfl (lv_at hl 1 rfl) ?_
        refine lv_iload_n hx hb dX12_note_42 rfl (lv_at hl 2 rfl) ?_
        have hFc := free_all hD hS hA
        obtain ⟨k24, gk24, hk24⟩ := wGt (cy := cy) X S h_o1.1 h_o1.2.1
        refine va_calli (va_runV (As := [.int x1, .int x2]) (rest := []) ⟨hx, hb, hml, hown, hts⟩ (c_X12_isPair l (cy := cy) (X := X) (D := D) S _ o1 h_o1 x1 x2 (hW) (by rw [f_of F4.1]; omega) (by rw [f_of F4.1]; omega)) (cwV 2 hts gX12_note_X12_isPair rfl rfl rfl hd_X12_isPair ⟨Nat.le_of_ble_eq_true rfl, Nat.le_of_ble_eq_true rfl⟩) ⟨fun a U g mk q => ⟨q.1, q.2.1, q.2.2.1.calling, NW.same (u := U) (U := U.calling g mk a) rfl q.2.2.2⟩, va_recv hK hP (q := (RX12, TX12, 34)) (ci := 16) (q0 := k24) rfl hk24, fun U hU hW => ⟨rfl, by rw [hU], wd_pre hP hK hD hU hW, hN.warm hW⟩⟩ rfl rfl hl.1 rfl (lv_room (Nat.le_of_ble_eq_true rfl)) dX12_note_43 ⟨(Nat.zero_le _), (Nat.zero_le _)⟩) hS (fun q _ h => hFc q h) hFc (fun r25 u t H1 locs ht hvm hw hB hz1 hk1 hS => ?_)
        have y26 := hw
        obtain ⟨hP, hD⟩ := wd_post hFc ht hB
        generalize H1 = H at hP hS ⊢
        refine lv_if_ne (tgt := 55) hx hb dX12_note_46 (by decide) (fun c27 => ?_) (fun c27 => ?_)
        · have c27i : ¬ r25.toInt = 0 := neq_v rfl rfl c27
          refine lv_aload_n hx hb dX12_note_55 rfl (lv_at hl 0 rfl) ?_
          refine lv_iload_n hx hb dX12_note_56 rfl (lv_at hl 1 rfl) ?_
          have hFc := free_all hD hS hA
          obtain ⟨k28, gk28, hk28⟩ := wGt (cy := cy) X S h_o1.1 h_o1.2.1
          refine va_callq (va_runV (As := [.int x1]) (rest := []) ⟨hx, hb, hml, hown, hts⟩ (c_X12_gearAt l (cy := cy) (X := X) (D := D) S _ o1 h_o1 x1 (hW) (by rw [f_of F4.1]; omega)) (cwV 1 hts gX12_note_X12_gearAt rfl rfl rfl hd_X12_gearAt ⟨Nat.le_of_ble_eq_true rfl, Nat.le_of_ble_eq_true rfl⟩) ⟨fun a U g mk q => ⟨q.1, q.2.1, q.2.2.1.calling, NW.same (u := U) (U := U.calling g mk a) rfl q.2.2.2⟩, va_recv hK hP (q := (RX12, TX12, 34)) (ci := 16) (q0 := k28) rfl hk28, fun U hU hW => ⟨rfl, by rw [hU], wd_pre hP hK hD hU hW, hN.warm hW⟩⟩ rfl rfl hl.1 rfl (lv_room (Nat.le_of_ble_eq_true rfl)) dX12_note_57 ⟨(Nat.zero_le _), (Nat.zero_le _)⟩) hS (fun q _ h => hFc q h) hFc (fun r29 u t H1 locs ht hvm hw hB hz1 hk1 hS => ?_)
          obtain ⟨r29, rfl, o30⟩ := hw
          obtain ⟨hP, hD⟩ := wd_post hFc ht hB
          generalize H1 = H at hP hS ⊢
          refine W.eq (g2 := F0 m 60 ls [.ref r29]) rfl ?_
          refine lv_astore (lv' := [(4, .ref r29), (0, .ref o1), (1, .int x1), (2, .int x2), (3, .int x3)]) hx hb dX12_note_60 hl (by decide) rfl (fun ls hl => ?_)
          refine lv_aload_n hx hb dX12_note_62 rfl (lv_at hl 1 rfl) ?_
          refine lv_iload_n hx hb dX12_note_63 rfl (lv_at hl 3 rfl) ?_
          have hFc := free_all hD hS hA
          obtain ⟨k31, gk31, hk31⟩ := wGt (cy := cy) X S h_o1.1 h_o1.2.1
          refine va_callq (va_runV (As := [.int x2]) (rest := []) ⟨hx, hb, hml, hown, hts⟩ (c_X12_gearAt l (cy := cy) (X := X) (D := D) S _ o1 h_o1 x2 (hW) (by rw [f_of F4.1]; omega)) (cwV 1 hts gX12_note_X12_gearAt rfl rfl rfl hd_X12_gearAt ⟨Nat.le_of_ble_eq_true rfl, Nat.le_of_ble_eq_true rfl⟩) ⟨fun a U g mk q => ⟨q.1, q.2.1, q.2.2.1.calling, NW.same (u := U) (U := U.calling g mk a) rfl q.2.2.2⟩, va_recv hK hP (q := (RX12, TX12, 34)) (ci := 16) (q0 := k31) rfl hk31, fun U hU hW => ⟨rfl, by rw [hU], wd_pre hP hK hD hU hW, hN.warm hW⟩⟩ rfl rfl hl.1 rfl (lv_room (Nat.le_of_ble_eq_true rfl)) dX12_note_64 ⟨(Nat.zero_le _), (Nat.zero_le _)⟩) hS (fun q _ h => hFc q h) hFc (fun r32 u t H1 locs ht hvm hw hB hz1 hk1 hS => ?_)
          obtain ⟨r32, rfl, o33⟩ := hw
          obtain ⟨hP, hD⟩ := wd_post hFc ht hB
          generalize H1 = H at hP hS ⊢
          refine W.eq (g2 := F0 m 67 ls [.ref r32]) rfl ?_
          refine lv_astore (lv' := [(5, .ref r32), (4, .ref r29), (0, .ref o1), (1, .int x1), (2, .int x2), (3, .int x3)]) hx hb dX12_note_67 hl (by decide) rfl (fun ls hl => ?_)
          refine lv_aload hx hb dX12_note_69 (lv_at hl 1 rfl) ?_
          refine lv_iload_n hx hb dX12_note_71 rfl (lv_at hl 5 rfl) ?_
          have hFc := free_all hD hS hA
          obtain ⟨k34, gk34, hk34⟩ := wGt (cy := cy) X S o30.1 o30.2.1
          refine va_calli (va_runV (As := [.int x3]) (rest := []) ⟨hx, hb, hml, hown, hts⟩ (c_X10_partOrNone l (cy := cy) (X := X) (D := D) S _ r29 o30 x3 (hW)) (cwV 1 hts gX12_note_X10_partOrNone rfl rfl rfl hd_X10_partOrNone ⟨Nat.le_of_ble_eq_true rfl, Nat.le_of_ble_eq_true rfl⟩) ⟨fun a U g mk q => ⟨q.1, q.2.1, q.2.2.1.calling, NW.same (u := U) (U := U.calling g mk a) rfl q.2.2.2⟩, va_recv hK hP (q := (RX10, TX10, 23)) (ci := 14) (q0 := k34) rfl hk34, fun U hU hW => ⟨rfl, by rw [hU], wd_pre hP hK hD hU hW, hN.warm hW⟩⟩ rfl rfl hl.1 rfl (lv_room (Nat.le_of_ble_eq_true rfl)) dX12_note_72 ⟨(Nat.zero_le _), (Nat.zero_le _)⟩) hS (fun q _ h => hFc q h) hFc (fun r35 u t H1 locs ht hvm hw hB hz1 hk1 hS => ?_)
          clear hw
          obtain ⟨hP, hD⟩ := wd_post hFc ht hB
          generalize H1 = H at hP hS ⊢
          refine lv_istore (lv' := [(6, .int r35), (5, .ref r32), (4, .ref r29), (0, .ref o1), (1, .int x1), (2, .int x2), (3, .int x3)]) hx hb dX12_note_75 hl (by decide) rfl (fun ls hl => ?_)
          refine lv_aload hx hb dX12_note_77 (lv_at hl 1 rfl) ?_
          refine lv_iload_n hx hb dX12_note_79 rfl (lv_at hl 6 rfl) ?_
          have hFc := free_all hD hS hA
          obtain ⟨k36, gk36, hk36⟩ := wGt (cy := cy) X S o33.1 o33.2.1
          refine va_calli (va_runV (As := [.int x3]) (rest := []) ⟨hx, hb, hml, hown, hts⟩ (c_X10_partOrNone l (cy := cy) (X := X) (D := D) S _ r32 o33 x3 (hW)) (cwV 1 hts gX12_note_X10_partOrNone rfl rfl rfl hd_X10_partOrNone ⟨Nat.le_of_ble_eq_true rfl, Nat.le_of_ble_eq_true rfl⟩) ⟨fun a U g mk q => ⟨q.1, q.2.1, q.2.2.1.calling, NW.same (u := U) (U := U.calling g mk a) rfl q.2.2.2⟩, va_recv hK hP (q := (RX10, TX10, 23)) (ci := 14) (q0 := k36) rfl hk36, fun U hU hW => ⟨rfl, by rw [hU], wd_pre hP hK hD hU hW, hN.warm hW⟩⟩ rfl rfl hl.1 rfl (lv_room (Nat.le_of_ble_eq_true rfl)) dX12_note_80 ⟨(Nat.zero_le _), (Nat.zero_le _)⟩) hS (fun q _ h => hFc q h) hFc (fun r37 u t H1 locs ht hvm hw hB hz1 hk1 hS => ?_)
          clear hw
          obtain ⟨hP, hD⟩ := wd_post hFc ht hB
          generalize H1 = H at hP hS ⊢
          refine lv_istore (lv' := [(7, .int r37), (6, .int r35), (5, .ref r32), (4, .ref r29), (0, .ref o1), (1, .int x1), (2, .int x2), (3, .int x3)]) hx hb dX12_note_83 hl (by decide) rfl (fun ls hl => ?_)
          refine lv_aload hx hb dX12_note_85 (lv_at hl 3 rfl) ?_
          obtain ⟨k38, gk38, hk38⟩ := wGt (cy := cy) X S o30.1 o30.2.1
          have i39 := ((hW.at o30 List.not_mem_nil).to_10 o30.2.1).R1
          refine va_getN (D := D) (ci := 14) (v := .int (S.I r29 1)) (C := RX10) (T := TX10) (N := 23) hx hb hts (by decide +kernel) hown hK hP k38 hk38 rfl 1 (by decide) (va_Nw.use rfl (hN (.fieldLinkNest RX12 332 "HobhouseModel$Gear" "teeth" "I" "HobhouseModel") (by decide +kernel))) (fun _ h9 => h9) rfl dX12_note_87 ?_
          refine lv_iload_n hx hb dX12_note_90 rfl (lv_at hl 7 rfl) ?_
          refine lv_irem hx hb dX12_note_91 (nz_i (by omega)) ?_
          refine lv_if_ne (tgt := 109) hx hb dX12_note_92 (by decide) (fun c40 => ?_) (fun c40 => ?_)
          · have c40i : ¬ ((S.I r29 1) - (S.I r29 1) / x3 * x3).toInt = 0 := neq_v rfl rfl c40
            refine lv_iconst (v := 0) hx hb dX12_note_109 (by decide) ?_
            refine lv_istore (lv' := [(8, .int (0 : Int32)), (7, .int r37), (6, .int r35), (5, .ref r32), (4, .ref r29), (0, .ref o1), (1, .int x1), (2, .int x2), (3, .int x3)]) hx hb dX12_note_110 hl (by decide) rfl (fun ls hl => ?_)
            refine lv_aload_n hx hb dX12_note_112 rfl (lv_at hl 5 rfl) ?_
            refine lv_iload hx hb dX12_note_113 (lv_at hl 0 rfl) ?_
            refine lv_if_eq (tgt := 129) hx hb dX12_note_115 (by decide) (fun c41 => ?_) (fun c41 => ?_)
            · refine lv_iload hx hb dX12_note_129 (lv_at hl 2 rfl) ?_
              refine lv_iload hx hb dX12_note_131 (lv_at hl 1 rfl) ?_
              refine va_mmax hx hb (hml.trans hl.1.symm) hown (hts (.methodLink RX12 418 Lib.Math.max.name) (by decide +kernel)) (hts (.static Lib.Math.max.name) (by decide +kernel)) (hts (.initialized "java/lang/Math") (by decide +kernel)) (hts (.code Lib.Math.max.name Lib.Math.max.code 2 (some .int)) (by decide +kernel)) (Nat.le_of_ble_eq_true rfl) (Nat.le_of_ble_eq_true rfl) (Nat.zero_le _) (Nat.zero_le _) dX12_note_133 ?_
              have hFc := free_all hD hS hA
              obtain ⟨k42, gk42, hk42⟩ := wGt (cy := cy) X S h_o1.1 h_o1.2.1
              refine va_calli (va_runV (As := [.int (if r35 < r37 then r37 else r35)]) (rest := []) ⟨hx, hb, hml, hown, hts⟩ (c_X12_answer l (cy := cy) (X := X) (D := D) S _ o1 h_o1 (if r35 < r37 then r37 else r35) (hW)) (cwV 1 hts gX12_note_X12_answer rfl rfl rfl hd_X12_answer ⟨Nat.le_of_ble_eq_true rfl, Nat.le_of_ble_eq_true rfl⟩) ⟨fun a U g mk q => ⟨q.1, q.2.1, q.2.2.1.calling, NW.same (u := U) (U := U.calling g mk a) rfl q.2.2.2⟩, va_recv hK hP (q := (RX12, TX12, 34)) (ci := 16) (q0 := k42) rfl hk42, fun U hU hW => ⟨rfl, by rw [hU], wd_pre hP hK hD hU hW, hN.warm hW⟩⟩ rfl rfl hl.1 rfl (lv_room (Nat.le_of_ble_eq_true rfl)) dX12_note_136 ⟨(Nat.zero_le _), (Nat.zero_le _)⟩) hS (fun q _ h => hFc q h) hFc (fun r43 u t H1 locs ht hvm hw hB hz1 hk1 hS => ?_)
              obtain ⟨c44, w45⟩ := hw
              obtain ⟨hP, hD⟩ := wd_post hFc ht hB
              generalize H1 = H at hP hS ⊢
              obtain ⟨S46, rfl⟩ : ∃ z, z = u := ⟨_, rfl⟩
              have t47 : stp [(12, 15)] [] [] S S46 := t0.tr w45 (by decide) (fun _ q => absurd q List.not_mem_nil)
              have xe48 : ext S S46 := w45.x
              refine W.widen (k := 0) (n := 0) (Nat.le_of_ble_eq_true rfl) (Nat.le_of_ble_eq_true rfl) ?_
              exact W.iret (v := r43) hx hb hr (fun t ht hW9 => ⟨⟨r43, S46, rfl, t47, wd_end hP hK hD ht hW9.alike⟩, hS.F ht⟩) hS.2.2 dX12_note_139 hlocks
            · exact absurd (by decide) c41
          · have c40i : ((S.I r29 1) - (S.I r29 1) / x3 * x3).toInt = 0 := eq_v rfl rfl c40
            refine lv_aload hx hb dX12_note_95 (lv_at hl 2 rfl) ?_
            obtain ⟨k49, gk49, hk49⟩ := wGt (cy := cy) X S o33.1 o33.2.1
            have i50 := ((hW.at o33 List.not_mem_nil).to_10 o33.2.1).R1
            refine va_getN (D := D) (ci := 14) (v := .int (S.I r32 1)) (C := RX10) (T := TX10) (N := 23) hx hb hts (by decide +kernel) hown hK hP k49 hk49 rfl 1 (by decide) (va_Nw.use rfl (hN (.fieldLinkNest RX12 332 "HobhouseModel$Gear" "teeth" "I" "HobhouseModel") (by decide +kernel))) (fun _ h9 => h9) rfl dX12_note_97 ?_
            refine lv_iload_n hx hb dX12_note_100 rfl (lv_at hl 7 rfl) ?_
            refine lv_irem hx hb dX12_note_101 (nz_i (by omega)) ?_
            refine lv_if_ne (tgt := 109) hx hb dX12_note_102 (by decide) (fun c51 => ?_) (fun c51 => ?_)
            · have c51i : ¬ ((S.I r32 1) - (S.I r32 1) / x3 * x3).toInt = 0 := neq_v rfl rfl c51
              refine lv_iconst (v := 0) hx hb dX12_note_109 (by decide) ?_
              refine lv_istore (lv' := [(8, .int (0 : Int32)), (7, .int r37), (6, .int r35), (5, .ref r32), (4, .ref r29), (0, .ref o1), (1, .int x1), (2, .int x2), (3, .int x3)]) hx hb dX12_note_110 hl (by decide) rfl (fun ls hl => ?_)
              refine lv_aload_n hx hb dX12_note_112 rfl (lv_at hl 5 rfl) ?_
              refine lv_iload hx hb dX12_note_113 (lv_at hl 0 rfl) ?_
              refine lv_if_eq (tgt := 129) hx hb dX12_note_115 (by decide) (fun c52 => ?_) (fun c52 => ?_)
              · refine lv_iload hx hb dX12_note_129 (lv_at hl 2 rfl) ?_
                refine lv_iload hx hb dX12_note_131 (lv_at hl 1 rfl) ?_
                refine va_mmax hx hb (hml.trans hl.1.symm) hown (hts (.methodLink RX12 418 Lib.Math.max.name) (by decide +kernel)) (hts (.static Lib.Math.max.name) (by decide +kernel)) (hts (.initialized "java/lang/Math") (by decide +kernel)) (hts (.code Lib.Math.max.name Lib.Math.max.code 2 (some .int)) (by decide +kernel)) (Nat.le_of_ble_eq_true rfl) (Nat.le_of_ble_eq_true rfl) (Nat.zero_le _) (Nat.zero_le _) dX12_note_133 ?_
                have hFc := free_all hD hS hA
                obtain ⟨k53, gk53, hk53⟩ := wGt (cy := cy) X S h_o1.1 h_o1.2.1
                refine va_calli (va_runV (As := [.int (if r35 < r37 then r37 else r35)]) (rest := []) ⟨hx, hb, hml, hown, hts⟩ (c_X12_answer l (cy := cy) (X := X) (D := D) S _ o1 h_o1 (if r35 < r37 then r37 else r35) (hW)) (cwV 1 hts gX12_note_X12_answer rfl rfl rfl hd_X12_answer ⟨Nat.le_of_ble_eq_true rfl, Nat.le_of_ble_eq_true rfl⟩) ⟨fun a U g mk q => ⟨q.1, q.2.1, q.2.2.1.calling, NW.same (u := U) (U := U.calling g mk a) rfl q.2.2.2⟩, va_recv hK hP (q := (RX12, TX12, 34)) (ci := 16) (q0 := k53) rfl hk53, fun U hU hW => ⟨rfl, by rw [hU], wd_pre hP hK hD hU hW, hN.warm hW⟩⟩ rfl rfl hl.1 rfl (lv_room (Nat.le_of_ble_eq_true rfl)) dX12_note_136 ⟨(Nat.zero_le _), (Nat.zero_le _)⟩) hS (fun q _ h => hFc q h) hFc (fun r54 u t H1 locs ht hvm hw hB hz1 hk1 hS => ?_)
                obtain ⟨c55, w56⟩ := hw
                obtain ⟨hP, hD⟩ := wd_post hFc ht hB
                generalize H1 = H at hP hS ⊢
                obtain ⟨S57, rfl⟩ : ∃ z, z = u := ⟨_, rfl⟩
                have t58 : stp [(12, 15)] [] [] S S57 := t0.tr w56 (by decide) (fun _ q => absurd q List.not_mem_nil)
                have xe59 : ext S S57 := w56.x
                refine W.widen (k := 0) (n := 0) (Nat.le_of_ble_eq_true rfl) (Nat.le_of_ble_eq_true rfl) ?_
                exact W.iret (v := r54) hx hb hr (fun t ht hW9 => ⟨⟨r54, S57, rfl, t58, wd_end hP hK hD ht hW9.alike⟩, hS.F ht⟩) hS.2.2 dX12_note_139 hlocks
              · exact absurd (by decide) c52
            · have c51i : ((S.I r32 1) - (S.I r32 1) / x3 * x3).toInt = 0 := eq_v rfl rfl c51
              refine lv_iconst (v := 1) hx hb dX12_note_105 (by decide) ?_
              refine lv_goto (tgt := 110) hx hb dX12_note_106 (by decide) ?_
              refine lv_istore (lv' := [(8, .int (1 : Int32)), (7, .int r37), (6, .int r35), (5, .ref r32), (4, .ref r29), (0, .ref o1), (1, .int x1), (2, .int x2), (3, .int x3)]) hx hb dX12_note_110 hl (by decide) rfl (fun ls hl => ?_)
              refine lv_aload_n hx hb dX12_note_112 rfl (lv_at hl 5 rfl) ?_
              refine lv_iload hx hb dX12_note_113 (lv_at hl 0 rfl) ?_
              refine lv_if_eq (tgt := 129) hx hb dX12_note_115 (by decide) (fun c60 => ?_) (fun c60 => ?_)
              · exact absurd c60 (by decide)
              · refine lv_iload hx hb dX12_note_118 (lv_at hl 2 rfl) ?_
                refine lv_iload hx hb dX12_note_120 (lv_at hl 1 rfl) ?_
                refine lv_isub hx hb dX12_note_122 ?_
                refine va_mabs hx hb (hml.trans hl.1.symm) hown (hts (.methodLink RX12 215 Lib.Math.abs.name) (by decide +kernel)) (hts (.static Lib.Math.abs.name) (by decide +kernel)) (hts (.initialized "java/lang/Math") (by decide +kernel)) (hts (.code Lib.Math.abs.name Lib.Math.abs.code 1 (some .int)) (by decide +kernel)) (Nat.le_of_ble_eq_true rfl) (Nat.le_of_ble_eq_true rfl) (Nat.zero_le _) (Nat.zero_le _) dX12_note_123 ?_
                refine lv_goto (tgt := 136) hx hb dX12_note_126 (by decide) ?_
                have hFc := free_all hD hS hA
                obtain ⟨k61, gk61, hk61⟩ := wGt (cy := cy) X S h_o1.1 h_o1.2.1
                refine va_calli (va_runV (As := [.int (if 0 ≤ (r35 - r37) then (r35 - r37) else 0 - (r35 - r37))]) (rest := []) ⟨hx, hb, hml, hown, hts⟩ (c_X12_answer l (cy := cy) (X := X) (D := D) S _ o1 h_o1 (if 0 ≤ (r35 - r37) then (r35 - r37) else 0 - (r35 - r37)) (hW)) (cwV 1 hts gX12_note_X12_answer rfl rfl rfl hd_X12_answer ⟨Nat.le_of_ble_eq_true rfl, Nat.le_of_ble_eq_true rfl⟩) ⟨fun a U g mk q => ⟨q.1, q.2.1, q.2.2.1.calling, NW.same (u := U) (U := U.calling g mk a) rfl q.2.2.2⟩, va_recv hK hP (q := (RX12, TX12, 34)) (ci := 16) (q0 := k61) rfl hk61, fun U hU hW => ⟨rfl, by rw [hU], wd_pre hP hK hD hU hW, hN.warm hW⟩⟩ rfl rfl hl.1 rfl (lv_room (Nat.le_of_ble_eq_true rfl)) dX12_note_136 ⟨(Nat.zero_le _), (Nat.zero_le _)⟩) hS (fun q _ h => hFc q h) hFc (fun r62 u t H1 locs ht hvm hw hB hz1 hk1 hS => ?_)
                obtain ⟨c63, w64⟩ := hw
                obtain ⟨hP, hD⟩ := wd_post hFc ht hB
                generalize H1 = H at hP hS ⊢
                obtain ⟨S65, rfl⟩ : ∃ z, z = u := ⟨_, rfl⟩
                have t66 : stp [(12, 15)] [] [] S S65 := t0.tr w64 (by decide) (fun _ q => absurd q List.not_mem_nil)
                have xe67 : ext S S65 := w64.x
                refine W.widen (k := 0) (n := 0) (Nat.le_of_ble_eq_true rfl) (Nat.le_of_ble_eq_true rfl) ?_
                exact W.iret (v := r62) hx hb hr (fun t ht hW9 => ⟨⟨r62, S65, rfl, t66, wd_end hP hK hD ht hW9.alike⟩, hS.F ht⟩) hS.2.2 dX12_note_139 hlocks
        · have c27i : r25.toInt = 0 := eq_v rfl rfl c27
          refine lv_aload_n hx hb dX12_note_49 rfl (lv_at hl 0 rfl) ?_
          refine lv_iconst (v := 3) hx hb dX12_note_50 (by decide) ?_
          have l32_3 : (3 : Int32).toInt = 3 := rfl
          have hFc := free_all hD hS hA
          obtain ⟨k68, gk68, hk68⟩ := wGt (cy := cy) X S h_o1.1 h_o1.2.1
          refine va_calli (va_runV (As := [.int (3 : Int32)]) (rest := []) ⟨hx, hb, hml, hown, hts⟩ (c_X12_fails l (cy := cy) (X := X) (D := D) S _ o1 h_o1 (3 : Int32) (hW)) (cwV 1 hts gX12_note_X12_fails rfl rfl rfl hd_X12_fails ⟨Nat.le_of_ble_eq_true rfl, Nat.le_of_ble_eq_true rfl⟩) ⟨fun a U g mk q => ⟨q.1, q.2.1, q.2.2.1.calling, NW.same (u := U) (U := U.calling g mk a) rfl q.2.2.2⟩, va_recv hK hP (q := (RX12, TX12, 34)) (ci := 16) (q0 := k68) rfl hk68, fun U hU hW => ⟨rfl, by rw [hU], wd_pre hP hK hD hU hW, hN.warm hW⟩⟩ rfl rfl hl.1 rfl (lv_room (Nat.le_of_ble_eq_true rfl)) dX12_note_51 ⟨(Nat.zero_le _), (Nat.zero_le _)⟩) hS (fun q _ h => hFc q h) hFc (fun r69 u t H1 locs ht hvm hw hB hz1 hk1 hS => ?_)
          obtain ⟨c70, w71⟩ := hw
          obtain ⟨hP, hD⟩ := wd_post hFc ht hB
          generalize H1 = H at hP hS ⊢
          obtain ⟨S72, rfl⟩ : ∃ z, z = u := ⟨_, rfl⟩
          have t73 : stp [(12, 15)] [] [] S S72 := t0.tr w71 (by decide) (fun _ q => absurd q List.not_mem_nil)
          have xe74 : ext S S72 := w71.x
          refine W.widen (k := 0) (n := 0) (Nat.le_of_ble_eq_true rfl) (Nat.le_of_ble_eq_true rfl) ?_
          exact W.iret (v := r69) hx hb hr (fun t ht hW9 => ⟨⟨r69, S72, rfl, t73, wd_end hP hK hD ht hW9.alike⟩, hS.F ht⟩) hS.2.2 dX12_note_54 hlocks
      · have c23i : (f_X12_in x3.toInt64 (1 : Int64) (200 : Int64)).toInt = 0 := eq_v rfl rfl c23
        refine lv_aload_n hx hb dX12_note_34 rfl (lv_at hl 0 rfl) ?_
        refine lv_iconst (v := 2) hx hb dX12_note_35 (by decide) ?_
        have l32_2 : (2 : Int32).toInt = 2 := rfl
        have hFc := free_all hD hS hA
        obtain ⟨k75, gk75, hk75⟩ := wGt (cy := cy) X S h_o1.1 h_o1.2.1
        refine va_calli (va_runV (As := [.int (2 : Int32)]) (rest := []) ⟨hx, hb, hml, hown, hts⟩ (c_X12_fails l (cy := cy) (X := X) (D := D) S _ o1 h_o1 (2 : Int32) (hW)) (cwV 1 hts gX12_note_X12_fails rfl rfl rfl hd_X12_fails ⟨Nat.le_of_ble_eq_true rfl, Nat.le_of_ble_eq_true rfl⟩) ⟨fun a U g mk q => ⟨q.1, q.2.1, q.2.2.1.calling, NW.same (u := U) (U := U.calling g mk a) rfl q.2.2.2⟩, va_recv hK hP (q := (RX12, TX12, 34)) (ci := 16) (q0 := k75) rfl hk75, fun U hU hW => ⟨rfl, by rw [hU], wd_pre hP hK hD hU hW, hN.warm hW⟩⟩ rfl rfl hl.1 rfl (lv_room (Nat.le_of_ble_eq_true rfl)) dX12_note_36 ⟨(Nat.zero_le _), (Nat.zero_le _)⟩) hS (fun q _ h => hFc q h) hFc (fun r76 u t H1 locs ht hvm hw hB hz1 hk1 hS => ?_)
        obtain ⟨c77, w78⟩ := hw
        obtain ⟨hP, hD⟩ := wd_post hFc ht hB
        generalize H1 = H at hP hS ⊢
        obtain ⟨S79, rfl⟩ : ∃ z, z = u := ⟨_, rfl⟩
        have t80 : stp [(12, 15)] [] [] S S79 := t0.tr w78 (by decide) (fun _ q => absurd q List.not_mem_nil)
        have xe81 : ext S S79 := w78.x
        refine W.widen (k := 0) (n := 0) (Nat.le_of_ble_eq_true rfl) (Nat.le_of_ble_eq_true rfl) ?_
        exact W.iret (v := r76) hx hb hr (fun t ht hW9 => ⟨⟨r76, S79, rfl, t80, wd_end hP hK hD ht hW9.alike⟩, hS.F ht⟩) hS.2.2 dX12_note_39 hlocks
    · have c18i : (f_X12_isGear S o1 x2).toInt = 0 := eq_v rfl rfl c18
      refine lv_aload_n hx hb dX12_note_16 rfl (lv_at hl 0 rfl) ?_
      refine lv_iconst (v := 1) hx hb dX12_note_17 (by decide) ?_
      have l32_1 : (1 : Int32).toInt = 1 := rfl
      have hFc := free_all hD hS hA
      obtain ⟨k82, gk82, hk82⟩ := wGt (cy := cy) X S h_o1.1 h_o1.2.1
      refine va_calli (va_runV (As := [.int (1 : Int32)]) (rest := []) ⟨hx, hb, hml, hown, hts⟩ (c_X12_fails l (cy := cy) (X := X) (D := D) S _ o1 h_o1 (1 : Int32) (hW)) (cwV 1 hts gX12_note_X12_fails rfl rfl rfl hd_X12_fails ⟨Nat.le_of_ble_eq_true rfl, Nat.le_of_ble_eq_true rfl⟩) ⟨fun a U g mk q => ⟨q.1, q.2.1, q.2.2.1.calling, NW.same (u := U) (U := U.calling g mk a) rfl q.2.2.2⟩, va_recv hK hP (q := (RX12, TX12, 34)) (ci := 16) (q0 := k82) rfl hk82, fun U hU hW => ⟨rfl, by rw [hU], wd_pre hP hK hD hU hW, hN.warm hW⟩⟩ rfl rfl hl.1 rfl (lv_room (Nat.le_of_ble_eq_true rfl)) dX12_note_18 ⟨(Nat.zero_le _), (Nat.zero_le _)⟩) hS (fun q _ h => hFc q h) hFc (fun r83 u t H1 locs ht hvm hw hB hz1 hk1 hS => ?_)
      obtain ⟨c84, w85⟩ := hw
      obtain ⟨hP, hD⟩ := wd_post hFc ht hB
      generalize H1 = H at hP hS ⊢
      obtain ⟨S86, rfl⟩ : ∃ z, z = u := ⟨_, rfl⟩
      have t87 : stp [(12, 15)] [] [] S S86 := t0.tr w85 (by decide) (fun _ q => absurd q List.not_mem_nil)
      have xe88 : ext S S86 := w85.x
      refine W.widen (k := 0) (n := 0) (Nat.le_of_ble_eq_true rfl) (Nat.le_of_ble_eq_true rfl) ?_
      exact W.iret (v := r83) hx hb hr (fun t ht hW9 => ⟨⟨r83, S86, rfl, t87, wd_end hP hK hD ht hW9.alike⟩, hS.F ht⟩) hS.2.2 dX12_note_21 hlocks
theorem hd_X12_hunts : yX12_hunts.cls = RX12 ∧ yX12_hunts.cls ≠ "java/lang/invoke/MethodHandle" ∧ yX12_hunts.cls ≠ "java/lang/invoke/VarHandle" ∧ (parseMethodDescriptor yX12_hunts.desc).map (fun d => d.parameters.length) = some 2 := by decide +kernel
set_option maxHeartbeats 4000000 in
set_option maxRecDepth 100000 in
theorem c_X12_hunts (l : Launch) {D : va_G} {cy : Nat → ClassId} {X : va_W} (S : wPS) (sz : Nat) (o1 : Nat) (h_o1 : isA S o1 12) (x1 : Int32) (x2 : Int32) (hW : wtB S [])  : Met l yX12_hunts wsX12_hunts ({ frames := 17, cells := 0, slots := 0, locals := 357 }) (va_Pc [.ref o1, .int x1, .int x2] (fun U => U.heap.size = sz ∧ WD D cy X (fun _ => True) S U ∧ NW U)) (va_Qi (fun r (u : wPS) => stp [(12, 15)] [] [] S u ∧ narrow .boolean (.int r) = .int r) (fun u t => WD D cy X (va_A (X ++ PL cy S) sz) u t) (va_A (X ++ PL cy S) sz)) 0 0 (va_A (X ++ PL cy S) sz) := by
  refine Met.ofW (cc := cX12_hunts) (maxL := 3) (ret := (some .boolean)) (by decide) rfl ?_
  intro p e s m args below meth c s₁ B hml hv
  obtain ⟨rfl, hsz, ⟨hP, hK, hD0⟩, hN⟩ := hv
  have hx := B.exec
  have hb := B.bytes
  have hr := B.returns
  have hts := atoms_spec (ws := wsX12_hunts) B.pre
  have hown : s.vm.findClass RX12 = some m.cls := findClass_of_methodNamed (x := yX12_hunts) B.named
  have hlocks := B.notSynchronized
  subst hsz
  have hD := hD0.self (sz := s.heap.size)
  generalize hAe : va_A (X ++ PL cy S) s.heap.size = A at hD ⊢
  have hA : ∀ q : Nat, s.heap.size ≤ q → A q := fun q h => by rw [← hAe]; exact Or.inr h
  have hS : va_S A s.heap s.heap [] := va_S.rf
  have hl := lv_entry ([.ref o1, .int x1, .int x2]) (n := 3) (Nat.le_of_ble_eq_true rfl)
  rw [lg_entry_eq]
  generalize (lg_sl ([.ref o1, .int x1, .int x2]) ++ List.replicate (3 - (lg_sl ([.ref o1, .int x1, .int x2])).length) Slot.unset).toArray = ls at hl ⊢
  have hl : lv_has ls 3 [(0, .ref o1), (1, .int x1), (2, .int x2)] := hl
  have t0 : stp [(12, 15)] [] [] S S := stp.rf hW
  have F1 := ((hW.at h_o1 List.not_mem_nil).to_12 h_o1.2.1).F0
  refine lv_aload_n hx hb dX12_hunts_0 rfl (lv_at hl 0 rfl) ?_
  refine lv_iload_n hx hb dX12_hunts_1 rfl (lv_at hl 1 rfl) ?_
  refine lv_iload_n hx hb dX12_hunts_2 rfl (lv_at hl 2 rfl) ?_
  refine lv_iconst (v := 1) hx hb dX12_hunts_3 (by decide) ?_
  refine lv_iconst (v := 2) hx hb dX12_hunts_4 (by decide) ?_
  have l32_1 : (1 : Int32).toInt = 1 := rfl
  have l32_2 : (2 : Int32).toInt = 2 := rfl
  have hFc := free_all hD hS hA
  obtain ⟨k2, gk2, hk2⟩ := wGt (cy := cy) X S h_o1.1 h_o1.2.1
  refine va_calli (va_runV (As := [.int x1, .int x2, .int (1 : Int32), .int (2 : Int32)]) (rest := []) ⟨hx, hb, hml, hown, hts⟩ (c_X12_isAsked l (cy := cy) (X := X) (D := D) S _ o1 h_o1 x1 x2 (hW)) (cwV 4 hts gX12_hunts_X12_isAsked rfl rfl rfl hd_X12_isAsked ⟨Nat.le_of_ble_eq_true rfl, Nat.le_of_ble_eq_true rfl⟩) ⟨fun a U g mk q => ⟨q.1, q.2.1, q.2.2.1.calling, NW.same (u := U) (U := U.calling g mk a) rfl q.2.2.2⟩, va_recv hK hP (q := (RX12, TX12, 34)) (ci := 16) (q0 := k2) rfl hk2, fun U hU hW => ⟨rfl, by rw [hU], wd_pre hP hK hD hU hW, hN.warm hW⟩⟩ rfl rfl hl.1 rfl (lv_room (Nat.le_of_ble_eq_true rfl)) dX12_hunts_5 ⟨(Nat.zero_le _), (Nat.zero_le _)⟩) hS (fun q _ h => hFc q h) hFc (fun r3 u t H1 locs ht hvm hw hB hz1 hk1 hS => ?_)
  obtain ⟨w4, y5, y6⟩ := hw
  obtain ⟨hP, hD⟩ := wd_post hFc ht hB
  generalize H1 = H at hP hS ⊢
  obtain ⟨S7, rfl⟩ : ∃ z, z = u := ⟨_, rfl⟩
  have t8 : stp [(12, 15)] [] [] S S7 := t0.tr w4 (by decide) (fun _ q => absurd q List.not_mem_nil)
  have xe9 : ext S S7 := w4.x
  have k10 : (S7.I (S.f o1 0) 2).toInt = (S.I (S.f o1 0) 2).toInt := by rw [(w4.fR (S.f o1 0) F1.2.1.1 List.not_mem_nil).1 2 (by rw [F1.2.1.2.1]; decide) |>.1]
  refine lv_if_eq (tgt := 38) hx hb dX12_hunts_8 (by decide) (fun c11 => ?_) (fun c11 => ?_)
  · have c11i : r3.toInt = 0 := eq_v rfl rfl c11
    refine lv_iconst (v := 0) hx hb dX12_hunts_38 (by decide) ?_
    refine W.widen (k := 0) (n := 0) (Nat.le_of_ble_eq_true rfl) (Nat.le_of_ble_eq_true rfl) ?_
    exact W.zret (v := (0 : Int32)) hx hb hr (by rfl) (fun t ht hW9 => ⟨⟨(0 : Int32), S7, rfl, ⟨t8, (by rfl)⟩, wd_end hP hK hD ht hW9.alike⟩, hS.F ht⟩) hS.2.2 dX12_hunts_39 hlocks
  · have c11i : ¬ r3.toInt = 0 := neq_v rfl rfl c11
    refine lv_aload_n hx hb dX12_hunts_11 rfl (lv_at hl 0 rfl) ?_
    refine lv_iload_n hx hb dX12_hunts_12 rfl (lv_at hl 1 rfl) ?_
    have hFc := free_all hD hS hA
    obtain ⟨k12, gk12, hk12⟩ := wGt (cy := cy) X S7 (xe9.A h_o1).1 (xe9.A h_o1).2.1
    refine va_callq (va_runV (As := [.int x1]) (rest := []) ⟨hx, hb, hml, hown, hts⟩ (c_X12_gearAt l (cy := cy) (X := X) (D := D) S7 _ o1 (xe9.A h_o1) x1 (t8.w) (by rw [f_of (xe9.F h_o1 (by decide) F1.1)]; omega)) (cwV 1 hts gX12_hunts_X12_gearAt rfl rfl rfl hd_X12_gearAt ⟨Nat.le_of_ble_eq_true rfl, Nat.le_of_ble_eq_true rfl⟩) ⟨fun a U g mk q => ⟨q.1, q.2.1, q.2.2.1.calling, NW.same (u := U) (U := U.calling g mk a) rfl q.2.2.2⟩, va_recv hK hP (q := (RX12, TX12, 34)) (ci := 16) (q0 := k12) rfl hk12, fun U hU hW => ⟨rfl, by rw [hU], wd_pre hP hK hD hU hW, hN.warm hW⟩⟩ rfl rfl hl.1 rfl (lv_room (Nat.le_of_ble_eq_true rfl)) dX12_hunts_13 ⟨(Nat.zero_le _), (Nat.zero_le _)⟩) hS (fun q _ h => hFc q h) hFc (fun r13 u t H1 locs ht hvm hw hB hz1 hk1 hS => ?_)
    obtain ⟨r13, rfl, o14⟩ := hw
    obtain ⟨hP, hD⟩ := wd_post hFc ht hB
    generalize H1 = H at hP hS ⊢
    refine W.eq (g2 := F0 m 16 ls [.ref r13]) rfl ?_
    obtain ⟨k15, gk15, hk15⟩ := wGt (cy := cy) X S7 o14.1 o14.2.1
    have i16 := ((t8.w.at o14 List.not_mem_nil).to_10 o14.2.1).R1
    refine va_getN (D := D) (ci := 14) (v := .int (S7.I r13 1)) (C := RX10) (T := TX10) (N := 23) hx hb hts (by decide +kernel) hown hK hP k15 hk15 rfl 1 (by decide) (va_Nw.use rfl (hN (.fieldLinkNest RX12 332 "HobhouseModel$Gear" "teeth" "I" "HobhouseModel") (by decide +kernel))) (fun _ h9 => h9) rfl dX12_hunts_16 ?_
    refine lv_aload_n hx hb dX12_hunts_19 rfl (lv_at hl 0 rfl) ?_
    refine lv_iload_n hx hb dX12_hunts_20 rfl (lv_at hl 2 rfl) ?_
    have hFc := free_all hD hS hA
    obtain ⟨k17, gk17, hk17⟩ := wGt (cy := cy) X S7 (xe9.A h_o1).1 (xe9.A h_o1).2.1
    refine va_callq (va_runV (As := [.int x2]) (rest := [.int (S7.I r13 1)]) ⟨hx, hb, hml, hown, hts⟩ (c_X12_gearAt l (cy := cy) (X := X) (D := D) S7 _ o1 (xe9.A h_o1) x2 (t8.w) (by rw [f_of (xe9.F h_o1 (by decide) F1.1)]; omega)) (cwV 1 hts gX12_hunts_X12_gearAt rfl rfl rfl hd_X12_gearAt ⟨Nat.le_of_ble_eq_true rfl, Nat.le_of_ble_eq_true rfl⟩) ⟨fun a U g mk q => ⟨q.1, q.2.1, q.2.2.1.calling, NW.same (u := U) (U := U.calling g mk a) rfl q.2.2.2⟩, va_recv hK hP (q := (RX12, TX12, 34)) (ci := 16) (q0 := k17) rfl hk17, fun U hU hW => ⟨rfl, by rw [hU], wd_pre hP hK hD hU hW, hN.warm hW⟩⟩ rfl rfl hl.1 rfl (lv_room (Nat.le_of_ble_eq_true rfl)) dX12_hunts_21 ⟨(Nat.zero_le _), (Nat.zero_le _)⟩) hS (fun q _ h => hFc q h) hFc (fun r18 u t H1 locs ht hvm hw hB hz1 hk1 hS => ?_)
    obtain ⟨r18, rfl, o19⟩ := hw
    obtain ⟨hP, hD⟩ := wd_post hFc ht hB
    generalize H1 = H at hP hS ⊢
    refine W.eq (g2 := F0 m 24 ls [.ref r18, .int (S7.I r13 1)]) rfl ?_
    obtain ⟨k20, gk20, hk20⟩ := wGt (cy := cy) X S7 o19.1 o19.2.1
    have i21 := ((t8.w.at o19 List.not_mem_nil).to_10 o19.2.1).R1
    refine va_getN (D := D) (ci := 14) (v := .int (S7.I r18 1)) (C := RX10) (T := TX10) (N := 23) hx hb hts (by decide +kernel) hown hK hP k20 hk20 rfl 1 (by decide) (va_Nw.use rfl (hN (.fieldLinkNest RX12 332 "HobhouseModel$Gear" "teeth" "I" "HobhouseModel") (by decide +kernel))) (fun _ h9 => h9) rfl dX12_hunts_24 ?_
    have hFc := free_all hD hS hA
    refine va_calli (va_runS (As := [.int (S7.I r13 1), .int (S7.I r18 1)]) (rest := []) ⟨hx, hb, hml, hown, hts⟩ (c_X12_divisor_e8 l (cy := cy) (X := X) (D := D) S7 _ (S7.I r13 1) (S7.I r18 1) (by omega) (by omega) (by omega) (by omega)) (cwS 2 hts gX12_hunts_X12_divisor rfl rfl rfl hd_X12_divisor ⟨Nat.le_of_ble_eq_true rfl, Nat.le_of_ble_eq_true rfl⟩) ⟨fun a U g mk q => ⟨q.1, q.2.1, q.2.2.1.calling, NW.same (u := U) (U := U.calling g mk a) rfl q.2.2.2⟩, fun U hU hW => ⟨rfl, by rw [hU], wd_pre hP hK hD hU hW, hN.warm hW⟩⟩ rfl rfl hl.1 rfl (lv_room (Nat.le_of_ble_eq_true rfl)) dX12_hunts_27 ⟨(Nat.zero_le _), (Nat.zero_le _)⟩) hS (fun q _ h => hFc q h) hFc (fun r22 u t H1 locs ht hvm hw hB hz1 hk1 hS => ?_)
    have y23 := hw
    obtain ⟨hP, hD⟩ := wd_post hFc ht hB
    generalize H1 = H at hP hS ⊢
    refine lv_iconst (v := 1) hx hb dX12_hunts_30 (by decide) ?_
    refine lv_icmp_ne (tgt := 38) hx hb dX12_hunts_31 (by decide) (fun c24 => ?_) (fun c24 => ?_)
    · have c24i : ¬ r22.toInt = 1 := neq_v rfl rfl c24
      refine lv_iconst (v := 0) hx hb dX12_hunts_38 (by decide) ?_
      refine W.widen (k := 0) (n := 0) (Nat.le_of_ble_eq_true rfl) (Nat.le_of_ble_eq_true rfl) ?_
      exact W.zret (v := (0 : Int32)) hx hb hr (by rfl) (fun t ht hW9 => ⟨⟨(0 : Int32), S7, rfl, ⟨t8, (by rfl)⟩, wd_end hP hK hD ht hW9.alike⟩, hS.F ht⟩) hS.2.2 dX12_hunts_39 hlocks
    · have c24i : r22.toInt = 1 := eq_v rfl rfl c24
      refine lv_iconst (v := 1) hx hb dX12_hunts_34 (by decide) ?_
      refine lv_goto (tgt := 39) hx hb dX12_hunts_35 (by decide) ?_
      refine W.widen (k := 0) (n := 0) (Nat.le_of_ble_eq_true rfl) (Nat.le_of_ble_eq_true rfl) ?_
      exact W.zret (v := (1 : Int32)) hx hb hr (by rfl) (fun t ht hW9 => ⟨⟨(1 : Int32), S7, rfl, ⟨t8, (by rfl)⟩, wd_end hP hK hD ht hW9.alike⟩, hS.F ht⟩) hS.2.2 dX12_hunts_39 hlocks
theorem hd_X12_bears : yX12_bears.cls = RX12 ∧ yX12_bears.cls ≠ "java/lang/invoke/MethodHandle" ∧ yX12_bears.cls ≠ "java/lang/invoke/VarHandle" ∧ (parseMethodDescriptor yX12_bears.desc).map (fun d => d.parameters.length) = some 1 := by decide +kernel
set_option maxHeartbeats 4000000 in
set_option maxRecDepth 100000 in
theorem c_X12_bears (l : Launch) {D : va_G} {cy : Nat → ClassId} {X : va_W} (S : wPS) (sz : Nat) (o1 : Nat) (h_o1 : isA S o1 12) (x1 : Int32) (hW : wtB S [])  : Met l yX12_bears wsX12_bears ({ frames := 4, cells := 0, slots := 0, locals := 85 }) (va_Pc [.ref o1, .int x1] (fun U => U.heap.size = sz ∧ WD D cy X (fun _ => True) S U ∧ NW U)) (va_Qi (fun r (u : wPS) => stp [(12, 15)] [] [] S u) (fun u t => WD D cy X (va_A (X ++ PL cy S) sz) u t) (va_A (X ++ PL cy S) sz)) 0 0 (va_A (X ++ PL cy S) sz) := by
  refine Met.ofW (cc := cX12_bears) (maxL := 2) (ret := (some .int)) (by decide) rfl ?_
  intro p e s m args below meth c s₁ B hml hv
  obtain ⟨rfl, hsz, ⟨hP, hK, hD0⟩, hN⟩ := hv
  have hx := B.exec
  have hb := B.bytes
  have hr := B.returns
  have hts := atoms_spec (ws := wsX12_bears) B.pre
  have hown : s.vm.findClass RX12 = some m.cls := findClass_of_methodNamed (x := yX12_bears) B.named
  have hlocks := B.notSynchronized
  subst hsz
  have hD := hD0.self (sz := s.heap.size)
  generalize hAe : va_A (X ++ PL cy S) s.heap.size = A at hD ⊢
  have hA : ∀ q : Nat, s.heap.size ≤ q → A q := fun q h => by rw [← hAe]; exact Or.inr h
  have hS : va_S A s.heap s.heap [] := va_S.rf
  have hl := lv_entry ([.ref o1, .int x1]) (n := 2) (Nat.le_of_ble_eq_true rfl)
  rw [lg_entry_eq]
  generalize (lg_sl ([.ref o1, .int x1]) ++ List.replicate (2 - (lg_sl ([.ref o1, .int x1])).length) Slot.unset).toArray = ls at hl ⊢
  have hl : lv_has ls 2 [(0, .ref o1), (1, .int x1)] := hl
  have t0 : stp [(12, 15)] [] [] S S := stp.rf hW
  refine lv_aload_n hx hb dX12_bears_0 rfl (lv_at hl 0 rfl) ?_
  refine lv_iload_n hx hb dX12_bears_1 rfl (lv_at hl 1 rfl) ?_
  have hFc := free_all hD hS hA
  obtain ⟨k1, gk1, hk1⟩ := wGt (cy := cy) X S h_o1.1 h_o1.2.1
  refine va_calli (va_runV (As := [.int x1]) (rest := []) ⟨hx, hb, hml, hown, hts⟩ (c_X12_isGear l (cy := cy) (X := X) (D := D) S _ o1 h_o1 x1 (hW)) (cwV 1 hts gX12_bears_X12_isGear rfl rfl rfl hd_X12_isGear ⟨Nat.le_of_ble_eq_true rfl, Nat.le_of_ble_eq_true rfl⟩) ⟨fun a U g mk q => ⟨q.1, q.2.1, q.2.2.1.calling, NW.same (u := U) (U := U.calling g mk a) rfl q.2.2.2⟩, va_recv hK hP (q := (RX12, TX12, 34)) (ci := 16) (q0 := k1) rfl hk1, fun U hU hW => ⟨rfl, by rw [hU], wd_pre hP hK hD hU hW, hN.warm hW⟩⟩ rfl rfl hl.1 rfl (lv_room (Nat.le_of_ble_eq_true rfl)) dX12_bears_2 ⟨(Nat.zero_le _), (Nat.zero_le _)⟩) hS (fun q _ h => hFc q h) hFc (fun r2 u t H1 locs ht hvm hw hB hz1 hk1 hS => ?_)
  have c3 := hw
  obtain ⟨hP, hD⟩ := wd_post hFc ht hB
  generalize H1 = H at hP hS ⊢
  obtain rfl : r2 = f_X12_isGear S o1 x1 := c3
  have F4 := ((hW.at h_o1 List.not_mem_nil).to_12 h_o1.2.1).F0
  have i5 : (f_X12_isGear S o1 x1).toInt = 0 ∨ (0 ≤ x1.toInt ∧ x1.toInt < (S.I (S.f o1 0) 2).toInt) := by have h9 := ig_rng x1 ((hW.at h_o1 List.not_mem_nil).to_12 h_o1.2.1) hW; rw [f_of F4.1] at h9; exact h9
  refine lv_if_eq (tgt := 23) hx hb dX12_bears_5 (by decide) (fun c6 => ?_) (fun c6 => ?_)
  · have c6i : (f_X12_isGear S o1 x1).toInt = 0 := eq_v rfl rfl c6
    refine lv_aload_n hx hb dX12_bears_23 rfl (lv_at hl 0 rfl) ?_
    refine lv_iconst (v := 1) hx hb dX12_bears_24 (by decide) ?_
    have l32_1 : (1 : Int32).toInt = 1 := rfl
    have hFc := free_all hD hS hA
    obtain ⟨k7, gk7, hk7⟩ := wGt (cy := cy) X S h_o1.1 h_o1.2.1
    refine va_calli (va_runV (As := [.int (1 : Int32)]) (rest := []) ⟨hx, hb, hml, hown, hts⟩ (c_X12_fails l (cy := cy) (X := X) (D := D) S _ o1 h_o1 (1 : Int32) (hW)) (cwV 1 hts gX12_bears_X12_fails rfl rfl rfl hd_X12_fails ⟨Nat.le_of_ble_eq_true rfl, Nat.le_of_ble_eq_true rfl⟩) ⟨fun a U g mk q => ⟨q.1, q.2.1, q.2.2.1.calling, NW.same (u := U) (U := U.calling g mk a) rfl q.2.2.2⟩, va_recv hK hP (q := (RX12, TX12, 34)) (ci := 16) (q0 := k7) rfl hk7, fun U hU hW => ⟨rfl, by rw [hU], wd_pre hP hK hD hU hW, hN.warm hW⟩⟩ rfl rfl hl.1 rfl (lv_room (Nat.le_of_ble_eq_true rfl)) dX12_bears_25 ⟨(Nat.zero_le _), (Nat.zero_le _)⟩) hS (fun q _ h => hFc q h) hFc (fun r8 u t H1 locs ht hvm hw hB hz1 hk1 hS => ?_)
    obtain ⟨c9, w10⟩ := hw
    obtain ⟨hP, hD⟩ := wd_post hFc ht hB
    generalize H1 = H at hP hS ⊢
    obtain ⟨S11, rfl⟩ : ∃ z, z = u := ⟨_, rfl⟩
    have t12 : stp [(12, 15)] [] [] S S11 := t0.tr w10 (by decide) (fun _ q => absurd q List.not_mem_nil)
    have xe13 : ext S S11 := w10.x
    refine W.widen (k := 0) (n := 0) (Nat.le_of_ble_eq_true rfl) (Nat.le_of_ble_eq_true rfl) ?_
    exact W.iret (v := r8) hx hb hr (fun t ht hW9 => ⟨⟨r8, S11, rfl, t12, wd_end hP hK hD ht hW9.alike⟩, hS.F ht⟩) hS.2.2 dX12_bears_28 hlocks
  · have c6i : ¬ (f_X12_isGear S o1 x1).toInt = 0 := neq_v rfl rfl c6
    refine lv_aload_n hx hb dX12_bears_8 rfl (lv_at hl 0 rfl) ?_
    refine lv_aload_n hx hb dX12_bears_9 rfl (lv_at hl 0 rfl) ?_
    refine lv_iload_n hx hb dX12_bears_10 rfl (lv_at hl 1 rfl) ?_
    have hFc := free_all hD hS hA
    obtain ⟨k14, gk14, hk14⟩ := wGt (cy := cy) X S h_o1.1 h_o1.2.1
    refine va_callq (va_runV (As := [.int x1]) (rest := [.ref o1]) ⟨hx, hb, hml, hown, hts⟩ (c_X12_gearAt l (cy := cy) (X := X) (D := D) S _ o1 h_o1 x1 (hW) (by rw [f_of F4.1]; omega)) (cwV 1 hts gX12_bears_X12_gearAt rfl rfl rfl hd_X12_gearAt ⟨Nat.le_of_ble_eq_true rfl, Nat.le_of_ble_eq_true rfl⟩) ⟨fun a U g mk q => ⟨q.1, q.2.1, q.2.2.1.calling, NW.same (u := U) (U := U.calling g mk a) rfl q.2.2.2⟩, va_recv hK hP (q := (RX12, TX12, 34)) (ci := 16) (q0 := k14) rfl hk14, fun U hU hW => ⟨rfl, by rw [hU], wd_pre hP hK hD hU hW, hN.warm hW⟩⟩ rfl rfl hl.1 rfl (lv_room (Nat.le_of_ble_eq_true rfl)) dX12_bears_11 ⟨(Nat.zero_le _), (Nat.zero_le _)⟩) hS (fun q _ h => hFc q h) hFc (fun r15 u t H1 locs ht hvm hw hB hz1 hk1 hS => ?_)
    obtain ⟨r15, rfl, o16⟩ := hw
    obtain ⟨hP, hD⟩ := wd_post hFc ht hB
    generalize H1 = H at hP hS ⊢
    refine W.eq (g2 := F0 m 14 ls [.ref r15, .ref o1]) rfl ?_
    have hFc := free_all hD hS hA
    obtain ⟨k17, gk17, hk17⟩ := wGt (cy := cy) X S o16.1 o16.2.1
    refine va_calli (va_runV (As := []) (rest := [.ref o1]) ⟨hx, hb, hml, hown, hts⟩ (c_X10_bears_ l (cy := cy) (X := X) (D := D) S _ r15 o16 (hW)) (cwV 0 hts gX12_bears_X10_bears_ rfl rfl rfl hd_X10_bears_ ⟨Nat.le_of_ble_eq_true rfl, Nat.le_of_ble_eq_true rfl⟩) ⟨fun a U g mk q => ⟨q.1, q.2.1, q.2.2.1.calling, NW.same (u := U) (U := U.calling g mk a) rfl q.2.2.2⟩, va_recv hK hP (q := (RX10, TX10, 23)) (ci := 14) (q0 := k17) rfl hk17, fun U hU hW => ⟨rfl, by rw [hU], wd_pre hP hK hD hU hW, hN.warm hW⟩⟩ rfl rfl hl.1 rfl (lv_room (Nat.le_of_ble_eq_true rfl)) dX12_bears_14 ⟨(Nat.zero_le _), (Nat.zero_le _)⟩) hS (fun q _ h => hFc q h) hFc (fun r18 u t H1 locs ht hvm hw hB hz1 hk1 hS => ?_)
    have y19 := hw
    obtain ⟨hP, hD⟩ := wd_post hFc ht hB
    generalize H1 = H at hP hS ⊢
    have hFc := free_all hD hS hA
    obtain ⟨k20, gk20, hk20⟩ := wGt (cy := cy) X S h_o1.1 h_o1.2.1
    refine va_calli (va_runV (As := [.int r18]) (rest := []) ⟨hx, hb, hml, hown, hts⟩ (c_X12_answer l (cy := cy) (X := X) (D := D) S _ o1 h_o1 r18 (hW)) (cwV 1 hts gX12_bears_X12_answer rfl rfl rfl hd_X12_answer ⟨Nat.le_of_ble_eq_true rfl, Nat.le_of_ble_eq_true rfl⟩) ⟨fun a U g mk q => ⟨q.1, q.2.1, q.2.2.1.calling, NW.same (u := U) (U := U.calling g mk a) rfl q.2.2.2⟩, va_recv hK hP (q := (RX12, TX12, 34)) (ci := 16) (q0 := k20) rfl hk20, fun U hU hW => ⟨rfl, by rw [hU], wd_pre hP hK hD hU hW, hN.warm hW⟩⟩ rfl rfl hl.1 rfl (lv_room (Nat.le_of_ble_eq_true rfl)) dX12_bears_17 ⟨(Nat.zero_le _), (Nat.zero_le _)⟩) hS (fun q _ h => hFc q h) hFc (fun r21 u t H1 locs ht hvm hw hB hz1 hk1 hS => ?_)
    obtain ⟨c22, w23⟩ := hw
    obtain ⟨hP, hD⟩ := wd_post hFc ht hB
    generalize H1 = H at hP hS ⊢
    obtain ⟨S24, rfl⟩ : ∃ z, z = u := ⟨_, rfl⟩
    have t25 : stp [(12, 15)] [] [] S S24 := t0.tr w23 (by decide) (fun _ q => absurd q List.not_mem_nil)
    have xe26 : ext S S24 := w23.x
    refine lv_goto (tgt := 28) hx hb dX12_bears_20 (by decide) ?_
    refine W.widen (k := 0) (n := 0) (Nat.le_of_ble_eq_true rfl) (Nat.le_of_ble_eq_true rfl) ?_
    exact W.iret (v := r21) hx hb hr (fun t ht hW9 => ⟨⟨r21, S24, rfl, t25, wd_end hP hK hD ht hW9.alike⟩, hS.F ht⟩) hS.2.2 dX12_bears_28 hlocks
theorem hd_X12_life : yX12_life.cls = RX12 ∧ yX12_life.cls ≠ "java/lang/invoke/MethodHandle" ∧ yX12_life.cls ≠ "java/lang/invoke/VarHandle" ∧ (parseMethodDescriptor yX12_life.desc).map (fun d => d.parameters.length) = some 2 := by decide +kernel
set_option maxHeartbeats 4000000 in
set_option maxRecDepth 100000 in
theorem c_X12_life (l : Launch) {D : va_G} {cy : Nat → ClassId} {X : va_W} (S : wPS) (sz : Nat) (o1 : Nat) (h_o1 : isA S o1 12) (x1 : Int32) (x2 : Int32) (hW : wtB S [])  : Met l yX12_life wsX12_life ({ frames := 5, cells := 0, slots := 0, locals := 112 }) (va_Pc [.ref o1, .int x1, .int x2] (fun U => U.heap.size = sz ∧ WD D cy X (fun _ => True) S U ∧ NW U)) (va_Ql (fun r (u : wPS) => stp [(12, 15)] [] [] S u) (fun u t => WD D cy X (va_A (X ++ PL cy S) sz) u t) (va_A (X ++ PL cy S) sz)) 0 0 (va_A (X ++ PL cy S) sz) := by
  refine Met.ofW (cc := cX12_life) (maxL := 3) (ret := (some .long)) (by decide) rfl ?_
  intro p e s m args below meth c s₁ B hml hv
  obtain ⟨rfl, hsz, ⟨hP, hK, hD0⟩, hN⟩ := hv
  have hx := B.exec
  have hb := B.bytes
  have hr := B.returns
  have hts := atoms_spec (ws := wsX12_life) B.pre
  have hown : s.vm.findClass RX12 = some m.cls := findClass_of_methodNamed (x := yX12_life) B.named
  have hlocks := B.notSynchronized
  subst hsz
  have hD := hD0.self (sz := s.heap.size)
  generalize hAe : va_A (X ++ PL cy S) s.heap.size = A at hD ⊢
  have hA : ∀ q : Nat, s.heap.size ≤ q → A q := fun q h => by rw [← hAe]; exact Or.inr h
  have hS : va_S A s.heap s.heap [] := va_S.rf
  have hl := lv_entry ([.ref o1, .int x1, .int x2]) (n := 3) (Nat.le_of_ble_eq_true rfl)
  rw [lg_entry_eq]
  generalize (lg_sl ([.ref o1, .int x1, .int x2]) ++ List.replicate (3 - (lg_sl ([.ref o1, .int x1, .int x2])).length) Slot.unset).toArray = ls at hl ⊢
  have hl : lv_has ls 3 [(0, .ref o1), (1, .int x1), (2, .int x2)] := hl
  have t0 : stp [(12, 15)] [] [] S S := stp.rf hW
  refine lv_aload_n hx hb dX12_life_0 rfl (lv_at hl 0 rfl) ?_
  refine lv_iload_n hx hb dX12_life_1 rfl (lv_at hl 1 rfl) ?_
  have hFc := free_all hD hS hA
  obtain ⟨k1, gk1, hk1⟩ := wGt (cy := cy) X S h_o1.1 h_o1.2.1
  refine va_calli (va_runV (As := [.int x1]) (rest := []) ⟨hx, hb, hml, hown, hts⟩ (c_X12_isGear l (cy := cy) (X := X) (D := D) S _ o1 h_o1 x1 (hW)) (cwV 1 hts gX12_life_X12_isGear rfl rfl rfl hd_X12_isGear ⟨Nat.le_of_ble_eq_true rfl, Nat.le_of_ble_eq_true rfl⟩) ⟨fun a U g mk q => ⟨q.1, q.2.1, q.2.2.1.calling, NW.same (u := U) (U := U.calling g mk a) rfl q.2.2.2⟩, va_recv hK hP (q := (RX12, TX12, 34)) (ci := 16) (q0 := k1) rfl hk1, fun U hU hW => ⟨rfl, by rw [hU], wd_pre hP hK hD hU hW, hN.warm hW⟩⟩ rfl rfl hl.1 rfl (lv_room (Nat.le_of_ble_eq_true rfl)) dX12_life_2 ⟨(Nat.zero_le _), (Nat.zero_le _)⟩) hS (fun q _ h => hFc q h) hFc (fun r2 u t H1 locs ht hvm hw hB hz1 hk1 hS => ?_)
  have c3 := hw
  obtain ⟨hP, hD⟩ := wd_post hFc ht hB
  generalize H1 = H at hP hS ⊢
  obtain rfl : r2 = f_X12_isGear S o1 x1 := c3
  have F4 := ((hW.at h_o1 List.not_mem_nil).to_12 h_o1.2.1).F0
  have i5 : (f_X12_isGear S o1 x1).toInt = 0 ∨ (0 ≤ x1.toInt ∧ x1.toInt < (S.I (S.f o1 0) 2).toInt) := by have h9 := ig_rng x1 ((hW.at h_o1 List.not_mem_nil).to_12 h_o1.2.1) hW; rw [f_of F4.1] at h9; exact h9
  refine lv_if_ne (tgt := 15) hx hb dX12_life_5 (by decide) (fun c6 => ?_) (fun c6 => ?_)
  · have c6i : ¬ (f_X12_isGear S o1 x1).toInt = 0 := neq_v rfl rfl c6
    refine lv_iload_n hx hb dX12_life_15 rfl (lv_at hl 2 rfl) ?_
    refine lv_i2l hx hb dX12_life_16 rfl ?_
    refine lv_lconst (v := 1) hx hb dX12_life_17 (by decide) ?_
    refine lv_ldc2 (own := RX12) (v := 999999) hx hb hown (hts (.constantLong RX12 306 (999999)) (by decide +kernel)) dX12_life_18 ?_
    have hFc := free_all hD hS hA
    refine va_calli (va_runS (As := [.long x2.toInt64, .long (1 : Int64), .long (999999 : Int64)]) (rest := []) ⟨hx, hb, hml, hown, hts⟩ (c_X12_in l (cy := cy) (X := X) (D := D) S _ x2.toInt64 (1 : Int64) (999999 : Int64)) (cwS 3 hts gX12_life_X12_in rfl rfl rfl hd_X12_in ⟨Nat.le_of_ble_eq_true rfl, Nat.le_of_ble_eq_true rfl⟩) ⟨fun a U g mk q => ⟨q.1, q.2.1, q.2.2.1.calling, NW.same (u := U) (U := U.calling g mk a) rfl q.2.2.2⟩, fun U hU hW => ⟨rfl, by rw [hU], wd_pre hP hK hD hU hW, hN.warm hW⟩⟩ rfl rfl hl.1 rfl (lv_room (Nat.le_of_ble_eq_true rfl)) dX12_life_21 ⟨(Nat.zero_le _), (Nat.zero_le _)⟩) hS (fun q _ h => hFc q h) hFc (fun r7 u t H1 locs ht hvm hw hB hz1 hk1 hS => ?_)
    have c8 := hw
    obtain ⟨hP, hD⟩ := wd_post hFc ht hB
    generalize H1 = H at hP hS ⊢
    obtain rfl : r7 = f_X12_in x2.toInt64 (1 : Int64) (999999 : Int64) := c8
    have i9 := i64_i x2
    have l64_1 : (1 : Int64).toInt = 1 := rfl
    have l64_999999 : (999999 : Int64).toInt = 999999 := rfl
    have i10 := in_rng x2.toInt64 (1 : Int64) (999999 : Int64)
    refine lv_if_eq (tgt := 44) hx hb dX12_life_24 (by decide) (fun c11 => ?_) (fun c11 => ?_)
    · have c11i : (f_X12_in x2.toInt64 (1 : Int64) (999999 : Int64)).toInt = 0 := eq_v rfl rfl c11
      refine lv_aload_n hx hb dX12_life_44 rfl (lv_at hl 0 rfl) ?_
      refine lv_iconst (v := 2) hx hb dX12_life_45 (by decide) ?_
      have l32_2 : (2 : Int32).toInt = 2 := rfl
      have hFc := free_all hD hS hA
      obtain ⟨k12, gk12, hk12⟩ := wGt (cy := cy) X S h_o1.1 h_o1.2.1
      refine va_calli (va_runV (As := [.int (2 : Int32)]) (rest := []) ⟨hx, hb, hml, hown, hts⟩ (c_X12_fails l (cy := cy) (X := X) (D := D) S _ o1 h_o1 (2 : Int32) (hW)) (cwV 1 hts gX12_life_X12_fails rfl rfl rfl hd_X12_fails ⟨Nat.le_of_ble_eq_true rfl, Nat.le_of_ble_eq_true rfl⟩) ⟨fun a U g mk q => ⟨q.1, q.2.1, q.2.2.1.calling, NW.same (u := U) (U := U.calling g mk a) rfl q.2.2.2⟩, va_recv hK hP (q := (RX12, TX12, 34)) (ci := 16) (q0 := k12) rfl hk12, fun U hU hW => ⟨rfl, by rw [hU], wd_pre hP hK hD hU hW, hN.warm hW⟩⟩ rfl rfl hl.1 rfl (lv_room (Nat.le_of_ble_eq_true rfl)) dX12_life_46 ⟨(Nat.zero_le _), (Nat.zero_le _)⟩) hS (fun q _ h => hFc q h) hFc (fun r13 u t H1 locs ht hvm hw hB hz1 hk1 hS => ?_)
      obtain ⟨c14, w15⟩ := hw
      obtain ⟨hP, hD⟩ := wd_post hFc ht hB
      generalize H1 = H at hP hS ⊢
      obtain ⟨S16, rfl⟩ : ∃ z, z = u := ⟨_, rfl⟩
      have t17 : stp [(12, 15)] [] [] S S16 := t0.tr w15 (by decide) (fun _ q => absurd q List.not_mem_nil)
      have xe18 : ext S S16 := w15.x
      refine lv_i2l hx hb dX12_life_49 rfl ?_
      refine W.widen (k := 0) (n := 0) (Nat.le_of_ble_eq_true rfl) (Nat.le_of_ble_eq_true rfl) ?_
      exact W.lret (v := r13.toInt64) hx hb hr (fun t ht hW9 => ⟨⟨r13.toInt64, S16, rfl, t17, wd_end hP hK hD ht hW9.alike⟩, hS.F ht⟩) hS.2.2 dX12_life_50 hlocks
    · have c11i : ¬ (f_X12_in x2.toInt64 (1 : Int64) (999999 : Int64)).toInt = 0 := neq_v rfl rfl c11
      refine lv_aload_n hx hb dX12_life_27 rfl (lv_at hl 0 rfl) ?_
      refine lv_aload_n hx hb dX12_life_28 rfl (lv_at hl 0 rfl) ?_
      refine lv_iload_n hx hb dX12_life_29 rfl (lv_at hl 1 rfl) ?_
      have hFc := free_all hD hS hA
      obtain ⟨k19, gk19, hk19⟩ := wGt (cy := cy) X S h_o1.1 h_o1.2.1
      refine va_callq (va_runV (As := [.int x1]) (rest := [.ref o1]) ⟨hx, hb, hml, hown, hts⟩ (c_X12_gearAt l (cy := cy) (X := X) (D := D) S _ o1 h_o1 x1 (hW) (by rw [f_of F4.1]; omega)) (cwV 1 hts gX12_life_X12_gearAt rfl rfl rfl hd_X12_gearAt ⟨Nat.le_of_ble_eq_true rfl, Nat.le_of_ble_eq_true rfl⟩) ⟨fun a U g mk q => ⟨q.1, q.2.1, q.2.2.1.calling, NW.same (u := U) (U := U.calling g mk a) rfl q.2.2.2⟩, va_recv hK hP (q := (RX12, TX12, 34)) (ci := 16) (q0 := k19) rfl hk19, fun U hU hW => ⟨rfl, by rw [hU], wd_pre hP hK hD hU hW, hN.warm hW⟩⟩ rfl rfl hl.1 rfl (lv_room (Nat.le_of_ble_eq_true rfl)) dX12_life_30 ⟨(Nat.zero_le _), (Nat.zero_le _)⟩) hS (fun q _ h => hFc q h) hFc (fun r20 u t H1 locs ht hvm hw hB hz1 hk1 hS => ?_)
      obtain ⟨r20, rfl, o21⟩ := hw
      obtain ⟨hP, hD⟩ := wd_post hFc ht hB
      generalize H1 = H at hP hS ⊢
      refine W.eq (g2 := F0 m 33 ls [.ref r20, .ref o1]) rfl ?_
      refine lv_iload_n hx hb dX12_life_33 rfl (lv_at hl 2 rfl) ?_
      refine lv_i2l hx hb dX12_life_34 rfl ?_
      have hFc := free_all hD hS hA
      obtain ⟨k22, gk22, hk22⟩ := wGt (cy := cy) X S o21.1 o21.2.1
      refine va_calll (va_runV (As := [.long x2.toInt64]) (rest := [.ref o1]) ⟨hx, hb, hml, hown, hts⟩ (c_X10_life l (cy := cy) (X := X) (D := D) S _ r20 o21 x2.toInt64 (hW)) (cwV 1 hts gX12_life_X10_life rfl rfl rfl hd_X10_life ⟨Nat.le_of_ble_eq_true rfl, Nat.le_of_ble_eq_true rfl⟩) ⟨fun a U g mk q => ⟨q.1, q.2.1, q.2.2.1.calling, NW.same (u := U) (U := U.calling g mk a) rfl q.2.2.2⟩, va_recv hK hP (q := (RX10, TX10, 23)) (ci := 14) (q0 := k22) rfl hk22, fun U hU hW => ⟨rfl, by rw [hU], wd_pre hP hK hD hU hW, hN.warm hW⟩⟩ rfl rfl hl.1 rfl (lv_room (Nat.le_of_ble_eq_true rfl)) dX12_life_35 ⟨(Nat.zero_le _), (Nat.zero_le _)⟩) hS (fun q _ h => hFc q h) hFc (fun r23 u t H1 locs ht hvm hw hB hz1 hk1 hS => ?_)
      clear hw
      obtain ⟨hP, hD⟩ := wd_post hFc ht hB
      generalize H1 = H at hP hS ⊢
      have hFc := free_all hD hS hA
      obtain ⟨k24, gk24, hk24⟩ := wGt (cy := cy) X S h_o1.1 h_o1.2.1
      refine va_calll (va_runV (As := [.long r23]) (rest := []) ⟨hx, hb, hml, hown, hts⟩ (c_X12_answerLong l (cy := cy) (X := X) (D := D) S _ o1 h_o1 r23 (hW)) (cwV 1 hts gX12_life_X12_answerLong rfl rfl rfl hd_X12_answerLong ⟨Nat.le_of_ble_eq_true rfl, Nat.le_of_ble_eq_true rfl⟩) ⟨fun a U g mk q => ⟨q.1, q.2.1, q.2.2.1.calling, NW.same (u := U) (U := U.calling g mk a) rfl q.2.2.2⟩, va_recv hK hP (q := (RX12, TX12, 34)) (ci := 16) (q0 := k24) rfl hk24, fun U hU hW => ⟨rfl, by rw [hU], wd_pre hP hK hD hU hW, hN.warm hW⟩⟩ rfl rfl hl.1 rfl (lv_room (Nat.le_of_ble_eq_true rfl)) dX12_life_38 ⟨(Nat.zero_le _), (Nat.zero_le _)⟩) hS (fun q _ h => hFc q h) hFc (fun r25 u t H1 locs ht hvm hw hB hz1 hk1 hS => ?_)
      obtain ⟨c26, w27⟩ := hw
      obtain ⟨hP, hD⟩ := wd_post hFc ht hB
      generalize H1 = H at hP hS ⊢
      obtain ⟨S28, rfl⟩ : ∃ z, z = u := ⟨_, rfl⟩
      have t29 : stp [(12, 15)] [] [] S S28 := t0.tr w27 (by decide) (fun _ q => absurd q List.not_mem_nil)
      have xe30 : ext S S28 := w27.x
      refine lv_goto (tgt := 50) hx hb dX12_life_41 (by decide) ?_
      refine W.widen (k := 0) (n := 0) (Nat.le_of_ble_eq_true rfl) (Nat.le_of_ble_eq_true rfl) ?_
      exact W.lret (v := r25) hx hb hr (fun t ht hW9 => ⟨⟨r25, S28, rfl, t29, wd_end hP hK hD ht hW9.alike⟩, hS.F ht⟩) hS.2.2 dX12_life_50 hlocks
  · have c6i : (f_X12_isGear S o1 x1).toInt = 0 := eq_v rfl rfl c6
    refine lv_aload_n hx hb dX12_life_8 rfl (lv_at hl 0 rfl) ?_
    refine lv_iconst (v := 1) hx hb dX12_life_9 (by decide) ?_
    have l32_1 : (1 : Int32).toInt = 1 := rfl
    have hFc := free_all hD hS hA
    obtain ⟨k31, gk31, hk31⟩ := wGt (cy := cy) X S h_o1.1 h_o1.2.1
    refine va_calli (va_runV (As := [.int (1 : Int32)]) (rest := []) ⟨hx, hb, hml, hown, hts⟩ (c_X12_fails l (cy := cy) (X := X) (D := D) S _ o1 h_o1 (1 : Int32) (hW)) (cwV 1 hts gX12_life_X12_fails rfl rfl rfl hd_X12_fails ⟨Nat.le_of_ble_eq_true rfl, Nat.le_of_ble_eq_true rfl⟩) ⟨fun a U g mk q => ⟨q.1, q.2.1, q.2.2.1.calling, NW.same (u := U) (U := U.calling g mk a) rfl q.2.2.2⟩, va_recv hK hP (q := (RX12, TX12, 34)) (ci := 16) (q0 := k31) rfl hk31, fun U hU hW => ⟨rfl, by rw [hU], wd_pre hP hK hD hU hW, hN.warm hW⟩⟩ rfl rfl hl.1 rfl (lv_room (Nat.le_of_ble_eq_true rfl)) dX12_life_10 ⟨(Nat.zero_le _), (Nat.zero_le _)⟩) hS (fun q _ h => hFc q h) hFc (fun r32 u t H1 locs ht hvm hw hB hz1 hk1 hS => ?_)
    obtain ⟨c33, w34⟩ := hw
    obtain ⟨hP, hD⟩ := wd_post hFc ht hB
    generalize H1 = H at hP hS ⊢
    obtain ⟨S35, rfl⟩ : ∃ z, z = u := ⟨_, rfl⟩
    have t36 : stp [(12, 15)] [] [] S S35 := t0.tr w34 (by decide) (fun _ q => absurd q List.not_mem_nil)
    have xe37 : ext S S35 := w34.x
    refine lv_i2l hx hb dX12_life_13 rfl ?_
    refine W.widen (k := 0) (n := 0) (Nat.le_of_ble_eq_true rfl) (Nat.le_of_ble_eq_true rfl) ?_
    exact W.lret (v := r32.toInt64) hx hb hr (fun t ht hW9 => ⟨⟨r32.toInt64, S35, rfl, t36, wd_end hP hK hD ht hW9.alike⟩, hS.F ht⟩) hS.2.2 dX12_life_14 hlocks
theorem hd_X12_canRun : yX12_canRun.cls = RX12 ∧ yX12_canRun.cls ≠ "java/lang/invoke/MethodHandle" ∧ yX12_canRun.cls ≠ "java/lang/invoke/VarHandle" ∧ (parseMethodDescriptor yX12_canRun.desc).map (fun d => d.parameters.length) = some 2 := by decide +kernel
set_option maxHeartbeats 4000000 in
set_option maxRecDepth 100000 in
theorem c_X12_canRun (l : Launch) {D : va_G} {cy : Nat → ClassId} {X : va_W} (S : wPS) (sz : Nat) (o1 : Nat) (h_o1 : isA S o1 12) (x1 : Int32) (x2 : Int32) (hW : wtB S []) (g1 : 0 ≤ x1.toInt ∧ x1.toInt < (S.I (S.f o1 0) 2).toInt) : Met l yX12_canRun wsX12_canRun ({ frames := 4, cells := 0, slots := 0, locals := 85 }) (va_Pc [.ref o1, .int x1, .int x2] (fun U => U.heap.size = sz ∧ WD D cy X (fun _ => True) S U ∧ NW U)) (va_Qi (fun r (_ : Unit) => narrow .boolean (.int r) = .int r) (fun _ t => WD D cy X (va_A (X ++ PL cy S) sz) S t) (va_A (X ++ PL cy S) sz)) 0 0 (va_A (X ++ PL cy S) sz) := by
  refine Met.ofW (cc := cX12_canRun) (maxL := 4) (ret := (some .boolean)) (by decide) rfl ?_
  intro p e s m args below meth c s₁ B hml hv
  obtain ⟨rfl, hsz, ⟨hP, hK, hD0⟩, hN⟩ := hv
  have hx := B.exec
  have hb := B.bytes
  have hr := B.returns
  have hts := atoms_spec (ws := wsX12_canRun) B.pre
  have hown : s.vm.findClass RX12 = some m.cls := findClass_of_methodNamed (x := yX12_canRun) B.named
  have hlocks := B.notSynchronized
  subst hsz
  have hD := hD0.self (sz := s.heap.size)
  generalize hAe : va_A (X ++ PL cy S) s.heap.size = A at hD ⊢
  have hA : ∀ q : Nat, s.heap.size ≤ q → A q := fun q h => by rw [← hAe]; exact Or.inr h
  have hS : va_S A s.heap s.heap [] := va_S.rf
  have hl := lv_entry ([.ref o1, .int x1, .int x2]) (n := 4) (Nat.le_of_ble_eq_true rfl)
  rw [lg_entry_eq]
  generalize (lg_sl ([.ref o1, .int x1, .int x2]) ++ List.replicate (4 - (lg_sl ([.ref o1, .int x1, .int x2])).length) Slot.unset).toArray = ls at hl ⊢
  have hl : lv_has ls 4 [(0, .ref o1), (1, .int x1), (2, .int x2)] := hl
  refine lv_aload_n hx hb dX12_canRun_0 rfl (lv_at hl 0 rfl) ?_
  refine lv_iload_n hx hb dX12_canRun_1 rfl (lv_at hl 1 rfl) ?_
  have F1 := ((hW.at h_o1 List.not_mem_nil).to_12 h_o1.2.1).F0
  have hFc := free_all hD hS hA
  obtain ⟨k2, gk2, hk2⟩ := wGt (cy := cy) X S h_o1.1 h_o1.2.1
  refine va_callq (va_runV (As := [.int x1]) (rest := []) ⟨hx, hb, hml, hown, hts⟩ (c_X12_gearAt l (cy := cy) (X := X) (D := D) S _ o1 h_o1 x1 (hW) (by rw [f_of F1.1]; omega)) (cwV 1 hts gX12_canRun_X12_gearAt rfl rfl rfl hd_X12_gearAt ⟨Nat.le_of_ble_eq_true rfl, Nat.le_of_ble_eq_true rfl⟩) ⟨fun a U g mk q => ⟨q.1, q.2.1, q.2.2.1.calling, NW.same (u := U) (U := U.calling g mk a) rfl q.2.2.2⟩, va_recv hK hP (q := (RX12, TX12, 34)) (ci := 16) (q0 := k2) rfl hk2, fun U hU hW => ⟨rfl, by rw [hU], wd_pre hP hK hD hU hW, hN.warm hW⟩⟩ rfl rfl hl.1 rfl (lv_room (Nat.le_of_ble_eq_true rfl)) dX12_canRun_2 ⟨(Nat.zero_le _), (Nat.zero_le _)⟩) hS (fun q _ h => hFc q h) hFc (fun r3 u t H1 locs ht hvm hw hB hz1 hk1 hS => ?_)
  obtain ⟨r3, rfl, o4⟩ := hw
  obtain ⟨hP, hD⟩ := wd_post hFc ht hB
  generalize H1 = H at hP hS ⊢
  refine W.eq (g2 := F0 m 5 ls [.ref r3]) rfl ?_
  refine lv_astore_n (lv' := [(3, .ref r3), (0, .ref o1), (1, .int x1), (2, .int x2)]) hx hb dX12_canRun_5 rfl hl (by decide) rfl (fun ls hl => ?_)
  refine lv_aload_n hx hb dX12_canRun_6 rfl (lv_at hl 0 rfl) ?_
  obtain ⟨k5, gk5, hk5⟩ := wGt (cy := cy) X S o4.1 o4.2.1
  have i6 := ((hW.at o4 List.not_mem_nil).to_10 o4.2.1).R18
  refine va_getN (D := D) (ci := 14) (v := .int (S.I r3 18)) (C := RX10) (T := TX10) (N := 23) hx hb hts (by decide +kernel) hown hK hP k5 hk5 rfl 18 (by decide) (va_Nw.use rfl (hN (.fieldLinkNest RX12 160 "HobhouseModel$Gear" "isCut" "Z" "HobhouseModel") (by decide +kernel))) (fun _ h9 => h9) rfl dX12_canRun_7 ?_
  refine lv_if_eq (tgt := 47) hx hb dX12_canRun_10 (by decide) (fun c7 => ?_) (fun c7 => ?_)
  · have c7i : (S.I r3 18).toInt = 0 := eq_v rfl rfl c7
    refine lv_iconst (v := 0) hx hb dX12_canRun_47 (by decide) ?_
    refine W.widen (k := 0) (n := 0) (Nat.le_of_ble_eq_true rfl) (Nat.le_of_ble_eq_true rfl) ?_
    exact W.zret (v := (0 : Int32)) hx hb hr (by rfl) (fun t ht hW9 => ⟨⟨(0 : Int32), (), rfl, (by rfl), wd_end hP hK hD ht hW9.alike⟩, hS.F ht⟩) hS.2.2 dX12_canRun_48 hlocks
  · have c7i : ¬ (S.I r3 18).toInt = 0 := neq_v rfl rfl c7
    refine lv_aload_n hx hb dX12_canRun_13 rfl (lv_at hl 0 rfl) ?_
    obtain ⟨k8, gk8, hk8⟩ := wGt (cy := cy) X S o4.1 o4.2.1
    have i9 := ((hW.at o4 List.not_mem_nil).to_10 o4.2.1).R20
    refine va_getN (D := D) (ci := 14) (v := .int (S.I r3 20)) (C := RX10) (T := TX10) (N := 23) hx hb hts (by decide +kernel) hown hK hP k8 hk8 rfl 20 (by decide) (va_Nw.use rfl (hN (.fieldLinkNest RX12 372 "HobhouseModel$Gear" "isScrap" "Z" "HobhouseModel") (by decide +kernel))) (fun _ h9 => h9) rfl dX12_canRun_14 ?_
    refine lv_if_ne (tgt := 47) hx hb dX12_canRun_17 (by decide) (fun c10 => ?_) (fun c10 => ?_)
    · have c10i : ¬ (S.I r3 20).toInt = 0 := neq_v rfl rfl c10
      refine lv_iconst (v := 0) hx hb dX12_canRun_47 (by decide) ?_
      refine W.widen (k := 0) (n := 0) (Nat.le_of_ble_eq_true rfl) (Nat.le_of_ble_eq_true rfl) ?_
      exact W.zret (v := (0 : Int32)) hx hb hr (by rfl) (fun t ht hW9 => ⟨⟨(0 : Int32), (), rfl, (by rfl), wd_end hP hK hD ht hW9.alike⟩, hS.F ht⟩) hS.2.2 dX12_canRun_48 hlocks
    · have c10i : (S.I r3 20).toInt = 0 := eq_v rfl rfl c10
      refine lv_aload_n hx hb dX12_canRun_20 rfl (lv_at hl 0 rfl) ?_
      have hFc := free_all hD hS hA
      obtain ⟨k11, gk11, hk11⟩ := wGt (cy := cy) X S o4.1 o4.2.1
      refine va_calli (va_runV (As := []) (rest := []) ⟨hx, hb, hml, hown, hts⟩ (c_X10_isBroken l (cy := cy) (X := X) (D := D) S _ r3 o4) (cwV 0 hts gX12_canRun_X10_isBroken rfl rfl rfl hd_X10_isBroken ⟨Nat.le_of_ble_eq_true rfl, Nat.le_of_ble_eq_true rfl⟩) ⟨fun a U g mk q => ⟨q.1, q.2.1, q.2.2.1.calling, NW.same (u := U) (U := U.calling g mk a) rfl q.2.2.2⟩, va_recv hK hP (q := (RX10, TX10, 23)) (ci := 14) (q0 := k11) rfl hk11, fun U hU hW => ⟨rfl, by rw [hU], wd_pre hP hK hD hU hW, hN.warm hW⟩⟩ rfl rfl hl.1 rfl (lv_room (Nat.le_of_ble_eq_true rfl)) dX12_canRun_21 ⟨(Nat.zero_le _), (Nat.zero_le _)⟩) hS (fun q _ h => hFc q h) hFc (fun r12 u t H1 locs ht hvm hw hB hz1 hk1 hS => ?_)
      have c13 := hw
      obtain ⟨hP, hD⟩ := wd_post hFc ht hB
      generalize H1 = H at hP hS ⊢
      obtain rfl : r12 = f_X10_isBroken S r3 := c13
      refine lv_if_ne (tgt := 47) hx hb dX12_canRun_24 (by decide) (fun c14 => ?_) (fun c14 => ?_)
      · have c14i : ¬ (f_X10_isBroken S r3).toInt = 0 := neq_v rfl rfl c14
        refine lv_iconst (v := 0) hx hb dX12_canRun_47 (by decide) ?_
        refine W.widen (k := 0) (n := 0) (Nat.le_of_ble_eq_true rfl) (Nat.le_of_ble_eq_true rfl) ?_
        exact W.zret (v := (0 : Int32)) hx hb hr (by rfl) (fun t ht hW9 => ⟨⟨(0 : Int32), (), rfl, (by rfl), wd_end hP hK hD ht hW9.alike⟩, hS.F ht⟩) hS.2.2 dX12_canRun_48 hlocks
      · have c14i : (f_X10_isBroken S r3).toInt = 0 := eq_v rfl rfl c14
        refine lv_aload_n hx hb dX12_canRun_27 rfl (lv_at hl 0 rfl) ?_
        obtain ⟨k15, gk15, hk15⟩ := wGt (cy := cy) X S o4.1 o4.2.1
        refine va_getN (D := D) (ci := 14) (v := .int (S.I r3 16)) (C := RX10) (T := TX10) (N := 23) hx hb hts (by decide +kernel) hown hK hP k15 hk15 rfl 16 (by decide) (va_Nw.use rfl (hN (.fieldLinkNest RX12 446 "HobhouseModel$Gear" "mate" "I" "HobhouseModel") (by decide +kernel))) (fun _ h9 => h9) rfl dX12_canRun_28 ?_
        refine lv_iconst (v := -1) hx hb dX12_canRun_31 (by decide) ?_
        refine lv_icmp_eq (tgt := 43) hx hb dX12_canRun_32 (by decide) (fun c16 => ?_) (fun c16 => ?_)
        · have c16i : (S.I r3 16).toInt = -1 := eq_v rfl rfl c16
          refine lv_iconst (v := 1) hx hb dX12_canRun_43 (by decide) ?_
          refine lv_goto (tgt := 48) hx hb dX12_canRun_44 (by decide) ?_
          refine W.widen (k := 0) (n := 0) (Nat.le_of_ble_eq_true rfl) (Nat.le_of_ble_eq_true rfl) ?_
          exact W.zret (v := (1 : Int32)) hx hb hr (by rfl) (fun t ht hW9 => ⟨⟨(1 : Int32), (), rfl, (by rfl), wd_end hP hK hD ht hW9.alike⟩, hS.F ht⟩) hS.2.2 dX12_canRun_48 hlocks
        · have c16i : ¬ (S.I r3 16).toInt = -1 := neq_v rfl rfl c16
          refine lv_aload_n hx hb dX12_canRun_35 rfl (lv_at hl 0 rfl) ?_
          obtain ⟨k17, gk17, hk17⟩ := wGt (cy := cy) X S o4.1 o4.2.1
          refine va_getN (D := D) (ci := 14) (v := .int (S.I r3 16)) (C := RX10) (T := TX10) (N := 23) hx hb hts (by decide +kernel) hown hK hP k17 hk17 rfl 16 (by decide) (va_Nw.use rfl (hN (.fieldLinkNest RX12 446 "HobhouseModel$Gear" "mate" "I" "HobhouseModel") (by decide +kernel))) (fun _ h9 => h9) rfl dX12_canRun_36 ?_
          refine lv_iload_n hx hb dX12_canRun_39 rfl (lv_at hl 3 rfl) ?_
          refine lv_icmp_ne (tgt := 47) hx hb dX12_canRun_40 (by decide) (fun c18 => ?_) (fun c18 => ?_)
          · have c18i : ¬ (S.I r3 16).toInt = x2.toInt := neq_v rfl rfl c18
            refine lv_iconst (v := 0) hx hb dX12_canRun_47 (by decide) ?_
            refine W.widen (k := 0) (n := 0) (Nat.le_of_ble_eq_true rfl) (Nat.le_of_ble_eq_true rfl) ?_
            exact W.zret (v := (0 : Int32)) hx hb hr (by rfl) (fun t ht hW9 => ⟨⟨(0 : Int32), (), rfl, (by rfl), wd_end hP hK hD ht hW9.alike⟩, hS.F ht⟩) hS.2.2 dX12_canRun_48 hlocks
          · have c18i : (S.I r3 16).toInt = x2.toInt := eq_v rfl rfl c18
            refine lv_iconst (v := 1) hx hb dX12_canRun_43 (by decide) ?_
            refine lv_goto (tgt := 48) hx hb dX12_canRun_44 (by decide) ?_
            refine W.widen (k := 0) (n := 0) (Nat.le_of_ble_eq_true rfl) (Nat.le_of_ble_eq_true rfl) ?_
            exact W.zret (v := (1 : Int32)) hx hb hr (by rfl) (fun t ht hW9 => ⟨⟨(1 : Int32), (), rfl, (by rfl), wd_end hP hK hD ht hW9.alike⟩, hS.F ht⟩) hS.2.2 dX12_canRun_48 hlocks
theorem hd_X12_run : yX12_run.cls = RX12 ∧ yX12_run.cls ≠ "java/lang/invoke/MethodHandle" ∧ yX12_run.cls ≠ "java/lang/invoke/VarHandle" ∧ (parseMethodDescriptor yX12_run.desc).map (fun d => d.parameters.length) = some 4 := by decide +kernel
set_option maxHeartbeats 4000000 in
set_option maxRecDepth 100000 in
theorem c_X12_run (l : Launch) {D : va_G} {cy : Nat → ClassId} {X : va_W} (S : wPS) (sz : Nat) (o1 : Nat) (h_o1 : isA S o1 12) (x1 : Int32) (x2 : Int32) (x3 : Int32) (x4 : Int32) (hW : wtB S [])  : Met l yX12_run wsX12_run ({ frames := 6, cells := 0, slots := 0, locals := 138 }) (va_Pc [.ref o1, .int x1, .int x2, .int x3, .int x4] (fun U => U.heap.size = sz ∧ WD D cy X (fun _ => True) S U ∧ NW U)) (va_Qi (fun r (u : wPS) => stp [(10, 22), (12, 15)] [] [] S u) (fun u t => WD D cy X (va_A (X ++ PL cy S) sz) u t) (va_A (X ++ PL cy S) sz)) 0 0 (va_A (X ++ PL cy S) sz) := by
  refine Met.ofW (cc := cX12_run) (maxL := 7) (ret := (some .int)) (by decide) rfl ?_
  intro p e s m args below meth c s₁ B hml hv
  obtain ⟨rfl, hsz, ⟨hP, hK, hD0⟩, hN⟩ := hv
  have hx := B.exec
  have hb := B.bytes
  have hr := B.returns
  have hts := atoms_spec (ws := wsX12_run) B.pre
  have hown : s.vm.findClass RX12 = some m.cls := findClass_of_methodNamed (x := yX12_run) B.named
  have hlocks := B.notSynchronized
  subst hsz
  have hD := hD0.self (sz := s.heap.size)
  generalize hAe : va_A (X ++ PL cy S) s.heap.size = A at hD ⊢
  have hA : ∀ q : Nat, s.heap.size ≤ q → A q := fun q h => by rw [← hAe]; exact Or.inr h
  have hS : va_S A s.heap s.heap [] := va_S.rf
  have hl := lv_entry ([.ref o1, .int x1, .int x2, .int x3, .int x4]) (n := 7) (Nat.le_of_ble_eq_true rfl)
  rw [lg_entry_eq]
  generalize (lg_sl ([.ref o1, .int x1, .int x2, .int x3, .int x4]) ++ List.replicate (7 - (lg_sl ([.ref o1, .int x1, .int x2, .int x3, .int x4])).length) Slot.unset).toArray = ls at hl ⊢
  have hl : lv_has ls 7 [(0, .ref o1), (1, .int x1), (2, .int x2), (3, .int x3), (4, .int x4)] := hl
  have t0 : stp [(10, 22), (12, 15)] [] [] S S := stp.rf hW
  refine lv_aload_n hx hb dX12_run_0 rfl (lv_at hl 0 rfl) ?_
  refine lv_iload_n hx hb dX12_run_1 rfl (lv_at hl 1 rfl) ?_
  have hFc := free_all hD hS hA
  obtain ⟨k1, gk1, hk1⟩ := wGt (cy := cy) X S h_o1.1 h_o1.2.1
  refine va_calli (va_runV (As := [.int x1]) (rest := []) ⟨hx, hb, hml, hown, hts⟩ (c_X12_isGear l (cy := cy) (X := X) (D := D) S _ o1 h_o1 x1 (hW)) (cwV 1 hts gX12_run_X12_isGear rfl rfl rfl hd_X12_isGear ⟨Nat.le_of_ble_eq_true rfl, Nat.le_of_ble_eq_true rfl⟩) ⟨fun a U g mk q => ⟨q.1, q.2.1, q.2.2.1.calling, NW.same (u := U) (U := U.calling g mk a) rfl q.2.2.2⟩, va_recv hK hP (q := (RX12, TX12, 34)) (ci := 16) (q0 := k1) rfl hk1, fun U hU hW => ⟨rfl, by rw [hU], wd_pre hP hK hD hU hW, hN.warm hW⟩⟩ rfl rfl hl.1 rfl (lv_room (Nat.le_of_ble_eq_true rfl)) dX12_run_2 ⟨(Nat.zero_le _), (Nat.zero_le _)⟩) hS (fun q _ h => hFc q h) hFc (fun r2 u t H1 locs ht hvm hw hB hz1 hk1 hS => ?_)
  have c3 := hw
  obtain ⟨hP, hD⟩ := wd_post hFc ht hB
  generalize H1 = H at hP hS ⊢
  obtain rfl : r2 = f_X12_isGear S o1 x1 := c3
  have F4 := ((hW.at h_o1 List.not_mem_nil).to_12 h_o1.2.1).F0
  have i5 : (f_X12_isGear S o1 x1).toInt = 0 ∨ (0 ≤ x1.toInt ∧ x1.toInt < (S.I (S.f o1 0) 2).toInt) := by have h9 := ig_rng x1 ((hW.at h_o1 List.not_mem_nil).to_12 h_o1.2.1) hW; rw [f_of F4.1] at h9; exact h9
  refine lv_if_eq (tgt := 16) hx hb dX12_run_5 (by decide) (fun c6 => ?_) (fun c6 => ?_)
  · have c6i : (f_X12_isGear S o1 x1).toInt = 0 := eq_v rfl rfl c6
    refine lv_aload_n hx hb dX12_run_16 rfl (lv_at hl 0 rfl) ?_
    refine lv_iconst (v := 1) hx hb dX12_run_17 (by decide) ?_
    have l32_1 : (1 : Int32).toInt = 1 := rfl
    have hFc := free_all hD hS hA
    obtain ⟨k7, gk7, hk7⟩ := wGt (cy := cy) X S h_o1.1 h_o1.2.1
    refine va_calli (va_runV (As := [.int (1 : Int32)]) (rest := []) ⟨hx, hb, hml, hown, hts⟩ (c_X12_fails l (cy := cy) (X := X) (D := D) S _ o1 h_o1 (1 : Int32) (hW)) (cwV 1 hts gX12_run_X12_fails rfl rfl rfl hd_X12_fails ⟨Nat.le_of_ble_eq_true rfl, Nat.le_of_ble_eq_true rfl⟩) ⟨fun a U g mk q => ⟨q.1, q.2.1, q.2.2.1.calling, NW.same (u := U) (U := U.calling g mk a) rfl q.2.2.2⟩, va_recv hK hP (q := (RX12, TX12, 34)) (ci := 16) (q0 := k7) rfl hk7, fun U hU hW => ⟨rfl, by rw [hU], wd_pre hP hK hD hU hW, hN.warm hW⟩⟩ rfl rfl hl.1 rfl (lv_room (Nat.le_of_ble_eq_true rfl)) dX12_run_18 ⟨(Nat.zero_le _), (Nat.zero_le _)⟩) hS (fun q _ h => hFc q h) hFc (fun r8 u t H1 locs ht hvm hw hB hz1 hk1 hS => ?_)
    obtain ⟨c9, w10⟩ := hw
    obtain ⟨hP, hD⟩ := wd_post hFc ht hB
    generalize H1 = H at hP hS ⊢
    obtain ⟨S11, rfl⟩ : ∃ z, z = u := ⟨_, rfl⟩
    have t12 : stp [(10, 22), (12, 15)] [] [] S S11 := t0.tr w10 (by decide) (fun _ q => absurd q List.not_mem_nil)
    have xe13 : ext S S11 := w10.x
    refine W.widen (k := 0) (n := 0) (Nat.le_of_ble_eq_true rfl) (Nat.le_of_ble_eq_true rfl) ?_
    exact W.iret (v := r8) hx hb hr (fun t ht hW9 => ⟨⟨r8, S11, rfl, t12, wd_end hP hK hD ht hW9.alike⟩, hS.F ht⟩) hS.2.2 dX12_run_21 hlocks
  · have c6i : ¬ (f_X12_isGear S o1 x1).toInt = 0 := neq_v rfl rfl c6
    refine lv_aload_n hx hb dX12_run_8 rfl (lv_at hl 0 rfl) ?_
    refine lv_iload_n hx hb dX12_run_9 rfl (lv_at hl 2 rfl) ?_
    have hFc := free_all hD hS hA
    obtain ⟨k14, gk14, hk14⟩ := wGt (cy := cy) X S h_o1.1 h_o1.2.1
    refine va_calli (va_runV (As := [.int x2]) (rest := []) ⟨hx, hb, hml, hown, hts⟩ (c_X12_isGear l (cy := cy) (X := X) (D := D) S _ o1 h_o1 x2 (hW)) (cwV 1 hts gX12_run_X12_isGear rfl rfl rfl hd_X12_isGear ⟨Nat.le_of_ble_eq_true rfl, Nat.le_of_ble_eq_true rfl⟩) ⟨fun a U g mk q => ⟨q.1, q.2.1, q.2.2.1.calling, NW.same (u := U) (U := U.calling g mk a) rfl q.2.2.2⟩, va_recv hK hP (q := (RX12, TX12, 34)) (ci := 16) (q0 := k14) rfl hk14, fun U hU hW => ⟨rfl, by rw [hU], wd_pre hP hK hD hU hW, hN.warm hW⟩⟩ rfl rfl hl.1 rfl (lv_room (Nat.le_of_ble_eq_true rfl)) dX12_run_10 ⟨(Nat.zero_le _), (Nat.zero_le _)⟩) hS (fun q _ h => hFc q h) hFc (fun r15 u t H1 locs ht hvm hw hB hz1 hk1 hS => ?_)
    have c16 := hw
    obtain ⟨hP, hD⟩ := wd_post hFc ht hB
    generalize H1 = H at hP hS ⊢
    obtain rfl : r15 = f_X12_isGear S o1 x2 := c16
    have i17 : (f_X12_isGear S o1 x2).toInt = 0 ∨ (0 ≤ x2.toInt ∧ x2.toInt < (S.I (S.f o1 0) 2).toInt) := by have h9 := ig_rng x2 ((hW.at h_o1 List.not_mem_nil).to_12 h_o1.2.1) hW; rw [f_of F4.1] at h9; exact h9
    refine lv_if_ne (tgt := 22) hx hb dX12_run_13 (by decide) (fun c18 => ?_) (fun c18 => ?_)
    · have c18i : ¬ (f_X12_isGear S o1 x2).toInt = 0 := neq_v rfl rfl c18
      refine lv_iload_n hx hb dX12_run_22 rfl (lv_at hl 3 rfl) ?_
      refine lv_i2l hx hb dX12_run_23 rfl ?_
      refine lv_lconst (v := 1) hx hb dX12_run_24 (by decide) ?_
      refine lv_ldc2 (own := RX12) (v := 99999) hx hb hown (hts (.constantLong RX12 141 (99999)) (by decide +kernel)) dX12_run_25 ?_
      have hFc := free_all hD hS hA
      refine va_calli (va_runS (As := [.long x3.toInt64, .long (1 : Int64), .long (99999 : Int64)]) (rest := []) ⟨hx, hb, hml, hown, hts⟩ (c_X12_in l (cy := cy) (X := X) (D := D) S _ x3.toInt64 (1 : Int64) (99999 : Int64)) (cwS 3 hts gX12_run_X12_in rfl rfl rfl hd_X12_in ⟨Nat.le_of_ble_eq_true rfl, Nat.le_of_ble_eq_true rfl⟩) ⟨fun a U g mk q => ⟨q.1, q.2.1, q.2.2.1.calling, NW.same (u := U) (U := U.calling g mk a) rfl q.2.2.2⟩, fun U hU hW => ⟨rfl, by rw [hU], wd_pre hP hK hD hU hW, hN.warm hW⟩⟩ rfl rfl hl.1 rfl (lv_room (Nat.le_of_ble_eq_true rfl)) dX12_run_28 ⟨(Nat.zero_le _), (Nat.zero_le _)⟩) hS (fun q _ h => hFc q h) hFc (fun r19 u t H1 locs ht hvm hw hB hz1 hk1 hS => ?_)
      have c20 := hw
      obtain ⟨hP, hD⟩ := wd_post hFc ht hB
      generalize H1 = H at hP hS ⊢
      obtain rfl : r19 = f_X12_in x3.toInt64 (1 : Int64) (99999 : Int64) := c20
      have i21 := i64_i x3
      have l64_1 : (1 : Int64).toInt = 1 := rfl
      have l64_99999 : (99999 : Int64).toInt = 99999 := rfl
      have i22 := in_rng x3.toInt64 (1 : Int64) (99999 : Int64)
      refine lv_if_eq (tgt := 47) hx hb dX12_run_31 (by decide) (fun c23 => ?_) (fun c23 => ?_)
      · have c23i : (f_X12_in x3.toInt64 (1 : Int64) (99999 : Int64)).toInt = 0 := eq_v rfl rfl c23
        refine lv_aload_n hx hb dX12_run_47 rfl (lv_at hl 0 rfl) ?_
        refine lv_iconst (v := 2) hx hb dX12_run_48 (by decide) ?_
        have l32_2 : (2 : Int32).toInt = 2 := rfl
        have hFc := free_all hD hS hA
        obtain ⟨k24, gk24, hk24⟩ := wGt (cy := cy) X S h_o1.1 h_o1.2.1
        refine va_calli (va_runV (As := [.int (2 : Int32)]) (rest := []) ⟨hx, hb, hml, hown, hts⟩ (c_X12_fails l (cy := cy) (X := X) (D := D) S _ o1 h_o1 (2 : Int32) (hW)) (cwV 1 hts gX12_run_X12_fails rfl rfl rfl hd_X12_fails ⟨Nat.le_of_ble_eq_true rfl, Nat.le_of_ble_eq_true rfl⟩) ⟨fun a U g mk q => ⟨q.1, q.2.1, q.2.2.1.calling, NW.same (u := U) (U := U.calling g mk a) rfl q.2.2.2⟩, va_recv hK hP (q := (RX12, TX12, 34)) (ci := 16) (q0 := k24) rfl hk24, fun U hU hW => ⟨rfl, by rw [hU], wd_pre hP hK hD hU hW, hN.warm hW⟩⟩ rfl rfl hl.1 rfl (lv_room (Nat.le_of_ble_eq_true rfl)) dX12_run_49 ⟨(Nat.zero_le _), (Nat.zero_le _)⟩) hS (fun q _ h => hFc q h) hFc (fun r25 u t H1 locs ht hvm hw hB hz1 hk1 hS => ?_)
        obtain ⟨c26, w27⟩ := hw
        obtain ⟨hP, hD⟩ := wd_post hFc ht hB
        generalize H1 = H at hP hS ⊢
        obtain ⟨S28, rfl⟩ : ∃ z, z = u := ⟨_, rfl⟩
        have t29 : stp [(10, 22), (12, 15)] [] [] S S28 := t0.tr w27 (by decide) (fun _ q => absurd q List.not_mem_nil)
        have xe30 : ext S S28 := w27.x
        refine W.widen (k := 0) (n := 0) (Nat.le_of_ble_eq_true rfl) (Nat.le_of_ble_eq_true rfl) ?_
        exact W.iret (v := r25) hx hb hr (fun t ht hW9 => ⟨⟨r25, S28, rfl, t29, wd_end hP hK hD ht hW9.alike⟩, hS.F ht⟩) hS.2.2 dX12_run_52 hlocks
      · have c23i : ¬ (f_X12_in x3.toInt64 (1 : Int64) (99999 : Int64)).toInt = 0 := neq_v rfl rfl c23
        refine lv_iload hx hb dX12_run_34 (lv_at hl 4 rfl) ?_
        refine lv_i2l hx hb dX12_run_36 rfl ?_
        refine lv_lconst (v := 1) hx hb dX12_run_37 (by decide) ?_
        refine lv_ldc2 (own := RX12) (v := 999999) hx hb hown (hts (.constantLong RX12 306 (999999)) (by decide +kernel)) dX12_run_38 ?_
        have hFc := free_all hD hS hA
        refine va_calli (va_runS (As := [.long x4.toInt64, .long (1 : Int64), .long (999999 : Int64)]) (rest := []) ⟨hx, hb, hml, hown, hts⟩ (c_X12_in l (cy := cy) (X := X) (D := D) S _ x4.toInt64 (1 : Int64) (999999 : Int64)) (cwS 3 hts gX12_run_X12_in rfl rfl rfl hd_X12_in ⟨Nat.le_of_ble_eq_true rfl, Nat.le_of_ble_eq_true rfl⟩) ⟨fun a U g mk q => ⟨q.1, q.2.1, q.2.2.1.calling, NW.same (u := U) (U := U.calling g mk a) rfl q.2.2.2⟩, fun U hU hW => ⟨rfl, by rw [hU], wd_pre hP hK hD hU hW, hN.warm hW⟩⟩ rfl rfl hl.1 rfl (lv_room (Nat.le_of_ble_eq_true rfl)) dX12_run_41 ⟨(Nat.zero_le _), (Nat.zero_le _)⟩) hS (fun q _ h => hFc q h) hFc (fun r31 u t H1 locs ht hvm hw hB hz1 hk1 hS => ?_)
        have c32 := hw
        obtain ⟨hP, hD⟩ := wd_post hFc ht hB
        generalize H1 = H at hP hS ⊢
        obtain rfl : r31 = f_X12_in x4.toInt64 (1 : Int64) (999999 : Int64) := c32
        have i33 := i64_i x4
        have l64_999999 : (999999 : Int64).toInt = 999999 := rfl
        have i34 := in_rng x4.toInt64 (1 : Int64) (999999 : Int64)
        refine lv_if_ne (tgt := 53) hx hb dX12_run_44 (by decide) (fun c35 => ?_) (fun c35 => ?_)
        · have c35i : ¬ (f_X12_in x4.toInt64 (1 : Int64) (999999 : Int64)).toInt = 0 := neq_v rfl rfl c35
          refine lv_aload_n hx hb dX12_run_53 rfl (lv_at hl 0 rfl) ?_
          refine lv_iload_n hx hb dX12_run_54 rfl (lv_at hl 1 rfl) ?_
          refine lv_iload_n hx hb dX12_run_55 rfl (lv_at hl 2 rfl) ?_
          have hFc := free_all hD hS hA
          obtain ⟨k36, gk36, hk36⟩ := wGt (cy := cy) X S h_o1.1 h_o1.2.1
          refine va_calli (va_runV (As := [.int x1, .int x2]) (rest := []) ⟨hx, hb, hml, hown, hts⟩ (c_X12_isPair l (cy := cy) (X := X) (D := D) S _ o1 h_o1 x1 x2 (hW) (by rw [f_of F4.1]; omega) (by rw [f_of F4.1]; omega)) (cwV 2 hts gX12_run_X12_isPair rfl rfl rfl hd_X12_isPair ⟨Nat.le_of_ble_eq_true rfl, Nat.le_of_ble_eq_true rfl⟩) ⟨fun a U g mk q => ⟨q.1, q.2.1, q.2.2.1.calling, NW.same (u := U) (U := U.calling g mk a) rfl q.2.2.2⟩, va_recv hK hP (q := (RX12, TX12, 34)) (ci := 16) (q0 := k36) rfl hk36, fun U hU hW => ⟨rfl, by rw [hU], wd_pre hP hK hD hU hW, hN.warm hW⟩⟩ rfl rfl hl.1 rfl (lv_room (Nat.le_of_ble_eq_true rfl)) dX12_run_56 ⟨(Nat.zero_le _), (Nat.zero_le _)⟩) hS (fun q _ h => hFc q h) hFc (fun r37 u t H1 locs ht hvm hw hB hz1 hk1 hS => ?_)
          have y38 := hw
          obtain ⟨hP, hD⟩ := wd_post hFc ht hB
          generalize H1 = H at hP hS ⊢
          refine lv_if_eq (tgt := 80) hx hb dX12_run_59 (by decide) (fun c39 => ?_) (fun c39 => ?_)
          · have c39i : r37.toInt = 0 := eq_v rfl rfl c39
            refine lv_aload_n hx hb dX12_run_80 rfl (lv_at hl 0 rfl) ?_
            refine lv_iconst (v := 3) hx hb dX12_run_81 (by decide) ?_
            have l32_3 : (3 : Int32).toInt = 3 := rfl
            have hFc := free_all hD hS hA
            obtain ⟨k40, gk40, hk40⟩ := wGt (cy := cy) X S h_o1.1 h_o1.2.1
            refine va_calli (va_runV (As := [.int (3 : Int32)]) (rest := []) ⟨hx, hb, hml, hown, hts⟩ (c_X12_fails l (cy := cy) (X := X) (D := D) S _ o1 h_o1 (3 : Int32) (hW)) (cwV 1 hts gX12_run_X12_fails rfl rfl rfl hd_X12_fails ⟨Nat.le_of_ble_eq_true rfl, Nat.le_of_ble_eq_true rfl⟩) ⟨fun a U g mk q => ⟨q.1, q.2.1, q.2.2.1.calling, NW.same (u := U) (U := U.calling g mk a) rfl q.2.2.2⟩, va_recv hK hP (q := (RX12, TX12, 34)) (ci := 16) (q0 := k40) rfl hk40, fun U hU hW => ⟨rfl, by rw [hU], wd_pre hP hK hD hU hW, hN.warm hW⟩⟩ rfl rfl hl.1 rfl (lv_room (Nat.le_of_ble_eq_true rfl)) dX12_run_82 ⟨(Nat.zero_le _), (Nat.zero_le _)⟩) hS (fun q _ h => hFc q h) hFc (fun r41 u t H1 locs ht hvm hw hB hz1 hk1 hS => ?_)
            obtain ⟨c42, w43⟩ := hw
            obtain ⟨hP, hD⟩ := wd_post hFc ht hB
            generalize H1 = H at hP hS ⊢
            obtain ⟨S44, rfl⟩ : ∃ z, z = u := ⟨_, rfl⟩
            have t45 : stp [(10, 22), (12, 15)] [] [] S S44 := t0.tr w43 (by decide) (fun _ q => absurd q List.not_mem_nil)
            have xe46 : ext S S44 := w43.x
            refine W.widen (k := 0) (n := 0) (Nat.le_of_ble_eq_true rfl) (Nat.le_of_ble_eq_true rfl) ?_
            exact W.iret (v := r41) hx hb hr (fun t ht hW9 => ⟨⟨r41, S44, rfl, t45, wd_end hP hK hD ht hW9.alike⟩, hS.F ht⟩) hS.2.2 dX12_run_85 hlocks
          · have c39i : ¬ r37.toInt = 0 := neq_v rfl rfl c39
            refine lv_aload_n hx hb dX12_run_62 rfl (lv_at hl 0 rfl) ?_
            refine lv_iload_n hx hb dX12_run_63 rfl (lv_at hl 1 rfl) ?_
            refine lv_iload_n hx hb dX12_run_64 rfl (lv_at hl 2 rfl) ?_
            have hFc := free_all hD hS hA
            obtain ⟨k47, gk47, hk47⟩ := wGt (cy := cy) X S h_o1.1 h_o1.2.1
            refine va_calli (va_runV (As := [.int x1, .int x2]) (rest := []) ⟨hx, hb, hml, hown, hts⟩ (c_X12_canRun l (cy := cy) (X := X) (D := D) S _ o1 h_o1 x1 x2 (hW) (by rw [f_of F4.1]; omega)) (cwV 2 hts gX12_run_X12_canRun rfl rfl rfl hd_X12_canRun ⟨Nat.le_of_ble_eq_true rfl, Nat.le_of_ble_eq_true rfl⟩) ⟨fun a U g mk q => ⟨q.1, q.2.1, q.2.2.1.calling, NW.same (u := U) (U := U.calling g mk a) rfl q.2.2.2⟩, va_recv hK hP (q := (RX12, TX12, 34)) (ci := 16) (q0 := k47) rfl hk47, fun U hU hW => ⟨rfl, by rw [hU], wd_pre hP hK hD hU hW, hN.warm hW⟩⟩ rfl rfl hl.1 rfl (lv_room (Nat.le_of_ble_eq_true rfl)) dX12_run_65 ⟨(Nat.zero_le _), (Nat.zero_le _)⟩) hS (fun q _ h => hFc q h) hFc (fun r48 u t H1 locs ht hvm hw hB hz1 hk1 hS => ?_)
            have y49 := hw
            obtain ⟨hP, hD⟩ := wd_post hFc ht hB
            generalize H1 = H at hP hS ⊢
            refine lv_if_eq (tgt := 80) hx hb dX12_run_68 (by decide) (fun c50 => ?_) (fun c50 => ?_)
            · have c50i : r48.toInt = 0 := eq_v rfl rfl c50
              refine lv_aload_n hx hb dX12_run_80 rfl (lv_at hl 0 rfl) ?_
              refine lv_iconst (v := 3) hx hb dX12_run_81 (by decide) ?_
              have l32_3 : (3 : Int32).toInt = 3 := rfl
              have hFc := free_all hD hS hA
              obtain ⟨k51, gk51, hk51⟩ := wGt (cy := cy) X S h_o1.1 h_o1.2.1
              refine va_calli (va_runV (As := [.int (3 : Int32)]) (rest := []) ⟨hx, hb, hml, hown, hts⟩ (c_X12_fails l (cy := cy) (X := X) (D := D) S _ o1 h_o1 (3 : Int32) (hW)) (cwV 1 hts gX12_run_X12_fails rfl rfl rfl hd_X12_fails ⟨Nat.le_of_ble_eq_true rfl, Nat.le_of_ble_eq_true rfl⟩) ⟨fun a U g mk q => ⟨q.1, q.2.1, q.2.2.1.calling, NW.same (u := U) (U := U.calling g mk a) rfl q.2.2.2⟩, va_recv hK hP (q := (RX12, TX12, 34)) (ci := 16) (q0 := k51) rfl hk51, fun U hU hW => ⟨rfl, by rw [hU], wd_pre hP hK hD hU hW, hN.warm hW⟩⟩ rfl rfl hl.1 rfl (lv_room (Nat.le_of_ble_eq_true rfl)) dX12_run_82 ⟨(Nat.zero_le _), (Nat.zero_le _)⟩) hS (fun q _ h => hFc q h) hFc (fun r52 u t H1 locs ht hvm hw hB hz1 hk1 hS => ?_)
              obtain ⟨c53, w54⟩ := hw
              obtain ⟨hP, hD⟩ := wd_post hFc ht hB
              generalize H1 = H at hP hS ⊢
              obtain ⟨S55, rfl⟩ : ∃ z, z = u := ⟨_, rfl⟩
              have t56 : stp [(10, 22), (12, 15)] [] [] S S55 := t0.tr w54 (by decide) (fun _ q => absurd q List.not_mem_nil)
              have xe57 : ext S S55 := w54.x
              refine W.widen (k := 0) (n := 0) (Nat.le_of_ble_eq_true rfl) (Nat.le_of_ble_eq_true rfl) ?_
              exact W.iret (v := r52) hx hb hr (fun t ht hW9 => ⟨⟨r52, S55, rfl, t56, wd_end hP hK hD ht hW9.alike⟩, hS.F ht⟩) hS.2.2 dX12_run_85 hlocks
            · have c50i : ¬ r48.toInt = 0 := neq_v rfl rfl c50
              refine lv_aload_n hx hb dX12_run_71 rfl (lv_at hl 0 rfl) ?_
              refine lv_iload_n hx hb dX12_run_72 rfl (lv_at hl 2 rfl) ?_
              refine lv_iload_n hx hb dX12_run_73 rfl (lv_at hl 1 rfl) ?_
              have hFc := free_all hD hS hA
              obtain ⟨k58, gk58, hk58⟩ := wGt (cy := cy) X S h_o1.1 h_o1.2.1
              refine va_calli (va_runV (As := [.int x2, .int x1]) (rest := []) ⟨hx, hb, hml, hown, hts⟩ (c_X12_canRun l (cy := cy) (X := X) (D := D) S _ o1 h_o1 x2 x1 (hW) (by rw [f_of F4.1]; omega)) (cwV 2 hts gX12_run_X12_canRun rfl rfl rfl hd_X12_canRun ⟨Nat.le_of_ble_eq_true rfl, Nat.le_of_ble_eq_true rfl⟩) ⟨fun a U g mk q => ⟨q.1, q.2.1, q.2.2.1.calling, NW.same (u := U) (U := U.calling g mk a) rfl q.2.2.2⟩, va_recv hK hP (q := (RX12, TX12, 34)) (ci := 16) (q0 := k58) rfl hk58, fun U hU hW => ⟨rfl, by rw [hU], wd_pre hP hK hD hU hW, hN.warm hW⟩⟩ rfl rfl hl.1 rfl (lv_room (Nat.le_of_ble_eq_true rfl)) dX12_run_74 ⟨(Nat.zero_le _), (Nat.zero_le _)⟩) hS (fun q _ h => hFc q h) hFc (fun r59 u t H1 locs ht hvm hw hB hz1 hk1 hS => ?_)
              have y60 := hw
              obtain ⟨hP, hD⟩ := wd_post hFc ht hB
              generalize H1 = H at hP hS ⊢
              refine lv_if_ne (tgt := 86) hx hb dX12_run_77 (by decide) (fun c61 => ?_) (fun c61 => ?_)
              · have c61i : ¬ r59.toInt = 0 := neq_v rfl rfl c61
                refine lv_aload_n hx hb dX12_run_86 rfl (lv_at hl 0 rfl) ?_
                refine lv_iload_n hx hb dX12_run_87 rfl (lv_at hl 1 rfl) ?_
                have hFc := free_all hD hS hA
                obtain ⟨k62, gk62, hk62⟩ := wGt (cy := cy) X S h_o1.1 h_o1.2.1
                refine va_callq (va_runV (As := [.int x1]) (rest := []) ⟨hx, hb, hml, hown, hts⟩ (c_X12_gearAt l (cy := cy) (X := X) (D := D) S _ o1 h_o1 x1 (hW) (by rw [f_of F4.1]; omega)) (cwV 1 hts gX12_run_X12_gearAt rfl rfl rfl hd_X12_gearAt ⟨Nat.le_of_ble_eq_true rfl, Nat.le_of_ble_eq_true rfl⟩) ⟨fun a U g mk q => ⟨q.1, q.2.1, q.2.2.1.calling, NW.same (u := U) (U := U.calling g mk a) rfl q.2.2.2⟩, va_recv hK hP (q := (RX12, TX12, 34)) (ci := 16) (q0 := k62) rfl hk62, fun U hU hW => ⟨rfl, by rw [hU], wd_pre hP hK hD hU hW, hN.warm hW⟩⟩ rfl rfl hl.1 rfl (lv_room (Nat.le_of_ble_eq_true rfl)) dX12_run_88 ⟨(Nat.zero_le _), (Nat.zero_le _)⟩) hS (fun q _ h => hFc q h) hFc (fun r63 u t H1 locs ht hvm hw hB hz1 hk1 hS => ?_)
                obtain ⟨r63, rfl, o64⟩ := hw
                obtain ⟨hP, hD⟩ := wd_post hFc ht hB
                generalize H1 = H at hP hS ⊢
                refine W.eq (g2 := F0 m 91 ls [.ref r63]) rfl ?_
                refine lv_astore (lv' := [(5, .ref r63), (0, .ref o1), (1, .int x1), (2, .int x2), (3, .int x3), (4, .int x4)]) hx hb dX12_run_91 hl (by decide) rfl (fun ls hl => ?_)
                refine lv_aload_n hx hb dX12_run_93 rfl (lv_at hl 1 rfl) ?_
                refine lv_iload_n hx hb dX12_run_94 rfl (lv_at hl 3 rfl) ?_
                have hFc := free_all hD hS hA
                obtain ⟨k65, gk65, hk65⟩ := wGt (cy := cy) X S h_o1.1 h_o1.2.1
                refine va_callq (va_runV (As := [.int x2]) (rest := []) ⟨hx, hb, hml, hown, hts⟩ (c_X12_gearAt l (cy := cy) (X := X) (D := D) S _ o1 h_o1 x2 (hW) (by rw [f_of F4.1]; omega)) (cwV 1 hts gX12_run_X12_gearAt rfl rfl rfl hd_X12_gearAt ⟨Nat.le_of_ble_eq_true rfl, Nat.le_of_ble_eq_true rfl⟩) ⟨fun a U g mk q => ⟨q.1, q.2.1, q.2.2.1.calling, NW.same (u := U) (U := U.calling g mk a) rfl q.2.2.2⟩, va_recv hK hP (q := (RX12, TX12, 34)) (ci := 16) (q0 := k65) rfl hk65, fun U hU hW => ⟨rfl, by rw [hU], wd_pre hP hK hD hU hW, hN.warm hW⟩⟩ rfl rfl hl.1 rfl (lv_room (Nat.le_of_ble_eq_true rfl)) dX12_run_95 ⟨(Nat.zero_le _), (Nat.zero_le _)⟩) hS (fun q _ h => hFc q h) hFc (fun r66 u t H1 locs ht hvm hw hB hz1 hk1 hS => ?_)
                obtain ⟨r66, rfl, o67⟩ := hw
                obtain ⟨hP, hD⟩ := wd_post hFc ht hB
                generalize H1 = H at hP hS ⊢
                refine W.eq (g2 := F0 m 98 ls [.ref r66]) rfl ?_
                refine lv_astore (lv' := [(6, .ref r66), (5, .ref r63), (0, .ref o1), (1, .int x1), (2, .int x2), (3, .int x3), (4, .int x4)]) hx hb dX12_run_98 hl (by decide) rfl (fun ls hl => ?_)
                refine lv_aload hx hb dX12_run_100 (lv_at hl 1 rfl) ?_
                refine lv_iload_n hx hb dX12_run_102 rfl (lv_at hl 5 rfl) ?_
                refine lv_i2l hx hb dX12_run_103 rfl ?_
                refine lv_iload hx hb dX12_run_104 (lv_at hl 6 rfl) ?_
                refine lv_i2l hx hb dX12_run_106 rfl ?_
                have hFc := free_all hD hS hA
                obtain ⟨k68, gk68, hk68⟩ := wGt (cy := cy) X S o64.1 o64.2.1
                refine va_callv (va_runV (As := [.long x3.toInt64, .long x4.toInt64]) (rest := []) ⟨hx, hb, hml, hown, hts⟩ (c_X10_runs l (cy := cy) (X := X) (D := D) S _ r63 o64 x3.toInt64 x4.toInt64 (hW)) (cwV 2 hts gX12_run_X10_runs rfl rfl rfl hd_X10_runs ⟨Nat.le_of_ble_eq_true rfl, Nat.le_of_ble_eq_true rfl⟩) ⟨fun a U g mk q => ⟨q.1, q.2.1, q.2.2.1.calling, NW.same (u := U) (U := U.calling g mk a) rfl q.2.2.2⟩, va_recv hK hP (q := (RX10, TX10, 23)) (ci := 14) (q0 := k68) rfl hk68, fun U hU hW => ⟨rfl, by rw [hU], wd_pre hP hK hD hU hW, hN.warm hW⟩⟩ rfl rfl hl.1 rfl (lv_room (Nat.le_of_ble_eq_true rfl)) dX12_run_107 ⟨(Nat.zero_le _), (Nat.zero_le _)⟩) hS (fun q _ h => hFc q h) hFc (fun u t H1 locs ht hvm hw hB hz1 hk1 hS => ?_)
                have w70 := hw
                obtain ⟨hP, hD⟩ := wd_post hFc ht hB
                generalize H1 = H at hP hS ⊢
                obtain ⟨S71, rfl⟩ : ∃ z, z = u := ⟨_, rfl⟩
                have t72 : stp [(10, 22), (12, 15)] [] [] S S71 := t0.tr w70 (by decide) (fun _ q => absurd q List.not_mem_nil)
                have xe73 : ext S S71 := w70.x
                refine lv_aload hx hb dX12_run_110 (lv_at hl 0 rfl) ?_
                refine lv_iload_n hx hb dX12_run_112 rfl (lv_at hl 5 rfl) ?_
                refine lv_i2l hx hb dX12_run_113 rfl ?_
                refine lv_aload hx hb dX12_run_114 (lv_at hl 0 rfl) ?_
                obtain ⟨k74, gk74, hk74⟩ := wGt (cy := cy) X S71 (xe73.A o67).1 (xe73.A o67).2.1
                have i75 := ((t72.w.at (xe73.A o67) List.not_mem_nil).to_10 (xe73.A o67).2.1).R1
                refine va_getN (D := D) (ci := 14) (v := .int (S71.I r66 1)) (C := RX10) (T := TX10) (N := 23) hx hb hts (by decide +kernel) hown hK hP k74 hk74 rfl 1 (by decide) (va_Nw.use rfl (hN (.fieldLinkNest RX12 332 "HobhouseModel$Gear" "teeth" "I" "HobhouseModel") (by decide +kernel))) (fun _ h9 => h9) rfl dX12_run_116 ?_
                refine lv_i2l hx hb dX12_run_119 rfl ?_
                refine lv_lmul hx hb dX12_run_120 ?_
                refine lv_aload hx hb dX12_run_121 (lv_at hl 1 rfl) ?_
                obtain ⟨k76, gk76, hk76⟩ := wGt (cy := cy) X S71 (xe73.A o64).1 (xe73.A o64).2.1
                have i77 := ((t72.w.at (xe73.A o64) List.not_mem_nil).to_10 (xe73.A o64).2.1).R1
                refine va_getN (D := D) (ci := 14) (v := .int (S71.I r63 1)) (C := RX10) (T := TX10) (N := 23) hx hb hts (by decide +kernel) hown hK hP k76 hk76 rfl 1 (by decide) (va_Nw.use rfl (hN (.fieldLinkNest RX12 332 "HobhouseModel$Gear" "teeth" "I" "HobhouseModel") (by decide +kernel))) (fun _ h9 => h9) rfl dX12_run_123 ?_
                refine lv_i2l hx hb dX12_run_126 rfl ?_
                refine lv_ldiv hx hb dX12_run_127 (nz_l (by omega)) ?_
                refine lv_iload hx hb dX12_run_128 (lv_at hl 6 rfl) ?_
                refine lv_i2l hx hb dX12_run_130 rfl ?_
                refine lv_aload hx hb dX12_run_131 (lv_at hl 1 rfl) ?_
                obtain ⟨k78, gk78, hk78⟩ := wGt (cy := cy) X S71 (xe73.A o64).1 (xe73.A o64).2.1
                refine va_getN (D := D) (ci := 14) (v := .int (S71.I r63 1)) (C := RX10) (T := TX10) (N := 23) hx hb hts (by decide +kernel) hown hK hP k78 hk78 rfl 1 (by decide) (va_Nw.use rfl (hN (.fieldLinkNest RX12 332 "HobhouseModel$Gear" "teeth" "I" "HobhouseModel") (by decide +kernel))) (fun _ h9 => h9) rfl dX12_run_133 ?_
                refine lv_i2l hx hb dX12_run_136 rfl ?_
                refine lv_lmul hx hb dX12_run_137 ?_
                refine lv_aload hx hb dX12_run_138 (lv_at hl 0 rfl) ?_
                obtain ⟨k79, gk79, hk79⟩ := wGt (cy := cy) X S71 (xe73.A o67).1 (xe73.A o67).2.1
                refine va_getN (D := D) (ci := 14) (v := .int (S71.I r66 1)) (C := RX10) (T := TX10) (N := 23) hx hb hts (by decide +kernel) hown hK hP k79 hk79 rfl 1 (by decide) (va_Nw.use rfl (hN (.fieldLinkNest RX12 332 "HobhouseModel$Gear" "teeth" "I" "HobhouseModel") (by decide +kernel))) (fun _ h9 => h9) rfl dX12_run_140 ?_
                refine lv_i2l hx hb dX12_run_143 rfl ?_
                refine lv_ldiv hx hb dX12_run_144 (nz_l (by omega)) ?_
                have hFc := free_all hD hS hA
                obtain ⟨k80, gk80, hk80⟩ := wGt (cy := cy) X S71 (xe73.A o67).1 (xe73.A o67).2.1
                refine va_callv (va_runV (As := [.long ((x3.toInt64 * ((S71.I r66 1).toInt64)) / ((S71.I r63 1).toInt64)), .long ((x4.toInt64 * ((S71.I r63 1).toInt64)) / ((S71.I r66 1).toInt64))]) (rest := []) ⟨hx, hb, hml, hown, hts⟩ (c_X10_runs l (cy := cy) (X := X) (D := D) S71 _ r66 (xe73.A o67) ((x3.toInt64 * ((S71.I r66 1).toInt64)) / ((S71.I r63 1).toInt64)) ((x4.toInt64 * ((S71.I r63 1).toInt64)) / ((S71.I r66 1).toInt64)) (t72.w)) (cwV 2 hts gX12_run_X10_runs rfl rfl rfl hd_X10_runs ⟨Nat.le_of_ble_eq_true rfl, Nat.le_of_ble_eq_true rfl⟩) ⟨fun a U g mk q => ⟨q.1, q.2.1, q.2.2.1.calling, NW.same (u := U) (U := U.calling g mk a) rfl q.2.2.2⟩, va_recv hK hP (q := (RX10, TX10, 23)) (ci := 14) (q0 := k80) rfl hk80, fun U hU hW => ⟨rfl, by rw [hU], wd_pre hP hK hD hU hW, hN.warm hW⟩⟩ rfl rfl hl.1 rfl (lv_room (Nat.le_of_ble_eq_true rfl)) dX12_run_145 ⟨(Nat.zero_le _), (Nat.zero_le _)⟩) hS (fun q _ h => hFc q h) hFc (fun u t H1 locs ht hvm hw hB hz1 hk1 hS => ?_)
                have w82 := hw
                obtain ⟨hP, hD⟩ := wd_post hFc ht hB
                generalize H1 = H at hP hS ⊢
                obtain ⟨S83, rfl⟩ : ∃ z, z = u := ⟨_, rfl⟩
                have t84 : stp [(10, 22), (12, 15)] [] [] S S83 := t72.tr w82 (by decide) (fun _ q => absurd q List.not_mem_nil)
                have xe85 : ext S71 S83 := w82.x
                refine lv_aload_n hx hb dX12_run_148 rfl (lv_at hl 2 rfl) ?_
                refine lv_aload hx hb dX12_run_149 (lv_at hl 1 rfl) ?_
                have hFc := free_all hD hS hA
                obtain ⟨k86, gk86, hk86⟩ := wGt (cy := cy) X S83 (xe85.A (xe73.A o64)).1 (xe85.A (xe73.A o64)).2.1
                refine va_calli (va_runV (As := []) (rest := [.ref o1]) ⟨hx, hb, hml, hown, hts⟩ (c_X10_isBroken l (cy := cy) (X := X) (D := D) S83 _ r63 (xe85.A (xe73.A o64))) (cwV 0 hts gX12_run_X10_isBroken rfl rfl rfl hd_X10_isBroken ⟨Nat.le_of_ble_eq_true rfl, Nat.le_of_ble_eq_true rfl⟩) ⟨fun a U g mk q => ⟨q.1, q.2.1, q.2.2.1.calling, NW.same (u := U) (U := U.calling g mk a) rfl q.2.2.2⟩, va_recv hK hP (q := (RX10, TX10, 23)) (ci := 14) (q0 := k86) rfl hk86, fun U hU hW => ⟨rfl, by rw [hU], wd_pre hP hK hD hU hW, hN.warm hW⟩⟩ rfl rfl hl.1 rfl (lv_room (Nat.le_of_ble_eq_true rfl)) dX12_run_151 ⟨(Nat.zero_le _), (Nat.zero_le _)⟩) hS (fun q _ h => hFc q h) hFc (fun r87 u t H1 locs ht hvm hw hB hz1 hk1 hS => ?_)
                have c88 := hw
                obtain ⟨hP, hD⟩ := wd_post hFc ht hB
                generalize H1 = H at hP hS ⊢
                obtain rfl : r87 = f_X10_isBroken S83 r63 := c88
                refine lv_if_eq (tgt := 161) hx hb dX12_run_154 (by decide) (fun c89 => ?_) (fun c89 => ?_)
                · have c89i : (f_X10_isBroken S83 r63).toInt = 0 := eq_v rfl rfl c89
                  refine lv_iconst (v := 0) hx hb dX12_run_161 (by decide) ?_
                  refine lv_aload hx hb dX12_run_162 (lv_at hl 0 rfl) ?_
                  have hFc := free_all hD hS hA
                  obtain ⟨k90, gk90, hk90⟩ := wGt (cy := cy) X S83 (xe85.A (xe73.A o67)).1 (xe85.A (xe73.A o67)).2.1
                  refine va_calli (va_runV (As := []) (rest := [.int (0 : Int32), .ref o1]) ⟨hx, hb, hml, hown, hts⟩ (c_X10_isBroken l (cy := cy) (X := X) (D := D) S83 _ r66 (xe85.A (xe73.A o67))) (cwV 0 hts gX12_run_X10_isBroken rfl rfl rfl hd_X10_isBroken ⟨Nat.le_of_ble_eq_true rfl, Nat.le_of_ble_eq_true rfl⟩) ⟨fun a U g mk q => ⟨q.1, q.2.1, q.2.2.1.calling, NW.same (u := U) (U := U.calling g mk a) rfl q.2.2.2⟩, va_recv hK hP (q := (RX10, TX10, 23)) (ci := 14) (q0 := k90) rfl hk90, fun U hU hW => ⟨rfl, by rw [hU], wd_pre hP hK hD hU hW, hN.warm hW⟩⟩ rfl rfl hl.1 rfl (lv_room (Nat.le_of_ble_eq_true rfl)) dX12_run_164 ⟨(Nat.zero_le _), (Nat.zero_le _)⟩) hS (fun q _ h => hFc q h) hFc (fun r91 u t H1 locs ht hvm hw hB hz1 hk1 hS => ?_)
                  have c92 := hw
                  obtain ⟨hP, hD⟩ := wd_post hFc ht hB
                  generalize H1 = H at hP hS ⊢
                  obtain rfl : r91 = f_X10_isBroken S83 r66 := c92
                  refine lv_if_eq (tgt := 174) hx hb dX12_run_167 (by decide) (fun c93 => ?_) (fun c93 => ?_)
                  · have c93i : (f_X10_isBroken S83 r66).toInt = 0 := eq_v rfl rfl c93
                    refine lv_iconst (v := 0) hx hb dX12_run_174 (by decide) ?_
                    refine lv_iadd hx hb dX12_run_175 ?_
                    have l32_0 : (0 : Int32).toInt = 0 := rfl
                    have hFc := free_all hD hS hA
                    obtain ⟨k94, gk94, hk94⟩ := wGt (cy := cy) X S83 ((xe73.tr xe85).A h_o1).1 ((xe73.tr xe85).A h_o1).2.1
                    refine va_calli (va_runV (As := [.int ((0 : Int32) + (0 : Int32))]) (rest := []) ⟨hx, hb, hml, hown, hts⟩ (c_X12_answer l (cy := cy) (X := X) (D := D) S83 _ o1 ((xe73.tr xe85).A h_o1) ((0 : Int32) + (0 : Int32)) (t84.w)) (cwV 1 hts gX12_run_X12_answer rfl rfl rfl hd_X12_answer ⟨Nat.le_of_ble_eq_true rfl, Nat.le_of_ble_eq_true rfl⟩) ⟨fun a U g mk q => ⟨q.1, q.2.1, q.2.2.1.calling, NW.same (u := U) (U := U.calling g mk a) rfl q.2.2.2⟩, va_recv hK hP (q := (RX12, TX12, 34)) (ci := 16) (q0 := k94) rfl hk94, fun U hU hW => ⟨rfl, by rw [hU], wd_pre hP hK hD hU hW, hN.warm hW⟩⟩ rfl rfl hl.1 rfl (lv_room (Nat.le_of_ble_eq_true rfl)) dX12_run_176 ⟨(Nat.zero_le _), (Nat.zero_le _)⟩) hS (fun q _ h => hFc q h) hFc (fun r95 u t H1 locs ht hvm hw hB hz1 hk1 hS => ?_)
                    obtain ⟨c96, w97⟩ := hw
                    obtain ⟨hP, hD⟩ := wd_post hFc ht hB
                    generalize H1 = H at hP hS ⊢
                    obtain ⟨S98, rfl⟩ : ∃ z, z = u := ⟨_, rfl⟩
                    have t99 : stp [(10, 22), (12, 15)] [] [] S S98 := t84.tr w97 (by decide) (fun _ q => absurd q List.not_mem_nil)
                    have xe100 : ext S83 S98 := w97.x
                    refine W.widen (k := 0) (n := 0) (Nat.le_of_ble_eq_true rfl) (Nat.le_of_ble_eq_true rfl) ?_
                    exact W.iret (v := r95) hx hb hr (fun t ht hW9 => ⟨⟨r95, S98, rfl, t99, wd_end hP hK hD ht hW9.alike⟩, hS.F ht⟩) hS.2.2 dX12_run_179 hlocks
                  · have c93i : ¬ (f_X10_isBroken S83 r66).toInt = 0 := neq_v rfl rfl c93
                    refine lv_iconst (v := 1) hx hb dX12_run_170 (by decide) ?_
                    refine lv_goto (tgt := 175) hx hb dX12_run_171 (by decide) ?_
                    refine lv_iadd hx hb dX12_run_175 ?_
                    have l32_0 : (0 : Int32).toInt = 0 := rfl
                    have l32_1 : (1 : Int32).toInt = 1 := rfl
                    have hFc := free_all hD hS hA
                    obtain ⟨k101, gk101, hk101⟩ := wGt (cy := cy) X S83 ((xe73.tr xe85).A h_o1).1 ((xe73.tr xe85).A h_o1).2.1
                    refine va_calli (va_runV (As := [.int ((0 : Int32) + (1 : Int32))]) (rest := []) ⟨hx, hb, hml, hown, hts⟩ (c_X12_answer l (cy := cy) (X := X) (D := D) S83 _ o1 ((xe73.tr xe85).A h_o1) ((0 : Int32) + (1 : Int32)) (t84.w)) (cwV 1 hts gX12_run_X12_answer rfl rfl rfl hd_X12_answer ⟨Nat.le_of_ble_eq_true rfl, Nat.le_of_ble_eq_true rfl⟩) ⟨fun a U g mk q => ⟨q.1, q.2.1, q.2.2.1.calling, NW.same (u := U) (U := U.calling g mk a) rfl q.2.2.2⟩, va_recv hK hP (q := (RX12, TX12, 34)) (ci := 16) (q0 := k101) rfl hk101, fun U hU hW => ⟨rfl, by rw [hU], wd_pre hP hK hD hU hW, hN.warm hW⟩⟩ rfl rfl hl.1 rfl (lv_room (Nat.le_of_ble_eq_true rfl)) dX12_run_176 ⟨(Nat.zero_le _), (Nat.zero_le _)⟩) hS (fun q _ h => hFc q h) hFc (fun r102 u t H1 locs ht hvm hw hB hz1 hk1 hS => ?_)
                    obtain ⟨c103, w104⟩ := hw
                    obtain ⟨hP, hD⟩ := wd_post hFc ht hB
                    generalize H1 = H at hP hS ⊢
                    obtain ⟨S105, rfl⟩ : ∃ z, z = u := ⟨_, rfl⟩
                    have t106 : stp [(10, 22), (12, 15)] [] [] S S105 := t84.tr w104 (by decide) (fun _ q => absurd q List.not_mem_nil)
                    have xe107 : ext S83 S105 := w104.x
                    refine W.widen (k := 0) (n := 0) (Nat.le_of_ble_eq_true rfl) (Nat.le_of_ble_eq_true rfl) ?_
                    exact W.iret (v := r102) hx hb hr (fun t ht hW9 => ⟨⟨r102, S105, rfl, t106, wd_end hP hK hD ht hW9.alike⟩, hS.F ht⟩) hS.2.2 dX12_run_179 hlocks
                · have c89i : ¬ (f_X10_isBroken S83 r63).toInt = 0 := neq_v rfl rfl c89
                  refine lv_iconst (v := 1) hx hb dX12_run_157 (by decide) ?_
                  refine lv_goto (tgt := 162) hx hb dX12_run_158 (by decide) ?_
                  refine lv_aload hx hb dX12_run_162 (lv_at hl 0 rfl) ?_
                  have hFc := free_all hD hS hA
                  obtain ⟨k108, gk108, hk108⟩ := wGt (cy := cy) X S83 (xe85.A (xe73.A o67)).1 (xe85.A (xe73.A o67)).2.1
                  refine va_calli (va_runV (As := []) (rest := [.int (1 : Int32), .ref o1]) ⟨hx, hb, hml, hown, hts⟩ (c_X10_isBroken l (cy := cy) (X := X) (D := D) S83 _ r66 (xe85.A (xe73.A o67))) (cwV 0 hts gX12_run_X10_isBroken rfl rfl rfl hd_X10_isBroken ⟨Nat.le_of_ble_eq_true rfl, Nat.le_of_ble_eq_true rfl⟩) ⟨fun a U g mk q => ⟨q.1, q.2.1, q.2.2.1.calling, NW.same (u := U) (U := U.calling g mk a) rfl q.2.2.2⟩, va_recv hK hP (q := (RX10, TX10, 23)) (ci := 14) (q0 := k108) rfl hk108, fun U hU hW => ⟨rfl, by rw [hU], wd_pre hP hK hD hU hW, hN.warm hW⟩⟩ rfl rfl hl.1 rfl (lv_room (Nat.le_of_ble_eq_true rfl)) dX12_run_164 ⟨(Nat.zero_le _), (Nat.zero_le _)⟩) hS (fun q _ h => hFc q h) hFc (fun r109 u t H1 locs ht hvm hw hB hz1 hk1 hS => ?_)
                  have c110 := hw
                  obtain ⟨hP, hD⟩ := wd_post hFc ht hB
                  generalize H1 = H at hP hS ⊢
                  obtain rfl : r109 = f_X10_isBroken S83 r66 := c110
                  refine lv_if_eq (tgt := 174) hx hb dX12_run_167 (by decide) (fun c111 => ?_) (fun c111 => ?_)
                  · have c111i : (f_X10_isBroken S83 r66).toInt = 0 := eq_v rfl rfl c111
                    refine lv_iconst (v := 0) hx hb dX12_run_174 (by decide) ?_
                    refine lv_iadd hx hb dX12_run_175 ?_
                    have l32_1 : (1 : Int32).toInt = 1 := rfl
                    have l32_0 : (0 : Int32).toInt = 0 := rfl
                    have hFc := free_all hD hS hA
                    obtain ⟨k112, gk112, hk112⟩ := wGt (cy := cy) X S83 ((xe73.tr xe85).A h_o1).1 ((xe73.tr xe85).A h_o1).2.1
                    refine va_calli (va_runV (As := [.int ((1 : Int32) + (0 : Int32))]) (rest := []) ⟨hx, hb, hml, hown, hts⟩ (c_X12_answer l (cy := cy) (X := X) (D := D) S83 _ o1 ((xe73.tr xe85).A h_o1) ((1 : Int32) + (0 : Int32)) (t84.w)) (cwV 1 hts gX12_run_X12_answer rfl rfl rfl hd_X12_answer ⟨Nat.le_of_ble_eq_true rfl, Nat.le_of_ble_eq_true rfl⟩) ⟨fun a U g mk q => ⟨q.1, q.2.1, q.2.2.1.calling, NW.same (u := U) (U := U.calling g mk a) rfl q.2.2.2⟩, va_recv hK hP (q := (RX12, TX12, 34)) (ci := 16) (q0 := k112) rfl hk112, fun U hU hW => ⟨rfl, by rw [hU], wd_pre hP hK hD hU hW, hN.warm hW⟩⟩ rfl rfl hl.1 rfl (lv_room (Nat.le_of_ble_eq_true rfl)) dX12_run_176 ⟨(Nat.zero_le _), (Nat.zero_le _)⟩) hS (fun q _ h => hFc q h) hFc (fun r113 u t H1 locs ht hvm hw hB hz1 hk1 hS => ?_)
                    obtain ⟨c114, w115⟩ := hw
                    obtain ⟨hP, hD⟩ := wd_post hFc ht hB
                    generalize H1 = H at hP hS ⊢
                    obtain ⟨S116, rfl⟩ : ∃ z, z = u := ⟨_, rfl⟩
                    have t117 : stp [(10, 22), (12, 15)] [] [] S S116 := t84.tr w115 (by decide) (fun _ q => absurd q List.not_mem_nil)
                    have xe118 : ext S83 S116 := w115.x
                    refine W.widen (k := 0) (n := 0) (Nat.le_of_ble_eq_true rfl) (Nat.le_of_ble_eq_true rfl) ?_
                    exact W.iret (v := r113) hx hb hr (fun t ht hW9 => ⟨⟨r113, S116, rfl, t117, wd_end hP hK hD ht hW9.alike⟩, hS.F ht⟩) hS.2.2 dX12_run_179 hlocks
                  · have c111i : ¬ (f_X10_isBroken S83 r66).toInt = 0 := neq_v rfl rfl c111
                    refine lv_iconst (v := 1) hx hb dX12_run_170 (by decide) ?_
                    refine lv_goto (tgt := 175) hx hb dX12_run_171 (by decide) ?_
                    refine lv_iadd hx hb dX12_run_175 ?_
                    have l32_1 : (1 : Int32).toInt = 1 := rfl
                    have hFc := free_all hD hS hA
                    obtain ⟨k119, gk119, hk119⟩ := wGt (cy := cy) X S83 ((xe73.tr xe85).A h_o1).1 ((xe73.tr xe85).A h_o1).2.1
                    refine va_calli (va_runV (As := [.int ((1 : Int32) + (1 : Int32))]) (rest := []) ⟨hx, hb, hml, hown, hts⟩ (c_X12_answer l (cy := cy) (X := X) (D := D) S83 _ o1 ((xe73.tr xe85).A h_o1) ((1 : Int32) + (1 : Int32)) (t84.w)) (cwV 1 hts gX12_run_X12_answer rfl rfl rfl hd_X12_answer ⟨Nat.le_of_ble_eq_true rfl, Nat.le_of_ble_eq_true rfl⟩) ⟨fun a U g mk q => ⟨q.1, q.2.1, q.2.2.1.calling, NW.same (u := U) (U := U.calling g mk a) rfl q.2.2.2⟩, va_recv hK hP (q := (RX12, TX12, 34)) (ci := 16) (q0 := k119) rfl hk119, fun U hU hW => ⟨rfl, by rw [hU], wd_pre hP hK hD hU hW, hN.warm hW⟩⟩ rfl rfl hl.1 rfl (lv_room (Nat.le_of_ble_eq_true rfl)) dX12_run_176 ⟨(Nat.zero_le _), (Nat.zero_le _)⟩) hS (fun q _ h => hFc q h) hFc (fun r120 u t H1 locs ht hvm hw hB hz1 hk1 hS => ?_)
                    obtain ⟨c121, w122⟩ := hw
                    obtain ⟨hP, hD⟩ := wd_post hFc ht hB
                    generalize H1 = H at hP hS ⊢
                    obtain ⟨S123, rfl⟩ : ∃ z, z = u := ⟨_, rfl⟩
                    have t124 : stp [(10, 22), (12, 15)] [] [] S S123 := t84.tr w122 (by decide) (fun _ q => absurd q List.not_mem_nil)
                    have xe125 : ext S83 S123 := w122.x
                    refine W.widen (k := 0) (n := 0) (Nat.le_of_ble_eq_true rfl) (Nat.le_of_ble_eq_true rfl) ?_
                    exact W.iret (v := r120) hx hb hr (fun t ht hW9 => ⟨⟨r120, S123, rfl, t124, wd_end hP hK hD ht hW9.alike⟩, hS.F ht⟩) hS.2.2 dX12_run_179 hlocks
              · have c61i : r59.toInt = 0 := eq_v rfl rfl c61
                refine lv_aload_n hx hb dX12_run_80 rfl (lv_at hl 0 rfl) ?_
                refine lv_iconst (v := 3) hx hb dX12_run_81 (by decide) ?_
                have l32_3 : (3 : Int32).toInt = 3 := rfl
                have hFc := free_all hD hS hA
                obtain ⟨k126, gk126, hk126⟩ := wGt (cy := cy) X S h_o1.1 h_o1.2.1
                refine va_calli (va_runV (As := [.int (3 : Int32)]) (rest := []) ⟨hx, hb, hml, hown, hts⟩ (c_X12_fails l (cy := cy) (X := X) (D := D) S _ o1 h_o1 (3 : Int32) (hW)) (cwV 1 hts gX12_run_X12_fails rfl rfl rfl hd_X12_fails ⟨Nat.le_of_ble_eq_true rfl, Nat.le_of_ble_eq_true rfl⟩) ⟨fun a U g mk q => ⟨q.1, q.2.1, q.2.2.1.calling, NW.same (u := U) (U := U.calling g mk a) rfl q.2.2.2⟩, va_recv hK hP (q := (RX12, TX12, 34)) (ci := 16) (q0 := k126) rfl hk126, fun U hU hW => ⟨rfl, by rw [hU], wd_pre hP hK hD hU hW, hN.warm hW⟩⟩ rfl rfl hl.1 rfl (lv_room (Nat.le_of_ble_eq_true rfl)) dX12_run_82 ⟨(Nat.zero_le _), (Nat.zero_le _)⟩) hS (fun q _ h => hFc q h) hFc (fun r127 u t H1 locs ht hvm hw hB hz1 hk1 hS => ?_)
                obtain ⟨c128, w129⟩ := hw
                obtain ⟨hP, hD⟩ := wd_post hFc ht hB
                generalize H1 = H at hP hS ⊢
                obtain ⟨S130, rfl⟩ : ∃ z, z = u := ⟨_, rfl⟩
                have t131 : stp [(10, 22), (12, 15)] [] [] S S130 := t0.tr w129 (by decide) (fun _ q => absurd q List.not_mem_nil)
                have xe132 : ext S S130 := w129.x
                refine W.widen (k := 0) (n := 0) (Nat.le_of_ble_eq_true rfl) (Nat.le_of_ble_eq_true rfl) ?_
                exact W.iret (v := r127) hx hb hr (fun t ht hW9 => ⟨⟨r127, S130, rfl, t131, wd_end hP hK hD ht hW9.alike⟩, hS.F ht⟩) hS.2.2 dX12_run_85 hlocks
        · have c35i : (f_X12_in x4.toInt64 (1 : Int64) (999999 : Int64)).toInt = 0 := eq_v rfl rfl c35
          refine lv_aload_n hx hb dX12_run_47 rfl (lv_at hl 0 rfl) ?_
          refine lv_iconst (v := 2) hx hb dX12_run_48 (by decide) ?_
          have l32_2 : (2 : Int32).toInt = 2 := rfl
          have hFc := free_all hD hS hA
          obtain ⟨k133, gk133, hk133⟩ := wGt (cy := cy) X S h_o1.1 h_o1.2.1
          refine va_calli (va_runV (As := [.int (2 : Int32)]) (rest := []) ⟨hx, hb, hml, hown, hts⟩ (c_X12_fails l (cy := cy) (X := X) (D := D) S _ o1 h_o1 (2 : Int32) (hW)) (cwV 1 hts gX12_run_X12_fails rfl rfl rfl hd_X12_fails ⟨Nat.le_of_ble_eq_true rfl, Nat.le_of_ble_eq_true rfl⟩) ⟨fun a U g mk q => ⟨q.1, q.2.1, q.2.2.1.calling, NW.same (u := U) (U := U.calling g mk a) rfl q.2.2.2⟩, va_recv hK hP (q := (RX12, TX12, 34)) (ci := 16) (q0 := k133) rfl hk133, fun U hU hW => ⟨rfl, by rw [hU], wd_pre hP hK hD hU hW, hN.warm hW⟩⟩ rfl rfl hl.1 rfl (lv_room (Nat.le_of_ble_eq_true rfl)) dX12_run_49 ⟨(Nat.zero_le _), (Nat.zero_le _)⟩) hS (fun q _ h => hFc q h) hFc (fun r134 u t H1 locs ht hvm hw hB hz1 hk1 hS => ?_)
          obtain ⟨c135, w136⟩ := hw
          obtain ⟨hP, hD⟩ := wd_post hFc ht hB
          generalize H1 = H at hP hS ⊢
          obtain ⟨S137, rfl⟩ : ∃ z, z = u := ⟨_, rfl⟩
          have t138 : stp [(10, 22), (12, 15)] [] [] S S137 := t0.tr w136 (by decide) (fun _ q => absurd q List.not_mem_nil)
          have xe139 : ext S S137 := w136.x
          refine W.widen (k := 0) (n := 0) (Nat.le_of_ble_eq_true rfl) (Nat.le_of_ble_eq_true rfl) ?_
          exact W.iret (v := r134) hx hb hr (fun t ht hW9 => ⟨⟨r134, S137, rfl, t138, wd_end hP hK hD ht hW9.alike⟩, hS.F ht⟩) hS.2.2 dX12_run_52 hlocks
    · have c18i : (f_X12_isGear S o1 x2).toInt = 0 := eq_v rfl rfl c18
      refine lv_aload_n hx hb dX12_run_16 rfl (lv_at hl 0 rfl) ?_
      refine lv_iconst (v := 1) hx hb dX12_run_17 (by decide) ?_
      have l32_1 : (1 : Int32).toInt = 1 := rfl
      have hFc := free_all hD hS hA
      obtain ⟨k140, gk140, hk140⟩ := wGt (cy := cy) X S h_o1.1 h_o1.2.1
      refine va_calli (va_runV (As := [.int (1 : Int32)]) (rest := []) ⟨hx, hb, hml, hown, hts⟩ (c_X12_fails l (cy := cy) (X := X) (D := D) S _ o1 h_o1 (1 : Int32) (hW)) (cwV 1 hts gX12_run_X12_fails rfl rfl rfl hd_X12_fails ⟨Nat.le_of_ble_eq_true rfl, Nat.le_of_ble_eq_true rfl⟩) ⟨fun a U g mk q => ⟨q.1, q.2.1, q.2.2.1.calling, NW.same (u := U) (U := U.calling g mk a) rfl q.2.2.2⟩, va_recv hK hP (q := (RX12, TX12, 34)) (ci := 16) (q0 := k140) rfl hk140, fun U hU hW => ⟨rfl, by rw [hU], wd_pre hP hK hD hU hW, hN.warm hW⟩⟩ rfl rfl hl.1 rfl (lv_room (Nat.le_of_ble_eq_true rfl)) dX12_run_18 ⟨(Nat.zero_le _), (Nat.zero_le _)⟩) hS (fun q _ h => hFc q h) hFc (fun r141 u t H1 locs ht hvm hw hB hz1 hk1 hS => ?_)
      obtain ⟨c142, w143⟩ := hw
      obtain ⟨hP, hD⟩ := wd_post hFc ht hB
      generalize H1 = H at hP hS ⊢
      obtain ⟨S144, rfl⟩ : ∃ z, z = u := ⟨_, rfl⟩
      have t145 : stp [(10, 22), (12, 15)] [] [] S S144 := t0.tr w143 (by decide) (fun _ q => absurd q List.not_mem_nil)
      have xe146 : ext S S144 := w143.x
      refine W.widen (k := 0) (n := 0) (Nat.le_of_ble_eq_true rfl) (Nat.le_of_ble_eq_true rfl) ?_
      exact W.iret (v := r141) hx hb hr (fun t ht hW9 => ⟨⟨r141, S144, rfl, t145, wd_end hP hK hD ht hW9.alike⟩, hS.F ht⟩) hS.2.2 dX12_run_21 hlocks
theorem hd_X12_damage : yX12_damage.cls = RX12 ∧ yX12_damage.cls ≠ "java/lang/invoke/MethodHandle" ∧ yX12_damage.cls ≠ "java/lang/invoke/VarHandle" ∧ (parseMethodDescriptor yX12_damage.desc).map (fun d => d.parameters.length) = some 1 := by decide +kernel
set_option maxHeartbeats 4000000 in
set_option maxRecDepth 100000 in
theorem c_X12_damage (l : Launch) {D : va_G} {cy : Nat → ClassId} {X : va_W} (S : wPS) (sz : Nat) (o1 : Nat) (h_o1 : isA S o1 12) (x1 : Int32) (hW : wtB S [])  : Met l yX12_damage wsX12_damage ({ frames := 4, cells := 0, slots := 0, locals := 85 }) (va_Pc [.ref o1, .int x1] (fun U => U.heap.size = sz ∧ WD D cy X (fun _ => True) S U ∧ NW U)) (va_Ql (fun r (u : wPS) => stp [(12, 15)] [] [] S u) (fun u t => WD D cy X (va_A (X ++ PL cy S) sz) u t) (va_A (X ++ PL cy S) sz)) 0 0 (va_A (X ++ PL cy S) sz) := by
  refine Met.ofW (cc := cX12_damage) (maxL := 2) (ret := (some .long)) (by decide) rfl ?_
  intro p e s m args below meth c s₁ B hml hv
  obtain ⟨rfl, hsz, ⟨hP, hK, hD0⟩, hN⟩ := hv
  have hx := B.exec
  have hb := B.bytes
  have hr := B.returns
  have hts := atoms_spec (ws := wsX12_damage) B.pre
  have hown : s.vm.findClass RX12 = some m.cls := findClass_of_methodNamed (x := yX12_damage) B.named
  have hlocks := B.notSynchronized
  subst hsz
  have hD := hD0.self (sz := s.heap.size)
  generalize hAe : va_A (X ++ PL cy S) s.heap.size = A at hD ⊢
  have hA : ∀ q : Nat, s.heap.size ≤ q → A q := fun q h => by rw [← hAe]; exact Or.inr h
  have hS : va_S A s.heap s.heap [] := va_S.rf
  have hl := lv_entry ([.ref o1, .int x1]) (n := 2) (Nat.le_of_ble_eq_true rfl)
  rw [lg_entry_eq]
  generalize (lg_sl ([.ref o1, .int x1]) ++ List.replicate (2 - (lg_sl ([.ref o1, .int x1])).length) Slot.unset).toArray = ls at hl ⊢
  have hl : lv_has ls 2 [(0, .ref o1), (1, .int x1)] := hl
  have t0 : stp [(12, 15)] [] [] S S := stp.rf hW
  have F1 := ((hW.at h_o1 List.not_mem_nil).to_12 h_o1.2.1).F0
  refine lv_aload_n hx hb dX12_damage_0 rfl (lv_at hl 0 rfl) ?_
  refine lv_aload_n hx hb dX12_damage_1 rfl (lv_at hl 0 rfl) ?_
  refine lv_iload_n hx hb dX12_damage_2 rfl (lv_at hl 1 rfl) ?_
  have hFc := free_all hD hS hA
  obtain ⟨k2, gk2, hk2⟩ := wGt (cy := cy) X S h_o1.1 h_o1.2.1
  refine va_calli (va_runV (As := [.int x1]) (rest := [.ref o1]) ⟨hx, hb, hml, hown, hts⟩ (c_X12_isGear l (cy := cy) (X := X) (D := D) S _ o1 h_o1 x1 (hW)) (cwV 1 hts gX12_damage_X12_isGear rfl rfl rfl hd_X12_isGear ⟨Nat.le_of_ble_eq_true rfl, Nat.le_of_ble_eq_true rfl⟩) ⟨fun a U g mk q => ⟨q.1, q.2.1, q.2.2.1.calling, NW.same (u := U) (U := U.calling g mk a) rfl q.2.2.2⟩, va_recv hK hP (q := (RX12, TX12, 34)) (ci := 16) (q0 := k2) rfl hk2, fun U hU hW => ⟨rfl, by rw [hU], wd_pre hP hK hD hU hW, hN.warm hW⟩⟩ rfl rfl hl.1 rfl (lv_room (Nat.le_of_ble_eq_true rfl)) dX12_damage_3 ⟨(Nat.zero_le _), (Nat.zero_le _)⟩) hS (fun q _ h => hFc q h) hFc (fun r3 u t H1 locs ht hvm hw hB hz1 hk1 hS => ?_)
  have c4 := hw
  obtain ⟨hP, hD⟩ := wd_post hFc ht hB
  generalize H1 = H at hP hS ⊢
  obtain rfl : r3 = f_X12_isGear S o1 x1 := c4
  have i5 : (f_X12_isGear S o1 x1).toInt = 0 ∨ (0 ≤ x1.toInt ∧ x1.toInt < (S.I (S.f o1 0) 2).toInt) := by have h9 := ig_rng x1 ((hW.at h_o1 List.not_mem_nil).to_12 h_o1.2.1) hW; rw [f_of F1.1] at h9; exact h9
  refine lv_if_eq (tgt := 13) hx hb dX12_damage_6 (by decide) (fun c6 => ?_) (fun c6 => ?_)
  · have c6i : (f_X12_isGear S o1 x1).toInt = 0 := eq_v rfl rfl c6
    refine lv_iconst (v := 1) hx hb dX12_damage_13 (by decide) ?_
    obtain ⟨k7, gk7, hk7⟩ := wGt (cy := cy) X S h_o1.1 h_o1.2.1
    refine va_put (D := D) (ci := 16) (v := .int (1 : Int32)) (ty := .int) (C := RX12) (T := TX12) (N := 34) hx hb hts (by decide +kernel) tyX12 tyX12_ok nmX12 hown hK hP hD hS k7 hk7 rfl 15 (by decide) (hts (.fieldLink RX12 94 "HobhouseModel" "thrown" "I") (by decide +kernel)) (fun _ h9 => h9) rfl (by decide +kernel) (rfl) (rfl) (Nat.le_of_ble_eq_true rfl) dX12_damage_14 (fun H locs hP2 hD2 hS => ?_)
    have e9 := wPuI (cy := cy) (j := 15) (v := (1 : Int32)) hD h_o1.1 h_o1.2.1 gk7 rfl
    obtain ⟨S8, hS8⟩ : ∃ z, S.sI o1 15 (1 : Int32) = z := ⟨_, rfl⟩
    have hP : va_P D vwCl (X ++ PL cy S8) H := by rw [← hS8, ← e9]; exact hP2
    have hD : va_D A (X ++ PL cy S8) := by rw [← hS8, ← e9]; exact hD2
    have xe9 : ext S S8 := by rw [← hS8]; exact ext.sI _ _ _ _
    have t10 : stp [(12, 15)] [] [] S S8 := by rw [← hS8]; exact t0.I 15 (1 : Int32) h_o1 (by decide) (trivial) (Or.inl (by decide))
    have k11 : (S8.I (S.f o1 0) 2).toInt = (S.I (S.f o1 0) 2).toInt := by rw [← hS8]; exact congrArg Int32.toInt (sI_I (by rintro ⟨e1, e2⟩; exact absurd e2 (by decide)))
    have k12 : (S8.I o1 15).toInt = (1 : Int32).toInt := by rw [← hS8, sI_eq]
    refine lv_aload_n hx hb dX12_damage_17 rfl (lv_at hl 0 rfl) ?_
    have l0 : (0 : Int32).toInt = 0 := rfl
    have l1 : (1 : Int32).toInt = 1 := rfl
    obtain ⟨k13, gk13, hk13⟩ := wGt (cy := cy) X S8 (xe9.A h_o1).1 (xe9.A h_o1).2.1
    refine va_get (D := D) (ci := 16) (v := .int (S8.I o1 15)) (C := RX12) (T := TX12) (N := 34) hx hb hts (by decide +kernel) hown hK hP k13 hk13 rfl 15 (by decide) (hts (.fieldLink RX12 94 "HobhouseModel" "thrown" "I") (by decide +kernel)) (fun _ h9 => h9) rfl dX12_damage_18 ?_
    refine lv_if_ne (tgt := 35) hx hb dX12_damage_21 (by decide) (fun c14 => ?_) (fun c14 => ?_)
    · have c14i : ¬ (S8.I o1 15).toInt = 0 := neq_v rfl rfl c14
      refine lv_lconst (v := 0) hx hb dX12_damage_35 (by decide) ?_
      refine W.widen (k := 0) (n := 0) (Nat.le_of_ble_eq_true rfl) (Nat.le_of_ble_eq_true rfl) ?_
      exact W.lret (v := (0 : Int64)) hx hb hr (fun t ht hW9 => ⟨⟨(0 : Int64), S8, rfl, t10, wd_end hP hK hD ht hW9.alike⟩, hS.F ht⟩) hS.2.2 dX12_damage_36 hlocks
    · have c14i : (S8.I o1 15).toInt = 0 := eq_v rfl rfl c14
      refine lv_aload_n hx hb dX12_damage_24 rfl (lv_at hl 0 rfl) ?_
      refine lv_iload_n hx hb dX12_damage_25 rfl (lv_at hl 1 rfl) ?_
      have hFc := free_all hD hS hA
      obtain ⟨k15, gk15, hk15⟩ := wGt (cy := cy) X S8 (xe9.A h_o1).1 (xe9.A h_o1).2.1
      refine va_callq (va_runV (As := [.int x1]) (rest := []) ⟨hx, hb, hml, hown, hts⟩ (c_X12_gearAt l (cy := cy) (X := X) (D := D) S8 _ o1 (xe9.A h_o1) x1 (t10.w) (by rw [f_of (xe9.F h_o1 (by decide) F1.1)]; omega)) (cwV 1 hts gX12_damage_X12_gearAt rfl rfl rfl hd_X12_gearAt ⟨Nat.le_of_ble_eq_true rfl, Nat.le_of_ble_eq_true rfl⟩) ⟨fun a U g mk q => ⟨q.1, q.2.1, q.2.2.1.calling, NW.same (u := U) (U := U.calling g mk a) rfl q.2.2.2⟩, va_recv hK hP (q := (RX12, TX12, 34)) (ci := 16) (q0 := k15) rfl hk15, fun U hU hW => ⟨rfl, by rw [hU], wd_pre hP hK hD hU hW, hN.warm hW⟩⟩ rfl rfl hl.1 rfl (lv_room (Nat.le_of_ble_eq_true rfl)) dX12_damage_26 ⟨(Nat.zero_le _), (Nat.zero_le _)⟩) hS (fun q _ h => hFc q h) hFc (fun r16 u t H1 locs ht hvm hw hB hz1 hk1 hS => ?_)
      obtain ⟨r16, rfl, o17⟩ := hw
      obtain ⟨hP, hD⟩ := wd_post hFc ht hB
      generalize H1 = H at hP hS ⊢
      refine W.eq (g2 := F0 m 29 ls [.ref r16]) rfl ?_
      obtain ⟨k18, gk18, hk18⟩ := wGt (cy := cy) X S8 o17.1 o17.2.1
      refine va_getN (D := D) (ci := 14) (v := .long (S8.J r16 22)) (C := RX10) (T := TX10) (N := 23) hx hb hts (by decide +kernel) hown hK hP k18 hk18 rfl 22 (by decide) (va_Nw.use rfl (hN (.fieldLinkNest RX12 455 "HobhouseModel$Gear" "damage" "J" "HobhouseModel") (by decide +kernel))) (fun _ h9 => h9) rfl dX12_damage_29 ?_
      refine lv_goto (tgt := 36) hx hb dX12_damage_32 (by decide) ?_
      refine W.widen (k := 0) (n := 0) (Nat.le_of_ble_eq_true rfl) (Nat.le_of_ble_eq_true rfl) ?_
      exact W.lret (v := S8.J r16 22) hx hb hr (fun t ht hW9 => ⟨⟨S8.J r16 22, S8, rfl, t10, wd_end hP hK hD ht hW9.alike⟩, hS.F ht⟩) hS.2.2 dX12_damage_36 hlocks
  · have c6i : ¬ (f_X12_isGear S o1 x1).toInt = 0 := neq_v rfl rfl c6
    refine lv_iconst (v := 0) hx hb dX12_damage_9 (by decide) ?_
    refine lv_goto (tgt := 14) hx hb dX12_damage_10 (by decide) ?_
    obtain ⟨k19, gk19, hk19⟩ := wGt (cy := cy) X S h_o1.1 h_o1.2.1
    refine va_put (D := D) (ci := 16) (v := .int (0 : Int32)) (ty := .int) (C := RX12) (T := TX12) (N := 34) hx hb hts (by decide +kernel) tyX12 tyX12_ok nmX12 hown hK hP hD hS k19 hk19 rfl 15 (by decide) (hts (.fieldLink RX12 94 "HobhouseModel" "thrown" "I") (by decide +kernel)) (fun _ h9 => h9) rfl (by decide +kernel) (rfl) (rfl) (Nat.le_of_ble_eq_true rfl) dX12_damage_14 (fun H locs hP2 hD2 hS => ?_)
    have e9 := wPuI (cy := cy) (j := 15) (v := (0 : Int32)) hD h_o1.1 h_o1.2.1 gk19 rfl
    obtain ⟨S20, hS20⟩ : ∃ z, S.sI o1 15 (0 : Int32) = z := ⟨_, rfl⟩
    have hP : va_P D vwCl (X ++ PL cy S20) H := by rw [← hS20, ← e9]; exact hP2
    have hD : va_D A (X ++ PL cy S20) := by rw [← hS20, ← e9]; exact hD2
    have xe21 : ext S S20 := by rw [← hS20]; exact ext.sI _ _ _ _
    have t22 : stp [(12, 15)] [] [] S S20 := by rw [← hS20]; exact t0.I 15 (0 : Int32) h_o1 (by decide) (trivial) (Or.inl (by decide))
    have k23 : (S20.I (S.f o1 0) 2).toInt = (S.I (S.f o1 0) 2).toInt := by rw [← hS20]; exact congrArg Int32.toInt (sI_I (by rintro ⟨e1, e2⟩; exact absurd e2 (by decide)))
    have k24 : (S20.I o1 15).toInt = (0 : Int32).toInt := by rw [← hS20, sI_eq]
    refine lv_aload_n hx hb dX12_damage_17 rfl (lv_at hl 0 rfl) ?_
    have l0 : (0 : Int32).toInt = 0 := rfl
    have l1 : (1 : Int32).toInt = 1 := rfl
    obtain ⟨k25, gk25, hk25⟩ := wGt (cy := cy) X S20 (xe21.A h_o1).1 (xe21.A h_o1).2.1
    refine va_get (D := D) (ci := 16) (v := .int (S20.I o1 15)) (C := RX12) (T := TX12) (N := 34) hx hb hts (by decide +kernel) hown hK hP k25 hk25 rfl 15 (by decide) (hts (.fieldLink RX12 94 "HobhouseModel" "thrown" "I") (by decide +kernel)) (fun _ h9 => h9) rfl dX12_damage_18 ?_
    refine lv_if_ne (tgt := 35) hx hb dX12_damage_21 (by decide) (fun c26 => ?_) (fun c26 => ?_)
    · have c26i : ¬ (S20.I o1 15).toInt = 0 := neq_v rfl rfl c26
      refine lv_lconst (v := 0) hx hb dX12_damage_35 (by decide) ?_
      refine W.widen (k := 0) (n := 0) (Nat.le_of_ble_eq_true rfl) (Nat.le_of_ble_eq_true rfl) ?_
      exact W.lret (v := (0 : Int64)) hx hb hr (fun t ht hW9 => ⟨⟨(0 : Int64), S20, rfl, t22, wd_end hP hK hD ht hW9.alike⟩, hS.F ht⟩) hS.2.2 dX12_damage_36 hlocks
    · have c26i : (S20.I o1 15).toInt = 0 := eq_v rfl rfl c26
      refine lv_aload_n hx hb dX12_damage_24 rfl (lv_at hl 0 rfl) ?_
      refine lv_iload_n hx hb dX12_damage_25 rfl (lv_at hl 1 rfl) ?_
      have hFc := free_all hD hS hA
      obtain ⟨k27, gk27, hk27⟩ := wGt (cy := cy) X S20 (xe21.A h_o1).1 (xe21.A h_o1).2.1
      refine va_callq (va_runV (As := [.int x1]) (rest := []) ⟨hx, hb, hml, hown, hts⟩ (c_X12_gearAt l (cy := cy) (X := X) (D := D) S20 _ o1 (xe21.A h_o1) x1 (t22.w) (by rw [f_of (xe21.F h_o1 (by decide) F1.1)]; omega)) (cwV 1 hts gX12_damage_X12_gearAt rfl rfl rfl hd_X12_gearAt ⟨Nat.le_of_ble_eq_true rfl, Nat.le_of_ble_eq_true rfl⟩) ⟨fun a U g mk q => ⟨q.1, q.2.1, q.2.2.1.calling, NW.same (u := U) (U := U.calling g mk a) rfl q.2.2.2⟩, va_recv hK hP (q := (RX12, TX12, 34)) (ci := 16) (q0 := k27) rfl hk27, fun U hU hW => ⟨rfl, by rw [hU], wd_pre hP hK hD hU hW, hN.warm hW⟩⟩ rfl rfl hl.1 rfl (lv_room (Nat.le_of_ble_eq_true rfl)) dX12_damage_26 ⟨(Nat.zero_le _), (Nat.zero_le _)⟩) hS (fun q _ h => hFc q h) hFc (fun r28 u t H1 locs ht hvm hw hB hz1 hk1 hS => ?_)
      obtain ⟨r28, rfl, o29⟩ := hw
      obtain ⟨hP, hD⟩ := wd_post hFc ht hB
      generalize H1 = H at hP hS ⊢
      refine W.eq (g2 := F0 m 29 ls [.ref r28]) rfl ?_
      obtain ⟨k30, gk30, hk30⟩ := wGt (cy := cy) X S20 o29.1 o29.2.1
      refine va_getN (D := D) (ci := 14) (v := .long (S20.J r28 22)) (C := RX10) (T := TX10) (N := 23) hx hb hts (by decide +kernel) hown hK hP k30 hk30 rfl 22 (by decide) (va_Nw.use rfl (hN (.fieldLinkNest RX12 455 "HobhouseModel$Gear" "damage" "J" "HobhouseModel") (by decide +kernel))) (fun _ h9 => h9) rfl dX12_damage_29 ?_
      refine lv_goto (tgt := 36) hx hb dX12_damage_32 (by decide) ?_
      refine W.widen (k := 0) (n := 0) (Nat.le_of_ble_eq_true rfl) (Nat.le_of_ble_eq_true rfl) ?_
      exact W.lret (v := S20.J r28 22) hx hb hr (fun t ht hW9 => ⟨⟨S20.J r28 22, S20, rfl, t22, wd_end hP hK hD ht hW9.alike⟩, hS.F ht⟩) hS.2.2 dX12_damage_36 hlocks
