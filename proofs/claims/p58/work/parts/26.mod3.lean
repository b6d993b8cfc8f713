theorem hi_X12_cut_X10 : ∀ w ∈ u_ws RX10 TX10 23, w ∈ wsX12_cut := by decide +kernel
theorem hi_X12_cut_X11 : ∀ w ∈ u_ws RX11 TX11 7, w ∈ wsX12_cut := by decide +kernel
theorem hi_X12_cut_X12 : ∀ w ∈ u_ws RX12 TX12 34, w ∈ wsX12_cut := by decide +kernel
theorem hd_X12_cut : yX12_cut.cls = RX12 ∧ yX12_cut.cls ≠ "java/lang/invoke/MethodHandle" ∧ yX12_cut.cls ≠ "java/lang/invoke/VarHandle" ∧ (parseMethodDescriptor yX12_cut.desc).map (fun d => d.parameters.length) = some 3 := by decide +kernel
set_option maxHeartbeats 4000000 in
set_option maxRecDepth 100000 in
theorem c_X12_cut (l : Launch) {D : va_G} {cy : Nat → ClassId} {X : va_W} (S : wPS) (sz : Nat) (o1 : Nat) (h_o1 : isA S o1 12) (x1 : Int32) (x2 : Int32) (x3 : Int32) (hW : wtB S [])  : Met l yX12_cut wsX12_cut ({ frames := 4, cells := 0, slots := 0, locals := 85 }) (va_Pc [.ref o1, .int x1, .int x2, .int x3] (fun U => U.heap.size = sz ∧ WD D cy X (fun _ => True) S U ∧ NW U)) (va_Qi (fun r (u : wPS) => stp [(10, 9), (10, 10), (10, 11), (10, 18), (11, 5), (12, 15), (30, 100)] [] [] S u) (fun u t => WD D cy X (va_A (X ++ PL cy S) sz) u t) (va_A (X ++ PL cy S) sz)) 0 0 (va_A (X ++ PL cy S) sz) := by
  refine Met.ofW (cc := cX12_cut) (maxL := 7) (ret := (some .int)) (by decide) rfl ?_
  intro p e s m args below meth c s₁ B hml hv
  obtain ⟨rfl, hsz, ⟨hP, hK, hD0⟩, hN⟩ := hv
  have hx := B.exec
  have hb := B.bytes
  have hr := B.returns
  have hts := atoms_spec (ws := wsX12_cut) B.pre
  have hown : s.vm.findClass RX12 = some m.cls := findClass_of_methodNamed (x := yX12_cut) B.named
  have hlocks := B.notSynchronized
  subst hsz
  have hD := hD0.self (sz := s.heap.size)
  generalize hAe : va_A (X ++ PL cy S) s.heap.size = A at hD ⊢
  have hA : ∀ q : Nat, s.heap.size ≤ q → A q := fun q h => by rw [← hAe]; exact Or.inr h
  have hS : va_S A s.heap s.heap [] := va_S.rf
  have hl := lv_entry ([.ref o1, .int x1, .int x2, .int x3]) (n := 7) (Nat.le_of_ble_eq_true rfl)
  rw [lg_entry_eq]
  generalize (lg_sl ([.ref o1, .int x1, .int x2, .int x3]) ++ List.replicate (7 - (lg_sl ([.ref o1, .int x1, .int x2, .int x3])).length) Slot.unset).toArray = ls at hl ⊢
  have hl : lv_has ls 7 [(0, .ref o1), (1, .int x1), (2, .int x2), (3, .int x3)] := hl
  have t0 : stp [(10, 9), (10, 10), (10, 11), (10, 18), (11, 5), (12, 15), (30, 100)] [] [] S S := stp.rf hW
  have F1 := ((hW.at h_o1 List.not_mem_nil).to_12 h_o1.2.1).F0
  have F2 := ((hW.at h_o1 List.not_mem_nil).to_12 h_o1.2.1).F1
  refine lv_aload_n hx hb dX12_cut_0 rfl (lv_at hl 0 rfl) ?_
  refine lv_iload_n hx hb dX12_cut_1 rfl (lv_at hl 1 rfl) ?_
  have hFc := free_all hD hS hA
  obtain ⟨k3, gk3, hk3⟩ := wGt (cy := cy) X S h_o1.1 h_o1.2.1
  refine va_calli (va_runV (As := [.int x1]) (rest := []) ⟨hx, hb, hml, hown, hts⟩ (c_X12_isGear l (cy := cy) (X := X) (D := D) S _ o1 h_o1 x1 (hW)) (cwV 1 hts gX12_cut_X12_isGear rfl rfl rfl hd_X12_isGear ⟨Nat.le_of_ble_eq_true rfl, Nat.le_of_ble_eq_true rfl⟩) (pV (va_recv hK hP (q := (RX12, TX12, 34)) (ci := 16) (q0 := k3) rfl hk3) hP hK hD hN) rfl rfl hl.1 rfl (lv_room (Nat.le_of_ble_eq_true rfl)) dX12_cut_2 ⟨(Nat.zero_le _), (Nat.zero_le _)⟩) hS (fun q _ h => hFc q h) hFc (fun r4 u t H1 locs ht hvm hw hB hz1 hk1 hS => ?_)
  have c5 := hw
  obtain ⟨hP, hD⟩ := wd_post hFc ht hB
  generalize H1 = H at hP hS ⊢
  obtain rfl : f_X12_isGear S o1 x1 = r4 := c5.symm
  have i6 : (f_X12_isGear S o1 x1).toInt = 0 ∨ (0 ≤ x1.toInt ∧ x1.toInt < (S.I (S.f o1 0) 2).toInt) := by have h9 := ig_rng x1 ((hW.at h_o1 List.not_mem_nil).to_12 h_o1.2.1) hW; rw [f_of F1.1] at h9; exact h9
  refine lv_if_eq (tgt := 16) hx hb dX12_cut_5 (by decide) (fun c7 => ?_) (fun c7 => ?_)
  · have c7i : (f_X12_isGear S o1 x1).toInt = 0 := eq_v rfl rfl c7
    refine lv_aload_n hx hb dX12_cut_16 rfl (lv_at hl 0 rfl) ?_
    refine lv_iconst (v := 1) hx hb dX12_cut_17 (by decide) ?_
    have l32_1 : (1 : Int32).toInt = 1 := rfl
    have hFc := free_all hD hS hA
    obtain ⟨k8, gk8, hk8⟩ := wGt (cy := cy) X S h_o1.1 h_o1.2.1
    refine va_calli (va_runV (As := [.int (1 : Int32)]) (rest := []) ⟨hx, hb, hml, hown, hts⟩ (c_X12_fails l (cy := cy) (X := X) (D := D) S _ o1 h_o1 (1 : Int32) (hW)) (cwV 1 hts gX12_cut_X12_fails rfl rfl rfl hd_X12_fails ⟨Nat.le_of_ble_eq_true rfl, Nat.le_of_ble_eq_true rfl⟩) (pV (va_recv hK hP (q := (RX12, TX12, 34)) (ci := 16) (q0 := k8) rfl hk8) hP hK hD hN) rfl rfl hl.1 rfl (lv_room (Nat.le_of_ble_eq_true rfl)) dX12_cut_18 ⟨(Nat.zero_le _), (Nat.zero_le _)⟩) hS (fun q _ h => hFc q h) hFc (fun r9 u t H1 locs ht hvm hw hB hz1 hk1 hS => ?_)
    obtain ⟨c10, w11⟩ := hw
    obtain ⟨hP, hD⟩ := wd_post hFc ht hB
    generalize H1 = H at hP hS ⊢
    obtain ⟨S12, rfl⟩ : ∃ z, z = u := ⟨_, rfl⟩
    have t13 : stp [(10, 9), (10, 10), (10, 11), (10, 18), (11, 5), (12, 15), (30, 100)] [] [] S S12 := t0.tr w11 (by decide) (fun _ q => absurd q List.not_mem_nil)
    have xe14 : ext S S12 := w11.x
    refine W.widen (k := 0) (n := 0) (Nat.le_of_ble_eq_true rfl) (Nat.le_of_ble_eq_true rfl) ?_
    exact W.iret (v := r9) hx hb hr (fun t ht hW9 => ⟨⟨r9, S12, rfl, t13, wd_end hP hK hD ht hW9.alike⟩, hS.F ht⟩) hS.2.2 dX12_cut_21 hlocks
  · have c7i : ¬ (f_X12_isGear S o1 x1).toInt = 0 := neq_v rfl rfl c7
    refine lv_aload_n hx hb dX12_cut_8 rfl (lv_at hl 0 rfl) ?_
    refine lv_iload_n hx hb dX12_cut_9 rfl (lv_at hl 2 rfl) ?_
    have hFc := free_all hD hS hA
    obtain ⟨k15, gk15, hk15⟩ := wGt (cy := cy) X S h_o1.1 h_o1.2.1
    refine va_calli (va_runV (As := [.int x2]) (rest := []) ⟨hx, hb, hml, hown, hts⟩ (c_X12_isHob l (cy := cy) (X := X) (D := D) S _ o1 h_o1 x2 (hW)) (cwV 1 hts gX12_cut_X12_isHob rfl rfl rfl hd_X12_isHob ⟨Nat.le_of_ble_eq_true rfl, Nat.le_of_ble_eq_true rfl⟩) (pV (va_recv hK hP (q := (RX12, TX12, 34)) (ci := 16) (q0 := k15) rfl hk15) hP hK hD hN) rfl rfl hl.1 rfl (lv_room (Nat.le_of_ble_eq_true rfl)) dX12_cut_10 ⟨(Nat.zero_le _), (Nat.zero_le _)⟩) hS (fun q _ h => hFc q h) hFc (fun r16 u t H1 locs ht hvm hw hB hz1 hk1 hS => ?_)
    have c17 := hw
    obtain ⟨hP, hD⟩ := wd_post hFc ht hB
    generalize H1 = H at hP hS ⊢
    obtain rfl : f_X12_isHob S o1 x2 = r16 := c17.symm
    have i18 : (f_X12_isHob S o1 x2).toInt = 0 ∨ (0 ≤ x2.toInt ∧ x2.toInt < (S.I (S.f o1 1) 2).toInt) := by have h9 := ih_rng x2 ((hW.at h_o1 List.not_mem_nil).to_12 h_o1.2.1) hW; rw [f_of F2.1] at h9; exact h9
    refine lv_if_ne (tgt := 22) hx hb dX12_cut_13 (by decide) (fun c19 => ?_) (fun c19 => ?_)
    · have c19i : ¬ (f_X12_isHob S o1 x2).toInt = 0 := neq_v rfl rfl c19
      refine lv_iload_n hx hb dX12_cut_22 rfl (lv_at hl 3 rfl) ?_
      refine lv_i2l hx hb dX12_cut_23 rfl ?_
      refine lv_lconst (v := 0) hx hb dX12_cut_24 (by decide) ?_
      refine lv_ldc2 (own := RX12) (v := 500) hx hb hown (hts (.constantLong RX12 133 (500)) (by decide +kernel)) dX12_cut_25 ?_
      have hFc := free_all hD hS hA
      refine va_calli (va_runS (As := [.long x3.toInt64, .long (0 : Int64), .long (500 : Int64)]) (rest := []) ⟨hx, hb, hml, hown, hts⟩ (c_X12_in l (cy := cy) (X := X) (D := D) S _ x3.toInt64 (0 : Int64) (500 : Int64)) (cwS 3 hts gX12_cut_X12_in rfl rfl rfl hd_X12_in ⟨Nat.le_of_ble_eq_true rfl, Nat.le_of_ble_eq_true rfl⟩) (pS hP hK hD hN) rfl rfl hl.1 rfl (lv_room (Nat.le_of_ble_eq_true rfl)) dX12_cut_28 ⟨(Nat.zero_le _), (Nat.zero_le _)⟩) hS (fun q _ h => hFc q h) hFc (fun r20 u t H1 locs ht hvm hw hB hz1 hk1 hS => ?_)
      have c21 := hw
      obtain ⟨hP, hD⟩ := wd_post hFc ht hB
      generalize H1 = H at hP hS ⊢
      obtain rfl : f_X12_in x3.toInt64 (0 : Int64) (500 : Int64) = r20 := c21.symm
      have i22 := i64_i x3
      have l64_0 : (0 : Int64).toInt = 0 := rfl
      have l64_500 : (500 : Int64).toInt = 500 := rfl
      have i23 := in_rng x3.toInt64 (0 : Int64) (500 : Int64)
      refine lv_if_ne (tgt := 40) hx hb dX12_cut_31 (by decide) (fun c24 => ?_) (fun c24 => ?_)
      · have c24i : ¬ (f_X12_in x3.toInt64 (0 : Int64) (500 : Int64)).toInt = 0 := neq_v rfl rfl c24
        refine lv_aload_n hx hb dX12_cut_40 rfl (lv_at hl 0 rfl) ?_
        refine lv_iload_n hx hb dX12_cut_41 rfl (lv_at hl 1 rfl) ?_
        have hFc := free_all hD hS hA
        obtain ⟨k25, gk25, hk25⟩ := wGt (cy := cy) X S h_o1.1 h_o1.2.1
        refine va_callq (va_runV (As := [.int x1]) (rest := []) ⟨hx, hb, hml, hown, hts⟩ (c_X12_gearAt l (cy := cy) (X := X) (D := D) S _ o1 h_o1 x1 (hW) (by rw [f_of F1.1]; omega)) (cwV 1 hts gX12_cut_X12_gearAt rfl rfl rfl hd_X12_gearAt ⟨Nat.le_of_ble_eq_true rfl, Nat.le_of_ble_eq_true rfl⟩) (pV (va_recv hK hP (q := (RX12, TX12, 34)) (ci := 16) (q0 := k25) rfl hk25) hP hK hD hN) rfl rfl hl.1 rfl (lv_room (Nat.le_of_ble_eq_true rfl)) dX12_cut_42 ⟨(Nat.zero_le _), (Nat.zero_le _)⟩) hS (fun q _ h => hFc q h) hFc (fun r26 u t H1 locs ht hvm hw hB hz1 hk1 hS => ?_)
        obtain ⟨r26, rfl, c27, o28⟩ := hw
        obtain ⟨hP, hD⟩ := wd_post hFc ht hB
        generalize H1 = H at hP hS ⊢
        refine W.eq (g2 := F0 m 45 ls [.ref r26]) rfl ?_
        refine lv_astore (lv' := [(4, .ref r26), (0, .ref o1), (1, .int x1), (2, .int x2), (3, .int x3)]) hx hb dX12_cut_45 hl (by decide) rfl (fun ls hl => ?_)
        refine lv_aload_n hx hb dX12_cut_47 rfl (lv_at hl 1 rfl) ?_
        obtain ⟨k29, gk29, hk29⟩ := wGt (cy := cy) X S h_o1.1 h_o1.2.1
        simp only [kE, F2.1] at hk29
        refine va_get (D := D) (ci := 16) (v := .ref (S.f o1 1)) (C := RX12) (T := TX12) (N := 34) hx hb hts hi_X12_cut_X12 hown hK hP k29 hk29 rfl 1 (by decide) (hts (.fieldLink RX12 28 "HobhouseModel" "hobs" "Ljava/util/ArrayList;") (by decide +kernel)) (fun _ h9 => h9) rfl dX12_cut_48 ?_
        refine lv_iload_n hx hb dX12_cut_51 rfl (lv_at hl 3 rfl) ?_
        have hFc := free_all hD hS hA
        obtain ⟨k30, gk30, hk30⟩ := wGt (cy := cy) X S F2.2.1.1 F2.2.1.2.1
        refine va_callq (va_runV (As := [.int x2]) (rest := []) ⟨hx, hb, hml, hown, hts⟩ (c_Jx4a65c_get_915e3 l (cy := cy) (X := X) (D := D) S _ (S.f o1 1) F2.2.1 x2 (hW) (by omega)) (cwV 1 hts gX12_cut_Jx4a65c_get_915e3 rfl rfl rfl hd_Jx4a65c_get_915e3 ⟨Nat.le_of_ble_eq_true rfl, Nat.le_of_ble_eq_true rfl⟩) (pV (va_recv hK hP (q := (RJx4a65c, TJx4a65c, 3)) (ci := 3) (q0 := k30) rfl hk30) hP hK hD hN) rfl rfl hl.1 rfl (lv_room (Nat.le_of_ble_eq_true rfl)) dX12_cut_52 ⟨(Nat.zero_le _), (Nat.zero_le _)⟩) hS (fun q _ h => hFc q h) hFc (fun r31 u t H1 locs ht hvm hw hB hz1 hk1 hS => ?_)
        obtain ⟨r31, rfl, c32, o33⟩ := hw
        obtain ⟨hP, hD⟩ := wd_post hFc ht hB
        generalize H1 = H at hP hS ⊢
        have o33k : isA S r31 11 := by rw [← show _ = 11 from F2.2.2]; exact o33
        refine W.eq (g2 := F0 m 55 ls [.ref r31]) rfl ?_
        obtain ⟨k34, gk34, hk34⟩ := wGt (cy := cy) X S o33k.1 o33k.2.1
        refine va_castS (nm := "HobhouseModel$Hob") hx hb hown (hts (.classLink RX12 322 "HobhouseModel$Hob") (by decide +kernel)) (hK.1 15 _ rfl).2 (va_recv hK hP (ci := 15) (q0 := k34) rfl hk34) dX12_cut_55 ?_
        refine lv_astore (lv' := [(5, .ref r31), (4, .ref r26), (0, .ref o1), (1, .int x1), (2, .int x2), (3, .int x3)]) hx hb dX12_cut_58 hl (by decide) rfl (fun ls hl => ?_)
        refine lv_aload hx hb dX12_cut_60 (lv_at hl 1 rfl) ?_
        obtain ⟨k35, gk35, hk35⟩ := wGt (cy := cy) X S o28.1 o28.2.1
        have i36 := ((hW.at o28 List.not_mem_nil).to_10 o28.2.1).R18
        refine va_getN (D := D) (ci := 14) (v := .int (S.I r26 18)) (C := RX10) (T := TX10) (N := 23) hx hb hts hi_X12_cut_X10 hown hK hP k35 hk35 rfl 18 (by decide) (va_Nw.use rfl (hN (.fieldLinkNest RX12 160 "HobhouseModel$Gear" "isCut" "Z" "HobhouseModel") (by decide +kernel))) (fun _ h9 => h9) rfl dX12_cut_62 ?_
        refine lv_if_ne (tgt := 78) hx hb dX12_cut_65 (by decide) (fun c37 => ?_) (fun c37 => ?_)
        · have c37i : ¬ (S.I r26 18).toInt = 0 := neq_v rfl rfl c37
          refine lv_aload_n hx hb dX12_cut_78 rfl (lv_at hl 2 rfl) ?_
          refine lv_iconst (v := 3) hx hb dX12_cut_79 (by decide) ?_
          have l32_3 : (3 : Int32).toInt = 3 := rfl
          have hFc := free_all hD hS hA
          obtain ⟨k38, gk38, hk38⟩ := wGt (cy := cy) X S h_o1.1 h_o1.2.1
          refine va_calli (va_runV (As := [.int (3 : Int32)]) (rest := []) ⟨hx, hb, hml, hown, hts⟩ (c_X12_fails l (cy := cy) (X := X) (D := D) S _ o1 h_o1 (3 : Int32) (hW)) (cwV 1 hts gX12_cut_X12_fails rfl rfl rfl hd_X12_fails ⟨Nat.le_of_ble_eq_true rfl, Nat.le_of_ble_eq_true rfl⟩) (pV (va_recv hK hP (q := (RX12, TX12, 34)) (ci := 16) (q0 := k38) rfl hk38) hP hK hD hN) rfl rfl hl.1 rfl (lv_room (Nat.le_of_ble_eq_true rfl)) dX12_cut_80 ⟨(Nat.zero_le _), (Nat.zero_le _)⟩) hS (fun q _ h => hFc q h) hFc (fun r39 u t H1 locs ht hvm hw hB hz1 hk1 hS => ?_)
          obtain ⟨c40, w41⟩ := hw
          obtain ⟨hP, hD⟩ := wd_post hFc ht hB
          generalize H1 = H at hP hS ⊢
          obtain ⟨S42, rfl⟩ : ∃ z, z = u := ⟨_, rfl⟩
          have t43 : stp [(10, 9), (10, 10), (10, 11), (10, 18), (11, 5), (12, 15), (30, 100)] [] [] S S42 := t0.tr w41 (by decide) (fun _ q => absurd q List.not_mem_nil)
          have xe44 : ext S S42 := w41.x
          refine W.widen (k := 0) (n := 0) (Nat.le_of_ble_eq_true rfl) (Nat.le_of_ble_eq_true rfl) ?_
          exact W.iret (v := r39) hx hb hr (fun t ht hW9 => ⟨⟨r39, S42, rfl, t43, wd_end hP hK hD ht hW9.alike⟩, hS.F ht⟩) hS.2.2 dX12_cut_83 hlocks
        · have c37i : (S.I r26 18).toInt = 0 := eq_v rfl rfl c37
          refine lv_aload hx hb dX12_cut_68 (lv_at hl 0 rfl) ?_
          refine lv_aload hx hb dX12_cut_70 (lv_at hl 1 rfl) ?_
          have hFc := free_all hD hS hA
          obtain ⟨k45, gk45, hk45⟩ := wGt (cy := cy) X S o33k.1 o33k.2.1
          refine va_calli (va_runV (As := [.ref r26]) (rest := []) ⟨hx, hb, hml, hown, hts⟩ (c_X11_canCut l (cy := cy) (X := X) (D := D) S _ r31 o33k r26 o28 (hW)) (cwV 1 hts gX12_cut_X11_canCut rfl rfl rfl hd_X11_canCut ⟨Nat.le_of_ble_eq_true rfl, Nat.le_of_ble_eq_true rfl⟩) (pV (va_recv hK hP (q := (RX11, TX11, 7)) (ci := 15) (q0 := k45) rfl hk45) hP hK hD hN) rfl rfl hl.1 rfl (lv_room (Nat.le_of_ble_eq_true rfl)) dX12_cut_72 ⟨(Nat.zero_le _), (Nat.zero_le _)⟩) hS (fun q _ h => hFc q h) hFc (fun r46 u t H1 locs ht hvm hw hB hz1 hk1 hS => ?_)
          have y47 := hw
          obtain ⟨hP, hD⟩ := wd_post hFc ht hB
          generalize H1 = H at hP hS ⊢
          refine lv_if_ne (tgt := 84) hx hb dX12_cut_75 (by decide) (fun c48 => ?_) (fun c48 => ?_)
          · have c48i : ¬ r46.toInt = 0 := neq_v rfl rfl c48
            refine lv_aload hx hb dX12_cut_84 (lv_at hl 0 rfl) ?_
            obtain ⟨k49, gk49, hk49⟩ := wGt (cy := cy) X S o33k.1 o33k.2.1
            have i50 := ((hW.at o33k List.not_mem_nil).to_11 o33k.2.1).R5
            refine va_getN (D := D) (ci := 15) (v := .int (S.I r31 5)) (C := RX11) (T := TX11) (N := 7) hx hb hts hi_X12_cut_X11 hown hK hP k49 hk49 rfl 5 (by decide) (va_Nw.use rfl (hN (.fieldLinkNest RX12 347 "HobhouseModel$Hob" "next" "I" "HobhouseModel") (by decide +kernel))) (fun _ h9 => h9) rfl dX12_cut_86 ?_
            refine lv_istore (lv' := [(6, .int (S.I r31 5)), (5, .ref r31), (4, .ref r26), (0, .ref o1), (1, .int x1), (2, .int x2), (3, .int x3)]) hx hb dX12_cut_89 hl (by decide) rfl (fun ls hl => ?_)
            refine lv_aload hx hb dX12_cut_91 (lv_at hl 1 rfl) ?_
            have F51 := ((hW.at o33k List.not_mem_nil).to_11 o33k.2.1).F2
            obtain ⟨k52, gk52, hk52⟩ := wGt (cy := cy) X S o33k.1 o33k.2.1
            simp only [kE, F51.1] at hk52
            refine va_getN (D := D) (ci := 15) (v := .ref (S.f r31 2)) (C := RX11) (T := TX11) (N := 7) hx hb hts hi_X12_cut_X11 hown hK hP k52 hk52 rfl 2 (by decide) (va_Nw.use rfl (hN (.fieldLinkNest RX12 350 "HobhouseModel$Hob" "wear" "[I" "HobhouseModel") (by decide +kernel))) (fun _ h9 => h9) rfl dX12_cut_93 ?_
            refine lv_iload hx hb dX12_cut_96 (lv_at hl 0 rfl) ?_
            refine lv_dup2_11 hx hb dX12_cut_98 rfl rfl ?_
            obtain ⟨k53, gk53, hk53⟩ := wGt (cy := cy) X S F51.2.1.1 F51.2.1.2.1
            refine va_iald hx hb hK hP k53 2 hk53 rfl (inb (m := 20) F51.2.2 (by omega) (by omega)) dX12_cut_99 ?_
            refine lv_aload hx hb dX12_cut_100 (lv_at hl 2 rfl) ?_
            obtain ⟨k54, gk54, hk54⟩ := wGt (cy := cy) X S o28.1 o28.2.1
            have i55 := ((hW.at o28 List.not_mem_nil).to_10 o28.2.1).R1
            refine va_getN (D := D) (ci := 14) (v := .int (S.I r26 1)) (C := RX10) (T := TX10) (N := 23) hx hb hts hi_X12_cut_X10 hown hK hP k54 hk54 rfl 1 (by decide) (va_Nw.use rfl (hN (.fieldLinkNest RX12 332 "HobhouseModel$Gear" "teeth" "I" "HobhouseModel") (by decide +kernel))) (fun _ h9 => h9) rfl dX12_cut_102 ?_
            refine lv_aload hx hb dX12_cut_105 (lv_at hl 1 rfl) ?_
            obtain ⟨k56, gk56, hk56⟩ := wGt (cy := cy) X S o33k.1 o33k.2.1
            have i57 := ((hW.at o33k List.not_mem_nil).to_11 o33k.2.1).R1
            refine va_getN (D := D) (ci := 15) (v := .int (S.I r31 1)) (C := RX11) (T := TX11) (N := 7) hx hb hts hi_X12_cut_X11 hown hK hP k56 hk56 rfl 1 (by decide) (va_Nw.use rfl (hN (.fieldLinkNest RX12 329 "HobhouseModel$Hob" "starts" "I" "HobhouseModel") (by decide +kernel))) (fun _ h9 => h9) rfl dX12_cut_107 ?_
            refine lv_idiv hx hb dX12_cut_110 (nz_i (by omega)) ?_
            refine lv_iadd hx hb dX12_cut_111 ?_
            obtain ⟨k58, gk58, hk58⟩ := wGt (cy := cy) X S F51.2.1.1 F51.2.1.2.1
            refine va_iast hx hb hK hP hD hS k58 2 hk58 rfl (inb (m := 20) F51.2.2 (by omega) (by omega)) dX12_cut_112 (fun H locs hP2 hD2 hS => ?_)
            have e9 := wPui (cy := cy) (f := (upd (S.i (S.f r31 2)) (S.I r31 5).toNatClampNeg ((S.i (S.f r31 2) (S.I r31 5).toNatClampNeg) + ((S.I r26 1) / (S.I r31 1))))) hD F51.2.1.1 F51.2.1.2.1 gk58 rfl
            obtain ⟨S59, hS59⟩ : ∃ z, S.si (S.f r31 2) (upd (S.i (S.f r31 2)) (S.I r31 5).toNatClampNeg ((S.i (S.f r31 2) (S.I r31 5).toNatClampNeg) + ((S.I r26 1) / (S.I r31 1)))) = z := ⟨_, rfl⟩
            have hP : va_P D vwCl (X ++ PL cy S59) H := by rw [← hS59, ← e9]; exact hP2
            have hD : va_D A (X ++ PL cy S59) := by rw [← hS59, ← e9]; exact hD2
            have xe60 : ext S S59 := by rw [← hS59]; exact ext.si _ _ _
            have t61 : stp [(10, 9), (10, 10), (10, 11), (10, 18), (11, 5), (12, 15), (30, 100)] [] [] S S59 := by rw [← hS59]; exact t0.i (upd (S.i (S.f r31 2)) (S.I r31 5).toNatClampNeg ((S.i (S.f r31 2) (S.I r31 5).toNatClampNeg) + ((S.I r26 1) / (S.I r31 1)))) F51.2.1 (by decide)
            refine lv_aload hx hb dX12_cut_113 (lv_at hl 1 rfl) ?_
            refine lv_iload hx hb dX12_cut_115 (lv_at hl 0 rfl) ?_
            refine lv_iconst (v := 1) hx hb dX12_cut_117 (by decide) ?_
            refine lv_iadd hx hb dX12_cut_118 ?_
            refine lv_aload hx hb dX12_cut_119 (lv_at hl 1 rfl) ?_
            obtain ⟨k62, gk62, hk62⟩ := wGt (cy := cy) X S59 (xe60.A o33k).1 (xe60.A o33k).2.1
            have i63 := ((t61.w.at (xe60.A o33k) List.not_mem_nil).to_11 (xe60.A o33k).2.1).R3
            refine va_getN (D := D) (ci := 15) (v := .int (S59.I r31 3)) (C := RX11) (T := TX11) (N := 7) hx hb hts hi_X12_cut_X11 hown hK hP k62 hk62 rfl 3 (by decide) (va_Nw.use rfl (hN (.fieldLinkNest RX12 353 "HobhouseModel$Hob" "places" "I" "HobhouseModel") (by decide +kernel))) (fun _ h9 => h9) rfl dX12_cut_121 ?_
            refine lv_irem hx hb dX12_cut_124 (nz_i (by omega)) ?_
            have l32_1 : (1 : Int32).toInt = 1 := rfl
            have i64 : ((S.I r31 5) + (1 : Int32)).toInt = (S.I r31 5).toInt + 1 := t_addr (n := 1) rfl (by omega)
            have i65 := rem_rng (x := ((S.I r31 5) + (1 : Int32))) (y := (S59.I r31 3)) (by omega) (by omega)
            obtain ⟨k66, gk66, hk66⟩ := wGt (cy := cy) X S59 (xe60.A o33k).1 (xe60.A o33k).2.1
            refine va_putN (D := D) (ci := 15) (v := .int (((S.I r31 5) + (1 : Int32)) - ((S.I r31 5) + (1 : Int32)) / (S59.I r31 3) * (S59.I r31 3))) (ty := .int) (C := RX11) (T := TX11) (N := 7) hx hb hts hi_X12_cut_X11 tyX11 tyX11_ok nmX11 hown hK hP hD hS k66 hk66 rfl 5 (by decide) (va_Nw.use rfl (hN (.fieldLinkNest RX12 347 "HobhouseModel$Hob" "next" "I" "HobhouseModel") (by decide +kernel))) (fun _ h9 => h9) rfl (by decide +kernel) (rfl) (rfl) (Nat.le_of_ble_eq_true rfl) dX12_cut_125 (fun H locs hP2 hD2 hS => ?_)
            have e9 := wPuI (cy := cy) (j := 5) (v := (((S.I r31 5) + (1 : Int32)) - ((S.I r31 5) + (1 : Int32)) / (S59.I r31 3) * (S59.I r31 3))) hD (xe60.A o33k).1 (xe60.A o33k).2.1 gk66 rfl
            obtain ⟨S67, hS67⟩ : ∃ z, S59.sI r31 5 (((S.I r31 5) + (1 : Int32)) - ((S.I r31 5) + (1 : Int32)) / (S59.I r31 3) * (S59.I r31 3)) = z := ⟨_, rfl⟩
            have hP : va_P D vwCl (X ++ PL cy S67) H := by rw [← hS67, ← e9]; exact hP2
            have hD : va_D A (X ++ PL cy S67) := by rw [← hS67, ← e9]; exact hD2
            have xe68 : ext S59 S67 := by rw [← hS67]; exact ext.sI _ _ _ _
            have t69 : stp [(10, 9), (10, 10), (10, 11), (10, 18), (11, 5), (12, 15), (30, 100)] [] [] S S67 := by rw [← hS67]; exact t61.I 5 (((S.I r31 5) + (1 : Int32)) - ((S.I r31 5) + (1 : Int32)) / (S59.I r31 3) * (S59.I r31 3)) (xe60.A o33k) (by decide) (⟨by omega, by omega⟩) (Or.inl (by decide))
            refine lv_aload hx hb dX12_cut_128 (lv_at hl 2 rfl) ?_
            refine lv_iconst (v := 1) hx hb dX12_cut_130 (by decide) ?_
            obtain ⟨k70, gk70, hk70⟩ := wGt (cy := cy) X S67 ((xe60.tr xe68).A o28).1 ((xe60.tr xe68).A o28).2.1
            refine va_putN (D := D) (ci := 14) (v := .int (1 : Int32)) (ty := .boolean) (C := RX10) (T := TX10) (N := 23) hx hb hts hi_X12_cut_X10 tyX10 tyX10_ok nmX10 hown hK hP hD hS k70 hk70 rfl 18 (by decide) (va_Nw.use rfl (hN (.fieldLinkNest RX12 160 "HobhouseModel$Gear" "isCut" "Z" "HobhouseModel") (by decide +kernel))) (fun _ h9 => h9) rfl (by decide +kernel) (by rfl) (by rfl) (Nat.le_of_ble_eq_true rfl) dX12_cut_131 (fun H locs hP2 hD2 hS => ?_)
            have e9 := wPuI (cy := cy) (j := 18) (v := (1 : Int32)) hD ((xe60.tr xe68).A o28).1 ((xe60.tr xe68).A o28).2.1 gk70 rfl
            obtain ⟨S71, hS71⟩ : ∃ z, S67.sI r26 18 (1 : Int32) = z := ⟨_, rfl⟩
            have hP : va_P D vwCl (X ++ PL cy S71) H := by rw [← hS71, ← e9]; exact hP2
            have hD : va_D A (X ++ PL cy S71) := by rw [← hS71, ← e9]; exact hD2
            have xe72 : ext S67 S71 := by rw [← hS71]; exact ext.sI _ _ _ _
            have t73 : stp [(10, 9), (10, 10), (10, 11), (10, 18), (11, 5), (12, 15), (30, 100)] [] [] S S71 := by rw [← hS71]; exact t69.I 18 (1 : Int32) ((xe60.tr xe68).A o28) (by decide) (⟨by decide, by decide⟩) (Or.inl (by decide))
            refine lv_aload hx hb dX12_cut_134 (lv_at hl 2 rfl) ?_
            refine lv_iload_n hx hb dX12_cut_136 rfl (lv_at hl 6 rfl) ?_
            obtain ⟨k74, gk74, hk74⟩ := wGt (cy := cy) X S71 (xe72.A ((xe60.tr xe68).A o28)).1 (xe72.A ((xe60.tr xe68).A o28)).2.1
            refine va_putN (D := D) (ci := 14) (v := .int x3) (ty := .int) (C := RX10) (T := TX10) (N := 23) hx hb hts hi_X12_cut_X10 tyX10 tyX10_ok nmX10 hown hK hP hD hS k74 hk74 rfl 9 (by decide) (va_Nw.use rfl (hN (.fieldLinkNest RX12 356 "HobhouseModel$Gear" "stock" "I" "HobhouseModel") (by decide +kernel))) (fun _ h9 => h9) rfl (by decide +kernel) (rfl) (rfl) (Nat.le_of_ble_eq_true rfl) dX12_cut_137 (fun H locs hP2 hD2 hS => ?_)
            have e9 := wPuI (cy := cy) (j := 9) (v := x3) hD (xe72.A ((xe60.tr xe68).A o28)).1 (xe72.A ((xe60.tr xe68).A o28)).2.1 gk74 rfl
            obtain ⟨S75, hS75⟩ : ∃ z, S71.sI r26 9 x3 = z := ⟨_, rfl⟩
            have hP : va_P D vwCl (X ++ PL cy S75) H := by rw [← hS75, ← e9]; exact hP2
            have hD : va_D A (X ++ PL cy S75) := by rw [← hS75, ← e9]; exact hD2
            have xe76 : ext S71 S75 := by rw [← hS75]; exact ext.sI _ _ _ _
            have t77 : stp [(10, 9), (10, 10), (10, 11), (10, 18), (11, 5), (12, 15), (30, 100)] [] [] S S75 := by rw [← hS75]; exact t73.I 9 x3 (xe72.A ((xe60.tr xe68).A o28)) (by decide) (trivial) (Or.inl (by decide))
            refine lv_aload hx hb dX12_cut_140 (lv_at hl 2 rfl) ?_
            refine lv_aload hx hb dX12_cut_142 (lv_at hl 1 rfl) ?_
            obtain ⟨k78, gk78, hk78⟩ := wGt (cy := cy) X S75 ((xe68.tr (xe72.tr xe76)).A (xe60.A o33k)).1 ((xe68.tr (xe72.tr xe76)).A (xe60.A o33k)).2.1
            refine va_getN (D := D) (ci := 15) (v := .int (S75.I r31 6)) (C := RX11) (T := TX11) (N := 7) hx hb hts hi_X12_cut_X11 hown hK hP k78 hk78 rfl 6 (by decide) (va_Nw.use rfl (hN (.fieldLinkNest RX12 359 "HobhouseModel$Hob" "error" "I" "HobhouseModel") (by decide +kernel))) (fun _ h9 => h9) rfl dX12_cut_144 ?_
            obtain ⟨k79, gk79, hk79⟩ := wGt (cy := cy) X S75 (xe76.A (xe72.A ((xe60.tr xe68).A o28))).1 (xe76.A (xe72.A ((xe60.tr xe68).A o28))).2.1
            refine va_putN (D := D) (ci := 14) (v := .int (S75.I r31 6)) (ty := .int) (C := RX10) (T := TX10) (N := 23) hx hb hts hi_X12_cut_X10 tyX10 tyX10_ok nmX10 hown hK hP hD hS k79 hk79 rfl 10 (by decide) (va_Nw.use rfl (hN (.fieldLinkNest RX12 362 "HobhouseModel$Gear" "profile" "I" "HobhouseModel") (by decide +kernel))) (fun _ h9 => h9) rfl (by decide +kernel) (rfl) (rfl) (Nat.le_of_ble_eq_true rfl) dX12_cut_147 (fun H locs hP2 hD2 hS => ?_)
            have e9 := wPuI (cy := cy) (j := 10) (v := (S75.I r31 6)) hD (xe76.A (xe72.A ((xe60.tr xe68).A o28))).1 (xe76.A (xe72.A ((xe60.tr xe68).A o28))).2.1 gk79 rfl
            obtain ⟨S80, hS80⟩ : ∃ z, S75.sI r26 10 (S75.I r31 6) = z := ⟨_, rfl⟩
            have hP : va_P D vwCl (X ++ PL cy S80) H := by rw [← hS80, ← e9]; exact hP2
            have hD : va_D A (X ++ PL cy S80) := by rw [← hS80, ← e9]; exact hD2
            have xe81 : ext S75 S80 := by rw [← hS80]; exact ext.sI _ _ _ _
            have t82 : stp [(10, 9), (10, 10), (10, 11), (10, 18), (11, 5), (12, 15), (30, 100)] [] [] S S80 := by rw [← hS80]; exact t77.I 10 (S75.I r31 6) (xe76.A (xe72.A ((xe60.tr xe68).A o28))) (by decide) (trivial) (Or.inl (by decide))
            refine lv_aload hx hb dX12_cut_150 (lv_at hl 2 rfl) ?_
            refine lv_aload hx hb dX12_cut_152 (lv_at hl 1 rfl) ?_
            obtain ⟨k83, gk83, hk83⟩ := wGt (cy := cy) X S80 (xe81.A ((xe68.tr (xe72.tr xe76)).A (xe60.A o33k))).1 (xe81.A ((xe68.tr (xe72.tr xe76)).A (xe60.A o33k))).2.1
            have i84 := ((t82.w.at (xe81.A ((xe68.tr (xe72.tr xe76)).A (xe60.A o33k))) List.not_mem_nil).to_11 (xe81.A ((xe68.tr (xe72.tr xe76)).A (xe60.A o33k))).2.1).R1
            refine va_getN (D := D) (ci := 15) (v := .int (S80.I r31 1)) (C := RX11) (T := TX11) (N := 7) hx hb hts hi_X12_cut_X11 hown hK hP k83 hk83 rfl 1 (by decide) (va_Nw.use rfl (hN (.fieldLinkNest RX12 329 "HobhouseModel$Hob" "starts" "I" "HobhouseModel") (by decide +kernel))) (fun _ h9 => h9) rfl dX12_cut_154 ?_
            obtain ⟨k85, gk85, hk85⟩ := wGt (cy := cy) X S80 (xe81.A (xe76.A (xe72.A ((xe60.tr xe68).A o28)))).1 (xe81.A (xe76.A (xe72.A ((xe60.tr xe68).A o28)))).2.1
            refine va_putN (D := D) (ci := 14) (v := .int (S80.I r31 1)) (ty := .int) (C := RX10) (T := TX10) (N := 23) hx hb hts hi_X12_cut_X10 tyX10 tyX10_ok nmX10 hown hK hP hD hS k85 hk85 rfl 11 (by decide) (va_Nw.use rfl (hN (.fieldLinkNest RX12 365 "HobhouseModel$Gear" "starts" "I" "HobhouseModel") (by decide +kernel))) (fun _ h9 => h9) rfl (by decide +kernel) (rfl) (rfl) (Nat.le_of_ble_eq_true rfl) dX12_cut_157 (fun H locs hP2 hD2 hS => ?_)
            have e9 := wPuI (cy := cy) (j := 11) (v := (S80.I r31 1)) hD (xe81.A (xe76.A (xe72.A ((xe60.tr xe68).A o28)))).1 (xe81.A (xe76.A (xe72.A ((xe60.tr xe68).A o28)))).2.1 gk85 rfl
            obtain ⟨S86, hS86⟩ : ∃ z, S80.sI r26 11 (S80.I r31 1) = z := ⟨_, rfl⟩
            have hP : va_P D vwCl (X ++ PL cy S86) H := by rw [← hS86, ← e9]; exact hP2
            have hD : va_D A (X ++ PL cy S86) := by rw [← hS86, ← e9]; exact hD2
            have xe87 : ext S80 S86 := by rw [← hS86]; exact ext.sI _ _ _ _
            have t88 : stp [(10, 9), (10, 10), (10, 11), (10, 18), (11, 5), (12, 15), (30, 100)] [] [] S S86 := by rw [← hS86]; exact t82.I 11 (S80.I r31 1) (xe81.A (xe76.A (xe72.A ((xe60.tr xe68).A o28)))) (by decide) (trivial) (Or.inl (by decide))
            refine lv_aload_n hx hb dX12_cut_160 rfl (lv_at hl 3 rfl) ?_
            refine lv_iload hx hb dX12_cut_161 (lv_at hl 0 rfl) ?_
            have hFc := free_all hD hS hA
            have o90 : isA S86 o1 12 := ((xe60.tr (xe68.tr (xe72.tr (xe76.tr (xe81.tr xe87))))).A h_o1)
            obtain ⟨k89, gk89, hk89⟩ := wGt (cy := cy) X S86 o90.1 o90.2.1
            refine va_calli (va_runV (As := [.int (S.I r31 5)]) (rest := []) ⟨hx, hb, hml, hown, hts⟩ (c_X12_answer l (cy := cy) (X := X) (D := D) S86 _ o1 ((xe60.tr (xe68.tr (xe72.tr (xe76.tr (xe81.tr xe87))))).A h_o1) (S.I r31 5) (t88.w)) (cwV 1 hts gX12_cut_X12_answer rfl rfl rfl hd_X12_answer ⟨Nat.le_of_ble_eq_true rfl, Nat.le_of_ble_eq_true rfl⟩) (pV (va_recv hK hP (q := (RX12, TX12, 34)) (ci := 16) (q0 := k89) rfl hk89) hP hK hD hN) rfl rfl hl.1 rfl (lv_room (Nat.le_of_ble_eq_true rfl)) dX12_cut_163 ⟨(Nat.zero_le _), (Nat.zero_le _)⟩) hS (fun q _ h => hFc q h) hFc (fun r91 u t H1 locs ht hvm hw hB hz1 hk1 hS => ?_)
            obtain ⟨c92, w93⟩ := hw
            obtain ⟨hP, hD⟩ := wd_post hFc ht hB
            generalize H1 = H at hP hS ⊢
            obtain ⟨S94, rfl⟩ : ∃ z, z = u := ⟨_, rfl⟩
            have t95 : stp [(10, 9), (10, 10), (10, 11), (10, 18), (11, 5), (12, 15), (30, 100)] [] [] S S94 := t88.tr w93 (by decide) (fun _ q => absurd q List.not_mem_nil)
            have xe96 : ext S86 S94 := w93.x
            refine W.widen (k := 0) (n := 0) (Nat.le_of_ble_eq_true rfl) (Nat.le_of_ble_eq_true rfl) ?_
            exact W.iret (v := r91) hx hb hr (fun t ht hW9 => ⟨⟨r91, S94, rfl, t95, wd_end hP hK hD ht hW9.alike⟩, hS.F ht⟩) hS.2.2 dX12_cut_166 hlocks
          · have c48i : r46.toInt = 0 := eq_v rfl rfl c48
            refine lv_aload_n hx hb dX12_cut_78 rfl (lv_at hl 2 rfl) ?_
            refine lv_iconst (v := 3) hx hb dX12_cut_79 (by decide) ?_
            have l32_3 : (3 : Int32).toInt = 3 := rfl
            have hFc := free_all hD hS hA
            obtain ⟨k97, gk97, hk97⟩ := wGt (cy := cy) X S h_o1.1 h_o1.2.1
            refine va_calli (va_runV (As := [.int (3 : Int32)]) (rest := []) ⟨hx, hb, hml, hown, hts⟩ (c_X12_fails l (cy := cy) (X := X) (D := D) S _ o1 h_o1 (3 : Int32) (hW)) (cwV 1 hts gX12_cut_X12_fails rfl rfl rfl hd_X12_fails ⟨Nat.le_of_ble_eq_true rfl, Nat.le_of_ble_eq_true rfl⟩) (pV (va_recv hK hP (q := (RX12, TX12, 34)) (ci := 16) (q0 := k97) rfl hk97) hP hK hD hN) rfl rfl hl.1 rfl (lv_room (Nat.le_of_ble_eq_true rfl)) dX12_cut_80 ⟨(Nat.zero_le _), (Nat.zero_le _)⟩) hS (fun q _ h => hFc q h) hFc (fun r98 u t H1 locs ht hvm hw hB hz1 hk1 hS => ?_)
            obtain ⟨c99, w100⟩ := hw
            obtain ⟨hP, hD⟩ := wd_post hFc ht hB
            generalize H1 = H at hP hS ⊢
            obtain ⟨S101, rfl⟩ : ∃ z, z = u := ⟨_, rfl⟩
            have t102 : stp [(10, 9), (10, 10), (10, 11), (10, 18), (11, 5), (12, 15), (30, 100)] [] [] S S101 := t0.tr w100 (by decide) (fun _ q => absurd q List.not_mem_nil)
            have xe103 : ext S S101 := w100.x
            refine W.widen (k := 0) (n := 0) (Nat.le_of_ble_eq_true rfl) (Nat.le_of_ble_eq_true rfl) ?_
            exact W.iret (v := r98) hx hb hr (fun t ht hW9 => ⟨⟨r98, S101, rfl, t102, wd_end hP hK hD ht hW9.alike⟩, hS.F ht⟩) hS.2.2 dX12_cut_83 hlocks
      · have c24i : (f_X12_in x3.toInt64 (0 : Int64) (500 : Int64)).toInt = 0 := eq_v rfl rfl c24
        refine lv_aload_n hx hb dX12_cut_34 rfl (lv_at hl 0 rfl) ?_
        refine lv_iconst (v := 2) hx hb dX12_cut_35 (by decide) ?_
        have l32_2 : (2 : Int32).toInt = 2 := rfl
        have hFc := free_all hD hS hA
        obtain ⟨k104, gk104, hk104⟩ := wGt (cy := cy) X S h_o1.1 h_o1.2.1
        refine va_calli (va_runV (As := [.int (2 : Int32)]) (rest := []) ⟨hx, hb, hml, hown, hts⟩ (c_X12_fails l (cy := cy) (X := X) (D := D) S _ o1 h_o1 (2 : Int32) (hW)) (cwV 1 hts gX12_cut_X12_fails rfl rfl rfl hd_X12_fails ⟨Nat.le_of_ble_eq_true rfl, Nat.le_of_ble_eq_true rfl⟩) (pV (va_recv hK hP (q := (RX12, TX12, 34)) (ci := 16) (q0 := k104) rfl hk104) hP hK hD hN) rfl rfl hl.1 rfl (lv_room (Nat.le_of_ble_eq_true rfl)) dX12_cut_36 ⟨(Nat.zero_le _), (Nat.zero_le _)⟩) hS (fun q _ h => hFc q h) hFc (fun r105 u t H1 locs ht hvm hw hB hz1 hk1 hS => ?_)
        obtain ⟨c106, w107⟩ := hw
        obtain ⟨hP, hD⟩ := wd_post hFc ht hB
        generalize H1 = H at hP hS ⊢
        obtain ⟨S108, rfl⟩ : ∃ z, z = u := ⟨_, rfl⟩
        have t109 : stp [(10, 9), (10, 10), (10, 11), (10, 18), (11, 5), (12, 15), (30, 100)] [] [] S S108 := t0.tr w107 (by decide) (fun _ q => absurd q List.not_mem_nil)
        have xe110 : ext S S108 := w107.x
        refine W.widen (k := 0) (n := 0) (Nat.le_of_ble_eq_true rfl) (Nat.le_of_ble_eq_true rfl) ?_
        exact W.iret (v := r105) hx hb hr (fun t ht hW9 => ⟨⟨r105, S108, rfl, t109, wd_end hP hK hD ht hW9.alike⟩, hS.F ht⟩) hS.2.2 dX12_cut_39 hlocks
    · have c19i : (f_X12_isHob S o1 x2).toInt = 0 := eq_v rfl rfl c19
      refine lv_aload_n hx hb dX12_cut_16 rfl (lv_at hl 0 rfl) ?_
      refine lv_iconst (v := 1) hx hb dX12_cut_17 (by decide) ?_
      have l32_1 : (1 : Int32).toInt = 1 := rfl
      have hFc := free_all hD hS hA
      obtain ⟨k111, gk111, hk111⟩ := wGt (cy := cy) X S h_o1.1 h_o1.2.1
      refine va_calli (va_runV (As := [.int (1 : Int32)]) (rest := []) ⟨hx, hb, hml, hown, hts⟩ (c_X12_fails l (cy := cy) (X := X) (D := D) S _ o1 h_o1 (1 : Int32) (hW)) (cwV 1 hts gX12_cut_X12_fails rfl rfl rfl hd_X12_fails ⟨Nat.le_of_ble_eq_true rfl, Nat.le_of_ble_eq_true rfl⟩) (pV (va_recv hK hP (q := (RX12, TX12, 34)) (ci := 16) (q0 := k111) rfl hk111) hP hK hD hN) rfl rfl hl.1 rfl (lv_room (Nat.le_of_ble_eq_true rfl)) dX12_cut_18 ⟨(Nat.zero_le _), (Nat.zero_le _)⟩) hS (fun q _ h => hFc q h) hFc (fun r112 u t H1 locs ht hvm hw hB hz1 hk1 hS => ?_)
      obtain ⟨c113, w114⟩ := hw
      obtain ⟨hP, hD⟩ := wd_post hFc ht hB
      generalize H1 = H at hP hS ⊢
      obtain ⟨S115, rfl⟩ : ∃ z, z = u := ⟨_, rfl⟩
      have t116 : stp [(10, 9), (10, 10), (10, 11), (10, 18), (11, 5), (12, 15), (30, 100)] [] [] S S115 := t0.tr w114 (by decide) (fun _ q => absurd q List.not_mem_nil)
      have xe117 : ext S S115 := w114.x
      refine W.widen (k := 0) (n := 0) (Nat.le_of_ble_eq_true rfl) (Nat.le_of_ble_eq_true rfl) ?_
      exact W.iret (v := r112) hx hb hr (fun t ht hW9 => ⟨⟨r112, S115, rfl, t116, wd_end hP hK hD ht hW9.alike⟩, hS.F ht⟩) hS.2.2 dX12_cut_21 hlocks
theorem hi_X12_wear_X11 : ∀ w ∈ u_ws RX11 TX11 7, w ∈ wsX12_wear := by decide +kernel
theorem hi_X12_wear_X12 : ∀ w ∈ u_ws RX12 TX12 34, w ∈ wsX12_wear := by decide +kernel
theorem hd_X12_wear : yX12_wear.cls = RX12 ∧ yX12_wear.cls ≠ "java/lang/invoke/MethodHandle" ∧ yX12_wear.cls ≠ "java/lang/invoke/VarHandle" ∧ (parseMethodDescriptor yX12_wear.desc).map (fun d => d.parameters.length) = some 2 := by decide +kernel
set_option maxHeartbeats 4000000 in
set_option maxRecDepth 100000 in
theorem c_X12_wear (l : Launch) {D : va_G} {cy : Nat → ClassId} {X : va_W} (S : wPS) (sz : Nat) (o1 : Nat) (h_o1 : isA S o1 12) (x1 : Int32) (x2 : Int32) (hW : wtB S [])  : Met l yX12_wear wsX12_wear ({ frames := 3, cells := 0, slots := 0, locals := 64 }) (va_Pc [.ref o1, .int x1, .int x2] (fun U => U.heap.size = sz ∧ WD D cy X (fun _ => True) S U ∧ NW U)) (va_Qi (fun r (u : wPS) => stp [(12, 15)] [] [] S u) (fun u t => WD D cy X (va_A (X ++ PL cy S) sz) u t) (va_A (X ++ PL cy S) sz)) 0 0 (va_A (X ++ PL cy S) sz) := by
  refine Met.ofW (cc := cX12_wear) (maxL := 3) (ret := (some .int)) (by decide) rfl ?_
  intro p e s m args below meth c s₁ B hml hv
  obtain ⟨rfl, hsz, ⟨hP, hK, hD0⟩, hN⟩ := hv
  have hx := B.exec
  have hb := B.bytes
  have hr := B.returns
  have hts := atoms_spec (ws := wsX12_wear) B.pre
  have hown : s.vm.findClass RX12 = some m.cls := findClass_of_methodNamed (x := yX12_wear) B.named
  have hlocks := B.notSynchronized
  subst hsz
  have hD := hD0.self (sz := s.heap.size)
  generalize hAe : va_A (X ++ PL cy S) s.heap.size = A at hD ⊢
  have hA : ∀ q : Nat, s.heap.size ≤ q → A q := fun q h => by rw [← hAe]; exact Or.inr h
  have hS : va_S A s.heap s.heap [] := va_S.rf
  have hl := lv_entry ([.ref o1, .int x1, .int x2]) (n := 3) (Nat.le_of_ble_eq_true rfl)
  rw [lg_entry_eq]
  generalize (lg_sl ([.ref o1, .int x1, .int x2]) ++ List.replicate (3 - (lg_sl ([.ref o1, .int x1, .int x2])).length) Slot.unset).toArray = ls at hl ⊢
  have hl : lv_has ls 3 [(0, .ref o1), (1, .int x1), (2, .int x2)] := hl
  have t0 : stp [(12, 15)] [] [] S S := stp.rf hW
  have F1 := ((hW.at h_o1 List.not_mem_nil).to_12 h_o1.2.1).F1
  refine lv_aload_n hx hb dX12_wear_0 rfl (lv_at hl 0 rfl) ?_
  refine lv_iload_n hx hb dX12_wear_1 rfl (lv_at hl 1 rfl) ?_
  have hFc := free_all hD hS hA
  obtain ⟨k2, gk2, hk2⟩ := wGt (cy := cy) X S h_o1.1 h_o1.2.1
  refine va_calli (va_runV (As := [.int x1]) (rest := []) ⟨hx, hb, hml, hown, hts⟩ (c_X12_isHob l (cy := cy) (X := X) (D := D) S _ o1 h_o1 x1 (hW)) (cwV 1 hts gX12_wear_X12_isHob rfl rfl rfl hd_X12_isHob ⟨Nat.le_of_ble_eq_true rfl, Nat.le_of_ble_eq_true rfl⟩) (pV (va_recv hK hP (q := (RX12, TX12, 34)) (ci := 16) (q0 := k2) rfl hk2) hP hK hD hN) rfl rfl hl.1 rfl (lv_room (Nat.le_of_ble_eq_true rfl)) dX12_wear_2 ⟨(Nat.zero_le _), (Nat.zero_le _)⟩) hS (fun q _ h => hFc q h) hFc (fun r3 u t H1 locs ht hvm hw hB hz1 hk1 hS => ?_)
  have c4 := hw
  obtain ⟨hP, hD⟩ := wd_post hFc ht hB
  generalize H1 = H at hP hS ⊢
  obtain rfl : f_X12_isHob S o1 x1 = r3 := c4.symm
  have i5 : (f_X12_isHob S o1 x1).toInt = 0 ∨ (0 ≤ x1.toInt ∧ x1.toInt < (S.I (S.f o1 1) 2).toInt) := by have h9 := ih_rng x1 ((hW.at h_o1 List.not_mem_nil).to_12 h_o1.2.1) hW; rw [f_of F1.1] at h9; exact h9
  refine lv_if_eq (tgt := 57) hx hb dX12_wear_5 (by decide) (fun c6 => ?_) (fun c6 => ?_)
  · have c6i : (f_X12_isHob S o1 x1).toInt = 0 := eq_v rfl rfl c6
    refine lv_aload_n hx hb dX12_wear_57 rfl (lv_at hl 0 rfl) ?_
    refine lv_iconst (v := 1) hx hb dX12_wear_58 (by decide) ?_
    have l32_1 : (1 : Int32).toInt = 1 := rfl
    have hFc := free_all hD hS hA
    obtain ⟨k7, gk7, hk7⟩ := wGt (cy := cy) X S h_o1.1 h_o1.2.1
    refine va_calli (va_runV (As := [.int (1 : Int32)]) (rest := []) ⟨hx, hb, hml, hown, hts⟩ (c_X12_fails l (cy := cy) (X := X) (D := D) S _ o1 h_o1 (1 : Int32) (hW)) (cwV 1 hts gX12_wear_X12_fails rfl rfl rfl hd_X12_fails ⟨Nat.le_of_ble_eq_true rfl, Nat.le_of_ble_eq_true rfl⟩) (pV (va_recv hK hP (q := (RX12, TX12, 34)) (ci := 16) (q0 := k7) rfl hk7) hP hK hD hN) rfl rfl hl.1 rfl (lv_room (Nat.le_of_ble_eq_true rfl)) dX12_wear_59 ⟨(Nat.zero_le _), (Nat.zero_le _)⟩) hS (fun q _ h => hFc q h) hFc (fun r8 u t H1 locs ht hvm hw hB hz1 hk1 hS => ?_)
    obtain ⟨c9, w10⟩ := hw
    obtain ⟨hP, hD⟩ := wd_post hFc ht hB
    generalize H1 = H at hP hS ⊢
    obtain ⟨S11, rfl⟩ : ∃ z, z = u := ⟨_, rfl⟩
    have t12 : stp [(12, 15)] [] [] S S11 := t0.tr w10 (by decide) (fun _ q => absurd q List.not_mem_nil)
    have xe13 : ext S S11 := w10.x
    refine W.widen (k := 0) (n := 0) (Nat.le_of_ble_eq_true rfl) (Nat.le_of_ble_eq_true rfl) ?_
    exact W.iret (v := r8) hx hb hr (fun t ht hW9 => ⟨⟨r8, S11, rfl, t12, wd_end hP hK hD ht hW9.alike⟩, hS.F ht⟩) hS.2.2 dX12_wear_62 hlocks
  · have c6i : ¬ (f_X12_isHob S o1 x1).toInt = 0 := neq_v rfl rfl c6
    refine lv_iload_n hx hb dX12_wear_8 rfl (lv_at hl 2 rfl) ?_
    refine lv_i2l hx hb dX12_wear_9 rfl ?_
    refine lv_lconst (v := 0) hx hb dX12_wear_10 (by decide) ?_
    refine lv_aload_n hx hb dX12_wear_11 rfl (lv_at hl 0 rfl) ?_
    obtain ⟨k14, gk14, hk14⟩ := wGt (cy := cy) X S h_o1.1 h_o1.2.1
    simp only [kE, F1.1] at hk14
    refine va_get (D := D) (ci := 16) (v := .ref (S.f o1 1)) (C := RX12) (T := TX12) (N := 34) hx hb hts hi_X12_wear_X12 hown hK hP k14 hk14 rfl 1 (by decide) (hts (.fieldLink RX12 28 "HobhouseModel" "hobs" "Ljava/util/ArrayList;") (by decide +kernel)) (fun _ h9 => h9) rfl dX12_wear_12 ?_
    refine lv_iload_n hx hb dX12_wear_15 rfl (lv_at hl 1 rfl) ?_
    have hFc := free_all hD hS hA
    obtain ⟨k15, gk15, hk15⟩ := wGt (cy := cy) X S F1.2.1.1 F1.2.1.2.1
    refine va_callq (va_runV (As := [.int x1]) (rest := [.long (0 : Int64), .long x2.toInt64]) ⟨hx, hb, hml, hown, hts⟩ (c_Jx4a65c_get_915e3 l (cy := cy) (X := X) (D := D) S _ (S.f o1 1) F1.2.1 x1 (hW) (by omega)) (cwV 1 hts gX12_wear_Jx4a65c_get_915e3 rfl rfl rfl hd_Jx4a65c_get_915e3 ⟨Nat.le_of_ble_eq_true rfl, Nat.le_of_ble_eq_true rfl⟩) (pV (va_recv hK hP (q := (RJx4a65c, TJx4a65c, 3)) (ci := 3) (q0 := k15) rfl hk15) hP hK hD hN) rfl rfl hl.1 rfl (lv_room (Nat.le_of_ble_eq_true rfl)) dX12_wear_16 ⟨(Nat.zero_le _), (Nat.zero_le _)⟩) hS (fun q _ h => hFc q h) hFc (fun r16 u t H1 locs ht hvm hw hB hz1 hk1 hS => ?_)
    obtain ⟨r16, rfl, c17, o18⟩ := hw
    obtain ⟨hP, hD⟩ := wd_post hFc ht hB
    generalize H1 = H at hP hS ⊢
    have o18k : isA S r16 11 := by rw [← show _ = 11 from F1.2.2]; exact o18
    refine W.eq (g2 := F0 m 19 ls [.ref r16, .long (0 : Int64), .long x2.toInt64]) rfl ?_
    obtain ⟨k19, gk19, hk19⟩ := wGt (cy := cy) X S o18k.1 o18k.2.1
    refine va_castS (nm := "HobhouseModel$Hob") hx hb hown (hts (.classLink RX12 322 "HobhouseModel$Hob") (by decide +kernel)) (hK.1 15 _ rfl).2 (va_recv hK hP (ci := 15) (q0 := k19) rfl hk19) dX12_wear_19 ?_
    obtain ⟨k20, gk20, hk20⟩ := wGt (cy := cy) X S o18k.1 o18k.2.1
    have i21 := ((hW.at o18k List.not_mem_nil).to_11 o18k.2.1).R3
    refine va_getN (D := D) (ci := 15) (v := .int (S.I r16 3)) (C := RX11) (T := TX11) (N := 7) hx hb hts hi_X12_wear_X11 hown hK hP k20 hk20 rfl 3 (by decide) (va_Nw.use rfl (hN (.fieldLinkNest RX12 353 "HobhouseModel$Hob" "places" "I" "HobhouseModel") (by decide +kernel))) (fun _ h9 => h9) rfl dX12_wear_22 ?_
    refine lv_iconst (v := 1) hx hb dX12_wear_25 (by decide) ?_
    refine lv_isub hx hb dX12_wear_26 ?_
    refine lv_i2l hx hb dX12_wear_27 rfl ?_
    have hFc := free_all hD hS hA
    refine va_calli (va_runS (As := [.long x2.toInt64, .long (0 : Int64), .long (((S.I r16 3) - (1 : Int32)).toInt64)]) (rest := []) ⟨hx, hb, hml, hown, hts⟩ (c_X12_in l (cy := cy) (X := X) (D := D) S _ x2.toInt64 (0 : Int64) (((S.I r16 3) - (1 : Int32)).toInt64)) (cwS 3 hts gX12_wear_X12_in rfl rfl rfl hd_X12_in ⟨Nat.le_of_ble_eq_true rfl, Nat.le_of_ble_eq_true rfl⟩) (pS hP hK hD hN) rfl rfl hl.1 rfl (lv_room (Nat.le_of_ble_eq_true rfl)) dX12_wear_28 ⟨(Nat.zero_le _), (Nat.zero_le _)⟩) hS (fun q _ h => hFc q h) hFc (fun r22 u t H1 locs ht hvm hw hB hz1 hk1 hS => ?_)
    have c23 := hw
    obtain ⟨hP, hD⟩ := wd_post hFc ht hB
    generalize H1 = H at hP hS ⊢
    obtain rfl : f_X12_in x2.toInt64 (0 : Int64) (((S.I r16 3) - (1 : Int32)).toInt64) = r22 := c23.symm
    have i24 := i64_i x2
    have l64_0 : (0 : Int64).toInt = 0 := rfl
    have l32_1 : (1 : Int32).toInt = 1 := rfl
    have i25 : ((S.I r16 3) - (1 : Int32)).toInt = (S.I r16 3).toInt - 1 := t_subr (n := 1) rfl (by omega)
    have i26 := i64_i ((S.I r16 3) - (1 : Int32))
    have i27 := in_rng x2.toInt64 (0 : Int64) (((S.I r16 3) - (1 : Int32)).toInt64)
    refine lv_if_eq (tgt := 57) hx hb dX12_wear_31 (by decide) (fun c28 => ?_) (fun c28 => ?_)
    · have c28i : (f_X12_in x2.toInt64 (0 : Int64) (((S.I r16 3) - (1 : Int32)).toInt64)).toInt = 0 := eq_v rfl rfl c28
      refine lv_aload_n hx hb dX12_wear_57 rfl (lv_at hl 0 rfl) ?_
      refine lv_iconst (v := 1) hx hb dX12_wear_58 (by decide) ?_
      have hFc := free_all hD hS hA
      obtain ⟨k29, gk29, hk29⟩ := wGt (cy := cy) X S h_o1.1 h_o1.2.1
      refine va_calli (va_runV (As := [.int (1 : Int32)]) (rest := []) ⟨hx, hb, hml, hown, hts⟩ (c_X12_fails l (cy := cy) (X := X) (D := D) S _ o1 h_o1 (1 : Int32) (hW)) (cwV 1 hts gX12_wear_X12_fails rfl rfl rfl hd_X12_fails ⟨Nat.le_of_ble_eq_true rfl, Nat.le_of_ble_eq_true rfl⟩) (pV (va_recv hK hP (q := (RX12, TX12, 34)) (ci := 16) (q0 := k29) rfl hk29) hP hK hD hN) rfl rfl hl.1 rfl (lv_room (Nat.le_of_ble_eq_true rfl)) dX12_wear_59 ⟨(Nat.zero_le _), (Nat.zero_le _)⟩) hS (fun q _ h => hFc q h) hFc (fun r30 u t H1 locs ht hvm hw hB hz1 hk1 hS => ?_)
      obtain ⟨c31, w32⟩ := hw
      obtain ⟨hP, hD⟩ := wd_post hFc ht hB
      generalize H1 = H at hP hS ⊢
      obtain ⟨S33, rfl⟩ : ∃ z, z = u := ⟨_, rfl⟩
      have t34 : stp [(12, 15)] [] [] S S33 := t0.tr w32 (by decide) (fun _ q => absurd q List.not_mem_nil)
      have xe35 : ext S S33 := w32.x
      refine W.widen (k := 0) (n := 0) (Nat.le_of_ble_eq_true rfl) (Nat.le_of_ble_eq_true rfl) ?_
      exact W.iret (v := r30) hx hb hr (fun t ht hW9 => ⟨⟨r30, S33, rfl, t34, wd_end hP hK hD ht hW9.alike⟩, hS.F ht⟩) hS.2.2 dX12_wear_62 hlocks
    · have c28i : ¬ (f_X12_in x2.toInt64 (0 : Int64) (((S.I r16 3) - (1 : Int32)).toInt64)).toInt = 0 := neq_v rfl rfl c28
      refine lv_aload_n hx hb dX12_wear_34 rfl (lv_at hl 0 rfl) ?_
      refine lv_aload_n hx hb dX12_wear_35 rfl (lv_at hl 0 rfl) ?_
      obtain ⟨k36, gk36, hk36⟩ := wGt (cy := cy) X S h_o1.1 h_o1.2.1
      simp only [kE, F1.1] at hk36
      refine va_get (D := D) (ci := 16) (v := .ref (S.f o1 1)) (C := RX12) (T := TX12) (N := 34) hx hb hts hi_X12_wear_X12 hown hK hP k36 hk36 rfl 1 (by decide) (hts (.fieldLink RX12 28 "HobhouseModel" "hobs" "Ljava/util/ArrayList;") (by decide +kernel)) (fun _ h9 => h9) rfl dX12_wear_36 ?_
      refine lv_iload_n hx hb dX12_wear_39 rfl (lv_at hl 1 rfl) ?_
      have hFc := free_all hD hS hA
      obtain ⟨k37, gk37, hk37⟩ := wGt (cy := cy) X S F1.2.1.1 F1.2.1.2.1
      refine va_callq (va_runV (As := [.int x1]) (rest := [.ref o1]) ⟨hx, hb, hml, hown, hts⟩ (c_Jx4a65c_get_915e3 l (cy := cy) (X := X) (D := D) S _ (S.f o1 1) F1.2.1 x1 (hW) (by omega)) (cwV 1 hts gX12_wear_Jx4a65c_get_915e3 rfl rfl rfl hd_Jx4a65c_get_915e3 ⟨Nat.le_of_ble_eq_true rfl, Nat.le_of_ble_eq_true rfl⟩) (pV (va_recv hK hP (q := (RJx4a65c, TJx4a65c, 3)) (ci := 3) (q0 := k37) rfl hk37) hP hK hD hN) rfl rfl hl.1 rfl (lv_room (Nat.le_of_ble_eq_true rfl)) dX12_wear_40 ⟨(Nat.zero_le _), (Nat.zero_le _)⟩) hS (fun q _ h => hFc q h) hFc (fun r38 u t H1 locs ht hvm hw hB hz1 hk1 hS => ?_)
      obtain ⟨r38, rfl, c39, o40⟩ := hw
      obtain ⟨hP, hD⟩ := wd_post hFc ht hB
      generalize H1 = H at hP hS ⊢
      have o40k : isA S r38 11 := by rw [← show _ = 11 from F1.2.2]; exact o40
      refine W.eq (g2 := F0 m 43 ls [.ref r38, .ref o1]) rfl ?_
      obtain ⟨k41, gk41, hk41⟩ := wGt (cy := cy) X S o40k.1 o40k.2.1
      refine va_castS (nm := "HobhouseModel$Hob") hx hb hown (hts (.classLink RX12 322 "HobhouseModel$Hob") (by decide +kernel)) (hK.1 15 _ rfl).2 (va_recv hK hP (ci := 15) (q0 := k41) rfl hk41) dX12_wear_43 ?_
      have F42 := ((hW.at o40k List.not_mem_nil).to_11 o40k.2.1).F2
      obtain ⟨k43, gk43, hk43⟩ := wGt (cy := cy) X S o40k.1 o40k.2.1
      simp only [kE, F42.1] at hk43
      refine va_getN (D := D) (ci := 15) (v := .ref (S.f r38 2)) (C := RX11) (T := TX11) (N := 7) hx hb hts hi_X12_wear_X11 hown hK hP k43 hk43 rfl 2 (by decide) (va_Nw.use rfl (hN (.fieldLinkNest RX12 350 "HobhouseModel$Hob" "wear" "[I" "HobhouseModel") (by decide +kernel))) (fun _ h9 => h9) rfl dX12_wear_46 ?_
      refine lv_iload_n hx hb dX12_wear_49 rfl (lv_at hl 2 rfl) ?_
      obtain ⟨k44, gk44, hk44⟩ := wGt (cy := cy) X S F42.2.1.1 F42.2.1.2.1
      refine va_iald hx hb hK hP k44 2 hk44 rfl (inb (m := 20) F42.2.2 (by omega) (by omega)) dX12_wear_50 ?_
      have hFc := free_all hD hS hA
      obtain ⟨k45, gk45, hk45⟩ := wGt (cy := cy) X S h_o1.1 h_o1.2.1
      refine va_calli (va_runV (As := [.int (S.i (S.f r38 2) x2.toNatClampNeg)]) (rest := []) ⟨hx, hb, hml, hown, hts⟩ (c_X12_answer l (cy := cy) (X := X) (D := D) S _ o1 h_o1 (S.i (S.f r38 2) x2.toNatClampNeg) (hW)) (cwV 1 hts gX12_wear_X12_answer rfl rfl rfl hd_X12_answer ⟨Nat.le_of_ble_eq_true rfl, Nat.le_of_ble_eq_true rfl⟩) (pV (va_recv hK hP (q := (RX12, TX12, 34)) (ci := 16) (q0 := k45) rfl hk45) hP hK hD hN) rfl rfl hl.1 rfl (lv_room (Nat.le_of_ble_eq_true rfl)) dX12_wear_51 ⟨(Nat.zero_le _), (Nat.zero_le _)⟩) hS (fun q _ h => hFc q h) hFc (fun r46 u t H1 locs ht hvm hw hB hz1 hk1 hS => ?_)
      obtain ⟨c47, w48⟩ := hw
      obtain ⟨hP, hD⟩ := wd_post hFc ht hB
      generalize H1 = H at hP hS ⊢
      obtain ⟨S49, rfl⟩ : ∃ z, z = u := ⟨_, rfl⟩
      have t50 : stp [(12, 15)] [] [] S S49 := t0.tr w48 (by decide) (fun _ q => absurd q List.not_mem_nil)
      have xe51 : ext S S49 := w48.x
      refine lv_goto (tgt := 62) hx hb dX12_wear_54 (by decide) ?_
      refine W.widen (k := 0) (n := 0) (Nat.le_of_ble_eq_true rfl) (Nat.le_of_ble_eq_true rfl) ?_
      exact W.iret (v := r46) hx hb hr (fun t ht hW9 => ⟨⟨r46, S49, rfl, t50, wd_end hP hK hD ht hW9.alike⟩, hS.F ht⟩) hS.2.2 dX12_wear_62 hlocks
theorem hi_X12_regrind_X11 : ∀ w ∈ u_ws RX11 TX11 7, w ∈ wsX12_regrind := by decide +kernel
theorem hi_X12_regrind_X12 : ∀ w ∈ u_ws RX12 TX12 34, w ∈ wsX12_regrind := by decide +kernel
theorem hd_X12_regrind : yX12_regrind.cls = RX12 ∧ yX12_regrind.cls ≠ "java/lang/invoke/MethodHandle" ∧ yX12_regrind.cls ≠ "java/lang/invoke/VarHandle" ∧ (parseMethodDescriptor yX12_regrind.desc).map (fun d => d.parameters.length) = some 1 := by decide +kernel
set_option maxHeartbeats 4000000 in
set_option maxRecDepth 100000 in
theorem c_X12_regrind (l : Launch) {D : va_G} {cy : Nat → ClassId} {X : va_W} (S : wPS) (sz : Nat) (o1 : Nat) (h_o1 : isA S o1 12) (x1 : Int32) (hW : wtB S [])  : Met l yX12_regrind wsX12_regrind ({ frames := 3, cells := 0, slots := 0, locals := 64 }) (va_Pc [.ref o1, .int x1] (fun U => U.heap.size = sz ∧ WD D cy X (fun _ => True) S U ∧ NW U)) (va_Qi (fun r (u : wPS) => stp [(11, 4), (11, 6), (12, 15), (30, 100)] [] [] S u) (fun u t => WD D cy X (va_A (X ++ PL cy S) sz) u t) (va_A (X ++ PL cy S) sz)) 0 0 (va_A (X ++ PL cy S) sz) := by
  refine Met.ofW (cc := cX12_regrind) (maxL := 4) (ret := (some .int)) (by decide) rfl ?_
  intro p e s m args below meth c s₁ B hml hv
  obtain ⟨rfl, hsz, ⟨hP, hK, hD0⟩, hN⟩ := hv
  have hx := B.exec
  have hb := B.bytes
  have hr := B.returns
  have hts := atoms_spec (ws := wsX12_regrind) B.pre
  have hown : s.vm.findClass RX12 = some m.cls := findClass_of_methodNamed (x := yX12_regrind) B.named
  have hlocks := B.notSynchronized
  subst hsz
  have hD := hD0.self (sz := s.heap.size)
  generalize hAe : va_A (X ++ PL cy S) s.heap.size = A at hD ⊢
  have hA : ∀ q : Nat, s.heap.size ≤ q → A q := fun q h => by rw [← hAe]; exact Or.inr h
  have hS : va_S A s.heap s.heap [] := va_S.rf
  have hl := lv_entry ([.ref o1, .int x1]) (n := 4) (Nat.le_of_ble_eq_true rfl)
  rw [lg_entry_eq]
  generalize (lg_sl ([.ref o1, .int x1]) ++ List.replicate (4 - (lg_sl ([.ref o1, .int x1])).length) Slot.unset).toArray = ls at hl ⊢
  have hl : lv_has ls 4 [(0, .ref o1), (1, .int x1)] := hl
  have t0 : stp [(11, 4), (11, 6), (12, 15), (30, 100)] [] [] S S := stp.rf hW
  refine lv_aload_n hx hb dX12_regrind_0 rfl (lv_at hl 0 rfl) ?_
  refine lv_iload_n hx hb dX12_regrind_1 rfl (lv_at hl 1 rfl) ?_
  have hFc := free_all hD hS hA
  obtain ⟨k1, gk1, hk1⟩ := wGt (cy := cy) X S h_o1.1 h_o1.2.1
  refine va_calli (va_runV (As := [.int x1]) (rest := []) ⟨hx, hb, hml, hown, hts⟩ (c_X12_isHob l (cy := cy) (X := X) (D := D) S _ o1 h_o1 x1 (hW)) (cwV 1 hts gX12_regrind_X12_isHob rfl rfl rfl hd_X12_isHob ⟨Nat.le_of_ble_eq_true rfl, Nat.le_of_ble_eq_true rfl⟩) (pV (va_recv hK hP (q := (RX12, TX12, 34)) (ci := 16) (q0 := k1) rfl hk1) hP hK hD hN) rfl rfl hl.1 rfl (lv_room (Nat.le_of_ble_eq_true rfl)) dX12_regrind_2 ⟨(Nat.zero_le _), (Nat.zero_le _)⟩) hS (fun q _ h => hFc q h) hFc (fun r2 u t H1 locs ht hvm hw hB hz1 hk1 hS => ?_)
  have c3 := hw
  obtain ⟨hP, hD⟩ := wd_post hFc ht hB
  generalize H1 = H at hP hS ⊢
  obtain rfl : f_X12_isHob S o1 x1 = r2 := c3.symm
  have F4 := ((hW.at h_o1 List.not_mem_nil).to_12 h_o1.2.1).F1
  have i5 : (f_X12_isHob S o1 x1).toInt = 0 ∨ (0 ≤ x1.toInt ∧ x1.toInt < (S.I (S.f o1 1) 2).toInt) := by have h9 := ih_rng x1 ((hW.at h_o1 List.not_mem_nil).to_12 h_o1.2.1) hW; rw [f_of F4.1] at h9; exact h9
  refine lv_if_ne (tgt := 14) hx hb dX12_regrind_5 (by decide) (fun c6 => ?_) (fun c6 => ?_)
  · have c6i : ¬ (f_X12_isHob S o1 x1).toInt = 0 := neq_v rfl rfl c6
    refine lv_aload_n hx hb dX12_regrind_14 rfl (lv_at hl 0 rfl) ?_
    obtain ⟨k7, gk7, hk7⟩ := wGt (cy := cy) X S h_o1.1 h_o1.2.1
    simp only [kE, F4.1] at hk7
    refine va_get (D := D) (ci := 16) (v := .ref (S.f o1 1)) (C := RX12) (T := TX12) (N := 34) hx hb hts hi_X12_regrind_X12 hown hK hP k7 hk7 rfl 1 (by decide) (hts (.fieldLink RX12 28 "HobhouseModel" "hobs" "Ljava/util/ArrayList;") (by decide +kernel)) (fun _ h9 => h9) rfl dX12_regrind_15 ?_
    refine lv_iload_n hx hb dX12_regrind_18 rfl (lv_at hl 1 rfl) ?_
    have hFc := free_all hD hS hA
    obtain ⟨k8, gk8, hk8⟩ := wGt (cy := cy) X S F4.2.1.1 F4.2.1.2.1
    refine va_callq (va_runV (As := [.int x1]) (rest := []) ⟨hx, hb, hml, hown, hts⟩ (c_Jx4a65c_get_915e3 l (cy := cy) (X := X) (D := D) S _ (S.f o1 1) F4.2.1 x1 (hW) (by omega)) (cwV 1 hts gX12_regrind_Jx4a65c_get_915e3 rfl rfl rfl hd_Jx4a65c_get_915e3 ⟨Nat.le_of_ble_eq_true rfl, Nat.le_of_ble_eq_true rfl⟩) (pV (va_recv hK hP (q := (RJx4a65c, TJx4a65c, 3)) (ci := 3) (q0 := k8) rfl hk8) hP hK hD hN) rfl rfl hl.1 rfl (lv_room (Nat.le_of_ble_eq_true rfl)) dX12_regrind_19 ⟨(Nat.zero_le _), (Nat.zero_le _)⟩) hS (fun q _ h => hFc q h) hFc (fun r9 u t H1 locs ht hvm hw hB hz1 hk1 hS => ?_)
    obtain ⟨r9, rfl, c10, o11⟩ := hw
    obtain ⟨hP, hD⟩ := wd_post hFc ht hB
    generalize H1 = H at hP hS ⊢
    have o11k : isA S r9 11 := by rw [← show _ = 11 from F4.2.2]; exact o11
    refine W.eq (g2 := F0 m 22 ls [.ref r9]) rfl ?_
    obtain ⟨k12, gk12, hk12⟩ := wGt (cy := cy) X S o11k.1 o11k.2.1
    refine va_castS (nm := "HobhouseModel$Hob") hx hb hown (hts (.classLink RX12 322 "HobhouseModel$Hob") (by decide +kernel)) (hK.1 15 _ rfl).2 (va_recv hK hP (ci := 15) (q0 := k12) rfl hk12) dX12_regrind_22 ?_
    refine lv_astore_n (lv' := [(2, .ref r9), (0, .ref o1), (1, .int x1)]) hx hb dX12_regrind_25 rfl hl (by decide) rfl (fun ls hl => ?_)
    refine lv_aload_n hx hb dX12_regrind_26 rfl (lv_at hl 0 rfl) ?_
    obtain ⟨k13, gk13, hk13⟩ := wGt (cy := cy) X S o11k.1 o11k.2.1
    refine va_getN (D := D) (ci := 15) (v := .int (S.I r9 6)) (C := RX11) (T := TX11) (N := 7) hx hb hts hi_X12_regrind_X11 hown hK hP k13 hk13 rfl 6 (by decide) (va_Nw.use rfl (hN (.fieldLinkNest RX12 359 "HobhouseModel$Hob" "error" "I" "HobhouseModel") (by decide +kernel))) (fun _ h9 => h9) rfl dX12_regrind_27 ?_
    refine lv_bipush (v := 8) hx hb dX12_regrind_30 (by decide +kernel) ?_
    refine lv_icmp_eq (tgt := 45) hx hb dX12_regrind_32 (by decide) (fun c14 => ?_) (fun c14 => ?_)
    · have c14i : (S.I r9 6).toInt = 8 := eq_v rfl rfl c14
      refine lv_aload_n hx hb dX12_regrind_45 rfl (lv_at hl 1 rfl) ?_
      refine lv_iconst (v := 2) hx hb dX12_regrind_46 (by decide) ?_
      have l32_2 : (2 : Int32).toInt = 2 := rfl
      have hFc := free_all hD hS hA
      obtain ⟨k15, gk15, hk15⟩ := wGt (cy := cy) X S h_o1.1 h_o1.2.1
      refine va_calli (va_runV (As := [.int (2 : Int32)]) (rest := []) ⟨hx, hb, hml, hown, hts⟩ (c_X12_fails l (cy := cy) (X := X) (D := D) S _ o1 h_o1 (2 : Int32) (hW)) (cwV 1 hts gX12_regrind_X12_fails rfl rfl rfl hd_X12_fails ⟨Nat.le_of_ble_eq_true rfl, Nat.le_of_ble_eq_true rfl⟩) (pV (va_recv hK hP (q := (RX12, TX12, 34)) (ci := 16) (q0 := k15) rfl hk15) hP hK hD hN) rfl rfl hl.1 rfl (lv_room (Nat.le_of_ble_eq_true rfl)) dX12_regrind_47 ⟨(Nat.zero_le _), (Nat.zero_le _)⟩) hS (fun q _ h => hFc q h) hFc (fun r16 u t H1 locs ht hvm hw hB hz1 hk1 hS => ?_)
      obtain ⟨c17, w18⟩ := hw
      obtain ⟨hP, hD⟩ := wd_post hFc ht hB
      generalize H1 = H at hP hS ⊢
      obtain ⟨S19, rfl⟩ : ∃ z, z = u := ⟨_, rfl⟩
      have t20 : stp [(11, 4), (11, 6), (12, 15), (30, 100)] [] [] S S19 := t0.tr w18 (by decide) (fun _ q => absurd q List.not_mem_nil)
      have xe21 : ext S S19 := w18.x
      refine W.widen (k := 0) (n := 0) (Nat.le_of_ble_eq_true rfl) (Nat.le_of_ble_eq_true rfl) ?_
      exact W.iret (v := r16) hx hb hr (fun t ht hW9 => ⟨⟨r16, S19, rfl, t20, wd_end hP hK hD ht hW9.alike⟩, hS.F ht⟩) hS.2.2 dX12_regrind_50 hlocks
    · have c14i : ¬ (S.I r9 6).toInt = 8 := neq_v rfl rfl c14
      refine lv_aload_n hx hb dX12_regrind_35 rfl (lv_at hl 0 rfl) ?_
      obtain ⟨k22, gk22, hk22⟩ := wGt (cy := cy) X S o11k.1 o11k.2.1
      refine va_getN (D := D) (ci := 15) (v := .int (S.I r9 4)) (C := RX11) (T := TX11) (N := 7) hx hb hts hi_X12_regrind_X11 hown hK hP k22 hk22 rfl 4 (by decide) (va_Nw.use rfl (hN (.fieldLinkNest RX12 366 "HobhouseModel$Hob" "diameter" "I" "HobhouseModel") (by decide +kernel))) (fun _ h9 => h9) rfl dX12_regrind_36 ?_
      refine lv_sipush (v := 20100) hx hb dX12_regrind_39 (by decide +kernel) ?_
      refine lv_icmp_ge (tgt := 51) hx hb dX12_regrind_42 (by decide) (fun c23 => ?_) (fun c23 => ?_)
      · have c23i : 20100 ≤ (S.I r9 4).toInt := le_v rfl rfl c23
        refine lv_aload_n hx hb dX12_regrind_51 rfl (lv_at hl 0 rfl) ?_
        refine lv_dup hx hb dX12_regrind_52 rfl ?_
        obtain ⟨k24, gk24, hk24⟩ := wGt (cy := cy) X S o11k.1 o11k.2.1
        refine va_getN (D := D) (ci := 15) (v := .int (S.I r9 4)) (C := RX11) (T := TX11) (N := 7) hx hb hts hi_X12_regrind_X11 hown hK hP k24 hk24 rfl 4 (by decide) (va_Nw.use rfl (hN (.fieldLinkNest RX12 366 "HobhouseModel$Hob" "diameter" "I" "HobhouseModel") (by decide +kernel))) (fun _ h9 => h9) rfl dX12_regrind_53 ?_
        refine lv_bipush (v := 100) hx hb dX12_regrind_56 (by decide +kernel) ?_
        refine lv_isub hx hb dX12_regrind_58 ?_
        obtain ⟨k25, gk25, hk25⟩ := wGt (cy := cy) X S o11k.1 o11k.2.1
        refine va_putN (D := D) (ci := 15) (v := .int ((S.I r9 4) - (100 : Int32))) (ty := .int) (C := RX11) (T := TX11) (N := 7) hx hb hts hi_X12_regrind_X11 tyX11 tyX11_ok nmX11 hown hK hP hD hS k25 hk25 rfl 4 (by decide) (va_Nw.use rfl (hN (.fieldLinkNest RX12 366 "HobhouseModel$Hob" "diameter" "I" "HobhouseModel") (by decide +kernel))) (fun _ h9 => h9) rfl (by decide +kernel) (rfl) (rfl) (Nat.le_of_ble_eq_true rfl) dX12_regrind_59 (fun H locs hP2 hD2 hS => ?_)
        have e9 := wPuI (cy := cy) (j := 4) (v := ((S.I r9 4) - (100 : Int32))) hD o11k.1 o11k.2.1 gk25 rfl
        obtain ⟨S26, hS26⟩ : ∃ z, S.sI r9 4 ((S.I r9 4) - (100 : Int32)) = z := ⟨_, rfl⟩
        have hP : va_P D vwCl (X ++ PL cy S26) H := by rw [← hS26, ← e9]; exact hP2
        have hD : va_D A (X ++ PL cy S26) := by rw [← hS26, ← e9]; exact hD2
        have xe27 : ext S S26 := by rw [← hS26]; exact ext.sI _ _ _ _
        have t28 : stp [(11, 4), (11, 6), (12, 15), (30, 100)] [] [] S S26 := by rw [← hS26]; exact t0.I 4 ((S.I r9 4) - (100 : Int32)) o11k (by decide) (trivial) (Or.inl (by decide))
        refine lv_aload_n hx hb dX12_regrind_62 rfl (lv_at hl 0 rfl) ?_
        refine lv_dup hx hb dX12_regrind_63 rfl ?_
        obtain ⟨k29, gk29, hk29⟩ := wGt (cy := cy) X S26 (xe27.A o11k).1 (xe27.A o11k).2.1
        refine va_getN (D := D) (ci := 15) (v := .int (S26.I r9 6)) (C := RX11) (T := TX11) (N := 7) hx hb hts hi_X12_regrind_X11 hown hK hP k29 hk29 rfl 6 (by decide) (va_Nw.use rfl (hN (.fieldLinkNest RX12 359 "HobhouseModel$Hob" "error" "I" "HobhouseModel") (by decide +kernel))) (fun _ h9 => h9) rfl dX12_regrind_64 ?_
        refine lv_iconst (v := 1) hx hb dX12_regrind_67 (by decide) ?_
        refine lv_iadd hx hb dX12_regrind_68 ?_
        obtain ⟨k30, gk30, hk30⟩ := wGt (cy := cy) X S26 (xe27.A o11k).1 (xe27.A o11k).2.1
        refine va_putN (D := D) (ci := 15) (v := .int ((S26.I r9 6) + (1 : Int32))) (ty := .int) (C := RX11) (T := TX11) (N := 7) hx hb hts hi_X12_regrind_X11 tyX11 tyX11_ok nmX11 hown hK hP hD hS k30 hk30 rfl 6 (by decide) (va_Nw.use rfl (hN (.fieldLinkNest RX12 359 "HobhouseModel$Hob" "error" "I" "HobhouseModel") (by decide +kernel))) (fun _ h9 => h9) rfl (by decide +kernel) (rfl) (rfl) (Nat.le_of_ble_eq_true rfl) dX12_regrind_69 (fun H locs hP2 hD2 hS => ?_)
        have e9 := wPuI (cy := cy) (j := 6) (v := ((S26.I r9 6) + (1 : Int32))) hD (xe27.A o11k).1 (xe27.A o11k).2.1 gk30 rfl
        obtain ⟨S31, hS31⟩ : ∃ z, S26.sI r9 6 ((S26.I r9 6) + (1 : Int32)) = z := ⟨_, rfl⟩
        have hP : va_P D vwCl (X ++ PL cy S31) H := by rw [← hS31, ← e9]; exact hP2
        have hD : va_D A (X ++ PL cy S31) := by rw [← hS31, ← e9]; exact hD2
        have xe32 : ext S26 S31 := by rw [← hS31]; exact ext.sI _ _ _ _
        have t33 : stp [(11, 4), (11, 6), (12, 15), (30, 100)] [] [] S S31 := by rw [← hS31]; exact t28.I 6 ((S26.I r9 6) + (1 : Int32)) (xe27.A o11k) (by decide) (trivial) (Or.inl (by decide))
        refine lv_iconst (v := 0) hx hb dX12_regrind_72 (by decide) ?_
        refine lv_istore_n (lv' := [(3, .int (0 : Int32)), (2, .ref r9), (0, .ref o1), (1, .int x1)]) hx hb dX12_regrind_73 rfl hl (by decide) rfl (fun ls hl => ?_)
        have l32_0 : (0 : Int32).toInt = 0 := rfl
        have loop74 : ∀ (n : Nat) (S74_ : wPS) (w74_3 : Int32) (H : Heap) (locs : List Loc) (ls : Array Slot), (21 - w74_3.toInt).toNat < n → 0 ≤ w74_3.toInt ∧ w74_3.toInt ≤ 20 → stp [(11, 4), (11, 6), (12, 15), (30, 100)] [] [] S31 S74_ → va_P D vwCl (X ++ PL cy S74_) H → va_D A (X ++ PL cy S74_) → va_S A s.heap H locs → lv_has ls 4 [(3, .int w74_3), (2, .ref r9), (0, .ref o1), (1, .int x1)] → (∀ (S74_x : wPS) (w74_3x : Int32) (H : Heap) (locs : List Loc) (ls : Array Slot), 0 ≤ w74_3x.toInt ∧ w74_3x.toInt ≤ 20 → stp [(11, 4), (11, 6), (12, 15), (30, 100)] [] [] S31 S74_x → va_P D vwCl (X ++ PL cy S74_x) H → va_D A (X ++ PL cy S74_x) → va_S A s.heap H locs → lv_has ls 4 [(3, .int w74_3x), (2, .ref r9), (0, .ref o1), (1, .int x1)] → W p l e (headSpec wsX12_regrind ({ frames := 3, cells := 0, slots := 0, locals := 64 } : Room)).room s m [.ref o1, .int x1].toArray below meth c H locs 0 0 (MQ below (va_Qi (fun r (u : wPS) => stp [(11, 4), (11, 6), (12, 15), (30, 100)] [] [] S u) (fun u t => WD D cy X A u t) A) [.ref o1, .int x1].toArray s 0 0 A) (F0 m 95 ls [])) → W p l e (headSpec wsX12_regrind ({ frames := 3, cells := 0, slots := 0, locals := 64 } : Room)).room s m [.ref o1, .int x1].toArray below meth c H locs 0 0 (MQ below (va_Qi (fun r (u : wPS) => stp [(11, 4), (11, 6), (12, 15), (30, 100)] [] [] S u) (fun u t => WD D cy X A u t) A) [.ref o1, .int x1].toArray s 0 0 A) (F0 m 74 ls []) := by
          intro n74
          induction n74 with
          | zero => intro S74_ w74_3 H locs ls hm; exact absurd hm (Nat.not_lt_zero _)
          | succ n74 ih74 =>
            intro S74_ w74_3 H locs ls hm74 hi74 hsh74 hP hD hS hl ko74
            have r3 := ((hsh74.w.at ((xe32.tr hsh74.x).A (xe27.A o11k)) List.not_mem_nil).to_11 ((xe32.tr hsh74.x).A (xe27.A o11k)).2.1).R3
            refine lv_iload_n hx hb dX12_regrind_74 rfl (lv_at hl 0 rfl) ?_
            refine lv_aload_n hx hb dX12_regrind_75 rfl (lv_at hl 1 rfl) ?_
            obtain ⟨k34, gk34, hk34⟩ := wGt (cy := cy) X S74_ ((xe32.tr hsh74.x).A (xe27.A o11k)).1 ((xe32.tr hsh74.x).A (xe27.A o11k)).2.1
            have i35 := ((hsh74.w.at ((xe32.tr hsh74.x).A (xe27.A o11k)) List.not_mem_nil).to_11 ((xe32.tr hsh74.x).A (xe27.A o11k)).2.1).R3
            refine va_getN (D := D) (ci := 15) (v := .int (S74_.I r9 3)) (C := RX11) (T := TX11) (N := 7) hx hb hts hi_X12_regrind_X11 hown hK hP k34 hk34 rfl 3 (by decide) (va_Nw.use rfl (hN (.fieldLinkNest RX12 353 "HobhouseModel$Hob" "places" "I" "HobhouseModel") (by decide +kernel))) (fun _ h9 => h9) rfl dX12_regrind_76 ?_
            refine lv_icmp_ge (tgt := 95) hx hb dX12_regrind_79 (by decide) (fun c36 => ?_) (fun c36 => ?_)
            · have c36i : (S74_.I r9 3).toInt ≤ w74_3.toInt := le_v rfl rfl c36
              exact ko74 S74_ w74_3 _ _ _ (by omega) hsh74 hP hD hS (lv_sub hl [0, 1, 2, 3] rfl)
            · have c36i : w74_3.toInt < (S74_.I r9 3).toInt := nle_v rfl rfl c36
              refine lv_aload_n hx hb dX12_regrind_82 rfl (lv_at hl 1 rfl) ?_
              have F37 := ((hW.at o11k List.not_mem_nil).to_11 o11k.2.1).F2
              obtain ⟨k38, gk38, hk38⟩ := wGt (cy := cy) X S74_ ((xe32.tr hsh74.x).A (xe27.A o11k)).1 ((xe32.tr hsh74.x).A (xe27.A o11k)).2.1
              simp only [kE, ((xe27.tr (xe32.tr hsh74.x)).F o11k (by decide) F37.1)] at hk38
              refine va_getN (D := D) (ci := 15) (v := .ref (S.f r9 2)) (C := RX11) (T := TX11) (N := 7) hx hb hts hi_X12_regrind_X11 hown hK hP k38 hk38 rfl 2 (by decide) (va_Nw.use rfl (hN (.fieldLinkNest RX12 350 "HobhouseModel$Hob" "wear" "[I" "HobhouseModel") (by decide +kernel))) (fun _ h9 => h9) rfl dX12_regrind_83 ?_
              refine lv_iload_n hx hb dX12_regrind_86 rfl (lv_at hl 0 rfl) ?_
              refine lv_iconst (v := 0) hx hb dX12_regrind_87 (by decide) ?_
              obtain ⟨k39, gk39, hk39⟩ := wGt (cy := cy) X S74_ ((xe27.tr (xe32.tr hsh74.x)).A F37.2.1).1 ((xe27.tr (xe32.tr hsh74.x)).A F37.2.1).2.1
              refine va_iast hx hb hK hP hD hS k39 2 hk39 rfl (inb (m := 20) (((xe27.tr (xe32.tr hsh74.x)).n F37.2.1).trans F37.2.2) (by omega) (by omega)) dX12_regrind_88 (fun H locs hP2 hD2 hS => ?_)
              have e9 := wPui (cy := cy) (f := (upd (S74_.i (S.f r9 2)) w74_3.toNatClampNeg (0 : Int32))) hD ((xe27.tr (xe32.tr hsh74.x)).A F37.2.1).1 ((xe27.tr (xe32.tr hsh74.x)).A F37.2.1).2.1 gk39 rfl
              obtain ⟨S40, hS40⟩ : ∃ z, S74_.si (S.f r9 2) (upd (S74_.i (S.f r9 2)) w74_3.toNatClampNeg (0 : Int32)) = z := ⟨_, rfl⟩
              have hP : va_P D vwCl (X ++ PL cy S40) H := by rw [← hS40, ← e9]; exact hP2
              have hD : va_D A (X ++ PL cy S40) := by rw [← hS40, ← e9]; exact hD2
              have xe41 : ext S74_ S40 := by rw [← hS40]; exact ext.si _ _ _
              have t42 : stp [(11, 4), (11, 6), (12, 15), (30, 100)] [] [] S31 S40 := by rw [← hS40]; exact hsh74.i (upd (S74_.i (S.f r9 2)) w74_3.toNatClampNeg (0 : Int32)) ((xe27.tr (xe32.tr hsh74.x)).A F37.2.1) (by decide)
              refine lv_iinc (v := w74_3 + (1 : Int32)) (lv' := [(3, .int (w74_3 + (1 : Int32))), (2, .ref r9), (0, .ref o1), (1, .int x1)]) hx hb dX12_regrind_89 hl (k := 0) rfl (by rfl) (by decide) rfl (fun ls hl => ?_)
              refine lv_goto (tgt := 74) hx hb dX12_regrind_92 (by decide) ?_
              have l32_1 : (1 : Int32).toInt = 1 := rfl
              have i43 : (w74_3 + (1 : Int32)).toInt = w74_3.toInt + 1 := t_addr (n := 1) rfl (by omega)
              exact ih74 S40 (w74_3 + (1 : Int32)) _ _ _ (Nat.lt_of_lt_of_le (by omega) (Nat.le_of_lt_succ hm74)) (by omega) t42 hP hD hS (lv_sub hl [0, 1, 2, 3] rfl) ko74
        refine loop74 22 S31 (0 : Int32) _ _ _ (by omega) (by omega) (stp.rf t33.w) hP hD hS (lv_sub hl [0, 1, 2, 3] rfl) (fun S45 z46 H locs ls hi74 hsh74 hP hD hS hl => ?_)
        have t47 : stp [(11, 4), (11, 6), (12, 15), (30, 100)] [] [] S S45 := t33.tr hsh74 (fun _ q => q) (fun _ q => Or.inl q)
        have et47 := hsh74.x
        refine lv_aload_n hx hb dX12_regrind_95 rfl (lv_at hl 2 rfl) ?_
        refine lv_aload_n hx hb dX12_regrind_96 rfl (lv_at hl 1 rfl) ?_
        obtain ⟨k48, gk48, hk48⟩ := wGt (cy := cy) X S45 ((xe32.tr et47).A (xe27.A o11k)).1 ((xe32.tr et47).A (xe27.A o11k)).2.1
        refine va_getN (D := D) (ci := 15) (v := .int (S45.I r9 6)) (C := RX11) (T := TX11) (N := 7) hx hb hts hi_X12_regrind_X11 hown hK hP k48 hk48 rfl 6 (by decide) (va_Nw.use rfl (hN (.fieldLinkNest RX12 359 "HobhouseModel$Hob" "error" "I" "HobhouseModel") (by decide +kernel))) (fun _ h9 => h9) rfl dX12_regrind_97 ?_
        have hFc := free_all hD hS hA
        obtain ⟨k49, gk49, hk49⟩ := wGt (cy := cy) X S45 ((xe27.tr (xe32.tr et47)).A h_o1).1 ((xe27.tr (xe32.tr et47)).A h_o1).2.1
        refine va_calli (va_runV (As := [.int (S45.I r9 6)]) (rest := []) ⟨hx, hb, hml, hown, hts⟩ (c_X12_answer l (cy := cy) (X := X) (D := D) S45 _ o1 ((xe27.tr (xe32.tr et47)).A h_o1) (S45.I r9 6) (t47.w)) (cwV 1 hts gX12_regrind_X12_answer rfl rfl rfl hd_X12_answer ⟨Nat.le_of_ble_eq_true rfl, Nat.le_of_ble_eq_true rfl⟩) (pV (va_recv hK hP (q := (RX12, TX12, 34)) (ci := 16) (q0 := k49) rfl hk49) hP hK hD hN) rfl rfl hl.1 rfl (lv_room (Nat.le_of_ble_eq_true rfl)) dX12_regrind_100 ⟨(Nat.zero_le _), (Nat.zero_le _)⟩) hS (fun q _ h => hFc q h) hFc (fun r50 u t H1 locs ht hvm hw hB hz1 hk1 hS => ?_)
        obtain ⟨c51, w52⟩ := hw
        obtain ⟨hP, hD⟩ := wd_post hFc ht hB
        generalize H1 = H at hP hS ⊢
        obtain ⟨S53, rfl⟩ : ∃ z, z = u := ⟨_, rfl⟩
        have t54 : stp [(11, 4), (11, 6), (12, 15), (30, 100)] [] [] S S53 := t47.tr w52 (by decide) (fun _ q => absurd q List.not_mem_nil)
        have xe55 : ext S45 S53 := w52.x
        refine W.widen (k := 0) (n := 0) (Nat.le_of_ble_eq_true rfl) (Nat.le_of_ble_eq_true rfl) ?_
        exact W.iret (v := r50) hx hb hr (fun t ht hW9 => ⟨⟨r50, S53, rfl, t54, wd_end hP hK hD ht hW9.alike⟩, hS.F ht⟩) hS.2.2 dX12_regrind_103 hlocks
      · have c23i : (S.I r9 4).toInt < 20100 := nle_v rfl rfl c23
        refine lv_aload_n hx hb dX12_regrind_45 rfl (lv_at hl 1 rfl) ?_
        refine lv_iconst (v := 2) hx hb dX12_regrind_46 (by decide) ?_
        have l32_2 : (2 : Int32).toInt = 2 := rfl
        have hFc := free_all hD hS hA
        obtain ⟨k56, gk56, hk56⟩ := wGt (cy := cy) X S h_o1.1 h_o1.2.1
        refine va_calli (va_runV (As := [.int (2 : Int32)]) (rest := []) ⟨hx, hb, hml, hown, hts⟩ (c_X12_fails l (cy := cy) (X := X) (D := D) S _ o1 h_o1 (2 : Int32) (hW)) (cwV 1 hts gX12_regrind_X12_fails rfl rfl rfl hd_X12_fails ⟨Nat.le_of_ble_eq_true rfl, Nat.le_of_ble_eq_true rfl⟩) (pV (va_recv hK hP (q := (RX12, TX12, 34)) (ci := 16) (q0 := k56) rfl hk56) hP hK hD hN) rfl rfl hl.1 rfl (lv_room (Nat.le_of_ble_eq_true rfl)) dX12_regrind_47 ⟨(Nat.zero_le _), (Nat.zero_le _)⟩) hS (fun q _ h => hFc q h) hFc (fun r57 u t H1 locs ht hvm hw hB hz1 hk1 hS => ?_)
        obtain ⟨c58, w59⟩ := hw
        obtain ⟨hP, hD⟩ := wd_post hFc ht hB
        generalize H1 = H at hP hS ⊢
        obtain ⟨S60, rfl⟩ : ∃ z, z = u := ⟨_, rfl⟩
        have t61 : stp [(11, 4), (11, 6), (12, 15), (30, 100)] [] [] S S60 := t0.tr w59 (by decide) (fun _ q => absurd q List.not_mem_nil)
        have xe62 : ext S S60 := w59.x
        refine W.widen (k := 0) (n := 0) (Nat.le_of_ble_eq_true rfl) (Nat.le_of_ble_eq_true rfl) ?_
        exact W.iret (v := r57) hx hb hr (fun t ht hW9 => ⟨⟨r57, S60, rfl, t61, wd_end hP hK hD ht hW9.alike⟩, hS.F ht⟩) hS.2.2 dX12_regrind_50 hlocks
  · have c6i : (f_X12_isHob S o1 x1).toInt = 0 := eq_v rfl rfl c6
    refine lv_aload_n hx hb dX12_regrind_8 rfl (lv_at hl 0 rfl) ?_
    refine lv_iconst (v := 1) hx hb dX12_regrind_9 (by decide) ?_
    have l32_1 : (1 : Int32).toInt = 1 := rfl
    have hFc := free_all hD hS hA
    obtain ⟨k63, gk63, hk63⟩ := wGt (cy := cy) X S h_o1.1 h_o1.2.1
    refine va_calli (va_runV (As := [.int (1 : Int32)]) (rest := []) ⟨hx, hb, hml, hown, hts⟩ (c_X12_fails l (cy := cy) (X := X) (D := D) S _ o1 h_o1 (1 : Int32) (hW)) (cwV 1 hts gX12_regrind_X12_fails rfl rfl rfl hd_X12_fails ⟨Nat.le_of_ble_eq_true rfl, Nat.le_of_ble_eq_true rfl⟩) (pV (va_recv hK hP (q := (RX12, TX12, 34)) (ci := 16) (q0 := k63) rfl hk63) hP hK hD hN) rfl rfl hl.1 rfl (lv_room (Nat.le_of_ble_eq_true rfl)) dX12_regrind_10 ⟨(Nat.zero_le _), (Nat.zero_le _)⟩) hS (fun q _ h => hFc q h) hFc (fun r64 u t H1 locs ht hvm hw hB hz1 hk1 hS => ?_)
    obtain ⟨c65, w66⟩ := hw
    obtain ⟨hP, hD⟩ := wd_post hFc ht hB
    generalize H1 = H at hP hS ⊢
    obtain ⟨S67, rfl⟩ : ∃ z, z = u := ⟨_, rfl⟩
    have t68 : stp [(11, 4), (11, 6), (12, 15), (30, 100)] [] [] S S67 := t0.tr w66 (by decide) (fun _ q => absurd q List.not_mem_nil)
    have xe69 : ext S S67 := w66.x
    refine W.widen (k := 0) (n := 0) (Nat.le_of_ble_eq_true rfl) (Nat.le_of_ble_eq_true rfl) ?_
    exact W.iret (v := r64) hx hb hr (fun t ht hW9 => ⟨⟨r64, S67, rfl, t68, wd_end hP hK hD ht hW9.alike⟩, hS.F ht⟩) hS.2.2 dX12_regrind_13 hlocks
theorem hd_X12_inStep : yX12_inStep.cls = RX12 ∧ yX12_inStep.cls ≠ "java/lang/invoke/MethodHandle" ∧ yX12_inStep.cls ≠ "java/lang/invoke/VarHandle" ∧ (parseMethodDescriptor yX12_inStep.desc).map (fun d => d.parameters.length) = some 4 := by decide +kernel
set_option maxHeartbeats 4000000 in
set_option maxRecDepth 100000 in
theorem c_X12_inStep (l : Launch) {D : va_G} {cy : Nat → ClassId} {X : va_W} (S : wPS) (sz : Nat) (o1 : Nat) (h_o1 : isA S o1 12) (x1 : Int32) (x2 : Int32) (x3 : Int32) (x4 : Int32) (hW : wtB S [])  : Met l yX12_inStep wsX12_inStep ({ frames := 17, cells := 0, slots := 0, locals := 357 }) (va_Pc [.ref o1, .int x1, .int x2, .int x3, .int x4] (fun U => U.heap.size = sz ∧ WD D cy X (fun _ => True) S U ∧ NW U)) (va_Qi (fun r (u : wPS) => stp [(12, 15)] [] [] S u ∧ narrow .boolean (.int r) = .int r) (fun u t => WD D cy X (va_A (X ++ PL cy S) sz) u t) (va_A (X ++ PL cy S) sz)) 0 0 (va_A (X ++ PL cy S) sz) := by
  refine Met.ofW (cc := cX12_inStep) (maxL := 7) (ret := (some .boolean)) (by decide) rfl ?_
  intro p e s m args below meth c s₁ B hml hv
  obtain ⟨rfl, hsz, ⟨hP, hK, hD0⟩, hN⟩ := hv
  have hx := B.exec
  have hb := B.bytes
  have hr := B.returns
  have hts := atoms_spec (ws := wsX12_inStep) B.pre
  have hown : s.vm.findClass RX12 = some m.cls := findClass_of_methodNamed (x := yX12_inStep) B.named
  have hlocks := B.notSynchronized
  subst hsz
  have hD := hD0.self (sz := s.heap.size)
  generalize hAe : va_A (X ++ PL cy S) s.heap.size = A at hD ⊢
  have hA : ∀ q : Nat, s.heap.size ≤ q → A q := fun q h => by rw [← hAe]; exact Or.inr h
  have hS : va_S A s.heap s.heap [] := va_S.rf
  have hl := lv_entry ([.ref o1, .int x1, .int x2, .int x3, .int x4]) (n := 7) (Nat.le_of_ble_eq_true rfl)
  rw [lg_entry_eq]
  generalize (lg_sl ([.ref o1, .int x1, .int x2, .int x3, .int x4]) ++ List.replicate (7 - (lg_sl ([.ref o1, .int x1, .int x2, .int x3, .int x4])).length) Slot.unset).toArray = ls at hl ⊢
  have hl : lv_has ls 7 [(0, .ref o1), (1, .int x1), (2, .int x2), (3, .int x3), (4, .int x4)] := hl
  have t0 : stp [(12, 15)] [] [] S S := stp.rf hW
  refine lv_iload_n hx hb dX12_inStep_0 rfl (lv_at hl 1 rfl) ?_
  refine lv_i2l hx hb dX12_inStep_1 rfl ?_
  refine lv_ldc2 (own := RX12) (v := 6) hx hb hown (hts (.constantLong RX12 129 (6)) (by decide +kernel)) dX12_inStep_2 ?_
  refine lv_ldc2 (own := RX12) (v := 200) hx hb hown (hts (.constantLong RX12 131 (200)) (by decide +kernel)) dX12_inStep_5 ?_
  have hFc := free_all hD hS hA
  refine va_calli (va_runS (As := [.long x1.toInt64, .long (6 : Int64), .long (200 : Int64)]) (rest := []) ⟨hx, hb, hml, hown, hts⟩ (c_X12_in l (cy := cy) (X := X) (D := D) S _ x1.toInt64 (6 : Int64) (200 : Int64)) (cwS 3 hts gX12_inStep_X12_in rfl rfl rfl hd_X12_in ⟨Nat.le_of_ble_eq_true rfl, Nat.le_of_ble_eq_true rfl⟩) (pS hP hK hD hN) rfl rfl hl.1 rfl (lv_room (Nat.le_of_ble_eq_true rfl)) dX12_inStep_8 ⟨(Nat.zero_le _), (Nat.zero_le _)⟩) hS (fun q _ h => hFc q h) hFc (fun r1 u t H1 locs ht hvm hw hB hz1 hk1 hS => ?_)
  have c2 := hw
  obtain ⟨hP, hD⟩ := wd_post hFc ht hB
  generalize H1 = H at hP hS ⊢
  obtain rfl : f_X12_in x1.toInt64 (6 : Int64) (200 : Int64) = r1 := c2.symm
  have i3 := i64_i x1
  have l64_6 : (6 : Int64).toInt = 6 := rfl
  have l64_200 : (200 : Int64).toInt = 200 := rfl
  have i4 := in_rng x1.toInt64 (6 : Int64) (200 : Int64)
  refine lv_if_eq (tgt := 45) hx hb dX12_inStep_11 (by decide) (fun c5 => ?_) (fun c5 => ?_)
  · have c5i : (f_X12_in x1.toInt64 (6 : Int64) (200 : Int64)).toInt = 0 := eq_v rfl rfl c5
    refine lv_aload_n hx hb dX12_inStep_45 rfl (lv_at hl 0 rfl) ?_
    refine lv_iconst (v := 1) hx hb dX12_inStep_46 (by decide) ?_
    have l32_1 : (1 : Int32).toInt = 1 := rfl
    have hFc := free_all hD hS hA
    obtain ⟨k6, gk6, hk6⟩ := wGt (cy := cy) X S h_o1.1 h_o1.2.1
    refine va_calli (va_runV (As := [.int (1 : Int32)]) (rest := []) ⟨hx, hb, hml, hown, hts⟩ (c_X12_refuses l (cy := cy) (X := X) (D := D) S _ o1 h_o1 (1 : Int32) (hW)) (cwV 1 hts gX12_inStep_X12_refuses rfl rfl rfl hd_X12_refuses ⟨Nat.le_of_ble_eq_true rfl, Nat.le_of_ble_eq_true rfl⟩) (pV (va_recv hK hP (q := (RX12, TX12, 34)) (ci := 16) (q0 := k6) rfl hk6) hP hK hD hN) rfl rfl hl.1 rfl (lv_room (Nat.le_of_ble_eq_true rfl)) dX12_inStep_47 ⟨(Nat.zero_le _), (Nat.zero_le _)⟩) hS (fun q _ h => hFc q h) hFc (fun r7 u t H1 locs ht hvm hw hB hz1 hk1 hS => ?_)
    obtain ⟨c8, w9, y10⟩ := hw
    obtain ⟨hP, hD⟩ := wd_post hFc ht hB
    generalize H1 = H at hP hS ⊢
    obtain ⟨S11, rfl⟩ : ∃ z, z = u := ⟨_, rfl⟩
    have t12 : stp [(12, 15)] [] [] S S11 := t0.tr w9 (by decide) (fun _ q => absurd q List.not_mem_nil)
    have xe13 : ext S S11 := w9.x
    refine W.widen (k := 0) (n := 0) (Nat.le_of_ble_eq_true rfl) (Nat.le_of_ble_eq_true rfl) ?_
    exact W.zret (v := r7) hx hb hr (y10) (fun t ht hW9 => ⟨⟨r7, S11, rfl, ⟨t12, (y10)⟩, wd_end hP hK hD ht hW9.alike⟩, hS.F ht⟩) hS.2.2 dX12_inStep_50 hlocks
  · have c5i : ¬ (f_X12_in x1.toInt64 (6 : Int64) (200 : Int64)).toInt = 0 := neq_v rfl rfl c5
    refine lv_iload_n hx hb dX12_inStep_14 rfl (lv_at hl 2 rfl) ?_
    refine lv_i2l hx hb dX12_inStep_15 rfl ?_
    refine lv_ldc2 (own := RX12) (v := 6) hx hb hown (hts (.constantLong RX12 129 (6)) (by decide +kernel)) dX12_inStep_16 ?_
    refine lv_ldc2 (own := RX12) (v := 200) hx hb hown (hts (.constantLong RX12 131 (200)) (by decide +kernel)) dX12_inStep_19 ?_
    have hFc := free_all hD hS hA
    refine va_calli (va_runS (As := [.long x2.toInt64, .long (6 : Int64), .long (200 : Int64)]) (rest := []) ⟨hx, hb, hml, hown, hts⟩ (c_X12_in l (cy := cy) (X := X) (D := D) S _ x2.toInt64 (6 : Int64) (200 : Int64)) (cwS 3 hts gX12_inStep_X12_in rfl rfl rfl hd_X12_in ⟨Nat.le_of_ble_eq_true rfl, Nat.le_of_ble_eq_true rfl⟩) (pS hP hK hD hN) rfl rfl hl.1 rfl (lv_room (Nat.le_of_ble_eq_true rfl)) dX12_inStep_22 ⟨(Nat.zero_le _), (Nat.zero_le _)⟩) hS (fun q _ h => hFc q h) hFc (fun r14 u t H1 locs ht hvm hw hB hz1 hk1 hS => ?_)
    have c15 := hw
    obtain ⟨hP, hD⟩ := wd_post hFc ht hB
    generalize H1 = H at hP hS ⊢
    obtain rfl : f_X12_in x2.toInt64 (6 : Int64) (200 : Int64) = r14 := c15.symm
    have i16 := i64_i x2
    have i17 := in_rng x2.toInt64 (6 : Int64) (200 : Int64)
    refine lv_if_eq (tgt := 45) hx hb dX12_inStep_25 (by decide) (fun c18 => ?_) (fun c18 => ?_)
    · have c18i : (f_X12_in x2.toInt64 (6 : Int64) (200 : Int64)).toInt = 0 := eq_v rfl rfl c18
      refine lv_aload_n hx hb dX12_inStep_45 rfl (lv_at hl 0 rfl) ?_
      refine lv_iconst (v := 1) hx hb dX12_inStep_46 (by decide) ?_
      have l32_1 : (1 : Int32).toInt = 1 := rfl
      have hFc := free_all hD hS hA
      obtain ⟨k19, gk19, hk19⟩ := wGt (cy := cy) X S h_o1.1 h_o1.2.1
      refine va_calli (va_runV (As := [.int (1 : Int32)]) (rest := []) ⟨hx, hb, hml, hown, hts⟩ (c_X12_refuses l (cy := cy) (X := X) (D := D) S _ o1 h_o1 (1 : Int32) (hW)) (cwV 1 hts gX12_inStep_X12_refuses rfl rfl rfl hd_X12_refuses ⟨Nat.le_of_ble_eq_true rfl, Nat.le_of_ble_eq_true rfl⟩) (pV (va_recv hK hP (q := (RX12, TX12, 34)) (ci := 16) (q0 := k19) rfl hk19) hP hK hD hN) rfl rfl hl.1 rfl (lv_room (Nat.le_of_ble_eq_true rfl)) dX12_inStep_47 ⟨(Nat.zero_le _), (Nat.zero_le _)⟩) hS (fun q _ h => hFc q h) hFc (fun r20 u t H1 locs ht hvm hw hB hz1 hk1 hS => ?_)
      obtain ⟨c21, w22, y23⟩ := hw
      obtain ⟨hP, hD⟩ := wd_post hFc ht hB
      generalize H1 = H at hP hS ⊢
      obtain ⟨S24, rfl⟩ : ∃ z, z = u := ⟨_, rfl⟩
      have t25 : stp [(12, 15)] [] [] S S24 := t0.tr w22 (by decide) (fun _ q => absurd q List.not_mem_nil)
      have xe26 : ext S S24 := w22.x
      refine W.widen (k := 0) (n := 0) (Nat.le_of_ble_eq_true rfl) (Nat.le_of_ble_eq_true rfl) ?_
      exact W.zret (v := r20) hx hb hr (y23) (fun t ht hW9 => ⟨⟨r20, S24, rfl, ⟨t25, (y23)⟩, wd_end hP hK hD ht hW9.alike⟩, hS.F ht⟩) hS.2.2 dX12_inStep_50 hlocks
    · have c18i : ¬ (f_X12_in x2.toInt64 (6 : Int64) (200 : Int64)).toInt = 0 := neq_v rfl rfl c18
      refine lv_iload_n hx hb dX12_inStep_28 rfl (lv_at hl 3 rfl) ?_
      refine lv_if_lt (tgt := 45) hx hb dX12_inStep_29 (by decide) (fun c27 => ?_) (fun c27 => ?_)
      · have c27i : x3.toInt < 0 := lt_v rfl rfl c27
        refine lv_aload_n hx hb dX12_inStep_45 rfl (lv_at hl 0 rfl) ?_
        refine lv_iconst (v := 1) hx hb dX12_inStep_46 (by decide) ?_
        have l32_1 : (1 : Int32).toInt = 1 := rfl
        have hFc := free_all hD hS hA
        obtain ⟨k28, gk28, hk28⟩ := wGt (cy := cy) X S h_o1.1 h_o1.2.1
        refine va_calli (va_runV (As := [.int (1 : Int32)]) (rest := []) ⟨hx, hb, hml, hown, hts⟩ (c_X12_refuses l (cy := cy) (X := X) (D := D) S _ o1 h_o1 (1 : Int32) (hW)) (cwV 1 hts gX12_inStep_X12_refuses rfl rfl rfl hd_X12_refuses ⟨Nat.le_of_ble_eq_true rfl, Nat.le_of_ble_eq_true rfl⟩) (pV (va_recv hK hP (q := (RX12, TX12, 34)) (ci := 16) (q0 := k28) rfl hk28) hP hK hD hN) rfl rfl hl.1 rfl (lv_room (Nat.le_of_ble_eq_true rfl)) dX12_inStep_47 ⟨(Nat.zero_le _), (Nat.zero_le _)⟩) hS (fun q _ h => hFc q h) hFc (fun r29 u t H1 locs ht hvm hw hB hz1 hk1 hS => ?_)
        obtain ⟨c30, w31, y32⟩ := hw
        obtain ⟨hP, hD⟩ := wd_post hFc ht hB
        generalize H1 = H at hP hS ⊢
        obtain ⟨S33, rfl⟩ : ∃ z, z = u := ⟨_, rfl⟩
        have t34 : stp [(12, 15)] [] [] S S33 := t0.tr w31 (by decide) (fun _ q => absurd q List.not_mem_nil)
        have xe35 : ext S S33 := w31.x
        refine W.widen (k := 0) (n := 0) (Nat.le_of_ble_eq_true rfl) (Nat.le_of_ble_eq_true rfl) ?_
        exact W.zret (v := r29) hx hb hr (y32) (fun t ht hW9 => ⟨⟨r29, S33, rfl, ⟨t34, (y32)⟩, wd_end hP hK hD ht hW9.alike⟩, hS.F ht⟩) hS.2.2 dX12_inStep_50 hlocks
      · have c27i : 0 ≤ x3.toInt := nlt_v rfl rfl c27
        refine lv_iload hx hb dX12_inStep_32 (lv_at hl 4 rfl) ?_
        refine lv_i2l hx hb dX12_inStep_34 rfl ?_
        refine lv_lconst (v := 1) hx hb dX12_inStep_35 (by decide) ?_
        refine lv_ldc2 (own := RX12) (v := 9999) hx hb hown (hts (.constantLong RX12 249 (9999)) (by decide +kernel)) dX12_inStep_36 ?_
        have hFc := free_all hD hS hA
        refine va_calli (va_runS (As := [.long x4.toInt64, .long (1 : Int64), .long (9999 : Int64)]) (rest := []) ⟨hx, hb, hml, hown, hts⟩ (c_X12_in l (cy := cy) (X := X) (D := D) S _ x4.toInt64 (1 : Int64) (9999 : Int64)) (cwS 3 hts gX12_inStep_X12_in rfl rfl rfl hd_X12_in ⟨Nat.le_of_ble_eq_true rfl, Nat.le_of_ble_eq_true rfl⟩) (pS hP hK hD hN) rfl rfl hl.1 rfl (lv_room (Nat.le_of_ble_eq_true rfl)) dX12_inStep_39 ⟨(Nat.zero_le _), (Nat.zero_le _)⟩) hS (fun q _ h => hFc q h) hFc (fun r36 u t H1 locs ht hvm hw hB hz1 hk1 hS => ?_)
        have c37 := hw
        obtain ⟨hP, hD⟩ := wd_post hFc ht hB
        generalize H1 = H at hP hS ⊢
        obtain rfl : f_X12_in x4.toInt64 (1 : Int64) (9999 : Int64) = r36 := c37.symm
        have i38 := i64_i x4
        have l64_1 : (1 : Int64).toInt = 1 := rfl
        have l64_9999 : (9999 : Int64).toInt = 9999 := rfl
        have i39 := in_rng x4.toInt64 (1 : Int64) (9999 : Int64)
        refine lv_if_ne (tgt := 51) hx hb dX12_inStep_42 (by decide) (fun c40 => ?_) (fun c40 => ?_)
        · have c40i : ¬ (f_X12_in x4.toInt64 (1 : Int64) (9999 : Int64)).toInt = 0 := neq_v rfl rfl c40
          refine lv_iload_n hx hb dX12_inStep_51 rfl (lv_at hl 1 rfl) ?_
          refine lv_i2l hx hb dX12_inStep_52 rfl ?_
          refine lv_iload_n hx hb dX12_inStep_53 rfl (lv_at hl 2 rfl) ?_
          refine lv_i2l hx hb dX12_inStep_54 rfl ?_
          refine lv_lmul hx hb dX12_inStep_55 ?_
          refine lv_iload_n hx hb dX12_inStep_56 rfl (lv_at hl 1 rfl) ?_
          refine lv_iload_n hx hb dX12_inStep_57 rfl (lv_at hl 2 rfl) ?_
          have hFc := free_all hD hS hA
          refine va_calli (va_runS (As := [.int x1, .int x2]) (rest := [.long (x1.toInt64 * x2.toInt64)]) ⟨hx, hb, hml, hown, hts⟩ (c_X12_divisor_e8 l (cy := cy) (X := X) (D := D) S _ x1 x2 (by omega) (by omega) (by omega) (by omega)) (cwS 2 hts gX12_inStep_X12_divisor rfl rfl rfl hd_X12_divisor ⟨Nat.le_of_ble_eq_true rfl, Nat.le_of_ble_eq_true rfl⟩) (pS hP hK hD hN) rfl rfl hl.1 rfl (lv_room (Nat.le_of_ble_eq_true rfl)) dX12_inStep_58 ⟨(Nat.zero_le _), (Nat.zero_le _)⟩) hS (fun q _ h => hFc q h) hFc (fun r41 u t H1 locs ht hvm hw hB hz1 hk1 hS => ?_)
          obtain ⟨c42, y43⟩ := hw
          obtain ⟨hP, hD⟩ := wd_post hFc ht hB
          generalize H1 = H at hP hS ⊢
          obtain rfl : f_X12_divisor_e8 x1 x2 = r41 := c42.symm
          refine lv_i2l hx hb dX12_inStep_61 rfl ?_
          refine lv_ldiv hx hb dX12_inStep_62 (nz_l (by omega)) ?_
          refine lv_lstore (lv' := [(5, .long ((x1.toInt64 * x2.toInt64) / ((f_X12_divisor_e8 x1 x2).toInt64))), (0, .ref o1), (1, .int x1), (2, .int x2), (3, .int x3), (4, .int x4)]) hx hb dX12_inStep_63 hl (by decide) rfl (fun ls hl => ?_)
          refine lv_aload_n hx hb dX12_inStep_65 rfl (lv_at hl 1 rfl) ?_
          refine lv_lload hx hb dX12_inStep_66 (lv_at hl 0 rfl) ?_
          refine lv_iload_n hx hb dX12_inStep_68 rfl (lv_at hl 4 rfl) ?_
          refine lv_i2l hx hb dX12_inStep_69 rfl ?_
          refine lv_lmul hx hb dX12_inStep_70 ?_
          refine lv_iload hx hb dX12_inStep_71 (lv_at hl 5 rfl) ?_
          refine lv_i2l hx hb dX12_inStep_73 rfl ?_
          refine lv_lrem hx hb dX12_inStep_74 (nz_l (by omega)) ?_
          refine lv_lconst (v := 0) hx hb dX12_inStep_75 (by decide) ?_
          refine W.lcmp hx hb dX12_inStep_76 ?_
          refine lv_if_ne (tgt := 84) hx hb dX12_inStep_77 (by decide) (fun c44 => ?_) (fun c44 => ?_)
          · refine lv_iconst (v := 0) hx hb dX12_inStep_84 (by decide) ?_
            have l32_0 : (0 : Int32).toInt = 0 := rfl
            have hFc := free_all hD hS hA
            obtain ⟨k45, gk45, hk45⟩ := wGt (cy := cy) X S h_o1.1 h_o1.2.1
            refine va_calli (va_runV (As := [.int (0 : Int32)]) (rest := []) ⟨hx, hb, hml, hown, hts⟩ (c_X12_says l (cy := cy) (X := X) (D := D) S _ o1 h_o1 (0 : Int32) (hW) (by rfl)) (cwV 1 hts gX12_inStep_X12_says rfl rfl rfl hd_X12_says ⟨Nat.le_of_ble_eq_true rfl, Nat.le_of_ble_eq_true rfl⟩) (pV (va_recv hK hP (q := (RX12, TX12, 34)) (ci := 16) (q0 := k45) rfl hk45) hP hK hD hN) rfl rfl hl.1 rfl (lv_room (Nat.le_of_ble_eq_true rfl)) dX12_inStep_85 ⟨(Nat.zero_le _), (Nat.zero_le _)⟩) hS (fun q _ h => hFc q h) hFc (fun r46 u t H1 locs ht hvm hw hB hz1 hk1 hS => ?_)
            obtain ⟨c47, w48, y49⟩ := hw
            obtain ⟨hP, hD⟩ := wd_post hFc ht hB
            generalize H1 = H at hP hS ⊢
            obtain ⟨S50, rfl⟩ : ∃ z, z = u := ⟨_, rfl⟩
            have t51 : stp [(12, 15)] [] [] S S50 := t0.tr w48 (by decide) (fun _ q => absurd q List.not_mem_nil)
            have xe52 : ext S S50 := w48.x
            refine W.widen (k := 0) (n := 0) (Nat.le_of_ble_eq_true rfl) (Nat.le_of_ble_eq_true rfl) ?_
            exact W.zret (v := r46) hx hb hr (y49) (fun t ht hW9 => ⟨⟨r46, S50, rfl, ⟨t51, (y49)⟩, wd_end hP hK hD ht hW9.alike⟩, hS.F ht⟩) hS.2.2 dX12_inStep_88 hlocks
          · refine lv_iconst (v := 1) hx hb dX12_inStep_80 (by decide) ?_
            refine lv_goto (tgt := 85) hx hb dX12_inStep_81 (by decide) ?_
            have l32_1 : (1 : Int32).toInt = 1 := rfl
            have hFc := free_all hD hS hA
            obtain ⟨k53, gk53, hk53⟩ := wGt (cy := cy) X S h_o1.1 h_o1.2.1
            refine va_calli (va_runV (As := [.int (1 : Int32)]) (rest := []) ⟨hx, hb, hml, hown, hts⟩ (c_X12_says l (cy := cy) (X := X) (D := D) S _ o1 h_o1 (1 : Int32) (hW) (by rfl)) (cwV 1 hts gX12_inStep_X12_says rfl rfl rfl hd_X12_says ⟨Nat.le_of_ble_eq_true rfl, Nat.le_of_ble_eq_true rfl⟩) (pV (va_recv hK hP (q := (RX12, TX12, 34)) (ci := 16) (q0 := k53) rfl hk53) hP hK hD hN) rfl rfl hl.1 rfl (lv_room (Nat.le_of_ble_eq_true rfl)) dX12_inStep_85 ⟨(Nat.zero_le _), (Nat.zero_le _)⟩) hS (fun q _ h => hFc q h) hFc (fun r54 u t H1 locs ht hvm hw hB hz1 hk1 hS => ?_)
            obtain ⟨c55, w56, y57⟩ := hw
            obtain ⟨hP, hD⟩ := wd_post hFc ht hB
            generalize H1 = H at hP hS ⊢
            obtain ⟨S58, rfl⟩ : ∃ z, z = u := ⟨_, rfl⟩
            have t59 : stp [(12, 15)] [] [] S S58 := t0.tr w56 (by decide) (fun _ q => absurd q List.not_mem_nil)
            have xe60 : ext S S58 := w56.x
            refine W.widen (k := 0) (n := 0) (Nat.le_of_ble_eq_true rfl) (Nat.le_of_ble_eq_true rfl) ?_
            exact W.zret (v := r54) hx hb hr (y57) (fun t ht hW9 => ⟨⟨r54, S58, rfl, ⟨t59, (y57)⟩, wd_end hP hK hD ht hW9.alike⟩, hS.F ht⟩) hS.2.2 dX12_inStep_88 hlocks
        · have c40i : (f_X12_in x4.toInt64 (1 : Int64) (9999 : Int64)).toInt = 0 := eq_v rfl rfl c40
          refine lv_aload_n hx hb dX12_inStep_45 rfl (lv_at hl 0 rfl) ?_
          refine lv_iconst (v := 1) hx hb dX12_inStep_46 (by decide) ?_
          have l32_1 : (1 : Int32).toInt = 1 := rfl
          have hFc := free_all hD hS hA
          obtain ⟨k61, gk61, hk61⟩ := wGt (cy := cy) X S h_o1.1 h_o1.2.1
          refine va_calli (va_runV (As := [.int (1 : Int32)]) (rest := []) ⟨hx, hb, hml, hown, hts⟩ (c_X12_refuses l (cy := cy) (X := X) (D := D) S _ o1 h_o1 (1 : Int32) (hW)) (cwV 1 hts gX12_inStep_X12_refuses rfl rfl rfl hd_X12_refuses ⟨Nat.le_of_ble_eq_true rfl, Nat.le_of_ble_eq_true rfl⟩) (pV (va_recv hK hP (q := (RX12, TX12, 34)) (ci := 16) (q0 := k61) rfl hk61) hP hK hD hN) rfl rfl hl.1 rfl (lv_room (Nat.le_of_ble_eq_true rfl)) dX12_inStep_47 ⟨(Nat.zero_le _), (Nat.zero_le _)⟩) hS (fun q _ h => hFc q h) hFc (fun r62 u t H1 locs ht hvm hw hB hz1 hk1 hS => ?_)
          obtain ⟨c63, w64, y65⟩ := hw
          obtain ⟨hP, hD⟩ := wd_post hFc ht hB
          generalize H1 = H at hP hS ⊢
          obtain ⟨S66, rfl⟩ : ∃ z, z = u := ⟨_, rfl⟩
          have t67 : stp [(12, 15)] [] [] S S66 := t0.tr w64 (by decide) (fun _ q => absurd q List.not_mem_nil)
          have xe68 : ext S S66 := w64.x
          refine W.widen (k := 0) (n := 0) (Nat.le_of_ble_eq_true rfl) (Nat.le_of_ble_eq_true rfl) ?_
          exact W.zret (v := r62) hx hb hr (y65) (fun t ht hW9 => ⟨⟨r62, S66, rfl, ⟨t67, (y65)⟩, wd_end hP hK hD ht hW9.alike⟩, hS.F ht⟩) hS.2.2 dX12_inStep_50 hlocks
def f_X12_clock (S : wPS) (o1 : Nat) (x1 : Int32) (x2 : Int32) (x3 : Int32) : (Int32 × wPS) := if (f_X12_in x1.toInt64 (6 : Int64) (200 : Int64)) = (0 : Int32) then l2 (f_X12_fails S o1 (1 : Int32)) (fun r7 S10 => (r7, S10)) else if (f_X12_in x2.toInt64 (6 : Int64) (200 : Int64)) = (0 : Int32) then l2 (f_X12_fails S o1 (1 : Int32)) (fun r19 S22 => (r19, S22)) else if (f_X12_in x3.toInt64 (0 : Int64) ((x1 - (1 : Int32)).toInt64)) = (0 : Int32) then l2 (f_X12_fails S o1 (1 : Int32)) (fun r40 S43 => (r40, S43)) else l2 (f_X12_answer S o1 ((x1 - ((x3 * x2) - (x3 * x2) / x1 * x1)) - (x1 - ((x3 * x2) - (x3 * x2) / x1 * x1)) / x1 * x1)) (fun r33 S36 => (r33, S36))
theorem hd_X12_clock : yX12_clock.cls = RX12 ∧ yX12_clock.cls ≠ "java/lang/invoke/MethodHandle" ∧ yX12_clock.cls ≠ "java/lang/invoke/VarHandle" ∧ (parseMethodDescriptor yX12_clock.desc).map (fun d => d.parameters.length) = some 3 := by decide +kernel
set_option maxHeartbeats 4000000 in
set_option maxRecDepth 100000 in
theorem c_X12_clock (l : Launch) {D : va_G} {cy : Nat → ClassId} {X : va_W} (S : wPS) (sz : Nat) (o1 : Nat) (h_o1 : isA S o1 12) (x1 : Int32) (x2 : Int32) (x3 : Int32) (hW : wtB S [])  : Met l yX12_clock wsX12_clock ({ frames := 1, cells := 0, slots := 0, locals := 25 }) (va_Pc [.ref o1, .int x1, .int x2, .int x3] (fun U => U.heap.size = sz ∧ WD D cy X (fun _ => True) S U ∧ NW U)) (va_Qi (fun r (u : wPS) => (r, u) = f_X12_clock S o1 x1 x2 x3 ∧ stp [(12, 15)] [] [] S u) (fun u t => WD D cy X (va_A (X ++ PL cy S) sz) u t) (va_A (X ++ PL cy S) sz)) 0 0 (va_A (X ++ PL cy S) sz) := by
  refine Met.ofW (cc := cX12_clock) (maxL := 4) (ret := (some .int)) (by decide) rfl ?_
  intro p e s m args below meth c s₁ B hml hv
  obtain ⟨rfl, hsz, ⟨hP, hK, hD0⟩, hN⟩ := hv
  have hx := B.exec
  have hb := B.bytes
  have hr := B.returns
  have hts := atoms_spec (ws := wsX12_clock) B.pre
  have hown : s.vm.findClass RX12 = some m.cls := findClass_of_methodNamed (x := yX12_clock) B.named
  have hlocks := B.notSynchronized
  subst hsz
  have hD := hD0.self (sz := s.heap.size)
  generalize hAe : va_A (X ++ PL cy S) s.heap.size = A at hD ⊢
  have hA : ∀ q : Nat, s.heap.size ≤ q → A q := fun q h => by rw [← hAe]; exact Or.inr h
  have hS : va_S A s.heap s.heap [] := va_S.rf
  have hl := lv_entry ([.ref o1, .int x1, .int x2, .int x3]) (n := 4) (Nat.le_of_ble_eq_true rfl)
  rw [lg_entry_eq]
  generalize (lg_sl ([.ref o1, .int x1, .int x2, .int x3]) ++ List.replicate (4 - (lg_sl ([.ref o1, .int x1, .int x2, .int x3])).length) Slot.unset).toArray = ls at hl ⊢
  have hl : lv_has ls 4 [(0, .ref o1), (1, .int x1), (2, .int x2), (3, .int x3)] := hl
  have t0 : stp [(12, 15)] [] [] S S := stp.rf hW
  refine lv_iload_n hx hb dX12_clock_0 rfl (lv_at hl 1 rfl) ?_
  refine lv_i2l hx hb dX12_clock_1 rfl ?_
  refine lv_ldc2 (own := RX12) (v := 6) hx hb hown (hts (.constantLong RX12 129 (6)) (by decide +kernel)) dX12_clock_2 ?_
  refine lv_ldc2 (own := RX12) (v := 200) hx hb hown (hts (.constantLong RX12 131 (200)) (by decide +kernel)) dX12_clock_5 ?_
  have hFc := free_all hD hS hA
  refine va_calli (va_runS (As := [.long x1.toInt64, .long (6 : Int64), .long (200 : Int64)]) (rest := []) ⟨hx, hb, hml, hown, hts⟩ (c_X12_in l (cy := cy) (X := X) (D := D) S _ x1.toInt64 (6 : Int64) (200 : Int64)) (cwS 3 hts gX12_clock_X12_in rfl rfl rfl hd_X12_in ⟨Nat.le_of_ble_eq_true rfl, Nat.le_of_ble_eq_true rfl⟩) (pS hP hK hD hN) rfl rfl hl.1 rfl (lv_room (Nat.le_of_ble_eq_true rfl)) dX12_clock_8 ⟨(Nat.zero_le _), (Nat.zero_le _)⟩) hS (fun q _ h => hFc q h) hFc (fun r1 u t H1 locs ht hvm hw hB hz1 hk1 hS => ?_)
  have c2 := hw
  obtain ⟨hP, hD⟩ := wd_post hFc ht hB
  generalize H1 = H at hP hS ⊢
  obtain rfl : f_X12_in x1.toInt64 (6 : Int64) (200 : Int64) = r1 := c2.symm
  have i3 := i64_i x1
  have l64_6 : (6 : Int64).toInt = 6 := rfl
  have l64_200 : (200 : Int64).toInt = 200 := rfl
  have i4 := in_rng x1.toInt64 (6 : Int64) (200 : Int64)
  refine lv_if_eq (tgt := 41) hx hb dX12_clock_11 (by decide) (fun c5 => ?_) (fun c5 => ?_)
  · have c5i : (f_X12_in x1.toInt64 (6 : Int64) (200 : Int64)).toInt = 0 := eq_v rfl rfl c5
    refine lv_aload_n hx hb dX12_clock_41 rfl (lv_at hl 0 rfl) ?_
    refine lv_iconst (v := 1) hx hb dX12_clock_42 (by decide) ?_
    have l32_1 : (1 : Int32).toInt = 1 := rfl
    have hFc := free_all hD hS hA
    obtain ⟨k6, gk6, hk6⟩ := wGt (cy := cy) X S h_o1.1 h_o1.2.1
    refine va_calli (va_runV (As := [.int (1 : Int32)]) (rest := []) ⟨hx, hb, hml, hown, hts⟩ (c_X12_fails l (cy := cy) (X := X) (D := D) S _ o1 h_o1 (1 : Int32) (hW)) (cwV 1 hts gX12_clock_X12_fails rfl rfl rfl hd_X12_fails ⟨Nat.le_of_ble_eq_true rfl, Nat.le_of_ble_eq_true rfl⟩) (pV (va_recv hK hP (q := (RX12, TX12, 34)) (ci := 16) (q0 := k6) rfl hk6) hP hK hD hN) rfl rfl hl.1 rfl (lv_room (Nat.le_of_ble_eq_true rfl)) dX12_clock_43 ⟨(Nat.zero_le _), (Nat.zero_le _)⟩) hS (fun q _ h => hFc q h) hFc (fun r7 u t H1 locs ht hvm hw hB hz1 hk1 hS => ?_)
    obtain ⟨c8, w9⟩ := hw
    obtain ⟨hP, hD⟩ := wd_post hFc ht hB
    generalize H1 = H at hP hS ⊢
    obtain ⟨S10, rfl⟩ : ∃ z, z = u := ⟨_, rfl⟩
    have t11 : stp [(12, 15)] [] [] S S10 := t0.tr w9 (by decide) (fun _ q => absurd q List.not_mem_nil)
    have xe12 : ext S S10 := w9.x
    refine W.widen (k := 0) (n := 0) (Nat.le_of_ble_eq_true rfl) (Nat.le_of_ble_eq_true rfl) ?_
    exact W.iret (v := r7) hx hb hr (fun t ht hW9 => ⟨⟨r7, S10, rfl, ⟨(by show (r7, S10) = f_X12_clock S o1 x1 x2 x3; unfold f_X12_clock; rw [if_pos c5, l2_eq c8.symm]), t11⟩, wd_end hP hK hD ht hW9.alike⟩, hS.F ht⟩) hS.2.2 dX12_clock_46 hlocks
  · have c5i : ¬ (f_X12_in x1.toInt64 (6 : Int64) (200 : Int64)).toInt = 0 := neq_v rfl rfl c5
    refine lv_iload_n hx hb dX12_clock_14 rfl (lv_at hl 2 rfl) ?_
    refine lv_i2l hx hb dX12_clock_15 rfl ?_
    refine lv_ldc2 (own := RX12) (v := 6) hx hb hown (hts (.constantLong RX12 129 (6)) (by decide +kernel)) dX12_clock_16 ?_
    refine lv_ldc2 (own := RX12) (v := 200) hx hb hown (hts (.constantLong RX12 131 (200)) (by decide +kernel)) dX12_clock_19 ?_
    have hFc := free_all hD hS hA
    refine va_calli (va_runS (As := [.long x2.toInt64, .long (6 : Int64), .long (200 : Int64)]) (rest := []) ⟨hx, hb, hml, hown, hts⟩ (c_X12_in l (cy := cy) (X := X) (D := D) S _ x2.toInt64 (6 : Int64) (200 : Int64)) (cwS 3 hts gX12_clock_X12_in rfl rfl rfl hd_X12_in ⟨Nat.le_of_ble_eq_true rfl, Nat.le_of_ble_eq_true rfl⟩) (pS hP hK hD hN) rfl rfl hl.1 rfl (lv_room (Nat.le_of_ble_eq_true rfl)) dX12_clock_22 ⟨(Nat.zero_le _), (Nat.zero_le _)⟩) hS (fun q _ h => hFc q h) hFc (fun r13 u t H1 locs ht hvm hw hB hz1 hk1 hS => ?_)
    have c14 := hw
    obtain ⟨hP, hD⟩ := wd_post hFc ht hB
    generalize H1 = H at hP hS ⊢
    obtain rfl : f_X12_in x2.toInt64 (6 : Int64) (200 : Int64) = r13 := c14.symm
    have i15 := i64_i x2
    have i16 := in_rng x2.toInt64 (6 : Int64) (200 : Int64)
    refine lv_if_eq (tgt := 41) hx hb dX12_clock_25 (by decide) (fun c17 => ?_) (fun c17 => ?_)
    · have c17i : (f_X12_in x2.toInt64 (6 : Int64) (200 : Int64)).toInt = 0 := eq_v rfl rfl c17
      refine lv_aload_n hx hb dX12_clock_41 rfl (lv_at hl 0 rfl) ?_
      refine lv_iconst (v := 1) hx hb dX12_clock_42 (by decide) ?_
      have l32_1 : (1 : Int32).toInt = 1 := rfl
      have hFc := free_all hD hS hA
      obtain ⟨k18, gk18, hk18⟩ := wGt (cy := cy) X S h_o1.1 h_o1.2.1
      refine va_calli (va_runV (As := [.int (1 : Int32)]) (rest := []) ⟨hx, hb, hml, hown, hts⟩ (c_X12_fails l (cy := cy) (X := X) (D := D) S _ o1 h_o1 (1 : Int32) (hW)) (cwV 1 hts gX12_clock_X12_fails rfl rfl rfl hd_X12_fails ⟨Nat.le_of_ble_eq_true rfl, Nat.le_of_ble_eq_true rfl⟩) (pV (va_recv hK hP (q := (RX12, TX12, 34)) (ci := 16) (q0 := k18) rfl hk18) hP hK hD hN) rfl rfl hl.1 rfl (lv_room (Nat.le_of_ble_eq_true rfl)) dX12_clock_43 ⟨(Nat.zero_le _), (Nat.zero_le _)⟩) hS (fun q _ h => hFc q h) hFc (fun r19 u t H1 locs ht hvm hw hB hz1 hk1 hS => ?_)
      obtain ⟨c20, w21⟩ := hw
      obtain ⟨hP, hD⟩ := wd_post hFc ht hB
      generalize H1 = H at hP hS ⊢
      obtain ⟨S22, rfl⟩ : ∃ z, z = u := ⟨_, rfl⟩
      have t23 : stp [(12, 15)] [] [] S S22 := t0.tr w21 (by decide) (fun _ q => absurd q List.not_mem_nil)
      have xe24 : ext S S22 := w21.x
      refine W.widen (k := 0) (n := 0) (Nat.le_of_ble_eq_true rfl) (Nat.le_of_ble_eq_true rfl) ?_
      exact W.iret (v := r19) hx hb hr (fun t ht hW9 => ⟨⟨r19, S22, rfl, ⟨(by show (r19, S22) = f_X12_clock S o1 x1 x2 x3; unfold f_X12_clock; rw [if_neg c5, if_pos c17, l2_eq c20.symm]), t23⟩, wd_end hP hK hD ht hW9.alike⟩, hS.F ht⟩) hS.2.2 dX12_clock_46 hlocks
    · have c17i : ¬ (f_X12_in x2.toInt64 (6 : Int64) (200 : Int64)).toInt = 0 := neq_v rfl rfl c17
      refine lv_iload_n hx hb dX12_clock_28 rfl (lv_at hl 3 rfl) ?_
      refine lv_i2l hx hb dX12_clock_29 rfl ?_
      refine lv_lconst (v := 0) hx hb dX12_clock_30 (by decide) ?_
      refine lv_iload_n hx hb dX12_clock_31 rfl (lv_at hl 1 rfl) ?_
      refine lv_iconst (v := 1) hx hb dX12_clock_32 (by decide) ?_
      refine lv_isub hx hb dX12_clock_33 ?_
      refine lv_i2l hx hb dX12_clock_34 rfl ?_
      have hFc := free_all hD hS hA
      refine va_calli (va_runS (As := [.long x3.toInt64, .long (0 : Int64), .long ((x1 - (1 : Int32)).toInt64)]) (rest := []) ⟨hx, hb, hml, hown, hts⟩ (c_X12_in l (cy := cy) (X := X) (D := D) S _ x3.toInt64 (0 : Int64) ((x1 - (1 : Int32)).toInt64)) (cwS 3 hts gX12_clock_X12_in rfl rfl rfl hd_X12_in ⟨Nat.le_of_ble_eq_true rfl, Nat.le_of_ble_eq_true rfl⟩) (pS hP hK hD hN) rfl rfl hl.1 rfl (lv_room (Nat.le_of_ble_eq_true rfl)) dX12_clock_35 ⟨(Nat.zero_le _), (Nat.zero_le _)⟩) hS (fun q _ h => hFc q h) hFc (fun r25 u t H1 locs ht hvm hw hB hz1 hk1 hS => ?_)
      have c26 := hw
      obtain ⟨hP, hD⟩ := wd_post hFc ht hB
      generalize H1 = H at hP hS ⊢
      obtain rfl : f_X12_in x3.toInt64 (0 : Int64) ((x1 - (1 : Int32)).toInt64) = r25 := c26.symm
      have i27 := i64_i x3
      have l64_0 : (0 : Int64).toInt = 0 := rfl
      have l32_1 : (1 : Int32).toInt = 1 := rfl
      have i28 : (x1 - (1 : Int32)).toInt = x1.toInt - 1 := t_subr (n := 1) rfl (by omega)
      have i29 := i64_i (x1 - (1 : Int32))
      have i30 := in_rng x3.toInt64 (0 : Int64) ((x1 - (1 : Int32)).toInt64)
      refine lv_if_ne (tgt := 47) hx hb dX12_clock_38 (by decide) (fun c31 => ?_) (fun c31 => ?_)
      · have c31i : ¬ (f_X12_in x3.toInt64 (0 : Int64) ((x1 - (1 : Int32)).toInt64)).toInt = 0 := neq_v rfl rfl c31
        refine lv_aload_n hx hb dX12_clock_47 rfl (lv_at hl 0 rfl) ?_
        refine lv_iload_n hx hb dX12_clock_48 rfl (lv_at hl 1 rfl) ?_
        refine lv_iload_n hx hb dX12_clock_49 rfl (lv_at hl 3 rfl) ?_
        refine lv_iload_n hx hb dX12_clock_50 rfl (lv_at hl 2 rfl) ?_
        refine lv_imul hx hb dX12_clock_51 ?_
        refine lv_iload_n hx hb dX12_clock_52 rfl (lv_at hl 1 rfl) ?_
        refine lv_irem hx hb dX12_clock_53 (nz_i (by omega)) ?_
        refine lv_isub hx hb dX12_clock_54 ?_
        refine lv_iload_n hx hb dX12_clock_55 rfl (lv_at hl 1 rfl) ?_
        refine lv_irem hx hb dX12_clock_56 (nz_i (by omega)) ?_
        have hFc := free_all hD hS hA
        obtain ⟨k32, gk32, hk32⟩ := wGt (cy := cy) X S h_o1.1 h_o1.2.1
        refine va_calli (va_runV (As := [.int ((x1 - ((x3 * x2) - (x3 * x2) / x1 * x1)) - (x1 - ((x3 * x2) - (x3 * x2) / x1 * x1)) / x1 * x1)]) (rest := []) ⟨hx, hb, hml, hown, hts⟩ (c_X12_answer l (cy := cy) (X := X) (D := D) S _ o1 h_o1 ((x1 - ((x3 * x2) - (x3 * x2) / x1 * x1)) - (x1 - ((x3 * x2) - (x3 * x2) / x1 * x1)) / x1 * x1) (hW)) (cwV 1 hts gX12_clock_X12_answer rfl rfl rfl hd_X12_answer ⟨Nat.le_of_ble_eq_true rfl, Nat.le_of_ble_eq_true rfl⟩) (pV (va_recv hK hP (q := (RX12, TX12, 34)) (ci := 16) (q0 := k32) rfl hk32) hP hK hD hN) rfl rfl hl.1 rfl (lv_room (Nat.le_of_ble_eq_true rfl)) dX12_clock_57 ⟨(Nat.zero_le _), (Nat.zero_le _)⟩) hS (fun q _ h => hFc q h) hFc (fun r33 u t H1 locs ht hvm hw hB hz1 hk1 hS => ?_)
        obtain ⟨c34, w35⟩ := hw
        obtain ⟨hP, hD⟩ := wd_post hFc ht hB
        generalize H1 = H at hP hS ⊢
        obtain ⟨S36, rfl⟩ : ∃ z, z = u := ⟨_, rfl⟩
        have t37 : stp [(12, 15)] [] [] S S36 := t0.tr w35 (by decide) (fun _ q => absurd q List.not_mem_nil)
        have xe38 : ext S S36 := w35.x
        refine W.widen (k := 0) (n := 0) (Nat.le_of_ble_eq_true rfl) (Nat.le_of_ble_eq_true rfl) ?_
        exact W.iret (v := r33) hx hb hr (fun t ht hW9 => ⟨⟨r33, S36, rfl, ⟨(by show (r33, S36) = f_X12_clock S o1 x1 x2 x3; unfold f_X12_clock; rw [if_neg c5, if_neg c17, if_neg c31, l2_eq c34.symm]), t37⟩, wd_end hP hK hD ht hW9.alike⟩, hS.F ht⟩) hS.2.2 dX12_clock_60 hlocks
      · have c31i : (f_X12_in x3.toInt64 (0 : Int64) ((x1 - (1 : Int32)).toInt64)).toInt = 0 := eq_v rfl rfl c31
        refine lv_aload_n hx hb dX12_clock_41 rfl (lv_at hl 0 rfl) ?_
        refine lv_iconst (v := 1) hx hb dX12_clock_42 (by decide) ?_
        have hFc := free_all hD hS hA
        obtain ⟨k39, gk39, hk39⟩ := wGt (cy := cy) X S h_o1.1 h_o1.2.1
        refine va_calli (va_runV (As := [.int (1 : Int32)]) (rest := []) ⟨hx, hb, hml, hown, hts⟩ (c_X12_fails l (cy := cy) (X := X) (D := D) S _ o1 h_o1 (1 : Int32) (hW)) (cwV 1 hts gX12_clock_X12_fails rfl rfl rfl hd_X12_fails ⟨Nat.le_of_ble_eq_true rfl, Nat.le_of_ble_eq_true rfl⟩) (pV (va_recv hK hP (q := (RX12, TX12, 34)) (ci := 16) (q0 := k39) rfl hk39) hP hK hD hN) rfl rfl hl.1 rfl (lv_room (Nat.le_of_ble_eq_true rfl)) dX12_clock_43 ⟨(Nat.zero_le _), (Nat.zero_le _)⟩) hS (fun q _ h => hFc q h) hFc (fun r40 u t H1 locs ht hvm hw hB hz1 hk1 hS => ?_)
        obtain ⟨c41, w42⟩ := hw
        obtain ⟨hP, hD⟩ := wd_post hFc ht hB
        generalize H1 = H at hP hS ⊢
        obtain ⟨S43, rfl⟩ : ∃ z, z = u := ⟨_, rfl⟩
        have t44 : stp [(12, 15)] [] [] S S43 := t0.tr w42 (by decide) (fun _ q => absurd q List.not_mem_nil)
        have xe45 : ext S S43 := w42.x
        refine W.widen (k := 0) (n := 0) (Nat.le_of_ble_eq_true rfl) (Nat.le_of_ble_eq_true rfl) ?_
        exact W.iret (v := r40) hx hb hr (fun t ht hW9 => ⟨⟨r40, S43, rfl, ⟨(by show (r40, S43) = f_X12_clock S o1 x1 x2 x3; unfold f_X12_clock; rw [if_neg c5, if_neg c17, if_pos c31, l2_eq c41.symm]), t44⟩, wd_end hP hK hD ht hW9.alike⟩, hS.F ht⟩) hS.2.2 dX12_clock_46 hlocks
theorem hi_X12_harden_X10 : ∀ w ∈ u_ws RX10 TX10 23, w ∈ wsX12_harden := by decide +kernel
theorem hd_X12_harden : yX12_harden.cls = RX12 ∧ yX12_harden.cls ≠ "java/lang/invoke/MethodHandle" ∧ yX12_harden.cls ≠ "java/lang/invoke/VarHandle" ∧ (parseMethodDescriptor yX12_harden.desc).map (fun d => d.parameters.length) = some 3 := by decide +kernel
set_option maxHeartbeats 4000000 in
set_option maxRecDepth 100000 in
theorem c_X12_harden (l : Launch) {D : va_G} {cy : Nat → ClassId} {X : va_W} (S : wPS) (sz : Nat) (o1 : Nat) (h_o1 : isA S o1 12) (x1 : Int32) (x2 : Int32) (x3 : Int32) (hW : wtB S [])  : Met l yX12_harden wsX12_harden ({ frames := 4, cells := 0, slots := 0, locals := 85 }) (va_Pc [.ref o1, .int x1, .int x2, .int x3] (fun U => U.heap.size = sz ∧ WD D cy X (fun _ => True) S U ∧ NW U)) (va_Qi (fun r (u : wPS) => stp [(10, 12), (10, 14), (10, 15), (10, 19), (12, 15)] [] [] S u) (fun u t => WD D cy X (va_A (X ++ PL cy S) sz) u t) (va_A (X ++ PL cy S) sz)) 0 0 (va_A (X ++ PL cy S) sz) := by
  refine Met.ofW (cc := cX12_harden) (maxL := 7) (ret := (some .int)) (by decide) rfl ?_
  intro p e s m args below meth c s₁ B hml hv
  obtain ⟨rfl, hsz, ⟨hP, hK, hD0⟩, hN⟩ := hv
  have hx := B.exec
  have hb := B.bytes
  have hr := B.returns
  have hts := atoms_spec (ws := wsX12_harden) B.pre
  have hown : s.vm.findClass RX12 = some m.cls := findClass_of_methodNamed (x := yX12_harden) B.named
  have hlocks := B.notSynchronized
  subst hsz
  have hD := hD0.self (sz := s.heap.size)
  generalize hAe : va_A (X ++ PL cy S) s.heap.size = A at hD ⊢
  have hA : ∀ q : Nat, s.heap.size ≤ q → A q := fun q h => by rw [← hAe]; exact Or.inr h
  have hS : va_S A s.heap s.heap [] := va_S.rf
  have hl := lv_entry ([.ref o1, .int x1, .int x2, .int x3]) (n := 7) (Nat.le_of_ble_eq_true rfl)
  rw [lg_entry_eq]
  generalize (lg_sl ([.ref o1, .int x1, .int x2, .int x3]) ++ List.replicate (7 - (lg_sl ([.ref o1, .int x1, .int x2, .int x3])).length) Slot.unset).toArray = ls at hl ⊢
  have hl : lv_has ls 7 [(0, .ref o1), (1, .int x1), (2, .int x2), (3, .int x3)] := hl
  have t0 : stp [(10, 12), (10, 14), (10, 15), (10, 19), (12, 15)] [] [] S S := stp.rf hW
  refine lv_aload_n hx hb dX12_harden_0 rfl (lv_at hl 0 rfl) ?_
  refine lv_iload_n hx hb dX12_harden_1 rfl (lv_at hl 1 rfl) ?_
  have hFc := free_all hD hS hA
  obtain ⟨k1, gk1, hk1⟩ := wGt (cy := cy) X S h_o1.1 h_o1.2.1
  refine va_calli (va_runV (As := [.int x1]) (rest := []) ⟨hx, hb, hml, hown, hts⟩ (c_X12_isGear l (cy := cy) (X := X) (D := D) S _ o1 h_o1 x1 (hW)) (cwV 1 hts gX12_harden_X12_isGear rfl rfl rfl hd_X12_isGear ⟨Nat.le_of_ble_eq_true rfl, Nat.le_of_ble_eq_true rfl⟩) (pV (va_recv hK hP (q := (RX12, TX12, 34)) (ci := 16) (q0 := k1) rfl hk1) hP hK hD hN) rfl rfl hl.1 rfl (lv_room (Nat.le_of_ble_eq_true rfl)) dX12_harden_2 ⟨(Nat.zero_le _), (Nat.zero_le _)⟩) hS (fun q _ h => hFc q h) hFc (fun r2 u t H1 locs ht hvm hw hB hz1 hk1 hS => ?_)
  have c3 := hw
  obtain ⟨hP, hD⟩ := wd_post hFc ht hB
  generalize H1 = H at hP hS ⊢
  obtain rfl : f_X12_isGear S o1 x1 = r2 := c3.symm
  have F4 := ((hW.at h_o1 List.not_mem_nil).to_12 h_o1.2.1).F0
  have i5 : (f_X12_isGear S o1 x1).toInt = 0 ∨ (0 ≤ x1.toInt ∧ x1.toInt < (S.I (S.f o1 0) 2).toInt) := by have h9 := ig_rng x1 ((hW.at h_o1 List.not_mem_nil).to_12 h_o1.2.1) hW; rw [f_of F4.1] at h9; exact h9
  refine lv_if_ne (tgt := 14) hx hb dX12_harden_5 (by decide) (fun c6 => ?_) (fun c6 => ?_)
  · have c6i : ¬ (f_X12_isGear S o1 x1).toInt = 0 := neq_v rfl rfl c6
    refine lv_iload_n hx hb dX12_harden_14 rfl (lv_at hl 2 rfl) ?_
    refine lv_i2l hx hb dX12_harden_15 rfl ?_
    refine lv_lconst (v := 1) hx hb dX12_harden_16 (by decide) ?_
    refine lv_ldc2 (own := RX12) (v := 99) hx hb hown (hts (.constantLong RX12 312 (99)) (by decide +kernel)) dX12_harden_17 ?_
    have hFc := free_all hD hS hA
    refine va_calli (va_runS (As := [.long x2.toInt64, .long (1 : Int64), .long (99 : Int64)]) (rest := []) ⟨hx, hb, hml, hown, hts⟩ (c_X12_in l (cy := cy) (X := X) (D := D) S _ x2.toInt64 (1 : Int64) (99 : Int64)) (cwS 3 hts gX12_harden_X12_in rfl rfl rfl hd_X12_in ⟨Nat.le_of_ble_eq_true rfl, Nat.le_of_ble_eq_true rfl⟩) (pS hP hK hD hN) rfl rfl hl.1 rfl (lv_room (Nat.le_of_ble_eq_true rfl)) dX12_harden_20 ⟨(Nat.zero_le _), (Nat.zero_le _)⟩) hS (fun q _ h => hFc q h) hFc (fun r7 u t H1 locs ht hvm hw hB hz1 hk1 hS => ?_)
    have c8 := hw
    obtain ⟨hP, hD⟩ := wd_post hFc ht hB
    generalize H1 = H at hP hS ⊢
    obtain rfl : f_X12_in x2.toInt64 (1 : Int64) (99 : Int64) = r7 := c8.symm
    have i9 := i64_i x2
    have l64_1 : (1 : Int64).toInt = 1 := rfl
    have l64_99 : (99 : Int64).toInt = 99 := rfl
    have i10 := in_rng x2.toInt64 (1 : Int64) (99 : Int64)
    refine lv_if_ne (tgt := 32) hx hb dX12_harden_23 (by decide) (fun c11 => ?_) (fun c11 => ?_)
    · have c11i : ¬ (f_X12_in x2.toInt64 (1 : Int64) (99 : Int64)).toInt = 0 := neq_v rfl rfl c11
      refine lv_aload_n hx hb dX12_harden_32 rfl (lv_at hl 0 rfl) ?_
      refine lv_iload_n hx hb dX12_harden_33 rfl (lv_at hl 1 rfl) ?_
      have hFc := free_all hD hS hA
      obtain ⟨k12, gk12, hk12⟩ := wGt (cy := cy) X S h_o1.1 h_o1.2.1
      refine va_callq (va_runV (As := [.int x1]) (rest := []) ⟨hx, hb, hml, hown, hts⟩ (c_X12_gearAt l (cy := cy) (X := X) (D := D) S _ o1 h_o1 x1 (hW) (by rw [f_of F4.1]; omega)) (cwV 1 hts gX12_harden_X12_gearAt rfl rfl rfl hd_X12_gearAt ⟨Nat.le_of_ble_eq_true rfl, Nat.le_of_ble_eq_true rfl⟩) (pV (va_recv hK hP (q := (RX12, TX12, 34)) (ci := 16) (q0 := k12) rfl hk12) hP hK hD hN) rfl rfl hl.1 rfl (lv_room (Nat.le_of_ble_eq_true rfl)) dX12_harden_34 ⟨(Nat.zero_le _), (Nat.zero_le _)⟩) hS (fun q _ h => hFc q h) hFc (fun r13 u t H1 locs ht hvm hw hB hz1 hk1 hS => ?_)
      obtain ⟨r13, rfl, c14, o15⟩ := hw
      obtain ⟨hP, hD⟩ := wd_post hFc ht hB
      generalize H1 = H at hP hS ⊢
      refine W.eq (g2 := F0 m 37 ls [.ref r13]) rfl ?_
      refine lv_astore (lv' := [(4, .ref r13), (0, .ref o1), (1, .int x1), (2, .int x2), (3, .int x3)]) hx hb dX12_harden_37 hl (by decide) rfl (fun ls hl => ?_)
      refine lv_aload hx hb dX12_harden_39 (lv_at hl 0 rfl) ?_
      obtain ⟨k16, gk16, hk16⟩ := wGt (cy := cy) X S o15.1 o15.2.1
      have i17 := ((hW.at o15 List.not_mem_nil).to_10 o15.2.1).R18
      refine va_getN (D := D) (ci := 14) (v := .int (S.I r13 18)) (C := RX10) (T := TX10) (N := 23) hx hb hts hi_X12_harden_X10 hown hK hP k16 hk16 rfl 18 (by decide) (va_Nw.use rfl (hN (.fieldLinkNest RX12 160 "HobhouseModel$Gear" "isCut" "Z" "HobhouseModel") (by decide +kernel))) (fun _ h9 => h9) rfl dX12_harden_41 ?_
      refine lv_if_eq (tgt := 71) hx hb dX12_harden_44 (by decide) (fun c18 => ?_) (fun c18 => ?_)
      · have c18i : (S.I r13 18).toInt = 0 := eq_v rfl rfl c18
        refine lv_aload_n hx hb dX12_harden_71 rfl (lv_at hl 1 rfl) ?_
        refine lv_iconst (v := 3) hx hb dX12_harden_72 (by decide) ?_
        have l32_3 : (3 : Int32).toInt = 3 := rfl
        have hFc := free_all hD hS hA
        obtain ⟨k19, gk19, hk19⟩ := wGt (cy := cy) X S h_o1.1 h_o1.2.1
        refine va_calli (va_runV (As := [.int (3 : Int32)]) (rest := []) ⟨hx, hb, hml, hown, hts⟩ (c_X12_fails l (cy := cy) (X := X) (D := D) S _ o1 h_o1 (3 : Int32) (hW)) (cwV 1 hts gX12_harden_X12_fails rfl rfl rfl hd_X12_fails ⟨Nat.le_of_ble_eq_true rfl, Nat.le_of_ble_eq_true rfl⟩) (pV (va_recv hK hP (q := (RX12, TX12, 34)) (ci := 16) (q0 := k19) rfl hk19) hP hK hD hN) rfl rfl hl.1 rfl (lv_room (Nat.le_of_ble_eq_true rfl)) dX12_harden_73 ⟨(Nat.zero_le _), (Nat.zero_le _)⟩) hS (fun q _ h => hFc q h) hFc (fun r20 u t H1 locs ht hvm hw hB hz1 hk1 hS => ?_)
        obtain ⟨c21, w22⟩ := hw
        obtain ⟨hP, hD⟩ := wd_post hFc ht hB
        generalize H1 = H at hP hS ⊢
        obtain ⟨S23, rfl⟩ : ∃ z, z = u := ⟨_, rfl⟩
        have t24 : stp [(10, 12), (10, 14), (10, 15), (10, 19), (12, 15)] [] [] S S23 := t0.tr w22 (by decide) (fun _ q => absurd q List.not_mem_nil)
        have xe25 : ext S S23 := w22.x
        refine W.widen (k := 0) (n := 0) (Nat.le_of_ble_eq_true rfl) (Nat.le_of_ble_eq_true rfl) ?_
        exact W.iret (v := r20) hx hb hr (fun t ht hW9 => ⟨⟨r20, S23, rfl, t24, wd_end hP hK hD ht hW9.alike⟩, hS.F ht⟩) hS.2.2 dX12_harden_76 hlocks
      · have c18i : ¬ (S.I r13 18).toInt = 0 := neq_v rfl rfl c18
        refine lv_aload hx hb dX12_harden_47 (lv_at hl 0 rfl) ?_
        obtain ⟨k26, gk26, hk26⟩ := wGt (cy := cy) X S o15.1 o15.2.1
        have i27 := ((hW.at o15 List.not_mem_nil).to_10 o15.2.1).R19
        refine va_getN (D := D) (ci := 14) (v := .int (S.I r13 19)) (C := RX10) (T := TX10) (N := 23) hx hb hts hi_X12_harden_X10 hown hK hP k26 hk26 rfl 19 (by decide) (va_Nw.use rfl (hN (.fieldLinkNest RX12 369 "HobhouseModel$Gear" "isHard" "Z" "HobhouseModel") (by decide +kernel))) (fun _ h9 => h9) rfl dX12_harden_49 ?_
        refine lv_if_ne (tgt := 71) hx hb dX12_harden_52 (by decide) (fun c28 => ?_) (fun c28 => ?_)
        · have c28i : ¬ (S.I r13 19).toInt = 0 := neq_v rfl rfl c28
          refine lv_aload_n hx hb dX12_harden_71 rfl (lv_at hl 1 rfl) ?_
          refine lv_iconst (v := 3) hx hb dX12_harden_72 (by decide) ?_
          have l32_3 : (3 : Int32).toInt = 3 := rfl
          have hFc := free_all hD hS hA
          obtain ⟨k29, gk29, hk29⟩ := wGt (cy := cy) X S h_o1.1 h_o1.2.1
          refine va_calli (va_runV (As := [.int (3 : Int32)]) (rest := []) ⟨hx, hb, hml, hown, hts⟩ (c_X12_fails l (cy := cy) (X := X) (D := D) S _ o1 h_o1 (3 : Int32) (hW)) (cwV 1 hts gX12_harden_X12_fails rfl rfl rfl hd_X12_fails ⟨Nat.le_of_ble_eq_true rfl, Nat.le_of_ble_eq_true rfl⟩) (pV (va_recv hK hP (q := (RX12, TX12, 34)) (ci := 16) (q0 := k29) rfl hk29) hP hK hD hN) rfl rfl hl.1 rfl (lv_room (Nat.le_of_ble_eq_true rfl)) dX12_harden_73 ⟨(Nat.zero_le _), (Nat.zero_le _)⟩) hS (fun q _ h => hFc q h) hFc (fun r30 u t H1 locs ht hvm hw hB hz1 hk1 hS => ?_)
          obtain ⟨c31, w32⟩ := hw
          obtain ⟨hP, hD⟩ := wd_post hFc ht hB
          generalize H1 = H at hP hS ⊢
          obtain ⟨S33, rfl⟩ : ∃ z, z = u := ⟨_, rfl⟩
          have t34 : stp [(10, 12), (10, 14), (10, 15), (10, 19), (12, 15)] [] [] S S33 := t0.tr w32 (by decide) (fun _ q => absurd q List.not_mem_nil)
          have xe35 : ext S S33 := w32.x
          refine W.widen (k := 0) (n := 0) (Nat.le_of_ble_eq_true rfl) (Nat.le_of_ble_eq_true rfl) ?_
          exact W.iret (v := r30) hx hb hr (fun t ht hW9 => ⟨⟨r30, S33, rfl, t34, wd_end hP hK hD ht hW9.alike⟩, hS.F ht⟩) hS.2.2 dX12_harden_76 hlocks
        · have c28i : (S.I r13 19).toInt = 0 := eq_v rfl rfl c28
          refine lv_aload hx hb dX12_harden_55 (lv_at hl 0 rfl) ?_
          obtain ⟨k36, gk36, hk36⟩ := wGt (cy := cy) X S o15.1 o15.2.1
          have i37 := ((hW.at o15 List.not_mem_nil).to_10 o15.2.1).R20
          refine va_getN (D := D) (ci := 14) (v := .int (S.I r13 20)) (C := RX10) (T := TX10) (N := 23) hx hb hts hi_X12_harden_X10 hown hK hP k36 hk36 rfl 20 (by decide) (va_Nw.use rfl (hN (.fieldLinkNest RX12 372 "HobhouseModel$Gear" "isScrap" "Z" "HobhouseModel") (by decide +kernel))) (fun _ h9 => h9) rfl dX12_harden_57 ?_
          refine lv_if_ne (tgt := 71) hx hb dX12_harden_60 (by decide) (fun c38 => ?_) (fun c38 => ?_)
          · have c38i : ¬ (S.I r13 20).toInt = 0 := neq_v rfl rfl c38
            refine lv_aload_n hx hb dX12_harden_71 rfl (lv_at hl 1 rfl) ?_
            refine lv_iconst (v := 3) hx hb dX12_harden_72 (by decide) ?_
            have l32_3 : (3 : Int32).toInt = 3 := rfl
            have hFc := free_all hD hS hA
            obtain ⟨k39, gk39, hk39⟩ := wGt (cy := cy) X S h_o1.1 h_o1.2.1
            refine va_calli (va_runV (As := [.int (3 : Int32)]) (rest := []) ⟨hx, hb, hml, hown, hts⟩ (c_X12_fails l (cy := cy) (X := X) (D := D) S _ o1 h_o1 (3 : Int32) (hW)) (cwV 1 hts gX12_harden_X12_fails rfl rfl rfl hd_X12_fails ⟨Nat.le_of_ble_eq_true rfl, Nat.le_of_ble_eq_true rfl⟩) (pV (va_recv hK hP (q := (RX12, TX12, 34)) (ci := 16) (q0 := k39) rfl hk39) hP hK hD hN) rfl rfl hl.1 rfl (lv_room (Nat.le_of_ble_eq_true rfl)) dX12_harden_73 ⟨(Nat.zero_le _), (Nat.zero_le _)⟩) hS (fun q _ h => hFc q h) hFc (fun r40 u t H1 locs ht hvm hw hB hz1 hk1 hS => ?_)
            obtain ⟨c41, w42⟩ := hw
            obtain ⟨hP, hD⟩ := wd_post hFc ht hB
            generalize H1 = H at hP hS ⊢
            obtain ⟨S43, rfl⟩ : ∃ z, z = u := ⟨_, rfl⟩
            have t44 : stp [(10, 12), (10, 14), (10, 15), (10, 19), (12, 15)] [] [] S S43 := t0.tr w42 (by decide) (fun _ q => absurd q List.not_mem_nil)
            have xe45 : ext S S43 := w42.x
            refine W.widen (k := 0) (n := 0) (Nat.le_of_ble_eq_true rfl) (Nat.le_of_ble_eq_true rfl) ?_
            exact W.iret (v := r40) hx hb hr (fun t ht hW9 => ⟨⟨r40, S43, rfl, t44, wd_end hP hK hD ht hW9.alike⟩, hS.F ht⟩) hS.2.2 dX12_harden_76 hlocks
          · have c38i : (S.I r13 20).toInt = 0 := eq_v rfl rfl c38
            refine lv_aload hx hb dX12_harden_63 (lv_at hl 0 rfl) ?_
            have hFc := free_all hD hS hA
            obtain ⟨k46, gk46, hk46⟩ := wGt (cy := cy) X S o15.1 o15.2.1
            refine va_calli (va_runV (As := []) (rest := []) ⟨hx, hb, hml, hown, hts⟩ (c_X10_isBroken l (cy := cy) (X := X) (D := D) S _ r13 o15) (cwV 0 hts gX12_harden_X10_isBroken rfl rfl rfl hd_X10_isBroken ⟨Nat.le_of_ble_eq_true rfl, Nat.le_of_ble_eq_true rfl⟩) (pV (va_recv hK hP (q := (RX10, TX10, 23)) (ci := 14) (q0 := k46) rfl hk46) hP hK hD hN) rfl rfl hl.1 rfl (lv_room (Nat.le_of_ble_eq_true rfl)) dX12_harden_65 ⟨(Nat.zero_le _), (Nat.zero_le _)⟩) hS (fun q _ h => hFc q h) hFc (fun r47 u t H1 locs ht hvm hw hB hz1 hk1 hS => ?_)
            have c48 := hw
            obtain ⟨hP, hD⟩ := wd_post hFc ht hB
            generalize H1 = H at hP hS ⊢
            obtain rfl : f_X10_isBroken S r13 = r47 := c48.symm
            refine lv_if_eq (tgt := 77) hx hb dX12_harden_68 (by decide) (fun c49 => ?_) (fun c49 => ?_)
            · have c49i : (f_X10_isBroken S r13).toInt = 0 := eq_v rfl rfl c49
              refine lv_aload hx hb dX12_harden_77 (lv_at hl 0 rfl) ?_
              have hFc := free_all hD hS hA
              obtain ⟨k50, gk50, hk50⟩ := wGt (cy := cy) X S o15.1 o15.2.1
              refine va_calll (va_runV (As := []) (rest := []) ⟨hx, hb, hml, hown, hts⟩ (c_X10_across l (cy := cy) (X := X) (D := D) S _ r13 o15) (cwV 0 hts gX12_harden_X10_across rfl rfl rfl hd_X10_across ⟨Nat.le_of_ble_eq_true rfl, Nat.le_of_ble_eq_true rfl⟩) (pV (va_recv hK hP (q := (RX10, TX10, 23)) (ci := 14) (q0 := k50) rfl hk50) hP hK hD hN) rfl rfl hl.1 rfl (lv_room (Nat.le_of_ble_eq_true rfl)) dX12_harden_79 ⟨(Nat.zero_le _), (Nat.zero_le _)⟩) hS (fun q _ h => hFc q h) hFc (fun r51 u t H1 locs ht hvm hw hB hz1 hk1 hS => ?_)
              have c52 := hw
              obtain ⟨hP, hD⟩ := wd_post hFc ht hB
              generalize H1 = H at hP hS ⊢
              obtain rfl : f_X10_across S r13 = r51 := c52.symm
              refine lv_aload hx hb dX12_harden_82 (lv_at hl 0 rfl) ?_
              have hFc := free_all hD hS hA
              obtain ⟨k53, gk53, hk53⟩ := wGt (cy := cy) X S o15.1 o15.2.1
              refine va_calll (va_runV (As := []) (rest := [.long (f_X10_across S r13)]) ⟨hx, hb, hml, hown, hts⟩ (c_X10_across l (cy := cy) (X := X) (D := D) S _ r13 o15) (cwV 0 hts gX12_harden_X10_across rfl rfl rfl hd_X10_across ⟨Nat.le_of_ble_eq_true rfl, Nat.le_of_ble_eq_true rfl⟩) (pV (va_recv hK hP (q := (RX10, TX10, 23)) (ci := 14) (q0 := k53) rfl hk53) hP hK hD hN) rfl rfl hl.1 rfl (lv_room (Nat.le_of_ble_eq_true rfl)) dX12_harden_84 ⟨(Nat.zero_le _), (Nat.zero_le _)⟩) hS (fun q _ h => hFc q h) hFc (fun r54 u t H1 locs ht hvm hw hB hz1 hk1 hS => ?_)
              have c55 := hw
              obtain ⟨hP, hD⟩ := wd_post hFc ht hB
              generalize H1 = H at hP hS ⊢
              obtain rfl : f_X10_across S r13 = r54 := c55.symm
              refine lv_lmul hx hb dX12_harden_87 ?_
              refine lv_aload hx hb dX12_harden_88 (lv_at hl 0 rfl) ?_
              obtain ⟨k56, gk56, hk56⟩ := wGt (cy := cy) X S o15.1 o15.2.1
              have i57 := ((hW.at o15 List.not_mem_nil).to_10 o15.2.1).R4
              refine va_getN (D := D) (ci := 14) (v := .int (S.I r13 4)) (C := RX10) (T := TX10) (N := 23) hx hb hts hi_X12_harden_X10 hown hK hP k56 hk56 rfl 4 (by decide) (va_Nw.use rfl (hN (.fieldLinkNest RX12 209 "HobhouseModel$Gear" "width" "I" "HobhouseModel") (by decide +kernel))) (fun _ h9 => h9) rfl dX12_harden_90 ?_
              refine lv_i2l hx hb dX12_harden_93 rfl ?_
              refine lv_ldiv hx hb dX12_harden_94 (nz_l (by omega)) ?_
              refine lv_ldc2 (own := RX12) (v := 2000) hx hb hown (hts (.constantLong RX12 379 (2000)) (by decide +kernel)) dX12_harden_95 ?_
              refine lv_ldiv hx hb dX12_harden_98 (by decide) ?_
              refine lv_lstore (lv' := [(5, .long ((((f_X10_across S r13) * (f_X10_across S r13)) / ((S.I r13 4).toInt64)) / (2000 : Int64))), (4, .ref r13), (0, .ref o1), (1, .int x1), (2, .int x2), (3, .int x3)]) hx hb dX12_harden_99 hl (by decide) rfl (fun ls hl => ?_)
              refine lv_aload hx hb dX12_harden_101 (lv_at hl 1 rfl) ?_
              refine lv_iconst (v := 1) hx hb dX12_harden_103 (by decide) ?_
              have l32_1 : (1 : Int32).toInt = 1 := rfl
              obtain ⟨k58, gk58, hk58⟩ := wGt (cy := cy) X S o15.1 o15.2.1
              refine va_putN (D := D) (ci := 14) (v := .int (1 : Int32)) (ty := .boolean) (C := RX10) (T := TX10) (N := 23) hx hb hts hi_X12_harden_X10 tyX10 tyX10_ok nmX10 hown hK hP hD hS k58 hk58 rfl 19 (by decide) (va_Nw.use rfl (hN (.fieldLinkNest RX12 369 "HobhouseModel$Gear" "isHard" "Z" "HobhouseModel") (by decide +kernel))) (fun _ h9 => h9) rfl (by decide +kernel) (by rfl) (by rfl) (Nat.le_of_ble_eq_true rfl) dX12_harden_104 (fun H locs hP2 hD2 hS => ?_)
              have e9 := wPuI (cy := cy) (j := 19) (v := (1 : Int32)) hD o15.1 o15.2.1 gk58 rfl
              obtain ⟨S59, hS59⟩ : ∃ z, S.sI r13 19 (1 : Int32) = z := ⟨_, rfl⟩
              have hP : va_P D vwCl (X ++ PL cy S59) H := by rw [← hS59, ← e9]; exact hP2
              have hD : va_D A (X ++ PL cy S59) := by rw [← hS59, ← e9]; exact hD2
              have xe60 : ext S S59 := by rw [← hS59]; exact ext.sI _ _ _ _
              have t61 : stp [(10, 12), (10, 14), (10, 15), (10, 19), (12, 15)] [] [] S S59 := by rw [← hS59]; exact t0.I 19 (1 : Int32) o15 (by decide) (⟨by decide, by decide⟩) (Or.inl (by decide))
              refine lv_aload hx hb dX12_harden_107 (lv_at hl 1 rfl) ?_
              refine lv_iload_n hx hb dX12_harden_109 rfl (lv_at hl 4 rfl) ?_
              refine lv_i2l hx hb dX12_harden_110 rfl ?_
              refine lv_ldc2 (own := RX12) (v := 250000) hx hb hown (hts (.constantLong RX12 381 (250000)) (by decide +kernel)) dX12_harden_111 ?_
              refine lv_lmul hx hb dX12_harden_114 ?_
              have hFc := free_all hD hS hA
              refine va_calll (va_runS (As := [.long (x2.toInt64 * (250000 : Int64))]) (rest := [.ref r13]) ⟨hx, hb, hml, hown, hts⟩ (c_X12_root l (cy := cy) (X := X) (D := D) S59 _ (x2.toInt64 * (250000 : Int64))) (cwS 1 hts gX12_harden_X12_root rfl rfl rfl hd_X12_root ⟨Nat.le_of_ble_eq_true rfl, Nat.le_of_ble_eq_true rfl⟩) (pS hP hK hD hN) rfl rfl hl.1 rfl (lv_room (Nat.le_of_ble_eq_true rfl)) dX12_harden_115 ⟨(Nat.zero_le _), (Nat.zero_le _)⟩) hS (fun q _ h => hFc q h) hFc (fun r62 u t H1 locs ht hvm hw hB hz1 hk1 hS => ?_)
              obtain ⟨c63, y64⟩ := hw
              obtain ⟨hP, hD⟩ := wd_post hFc ht hB
              generalize H1 = H at hP hS ⊢
              obtain rfl : f_X12_root (x2.toInt64 * (250000 : Int64)) = r62 := c63.symm
              refine lv_l2i hx hb dX12_harden_118 rfl ?_
              obtain ⟨k65, gk65, hk65⟩ := wGt (cy := cy) X S59 (xe60.A o15).1 (xe60.A o15).2.1
              refine va_putN (D := D) (ci := 14) (v := .int ((f_X12_root (x2.toInt64 * (250000 : Int64))).toInt32)) (ty := .int) (C := RX10) (T := TX10) (N := 23) hx hb hts hi_X12_harden_X10 tyX10 tyX10_ok nmX10 hown hK hP hD hS k65 hk65 rfl 12 (by decide) (va_Nw.use rfl (hN (.fieldLinkNest RX12 383 "HobhouseModel$Gear" "depth" "I" "HobhouseModel") (by decide +kernel))) (fun _ h9 => h9) rfl (by decide +kernel) (rfl) (rfl) (Nat.le_of_ble_eq_true rfl) dX12_harden_119 (fun H locs hP2 hD2 hS => ?_)
              have e9 := wPuI (cy := cy) (j := 12) (v := ((f_X12_root (x2.toInt64 * (250000 : Int64))).toInt32)) hD (xe60.A o15).1 (xe60.A o15).2.1 gk65 rfl
              obtain ⟨S66, hS66⟩ : ∃ z, S59.sI r13 12 ((f_X12_root (x2.toInt64 * (250000 : Int64))).toInt32) = z := ⟨_, rfl⟩
              have hP : va_P D vwCl (X ++ PL cy S66) H := by rw [← hS66, ← e9]; exact hP2
              have hD : va_D A (X ++ PL cy S66) := by rw [← hS66, ← e9]; exact hD2
              have xe67 : ext S59 S66 := by rw [← hS66]; exact ext.sI _ _ _ _
              have t68 : stp [(10, 12), (10, 14), (10, 15), (10, 19), (12, 15)] [] [] S S66 := by rw [← hS66]; exact t61.I 12 ((f_X12_root (x2.toInt64 * (250000 : Int64))).toInt32) (xe60.A o15) (by decide) (trivial) (Or.inl (by decide))
              refine lv_aload hx hb dX12_harden_122 (lv_at hl 1 rfl) ?_
              refine lv_aload hx hb dX12_harden_124 (lv_at hl 1 rfl) ?_
              have hFc := free_all hD hS hA
              obtain ⟨k69, gk69, hk69⟩ := wGt (cy := cy) X S66 (xe67.A (xe60.A o15)).1 (xe67.A (xe60.A o15)).2.1
              refine va_calll (va_runV (As := []) (rest := [.ref r13]) ⟨hx, hb, hml, hown, hts⟩ (c_X10_across l (cy := cy) (X := X) (D := D) S66 _ r13 (xe67.A (xe60.A o15))) (cwV 0 hts gX12_harden_X10_across rfl rfl rfl hd_X10_across ⟨Nat.le_of_ble_eq_true rfl, Nat.le_of_ble_eq_true rfl⟩) (pV (va_recv hK hP (q := (RX10, TX10, 23)) (ci := 14) (q0 := k69) rfl hk69) hP hK hD hN) rfl rfl hl.1 rfl (lv_room (Nat.le_of_ble_eq_true rfl)) dX12_harden_126 ⟨(Nat.zero_le _), (Nat.zero_le _)⟩) hS (fun q _ h => hFc q h) hFc (fun r70 u t H1 locs ht hvm hw hB hz1 hk1 hS => ?_)
              have c71 := hw
              obtain ⟨hP, hD⟩ := wd_post hFc ht hB
              generalize H1 = H at hP hS ⊢
              obtain rfl : f_X10_across S66 r13 = r70 := c71.symm
              refine lv_ldc2 (own := RX12) (v := 3) hx hb hown (hts (.constantLong RX12 247 (3)) (by decide +kernel)) dX12_harden_129 ?_
              refine lv_lmul hx hb dX12_harden_132 ?_
              refine lv_ldc2 (own := RX12) (v := 10000) hx hb hown (hts (.constantLong RX12 135 (10000)) (by decide +kernel)) dX12_harden_133 ?_
              refine lv_ldiv hx hb dX12_harden_136 (by decide) ?_
              refine lv_iload_n hx hb dX12_harden_137 rfl (lv_at hl 5 rfl) ?_
              refine lv_if_eq (tgt := 150) hx hb dX12_harden_138 (by decide) (fun c72 => ?_) (fun c72 => ?_)
              · have c72i : x3.toInt = 0 := eq_v rfl rfl c72
                refine lv_lload hx hb dX12_harden_150 (lv_at hl 0 rfl) ?_
                refine lv_ladd hx hb dX12_harden_152 ?_
                refine lv_l2i hx hb dX12_harden_153 rfl ?_
                obtain ⟨k73, gk73, hk73⟩ := wGt (cy := cy) X S66 (xe67.A (xe60.A o15)).1 (xe67.A (xe60.A o15)).2.1
                refine va_putN (D := D) (ci := 14) (v := .int (((((f_X10_across S66 r13) * (3 : Int64)) / (10000 : Int64)) + ((((f_X10_across S r13) * (f_X10_across S r13)) / ((S.I r13 4).toInt64)) / (2000 : Int64))).toInt32)) (ty := .int) (C := RX10) (T := TX10) (N := 23) hx hb hts hi_X12_harden_X10 tyX10 tyX10_ok nmX10 hown hK hP hD hS k73 hk73 rfl 14 (by decide) (va_Nw.use rfl (hN (.fieldLinkNest RX12 386 "HobhouseModel$Gear" "need" "I" "HobhouseModel") (by decide +kernel))) (fun _ h9 => h9) rfl (by decide +kernel) (rfl) (rfl) (Nat.le_of_ble_eq_true rfl) dX12_harden_154 (fun H locs hP2 hD2 hS => ?_)
                have e9 := wPuI (cy := cy) (j := 14) (v := (((((f_X10_across S66 r13) * (3 : Int64)) / (10000 : Int64)) + ((((f_X10_across S r13) * (f_X10_across S r13)) / ((S.I r13 4).toInt64)) / (2000 : Int64))).toInt32)) hD (xe67.A (xe60.A o15)).1 (xe67.A (xe60.A o15)).2.1 gk73 rfl
                obtain ⟨S74, hS74⟩ : ∃ z, S66.sI r13 14 (((((f_X10_across S66 r13) * (3 : Int64)) / (10000 : Int64)) + ((((f_X10_across S r13) * (f_X10_across S r13)) / ((S.I r13 4).toInt64)) / (2000 : Int64))).toInt32) = z := ⟨_, rfl⟩
                have hP : va_P D vwCl (X ++ PL cy S74) H := by rw [← hS74, ← e9]; exact hP2
                have hD : va_D A (X ++ PL cy S74) := by rw [← hS74, ← e9]; exact hD2
                have xe75 : ext S66 S74 := by rw [← hS74]; exact ext.sI _ _ _ _
                have t76 : stp [(10, 12), (10, 14), (10, 15), (10, 19), (12, 15)] [] [] S S74 := by rw [← hS74]; exact t68.I 14 (((((f_X10_across S66 r13) * (3 : Int64)) / (10000 : Int64)) + ((((f_X10_across S r13) * (f_X10_across S r13)) / ((S.I r13 4).toInt64)) / (2000 : Int64))).toInt32) (xe67.A (xe60.A o15)) (by decide) (trivial) (Or.inl (by decide))
                refine lv_aload hx hb dX12_harden_157 (lv_at hl 1 rfl) ?_
                refine lv_aload hx hb dX12_harden_159 (lv_at hl 1 rfl) ?_
                obtain ⟨k77, gk77, hk77⟩ := wGt (cy := cy) X S74 (xe75.A (xe67.A (xe60.A o15))).1 (xe75.A (xe67.A (xe60.A o15))).2.1
                refine va_getN (D := D) (ci := 14) (v := .int (S74.I r13 9)) (C := RX10) (T := TX10) (N := 23) hx hb hts hi_X12_harden_X10 hown hK hP k77 hk77 rfl 9 (by decide) (va_Nw.use rfl (hN (.fieldLinkNest RX12 356 "HobhouseModel$Gear" "stock" "I" "HobhouseModel") (by decide +kernel))) (fun _ h9 => h9) rfl dX12_harden_161 ?_
                obtain ⟨k78, gk78, hk78⟩ := wGt (cy := cy) X S74 (xe75.A (xe67.A (xe60.A o15))).1 (xe75.A (xe67.A (xe60.A o15))).2.1
                refine va_putN (D := D) (ci := 14) (v := .int (S74.I r13 9)) (ty := .int) (C := RX10) (T := TX10) (N := 23) hx hb hts hi_X12_harden_X10 tyX10 tyX10_ok nmX10 hown hK hP hD hS k78 hk78 rfl 15 (by decide) (va_Nw.use rfl (hN (.fieldLinkNest RX12 389 "HobhouseModel$Gear" "had" "I" "HobhouseModel") (by decide +kernel))) (fun _ h9 => h9) rfl (by decide +kernel) (rfl) (rfl) (Nat.le_of_ble_eq_true rfl) dX12_harden_164 (fun H locs hP2 hD2 hS => ?_)
                have e9 := wPuI (cy := cy) (j := 15) (v := (S74.I r13 9)) hD (xe75.A (xe67.A (xe60.A o15))).1 (xe75.A (xe67.A (xe60.A o15))).2.1 gk78 rfl
                obtain ⟨S79, hS79⟩ : ∃ z, S74.sI r13 15 (S74.I r13 9) = z := ⟨_, rfl⟩
                have hP : va_P D vwCl (X ++ PL cy S79) H := by rw [← hS79, ← e9]; exact hP2
                have hD : va_D A (X ++ PL cy S79) := by rw [← hS79, ← e9]; exact hD2
                have xe80 : ext S74 S79 := by rw [← hS79]; exact ext.sI _ _ _ _
                have t81 : stp [(10, 12), (10, 14), (10, 15), (10, 19), (12, 15)] [] [] S S79 := by rw [← hS79]; exact t76.I 15 (S74.I r13 9) (xe75.A (xe67.A (xe60.A o15))) (by decide) (trivial) (Or.inl (by decide))
                refine lv_aload_n hx hb dX12_harden_167 rfl (lv_at hl 2 rfl) ?_
                refine lv_aload hx hb dX12_harden_168 (lv_at hl 1 rfl) ?_
                obtain ⟨k82, gk82, hk82⟩ := wGt (cy := cy) X S79 (xe80.A (xe75.A (xe67.A (xe60.A o15)))).1 (xe80.A (xe75.A (xe67.A (xe60.A o15)))).2.1
                refine va_getN (D := D) (ci := 14) (v := .int (S79.I r13 14)) (C := RX10) (T := TX10) (N := 23) hx hb hts hi_X12_harden_X10 hown hK hP k82 hk82 rfl 14 (by decide) (va_Nw.use rfl (hN (.fieldLinkNest RX12 386 "HobhouseModel$Gear" "need" "I" "HobhouseModel") (by decide +kernel))) (fun _ h9 => h9) rfl dX12_harden_170 ?_
                have hFc := free_all hD hS hA
                obtain ⟨k83, gk83, hk83⟩ := wGt (cy := cy) X S79 ((xe60.tr (xe67.tr (xe75.tr xe80))).A h_o1).1 ((xe60.tr (xe67.tr (xe75.tr xe80))).A h_o1).2.1
                refine va_calli (va_runV (As := [.int (S79.I r13 14)]) (rest := []) ⟨hx, hb, hml, hown, hts⟩ (c_X12_answer l (cy := cy) (X := X) (D := D) S79 _ o1 ((xe60.tr (xe67.tr (xe75.tr xe80))).A h_o1) (S79.I r13 14) (t81.w)) (cwV 1 hts gX12_harden_X12_answer rfl rfl rfl hd_X12_answer ⟨Nat.le_of_ble_eq_true rfl, Nat.le_of_ble_eq_true rfl⟩) (pV (va_recv hK hP (q := (RX12, TX12, 34)) (ci := 16) (q0 := k83) rfl hk83) hP hK hD hN) rfl rfl hl.1 rfl (lv_room (Nat.le_of_ble_eq_true rfl)) dX12_harden_173 ⟨(Nat.zero_le _), (Nat.zero_le _)⟩) hS (fun q _ h => hFc q h) hFc (fun r84 u t H1 locs ht hvm hw hB hz1 hk1 hS => ?_)
                obtain ⟨c85, w86⟩ := hw
                obtain ⟨hP, hD⟩ := wd_post hFc ht hB
                generalize H1 = H at hP hS ⊢
                obtain ⟨S87, rfl⟩ : ∃ z, z = u := ⟨_, rfl⟩
                have t88 : stp [(10, 12), (10, 14), (10, 15), (10, 19), (12, 15)] [] [] S S87 := t81.tr w86 (by decide) (fun _ q => absurd q List.not_mem_nil)
                have xe89 : ext S79 S87 := w86.x
                refine W.widen (k := 0) (n := 0) (Nat.le_of_ble_eq_true rfl) (Nat.le_of_ble_eq_true rfl) ?_
                exact W.iret (v := r84) hx hb hr (fun t ht hW9 => ⟨⟨r84, S87, rfl, t88, wd_end hP hK hD ht hW9.alike⟩, hS.F ht⟩) hS.2.2 dX12_harden_176 hlocks
              · have c72i : ¬ x3.toInt = 0 := neq_v rfl rfl c72
                refine lv_lload hx hb dX12_harden_141 (lv_at hl 0 rfl) ?_
                refine lv_ldc2 (own := RX12) (v := 2) hx hb hown (hts (.constantLong RX12 3 (2)) (by decide +kernel)) dX12_harden_143 ?_
                refine lv_ldiv hx hb dX12_harden_146 (by decide) ?_
                refine lv_goto (tgt := 152) hx hb dX12_harden_147 (by decide) ?_
                refine lv_ladd hx hb dX12_harden_152 ?_
                refine lv_l2i hx hb dX12_harden_153 rfl ?_
                obtain ⟨k90, gk90, hk90⟩ := wGt (cy := cy) X S66 (xe67.A (xe60.A o15)).1 (xe67.A (xe60.A o15)).2.1
                refine va_putN (D := D) (ci := 14) (v := .int (((((f_X10_across S66 r13) * (3 : Int64)) / (10000 : Int64)) + (((((f_X10_across S r13) * (f_X10_across S r13)) / ((S.I r13 4).toInt64)) / (2000 : Int64)) / (2 : Int64))).toInt32)) (ty := .int) (C := RX10) (T := TX10) (N := 23) hx hb hts hi_X12_harden_X10 tyX10 tyX10_ok nmX10 hown hK hP hD hS k90 hk90 rfl 14 (by decide) (va_Nw.use rfl (hN (.fieldLinkNest RX12 386 "HobhouseModel$Gear" "need" "I" "HobhouseModel") (by decide +kernel))) (fun _ h9 => h9) rfl (by decide +kernel) (rfl) (rfl) (Nat.le_of_ble_eq_true rfl) dX12_harden_154 (fun H locs hP2 hD2 hS => ?_)
                have e9 := wPuI (cy := cy) (j := 14) (v := (((((f_X10_across S66 r13) * (3 : Int64)) / (10000 : Int64)) + (((((f_X10_across S r13) * (f_X10_across S r13)) / ((S.I r13 4).toInt64)) / (2000 : Int64)) / (2 : Int64))).toInt32)) hD (xe67.A (xe60.A o15)).1 (xe67.A (xe60.A o15)).2.1 gk90 rfl
                obtain ⟨S91, hS91⟩ : ∃ z, S66.sI r13 14 (((((f_X10_across S66 r13) * (3 : Int64)) / (10000 : Int64)) + (((((f_X10_across S r13) * (f_X10_across S r13)) / ((S.I r13 4).toInt64)) / (2000 : Int64)) / (2 : Int64))).toInt32) = z := ⟨_, rfl⟩
                have hP : va_P D vwCl (X ++ PL cy S91) H := by rw [← hS91, ← e9]; exact hP2
                have hD : va_D A (X ++ PL cy S91) := by rw [← hS91, ← e9]; exact hD2
                have xe92 : ext S66 S91 := by rw [← hS91]; exact ext.sI _ _ _ _
                have t93 : stp [(10, 12), (10, 14), (10, 15), (10, 19), (12, 15)] [] [] S S91 := by rw [← hS91]; exact t68.I 14 (((((f_X10_across S66 r13) * (3 : Int64)) / (10000 : Int64)) + (((((f_X10_across S r13) * (f_X10_across S r13)) / ((S.I r13 4).toInt64)) / (2000 : Int64)) / (2 : Int64))).toInt32) (xe67.A (xe60.A o15)) (by decide) (trivial) (Or.inl (by decide))
                refine lv_aload hx hb dX12_harden_157 (lv_at hl 1 rfl) ?_
                refine lv_aload hx hb dX12_harden_159 (lv_at hl 1 rfl) ?_
                obtain ⟨k94, gk94, hk94⟩ := wGt (cy := cy) X S91 (xe92.A (xe67.A (xe60.A o15))).1 (xe92.A (xe67.A (xe60.A o15))).2.1
                refine va_getN (D := D) (ci := 14) (v := .int (S91.I r13 9)) (C := RX10) (T := TX10) (N := 23) hx hb hts hi_X12_harden_X10 hown hK hP k94 hk94 rfl 9 (by decide) (va_Nw.use rfl (hN (.fieldLinkNest RX12 356 "HobhouseModel$Gear" "stock" "I" "HobhouseModel") (by decide +kernel))) (fun _ h9 => h9) rfl dX12_harden_161 ?_
                obtain ⟨k95, gk95, hk95⟩ := wGt (cy := cy) X S91 (xe92.A (xe67.A (xe60.A o15))).1 (xe92.A (xe67.A (xe60.A o15))).2.1
                refine va_putN (D := D) (ci := 14) (v := .int (S91.I r13 9)) (ty := .int) (C := RX10) (T := TX10) (N := 23) hx hb hts hi_X12_harden_X10 tyX10 tyX10_ok nmX10 hown hK hP hD hS k95 hk95 rfl 15 (by decide) (va_Nw.use rfl (hN (.fieldLinkNest RX12 389 "HobhouseModel$Gear" "had" "I" "HobhouseModel") (by decide +kernel))) (fun _ h9 => h9) rfl (by decide +kernel) (rfl) (rfl) (Nat.le_of_ble_eq_true rfl) dX12_harden_164 (fun H locs hP2 hD2 hS => ?_)
                have e9 := wPuI (cy := cy) (j := 15) (v := (S91.I r13 9)) hD (xe92.A (xe67.A (xe60.A o15))).1 (xe92.A (xe67.A (xe60.A o15))).2.1 gk95 rfl
                obtain ⟨S96, hS96⟩ : ∃ z, S91.sI r13 15 (S91.I r13 9) = z := ⟨_, rfl⟩
                have hP : va_P D vwCl (X ++ PL cy S96) H := by rw [← hS96, ← e9]; exact hP2
                have hD : va_D A (X ++ PL cy S96) := by rw [← hS96, ← e9]; exact hD2
                have xe97 : ext S91 S96 := by rw [← hS96]; exact ext.sI _ _ _ _
                have t98 : stp [(10, 12), (10, 14), (10, 15), (10, 19), (12, 15)] [] [] S S96 := by rw [← hS96]; exact t93.I 15 (S91.I r13 9) (xe92.A (xe67.A (xe60.A o15))) (by decide) (trivial) (Or.inl (by decide))
                refine lv_aload_n hx hb dX12_harden_167 rfl (lv_at hl 2 rfl) ?_
                refine lv_aload hx hb dX12_harden_168 (lv_at hl 1 rfl) ?_
                obtain ⟨k99, gk99, hk99⟩ := wGt (cy := cy) X S96 (xe97.A (xe92.A (xe67.A (xe60.A o15)))).1 (xe97.A (xe92.A (xe67.A (xe60.A o15)))).2.1
                refine va_getN (D := D) (ci := 14) (v := .int (S96.I r13 14)) (C := RX10) (T := TX10) (N := 23) hx hb hts hi_X12_harden_X10 hown hK hP k99 hk99 rfl 14 (by decide) (va_Nw.use rfl (hN (.fieldLinkNest RX12 386 "HobhouseModel$Gear" "need" "I" "HobhouseModel") (by decide +kernel))) (fun _ h9 => h9) rfl dX12_harden_170 ?_
                have hFc := free_all hD hS hA
                obtain ⟨k100, gk100, hk100⟩ := wGt (cy := cy) X S96 ((xe60.tr (xe67.tr (xe92.tr xe97))).A h_o1).1 ((xe60.tr (xe67.tr (xe92.tr xe97))).A h_o1).2.1
                refine va_calli (va_runV (As := [.int (S96.I r13 14)]) (rest := []) ⟨hx, hb, hml, hown, hts⟩ (c_X12_answer l (cy := cy) (X := X) (D := D) S96 _ o1 ((xe60.tr (xe67.tr (xe92.tr xe97))).A h_o1) (S96.I r13 14) (t98.w)) (cwV 1 hts gX12_harden_X12_answer rfl rfl rfl hd_X12_answer ⟨Nat.le_of_ble_eq_true rfl, Nat.le_of_ble_eq_true rfl⟩) (pV (va_recv hK hP (q := (RX12, TX12, 34)) (ci := 16) (q0 := k100) rfl hk100) hP hK hD hN) rfl rfl hl.1 rfl (lv_room (Nat.le_of_ble_eq_true rfl)) dX12_harden_173 ⟨(Nat.zero_le _), (Nat.zero_le _)⟩) hS (fun q _ h => hFc q h) hFc (fun r101 u t H1 locs ht hvm hw hB hz1 hk1 hS => ?_)
                obtain ⟨c102, w103⟩ := hw
                obtain ⟨hP, hD⟩ := wd_post hFc ht hB
                generalize H1 = H at hP hS ⊢
                obtain ⟨S104, rfl⟩ : ∃ z, z = u := ⟨_, rfl⟩
                have t105 : stp [(10, 12), (10, 14), (10, 15), (10, 19), (12, 15)] [] [] S S104 := t98.tr w103 (by decide) (fun _ q => absurd q List.not_mem_nil)
                have xe106 : ext S96 S104 := w103.x
                refine W.widen (k := 0) (n := 0) (Nat.le_of_ble_eq_true rfl) (Nat.le_of_ble_eq_true rfl) ?_
                exact W.iret (v := r101) hx hb hr (fun t ht hW9 => ⟨⟨r101, S104, rfl, t105, wd_end hP hK hD ht hW9.alike⟩, hS.F ht⟩) hS.2.2 dX12_harden_176 hlocks
            · have c49i : ¬ (f_X10_isBroken S r13).toInt = 0 := neq_v rfl rfl c49
              refine lv_aload_n hx hb dX12_harden_71 rfl (lv_at hl 1 rfl) ?_
              refine lv_iconst (v := 3) hx hb dX12_harden_72 (by decide) ?_
              have l32_3 : (3 : Int32).toInt = 3 := rfl
              have hFc := free_all hD hS hA
              obtain ⟨k107, gk107, hk107⟩ := wGt (cy := cy) X S h_o1.1 h_o1.2.1
              refine va_calli (va_runV (As := [.int (3 : Int32)]) (rest := []) ⟨hx, hb, hml, hown, hts⟩ (c_X12_fails l (cy := cy) (X := X) (D := D) S _ o1 h_o1 (3 : Int32) (hW)) (cwV 1 hts gX12_harden_X12_fails rfl rfl rfl hd_X12_fails ⟨Nat.le_of_ble_eq_true rfl, Nat.le_of_ble_eq_true rfl⟩) (pV (va_recv hK hP (q := (RX12, TX12, 34)) (ci := 16) (q0 := k107) rfl hk107) hP hK hD hN) rfl rfl hl.1 rfl (lv_room (Nat.le_of_ble_eq_true rfl)) dX12_harden_73 ⟨(Nat.zero_le _), (Nat.zero_le _)⟩) hS (fun q _ h => hFc q h) hFc (fun r108 u t H1 locs ht hvm hw hB hz1 hk1 hS => ?_)
              obtain ⟨c109, w110⟩ := hw
              obtain ⟨hP, hD⟩ := wd_post hFc ht hB
              generalize H1 = H at hP hS ⊢
              obtain ⟨S111, rfl⟩ : ∃ z, z = u := ⟨_, rfl⟩
              have t112 : stp [(10, 12), (10, 14), (10, 15), (10, 19), (12, 15)] [] [] S S111 := t0.tr w110 (by decide) (fun _ q => absurd q List.not_mem_nil)
              have xe113 : ext S S111 := w110.x
              refine W.widen (k := 0) (n := 0) (Nat.le_of_ble_eq_true rfl) (Nat.le_of_ble_eq_true rfl) ?_
              exact W.iret (v := r108) hx hb hr (fun t ht hW9 => ⟨⟨r108, S111, rfl, t112, wd_end hP hK hD ht hW9.alike⟩, hS.F ht⟩) hS.2.2 dX12_harden_76 hlocks
    · have c11i : (f_X12_in x2.toInt64 (1 : Int64) (99 : Int64)).toInt = 0 := eq_v rfl rfl c11
      refine lv_aload_n hx hb dX12_harden_26 rfl (lv_at hl 0 rfl) ?_
      refine lv_iconst (v := 2) hx hb dX12_harden_27 (by decide) ?_
      have l32_2 : (2 : Int32).toInt = 2 := rfl
      have hFc := free_all hD hS hA
      obtain ⟨k114, gk114, hk114⟩ := wGt (cy := cy) X S h_o1.1 h_o1.2.1
      refine va_calli (va_runV (As := [.int (2 : Int32)]) (rest := []) ⟨hx, hb, hml, hown, hts⟩ (c_X12_fails l (cy := cy) (X := X) (D := D) S _ o1 h_o1 (2 : Int32) (hW)) (cwV 1 hts gX12_harden_X12_fails rfl rfl rfl hd_X12_fails ⟨Nat.le_of_ble_eq_true rfl, Nat.le_of_ble_eq_true rfl⟩) (pV (va_recv hK hP (q := (RX12, TX12, 34)) (ci := 16) (q0 := k114) rfl hk114) hP hK hD hN) rfl rfl hl.1 rfl (lv_room (Nat.le_of_ble_eq_true rfl)) dX12_harden_28 ⟨(Nat.zero_le _), (Nat.zero_le _)⟩) hS (fun q _ h => hFc q h) hFc (fun r115 u t H1 locs ht hvm hw hB hz1 hk1 hS => ?_)
      obtain ⟨c116, w117⟩ := hw
      obtain ⟨hP, hD⟩ := wd_post hFc ht hB
      generalize H1 = H at hP hS ⊢
      obtain ⟨S118, rfl⟩ : ∃ z, z = u := ⟨_, rfl⟩
      have t119 : stp [(10, 12), (10, 14), (10, 15), (10, 19), (12, 15)] [] [] S S118 := t0.tr w117 (by decide) (fun _ q => absurd q List.not_mem_nil)
      have xe120 : ext S S118 := w117.x
      refine W.widen (k := 0) (n := 0) (Nat.le_of_ble_eq_true rfl) (Nat.le_of_ble_eq_true rfl) ?_
      exact W.iret (v := r115) hx hb hr (fun t ht hW9 => ⟨⟨r115, S118, rfl, t119, wd_end hP hK hD ht hW9.alike⟩, hS.F ht⟩) hS.2.2 dX12_harden_31 hlocks
  · have c6i : (f_X12_isGear S o1 x1).toInt = 0 := eq_v rfl rfl c6
    refine lv_aload_n hx hb dX12_harden_8 rfl (lv_at hl 0 rfl) ?_
    refine lv_iconst (v := 1) hx hb dX12_harden_9 (by decide) ?_
    have l32_1 : (1 : Int32).toInt = 1 := rfl
    have hFc := free_all hD hS hA
    obtain ⟨k121, gk121, hk121⟩ := wGt (cy := cy) X S h_o1.1 h_o1.2.1
    refine va_calli (va_runV (As := [.int (1 : Int32)]) (rest := []) ⟨hx, hb, hml, hown, hts⟩ (c_X12_fails l (cy := cy) (X := X) (D := D) S _ o1 h_o1 (1 : Int32) (hW)) (cwV 1 hts gX12_harden_X12_fails rfl rfl rfl hd_X12_fails ⟨Nat.le_of_ble_eq_true rfl, Nat.le_of_ble_eq_true rfl⟩) (pV (va_recv hK hP (q := (RX12, TX12, 34)) (ci := 16) (q0 := k121) rfl hk121) hP hK hD hN) rfl rfl hl.1 rfl (lv_room (Nat.le_of_ble_eq_true rfl)) dX12_harden_10 ⟨(Nat.zero_le _), (Nat.zero_le _)⟩) hS (fun q _ h => hFc q h) hFc (fun r122 u t H1 locs ht hvm hw hB hz1 hk1 hS => ?_)
    obtain ⟨c123, w124⟩ := hw
    obtain ⟨hP, hD⟩ := wd_post hFc ht hB
    generalize H1 = H at hP hS ⊢
    obtain ⟨S125, rfl⟩ : ∃ z, z = u := ⟨_, rfl⟩
    have t126 : stp [(10, 12), (10, 14), (10, 15), (10, 19), (12, 15)] [] [] S S125 := t0.tr w124 (by decide) (fun _ q => absurd q List.not_mem_nil)
    have xe127 : ext S S125 := w124.x
    refine W.widen (k := 0) (n := 0) (Nat.le_of_ble_eq_true rfl) (Nat.le_of_ble_eq_true rfl) ?_
    exact W.iret (v := r122) hx hb hr (fun t ht hW9 => ⟨⟨r122, S125, rfl, t126, wd_end hP hK hD ht hW9.alike⟩, hS.F ht⟩) hS.2.2 dX12_harden_13 hlocks
theorem hd_X12_caseOf : yX12_caseOf.cls = RX12 ∧ yX12_caseOf.cls ≠ "java/lang/invoke/MethodHandle" ∧ yX12_caseOf.cls ≠ "java/lang/invoke/VarHandle" ∧ (parseMethodDescriptor yX12_caseOf.desc).map (fun d => d.parameters.length) = some 1 := by decide +kernel
set_option maxHeartbeats 4000000 in
set_option maxRecDepth 100000 in
theorem c_X12_caseOf (l : Launch) {D : va_G} {cy : Nat → ClassId} {X : va_W} (S : wPS) (sz : Nat) (o1 : Nat) (h_o1 : isA S o1 12) (x1 : Int32) (hW : wtB S [])  : Met l yX12_caseOf wsX12_caseOf ({ frames := 4, cells := 0, slots := 0, locals := 85 }) (va_Pc [.ref o1, .int x1] (fun U => U.heap.size = sz ∧ WD D cy X (fun _ => True) S U ∧ NW U)) (va_Qi (fun r (u : wPS) => stp [(12, 15)] [] [] S u) (fun u t => WD D cy X (va_A (X ++ PL cy S) sz) u t) (va_A (X ++ PL cy S) sz)) 0 0 (va_A (X ++ PL cy S) sz) := by
  refine Met.ofW (cc := cX12_caseOf) (maxL := 2) (ret := (some .int)) (by decide) rfl ?_
  intro p e s m args below meth c s₁ B hml hv
  obtain ⟨rfl, hsz, ⟨hP, hK, hD0⟩, hN⟩ := hv
  have hx := B.exec
  have hb := B.bytes
  have hr := B.returns
  have hts := atoms_spec (ws := wsX12_caseOf) B.pre
  have hown : s.vm.findClass RX12 = some m.cls := findClass_of_methodNamed (x := yX12_caseOf) B.named
  have hlocks := B.notSynchronized
  subst hsz
  have hD := hD0.self (sz := s.heap.size)
  generalize hAe : va_A (X ++ PL cy S) s.heap.size = A at hD ⊢
  have hA : ∀ q : Nat, s.heap.size ≤ q → A q := fun q h => by rw [← hAe]; exact Or.inr h
  have hS : va_S A s.heap s.heap [] := va_S.rf
  have hl := lv_entry ([.ref o1, .int x1]) (n := 2) (Nat.le_of_ble_eq_true rfl)
  rw [lg_entry_eq]
  generalize (lg_sl ([.ref o1, .int x1]) ++ List.replicate (2 - (lg_sl ([.ref o1, .int x1])).length) Slot.unset).toArray = ls at hl ⊢
  have hl : lv_has ls 2 [(0, .ref o1), (1, .int x1)] := hl
  have t0 : stp [(12, 15)] [] [] S S := stp.rf hW
  refine lv_aload_n hx hb dX12_caseOf_0 rfl (lv_at hl 0 rfl) ?_
  refine lv_iload_n hx hb dX12_caseOf_1 rfl (lv_at hl 1 rfl) ?_
  have hFc := free_all hD hS hA
  obtain ⟨k1, gk1, hk1⟩ := wGt (cy := cy) X S h_o1.1 h_o1.2.1
  refine va_calli (va_runV (As := [.int x1]) (rest := []) ⟨hx, hb, hml, hown, hts⟩ (c_X12_isGear l (cy := cy) (X := X) (D := D) S _ o1 h_o1 x1 (hW)) (cwV 1 hts gX12_caseOf_X12_isGear rfl rfl rfl hd_X12_isGear ⟨Nat.le_of_ble_eq_true rfl, Nat.le_of_ble_eq_true rfl⟩) (pV (va_recv hK hP (q := (RX12, TX12, 34)) (ci := 16) (q0 := k1) rfl hk1) hP hK hD hN) rfl rfl hl.1 rfl (lv_room (Nat.le_of_ble_eq_true rfl)) dX12_caseOf_2 ⟨(Nat.zero_le _), (Nat.zero_le _)⟩) hS (fun q _ h => hFc q h) hFc (fun r2 u t H1 locs ht hvm hw hB hz1 hk1 hS => ?_)
  have c3 := hw
  obtain ⟨hP, hD⟩ := wd_post hFc ht hB
  generalize H1 = H at hP hS ⊢
  obtain rfl : f_X12_isGear S o1 x1 = r2 := c3.symm
  have F4 := ((hW.at h_o1 List.not_mem_nil).to_12 h_o1.2.1).F0
  have i5 : (f_X12_isGear S o1 x1).toInt = 0 ∨ (0 ≤ x1.toInt ∧ x1.toInt < (S.I (S.f o1 0) 2).toInt) := by have h9 := ig_rng x1 ((hW.at h_o1 List.not_mem_nil).to_12 h_o1.2.1) hW; rw [f_of F4.1] at h9; exact h9
  refine lv_if_eq (tgt := 23) hx hb dX12_caseOf_5 (by decide) (fun c6 => ?_) (fun c6 => ?_)
  · have c6i : (f_X12_isGear S o1 x1).toInt = 0 := eq_v rfl rfl c6
    refine lv_aload_n hx hb dX12_caseOf_23 rfl (lv_at hl 0 rfl) ?_
    refine lv_iconst (v := 1) hx hb dX12_caseOf_24 (by decide) ?_
    have l32_1 : (1 : Int32).toInt = 1 := rfl
    have hFc := free_all hD hS hA
    obtain ⟨k7, gk7, hk7⟩ := wGt (cy := cy) X S h_o1.1 h_o1.2.1
    refine va_calli (va_runV (As := [.int (1 : Int32)]) (rest := []) ⟨hx, hb, hml, hown, hts⟩ (c_X12_fails l (cy := cy) (X := X) (D := D) S _ o1 h_o1 (1 : Int32) (hW)) (cwV 1 hts gX12_caseOf_X12_fails rfl rfl rfl hd_X12_fails ⟨Nat.le_of_ble_eq_true rfl, Nat.le_of_ble_eq_true rfl⟩) (pV (va_recv hK hP (q := (RX12, TX12, 34)) (ci := 16) (q0 := k7) rfl hk7) hP hK hD hN) rfl rfl hl.1 rfl (lv_room (Nat.le_of_ble_eq_true rfl)) dX12_caseOf_25 ⟨(Nat.zero_le _), (Nat.zero_le _)⟩) hS (fun q _ h => hFc q h) hFc (fun r8 u t H1 locs ht hvm hw hB hz1 hk1 hS => ?_)
    obtain ⟨c9, w10⟩ := hw
    obtain ⟨hP, hD⟩ := wd_post hFc ht hB
    generalize H1 = H at hP hS ⊢
    obtain ⟨S11, rfl⟩ : ∃ z, z = u := ⟨_, rfl⟩
    have t12 : stp [(12, 15)] [] [] S S11 := t0.tr w10 (by decide) (fun _ q => absurd q List.not_mem_nil)
    have xe13 : ext S S11 := w10.x
    refine W.widen (k := 0) (n := 0) (Nat.le_of_ble_eq_true rfl) (Nat.le_of_ble_eq_true rfl) ?_
    exact W.iret (v := r8) hx hb hr (fun t ht hW9 => ⟨⟨r8, S11, rfl, t12, wd_end hP hK hD ht hW9.alike⟩, hS.F ht⟩) hS.2.2 dX12_caseOf_28 hlocks
  · have c6i : ¬ (f_X12_isGear S o1 x1).toInt = 0 := neq_v rfl rfl c6
    refine lv_aload_n hx hb dX12_caseOf_8 rfl (lv_at hl 0 rfl) ?_
    refine lv_aload_n hx hb dX12_caseOf_9 rfl (lv_at hl 0 rfl) ?_
    refine lv_iload_n hx hb dX12_caseOf_10 rfl (lv_at hl 1 rfl) ?_
    have hFc := free_all hD hS hA
    obtain ⟨k14, gk14, hk14⟩ := wGt (cy := cy) X S h_o1.1 h_o1.2.1
    refine va_callq (va_runV (As := [.int x1]) (rest := [.ref o1]) ⟨hx, hb, hml, hown, hts⟩ (c_X12_gearAt l (cy := cy) (X := X) (D := D) S _ o1 h_o1 x1 (hW) (by rw [f_of F4.1]; omega)) (cwV 1 hts gX12_caseOf_X12_gearAt rfl rfl rfl hd_X12_gearAt ⟨Nat.le_of_ble_eq_true rfl, Nat.le_of_ble_eq_true rfl⟩) (pV (va_recv hK hP (q := (RX12, TX12, 34)) (ci := 16) (q0 := k14) rfl hk14) hP hK hD hN) rfl rfl hl.1 rfl (lv_room (Nat.le_of_ble_eq_true rfl)) dX12_caseOf_11 ⟨(Nat.zero_le _), (Nat.zero_le _)⟩) hS (fun q _ h => hFc q h) hFc (fun r15 u t H1 locs ht hvm hw hB hz1 hk1 hS => ?_)
    obtain ⟨r15, rfl, c16, o17⟩ := hw
    obtain ⟨hP, hD⟩ := wd_post hFc ht hB
    generalize H1 = H at hP hS ⊢
    refine W.eq (g2 := F0 m 14 ls [.ref r15, .ref o1]) rfl ?_
    have hFc := free_all hD hS hA
    obtain ⟨k18, gk18, hk18⟩ := wGt (cy := cy) X S o17.1 o17.2.1
    refine va_calli (va_runV (As := []) (rest := [.ref o1]) ⟨hx, hb, hml, hown, hts⟩ (c_X10_caseLeft l (cy := cy) (X := X) (D := D) S _ r15 o17) (cwV 0 hts gX12_caseOf_X10_caseLeft rfl rfl rfl hd_X10_caseLeft ⟨Nat.le_of_ble_eq_true rfl, Nat.le_of_ble_eq_true rfl⟩) (pV (va_recv hK hP (q := (RX10, TX10, 23)) (ci := 14) (q0 := k18) rfl hk18) hP hK hD hN) rfl rfl hl.1 rfl (lv_room (Nat.le_of_ble_eq_true rfl)) dX12_caseOf_14 ⟨(Nat.zero_le _), (Nat.zero_le _)⟩) hS (fun q _ h => hFc q h) hFc (fun r19 u t H1 locs ht hvm hw hB hz1 hk1 hS => ?_)
    clear hw
    obtain ⟨hP, hD⟩ := wd_post hFc ht hB
    generalize H1 = H at hP hS ⊢
    have hFc := free_all hD hS hA
    obtain ⟨k20, gk20, hk20⟩ := wGt (cy := cy) X S h_o1.1 h_o1.2.1
    refine va_calli (va_runV (As := [.int r19]) (rest := []) ⟨hx, hb, hml, hown, hts⟩ (c_X12_answer l (cy := cy) (X := X) (D := D) S _ o1 h_o1 r19 (hW)) (cwV 1 hts gX12_caseOf_X12_answer rfl rfl rfl hd_X12_answer ⟨Nat.le_of_ble_eq_true rfl, Nat.le_of_ble_eq_true rfl⟩) (pV (va_recv hK hP (q := (RX12, TX12, 34)) (ci := 16) (q0 := k20) rfl hk20) hP hK hD hN) rfl rfl hl.1 rfl (lv_room (Nat.le_of_ble_eq_true rfl)) dX12_caseOf_17 ⟨(Nat.zero_le _), (Nat.zero_le _)⟩) hS (fun q _ h => hFc q h) hFc (fun r21 u t H1 locs ht hvm hw hB hz1 hk1 hS => ?_)
    obtain ⟨c22, w23⟩ := hw
    obtain ⟨hP, hD⟩ := wd_post hFc ht hB
    generalize H1 = H at hP hS ⊢
    obtain ⟨S24, rfl⟩ : ∃ z, z = u := ⟨_, rfl⟩
    have t25 : stp [(12, 15)] [] [] S S24 := t0.tr w23 (by decide) (fun _ q => absurd q List.not_mem_nil)
    have xe26 : ext S S24 := w23.x
    refine lv_goto (tgt := 28) hx hb dX12_caseOf_20 (by decide) ?_
    refine W.widen (k := 0) (n := 0) (Nat.le_of_ble_eq_true rfl) (Nat.le_of_ble_eq_true rfl) ?_
    exact W.iret (v := r21) hx hb hr (fun t ht hW9 => ⟨⟨r21, S24, rfl, t25, wd_end hP hK hD ht hW9.alike⟩, hS.F ht⟩) hS.2.2 dX12_caseOf_28 hlocks
theorem hi_X12_isClean_X10 : ∀ w ∈ u_ws RX10 TX10 23, w ∈ wsX12_isClean := by decide +kernel
theorem hd_X12_isClean : yX12_isClean.cls = RX12 ∧ yX12_isClean.cls ≠ "java/lang/invoke/MethodHandle" ∧ yX12_isClean.cls ≠ "java/lang/invoke/VarHandle" ∧ (parseMethodDescriptor yX12_isClean.desc).map (fun d => d.parameters.length) = some 1 := by decide +kernel
set_option maxHeartbeats 4000000 in
set_option maxRecDepth 100000 in
theorem c_X12_isClean (l : Launch) {D : va_G} {cy : Nat → ClassId} {X : va_W} (S : wPS) (sz : Nat) (o1 : Nat) (h_o1 : isA S o1 12) (x1 : Int32) (hW : wtB S [])  : Met l yX12_isClean wsX12_isClean ({ frames := 4, cells := 0, slots := 0, locals := 85 }) (va_Pc [.ref o1, .int x1] (fun U => U.heap.size = sz ∧ WD D cy X (fun _ => True) S U ∧ NW U)) (va_Qi (fun r (u : wPS) => stp [(12, 15)] [] [] S u ∧ narrow .boolean (.int r) = .int r) (fun u t => WD D cy X (va_A (X ++ PL cy S) sz) u t) (va_A (X ++ PL cy S) sz)) 0 0 (va_A (X ++ PL cy S) sz) := by
  refine Met.ofW (cc := cX12_isClean) (maxL := 2) (ret := (some .boolean)) (by decide) rfl ?_
  intro p e s m args below meth c s₁ B hml hv
  obtain ⟨rfl, hsz, ⟨hP, hK, hD0⟩, hN⟩ := hv
  have hx := B.exec
  have hb := B.bytes
  have hr := B.returns
  have hts := atoms_spec (ws := wsX12_isClean) B.pre
  have hown : s.vm.findClass RX12 = some m.cls := findClass_of_methodNamed (x := yX12_isClean) B.named
  have hlocks := B.notSynchronized
  subst hsz
  have hD := hD0.self (sz := s.heap.size)
  generalize hAe : va_A (X ++ PL cy S) s.heap.size = A at hD ⊢
  have hA : ∀ q : Nat, s.heap.size ≤ q → A q := fun q h => by rw [← hAe]; exact Or.inr h
  have hS : va_S A s.heap s.heap [] := va_S.rf
  have hl := lv_entry ([.ref o1, .int x1]) (n := 2) (Nat.le_of_ble_eq_true rfl)
  rw [lg_entry_eq]
  generalize (lg_sl ([.ref o1, .int x1]) ++ List.replicate (2 - (lg_sl ([.ref o1, .int x1])).length) Slot.unset).toArray = ls at hl ⊢
  have hl : lv_has ls 2 [(0, .ref o1), (1, .int x1)] := hl
  have t0 : stp [(12, 15)] [] [] S S := stp.rf hW
  refine lv_aload_n hx hb dX12_isClean_0 rfl (lv_at hl 0 rfl) ?_
  refine lv_iload_n hx hb dX12_isClean_1 rfl (lv_at hl 1 rfl) ?_
  have hFc := free_all hD hS hA
  obtain ⟨k1, gk1, hk1⟩ := wGt (cy := cy) X S h_o1.1 h_o1.2.1
  refine va_calli (va_runV (As := [.int x1]) (rest := []) ⟨hx, hb, hml, hown, hts⟩ (c_X12_isGear l (cy := cy) (X := X) (D := D) S _ o1 h_o1 x1 (hW)) (cwV 1 hts gX12_isClean_X12_isGear rfl rfl rfl hd_X12_isGear ⟨Nat.le_of_ble_eq_true rfl, Nat.le_of_ble_eq_true rfl⟩) (pV (va_recv hK hP (q := (RX12, TX12, 34)) (ci := 16) (q0 := k1) rfl hk1) hP hK hD hN) rfl rfl hl.1 rfl (lv_room (Nat.le_of_ble_eq_true rfl)) dX12_isClean_2 ⟨(Nat.zero_le _), (Nat.zero_le _)⟩) hS (fun q _ h => hFc q h) hFc (fun r2 u t H1 locs ht hvm hw hB hz1 hk1 hS => ?_)
  have c3 := hw
  obtain ⟨hP, hD⟩ := wd_post hFc ht hB
  generalize H1 = H at hP hS ⊢
  obtain rfl : f_X12_isGear S o1 x1 = r2 := c3.symm
  have F4 := ((hW.at h_o1 List.not_mem_nil).to_12 h_o1.2.1).F0
  have i5 : (f_X12_isGear S o1 x1).toInt = 0 ∨ (0 ≤ x1.toInt ∧ x1.toInt < (S.I (S.f o1 0) 2).toInt) := by have h9 := ig_rng x1 ((hW.at h_o1 List.not_mem_nil).to_12 h_o1.2.1) hW; rw [f_of F4.1] at h9; exact h9
  refine lv_if_ne (tgt := 14) hx hb dX12_isClean_5 (by decide) (fun c6 => ?_) (fun c6 => ?_)
  · have c6i : ¬ (f_X12_isGear S o1 x1).toInt = 0 := neq_v rfl rfl c6
    refine lv_aload_n hx hb dX12_isClean_14 rfl (lv_at hl 0 rfl) ?_
    refine lv_iload_n hx hb dX12_isClean_15 rfl (lv_at hl 1 rfl) ?_
    have hFc := free_all hD hS hA
    obtain ⟨k7, gk7, hk7⟩ := wGt (cy := cy) X S h_o1.1 h_o1.2.1
    refine va_callq (va_runV (As := [.int x1]) (rest := []) ⟨hx, hb, hml, hown, hts⟩ (c_X12_gearAt l (cy := cy) (X := X) (D := D) S _ o1 h_o1 x1 (hW) (by rw [f_of F4.1]; omega)) (cwV 1 hts gX12_isClean_X12_gearAt rfl rfl rfl hd_X12_gearAt ⟨Nat.le_of_ble_eq_true rfl, Nat.le_of_ble_eq_true rfl⟩) (pV (va_recv hK hP (q := (RX12, TX12, 34)) (ci := 16) (q0 := k7) rfl hk7) hP hK hD hN) rfl rfl hl.1 rfl (lv_room (Nat.le_of_ble_eq_true rfl)) dX12_isClean_16 ⟨(Nat.zero_le _), (Nat.zero_le _)⟩) hS (fun q _ h => hFc q h) hFc (fun r8 u t H1 locs ht hvm hw hB hz1 hk1 hS => ?_)
    obtain ⟨r8, rfl, c9, o10⟩ := hw
    obtain ⟨hP, hD⟩ := wd_post hFc ht hB
    generalize H1 = H at hP hS ⊢
    refine W.eq (g2 := F0 m 19 ls [.ref r8]) rfl ?_
    obtain ⟨k11, gk11, hk11⟩ := wGt (cy := cy) X S o10.1 o10.2.1
    have i12 := ((hW.at o10 List.not_mem_nil).to_10 o10.2.1).R19
    refine va_getN (D := D) (ci := 14) (v := .int (S.I r8 19)) (C := RX10) (T := TX10) (N := 23) hx hb hts hi_X12_isClean_X10 hown hK hP k11 hk11 rfl 19 (by decide) (va_Nw.use rfl (hN (.fieldLinkNest RX12 369 "HobhouseModel$Gear" "isHard" "Z" "HobhouseModel") (by decide +kernel))) (fun _ h9 => h9) rfl dX12_isClean_19 ?_
    refine lv_if_eq (tgt := 56) hx hb dX12_isClean_22 (by decide) (fun c13 => ?_) (fun c13 => ?_)
    · have c13i : (S.I r8 19).toInt = 0 := eq_v rfl rfl c13
      refine lv_aload_n hx hb dX12_isClean_56 rfl (lv_at hl 0 rfl) ?_
      refine lv_iconst (v := 2) hx hb dX12_isClean_57 (by decide) ?_
      have l32_2 : (2 : Int32).toInt = 2 := rfl
      have hFc := free_all hD hS hA
      obtain ⟨k14, gk14, hk14⟩ := wGt (cy := cy) X S h_o1.1 h_o1.2.1
      refine va_calli (va_runV (As := [.int (2 : Int32)]) (rest := []) ⟨hx, hb, hml, hown, hts⟩ (c_X12_refuses l (cy := cy) (X := X) (D := D) S _ o1 h_o1 (2 : Int32) (hW)) (cwV 1 hts gX12_isClean_X12_refuses rfl rfl rfl hd_X12_refuses ⟨Nat.le_of_ble_eq_true rfl, Nat.le_of_ble_eq_true rfl⟩) (pV (va_recv hK hP (q := (RX12, TX12, 34)) (ci := 16) (q0 := k14) rfl hk14) hP hK hD hN) rfl rfl hl.1 rfl (lv_room (Nat.le_of_ble_eq_true rfl)) dX12_isClean_58 ⟨(Nat.zero_le _), (Nat.zero_le _)⟩) hS (fun q _ h => hFc q h) hFc (fun r15 u t H1 locs ht hvm hw hB hz1 hk1 hS => ?_)
      obtain ⟨c16, w17, y18⟩ := hw
      obtain ⟨hP, hD⟩ := wd_post hFc ht hB
      generalize H1 = H at hP hS ⊢
      obtain ⟨S19, rfl⟩ : ∃ z, z = u := ⟨_, rfl⟩
      have t20 : stp [(12, 15)] [] [] S S19 := t0.tr w17 (by decide) (fun _ q => absurd q List.not_mem_nil)
      have xe21 : ext S S19 := w17.x
      refine W.widen (k := 0) (n := 0) (Nat.le_of_ble_eq_true rfl) (Nat.le_of_ble_eq_true rfl) ?_
      exact W.zret (v := r15) hx hb hr (y18) (fun t ht hW9 => ⟨⟨r15, S19, rfl, ⟨t20, (y18)⟩, wd_end hP hK hD ht hW9.alike⟩, hS.F ht⟩) hS.2.2 dX12_isClean_61 hlocks
    · have c13i : ¬ (S.I r8 19).toInt = 0 := neq_v rfl rfl c13
      refine lv_aload_n hx hb dX12_isClean_25 rfl (lv_at hl 0 rfl) ?_
      refine lv_aload_n hx hb dX12_isClean_26 rfl (lv_at hl 0 rfl) ?_
      refine lv_iload_n hx hb dX12_isClean_27 rfl (lv_at hl 1 rfl) ?_
      have hFc := free_all hD hS hA
      obtain ⟨k22, gk22, hk22⟩ := wGt (cy := cy) X S h_o1.1 h_o1.2.1
      refine va_callq (va_runV (As := [.int x1]) (rest := [.ref o1]) ⟨hx, hb, hml, hown, hts⟩ (c_X12_gearAt l (cy := cy) (X := X) (D := D) S _ o1 h_o1 x1 (hW) (by rw [f_of F4.1]; omega)) (cwV 1 hts gX12_isClean_X12_gearAt rfl rfl rfl hd_X12_gearAt ⟨Nat.le_of_ble_eq_true rfl, Nat.le_of_ble_eq_true rfl⟩) (pV (va_recv hK hP (q := (RX12, TX12, 34)) (ci := 16) (q0 := k22) rfl hk22) hP hK hD hN) rfl rfl hl.1 rfl (lv_room (Nat.le_of_ble_eq_true rfl)) dX12_isClean_28 ⟨(Nat.zero_le _), (Nat.zero_le _)⟩) hS (fun q _ h => hFc q h) hFc (fun r23 u t H1 locs ht hvm hw hB hz1 hk1 hS => ?_)
      obtain ⟨r23, rfl, c24, o25⟩ := hw
      obtain ⟨hP, hD⟩ := wd_post hFc ht hB
      generalize H1 = H at hP hS ⊢
      refine W.eq (g2 := F0 m 31 ls [.ref r23, .ref o1]) rfl ?_
      obtain ⟨k26, gk26, hk26⟩ := wGt (cy := cy) X S o25.1 o25.2.1
      refine va_getN (D := D) (ci := 14) (v := .int (S.I r23 15)) (C := RX10) (T := TX10) (N := 23) hx hb hts hi_X12_isClean_X10 hown hK hP k26 hk26 rfl 15 (by decide) (va_Nw.use rfl (hN (.fieldLinkNest RX12 389 "HobhouseModel$Gear" "had" "I" "HobhouseModel") (by decide +kernel))) (fun _ h9 => h9) rfl dX12_isClean_31 ?_
      refine lv_aload_n hx hb dX12_isClean_34 rfl (lv_at hl 0 rfl) ?_
      refine lv_iload_n hx hb dX12_isClean_35 rfl (lv_at hl 1 rfl) ?_
      have hFc := free_all hD hS hA
      obtain ⟨k27, gk27, hk27⟩ := wGt (cy := cy) X S h_o1.1 h_o1.2.1
      refine va_callq (va_runV (As := [.int x1]) (rest := [.int (S.I r23 15), .ref o1]) ⟨hx, hb, hml, hown, hts⟩ (c_X12_gearAt l (cy := cy) (X := X) (D := D) S _ o1 h_o1 x1 (hW) (by rw [f_of F4.1]; omega)) (cwV 1 hts gX12_isClean_X12_gearAt rfl rfl rfl hd_X12_gearAt ⟨Nat.le_of_ble_eq_true rfl, Nat.le_of_ble_eq_true rfl⟩) (pV (va_recv hK hP (q := (RX12, TX12, 34)) (ci := 16) (q0 := k27) rfl hk27) hP hK hD hN) rfl rfl hl.1 rfl (lv_room (Nat.le_of_ble_eq_true rfl)) dX12_isClean_36 ⟨(Nat.zero_le _), (Nat.zero_le _)⟩) hS (fun q _ h => hFc q h) hFc (fun r28 u t H1 locs ht hvm hw hB hz1 hk1 hS => ?_)
      obtain ⟨r28, rfl, c29, o30⟩ := hw
      obtain ⟨hP, hD⟩ := wd_post hFc ht hB
      generalize H1 = H at hP hS ⊢
      refine W.eq (g2 := F0 m 39 ls [.ref r28, .int (S.I r23 15), .ref o1]) rfl ?_
      obtain ⟨k31, gk31, hk31⟩ := wGt (cy := cy) X S o30.1 o30.2.1
      refine va_getN (D := D) (ci := 14) (v := .int (S.I r28 14)) (C := RX10) (T := TX10) (N := 23) hx hb hts hi_X12_isClean_X10 hown hK hP k31 hk31 rfl 14 (by decide) (va_Nw.use rfl (hN (.fieldLinkNest RX12 386 "HobhouseModel$Gear" "need" "I" "HobhouseModel") (by decide +kernel))) (fun _ h9 => h9) rfl dX12_isClean_39 ?_
      refine lv_icmp_lt (tgt := 49) hx hb dX12_isClean_42 (by decide) (fun c32 => ?_) (fun c32 => ?_)
      · have c32i : (S.I r23 15).toInt < (S.I r28 14).toInt := lt_v rfl rfl c32
        refine lv_iconst (v := 0) hx hb dX12_isClean_49 (by decide) ?_
        have l32_0 : (0 : Int32).toInt = 0 := rfl
        have hFc := free_all hD hS hA
        obtain ⟨k33, gk33, hk33⟩ := wGt (cy := cy) X S h_o1.1 h_o1.2.1
        refine va_calli (va_runV (As := [.int (0 : Int32)]) (rest := []) ⟨hx, hb, hml, hown, hts⟩ (c_X12_says l (cy := cy) (X := X) (D := D) S _ o1 h_o1 (0 : Int32) (hW) (by rfl)) (cwV 1 hts gX12_isClean_X12_says rfl rfl rfl hd_X12_says ⟨Nat.le_of_ble_eq_true rfl, Nat.le_of_ble_eq_true rfl⟩) (pV (va_recv hK hP (q := (RX12, TX12, 34)) (ci := 16) (q0 := k33) rfl hk33) hP hK hD hN) rfl rfl hl.1 rfl (lv_room (Nat.le_of_ble_eq_true rfl)) dX12_isClean_50 ⟨(Nat.zero_le _), (Nat.zero_le _)⟩) hS (fun q _ h => hFc q h) hFc (fun r34 u t H1 locs ht hvm hw hB hz1 hk1 hS => ?_)
        obtain ⟨c35, w36, y37⟩ := hw
        obtain ⟨hP, hD⟩ := wd_post hFc ht hB
        generalize H1 = H at hP hS ⊢
        obtain ⟨S38, rfl⟩ : ∃ z, z = u := ⟨_, rfl⟩
        have t39 : stp [(12, 15)] [] [] S S38 := t0.tr w36 (by decide) (fun _ q => absurd q List.not_mem_nil)
        have xe40 : ext S S38 := w36.x
        refine lv_goto (tgt := 61) hx hb dX12_isClean_53 (by decide) ?_
        refine W.widen (k := 0) (n := 0) (Nat.le_of_ble_eq_true rfl) (Nat.le_of_ble_eq_true rfl) ?_
        exact W.zret (v := r34) hx hb hr (y37) (fun t ht hW9 => ⟨⟨r34, S38, rfl, ⟨t39, (y37)⟩, wd_end hP hK hD ht hW9.alike⟩, hS.F ht⟩) hS.2.2 dX12_isClean_61 hlocks
      · have c32i : (S.I r28 14).toInt ≤ (S.I r23 15).toInt := nlt_v rfl rfl c32
        refine lv_iconst (v := 1) hx hb dX12_isClean_45 (by decide) ?_
        refine lv_goto (tgt := 50) hx hb dX12_isClean_46 (by decide) ?_
        have l32_1 : (1 : Int32).toInt = 1 := rfl
        have hFc := free_all hD hS hA
        obtain ⟨k41, gk41, hk41⟩ := wGt (cy := cy) X S h_o1.1 h_o1.2.1
        refine va_calli (va_runV (As := [.int (1 : Int32)]) (rest := []) ⟨hx, hb, hml, hown, hts⟩ (c_X12_says l (cy := cy) (X := X) (D := D) S _ o1 h_o1 (1 : Int32) (hW) (by rfl)) (cwV 1 hts gX12_isClean_X12_says rfl rfl rfl hd_X12_says ⟨Nat.le_of_ble_eq_true rfl, Nat.le_of_ble_eq_true rfl⟩) (pV (va_recv hK hP (q := (RX12, TX12, 34)) (ci := 16) (q0 := k41) rfl hk41) hP hK hD hN) rfl rfl hl.1 rfl (lv_room (Nat.le_of_ble_eq_true rfl)) dX12_isClean_50 ⟨(Nat.zero_le _), (Nat.zero_le _)⟩) hS (fun q _ h => hFc q h) hFc (fun r42 u t H1 locs ht hvm hw hB hz1 hk1 hS => ?_)
        obtain ⟨c43, w44, y45⟩ := hw
        obtain ⟨hP, hD⟩ := wd_post hFc ht hB
        generalize H1 = H at hP hS ⊢
        obtain ⟨S46, rfl⟩ : ∃ z, z = u := ⟨_, rfl⟩
        have t47 : stp [(12, 15)] [] [] S S46 := t0.tr w44 (by decide) (fun _ q => absurd q List.not_mem_nil)
        have xe48 : ext S S46 := w44.x
        refine lv_goto (tgt := 61) hx hb dX12_isClean_53 (by decide) ?_
        refine W.widen (k := 0) (n := 0) (Nat.le_of_ble_eq_true rfl) (Nat.le_of_ble_eq_true rfl) ?_
        exact W.zret (v := r42) hx hb hr (y45) (fun t ht hW9 => ⟨⟨r42, S46, rfl, ⟨t47, (y45)⟩, wd_end hP hK hD ht hW9.alike⟩, hS.F ht⟩) hS.2.2 dX12_isClean_61 hlocks
  · have c6i : (f_X12_isGear S o1 x1).toInt = 0 := eq_v rfl rfl c6
    refine lv_aload_n hx hb dX12_isClean_8 rfl (lv_at hl 0 rfl) ?_
    refine lv_iconst (v := 1) hx hb dX12_isClean_9 (by decide) ?_
    have l32_1 : (1 : Int32).toInt = 1 := rfl
    have hFc := free_all hD hS hA
    obtain ⟨k49, gk49, hk49⟩ := wGt (cy := cy) X S h_o1.1 h_o1.2.1
    refine va_calli (va_runV (As := [.int (1 : Int32)]) (rest := []) ⟨hx, hb, hml, hown, hts⟩ (c_X12_refuses l (cy := cy) (X := X) (D := D) S _ o1 h_o1 (1 : Int32) (hW)) (cwV 1 hts gX12_isClean_X12_refuses rfl rfl rfl hd_X12_refuses ⟨Nat.le_of_ble_eq_true rfl, Nat.le_of_ble_eq_true rfl⟩) (pV (va_recv hK hP (q := (RX12, TX12, 34)) (ci := 16) (q0 := k49) rfl hk49) hP hK hD hN) rfl rfl hl.1 rfl (lv_room (Nat.le_of_ble_eq_true rfl)) dX12_isClean_10 ⟨(Nat.zero_le _), (Nat.zero_le _)⟩) hS (fun q _ h => hFc q h) hFc (fun r50 u t H1 locs ht hvm hw hB hz1 hk1 hS => ?_)
    obtain ⟨c51, w52, y53⟩ := hw
    obtain ⟨hP, hD⟩ := wd_post hFc ht hB
    generalize H1 = H at hP hS ⊢
    obtain ⟨S54, rfl⟩ : ∃ z, z = u := ⟨_, rfl⟩
    have t55 : stp [(12, 15)] [] [] S S54 := t0.tr w52 (by decide) (fun _ q => absurd q List.not_mem_nil)
    have xe56 : ext S S54 := w52.x
    refine W.widen (k := 0) (n := 0) (Nat.le_of_ble_eq_true rfl) (Nat.le_of_ble_eq_true rfl) ?_
    exact W.zret (v := r50) hx hb hr (y53) (fun t ht hW9 => ⟨⟨r50, S54, rfl, ⟨t55, (y53)⟩, wd_end hP hK hD ht hW9.alike⟩, hS.F ht⟩) hS.2.2 dX12_isClean_13 hlocks
theorem hi_X12_grind_X10 : ∀ w ∈ u_ws RX10 TX10 23, w ∈ wsX12_grind := by decide +kernel
theorem hd_X12_grind : yX12_grind.cls = RX12 ∧ yX12_grind.cls ≠ "java/lang/invoke/MethodHandle" ∧ yX12_grind.cls ≠ "java/lang/invoke/VarHandle" ∧ (parseMethodDescriptor yX12_grind.desc).map (fun d => d.parameters.length) = some 3 := by decide +kernel
set_option maxHeartbeats 4000000 in
set_option maxRecDepth 100000 in
theorem c_X12_grind (l : Launch) {D : va_G} {cy : Nat → ClassId} {X : va_W} (S : wPS) (sz : Nat) (o1 : Nat) (h_o1 : isA S o1 12) (x1 : Int32) (x2 : Int32) (x3 : Int32) (hW : wtB S [])  : Met l yX12_grind wsX12_grind ({ frames := 4, cells := 0, slots := 0, locals := 85 }) (va_Pc [.ref o1, .int x1, .int x2, .int x3] (fun U => U.heap.size = sz ∧ WD D cy X (fun _ => True) S U ∧ NW U)) (va_Qi (fun r (u : wPS) => stp [(10, 9), (10, 13), (10, 20), (10, 21), (12, 15)] [] [] S u) (fun u t => WD D cy X (va_A (X ++ PL cy S) sz) u t) (va_A (X ++ PL cy S) sz)) 0 0 (va_A (X ++ PL cy S) sz) := by
  refine Met.ofW (cc := cX12_grind) (maxL := 6) (ret := (some .int)) (by decide) rfl ?_
  intro p e s m args below meth c s₁ B hml hv
  obtain ⟨rfl, hsz, ⟨hP, hK, hD0⟩, hN⟩ := hv
  have hx := B.exec
  have hb := B.bytes
  have hr := B.returns
  have hts := atoms_spec (ws := wsX12_grind) B.pre
  have hown : s.vm.findClass RX12 = some m.cls := findClass_of_methodNamed (x := yX12_grind) B.named
  have hlocks := B.notSynchronized
  subst hsz
  have hD := hD0.self (sz := s.heap.size)
  generalize hAe : va_A (X ++ PL cy S) s.heap.size = A at hD ⊢
  have hA : ∀ q : Nat, s.heap.size ≤ q → A q := fun q h => by rw [← hAe]; exact Or.inr h
  have hS : va_S A s.heap s.heap [] := va_S.rf
  have hl := lv_entry ([.ref o1, .int x1, .int x2, .int x3]) (n := 6) (Nat.le_of_ble_eq_true rfl)
  rw [lg_entry_eq]
  generalize (lg_sl ([.ref o1, .int x1, .int x2, .int x3]) ++ List.replicate (6 - (lg_sl ([.ref o1, .int x1, .int x2, .int x3])).length) Slot.unset).toArray = ls at hl ⊢
  have hl : lv_has ls 6 [(0, .ref o1), (1, .int x1), (2, .int x2), (3, .int x3)] := hl
  have t0 : stp [(10, 9), (10, 13), (10, 20), (10, 21), (12, 15)] [] [] S S := stp.rf hW
  refine lv_aload_n hx hb dX12_grind_0 rfl (lv_at hl 0 rfl) ?_
  refine lv_iload_n hx hb dX12_grind_1 rfl (lv_at hl 1 rfl) ?_
  have hFc := free_all hD hS hA
  obtain ⟨k1, gk1, hk1⟩ := wGt (cy := cy) X S h_o1.1 h_o1.2.1
  refine va_calli (va_runV (As := [.int x1]) (rest := []) ⟨hx, hb, hml, hown, hts⟩ (c_X12_isGear l (cy := cy) (X := X) (D := D) S _ o1 h_o1 x1 (hW)) (cwV 1 hts gX12_grind_X12_isGear rfl rfl rfl hd_X12_isGear ⟨Nat.le_of_ble_eq_true rfl, Nat.le_of_ble_eq_true rfl⟩) (pV (va_recv hK hP (q := (RX12, TX12, 34)) (ci := 16) (q0 := k1) rfl hk1) hP hK hD hN) rfl rfl hl.1 rfl (lv_room (Nat.le_of_ble_eq_true rfl)) dX12_grind_2 ⟨(Nat.zero_le _), (Nat.zero_le _)⟩) hS (fun q _ h => hFc q h) hFc (fun r2 u t H1 locs ht hvm hw hB hz1 hk1 hS => ?_)
  have c3 := hw
  obtain ⟨hP, hD⟩ := wd_post hFc ht hB
  generalize H1 = H at hP hS ⊢
  obtain rfl : f_X12_isGear S o1 x1 = r2 := c3.symm
  have F4 := ((hW.at h_o1 List.not_mem_nil).to_12 h_o1.2.1).F0
  have i5 : (f_X12_isGear S o1 x1).toInt = 0 ∨ (0 ≤ x1.toInt ∧ x1.toInt < (S.I (S.f o1 0) 2).toInt) := by have h9 := ig_rng x1 ((hW.at h_o1 List.not_mem_nil).to_12 h_o1.2.1) hW; rw [f_of F4.1] at h9; exact h9
  refine lv_if_ne (tgt := 14) hx hb dX12_grind_5 (by decide) (fun c6 => ?_) (fun c6 => ?_)
  · have c6i : ¬ (f_X12_isGear S o1 x1).toInt = 0 := neq_v rfl rfl c6
    refine lv_iload_n hx hb dX12_grind_14 rfl (lv_at hl 2 rfl) ?_
    refine lv_i2l hx hb dX12_grind_15 rfl ?_
    refine lv_lconst (v := 1) hx hb dX12_grind_16 (by decide) ?_
    refine lv_ldc2 (own := RX12) (v := 99) hx hb hown (hts (.constantLong RX12 312 (99)) (by decide +kernel)) dX12_grind_17 ?_
    have hFc := free_all hD hS hA
    refine va_calli (va_runS (As := [.long x2.toInt64, .long (1 : Int64), .long (99 : Int64)]) (rest := []) ⟨hx, hb, hml, hown, hts⟩ (c_X12_in l (cy := cy) (X := X) (D := D) S _ x2.toInt64 (1 : Int64) (99 : Int64)) (cwS 3 hts gX12_grind_X12_in rfl rfl rfl hd_X12_in ⟨Nat.le_of_ble_eq_true rfl, Nat.le_of_ble_eq_true rfl⟩) (pS hP hK hD hN) rfl rfl hl.1 rfl (lv_room (Nat.le_of_ble_eq_true rfl)) dX12_grind_20 ⟨(Nat.zero_le _), (Nat.zero_le _)⟩) hS (fun q _ h => hFc q h) hFc (fun r7 u t H1 locs ht hvm hw hB hz1 hk1 hS => ?_)
    have c8 := hw
    obtain ⟨hP, hD⟩ := wd_post hFc ht hB
    generalize H1 = H at hP hS ⊢
    obtain rfl : f_X12_in x2.toInt64 (1 : Int64) (99 : Int64) = r7 := c8.symm
    have i9 := i64_i x2
    have l64_1 : (1 : Int64).toInt = 1 := rfl
    have l64_99 : (99 : Int64).toInt = 99 := rfl
    have i10 := in_rng x2.toInt64 (1 : Int64) (99 : Int64)
    refine lv_if_eq (tgt := 38) hx hb dX12_grind_23 (by decide) (fun c11 => ?_) (fun c11 => ?_)
    · have c11i : (f_X12_in x2.toInt64 (1 : Int64) (99 : Int64)).toInt = 0 := eq_v rfl rfl c11
      refine lv_aload_n hx hb dX12_grind_38 rfl (lv_at hl 0 rfl) ?_
      refine lv_iconst (v := 2) hx hb dX12_grind_39 (by decide) ?_
      have l32_2 : (2 : Int32).toInt = 2 := rfl
      have hFc := free_all hD hS hA
      obtain ⟨k12, gk12, hk12⟩ := wGt (cy := cy) X S h_o1.1 h_o1.2.1
      refine va_calli (va_runV (As := [.int (2 : Int32)]) (rest := []) ⟨hx, hb, hml, hown, hts⟩ (c_X12_fails l (cy := cy) (X := X) (D := D) S _ o1 h_o1 (2 : Int32) (hW)) (cwV 1 hts gX12_grind_X12_fails rfl rfl rfl hd_X12_fails ⟨Nat.le_of_ble_eq_true rfl, Nat.le_of_ble_eq_true rfl⟩) (pV (va_recv hK hP (q := (RX12, TX12, 34)) (ci := 16) (q0 := k12) rfl hk12) hP hK hD hN) rfl rfl hl.1 rfl (lv_room (Nat.le_of_ble_eq_true rfl)) dX12_grind_40 ⟨(Nat.zero_le _), (Nat.zero_le _)⟩) hS (fun q _ h => hFc q h) hFc (fun r13 u t H1 locs ht hvm hw hB hz1 hk1 hS => ?_)
      obtain ⟨c14, w15⟩ := hw
      obtain ⟨hP, hD⟩ := wd_post hFc ht hB
      generalize H1 = H at hP hS ⊢
      obtain ⟨S16, rfl⟩ : ∃ z, z = u := ⟨_, rfl⟩
      have t17 : stp [(10, 9), (10, 13), (10, 20), (10, 21), (12, 15)] [] [] S S16 := t0.tr w15 (by decide) (fun _ q => absurd q List.not_mem_nil)
      have xe18 : ext S S16 := w15.x
      refine W.widen (k := 0) (n := 0) (Nat.le_of_ble_eq_true rfl) (Nat.le_of_ble_eq_true rfl) ?_
      exact W.iret (v := r13) hx hb hr (fun t ht hW9 => ⟨⟨r13, S16, rfl, t17, wd_end hP hK hD ht hW9.alike⟩, hS.F ht⟩) hS.2.2 dX12_grind_43 hlocks
    · have c11i : ¬ (f_X12_in x2.toInt64 (1 : Int64) (99 : Int64)).toInt = 0 := neq_v rfl rfl c11
      refine lv_iload_n hx hb dX12_grind_26 rfl (lv_at hl 3 rfl) ?_
      refine lv_i2l hx hb dX12_grind_27 rfl ?_
      refine lv_lconst (v := 1) hx hb dX12_grind_28 (by decide) ?_
      refine lv_ldc2 (own := RX12) (v := 999) hx hb hown (hts (.constantLong RX12 395 (999)) (by decide +kernel)) dX12_grind_29 ?_
      have hFc := free_all hD hS hA
      refine va_calli (va_runS (As := [.long x3.toInt64, .long (1 : Int64), .long (999 : Int64)]) (rest := []) ⟨hx, hb, hml, hown, hts⟩ (c_X12_in l (cy := cy) (X := X) (D := D) S _ x3.toInt64 (1 : Int64) (999 : Int64)) (cwS 3 hts gX12_grind_X12_in rfl rfl rfl hd_X12_in ⟨Nat.le_of_ble_eq_true rfl, Nat.le_of_ble_eq_true rfl⟩) (pS hP hK hD hN) rfl rfl hl.1 rfl (lv_room (Nat.le_of_ble_eq_true rfl)) dX12_grind_32 ⟨(Nat.zero_le _), (Nat.zero_le _)⟩) hS (fun q _ h => hFc q h) hFc (fun r19 u t H1 locs ht hvm hw hB hz1 hk1 hS => ?_)
      have c20 := hw
      obtain ⟨hP, hD⟩ := wd_post hFc ht hB
      generalize H1 = H at hP hS ⊢
      obtain rfl : f_X12_in x3.toInt64 (1 : Int64) (999 : Int64) = r19 := c20.symm
      have i21 := i64_i x3
      have l64_999 : (999 : Int64).toInt = 999 := rfl
      have i22 := in_rng x3.toInt64 (1 : Int64) (999 : Int64)
      refine lv_if_ne (tgt := 44) hx hb dX12_grind_35 (by decide) (fun c23 => ?_) (fun c23 => ?_)
      · have c23i : ¬ (f_X12_in x3.toInt64 (1 : Int64) (999 : Int64)).toInt = 0 := neq_v rfl rfl c23
        refine lv_aload_n hx hb dX12_grind_44 rfl (lv_at hl 0 rfl) ?_
        refine lv_iload_n hx hb dX12_grind_45 rfl (lv_at hl 1 rfl) ?_
        have hFc := free_all hD hS hA
        obtain ⟨k24, gk24, hk24⟩ := wGt (cy := cy) X S h_o1.1 h_o1.2.1
        refine va_callq (va_runV (As := [.int x1]) (rest := []) ⟨hx, hb, hml, hown, hts⟩ (c_X12_gearAt l (cy := cy) (X := X) (D := D) S _ o1 h_o1 x1 (hW) (by rw [f_of F4.1]; omega)) (cwV 1 hts gX12_grind_X12_gearAt rfl rfl rfl hd_X12_gearAt ⟨Nat.le_of_ble_eq_true rfl, Nat.le_of_ble_eq_true rfl⟩) (pV (va_recv hK hP (q := (RX12, TX12, 34)) (ci := 16) (q0 := k24) rfl hk24) hP hK hD hN) rfl rfl hl.1 rfl (lv_room (Nat.le_of_ble_eq_true rfl)) dX12_grind_46 ⟨(Nat.zero_le _), (Nat.zero_le _)⟩) hS (fun q _ h => hFc q h) hFc (fun r25 u t H1 locs ht hvm hw hB hz1 hk1 hS => ?_)
        obtain ⟨r25, rfl, c26, o27⟩ := hw
        obtain ⟨hP, hD⟩ := wd_post hFc ht hB
        generalize H1 = H at hP hS ⊢
        refine W.eq (g2 := F0 m 49 ls [.ref r25]) rfl ?_
        refine lv_astore (lv' := [(4, .ref r25), (0, .ref o1), (1, .int x1), (2, .int x2), (3, .int x3)]) hx hb dX12_grind_49 hl (by decide) rfl (fun ls hl => ?_)
        refine lv_aload hx hb dX12_grind_51 (lv_at hl 0 rfl) ?_
        obtain ⟨k28, gk28, hk28⟩ := wGt (cy := cy) X S o27.1 o27.2.1
        have i29 := ((hW.at o27 List.not_mem_nil).to_10 o27.2.1).R18
        refine va_getN (D := D) (ci := 14) (v := .int (S.I r25 18)) (C := RX10) (T := TX10) (N := 23) hx hb hts hi_X12_grind_X10 hown hK hP k28 hk28 rfl 18 (by decide) (va_Nw.use rfl (hN (.fieldLinkNest RX12 160 "HobhouseModel$Gear" "isCut" "Z" "HobhouseModel") (by decide +kernel))) (fun _ h9 => h9) rfl dX12_grind_53 ?_
        refine lv_if_eq (tgt := 83) hx hb dX12_grind_56 (by decide) (fun c30 => ?_) (fun c30 => ?_)
        · have c30i : (S.I r25 18).toInt = 0 := eq_v rfl rfl c30
          refine lv_aload_n hx hb dX12_grind_83 rfl (lv_at hl 1 rfl) ?_
          refine lv_iconst (v := 3) hx hb dX12_grind_84 (by decide) ?_
          have l32_3 : (3 : Int32).toInt = 3 := rfl
          have hFc := free_all hD hS hA
          obtain ⟨k31, gk31, hk31⟩ := wGt (cy := cy) X S h_o1.1 h_o1.2.1
          refine va_calli (va_runV (As := [.int (3 : Int32)]) (rest := []) ⟨hx, hb, hml, hown, hts⟩ (c_X12_fails l (cy := cy) (X := X) (D := D) S _ o1 h_o1 (3 : Int32) (hW)) (cwV 1 hts gX12_grind_X12_fails rfl rfl rfl hd_X12_fails ⟨Nat.le_of_ble_eq_true rfl, Nat.le_of_ble_eq_true rfl⟩) (pV (va_recv hK hP (q := (RX12, TX12, 34)) (ci := 16) (q0 := k31) rfl hk31) hP hK hD hN) rfl rfl hl.1 rfl (lv_room (Nat.le_of_ble_eq_true rfl)) dX12_grind_85 ⟨(Nat.zero_le _), (Nat.zero_le _)⟩) hS (fun q _ h => hFc q h) hFc (fun r32 u t H1 locs ht hvm hw hB hz1 hk1 hS => ?_)
          obtain ⟨c33, w34⟩ := hw
          obtain ⟨hP, hD⟩ := wd_post hFc ht hB
          generalize H1 = H at hP hS ⊢
          obtain ⟨S35, rfl⟩ : ∃ z, z = u := ⟨_, rfl⟩
          have t36 : stp [(10, 9), (10, 13), (10, 20), (10, 21), (12, 15)] [] [] S S35 := t0.tr w34 (by decide) (fun _ q => absurd q List.not_mem_nil)
          have xe37 : ext S S35 := w34.x
          refine W.widen (k := 0) (n := 0) (Nat.le_of_ble_eq_true rfl) (Nat.le_of_ble_eq_true rfl) ?_
          exact W.iret (v := r32) hx hb hr (fun t ht hW9 => ⟨⟨r32, S35, rfl, t36, wd_end hP hK hD ht hW9.alike⟩, hS.F ht⟩) hS.2.2 dX12_grind_88 hlocks
        · have c30i : ¬ (S.I r25 18).toInt = 0 := neq_v rfl rfl c30
          refine lv_aload hx hb dX12_grind_59 (lv_at hl 0 rfl) ?_
          obtain ⟨k38, gk38, hk38⟩ := wGt (cy := cy) X S o27.1 o27.2.1
          have i39 := ((hW.at o27 List.not_mem_nil).to_10 o27.2.1).R20
          refine va_getN (D := D) (ci := 14) (v := .int (S.I r25 20)) (C := RX10) (T := TX10) (N := 23) hx hb hts hi_X12_grind_X10 hown hK hP k38 hk38 rfl 20 (by decide) (va_Nw.use rfl (hN (.fieldLinkNest RX12 372 "HobhouseModel$Gear" "isScrap" "Z" "HobhouseModel") (by decide +kernel))) (fun _ h9 => h9) rfl dX12_grind_61 ?_
          refine lv_if_ne (tgt := 83) hx hb dX12_grind_64 (by decide) (fun c40 => ?_) (fun c40 => ?_)
          · have c40i : ¬ (S.I r25 20).toInt = 0 := neq_v rfl rfl c40
            refine lv_aload_n hx hb dX12_grind_83 rfl (lv_at hl 1 rfl) ?_
            refine lv_iconst (v := 3) hx hb dX12_grind_84 (by decide) ?_
            have l32_3 : (3 : Int32).toInt = 3 := rfl
            have hFc := free_all hD hS hA
            obtain ⟨k41, gk41, hk41⟩ := wGt (cy := cy) X S h_o1.1 h_o1.2.1
            refine va_calli (va_runV (As := [.int (3 : Int32)]) (rest := []) ⟨hx, hb, hml, hown, hts⟩ (c_X12_fails l (cy := cy) (X := X) (D := D) S _ o1 h_o1 (3 : Int32) (hW)) (cwV 1 hts gX12_grind_X12_fails rfl rfl rfl hd_X12_fails ⟨Nat.le_of_ble_eq_true rfl, Nat.le_of_ble_eq_true rfl⟩) (pV (va_recv hK hP (q := (RX12, TX12, 34)) (ci := 16) (q0 := k41) rfl hk41) hP hK hD hN) rfl rfl hl.1 rfl (lv_room (Nat.le_of_ble_eq_true rfl)) dX12_grind_85 ⟨(Nat.zero_le _), (Nat.zero_le _)⟩) hS (fun q _ h => hFc q h) hFc (fun r42 u t H1 locs ht hvm hw hB hz1 hk1 hS => ?_)
            obtain ⟨c43, w44⟩ := hw
            obtain ⟨hP, hD⟩ := wd_post hFc ht hB
            generalize H1 = H at hP hS ⊢
            obtain ⟨S45, rfl⟩ : ∃ z, z = u := ⟨_, rfl⟩
            have t46 : stp [(10, 9), (10, 13), (10, 20), (10, 21), (12, 15)] [] [] S S45 := t0.tr w44 (by decide) (fun _ q => absurd q List.not_mem_nil)
            have xe47 : ext S S45 := w44.x
            refine W.widen (k := 0) (n := 0) (Nat.le_of_ble_eq_true rfl) (Nat.le_of_ble_eq_true rfl) ?_
            exact W.iret (v := r42) hx hb hr (fun t ht hW9 => ⟨⟨r42, S45, rfl, t46, wd_end hP hK hD ht hW9.alike⟩, hS.F ht⟩) hS.2.2 dX12_grind_88 hlocks
          · have c40i : (S.I r25 20).toInt = 0 := eq_v rfl rfl c40
            refine lv_aload hx hb dX12_grind_67 (lv_at hl 0 rfl) ?_
            have hFc := free_all hD hS hA
            obtain ⟨k48, gk48, hk48⟩ := wGt (cy := cy) X S o27.1 o27.2.1
            refine va_calli (va_runV (As := []) (rest := []) ⟨hx, hb, hml, hown, hts⟩ (c_X10_isBroken l (cy := cy) (X := X) (D := D) S _ r25 o27) (cwV 0 hts gX12_grind_X10_isBroken rfl rfl rfl hd_X10_isBroken ⟨Nat.le_of_ble_eq_true rfl, Nat.le_of_ble_eq_true rfl⟩) (pV (va_recv hK hP (q := (RX10, TX10, 23)) (ci := 14) (q0 := k48) rfl hk48) hP hK hD hN) rfl rfl hl.1 rfl (lv_room (Nat.le_of_ble_eq_true rfl)) dX12_grind_69 ⟨(Nat.zero_le _), (Nat.zero_le _)⟩) hS (fun q _ h => hFc q h) hFc (fun r49 u t H1 locs ht hvm hw hB hz1 hk1 hS => ?_)
            have c50 := hw
            obtain ⟨hP, hD⟩ := wd_post hFc ht hB
            generalize H1 = H at hP hS ⊢
            obtain rfl : f_X10_isBroken S r25 = r49 := c50.symm
            refine lv_if_ne (tgt := 83) hx hb dX12_grind_72 (by decide) (fun c51 => ?_) (fun c51 => ?_)
            · have c51i : ¬ (f_X10_isBroken S r25).toInt = 0 := neq_v rfl rfl c51
              refine lv_aload_n hx hb dX12_grind_83 rfl (lv_at hl 1 rfl) ?_
              refine lv_iconst (v := 3) hx hb dX12_grind_84 (by decide) ?_
              have l32_3 : (3 : Int32).toInt = 3 := rfl
              have hFc := free_all hD hS hA
              obtain ⟨k52, gk52, hk52⟩ := wGt (cy := cy) X S h_o1.1 h_o1.2.1
              refine va_calli (va_runV (As := [.int (3 : Int32)]) (rest := []) ⟨hx, hb, hml, hown, hts⟩ (c_X12_fails l (cy := cy) (X := X) (D := D) S _ o1 h_o1 (3 : Int32) (hW)) (cwV 1 hts gX12_grind_X12_fails rfl rfl rfl hd_X12_fails ⟨Nat.le_of_ble_eq_true rfl, Nat.le_of_ble_eq_true rfl⟩) (pV (va_recv hK hP (q := (RX12, TX12, 34)) (ci := 16) (q0 := k52) rfl hk52) hP hK hD hN) rfl rfl hl.1 rfl (lv_room (Nat.le_of_ble_eq_true rfl)) dX12_grind_85 ⟨(Nat.zero_le _), (Nat.zero_le _)⟩) hS (fun q _ h => hFc q h) hFc (fun r53 u t H1 locs ht hvm hw hB hz1 hk1 hS => ?_)
              obtain ⟨c54, w55⟩ := hw
              obtain ⟨hP, hD⟩ := wd_post hFc ht hB
              generalize H1 = H at hP hS ⊢
              obtain ⟨S56, rfl⟩ : ∃ z, z = u := ⟨_, rfl⟩
              have t57 : stp [(10, 9), (10, 13), (10, 20), (10, 21), (12, 15)] [] [] S S56 := t0.tr w55 (by decide) (fun _ q => absurd q List.not_mem_nil)
              have xe58 : ext S S56 := w55.x
              refine W.widen (k := 0) (n := 0) (Nat.le_of_ble_eq_true rfl) (Nat.le_of_ble_eq_true rfl) ?_
              exact W.iret (v := r53) hx hb hr (fun t ht hW9 => ⟨⟨r53, S56, rfl, t57, wd_end hP hK hD ht hW9.alike⟩, hS.F ht⟩) hS.2.2 dX12_grind_88 hlocks
            · have c51i : (f_X10_isBroken S r25).toInt = 0 := eq_v rfl rfl c51
              refine lv_aload hx hb dX12_grind_75 (lv_at hl 0 rfl) ?_
              obtain ⟨k59, gk59, hk59⟩ := wGt (cy := cy) X S o27.1 o27.2.1
              refine va_getN (D := D) (ci := 14) (v := .int (S.I r25 9)) (C := RX10) (T := TX10) (N := 23) hx hb hts hi_X12_grind_X10 hown hK hP k59 hk59 rfl 9 (by decide) (va_Nw.use rfl (hN (.fieldLinkNest RX12 356 "HobhouseModel$Gear" "stock" "I" "HobhouseModel") (by decide +kernel))) (fun _ h9 => h9) rfl dX12_grind_77 ?_
              refine lv_if_ne (tgt := 89) hx hb dX12_grind_80 (by decide) (fun c60 => ?_) (fun c60 => ?_)
              · have c60i : ¬ (S.I r25 9).toInt = 0 := neq_v rfl rfl c60
                refine lv_iload_n hx hb dX12_grind_89 rfl (lv_at hl 3 rfl) ?_
                refine lv_aload hx hb dX12_grind_90 (lv_at hl 0 rfl) ?_
                obtain ⟨k61, gk61, hk61⟩ := wGt (cy := cy) X S o27.1 o27.2.1
                refine va_getN (D := D) (ci := 14) (v := .int (S.I r25 9)) (C := RX10) (T := TX10) (N := 23) hx hb hts hi_X12_grind_X10 hown hK hP k61 hk61 rfl 9 (by decide) (va_Nw.use rfl (hN (.fieldLinkNest RX12 356 "HobhouseModel$Gear" "stock" "I" "HobhouseModel") (by decide +kernel))) (fun _ h9 => h9) rfl dX12_grind_92 ?_
                refine va_mmin hx hb (hml.trans hl.1.symm) hown (hts (.methodLink RX12 212 Lib.Math.min.name) (by decide +kernel)) (hts (.static Lib.Math.min.name) (by decide +kernel)) (hts (.initialized "java/lang/Math") (by decide +kernel)) (hts (.code Lib.Math.min.name Lib.Math.min.code 2 (some .int)) (by decide +kernel)) (Nat.le_of_ble_eq_true rfl) (Nat.le_of_ble_eq_true rfl) (Nat.zero_le _) (Nat.zero_le _) dX12_grind_95 ?_
                refine lv_istore (lv' := [(5, .int (if (S.I r25 9) < x2 then (S.I r25 9) else x2)), (4, .ref r25), (0, .ref o1), (1, .int x1), (2, .int x2), (3, .int x3)]) hx hb dX12_grind_98 hl (by decide) rfl (fun ls hl => ?_)
                refine lv_aload hx hb dX12_grind_100 (lv_at hl 1 rfl) ?_
                refine lv_dup hx hb dX12_grind_102 rfl ?_
                obtain ⟨k62, gk62, hk62⟩ := wGt (cy := cy) X S o27.1 o27.2.1
                refine va_getN (D := D) (ci := 14) (v := .int (S.I r25 9)) (C := RX10) (T := TX10) (N := 23) hx hb hts hi_X12_grind_X10 hown hK hP k62 hk62 rfl 9 (by decide) (va_Nw.use rfl (hN (.fieldLinkNest RX12 356 "HobhouseModel$Gear" "stock" "I" "HobhouseModel") (by decide +kernel))) (fun _ h9 => h9) rfl dX12_grind_103 ?_
                refine lv_iload hx hb dX12_grind_106 (lv_at hl 0 rfl) ?_
                refine lv_isub hx hb dX12_grind_108 ?_
                obtain ⟨k63, gk63, hk63⟩ := wGt (cy := cy) X S o27.1 o27.2.1
                refine va_putN (D := D) (ci := 14) (v := .int ((S.I r25 9) - (if (S.I r25 9) < x2 then (S.I r25 9) else x2))) (ty := .int) (C := RX10) (T := TX10) (N := 23) hx hb hts hi_X12_grind_X10 tyX10 tyX10_ok nmX10 hown hK hP hD hS k63 hk63 rfl 9 (by decide) (va_Nw.use rfl (hN (.fieldLinkNest RX12 356 "HobhouseModel$Gear" "stock" "I" "HobhouseModel") (by decide +kernel))) (fun _ h9 => h9) rfl (by decide +kernel) (rfl) (rfl) (Nat.le_of_ble_eq_true rfl) dX12_grind_109 (fun H locs hP2 hD2 hS => ?_)
                have e9 := wPuI (cy := cy) (j := 9) (v := ((S.I r25 9) - (if (S.I r25 9) < x2 then (S.I r25 9) else x2))) hD o27.1 o27.2.1 gk63 rfl
                obtain ⟨S64, hS64⟩ : ∃ z, S.sI r25 9 ((S.I r25 9) - (if (S.I r25 9) < x2 then (S.I r25 9) else x2)) = z := ⟨_, rfl⟩
                have hP : va_P D vwCl (X ++ PL cy S64) H := by rw [← hS64, ← e9]; exact hP2
                have hD : va_D A (X ++ PL cy S64) := by rw [← hS64, ← e9]; exact hD2
                have xe65 : ext S S64 := by rw [← hS64]; exact ext.sI _ _ _ _
                have t66 : stp [(10, 9), (10, 13), (10, 20), (10, 21), (12, 15)] [] [] S S64 := by rw [← hS64]; exact t0.I 9 ((S.I r25 9) - (if (S.I r25 9) < x2 then (S.I r25 9) else x2)) o27 (by decide) (trivial) (Or.inl (by decide))
                refine lv_aload hx hb dX12_grind_112 (lv_at hl 1 rfl) ?_
                refine lv_dup hx hb dX12_grind_114 rfl ?_
                obtain ⟨k67, gk67, hk67⟩ := wGt (cy := cy) X S64 (xe65.A o27).1 (xe65.A o27).2.1
                refine va_getN (D := D) (ci := 14) (v := .int (S64.I r25 13)) (C := RX10) (T := TX10) (N := 23) hx hb hts hi_X12_grind_X10 hown hK hP k67 hk67 rfl 13 (by decide) (va_Nw.use rfl (hN (.fieldLinkNest RX12 397 "HobhouseModel$Gear" "ground" "I" "HobhouseModel") (by decide +kernel))) (fun _ h9 => h9) rfl dX12_grind_115 ?_
                refine lv_aload hx hb dX12_grind_118 (lv_at hl 1 rfl) ?_
                obtain ⟨k68, gk68, hk68⟩ := wGt (cy := cy) X S64 (xe65.A o27).1 (xe65.A o27).2.1
                have i69 := ((t66.w.at (xe65.A o27) List.not_mem_nil).to_10 (xe65.A o27).2.1).R19
                refine va_getN (D := D) (ci := 14) (v := .int (S64.I r25 19)) (C := RX10) (T := TX10) (N := 23) hx hb hts hi_X12_grind_X10 hown hK hP k68 hk68 rfl 19 (by decide) (va_Nw.use rfl (hN (.fieldLinkNest RX12 369 "HobhouseModel$Gear" "isHard" "Z" "HobhouseModel") (by decide +kernel))) (fun _ h9 => h9) rfl dX12_grind_120 ?_
                refine lv_if_eq (tgt := 131) hx hb dX12_grind_123 (by decide) (fun c70 => ?_) (fun c70 => ?_)
                · have c70i : (S64.I r25 19).toInt = 0 := eq_v rfl rfl c70
                  refine lv_iconst (v := 0) hx hb dX12_grind_131 (by decide) ?_
                  refine lv_iadd hx hb dX12_grind_132 ?_
                  obtain ⟨k71, gk71, hk71⟩ := wGt (cy := cy) X S64 (xe65.A o27).1 (xe65.A o27).2.1
                  refine va_putN (D := D) (ci := 14) (v := .int ((S64.I r25 13) + (0 : Int32))) (ty := .int) (C := RX10) (T := TX10) (N := 23) hx hb hts hi_X12_grind_X10 tyX10 tyX10_ok nmX10 hown hK hP hD hS k71 hk71 rfl 13 (by decide) (va_Nw.use rfl (hN (.fieldLinkNest RX12 397 "HobhouseModel$Gear" "ground" "I" "HobhouseModel") (by decide +kernel))) (fun _ h9 => h9) rfl (by decide +kernel) (rfl) (rfl) (Nat.le_of_ble_eq_true rfl) dX12_grind_133 (fun H locs hP2 hD2 hS => ?_)
                  have e9 := wPuI (cy := cy) (j := 13) (v := ((S64.I r25 13) + (0 : Int32))) hD (xe65.A o27).1 (xe65.A o27).2.1 gk71 rfl
                  obtain ⟨S72, hS72⟩ : ∃ z, S64.sI r25 13 ((S64.I r25 13) + (0 : Int32)) = z := ⟨_, rfl⟩
                  have hP : va_P D vwCl (X ++ PL cy S72) H := by rw [← hS72, ← e9]; exact hP2
                  have hD : va_D A (X ++ PL cy S72) := by rw [← hS72, ← e9]; exact hD2
                  have xe73 : ext S64 S72 := by rw [← hS72]; exact ext.sI _ _ _ _
                  have t74 : stp [(10, 9), (10, 13), (10, 20), (10, 21), (12, 15)] [] [] S S72 := by rw [← hS72]; exact t66.I 13 ((S64.I r25 13) + (0 : Int32)) (xe65.A o27) (by decide) (trivial) (Or.inl (by decide))
                  refine lv_aload hx hb dX12_grind_136 (lv_at hl 1 rfl) ?_
                  refine lv_aload hx hb dX12_grind_138 (lv_at hl 1 rfl) ?_
                  obtain ⟨k75, gk75, hk75⟩ := wGt (cy := cy) X S72 (xe73.A (xe65.A o27)).1 (xe73.A (xe65.A o27)).2.1
                  refine va_getN (D := D) (ci := 14) (v := .int (S72.I r25 9)) (C := RX10) (T := TX10) (N := 23) hx hb hts hi_X12_grind_X10 hown hK hP k75 hk75 rfl 9 (by decide) (va_Nw.use rfl (hN (.fieldLinkNest RX12 356 "HobhouseModel$Gear" "stock" "I" "HobhouseModel") (by decide +kernel))) (fun _ h9 => h9) rfl dX12_grind_140 ?_
                  refine lv_if_ne (tgt := 150) hx hb dX12_grind_143 (by decide) (fun c76 => ?_) (fun c76 => ?_)
                  · have c76i : ¬ (S72.I r25 9).toInt = 0 := neq_v rfl rfl c76
                    refine lv_iconst (v := 0) hx hb dX12_grind_150 (by decide) ?_
                    have l32_0 : (0 : Int32).toInt = 0 := rfl
                    obtain ⟨k77, gk77, hk77⟩ := wGt (cy := cy) X S72 (xe73.A (xe65.A o27)).1 (xe73.A (xe65.A o27)).2.1
                    refine va_putN (D := D) (ci := 14) (v := .int (0 : Int32)) (ty := .boolean) (C := RX10) (T := TX10) (N := 23) hx hb hts hi_X12_grind_X10 tyX10 tyX10_ok nmX10 hown hK hP hD hS k77 hk77 rfl 21 (by decide) (va_Nw.use rfl (hN (.fieldLinkNest RX12 400 "HobhouseModel$Gear" "isGround" "Z" "HobhouseModel") (by decide +kernel))) (fun _ h9 => h9) rfl (by decide +kernel) (by rfl) (by rfl) (Nat.le_of_ble_eq_true rfl) dX12_grind_151 (fun H locs hP2 hD2 hS => ?_)
                    have e9 := wPuI (cy := cy) (j := 21) (v := (0 : Int32)) hD (xe73.A (xe65.A o27)).1 (xe73.A (xe65.A o27)).2.1 gk77 rfl
                    obtain ⟨S78, hS78⟩ : ∃ z, S72.sI r25 21 (0 : Int32) = z := ⟨_, rfl⟩
                    have hP : va_P D vwCl (X ++ PL cy S78) H := by rw [← hS78, ← e9]; exact hP2
                    have hD : va_D A (X ++ PL cy S78) := by rw [← hS78, ← e9]; exact hD2
                    have xe79 : ext S72 S78 := by rw [← hS78]; exact ext.sI _ _ _ _
                    have t80 : stp [(10, 9), (10, 13), (10, 20), (10, 21), (12, 15)] [] [] S S78 := by rw [← hS78]; exact t74.I 21 (0 : Int32) (xe73.A (xe65.A o27)) (by decide) (⟨by decide, by decide⟩) (Or.inl (by decide))
                    refine lv_aload hx hb dX12_grind_154 (lv_at hl 1 rfl) ?_
                    refine lv_iload hx hb dX12_grind_156 (lv_at hl 0 rfl) ?_
                    refine lv_bipush (v := 30) hx hb dX12_grind_158 (by decide +kernel) ?_
                    refine lv_icmp_gt (tgt := 176) hx hb dX12_grind_160 (by decide) (fun c81 => ?_) (fun c81 => ?_)
                    · have c81i : 30 < (if (S.I r25 9) < x2 then (S.I r25 9) else x2).toInt := lt_v rfl rfl c81
                      refine lv_iconst (v := 1) hx hb dX12_grind_176 (by decide) ?_
                      refine lv_goto (tgt := 181) hx hb dX12_grind_177 (by decide) ?_
                      have l32_1 : (1 : Int32).toInt = 1 := rfl
                      obtain ⟨k82, gk82, hk82⟩ := wGt (cy := cy) X S78 (xe79.A (xe73.A (xe65.A o27))).1 (xe79.A (xe73.A (xe65.A o27))).2.1
                      refine va_putN (D := D) (ci := 14) (v := .int (1 : Int32)) (ty := .boolean) (C := RX10) (T := TX10) (N := 23) hx hb hts hi_X12_grind_X10 tyX10 tyX10_ok nmX10 hown hK hP hD hS k82 hk82 rfl 20 (by decide) (va_Nw.use rfl (hN (.fieldLinkNest RX12 372 "HobhouseModel$Gear" "isScrap" "Z" "HobhouseModel") (by decide +kernel))) (fun _ h9 => h9) rfl (by decide +kernel) (by rfl) (by rfl) (Nat.le_of_ble_eq_true rfl) dX12_grind_181 (fun H locs hP2 hD2 hS => ?_)
                      have e9 := wPuI (cy := cy) (j := 20) (v := (1 : Int32)) hD (xe79.A (xe73.A (xe65.A o27))).1 (xe79.A (xe73.A (xe65.A o27))).2.1 gk82 rfl
                      obtain ⟨S83, hS83⟩ : ∃ z, S78.sI r25 20 (1 : Int32) = z := ⟨_, rfl⟩
                      have hP : va_P D vwCl (X ++ PL cy S83) H := by rw [← hS83, ← e9]; exact hP2
                      have hD : va_D A (X ++ PL cy S83) := by rw [← hS83, ← e9]; exact hD2
                      have xe84 : ext S78 S83 := by rw [← hS83]; exact ext.sI _ _ _ _
                      have t85 : stp [(10, 9), (10, 13), (10, 20), (10, 21), (12, 15)] [] [] S S83 := by rw [← hS83]; exact t80.I 20 (1 : Int32) (xe79.A (xe73.A (xe65.A o27))) (by decide) (⟨by decide, by decide⟩) (Or.inl (by decide))
                      refine lv_aload_n hx hb dX12_grind_184 rfl (lv_at hl 2 rfl) ?_
                      refine lv_aload hx hb dX12_grind_185 (lv_at hl 1 rfl) ?_
                      obtain ⟨k86, gk86, hk86⟩ := wGt (cy := cy) X S83 (xe84.A (xe79.A (xe73.A (xe65.A o27)))).1 (xe84.A (xe79.A (xe73.A (xe65.A o27)))).2.1
                      refine va_getN (D := D) (ci := 14) (v := .int (S83.I r25 9)) (C := RX10) (T := TX10) (N := 23) hx hb hts hi_X12_grind_X10 hown hK hP k86 hk86 rfl 9 (by decide) (va_Nw.use rfl (hN (.fieldLinkNest RX12 356 "HobhouseModel$Gear" "stock" "I" "HobhouseModel") (by decide +kernel))) (fun _ h9 => h9) rfl dX12_grind_187 ?_
                      have hFc := free_all hD hS hA
                      obtain ⟨k87, gk87, hk87⟩ := wGt (cy := cy) X S83 ((xe65.tr (xe73.tr (xe79.tr xe84))).A h_o1).1 ((xe65.tr (xe73.tr (xe79.tr xe84))).A h_o1).2.1
                      refine va_calli (va_runV (As := [.int (S83.I r25 9)]) (rest := []) ⟨hx, hb, hml, hown, hts⟩ (c_X12_answer l (cy := cy) (X := X) (D := D) S83 _ o1 ((xe65.tr (xe73.tr (xe79.tr xe84))).A h_o1) (S83.I r25 9) (t85.w)) (cwV 1 hts gX12_grind_X12_answer rfl rfl rfl hd_X12_answer ⟨Nat.le_of_ble_eq_true rfl, Nat.le_of_ble_eq_true rfl⟩) (pV (va_recv hK hP (q := (RX12, TX12, 34)) (ci := 16) (q0 := k87) rfl hk87) hP hK hD hN) rfl rfl hl.1 rfl (lv_room (Nat.le_of_ble_eq_true rfl)) dX12_grind_190 ⟨(Nat.zero_le _), (Nat.zero_le _)⟩) hS (fun q _ h => hFc q h) hFc (fun r88 u t H1 locs ht hvm hw hB hz1 hk1 hS => ?_)
                      obtain ⟨c89, w90⟩ := hw
                      obtain ⟨hP, hD⟩ := wd_post hFc ht hB
                      generalize H1 = H at hP hS ⊢
                      obtain ⟨S91, rfl⟩ : ∃ z, z = u := ⟨_, rfl⟩
                      have t92 : stp [(10, 9), (10, 13), (10, 20), (10, 21), (12, 15)] [] [] S S91 := t85.tr w90 (by decide) (fun _ q => absurd q List.not_mem_nil)
                      have xe93 : ext S83 S91 := w90.x
                      refine W.widen (k := 0) (n := 0) (Nat.le_of_ble_eq_true rfl) (Nat.le_of_ble_eq_true rfl) ?_
                      exact W.iret (v := r88) hx hb hr (fun t ht hW9 => ⟨⟨r88, S91, rfl, t92, wd_end hP hK hD ht hW9.alike⟩, hS.F ht⟩) hS.2.2 dX12_grind_193 hlocks
                    · have c81i : (if (S.I r25 9) < x2 then (S.I r25 9) else x2).toInt ≤ 30 := nlt_v rfl rfl c81
                      refine lv_iload hx hb dX12_grind_163 (lv_at hl 0 rfl) ?_
                      refine lv_bipush (v := 20) hx hb dX12_grind_165 (by decide +kernel) ?_
                      refine lv_icmp_le (tgt := 180) hx hb dX12_grind_167 (by decide) (fun c94 => ?_) (fun c94 => ?_)
                      · have c94i : (if (S.I r25 9) < x2 then (S.I r25 9) else x2).toInt ≤ 20 := le_v rfl rfl c94
                        refine lv_iconst (v := 0) hx hb dX12_grind_180 (by decide) ?_
                        obtain ⟨k95, gk95, hk95⟩ := wGt (cy := cy) X S78 (xe79.A (xe73.A (xe65.A o27))).1 (xe79.A (xe73.A (xe65.A o27))).2.1
                        refine va_putN (D := D) (ci := 14) (v := .int (0 : Int32)) (ty := .boolean) (C := RX10) (T := TX10) (N := 23) hx hb hts hi_X12_grind_X10 tyX10 tyX10_ok nmX10 hown hK hP hD hS k95 hk95 rfl 20 (by decide) (va_Nw.use rfl (hN (.fieldLinkNest RX12 372 "HobhouseModel$Gear" "isScrap" "Z" "HobhouseModel") (by decide +kernel))) (fun _ h9 => h9) rfl (by decide +kernel) (by rfl) (by rfl) (Nat.le_of_ble_eq_true rfl) dX12_grind_181 (fun H locs hP2 hD2 hS => ?_)
                        have e9 := wPuI (cy := cy) (j := 20) (v := (0 : Int32)) hD (xe79.A (xe73.A (xe65.A o27))).1 (xe79.A (xe73.A (xe65.A o27))).2.1 gk95 rfl
                        obtain ⟨S96, hS96⟩ : ∃ z, S78.sI r25 20 (0 : Int32) = z := ⟨_, rfl⟩
                        have hP : va_P D vwCl (X ++ PL cy S96) H := by rw [← hS96, ← e9]; exact hP2
                        have hD : va_D A (X ++ PL cy S96) := by rw [← hS96, ← e9]; exact hD2
                        have xe97 : ext S78 S96 := by rw [← hS96]; exact ext.sI _ _ _ _
                        have t98 : stp [(10, 9), (10, 13), (10, 20), (10, 21), (12, 15)] [] [] S S96 := by rw [← hS96]; exact t80.I 20 (0 : Int32) (xe79.A (xe73.A (xe65.A o27))) (by decide) (⟨by decide, by decide⟩) (Or.inl (by decide))
                        refine lv_aload_n hx hb dX12_grind_184 rfl (lv_at hl 2 rfl) ?_
                        refine lv_aload hx hb dX12_grind_185 (lv_at hl 1 rfl) ?_
                        obtain ⟨k99, gk99, hk99⟩ := wGt (cy := cy) X S96 (xe97.A (xe79.A (xe73.A (xe65.A o27)))).1 (xe97.A (xe79.A (xe73.A (xe65.A o27)))).2.1
                        refine va_getN (D := D) (ci := 14) (v := .int (S96.I r25 9)) (C := RX10) (T := TX10) (N := 23) hx hb hts hi_X12_grind_X10 hown hK hP k99 hk99 rfl 9 (by decide) (va_Nw.use rfl (hN (.fieldLinkNest RX12 356 "HobhouseModel$Gear" "stock" "I" "HobhouseModel") (by decide +kernel))) (fun _ h9 => h9) rfl dX12_grind_187 ?_
                        have hFc := free_all hD hS hA
                        obtain ⟨k100, gk100, hk100⟩ := wGt (cy := cy) X S96 ((xe65.tr (xe73.tr (xe79.tr xe97))).A h_o1).1 ((xe65.tr (xe73.tr (xe79.tr xe97))).A h_o1).2.1
                        refine va_calli (va_runV (As := [.int (S96.I r25 9)]) (rest := []) ⟨hx, hb, hml, hown, hts⟩ (c_X12_answer l (cy := cy) (X := X) (D := D) S96 _ o1 ((xe65.tr (xe73.tr (xe79.tr xe97))).A h_o1) (S96.I r25 9) (t98.w)) (cwV 1 hts gX12_grind_X12_answer rfl rfl rfl hd_X12_answer ⟨Nat.le_of_ble_eq_true rfl, Nat.le_of_ble_eq_true rfl⟩) (pV (va_recv hK hP (q := (RX12, TX12, 34)) (ci := 16) (q0 := k100) rfl hk100) hP hK hD hN) rfl rfl hl.1 rfl (lv_room (Nat.le_of_ble_eq_true rfl)) dX12_grind_190 ⟨(Nat.zero_le _), (Nat.zero_le _)⟩) hS (fun q _ h => hFc q h) hFc (fun r101 u t H1 locs ht hvm hw hB hz1 hk1 hS => ?_)
                        obtain ⟨c102, w103⟩ := hw
                        obtain ⟨hP, hD⟩ := wd_post hFc ht hB
                        generalize H1 = H at hP hS ⊢
                        obtain ⟨S104, rfl⟩ : ∃ z, z = u := ⟨_, rfl⟩
                        have t105 : stp [(10, 9), (10, 13), (10, 20), (10, 21), (12, 15)] [] [] S S104 := t98.tr w103 (by decide) (fun _ q => absurd q List.not_mem_nil)
                        have xe106 : ext S96 S104 := w103.x
                        refine W.widen (k := 0) (n := 0) (Nat.le_of_ble_eq_true rfl) (Nat.le_of_ble_eq_true rfl) ?_
                        exact W.iret (v := r101) hx hb hr (fun t ht hW9 => ⟨⟨r101, S104, rfl, t105, wd_end hP hK hD ht hW9.alike⟩, hS.F ht⟩) hS.2.2 dX12_grind_193 hlocks
                      · have c94i : 20 < (if (S.I r25 9) < x2 then (S.I r25 9) else x2).toInt := nle_v rfl rfl c94
                        refine lv_iload_n hx hb dX12_grind_170 rfl (lv_at hl 5 rfl) ?_
                        refine lv_bipush (v := 100) hx hb dX12_grind_171 (by decide +kernel) ?_
                        refine lv_icmp_le (tgt := 180) hx hb dX12_grind_173 (by decide) (fun c107 => ?_) (fun c107 => ?_)
                        · have c107i : x3.toInt ≤ 100 := le_v rfl rfl c107
                          refine lv_iconst (v := 0) hx hb dX12_grind_180 (by decide) ?_
                          obtain ⟨k108, gk108, hk108⟩ := wGt (cy := cy) X S78 (xe79.A (xe73.A (xe65.A o27))).1 (xe79.A (xe73.A (xe65.A o27))).2.1
                          refine va_putN (D := D) (ci := 14) (v := .int (0 : Int32)) (ty := .boolean) (C := RX10) (T := TX10) (N := 23) hx hb hts hi_X12_grind_X10 tyX10 tyX10_ok nmX10 hown hK hP hD hS k108 hk108 rfl 20 (by decide) (va_Nw.use rfl (hN (.fieldLinkNest RX12 372 "HobhouseModel$Gear" "isScrap" "Z" "HobhouseModel") (by decide +kernel))) (fun _ h9 => h9) rfl (by decide +kernel) (by rfl) (by rfl) (Nat.le_of_ble_eq_true rfl) dX12_grind_181 (fun H locs hP2 hD2 hS => ?_)
                          have e9 := wPuI (cy := cy) (j := 20) (v := (0 : Int32)) hD (xe79.A (xe73.A (xe65.A o27))).1 (xe79.A (xe73.A (xe65.A o27))).2.1 gk108 rfl
                          obtain ⟨S109, hS109⟩ : ∃ z, S78.sI r25 20 (0 : Int32) = z := ⟨_, rfl⟩
                          have hP : va_P D vwCl (X ++ PL cy S109) H := by rw [← hS109, ← e9]; exact hP2
                          have hD : va_D A (X ++ PL cy S109) := by rw [← hS109, ← e9]; exact hD2
                          have xe110 : ext S78 S109 := by rw [← hS109]; exact ext.sI _ _ _ _
                          have t111 : stp [(10, 9), (10, 13), (10, 20), (10, 21), (12, 15)] [] [] S S109 := by rw [← hS109]; exact t80.I 20 (0 : Int32) (xe79.A (xe73.A (xe65.A o27))) (by decide) (⟨by decide, by decide⟩) (Or.inl (by decide))
                          refine lv_aload_n hx hb dX12_grind_184 rfl (lv_at hl 2 rfl) ?_
                          refine lv_aload hx hb dX12_grind_185 (lv_at hl 1 rfl) ?_
                          obtain ⟨k112, gk112, hk112⟩ := wGt (cy := cy) X S109 (xe110.A (xe79.A (xe73.A (xe65.A o27)))).1 (xe110.A (xe79.A (xe73.A (xe65.A o27)))).2.1
                          refine va_getN (D := D) (ci := 14) (v := .int (S109.I r25 9)) (C := RX10) (T := TX10) (N := 23) hx hb hts hi_X12_grind_X10 hown hK hP k112 hk112 rfl 9 (by decide) (va_Nw.use rfl (hN (.fieldLinkNest RX12 356 "HobhouseModel$Gear" "stock" "I" "HobhouseModel") (by decide +kernel))) (fun _ h9 => h9) rfl dX12_grind_187 ?_
                          have hFc := free_all hD hS hA
                          obtain ⟨k113, gk113, hk113⟩ := wGt (cy := cy) X S109 ((xe65.tr (xe73.tr (xe79.tr xe110))).A h_o1).1 ((xe65.tr (xe73.tr (xe79.tr xe110))).A h_o1).2.1
                          refine va_calli (va_runV (As := [.int (S109.I r25 9)]) (rest := []) ⟨hx, hb, hml, hown, hts⟩ (c_X12_answer l (cy := cy) (X := X) (D := D) S109 _ o1 ((xe65.tr (xe73.tr (xe79.tr xe110))).A h_o1) (S109.I r25 9) (t111.w)) (cwV 1 hts gX12_grind_X12_answer rfl rfl rfl hd_X12_answer ⟨Nat.le_of_ble_eq_true rfl, Nat.le_of_ble_eq_true rfl⟩) (pV (va_recv hK hP (q := (RX12, TX12, 34)) (ci := 16) (q0 := k113) rfl hk113) hP hK hD hN) rfl rfl hl.1 rfl (lv_room (Nat.le_of_ble_eq_true rfl)) dX12_grind_190 ⟨(Nat.zero_le _), (Nat.zero_le _)⟩) hS (fun q _ h => hFc q h) hFc (fun r114 u t H1 locs ht hvm hw hB hz1 hk1 hS => ?_)
                          obtain ⟨c115, w116⟩ := hw
                          obtain ⟨hP, hD⟩ := wd_post hFc ht hB
                          generalize H1 = H at hP hS ⊢
                          obtain ⟨S117, rfl⟩ : ∃ z, z = u := ⟨_, rfl⟩
                          have t118 : stp [(10, 9), (10, 13), (10, 20), (10, 21), (12, 15)] [] [] S S117 := t111.tr w116 (by decide) (fun _ q => absurd q List.not_mem_nil)
                          have xe119 : ext S109 S117 := w116.x
                          refine W.widen (k := 0) (n := 0) (Nat.le_of_ble_eq_true rfl) (Nat.le_of_ble_eq_true rfl) ?_
                          exact W.iret (v := r114) hx hb hr (fun t ht hW9 => ⟨⟨r114, S117, rfl, t118, wd_end hP hK hD ht hW9.alike⟩, hS.F ht⟩) hS.2.2 dX12_grind_193 hlocks
                        · have c107i : 100 < x3.toInt := nle_v rfl rfl c107
                          refine lv_iconst (v := 1) hx hb dX12_grind_176 (by decide) ?_
                          refine lv_goto (tgt := 181) hx hb dX12_grind_177 (by decide) ?_
                          have l32_1 : (1 : Int32).toInt = 1 := rfl
                          obtain ⟨k120, gk120, hk120⟩ := wGt (cy := cy) X S78 (xe79.A (xe73.A (xe65.A o27))).1 (xe79.A (xe73.A (xe65.A o27))).2.1
                          refine va_putN (D := D) (ci := 14) (v := .int (1 : Int32)) (ty := .boolean) (C := RX10) (T := TX10) (N := 23) hx hb hts hi_X12_grind_X10 tyX10 tyX10_ok nmX10 hown hK hP hD hS k120 hk120 rfl 20 (by decide) (va_Nw.use rfl (hN (.fieldLinkNest RX12 372 "HobhouseModel$Gear" "isScrap" "Z" "HobhouseModel") (by decide +kernel))) (fun _ h9 => h9) rfl (by decide +kernel) (by rfl) (by rfl) (Nat.le_of_ble_eq_true rfl) dX12_grind_181 (fun H locs hP2 hD2 hS => ?_)
                          have e9 := wPuI (cy := cy) (j := 20) (v := (1 : Int32)) hD (xe79.A (xe73.A (xe65.A o27))).1 (xe79.A (xe73.A (xe65.A o27))).2.1 gk120 rfl
                          obtain ⟨S121, hS121⟩ : ∃ z, S78.sI r25 20 (1 : Int32) = z := ⟨_, rfl⟩
                          have hP : va_P D vwCl (X ++ PL cy S121) H := by rw [← hS121, ← e9]; exact hP2
                          have hD : va_D A (X ++ PL cy S121) := by rw [← hS121, ← e9]; exact hD2
                          have xe122 : ext S78 S121 := by rw [← hS121]; exact ext.sI _ _ _ _
                          have t123 : stp [(10, 9), (10, 13), (10, 20), (10, 21), (12, 15)] [] [] S S121 := by rw [← hS121]; exact t80.I 20 (1 : Int32) (xe79.A (xe73.A (xe65.A o27))) (by decide) (⟨by decide, by decide⟩) (Or.inl (by decide))
                          refine lv_aload_n hx hb dX12_grind_184 rfl (lv_at hl 2 rfl) ?_
                          refine lv_aload hx hb dX12_grind_185 (lv_at hl 1 rfl) ?_
                          obtain ⟨k124, gk124, hk124⟩ := wGt (cy := cy) X S121 (xe122.A (xe79.A (xe73.A (xe65.A o27)))).1 (xe122.A (xe79.A (xe73.A (xe65.A o27)))).2.1
                          refine va_getN (D := D) (ci := 14) (v := .int (S121.I r25 9)) (C := RX10) (T := TX10) (N := 23) hx hb hts hi_X12_grind_X10 hown hK hP k124 hk124 rfl 9 (by decide) (va_Nw.use rfl (hN (.fieldLinkNest RX12 356 "HobhouseModel$Gear" "stock" "I" "HobhouseModel") (by decide +kernel))) (fun _ h9 => h9) rfl dX12_grind_187 ?_
                          have hFc := free_all hD hS hA
                          obtain ⟨k125, gk125, hk125⟩ := wGt (cy := cy) X S121 ((xe65.tr (xe73.tr (xe79.tr xe122))).A h_o1).1 ((xe65.tr (xe73.tr (xe79.tr xe122))).A h_o1).2.1
                          refine va_calli (va_runV (As := [.int (S121.I r25 9)]) (rest := []) ⟨hx, hb, hml, hown, hts⟩ (c_X12_answer l (cy := cy) (X := X) (D := D) S121 _ o1 ((xe65.tr (xe73.tr (xe79.tr xe122))).A h_o1) (S121.I r25 9) (t123.w)) (cwV 1 hts gX12_grind_X12_answer rfl rfl rfl hd_X12_answer ⟨Nat.le_of_ble_eq_true rfl, Nat.le_of_ble_eq_true rfl⟩) (pV (va_recv hK hP (q := (RX12, TX12, 34)) (ci := 16) (q0 := k125) rfl hk125) hP hK hD hN) rfl rfl hl.1 rfl (lv_room (Nat.le_of_ble_eq_true rfl)) dX12_grind_190 ⟨(Nat.zero_le _), (Nat.zero_le _)⟩) hS (fun q _ h => hFc q h) hFc (fun r126 u t H1 locs ht hvm hw hB hz1 hk1 hS => ?_)
                          obtain ⟨c127, w128⟩ := hw
                          obtain ⟨hP, hD⟩ := wd_post hFc ht hB
                          generalize H1 = H at hP hS ⊢
                          obtain ⟨S129, rfl⟩ : ∃ z, z = u := ⟨_, rfl⟩
                          have t130 : stp [(10, 9), (10, 13), (10, 20), (10, 21), (12, 15)] [] [] S S129 := t123.tr w128 (by decide) (fun _ q => absurd q List.not_mem_nil)
                          have xe131 : ext S121 S129 := w128.x
                          refine W.widen (k := 0) (n := 0) (Nat.le_of_ble_eq_true rfl) (Nat.le_of_ble_eq_true rfl) ?_
                          exact W.iret (v := r126) hx hb hr (fun t ht hW9 => ⟨⟨r126, S129, rfl, t130, wd_end hP hK hD ht hW9.alike⟩, hS.F ht⟩) hS.2.2 dX12_grind_193 hlocks
                  · have c76i : (S72.I r25 9).toInt = 0 := eq_v rfl rfl c76
                    refine lv_iconst (v := 1) hx hb dX12_grind_146 (by decide) ?_
                    refine lv_goto (tgt := 151) hx hb dX12_grind_147 (by decide) ?_
                    have l32_1 : (1 : Int32).toInt = 1 := rfl
                    obtain ⟨k132, gk132, hk132⟩ := wGt (cy := cy) X S72 (xe73.A (xe65.A o27)).1 (xe73.A (xe65.A o27)).2.1
                    refine va_putN (D := D) (ci := 14) (v := .int (1 : Int32)) (ty := .boolean) (C := RX10) (T := TX10) (N := 23) hx hb hts hi_X12_grind_X10 tyX10 tyX10_ok nmX10 hown hK hP hD hS k132 hk132 rfl 21 (by decide) (va_Nw.use rfl (hN (.fieldLinkNest RX12 400 "HobhouseModel$Gear" "isGround" "Z" "HobhouseModel") (by decide +kernel))) (fun _ h9 => h9) rfl (by decide +kernel) (by rfl) (by rfl) (Nat.le_of_ble_eq_true rfl) dX12_grind_151 (fun H locs hP2 hD2 hS => ?_)
                    have e9 := wPuI (cy := cy) (j := 21) (v := (1 : Int32)) hD (xe73.A (xe65.A o27)).1 (xe73.A (xe65.A o27)).2.1 gk132 rfl
                    obtain ⟨S133, hS133⟩ : ∃ z, S72.sI r25 21 (1 : Int32) = z := ⟨_, rfl⟩
                    have hP : va_P D vwCl (X ++ PL cy S133) H := by rw [← hS133, ← e9]; exact hP2
                    have hD : va_D A (X ++ PL cy S133) := by rw [← hS133, ← e9]; exact hD2
                    have xe134 : ext S72 S133 := by rw [← hS133]; exact ext.sI _ _ _ _
                    have t135 : stp [(10, 9), (10, 13), (10, 20), (10, 21), (12, 15)] [] [] S S133 := by rw [← hS133]; exact t74.I 21 (1 : Int32) (xe73.A (xe65.A o27)) (by decide) (⟨by decide, by decide⟩) (Or.inl (by decide))
                    refine lv_aload hx hb dX12_grind_154 (lv_at hl 1 rfl) ?_
                    refine lv_iload hx hb dX12_grind_156 (lv_at hl 0 rfl) ?_
                    refine lv_bipush (v := 30) hx hb dX12_grind_158 (by decide +kernel) ?_
                    refine lv_icmp_gt (tgt := 176) hx hb dX12_grind_160 (by decide) (fun c136 => ?_) (fun c136 => ?_)
                    · have c136i : 30 < (if (S.I r25 9) < x2 then (S.I r25 9) else x2).toInt := lt_v rfl rfl c136
                      refine lv_iconst (v := 1) hx hb dX12_grind_176 (by decide) ?_
                      refine lv_goto (tgt := 181) hx hb dX12_grind_177 (by decide) ?_
                      obtain ⟨k137, gk137, hk137⟩ := wGt (cy := cy) X S133 (xe134.A (xe73.A (xe65.A o27))).1 (xe134.A (xe73.A (xe65.A o27))).2.1
                      refine va_putN (D := D) (ci := 14) (v := .int (1 : Int32)) (ty := .boolean) (C := RX10) (T := TX10) (N := 23) hx hb hts hi_X12_grind_X10 tyX10 tyX10_ok nmX10 hown hK hP hD hS k137 hk137 rfl 20 (by decide) (va_Nw.use rfl (hN (.fieldLinkNest RX12 372 "HobhouseModel$Gear" "isScrap" "Z" "HobhouseModel") (by decide +kernel))) (fun _ h9 => h9) rfl (by decide +kernel) (by rfl) (by rfl) (Nat.le_of_ble_eq_true rfl) dX12_grind_181 (fun H locs hP2 hD2 hS => ?_)
                      have e9 := wPuI (cy := cy) (j := 20) (v := (1 : Int32)) hD (xe134.A (xe73.A (xe65.A o27))).1 (xe134.A (xe73.A (xe65.A o27))).2.1 gk137 rfl
                      obtain ⟨S138, hS138⟩ : ∃ z, S133.sI r25 20 (1 : Int32) = z := ⟨_, rfl⟩
                      have hP : va_P D vwCl (X ++ PL cy S138) H := by rw [← hS138, ← e9]; exact hP2
                      have hD : va_D A (X ++ PL cy S138) := by rw [← hS138, ← e9]; exact hD2
                      have xe139 : ext S133 S138 := by rw [← hS138]; exact ext.sI _ _ _ _
                      have t140 : stp [(10, 9), (10, 13), (10, 20), (10, 21), (12, 15)] [] [] S S138 := by rw [← hS138]; exact t135.I 20 (1 : Int32) (xe134.A (xe73.A (xe65.A o27))) (by decide) (⟨by decide, by decide⟩) (Or.inl (by decide))
                      refine lv_aload_n hx hb dX12_grind_184 rfl (lv_at hl 2 rfl) ?_
                      refine lv_aload hx hb dX12_grind_185 (lv_at hl 1 rfl) ?_
                      obtain ⟨k141, gk141, hk141⟩ := wGt (cy := cy) X S138 (xe139.A (xe134.A (xe73.A (xe65.A o27)))).1 (xe139.A (xe134.A (xe73.A (xe65.A o27)))).2.1
                      refine va_getN (D := D) (ci := 14) (v := .int (S138.I r25 9)) (C := RX10) (T := TX10) (N := 23) hx hb hts hi_X12_grind_X10 hown hK hP k141 hk141 rfl 9 (by decide) (va_Nw.use rfl (hN (.fieldLinkNest RX12 356 "HobhouseModel$Gear" "stock" "I" "HobhouseModel") (by decide +kernel))) (fun _ h9 => h9) rfl dX12_grind_187 ?_
                      have hFc := free_all hD hS hA
                      obtain ⟨k142, gk142, hk142⟩ := wGt (cy := cy) X S138 ((xe65.tr (xe73.tr (xe134.tr xe139))).A h_o1).1 ((xe65.tr (xe73.tr (xe134.tr xe139))).A h_o1).2.1
                      refine va_calli (va_runV (As := [.int (S138.I r25 9)]) (rest := []) ⟨hx, hb, hml, hown, hts⟩ (c_X12_answer l (cy := cy) (X := X) (D := D) S138 _ o1 ((xe65.tr (xe73.tr (xe134.tr xe139))).A h_o1) (S138.I r25 9) (t140.w)) (cwV 1 hts gX12_grind_X12_answer rfl rfl rfl hd_X12_answer ⟨Nat.le_of_ble_eq_true rfl, Nat.le_of_ble_eq_true rfl⟩) (pV (va_recv hK hP (q := (RX12, TX12, 34)) (ci := 16) (q0 := k142) rfl hk142) hP hK hD hN) rfl rfl hl.1 rfl (lv_room (Nat.le_of_ble_eq_true rfl)) dX12_grind_190 ⟨(Nat.zero_le _), (Nat.zero_le _)⟩) hS (fun q _ h => hFc q h) hFc (fun r143 u t H1 locs ht hvm hw hB hz1 hk1 hS => ?_)
                      obtain ⟨c144, w145⟩ := hw
                      obtain ⟨hP, hD⟩ := wd_post hFc ht hB
                      generalize H1 = H at hP hS ⊢
                      obtain ⟨S146, rfl⟩ : ∃ z, z = u := ⟨_, rfl⟩
                      have t147 : stp [(10, 9), (10, 13), (10, 20), (10, 21), (12, 15)] [] [] S S146 := t140.tr w145 (by decide) (fun _ q => absurd q List.not_mem_nil)
                      have xe148 : ext S138 S146 := w145.x
                      refine W.widen (k := 0) (n := 0) (Nat.le_of_ble_eq_true rfl) (Nat.le_of_ble_eq_true rfl) ?_
                      exact W.iret (v := r143) hx hb hr (fun t ht hW9 => ⟨⟨r143, S146, rfl, t147, wd_end hP hK hD ht hW9.alike⟩, hS.F ht⟩) hS.2.2 dX12_grind_193 hlocks
                    · have c136i : (if (S.I r25 9) < x2 then (S.I r25 9) else x2).toInt ≤ 30 := nlt_v rfl rfl c136
                      refine lv_iload hx hb dX12_grind_163 (lv_at hl 0 rfl) ?_
                      refine lv_bipush (v := 20) hx hb dX12_grind_165 (by decide +kernel) ?_
                      refine lv_icmp_le (tgt := 180) hx hb dX12_grind_167 (by decide) (fun c149 => ?_) (fun c149 => ?_)
                      · have c149i : (if (S.I r25 9) < x2 then (S.I r25 9) else x2).toInt ≤ 20 := le_v rfl rfl c149
                        refine lv_iconst (v := 0) hx hb dX12_grind_180 (by decide) ?_
                        have l32_0 : (0 : Int32).toInt = 0 := rfl
                        obtain ⟨k150, gk150, hk150⟩ := wGt (cy := cy) X S133 (xe134.A (xe73.A (xe65.A o27))).1 (xe134.A (xe73.A (xe65.A o27))).2.1
                        refine va_putN (D := D) (ci := 14) (v := .int (0 : Int32)) (ty := .boolean) (C := RX10) (T := TX10) (N := 23) hx hb hts hi_X12_grind_X10 tyX10 tyX10_ok nmX10 hown hK hP hD hS k150 hk150 rfl 20 (by decide) (va_Nw.use rfl (hN (.fieldLinkNest RX12 372 "HobhouseModel$Gear" "isScrap" "Z" "HobhouseModel") (by decide +kernel))) (fun _ h9 => h9) rfl (by decide +kernel) (by rfl) (by rfl) (Nat.le_of_ble_eq_true rfl) dX12_grind_181 (fun H locs hP2 hD2 hS => ?_)
                        have e9 := wPuI (cy := cy) (j := 20) (v := (0 : Int32)) hD (xe134.A (xe73.A (xe65.A o27))).1 (xe134.A (xe73.A (xe65.A o27))).2.1 gk150 rfl
                        obtain ⟨S151, hS151⟩ : ∃ z, S133.sI r25 20 (0 : Int32) = z := ⟨_, rfl⟩
                        have hP : va_P D vwCl (X ++ PL cy S151) H := by rw [← hS151, ← e9]; exact hP2
                        have hD : va_D A (X ++ PL cy S151) := by rw [← hS151, ← e9]; exact hD2
                        have xe152 : ext S133 S151 := by rw [← hS151]; exact ext.sI _ _ _ _
                        have t153 : stp [(10, 9), (10, 13), (10, 20), (10, 21), (12, 15)] [] [] S S151 := by rw [← hS151]; exact t135.I 20 (0 : Int32) (xe134.A (xe73.A (xe65.A o27))) (by decide) (⟨by decide, by decide⟩) (Or.inl (by decide))
                        refine lv_aload_n hx hb dX12_grind_184 rfl (lv_at hl 2 rfl) ?_
                        refine lv_aload hx hb dX12_grind_185 (lv_at hl 1 rfl) ?_
                        obtain ⟨k154, gk154, hk154⟩ := wGt (cy := cy) X S151 (xe152.A (xe134.A (xe73.A (xe65.A o27)))).1 (xe152.A (xe134.A (xe73.A (xe65.A o27)))).2.1
                        refine va_getN (D := D) (ci := 14) (v := .int (S151.I r25 9)) (C := RX10) (T := TX10) (N := 23) hx hb hts hi_X12_grind_X10 hown hK hP k154 hk154 rfl 9 (by decide) (va_Nw.use rfl (hN (.fieldLinkNest RX12 356 "HobhouseModel$Gear" "stock" "I" "HobhouseModel") (by decide +kernel))) (fun _ h9 => h9) rfl dX12_grind_187 ?_
                        have hFc := free_all hD hS hA
                        obtain ⟨k155, gk155, hk155⟩ := wGt (cy := cy) X S151 ((xe65.tr (xe73.tr (xe134.tr xe152))).A h_o1).1 ((xe65.tr (xe73.tr (xe134.tr xe152))).A h_o1).2.1
                        refine va_calli (va_runV (As := [.int (S151.I r25 9)]) (rest := []) ⟨hx, hb, hml, hown, hts⟩ (c_X12_answer l (cy := cy) (X := X) (D := D) S151 _ o1 ((xe65.tr (xe73.tr (xe134.tr xe152))).A h_o1) (S151.I r25 9) (t153.w)) (cwV 1 hts gX12_grind_X12_answer rfl rfl rfl hd_X12_answer ⟨Nat.le_of_ble_eq_true rfl, Nat.le_of_ble_eq_true rfl⟩) (pV (va_recv hK hP (q := (RX12, TX12, 34)) (ci := 16) (q0 := k155) rfl hk155) hP hK hD hN) rfl rfl hl.1 rfl (lv_room (Nat.le_of_ble_eq_true rfl)) dX12_grind_190 ⟨(Nat.zero_le _), (Nat.zero_le _)⟩) hS (fun q _ h => hFc q h) hFc (fun r156 u t H1 locs ht hvm hw hB hz1 hk1 hS => ?_)
                        obtain ⟨c157, w158⟩ := hw
                        obtain ⟨hP, hD⟩ := wd_post hFc ht hB
                        generalize H1 = H at hP hS ⊢
                        obtain ⟨S159, rfl⟩ : ∃ z, z = u := ⟨_, rfl⟩
                        have t160 : stp [(10, 9), (10, 13), (10, 20), (10, 21), (12, 15)] [] [] S S159 := t153.tr w158 (by decide) (fun _ q => absurd q List.not_mem_nil)
                        have xe161 : ext S151 S159 := w158.x
                        refine W.widen (k := 0) (n := 0) (Nat.le_of_ble_eq_true rfl) (Nat.le_of_ble_eq_true rfl) ?_
                        exact W.iret (v := r156) hx hb hr (fun t ht hW9 => ⟨⟨r156, S159, rfl, t160, wd_end hP hK hD ht hW9.alike⟩, hS.F ht⟩) hS.2.2 dX12_grind_193 hlocks
                      · have c149i : 20 < (if (S.I r25 9) < x2 then (S.I r25 9) else x2).toInt := nle_v rfl rfl c149
                        refine lv_iload_n hx hb dX12_grind_170 rfl (lv_at hl 5 rfl) ?_
                        refine lv_bipush (v := 100) hx hb dX12_grind_171 (by decide +kernel) ?_
                        refine lv_icmp_le (tgt := 180) hx hb dX12_grind_173 (by decide) (fun c162 => ?_) (fun c162 => ?_)
                        · have c162i : x3.toInt ≤ 100 := le_v rfl rfl c162
                          refine lv_iconst (v := 0) hx hb dX12_grind_180 (by decide) ?_
                          have l32_0 : (0 : Int32).toInt = 0 := rfl
                          obtain ⟨k163, gk163, hk163⟩ := wGt (cy := cy) X S133 (xe134.A (xe73.A (xe65.A o27))).1 (xe134.A (xe73.A (xe65.A o27))).2.1
                          refine va_putN (D := D) (ci := 14) (v := .int (0 : Int32)) (ty := .boolean) (C := RX10) (T := TX10) (N := 23) hx hb hts hi_X12_grind_X10 tyX10 tyX10_ok nmX10 hown hK hP hD hS k163 hk163 rfl 20 (by decide) (va_Nw.use rfl (hN (.fieldLinkNest RX12 372 "HobhouseModel$Gear" "isScrap" "Z" "HobhouseModel") (by decide +kernel))) (fun _ h9 => h9) rfl (by decide +kernel) (by rfl) (by rfl) (Nat.le_of_ble_eq_true rfl) dX12_grind_181 (fun H locs hP2 hD2 hS => ?_)
                          have e9 := wPuI (cy := cy) (j := 20) (v := (0 : Int32)) hD (xe134.A (xe73.A (xe65.A o27))).1 (xe134.A (xe73.A (xe65.A o27))).2.1 gk163 rfl
                          obtain ⟨S164, hS164⟩ : ∃ z, S133.sI r25 20 (0 : Int32) = z := ⟨_, rfl⟩
                          have hP : va_P D vwCl (X ++ PL cy S164) H := by rw [← hS164, ← e9]; exact hP2
                          have hD : va_D A (X ++ PL cy S164) := by rw [← hS164, ← e9]; exact hD2
                          have xe165 : ext S133 S164 := by rw [← hS164]; exact ext.sI _ _ _ _
                          have t166 : stp [(10, 9), (10, 13), (10, 20), (10, 21), (12, 15)] [] [] S S164 := by rw [← hS164]; exact t135.I 20 (0 : Int32) (xe134.A (xe73.A (xe65.A o27))) (by decide) (⟨by decide, by decide⟩) (Or.inl (by decide))
                          refine lv_aload_n hx hb dX12_grind_184 rfl (lv_at hl 2 rfl) ?_
                          refine lv_aload hx hb dX12_grind_185 (lv_at hl 1 rfl) ?_
                          obtain ⟨k167, gk167, hk167⟩ := wGt (cy := cy) X S164 (xe165.A (xe134.A (xe73.A (xe65.A o27)))).1 (xe165.A (xe134.A (xe73.A (xe65.A o27)))).2.1
                          refine va_getN (D := D) (ci := 14) (v := .int (S164.I r25 9)) (C := RX10) (T := TX10) (N := 23) hx hb hts hi_X12_grind_X10 hown hK hP k167 hk167 rfl 9 (by decide) (va_Nw.use rfl (hN (.fieldLinkNest RX12 356 "HobhouseModel$Gear" "stock" "I" "HobhouseModel") (by decide +kernel))) (fun _ h9 => h9) rfl dX12_grind_187 ?_
                          have hFc := free_all hD hS hA
                          obtain ⟨k168, gk168, hk168⟩ := wGt (cy := cy) X S164 ((xe65.tr (xe73.tr (xe134.tr xe165))).A h_o1).1 ((xe65.tr (xe73.tr (xe134.tr xe165))).A h_o1).2.1
                          refine va_calli (va_runV (As := [.int (S164.I r25 9)]) (rest := []) ⟨hx, hb, hml, hown, hts⟩ (c_X12_answer l (cy := cy) (X := X) (D := D) S164 _ o1 ((xe65.tr (xe73.tr (xe134.tr xe165))).A h_o1) (S164.I r25 9) (t166.w)) (cwV 1 hts gX12_grind_X12_answer rfl rfl rfl hd_X12_answer ⟨Nat.le_of_ble_eq_true rfl, Nat.le_of_ble_eq_true rfl⟩) (pV (va_recv hK hP (q := (RX12, TX12, 34)) (ci := 16) (q0 := k168) rfl hk168) hP hK hD hN) rfl rfl hl.1 rfl (lv_room (Nat.le_of_ble_eq_true rfl)) dX12_grind_190 ⟨(Nat.zero_le _), (Nat.zero_le _)⟩) hS (fun q _ h => hFc q h) hFc (fun r169 u t H1 locs ht hvm hw hB hz1 hk1 hS => ?_)
                          obtain ⟨c170, w171⟩ := hw
                          obtain ⟨hP, hD⟩ := wd_post hFc ht hB
                          generalize H1 = H at hP hS ⊢
                          obtain ⟨S172, rfl⟩ : ∃ z, z = u := ⟨_, rfl⟩
                          have t173 : stp [(10, 9), (10, 13), (10, 20), (10, 21), (12, 15)] [] [] S S172 := t166.tr w171 (by decide) (fun _ q => absurd q List.not_mem_nil)
                          have xe174 : ext S164 S172 := w171.x
                          refine W.widen (k := 0) (n := 0) (Nat.le_of_ble_eq_true rfl) (Nat.le_of_ble_eq_true rfl) ?_
                          exact W.iret (v := r169) hx hb hr (fun t ht hW9 => ⟨⟨r169, S172, rfl, t173, wd_end hP hK hD ht hW9.alike⟩, hS.F ht⟩) hS.2.2 dX12_grind_193 hlocks
                        · have c162i : 100 < x3.toInt := nle_v rfl rfl c162
                          refine lv_iconst (v := 1) hx hb dX12_grind_176 (by decide) ?_
                          refine lv_goto (tgt := 181) hx hb dX12_grind_177 (by decide) ?_
                          obtain ⟨k175, gk175, hk175⟩ := wGt (cy := cy) X S133 (xe134.A (xe73.A (xe65.A o27))).1 (xe134.A (xe73.A (xe65.A o27))).2.1
                          refine va_putN (D := D) (ci := 14) (v := .int (1 : Int32)) (ty := .boolean) (C := RX10) (T := TX10) (N := 23) hx hb hts hi_X12_grind_X10 tyX10 tyX10_ok nmX10 hown hK hP hD hS k175 hk175 rfl 20 (by decide) (va_Nw.use rfl (hN (.fieldLinkNest RX12 372 "HobhouseModel$Gear" "isScrap" "Z" "HobhouseModel") (by decide +kernel))) (fun _ h9 => h9) rfl (by decide +kernel) (by rfl) (by rfl) (Nat.le_of_ble_eq_true rfl) dX12_grind_181 (fun H locs hP2 hD2 hS => ?_)
                          have e9 := wPuI (cy := cy) (j := 20) (v := (1 : Int32)) hD (xe134.A (xe73.A (xe65.A o27))).1 (xe134.A (xe73.A (xe65.A o27))).2.1 gk175 rfl
                          obtain ⟨S176, hS176⟩ : ∃ z, S133.sI r25 20 (1 : Int32) = z := ⟨_, rfl⟩
                          have hP : va_P D vwCl (X ++ PL cy S176) H := by rw [← hS176, ← e9]; exact hP2
                          have hD : va_D A (X ++ PL cy S176) := by rw [← hS176, ← e9]; exact hD2
                          have xe177 : ext S133 S176 := by rw [← hS176]; exact ext.sI _ _ _ _
                          have t178 : stp [(10, 9), (10, 13), (10, 20), (10, 21), (12, 15)] [] [] S S176 := by rw [← hS176]; exact t135.I 20 (1 : Int32) (xe134.A (xe73.A (xe65.A o27))) (by decide) (⟨by decide, by decide⟩) (Or.inl (by decide))
                          refine lv_aload_n hx hb dX12_grind_184 rfl (lv_at hl 2 rfl) ?_
                          refine lv_aload hx hb dX12_grind_185 (lv_at hl 1 rfl) ?_
                          obtain ⟨k179, gk179, hk179⟩ := wGt (cy := cy) X S176 (xe177.A (xe134.A (xe73.A (xe65.A o27)))).1 (xe177.A (xe134.A (xe73.A (xe65.A o27)))).2.1
                          refine va_getN (D := D) (ci := 14) (v := .int (S176.I r25 9)) (C := RX10) (T := TX10) (N := 23) hx hb hts hi_X12_grind_X10 hown hK hP k179 hk179 rfl 9 (by decide) (va_Nw.use rfl (hN (.fieldLinkNest RX12 356 "HobhouseModel$Gear" "stock" "I" "HobhouseModel") (by decide +kernel))) (fun _ h9 => h9) rfl dX12_grind_187 ?_
                          have hFc := free_all hD hS hA
                          obtain ⟨k180, gk180, hk180⟩ := wGt (cy := cy) X S176 ((xe65.tr (xe73.tr (xe134.tr xe177))).A h_o1).1 ((xe65.tr (xe73.tr (xe134.tr xe177))).A h_o1).2.1
                          refine va_calli (va_runV (As := [.int (S176.I r25 9)]) (rest := []) ⟨hx, hb, hml, hown, hts⟩ (c_X12_answer l (cy := cy) (X := X) (D := D) S176 _ o1 ((xe65.tr (xe73.tr (xe134.tr xe177))).A h_o1) (S176.I r25 9) (t178.w)) (cwV 1 hts gX12_grind_X12_answer rfl rfl rfl hd_X12_answer ⟨Nat.le_of_ble_eq_true rfl, Nat.le_of_ble_eq_true rfl⟩) (pV (va_recv hK hP (q := (RX12, TX12, 34)) (ci := 16) (q0 := k180) rfl hk180) hP hK hD hN) rfl rfl hl.1 rfl (lv_room (Nat.le_of_ble_eq_true rfl)) dX12_grind_190 ⟨(Nat.zero_le _), (Nat.zero_le _)⟩) hS (fun q _ h => hFc q h) hFc (fun r181 u t H1 locs ht hvm hw hB hz1 hk1 hS => ?_)
                          obtain ⟨c182, w183⟩ := hw
                          obtain ⟨hP, hD⟩ := wd_post hFc ht hB
                          generalize H1 = H at hP hS ⊢
                          obtain ⟨S184, rfl⟩ : ∃ z, z = u := ⟨_, rfl⟩
                          have t185 : stp [(10, 9), (10, 13), (10, 20), (10, 21), (12, 15)] [] [] S S184 := t178.tr w183 (by decide) (fun _ q => absurd q List.not_mem_nil)
                          have xe186 : ext S176 S184 := w183.x
                          refine W.widen (k := 0) (n := 0) (Nat.le_of_ble_eq_true rfl) (Nat.le_of_ble_eq_true rfl) ?_
                          exact W.iret (v := r181) hx hb hr (fun t ht hW9 => ⟨⟨r181, S184, rfl, t185, wd_end hP hK hD ht hW9.alike⟩, hS.F ht⟩) hS.2.2 dX12_grind_193 hlocks
                · have c70i : ¬ (S64.I r25 19).toInt = 0 := neq_v rfl rfl c70
                  refine lv_iload hx hb dX12_grind_126 (lv_at hl 0 rfl) ?_
                  refine lv_goto (tgt := 132) hx hb dX12_grind_128 (by decide) ?_
                  refine lv_iadd hx hb dX12_grind_132 ?_
                  obtain ⟨k187, gk187, hk187⟩ := wGt (cy := cy) X S64 (xe65.A o27).1 (xe65.A o27).2.1
                  refine va_putN (D := D) (ci := 14) (v := .int ((S64.I r25 13) + (if (S.I r25 9) < x2 then (S.I r25 9) else x2))) (ty := .int) (C := RX10) (T := TX10) (N := 23) hx hb hts hi_X12_grind_X10 tyX10 tyX10_ok nmX10 hown hK hP hD hS k187 hk187 rfl 13 (by decide) (va_Nw.use rfl (hN (.fieldLinkNest RX12 397 "HobhouseModel$Gear" "ground" "I" "HobhouseModel") (by decide +kernel))) (fun _ h9 => h9) rfl (by decide +kernel) (rfl) (rfl) (Nat.le_of_ble_eq_true rfl) dX12_grind_133 (fun H locs hP2 hD2 hS => ?_)
                  have e9 := wPuI (cy := cy) (j := 13) (v := ((S64.I r25 13) + (if (S.I r25 9) < x2 then (S.I r25 9) else x2))) hD (xe65.A o27).1 (xe65.A o27).2.1 gk187 rfl
                  obtain ⟨S188, hS188⟩ : ∃ z, S64.sI r25 13 ((S64.I r25 13) + (if (S.I r25 9) < x2 then (S.I r25 9) else x2)) = z := ⟨_, rfl⟩
                  have hP : va_P D vwCl (X ++ PL cy S188) H := by rw [← hS188, ← e9]; exact hP2
                  have hD : va_D A (X ++ PL cy S188) := by rw [← hS188, ← e9]; exact hD2
                  have xe189 : ext S64 S188 := by rw [← hS188]; exact ext.sI _ _ _ _
                  have t190 : stp [(10, 9), (10, 13), (10, 20), (10, 21), (12, 15)] [] [] S S188 := by rw [← hS188]; exact t66.I 13 ((S64.I r25 13) + (if (S.I r25 9) < x2 then (S.I r25 9) else x2)) (xe65.A o27) (by decide) (trivial) (Or.inl (by decide))
                  refine lv_aload hx hb dX12_grind_136 (lv_at hl 1 rfl) ?_
                  refine lv_aload hx hb dX12_grind_138 (lv_at hl 1 rfl) ?_
                  obtain ⟨k191, gk191, hk191⟩ := wGt (cy := cy) X S188 (xe189.A (xe65.A o27)).1 (xe189.A (xe65.A o27)).2.1
                  refine va_getN (D := D) (ci := 14) (v := .int (S188.I r25 9)) (C := RX10) (T := TX10) (N := 23) hx hb hts hi_X12_grind_X10 hown hK hP k191 hk191 rfl 9 (by decide) (va_Nw.use rfl (hN (.fieldLinkNest RX12 356 "HobhouseModel$Gear" "stock" "I" "HobhouseModel") (by decide +kernel))) (fun _ h9 => h9) rfl dX12_grind_140 ?_
                  refine lv_if_ne (tgt := 150) hx hb dX12_grind_143 (by decide) (fun c192 => ?_) (fun c192 => ?_)
                  · have c192i : ¬ (S188.I r25 9).toInt = 0 := neq_v rfl rfl c192
                    refine lv_iconst (v := 0) hx hb dX12_grind_150 (by decide) ?_
                    have l32_0 : (0 : Int32).toInt = 0 := rfl
                    obtain ⟨k193, gk193, hk193⟩ := wGt (cy := cy) X S188 (xe189.A (xe65.A o27)).1 (xe189.A (xe65.A o27)).2.1
                    refine va_putN (D := D) (ci := 14) (v := .int (0 : Int32)) (ty := .boolean) (C := RX10) (T := TX10) (N := 23) hx hb hts hi_X12_grind_X10 tyX10 tyX10_ok nmX10 hown hK hP hD hS k193 hk193 rfl 21 (by decide) (va_Nw.use rfl (hN (.fieldLinkNest RX12 400 "HobhouseModel$Gear" "isGround" "Z" "HobhouseModel") (by decide +kernel))) (fun _ h9 => h9) rfl (by decide +kernel) (by rfl) (by rfl) (Nat.le_of_ble_eq_true rfl) dX12_grind_151 (fun H locs hP2 hD2 hS => ?_)
                    have e9 := wPuI (cy := cy) (j := 21) (v := (0 : Int32)) hD (xe189.A (xe65.A o27)).1 (xe189.A (xe65.A o27)).2.1 gk193 rfl
                    obtain ⟨S194, hS194⟩ : ∃ z, S188.sI r25 21 (0 : Int32) = z := ⟨_, rfl⟩
                    have hP : va_P D vwCl (X ++ PL cy S194) H := by rw [← hS194, ← e9]; exact hP2
                    have hD : va_D A (X ++ PL cy S194) := by rw [← hS194, ← e9]; exact hD2
                    have xe195 : ext S188 S194 := by rw [← hS194]; exact ext.sI _ _ _ _
                    have t196 : stp [(10, 9), (10, 13), (10, 20), (10, 21), (12, 15)] [] [] S S194 := by rw [← hS194]; exact t190.I 21 (0 : Int32) (xe189.A (xe65.A o27)) (by decide) (⟨by decide, by decide⟩) (Or.inl (by decide))
                    refine lv_aload hx hb dX12_grind_154 (lv_at hl 1 rfl) ?_
                    refine lv_iload hx hb dX12_grind_156 (lv_at hl 0 rfl) ?_
                    refine lv_bipush (v := 30) hx hb dX12_grind_158 (by decide +kernel) ?_
                    refine lv_icmp_gt (tgt := 176) hx hb dX12_grind_160 (by decide) (fun c197 => ?_) (fun c197 => ?_)
                    · have c197i : 30 < (if (S.I r25 9) < x2 then (S.I r25 9) else x2).toInt := lt_v rfl rfl c197
                      refine lv_iconst (v := 1) hx hb dX12_grind_176 (by decide) ?_
                      refine lv_goto (tgt := 181) hx hb dX12_grind_177 (by decide) ?_
                      have l32_1 : (1 : Int32).toInt = 1 := rfl
                      obtain ⟨k198, gk198, hk198⟩ := wGt (cy := cy) X S194 (xe195.A (xe189.A (xe65.A o27))).1 (xe195.A (xe189.A (xe65.A o27))).2.1
                      refine va_putN (D := D) (ci := 14) (v := .int (1 : Int32)) (ty := .boolean) (C := RX10) (T := TX10) (N := 23) hx hb hts hi_X12_grind_X10 tyX10 tyX10_ok nmX10 hown hK hP hD hS k198 hk198 rfl 20 (by decide) (va_Nw.use rfl (hN (.fieldLinkNest RX12 372 "HobhouseModel$Gear" "isScrap" "Z" "HobhouseModel") (by decide +kernel))) (fun _ h9 => h9) rfl (by decide +kernel) (by rfl) (by rfl) (Nat.le_of_ble_eq_true rfl) dX12_grind_181 (fun H locs hP2 hD2 hS => ?_)
                      have e9 := wPuI (cy := cy) (j := 20) (v := (1 : Int32)) hD (xe195.A (xe189.A (xe65.A o27))).1 (xe195.A (xe189.A (xe65.A o27))).2.1 gk198 rfl
                      obtain ⟨S199, hS199⟩ : ∃ z, S194.sI r25 20 (1 : Int32) = z := ⟨_, rfl⟩
                      have hP : va_P D vwCl (X ++ PL cy S199) H := by rw [← hS199, ← e9]; exact hP2
                      have hD : va_D A (X ++ PL cy S199) := by rw [← hS199, ← e9]; exact hD2
                      have xe200 : ext S194 S199 := by rw [← hS199]; exact ext.sI _ _ _ _
                      have t201 : stp [(10, 9), (10, 13), (10, 20), (10, 21), (12, 15)] [] [] S S199 := by rw [← hS199]; exact t196.I 20 (1 : Int32) (xe195.A (xe189.A (xe65.A o27))) (by decide) (⟨by decide, by decide⟩) (Or.inl (by decide))
                      refine lv_aload_n hx hb dX12_grind_184 rfl (lv_at hl 2 rfl) ?_
                      refine lv_aload hx hb dX12_grind_185 (lv_at hl 1 rfl) ?_
                      obtain ⟨k202, gk202, hk202⟩ := wGt (cy := cy) X S199 (xe200.A (xe195.A (xe189.A (xe65.A o27)))).1 (xe200.A (xe195.A (xe189.A (xe65.A o27)))).2.1
                      refine va_getN (D := D) (ci := 14) (v := .int (S199.I r25 9)) (C := RX10) (T := TX10) (N := 23) hx hb hts hi_X12_grind_X10 hown hK hP k202 hk202 rfl 9 (by decide) (va_Nw.use rfl (hN (.fieldLinkNest RX12 356 "HobhouseModel$Gear" "stock" "I" "HobhouseModel") (by decide +kernel))) (fun _ h9 => h9) rfl dX12_grind_187 ?_
                      have hFc := free_all hD hS hA
                      obtain ⟨k203, gk203, hk203⟩ := wGt (cy := cy) X S199 ((xe65.tr (xe189.tr (xe195.tr xe200))).A h_o1).1 ((xe65.tr (xe189.tr (xe195.tr xe200))).A h_o1).2.1
                      refine va_calli (va_runV (As := [.int (S199.I r25 9)]) (rest := []) ⟨hx, hb, hml, hown, hts⟩ (c_X12_answer l (cy := cy) (X := X) (D := D) S199 _ o1 ((xe65.tr (xe189.tr (xe195.tr xe200))).A h_o1) (S199.I r25 9) (t201.w)) (cwV 1 hts gX12_grind_X12_answer rfl rfl rfl hd_X12_answer ⟨Nat.le_of_ble_eq_true rfl, Nat.le_of_ble_eq_true rfl⟩) (pV (va_recv hK hP (q := (RX12, TX12, 34)) (ci := 16) (q0 := k203) rfl hk203) hP hK hD hN) rfl rfl hl.1 rfl (lv_room (Nat.le_of_ble_eq_true rfl)) dX12_grind_190 ⟨(Nat.zero_le _), (Nat.zero_le _)⟩) hS (fun q _ h => hFc q h) hFc (fun r204 u t H1 locs ht hvm hw hB hz1 hk1 hS => ?_)
                      obtain ⟨c205, w206⟩ := hw
                      obtain ⟨hP, hD⟩ := wd_post hFc ht hB
                      generalize H1 = H at hP hS ⊢
                      obtain ⟨S207, rfl⟩ : ∃ z, z = u := ⟨_, rfl⟩
                      have t208 : stp [(10, 9), (10, 13), (10, 20), (10, 21), (12, 15)] [] [] S S207 := t201.tr w206 (by decide) (fun _ q => absurd q List.not_mem_nil)
                      have xe209 : ext S199 S207 := w206.x
                      refine W.widen (k := 0) (n := 0) (Nat.le_of_ble_eq_true rfl) (Nat.le_of_ble_eq_true rfl) ?_
                      exact W.iret (v := r204) hx hb hr (fun t ht hW9 => ⟨⟨r204, S207, rfl, t208, wd_end hP hK hD ht hW9.alike⟩, hS.F ht⟩) hS.2.2 dX12_grind_193 hlocks
                    · have c197i : (if (S.I r25 9) < x2 then (S.I r25 9) else x2).toInt ≤ 30 := nlt_v rfl rfl c197
                      refine lv_iload hx hb dX12_grind_163 (lv_at hl 0 rfl) ?_
                      refine lv_bipush (v := 20) hx hb dX12_grind_165 (by decide +kernel) ?_
                      refine lv_icmp_le (tgt := 180) hx hb dX12_grind_167 (by decide) (fun c210 => ?_) (fun c210 => ?_)
                      · have c210i : (if (S.I r25 9) < x2 then (S.I r25 9) else x2).toInt ≤ 20 := le_v rfl rfl c210
                        refine lv_iconst (v := 0) hx hb dX12_grind_180 (by decide) ?_
                        obtain ⟨k211, gk211, hk211⟩ := wGt (cy := cy) X S194 (xe195.A (xe189.A (xe65.A o27))).1 (xe195.A (xe189.A (xe65.A o27))).2.1
                        refine va_putN (D := D) (ci := 14) (v := .int (0 : Int32)) (ty := .boolean) (C := RX10) (T := TX10) (N := 23) hx hb hts hi_X12_grind_X10 tyX10 tyX10_ok nmX10 hown hK hP hD hS k211 hk211 rfl 20 (by decide) (va_Nw.use rfl (hN (.fieldLinkNest RX12 372 "HobhouseModel$Gear" "isScrap" "Z" "HobhouseModel") (by decide +kernel))) (fun _ h9 => h9) rfl (by decide +kernel) (by rfl) (by rfl) (Nat.le_of_ble_eq_true rfl) dX12_grind_181 (fun H locs hP2 hD2 hS => ?_)
                        have e9 := wPuI (cy := cy) (j := 20) (v := (0 : Int32)) hD (xe195.A (xe189.A (xe65.A o27))).1 (xe195.A (xe189.A (xe65.A o27))).2.1 gk211 rfl
                        obtain ⟨S212, hS212⟩ : ∃ z, S194.sI r25 20 (0 : Int32) = z := ⟨_, rfl⟩
                        have hP : va_P D vwCl (X ++ PL cy S212) H := by rw [← hS212, ← e9]; exact hP2
                        have hD : va_D A (X ++ PL cy S212) := by rw [← hS212, ← e9]; exact hD2
                        have xe213 : ext S194 S212 := by rw [← hS212]; exact ext.sI _ _ _ _
                        have t214 : stp [(10, 9), (10, 13), (10, 20), (10, 21), (12, 15)] [] [] S S212 := by rw [← hS212]; exact t196.I 20 (0 : Int32) (xe195.A (xe189.A (xe65.A o27))) (by decide) (⟨by decide, by decide⟩) (Or.inl (by decide))
                        refine lv_aload_n hx hb dX12_grind_184 rfl (lv_at hl 2 rfl) ?_
                        refine lv_aload hx hb dX12_grind_185 (lv_at hl 1 rfl) ?_
                        obtain ⟨k215, gk215, hk215⟩ := wGt (cy := cy) X S212 (xe213.A (xe195.A (xe189.A (xe65.A o27)))).1 (xe213.A (xe195.A (xe189.A (xe65.A o27)))).2.1
                        refine va_getN (D := D) (ci := 14) (v := .int (S212.I r25 9)) (C := RX10) (T := TX10) (N := 23) hx hb hts hi_X12_grind_X10 hown hK hP k215 hk215 rfl 9 (by decide) (va_Nw.use rfl (hN (.fieldLinkNest RX12 356 "HobhouseModel$Gear" "stock" "I" "HobhouseModel") (by decide +kernel))) (fun _ h9 => h9) rfl dX12_grind_187 ?_
                        have hFc := free_all hD hS hA
                        obtain ⟨k216, gk216, hk216⟩ := wGt (cy := cy) X S212 ((xe65.tr (xe189.tr (xe195.tr xe213))).A h_o1).1 ((xe65.tr (xe189.tr (xe195.tr xe213))).A h_o1).2.1
                        refine va_calli (va_runV (As := [.int (S212.I r25 9)]) (rest := []) ⟨hx, hb, hml, hown, hts⟩ (c_X12_answer l (cy := cy) (X := X) (D := D) S212 _ o1 ((xe65.tr (xe189.tr (xe195.tr xe213))).A h_o1) (S212.I r25 9) (t214.w)) (cwV 1 hts gX12_grind_X12_answer rfl rfl rfl hd_X12_answer ⟨Nat.le_of_ble_eq_true rfl, Nat.le_of_ble_eq_true rfl⟩) (pV (va_recv hK hP (q := (RX12, TX12, 34)) (ci := 16) (q0 := k216) rfl hk216) hP hK hD hN) rfl rfl hl.1 rfl (lv_room (Nat.le_of_ble_eq_true rfl)) dX12_grind_190 ⟨(Nat.zero_le _), (Nat.zero_le _)⟩) hS (fun q _ h => hFc q h) hFc (fun r217 u t H1 locs ht hvm hw hB hz1 hk1 hS => ?_)
                        obtain ⟨c218, w219⟩ := hw
                        obtain ⟨hP, hD⟩ := wd_post hFc ht hB
                        generalize H1 = H at hP hS ⊢
                        obtain ⟨S220, rfl⟩ : ∃ z, z = u := ⟨_, rfl⟩
                        have t221 : stp [(10, 9), (10, 13), (10, 20), (10, 21), (12, 15)] [] [] S S220 := t214.tr w219 (by decide) (fun _ q => absurd q List.not_mem_nil)
                        have xe222 : ext S212 S220 := w219.x
                        refine W.widen (k := 0) (n := 0) (Nat.le_of_ble_eq_true rfl) (Nat.le_of_ble_eq_true rfl) ?_
                        exact W.iret (v := r217) hx hb hr (fun t ht hW9 => ⟨⟨r217, S220, rfl, t221, wd_end hP hK hD ht hW9.alike⟩, hS.F ht⟩) hS.2.2 dX12_grind_193 hlocks
                      · have c210i : 20 < (if (S.I r25 9) < x2 then (S.I r25 9) else x2).toInt := nle_v rfl rfl c210
                        refine lv_iload_n hx hb dX12_grind_170 rfl (lv_at hl 5 rfl) ?_
                        refine lv_bipush (v := 100) hx hb dX12_grind_171 (by decide +kernel) ?_
                        refine lv_icmp_le (tgt := 180) hx hb dX12_grind_173 (by decide) (fun c223 => ?_) (fun c223 => ?_)
                        · have c223i : x3.toInt ≤ 100 := le_v rfl rfl c223
                          refine lv_iconst (v := 0) hx hb dX12_grind_180 (by decide) ?_
                          obtain ⟨k224, gk224, hk224⟩ := wGt (cy := cy) X S194 (xe195.A (xe189.A (xe65.A o27))).1 (xe195.A (xe189.A (xe65.A o27))).2.1
                          refine va_putN (D := D) (ci := 14) (v := .int (0 : Int32)) (ty := .boolean) (C := RX10) (T := TX10) (N := 23) hx hb hts hi_X12_grind_X10 tyX10 tyX10_ok nmX10 hown hK hP hD hS k224 hk224 rfl 20 (by decide) (va_Nw.use rfl (hN (.fieldLinkNest RX12 372 "HobhouseModel$Gear" "isScrap" "Z" "HobhouseModel") (by decide +kernel))) (fun _ h9 => h9) rfl (by decide +kernel) (by rfl) (by rfl) (Nat.le_of_ble_eq_true rfl) dX12_grind_181 (fun H locs hP2 hD2 hS => ?_)
                          have e9 := wPuI (cy := cy) (j := 20) (v := (0 : Int32)) hD (xe195.A (xe189.A (xe65.A o27))).1 (xe195.A (xe189.A (xe65.A o27))).2.1 gk224 rfl
                          obtain ⟨S225, hS225⟩ : ∃ z, S194.sI r25 20 (0 : Int32) = z := ⟨_, rfl⟩
                          have hP : va_P D vwCl (X ++ PL cy S225) H := by rw [← hS225, ← e9]; exact hP2
                          have hD : va_D A (X ++ PL cy S225) := by rw [← hS225, ← e9]; exact hD2
                          have xe226 : ext S194 S225 := by rw [← hS225]; exact ext.sI _ _ _ _
                          have t227 : stp [(10, 9), (10, 13), (10, 20), (10, 21), (12, 15)] [] [] S S225 := by rw [← hS225]; exact t196.I 20 (0 : Int32) (xe195.A (xe189.A (xe65.A o27))) (by decide) (⟨by decide, by decide⟩) (Or.inl (by decide))
                          refine lv_aload_n hx hb dX12_grind_184 rfl (lv_at hl 2 rfl) ?_
                          refine lv_aload hx hb dX12_grind_185 (lv_at hl 1 rfl) ?_
                          obtain ⟨k228, gk228, hk228⟩ := wGt (cy := cy) X S225 (xe226.A (xe195.A (xe189.A (xe65.A o27)))).1 (xe226.A (xe195.A (xe189.A (xe65.A o27)))).2.1
                          refine va_getN (D := D) (ci := 14) (v := .int (S225.I r25 9)) (C := RX10) (T := TX10) (N := 23) hx hb hts hi_X12_grind_X10 hown hK hP k228 hk228 rfl 9 (by decide) (va_Nw.use rfl (hN (.fieldLinkNest RX12 356 "HobhouseModel$Gear" "stock" "I" "HobhouseModel") (by decide +kernel))) (fun _ h9 => h9) rfl dX12_grind_187 ?_
                          have hFc := free_all hD hS hA
                          obtain ⟨k229, gk229, hk229⟩ := wGt (cy := cy) X S225 ((xe65.tr (xe189.tr (xe195.tr xe226))).A h_o1).1 ((xe65.tr (xe189.tr (xe195.tr xe226))).A h_o1).2.1
                          refine va_calli (va_runV (As := [.int (S225.I r25 9)]) (rest := []) ⟨hx, hb, hml, hown, hts⟩ (c_X12_answer l (cy := cy) (X := X) (D := D) S225 _ o1 ((xe65.tr (xe189.tr (xe195.tr xe226))).A h_o1) (S225.I r25 9) (t227.w)) (cwV 1 hts gX12_grind_X12_answer rfl rfl rfl hd_X12_answer ⟨Nat.le_of_ble_eq_true rfl, Nat.le_of_ble_eq_true rfl⟩) (pV (va_recv hK hP (q := (RX12, TX12, 34)) (ci := 16) (q0 := k229) rfl hk229) hP hK hD hN) rfl rfl hl.1 rfl (lv_room (Nat.le_of_ble_eq_true rfl)) dX12_grind_190 ⟨(Nat.zero_le _), (Nat.zero_le _)⟩) hS (fun q _ h => hFc q h) hFc (fun r230 u t H1 locs ht hvm hw hB hz1 hk1 hS => ?_)
                          obtain ⟨c231, w232⟩ := hw
                          obtain ⟨hP, hD⟩ := wd_post hFc ht hB
                          generalize H1 = H at hP hS ⊢
                          obtain ⟨S233, rfl⟩ : ∃ z, z = u := ⟨_, rfl⟩
                          have t234 : stp [(10, 9), (10, 13), (10, 20), (10, 21), (12, 15)] [] [] S S233 := t227.tr w232 (by decide) (fun _ q => absurd q List.not_mem_nil)
                          have xe235 : ext S225 S233 := w232.x
                          refine W.widen (k := 0) (n := 0) (Nat.le_of_ble_eq_true rfl) (Nat.le_of_ble_eq_true rfl) ?_
                          exact W.iret (v := r230) hx hb hr (fun t ht hW9 => ⟨⟨r230, S233, rfl, t234, wd_end hP hK hD ht hW9.alike⟩, hS.F ht⟩) hS.2.2 dX12_grind_193 hlocks
                        · have c223i : 100 < x3.toInt := nle_v rfl rfl c223
                          refine lv_iconst (v := 1) hx hb dX12_grind_176 (by decide) ?_
                          refine lv_goto (tgt := 181) hx hb dX12_grind_177 (by decide) ?_
                          have l32_1 : (1 : Int32).toInt = 1 := rfl
                          obtain ⟨k236, gk236, hk236⟩ := wGt (cy := cy) X S194 (xe195.A (xe189.A (xe65.A o27))).1 (xe195.A (xe189.A (xe65.A o27))).2.1
                          refine va_putN (D := D) (ci := 14) (v := .int (1 : Int32)) (ty := .boolean) (C := RX10) (T := TX10) (N := 23) hx hb hts hi_X12_grind_X10 tyX10 tyX10_ok nmX10 hown hK hP hD hS k236 hk236 rfl 20 (by decide) (va_Nw.use rfl (hN (.fieldLinkNest RX12 372 "HobhouseModel$Gear" "isScrap" "Z" "HobhouseModel") (by decide +kernel))) (fun _ h9 => h9) rfl (by decide +kernel) (by rfl) (by rfl) (Nat.le_of_ble_eq_true rfl) dX12_grind_181 (fun H locs hP2 hD2 hS => ?_)
                          have e9 := wPuI (cy := cy) (j := 20) (v := (1 : Int32)) hD (xe195.A (xe189.A (xe65.A o27))).1 (xe195.A (xe189.A (xe65.A o27))).2.1 gk236 rfl
                          obtain ⟨S237, hS237⟩ : ∃ z, S194.sI r25 20 (1 : Int32) = z := ⟨_, rfl⟩
                          have hP : va_P D vwCl (X ++ PL cy S237) H := by rw [← hS237, ← e9]; exact hP2
                          have hD : va_D A (X ++ PL cy S237) := by rw [← hS237, ← e9]; exact hD2
                          have xe238 : ext S194 S237 := by rw [← hS237]; exact ext.sI _ _ _ _
                          have t239 : stp [(10, 9), (10, 13), (10, 20), (10, 21), (12, 15)] [] [] S S237 := by rw [← hS237]; exact t196.I 20 (1 : Int32) (xe195.A (xe189.A (xe65.A o27))) (by decide) (⟨by decide, by decide⟩) (Or.inl (by decide))
                          refine lv_aload_n hx hb dX12_grind_184 rfl (lv_at hl 2 rfl) ?_
                          refine lv_aload hx hb dX12_grind_185 (lv_at hl 1 rfl) ?_
                          obtain ⟨k240, gk240, hk240⟩ := wGt (cy := cy) X S237 (xe238.A (xe195.A (xe189.A (xe65.A o27)))).1 (xe238.A (xe195.A (xe189.A (xe65.A o27)))).2.1
                          refine va_getN (D := D) (ci := 14) (v := .int (S237.I r25 9)) (C := RX10) (T := TX10) (N := 23) hx hb hts hi_X12_grind_X10 hown hK hP k240 hk240 rfl 9 (by decide) (va_Nw.use rfl (hN (.fieldLinkNest RX12 356 "HobhouseModel$Gear" "stock" "I" "HobhouseModel") (by decide +kernel))) (fun _ h9 => h9) rfl dX12_grind_187 ?_
                          have hFc := free_all hD hS hA
                          obtain ⟨k241, gk241, hk241⟩ := wGt (cy := cy) X S237 ((xe65.tr (xe189.tr (xe195.tr xe238))).A h_o1).1 ((xe65.tr (xe189.tr (xe195.tr xe238))).A h_o1).2.1
                          refine va_calli (va_runV (As := [.int (S237.I r25 9)]) (rest := []) ⟨hx, hb, hml, hown, hts⟩ (c_X12_answer l (cy := cy) (X := X) (D := D) S237 _ o1 ((xe65.tr (xe189.tr (xe195.tr xe238))).A h_o1) (S237.I r25 9) (t239.w)) (cwV 1 hts gX12_grind_X12_answer rfl rfl rfl hd_X12_answer ⟨Nat.le_of_ble_eq_true rfl, Nat.le_of_ble_eq_true rfl⟩) (pV (va_recv hK hP (q := (RX12, TX12, 34)) (ci := 16) (q0 := k241) rfl hk241) hP hK hD hN) rfl rfl hl.1 rfl (lv_room (Nat.le_of_ble_eq_true rfl)) dX12_grind_190 ⟨(Nat.zero_le _), (Nat.zero_le _)⟩) hS (fun q _ h => hFc q h) hFc (fun r242 u t H1 locs ht hvm hw hB hz1 hk1 hS => ?_)
                          obtain ⟨c243, w244⟩ := hw
                          obtain ⟨hP, hD⟩ := wd_post hFc ht hB
                          generalize H1 = H at hP hS ⊢
                          obtain ⟨S245, rfl⟩ : ∃ z, z = u := ⟨_, rfl⟩
                          have t246 : stp [(10, 9), (10, 13), (10, 20), (10, 21), (12, 15)] [] [] S S245 := t239.tr w244 (by decide) (fun _ q => absurd q List.not_mem_nil)
                          have xe247 : ext S237 S245 := w244.x
                          refine W.widen (k := 0) (n := 0) (Nat.le_of_ble_eq_true rfl) (Nat.le_of_ble_eq_true rfl) ?_
                          exact W.iret (v := r242) hx hb hr (fun t ht hW9 => ⟨⟨r242, S245, rfl, t246, wd_end hP hK hD ht hW9.alike⟩, hS.F ht⟩) hS.2.2 dX12_grind_193 hlocks
                  · have c192i : (S188.I r25 9).toInt = 0 := eq_v rfl rfl c192
                    refine lv_iconst (v := 1) hx hb dX12_grind_146 (by decide) ?_
                    refine lv_goto (tgt := 151) hx hb dX12_grind_147 (by decide) ?_
                    have l32_1 : (1 : Int32).toInt = 1 := rfl
                    obtain ⟨k248, gk248, hk248⟩ := wGt (cy := cy) X S188 (xe189.A (xe65.A o27)).1 (xe189.A (xe65.A o27)).2.1
                    refine va_putN (D := D) (ci := 14) (v := .int (1 : Int32)) (ty := .boolean) (C := RX10) (T := TX10) (N := 23) hx hb hts hi_X12_grind_X10 tyX10 tyX10_ok nmX10 hown hK hP hD hS k248 hk248 rfl 21 (by decide) (va_Nw.use rfl (hN (.fieldLinkNest RX12 400 "HobhouseModel$Gear" "isGround" "Z" "HobhouseModel") (by decide +kernel))) (fun _ h9 => h9) rfl (by decide +kernel) (by rfl) (by rfl) (Nat.le_of_ble_eq_true rfl) dX12_grind_151 (fun H locs hP2 hD2 hS => ?_)
                    have e9 := wPuI (cy := cy) (j := 21) (v := (1 : Int32)) hD (xe189.A (xe65.A o27)).1 (xe189.A (xe65.A o27)).2.1 gk248 rfl
                    obtain ⟨S249, hS249⟩ : ∃ z, S188.sI r25 21 (1 : Int32) = z := ⟨_, rfl⟩
                    have hP : va_P D vwCl (X ++ PL cy S249) H := by rw [← hS249, ← e9]; exact hP2
                    have hD : va_D A (X ++ PL cy S249) := by rw [← hS249, ← e9]; exact hD2
                    have xe250 : ext S188 S249 := by rw [← hS249]; exact ext.sI _ _ _ _
                    have t251 : stp [(10, 9), (10, 13), (10, 20), (10, 21), (12, 15)] [] [] S S249 := by rw [← hS249]; exact t190.I 21 (1 : Int32) (xe189.A (xe65.A o27)) (by decide) (⟨by decide, by decide⟩) (Or.inl (by decide))
                    refine lv_aload hx hb dX12_grind_154 (lv_at hl 1 rfl) ?_
                    refine lv_iload hx hb dX12_grind_156 (lv_at hl 0 rfl) ?_
                    refine lv_bipush (v := 30) hx hb dX12_grind_158 (by decide +kernel) ?_
                    refine lv_icmp_gt (tgt := 176) hx hb dX12_grind_160 (by decide) (fun c252 => ?_) (fun c252 => ?_)
                    · have c252i : 30 < (if (S.I r25 9) < x2 then (S.I r25 9) else x2).toInt := lt_v rfl rfl c252
                      refine lv_iconst (v := 1) hx hb dX12_grind_176 (by decide) ?_
                      refine lv_goto (tgt := 181) hx hb dX12_grind_177 (by decide) ?_
                      obtain ⟨k253, gk253, hk253⟩ := wGt (cy := cy) X S249 (xe250.A (xe189.A (xe65.A o27))).1 (xe250.A (xe189.A (xe65.A o27))).2.1
                      refine va_putN (D := D) (ci := 14) (v := .int (1 : Int32)) (ty := .boolean) (C := RX10) (T := TX10) (N := 23) hx hb hts hi_X12_grind_X10 tyX10 tyX10_ok nmX10 hown hK hP hD hS k253 hk253 rfl 20 (by decide) (va_Nw.use rfl (hN (.fieldLinkNest RX12 372 "HobhouseModel$Gear" "isScrap" "Z" "HobhouseModel") (by decide +kernel))) (fun _ h9 => h9) rfl (by decide +kernel) (by rfl) (by rfl) (Nat.le_of_ble_eq_true rfl) dX12_grind_181 (fun H locs hP2 hD2 hS => ?_)
                      have e9 := wPuI (cy := cy) (j := 20) (v := (1 : Int32)) hD (xe250.A (xe189.A (xe65.A o27))).1 (xe250.A (xe189.A (xe65.A o27))).2.1 gk253 rfl
                      obtain ⟨S254, hS254⟩ : ∃ z, S249.sI r25 20 (1 : Int32) = z := ⟨_, rfl⟩
                      have hP : va_P D vwCl (X ++ PL cy S254) H := by rw [← hS254, ← e9]; exact hP2
                      have hD : va_D A (X ++ PL cy S254) := by rw [← hS254, ← e9]; exact hD2
                      have xe255 : ext S249 S254 := by rw [← hS254]; exact ext.sI _ _ _ _
                      have t256 : stp [(10, 9), (10, 13), (10, 20), (10, 21), (12, 15)] [] [] S S254 := by rw [← hS254]; exact t251.I 20 (1 : Int32) (xe250.A (xe189.A (xe65.A o27))) (by decide) (⟨by decide, by decide⟩) (Or.inl (by decide))
                      refine lv_aload_n hx hb dX12_grind_184 rfl (lv_at hl 2 rfl) ?_
                      refine lv_aload hx hb dX12_grind_185 (lv_at hl 1 rfl) ?_
                      obtain ⟨k257, gk257, hk257⟩ := wGt (cy := cy) X S254 (xe255.A (xe250.A (xe189.A (xe65.A o27)))).1 (xe255.A (xe250.A (xe189.A (xe65.A o27)))).2.1
                      refine va_getN (D := D) (ci := 14) (v := .int (S254.I r25 9)) (C := RX10) (T := TX10) (N := 23) hx hb hts hi_X12_grind_X10 hown hK hP k257 hk257 rfl 9 (by decide) (va_Nw.use rfl (hN (.fieldLinkNest RX12 356 "HobhouseModel$Gear" "stock" "I" "HobhouseModel") (by decide +kernel))) (fun _ h9 => h9) rfl dX12_grind_187 ?_
                      have hFc := free_all hD hS hA
                      obtain ⟨k258, gk258, hk258⟩ := wGt (cy := cy) X S254 ((xe65.tr (xe189.tr (xe250.tr xe255))).A h_o1).1 ((xe65.tr (xe189.tr (xe250.tr xe255))).A h_o1).2.1
                      refine va_calli (va_runV (As := [.int (S254.I r25 9)]) (rest := []) ⟨hx, hb, hml, hown, hts⟩ (c_X12_answer l (cy := cy) (X := X) (D := D) S254 _ o1 ((xe65.tr (xe189.tr (xe250.tr xe255))).A h_o1) (S254.I r25 9) (t256.w)) (cwV 1 hts gX12_grind_X12_answer rfl rfl rfl hd_X12_answer ⟨Nat.le_of_ble_eq_true rfl, Nat.le_of_ble_eq_true rfl⟩) (pV (va_recv hK hP (q := (RX12, TX12, 34)) (ci := 16) (q0 := k258) rfl hk258) hP hK hD hN) rfl rfl hl.1 rfl (lv_room (Nat.le_of_ble_eq_true rfl)) dX12_grind_190 ⟨(Nat.zero_le _), (Nat.zero_le _)⟩) hS (fun q _ h => hFc q h) hFc (fun r259 u t H1 locs ht hvm hw hB hz1 hk1 hS => ?_)
                      obtain ⟨c260, w261⟩ := hw
                      obtain ⟨hP, hD⟩ := wd_post hFc ht hB
                      generalize H1 = H at hP hS ⊢
                      obtain ⟨S262, rfl⟩ : ∃ z, z = u := ⟨_, rfl⟩
                      have t263 : stp [(10, 9), (10, 13), (10, 20), (10, 21), (12, 15)] [] [] S S262 := t256.tr w261 (by decide) (fun _ q => absurd q List.not_mem_nil)
                      have xe264 : ext S254 S262 := w261.x
                      refine W.widen (k := 0) (n := 0) (Nat.le_of_ble_eq_true rfl) (Nat.le_of_ble_eq_true rfl) ?_
                      exact W.iret (v := r259) hx hb hr (fun t ht hW9 => ⟨⟨r259, S262, rfl, t263, wd_end hP hK hD ht hW9.alike⟩, hS.F ht⟩) hS.2.2 dX12_grind_193 hlocks
                    · have c252i : (if (S.I r25 9) < x2 then (S.I r25 9) else x2).toInt ≤ 30 := nlt_v rfl rfl c252
                      refine lv_iload hx hb dX12_grind_163 (lv_at hl 0 rfl) ?_
                      refine lv_bipush (v := 20) hx hb dX12_grind_165 (by decide +kernel) ?_
                      refine lv_icmp_le (tgt := 180) hx hb dX12_grind_167 (by decide) (fun c265 => ?_) (fun c265 => ?_)
                      · have c265i : (if (S.I r25 9) < x2 then (S.I r25 9) else x2).toInt ≤ 20 := le_v rfl rfl c265
                        refine lv_iconst (v := 0) hx hb dX12_grind_180 (by decide) ?_
                        have l32_0 : (0 : Int32).toInt = 0 := rfl
                        obtain ⟨k266, gk266, hk266⟩ := wGt (cy := cy) X S249 (xe250.A (xe189.A (xe65.A o27))).1 (xe250.A (xe189.A (xe65.A o27))).2.1
                        refine va_putN (D := D) (ci := 14) (v := .int (0 : Int32)) (ty := .boolean) (C := RX10) (T := TX10) (N := 23) hx hb hts hi_X12_grind_X10 tyX10 tyX10_ok nmX10 hown hK hP hD hS k266 hk266 rfl 20 (by decide) (va_Nw.use rfl (hN (.fieldLinkNest RX12 372 "HobhouseModel$Gear" "isScrap" "Z" "HobhouseModel") (by decide +kernel))) (fun _ h9 => h9) rfl (by decide +kernel) (by rfl) (by rfl) (Nat.le_of_ble_eq_true rfl) dX12_grind_181 (fun H locs hP2 hD2 hS => ?_)
                        have e9 := wPuI (cy := cy) (j := 20) (v := (0 : Int32)) hD (xe250.A (xe189.A (xe65.A o27))).1 (xe250.A (xe189.A (xe65.A o27))).2.1 gk266 rfl
                        obtain ⟨S267, hS267⟩ : ∃ z, S249.sI r25 20 (0 : Int32) = z := ⟨_, rfl⟩
                        have hP : va_P D vwCl (X ++ PL cy S267) H := by rw [← hS267, ← e9]; exact hP2
                        have hD : va_D A (X ++ PL cy S267) := by rw [← hS267, ← e9]; exact hD2
                        have xe268 : ext S249 S267 := by rw [← hS267]; exact ext.sI _ _ _ _
                        have t269 : stp [(10, 9), (10, 13), (10, 20), (10, 21), (12, 15)] [] [] S S267 := by rw [← hS267]; exact t251.I 20 (0 : Int32) (xe250.A (xe189.A (xe65.A o27))) (by decide) (⟨by decide, by decide⟩) (Or.inl (by decide))
                        refine lv_aload_n hx hb dX12_grind_184 rfl (lv_at hl 2 rfl) ?_
                        refine lv_aload hx hb dX12_grind_185 (lv_at hl 1 rfl) ?_
                        obtain ⟨k270, gk270, hk270⟩ := wGt (cy := cy) X S267 (xe268.A (xe250.A (xe189.A (xe65.A o27)))).1 (xe268.A (xe250.A (xe189.A (xe65.A o27)))).2.1
                        refine va_getN (D := D) (ci := 14) (v := .int (S267.I r25 9)) (C := RX10) (T := TX10) (N := 23) hx hb hts hi_X12_grind_X10 hown hK hP k270 hk270 rfl 9 (by decide) (va_Nw.use rfl (hN (.fieldLinkNest RX12 356 "HobhouseModel$Gear" "stock" "I" "HobhouseModel") (by decide +kernel))) (fun _ h9 => h9) rfl dX12_grind_187 ?_
                        have hFc := free_all hD hS hA
                        obtain ⟨k271, gk271, hk271⟩ := wGt (cy := cy) X S267 ((xe65.tr (xe189.tr (xe250.tr xe268))).A h_o1).1 ((xe65.tr (xe189.tr (xe250.tr xe268))).A h_o1).2.1
                        refine va_calli (va_runV (As := [.int (S267.I r25 9)]) (rest := []) ⟨hx, hb, hml, hown, hts⟩ (c_X12_answer l (cy := cy) (X := X) (D := D) S267 _ o1 ((xe65.tr (xe189.tr (xe250.tr xe268))).A h_o1) (S267.I r25 9) (t269.w)) (cwV 1 hts gX12_grind_X12_answer rfl rfl rfl hd_X12_answer ⟨Nat.le_of_ble_eq_true rfl, Nat.le_of_ble_eq_true rfl⟩) (pV (va_recv hK hP (q := (RX12, TX12, 34)) (ci := 16) (q0 := k271) rfl hk271) hP hK hD hN) rfl rfl hl.1 rfl (lv_room (Nat.le_of_ble_eq_true rfl)) dX12_grind_190 ⟨(Nat.zero_le _), (Nat.zero_le _)⟩) hS (fun q _ h => hFc q h) hFc (fun r272 u t H1 locs ht hvm hw hB hz1 hk1 hS => ?_)
                        obtain ⟨c273, w274⟩ := hw
                        obtain ⟨hP, hD⟩ := wd_post hFc ht hB
                        generalize H1 = H at hP hS ⊢
                        obtain ⟨S275, rfl⟩ : ∃ z, z = u := ⟨_, rfl⟩
                        have t276 : stp [(10, 9), (10, 13), (10, 20), (10, 21), (12, 15)] [] [] S S275 := t269.tr w274 (by decide) (fun _ q => absurd q List.not_mem_nil)
                        have xe277 : ext S267 S275 := w274.x
                        refine W.widen (k := 0) (n := 0) (Nat.le_of_ble_eq_true rfl) (Nat.le_of_ble_eq_true rfl) ?_
                        exact W.iret (v := r272) hx hb hr (fun t ht hW9 => ⟨⟨r272, S275, rfl, t276, wd_end hP hK hD ht hW9.alike⟩, hS.F ht⟩) hS.2.2 dX12_grind_193 hlocks
                      · have c265i : 20 < (if (S.I r25 9) < x2 then (S.I r25 9) else x2).toInt := nle_v rfl rfl c265
                        refine lv_iload_n hx hb dX12_grind_170 rfl (lv_at hl 5 rfl) ?_
                        refine lv_bipush (v := 100) hx hb dX12_grind_171 (by decide +kernel) ?_
                        refine lv_icmp_le (tgt := 180) hx hb dX12_grind_173 (by decide) (fun c278 => ?_) (fun c278 => ?_)
                        · have c278i : x3.toInt ≤ 100 := le_v rfl rfl c278
                          refine lv_iconst (v := 0) hx hb dX12_grind_180 (by decide) ?_
                          have l32_0 : (0 : Int32).toInt = 0 := rfl
                          obtain ⟨k279, gk279, hk279⟩ := wGt (cy := cy) X S249 (xe250.A (xe189.A (xe65.A o27))).1 (xe250.A (xe189.A (xe65.A o27))).2.1
                          refine va_putN (D := D) (ci := 14) (v := .int (0 : Int32)) (ty := .boolean) (C := RX10) (T := TX10) (N := 23) hx hb hts hi_X12_grind_X10 tyX10 tyX10_ok nmX10 hown hK hP hD hS k279 hk279 rfl 20 (by decide) (va_Nw.use rfl (hN (.fieldLinkNest RX12 372 "HobhouseModel$Gear" "isScrap" "Z" "HobhouseModel") (by decide +kernel))) (fun _ h9 => h9) rfl (by decide +kernel) (by rfl) (by rfl) (Nat.le_of_ble_eq_true rfl) dX12_grind_181 (fun H locs hP2 hD2 hS => ?_)
                          have e9 := wPuI (cy := cy) (j := 20) (v := (0 : Int32)) hD (xe250.A (xe189.A (xe65.A o27))).1 (xe250.A (xe189.A (xe65.A o27))).2.1 gk279 rfl
                          obtain ⟨S280, hS280⟩ : ∃ z, S249.sI r25 20 (0 : Int32) = z := ⟨_, rfl⟩
                          have hP : va_P D vwCl (X ++ PL cy S280) H := by rw [← hS280, ← e9]; exact hP2
                          have hD : va_D A (X ++ PL cy S280) := by rw [← hS280, ← e9]; exact hD2
                          have xe281 : ext S249 S280 := by rw [← hS280]; exact ext.sI _ _ _ _
                          have t282 : stp [(10, 9), (10, 13), (10, 20), (10, 21), (12, 15)] [] [] S S280 := by rw [← hS280]; exact t251.I 20 (0 : Int32) (xe250.A (xe189.A (xe65.A o27))) (by decide) (⟨by decide, by decide⟩) (Or.inl (by decide))
                          refine lv_aload_n hx hb dX12_grind_184 rfl (lv_at hl 2 rfl) ?_
                          refine lv_aload hx hb dX12_grind_185 (lv_at hl 1 rfl) ?_
                          obtain ⟨k283, gk283, hk283⟩ := wGt (cy := cy) X S280 (xe281.A (xe250.A (xe189.A (xe65.A o27)))).1 (xe281.A (xe250.A (xe189.A (xe65.A o27)))).2.1
                          refine va_getN (D := D) (ci := 14) (v := .int (S280.I r25 9)) (C := RX10) (T := TX10) (N := 23) hx hb hts hi_X12_grind_X10 hown hK hP k283 hk283 rfl 9 (by decide) (va_Nw.use rfl (hN (.fieldLinkNest RX12 356 "HobhouseModel$Gear" "stock" "I" "HobhouseModel") (by decide +kernel))) (fun _ h9 => h9) rfl dX12_grind_187 ?_
                          have hFc := free_all hD hS hA
                          obtain ⟨k284, gk284, hk284⟩ := wGt (cy := cy) X S280 ((xe65.tr (xe189.tr (xe250.tr xe281))).A h_o1).1 ((xe65.tr (xe189.tr (xe250.tr xe281))).A h_o1).2.1
                          refine va_calli (va_runV (As := [.int (S280.I r25 9)]) (rest := []) ⟨hx, hb, hml, hown, hts⟩ (c_X12_answer l (cy := cy) (X := X) (D := D) S280 _ o1 ((xe65.tr (xe189.tr (xe250.tr xe281))).A h_o1) (S280.I r25 9) (t282.w)) (cwV 1 hts gX12_grind_X12_answer rfl rfl rfl hd_X12_answer ⟨Nat.le_of_ble_eq_true rfl, Nat.le_of_ble_eq_true rfl⟩) (pV (va_recv hK hP (q := (RX12, TX12, 34)) (ci := 16) (q0 := k284) rfl hk284) hP hK hD hN) rfl rfl hl.1 rfl (lv_room (Nat.le_of_ble_eq_true rfl)) dX12_grind_190 ⟨(Nat.zero_le _), (Nat.zero_le _)⟩) hS (fun q _ h => hFc q h) hFc (fun r285 u t H1 locs ht hvm hw hB hz1 hk1 hS => ?_)
                          obtain ⟨c286, w287⟩ := hw
                          obtain ⟨hP, hD⟩ := wd_post hFc ht hB
                          generalize H1 = H at hP hS ⊢
                          obtain ⟨S288, rfl⟩ : ∃ z, z = u := ⟨_, rfl⟩
                          have t289 : stp [(10, 9), (10, 13), (10, 20), (10, 21), (12, 15)] [] [] S S288 := t282.tr w287 (by decide) (fun _ q => absurd q List.not_mem_nil)
                          have xe290 : ext S280 S288 := w287.x
                          refine W.widen (k := 0) (n := 0) (Nat.le_of_ble_eq_true rfl) (Nat.le_of_ble_eq_true rfl) ?_
                          exact W.iret (v := r285) hx hb hr (fun t ht hW9 => ⟨⟨r285, S288, rfl, t289, wd_end hP hK hD ht hW9.alike⟩, hS.F ht⟩) hS.2.2 dX12_grind_193 hlocks
                        · have c278i : 100 < x3.toInt := nle_v rfl rfl c278
                          refine lv_iconst (v := 1) hx hb dX12_grind_176 (by decide) ?_
                          refine lv_goto (tgt := 181) hx hb dX12_grind_177 (by decide) ?_
                          obtain ⟨k291, gk291, hk291⟩ := wGt (cy := cy) X S249 (xe250.A (xe189.A (xe65.A o27))).1 (xe250.A (xe189.A (xe65.A o27))).2.1
                          refine va_putN (D := D) (ci := 14) (v := .int (1 : Int32)) (ty := .boolean) (C := RX10) (T := TX10) (N := 23) hx hb hts hi_X12_grind_X10 tyX10 tyX10_ok nmX10 hown hK hP hD hS k291 hk291 rfl 20 (by decide) (va_Nw.use rfl (hN (.fieldLinkNest RX12 372 "HobhouseModel$Gear" "isScrap" "Z" "HobhouseModel") (by decide +kernel))) (fun _ h9 => h9) rfl (by decide +kernel) (by rfl) (by rfl) (Nat.le_of_ble_eq_true rfl) dX12_grind_181 (fun H locs hP2 hD2 hS => ?_)
                          have e9 := wPuI (cy := cy) (j := 20) (v := (1 : Int32)) hD (xe250.A (xe189.A (xe65.A o27))).1 (xe250.A (xe189.A (xe65.A o27))).2.1 gk291 rfl
                          obtain ⟨S292, hS292⟩ : ∃ z, S249.sI r25 20 (1 : Int32) = z := ⟨_, rfl⟩
                          have hP : va_P D vwCl (X ++ PL cy S292) H := by rw [← hS292, ← e9]; exact hP2
                          have hD : va_D A (X ++ PL cy S292) := by rw [← hS292, ← e9]; exact hD2
                          have xe293 : ext S249 S292 := by rw [← hS292]; exact ext.sI _ _ _ _
                          have t294 : stp [(10, 9), (10, 13), (10, 20), (10, 21), (12, 15)] [] [] S S292 := by rw [← hS292]; exact t251.I 20 (1 : Int32) (xe250.A (xe189.A (xe65.A o27))) (by decide) (⟨by decide, by decide⟩) (Or.inl (by decide))
                          refine lv_aload_n hx hb dX12_grind_184 rfl (lv_at hl 2 rfl) ?_
                          refine lv_aload hx hb dX12_grind_185 (lv_at hl 1 rfl) ?_
                          obtain ⟨k295, gk295, hk295⟩ := wGt (cy := cy) X S292 (xe293.A (xe250.A (xe189.A (xe65.A o27)))).1 (xe293.A (xe250.A (xe189.A (xe65.A o27)))).2.1
                          refine va_getN (D := D) (ci := 14) (v := .int (S292.I r25 9)) (C := RX10) (T := TX10) (N := 23) hx hb hts hi_X12_grind_X10 hown hK hP k295 hk295 rfl 9 (by decide) (va_Nw.use rfl (hN (.fieldLinkNest RX12 356 "HobhouseModel$Gear" "stock" "I" "HobhouseModel") (by decide +kernel))) (fun _ h9 => h9) rfl dX12_grind_187 ?_
                          have hFc := free_all hD hS hA
                          obtain ⟨k296, gk296, hk296⟩ := wGt (cy := cy) X S292 ((xe65.tr (xe189.tr (xe250.tr xe293))).A h_o1).1 ((xe65.tr (xe189.tr (xe250.tr xe293))).A h_o1).2.1
                          refine va_calli (va_runV (As := [.int (S292.I r25 9)]) (rest := []) ⟨hx, hb, hml, hown, hts⟩ (c_X12_answer l (cy := cy) (X := X) (D := D) S292 _ o1 ((xe65.tr (xe189.tr (xe250.tr xe293))).A h_o1) (S292.I r25 9) (t294.w)) (cwV 1 hts gX12_grind_X12_answer rfl rfl rfl hd_X12_answer ⟨Nat.le_of_ble_eq_true rfl, Nat.le_of_ble_eq_true rfl⟩) (pV (va_recv hK hP (q := (RX12, TX12, 34)) (ci := 16) (q0 := k296) rfl hk296) hP hK hD hN) rfl rfl hl.1 rfl (lv_room (Nat.le_of_ble_eq_true rfl)) dX12_grind_190 ⟨(Nat.zero_le _), (Nat.zero_le _)⟩) hS (fun q _ h => hFc q h) hFc (fun r297 u t H1 locs ht hvm hw hB hz1 hk1 hS => ?_)
                          obtain ⟨c298, w299⟩ := hw
                          obtain ⟨hP, hD⟩ := wd_post hFc ht hB
                          generalize H1 = H at hP hS ⊢
                          obtain ⟨S300, rfl⟩ : ∃ z, z = u := ⟨_, rfl⟩
                          have t301 : stp [(10, 9), (10, 13), (10, 20), (10, 21), (12, 15)] [] [] S S300 := t294.tr w299 (by decide) (fun _ q => absurd q List.not_mem_nil)
                          have xe302 : ext S292 S300 := w299.x
                          refine W.widen (k := 0) (n := 0) (Nat.le_of_ble_eq_true rfl) (Nat.le_of_ble_eq_true rfl) ?_
                          exact W.iret (v := r297) hx hb hr (fun t ht hW9 => ⟨⟨r297, S300, rfl, t301, wd_end hP hK hD ht hW9.alike⟩, hS.F ht⟩) hS.2.2 dX12_grind_193 hlocks
              · have c60i : (S.I r25 9).toInt = 0 := eq_v rfl rfl c60
                refine lv_aload_n hx hb dX12_grind_83 rfl (lv_at hl 1 rfl) ?_
                refine lv_iconst (v := 3) hx hb dX12_grind_84 (by decide) ?_
                have l32_3 : (3 : Int32).toInt = 3 := rfl
                have hFc := free_all hD hS hA
                obtain ⟨k303, gk303, hk303⟩ := wGt (cy := cy) X S h_o1.1 h_o1.2.1
                refine va_calli (va_runV (As := [.int (3 : Int32)]) (rest := []) ⟨hx, hb, hml, hown, hts⟩ (c_X12_fails l (cy := cy) (X := X) (D := D) S _ o1 h_o1 (3 : Int32) (hW)) (cwV 1 hts gX12_grind_X12_fails rfl rfl rfl hd_X12_fails ⟨Nat.le_of_ble_eq_true rfl, Nat.le_of_ble_eq_true rfl⟩) (pV (va_recv hK hP (q := (RX12, TX12, 34)) (ci := 16) (q0 := k303) rfl hk303) hP hK hD hN) rfl rfl hl.1 rfl (lv_room (Nat.le_of_ble_eq_true rfl)) dX12_grind_85 ⟨(Nat.zero_le _), (Nat.zero_le _)⟩) hS (fun q _ h => hFc q h) hFc (fun r304 u t H1 locs ht hvm hw hB hz1 hk1 hS => ?_)
                obtain ⟨c305, w306⟩ := hw
                obtain ⟨hP, hD⟩ := wd_post hFc ht hB
                generalize H1 = H at hP hS ⊢
                obtain ⟨S307, rfl⟩ : ∃ z, z = u := ⟨_, rfl⟩
                have t308 : stp [(10, 9), (10, 13), (10, 20), (10, 21), (12, 15)] [] [] S S307 := t0.tr w306 (by decide) (fun _ q => absurd q List.not_mem_nil)
                have xe309 : ext S S307 := w306.x
                refine W.widen (k := 0) (n := 0) (Nat.le_of_ble_eq_true rfl) (Nat.le_of_ble_eq_true rfl) ?_
                exact W.iret (v := r304) hx hb hr (fun t ht hW9 => ⟨⟨r304, S307, rfl, t308, wd_end hP hK hD ht hW9.alike⟩, hS.F ht⟩) hS.2.2 dX12_grind_88 hlocks
      · have c23i : (f_X12_in x3.toInt64 (1 : Int64) (999 : Int64)).toInt = 0 := eq_v rfl rfl c23
        refine lv_aload_n hx hb dX12_grind_38 rfl (lv_at hl 0 rfl) ?_
        refine lv_iconst (v := 2) hx hb dX12_grind_39 (by decide) ?_
        have l32_2 : (2 : Int32).toInt = 2 := rfl
        have hFc := free_all hD hS hA
        obtain ⟨k310, gk310, hk310⟩ := wGt (cy := cy) X S h_o1.1 h_o1.2.1
        refine va_calli (va_runV (As := [.int (2 : Int32)]) (rest := []) ⟨hx, hb, hml, hown, hts⟩ (c_X12_fails l (cy := cy) (X := X) (D := D) S _ o1 h_o1 (2 : Int32) (hW)) (cwV 1 hts gX12_grind_X12_fails rfl rfl rfl hd_X12_fails ⟨Nat.le_of_ble_eq_true rfl, Nat.le_of_ble_eq_true rfl⟩) (pV (va_recv hK hP (q := (RX12, TX12, 34)) (ci := 16) (q0 := k310) rfl hk310) hP hK hD hN) rfl rfl hl.1 rfl (lv_room (Nat.le_of_ble_eq_true rfl)) dX12_grind_40 ⟨(Nat.zero_le _), (Nat.zero_le _)⟩) hS (fun q _ h => hFc q h) hFc (fun r311 u t H1 locs ht hvm hw hB hz1 hk1 hS => ?_)
        obtain ⟨c312, w313⟩ := hw
        obtain ⟨hP, hD⟩ := wd_post hFc ht hB
        generalize H1 = H at hP hS ⊢
        obtain ⟨S314, rfl⟩ : ∃ z, z = u := ⟨_, rfl⟩
        have t315 : stp [(10, 9), (10, 13), (10, 20), (10, 21), (12, 15)] [] [] S S314 := t0.tr w313 (by decide) (fun _ q => absurd q List.not_mem_nil)
        have xe316 : ext S S314 := w313.x
        refine W.widen (k := 0) (n := 0) (Nat.le_of_ble_eq_true rfl) (Nat.le_of_ble_eq_true rfl) ?_
        exact W.iret (v := r311) hx hb hr (fun t ht hW9 => ⟨⟨r311, S314, rfl, t315, wd_end hP hK hD ht hW9.alike⟩, hS.F ht⟩) hS.2.2 dX12_grind_43 hlocks
  · have c6i : (f_X12_isGear S o1 x1).toInt = 0 := eq_v rfl rfl c6
    refine lv_aload_n hx hb dX12_grind_8 rfl (lv_at hl 0 rfl) ?_
    refine lv_iconst (v := 1) hx hb dX12_grind_9 (by decide) ?_
    have l32_1 : (1 : Int32).toInt = 1 := rfl
    have hFc := free_all hD hS hA
    obtain ⟨k317, gk317, hk317⟩ := wGt (cy := cy) X S h_o1.1 h_o1.2.1
    refine va_calli (va_runV (As := [.int (1 : Int32)]) (rest := []) ⟨hx, hb, hml, hown, hts⟩ (c_X12_fails l (cy := cy) (X := X) (D := D) S _ o1 h_o1 (1 : Int32) (hW)) (cwV 1 hts gX12_grind_X12_fails rfl rfl rfl hd_X12_fails ⟨Nat.le_of_ble_eq_true rfl, Nat.le_of_ble_eq_true rfl⟩) (pV (va_recv hK hP (q := (RX12, TX12, 34)) (ci := 16) (q0 := k317) rfl hk317) hP hK hD hN) rfl rfl hl.1 rfl (lv_room (Nat.le_of_ble_eq_true rfl)) dX12_grind_10 ⟨(Nat.zero_le _), (Nat.zero_le _)⟩) hS (fun q _ h => hFc q h) hFc (fun r318 u t H1 locs ht hvm hw hB hz1 hk1 hS => ?_)
    obtain ⟨c319, w320⟩ := hw
    obtain ⟨hP, hD⟩ := wd_post hFc ht hB
    generalize H1 = H at hP hS ⊢
    obtain ⟨S321, rfl⟩ : ∃ z, z = u := ⟨_, rfl⟩
    have t322 : stp [(10, 9), (10, 13), (10, 20), (10, 21), (12, 15)] [] [] S S321 := t0.tr w320 (by decide) (fun _ q => absurd q List.not_mem_nil)
    have xe323 : ext S S321 := w320.x
    refine W.widen (k := 0) (n := 0) (Nat.le_of_ble_eq_true rfl) (Nat.le_of_ble_eq_true rfl) ?_
    exact W.iret (v := r318) hx hb hr (fun t ht hW9 => ⟨⟨r318, S321, rfl, t322, wd_end hP hK hD ht hW9.alike⟩, hS.F ht⟩) hS.2.2 dX12_grind_13 hlocks
theorem hi_X12_stateOf_X10 : ∀ w ∈ u_ws RX10 TX10 23, w ∈ wsX12_stateOf := by decide +kernel
theorem hi_X12_stateOf_X12 : ∀ w ∈ u_ws RX12 TX12 34, w ∈ wsX12_stateOf := by decide +kernel
theorem hd_X12_stateOf : yX12_stateOf.cls = RX12 ∧ yX12_stateOf.cls ≠ "java/lang/invoke/MethodHandle" ∧ yX12_stateOf.cls ≠ "java/lang/invoke/VarHandle" ∧ (parseMethodDescriptor yX12_stateOf.desc).map (fun d => d.parameters.length) = some 1 := by decide +kernel
set_option maxHeartbeats 4000000 in
set_option maxRecDepth 100000 in
theorem c_X12_stateOf (l : Launch) {D : va_G} {cy : Nat → ClassId} {X : va_W} (S : wPS) (sz : Nat) (o1 : Nat) (h_o1 : isA S o1 12) (x1 : Int32) (hW : wtB S [])  : Met l yX12_stateOf wsX12_stateOf ({ frames := 4, cells := 0, slots := 0, locals := 85 }) (va_Pc [.ref o1, .int x1] (fun U => U.heap.size = sz ∧ WD D cy X (fun _ => True) S U ∧ NW U)) (va_Qi (fun r (u : wPS) => stp [(12, 15)] [] [] S u ∧ narrow .char (.int r) = .int r) (fun u t => WD D cy X (va_A (X ++ PL cy S) sz) u t) (va_A (X ++ PL cy S) sz)) 0 0 (va_A (X ++ PL cy S) sz) := by
  refine Met.ofW (cc := cX12_stateOf) (maxL := 3) (ret := (some .char)) (by decide) rfl ?_
  intro p e s m args below meth c s₁ B hml hv
  obtain ⟨rfl, hsz, ⟨hP, hK, hD0⟩, hN⟩ := hv
  have hx := B.exec
  have hb := B.bytes
  have hr := B.returns
  have hts := atoms_spec (ws := wsX12_stateOf) B.pre
  have hown : s.vm.findClass RX12 = some m.cls := findClass_of_methodNamed (x := yX12_stateOf) B.named
  have hlocks := B.notSynchronized
  subst hsz
  have hD := hD0.self (sz := s.heap.size)
  generalize hAe : va_A (X ++ PL cy S) s.heap.size = A at hD ⊢
  have hA : ∀ q : Nat, s.heap.size ≤ q → A q := fun q h => by rw [← hAe]; exact Or.inr h
  have hS : va_S A s.heap s.heap [] := va_S.rf
  have hl := lv_entry ([.ref o1, .int x1]) (n := 3) (Nat.le_of_ble_eq_true rfl)
  rw [lg_entry_eq]
  generalize (lg_sl ([.ref o1, .int x1]) ++ List.replicate (3 - (lg_sl ([.ref o1, .int x1])).length) Slot.unset).toArray = ls at hl ⊢
  have hl : lv_has ls 3 [(0, .ref o1), (1, .int x1)] := hl
  have t0 : stp [(12, 15)] [] [] S S := stp.rf hW
  have F1 := ((hW.at h_o1 List.not_mem_nil).to_12 h_o1.2.1).F0
  refine lv_aload_n hx hb dX12_stateOf_0 rfl (lv_at hl 0 rfl) ?_
  refine lv_aload_n hx hb dX12_stateOf_1 rfl (lv_at hl 0 rfl) ?_
  refine lv_iload_n hx hb dX12_stateOf_2 rfl (lv_at hl 1 rfl) ?_
  have hFc := free_all hD hS hA
  obtain ⟨k2, gk2, hk2⟩ := wGt (cy := cy) X S h_o1.1 h_o1.2.1
  refine va_calli (va_runV (As := [.int x1]) (rest := [.ref o1]) ⟨hx, hb, hml, hown, hts⟩ (c_X12_isGear l (cy := cy) (X := X) (D := D) S _ o1 h_o1 x1 (hW)) (cwV 1 hts gX12_stateOf_X12_isGear rfl rfl rfl hd_X12_isGear ⟨Nat.le_of_ble_eq_true rfl, Nat.le_of_ble_eq_true rfl⟩) (pV (va_recv hK hP (q := (RX12, TX12, 34)) (ci := 16) (q0 := k2) rfl hk2) hP hK hD hN) rfl rfl hl.1 rfl (lv_room (Nat.le_of_ble_eq_true rfl)) dX12_stateOf_3 ⟨(Nat.zero_le _), (Nat.zero_le _)⟩) hS (fun q _ h => hFc q h) hFc (fun r3 u t H1 locs ht hvm hw hB hz1 hk1 hS => ?_)
  have c4 := hw
  obtain ⟨hP, hD⟩ := wd_post hFc ht hB
  generalize H1 = H at hP hS ⊢
  obtain rfl : f_X12_isGear S o1 x1 = r3 := c4.symm
  have i5 : (f_X12_isGear S o1 x1).toInt = 0 ∨ (0 ≤ x1.toInt ∧ x1.toInt < (S.I (S.f o1 0) 2).toInt) := by have h9 := ig_rng x1 ((hW.at h_o1 List.not_mem_nil).to_12 h_o1.2.1) hW; rw [f_of F1.1] at h9; exact h9
  refine lv_if_eq (tgt := 13) hx hb dX12_stateOf_6 (by decide) (fun c6 => ?_) (fun c6 => ?_)
  · have c6i : (f_X12_isGear S o1 x1).toInt = 0 := eq_v rfl rfl c6
    refine lv_iconst (v := 1) hx hb dX12_stateOf_13 (by decide) ?_
    obtain ⟨k7, gk7, hk7⟩ := wGt (cy := cy) X S h_o1.1 h_o1.2.1
    refine va_put (D := D) (ci := 16) (v := .int (1 : Int32)) (ty := .int) (C := RX12) (T := TX12) (N := 34) hx hb hts hi_X12_stateOf_X12 tyX12 tyX12_ok nmX12 hown hK hP hD hS k7 hk7 rfl 15 (by decide) (hts (.fieldLink RX12 94 "HobhouseModel" "thrown" "I") (by decide +kernel)) (fun _ h9 => h9) rfl (by decide +kernel) (rfl) (rfl) (Nat.le_of_ble_eq_true rfl) dX12_stateOf_14 (fun H locs hP2 hD2 hS => ?_)
    have e9 := wPuI (cy := cy) (j := 15) (v := (1 : Int32)) hD h_o1.1 h_o1.2.1 gk7 rfl
    obtain ⟨S8, hS8⟩ : ∃ z, S.sI o1 15 (1 : Int32) = z := ⟨_, rfl⟩
    have hP : va_P D vwCl (X ++ PL cy S8) H := by rw [← hS8, ← e9]; exact hP2
    have hD : va_D A (X ++ PL cy S8) := by rw [← hS8, ← e9]; exact hD2
    have xe9 : ext S S8 := by rw [← hS8]; exact ext.sI _ _ _ _
    have t10 : stp [(12, 15)] [] [] S S8 := by rw [← hS8]; exact t0.I 15 (1 : Int32) h_o1 (by decide) (trivial) (Or.inl (by decide))
    have k11 : (S8.I (S.f o1 0) 2).toInt = (S.I (S.f o1 0) 2).toInt := by rw [← hS8]; exact congrArg Int32.toInt (sI_I (by rintro ⟨e1, e2⟩; exact absurd e2 (by decide)))
    have k12 : (S8.I o1 15).toInt = (1 : Int32).toInt := by rw [← hS8, sI_eq]
    refine lv_aload_n hx hb dX12_stateOf_17 rfl (lv_at hl 0 rfl) ?_
    have l0 : (0 : Int32).toInt = 0 := rfl
    have l1 : (1 : Int32).toInt = 1 := rfl
    obtain ⟨k13, gk13, hk13⟩ := wGt (cy := cy) X S8 (xe9.A h_o1).1 (xe9.A h_o1).2.1
    refine va_get (D := D) (ci := 16) (v := .int (S8.I o1 15)) (C := RX12) (T := TX12) (N := 34) hx hb hts hi_X12_stateOf_X12 hown hK hP k13 hk13 rfl 15 (by decide) (hts (.fieldLink RX12 94 "HobhouseModel" "thrown" "I") (by decide +kernel)) (fun _ h9 => h9) rfl dX12_stateOf_18 ?_
    refine lv_if_le (tgt := 26) hx hb dX12_stateOf_21 (by decide) (fun c14 => ?_) (fun c14 => ?_)
    · have c14i : (S8.I o1 15).toInt ≤ 0 := le_v rfl rfl c14
      refine lv_aload_n hx hb dX12_stateOf_26 rfl (lv_at hl 0 rfl) ?_
      refine lv_iload_n hx hb dX12_stateOf_27 rfl (lv_at hl 1 rfl) ?_
      have hFc := free_all hD hS hA
      obtain ⟨k15, gk15, hk15⟩ := wGt (cy := cy) X S8 (xe9.A h_o1).1 (xe9.A h_o1).2.1
      refine va_callq (va_runV (As := [.int x1]) (rest := []) ⟨hx, hb, hml, hown, hts⟩ (c_X12_gearAt l (cy := cy) (X := X) (D := D) S8 _ o1 (xe9.A h_o1) x1 (t10.w) (by rw [f_of (xe9.F h_o1 (by decide) F1.1)]; omega)) (cwV 1 hts gX12_stateOf_X12_gearAt rfl rfl rfl hd_X12_gearAt ⟨Nat.le_of_ble_eq_true rfl, Nat.le_of_ble_eq_true rfl⟩) (pV (va_recv hK hP (q := (RX12, TX12, 34)) (ci := 16) (q0 := k15) rfl hk15) hP hK hD hN) rfl rfl hl.1 rfl (lv_room (Nat.le_of_ble_eq_true rfl)) dX12_stateOf_28 ⟨(Nat.zero_le _), (Nat.zero_le _)⟩) hS (fun q _ h => hFc q h) hFc (fun r16 u t H1 locs ht hvm hw hB hz1 hk1 hS => ?_)
      obtain ⟨r16, rfl, c17, o18⟩ := hw
      obtain ⟨hP, hD⟩ := wd_post hFc ht hB
      generalize H1 = H at hP hS ⊢
      refine W.eq (g2 := F0 m 31 ls [.ref r16]) rfl ?_
      refine lv_astore_n (lv' := [(2, .ref r16), (0, .ref o1), (1, .int x1)]) hx hb dX12_stateOf_31 rfl hl (by decide) rfl (fun ls hl => ?_)
      refine lv_aload_n hx hb dX12_stateOf_32 rfl (lv_at hl 0 rfl) ?_
      have hFc := free_all hD hS hA
      obtain ⟨k19, gk19, hk19⟩ := wGt (cy := cy) X S8 o18.1 o18.2.1
      refine va_calli (va_runV (As := []) (rest := []) ⟨hx, hb, hml, hown, hts⟩ (c_X10_isBroken l (cy := cy) (X := X) (D := D) S8 _ r16 o18) (cwV 0 hts gX12_stateOf_X10_isBroken rfl rfl rfl hd_X10_isBroken ⟨Nat.le_of_ble_eq_true rfl, Nat.le_of_ble_eq_true rfl⟩) (pV (va_recv hK hP (q := (RX10, TX10, 23)) (ci := 14) (q0 := k19) rfl hk19) hP hK hD hN) rfl rfl hl.1 rfl (lv_room (Nat.le_of_ble_eq_true rfl)) dX12_stateOf_33 ⟨(Nat.zero_le _), (Nat.zero_le _)⟩) hS (fun q _ h => hFc q h) hFc (fun r20 u t H1 locs ht hvm hw hB hz1 hk1 hS => ?_)
      have c21 := hw
      obtain ⟨hP, hD⟩ := wd_post hFc ht hB
      generalize H1 = H at hP hS ⊢
      obtain rfl : f_X10_isBroken S8 r16 = r20 := c21.symm
      refine lv_if_eq (tgt := 42) hx hb dX12_stateOf_36 (by decide) (fun c22 => ?_) (fun c22 => ?_)
      · have c22i : (f_X10_isBroken S8 r16).toInt = 0 := eq_v rfl rfl c22
        refine lv_aload_n hx hb dX12_stateOf_42 rfl (lv_at hl 0 rfl) ?_
        obtain ⟨k23, gk23, hk23⟩ := wGt (cy := cy) X S8 o18.1 o18.2.1
        have i24 := ((t10.w.at o18 List.not_mem_nil).to_10 o18.2.1).R20
        refine va_getN (D := D) (ci := 14) (v := .int (S8.I r16 20)) (C := RX10) (T := TX10) (N := 23) hx hb hts hi_X12_stateOf_X10 hown hK hP k23 hk23 rfl 20 (by decide) (va_Nw.use rfl (hN (.fieldLinkNest RX12 372 "HobhouseModel$Gear" "isScrap" "Z" "HobhouseModel") (by decide +kernel))) (fun _ h9 => h9) rfl dX12_stateOf_43 ?_
        refine lv_if_eq (tgt := 52) hx hb dX12_stateOf_46 (by decide) (fun c25 => ?_) (fun c25 => ?_)
        · have c25i : (S8.I r16 20).toInt = 0 := eq_v rfl rfl c25
          refine lv_aload_n hx hb dX12_stateOf_52 rfl (lv_at hl 0 rfl) ?_
          obtain ⟨k26, gk26, hk26⟩ := wGt (cy := cy) X S8 o18.1 o18.2.1
          have i27 := ((t10.w.at o18 List.not_mem_nil).to_10 o18.2.1).R21
          refine va_getN (D := D) (ci := 14) (v := .int (S8.I r16 21)) (C := RX10) (T := TX10) (N := 23) hx hb hts hi_X12_stateOf_X10 hown hK hP k26 hk26 rfl 21 (by decide) (va_Nw.use rfl (hN (.fieldLinkNest RX12 400 "HobhouseModel$Gear" "isGround" "Z" "HobhouseModel") (by decide +kernel))) (fun _ h9 => h9) rfl dX12_stateOf_53 ?_
          refine lv_if_eq (tgt := 62) hx hb dX12_stateOf_56 (by decide) (fun c28 => ?_) (fun c28 => ?_)
          · have c28i : (S8.I r16 21).toInt = 0 := eq_v rfl rfl c28
            refine lv_aload_n hx hb dX12_stateOf_62 rfl (lv_at hl 0 rfl) ?_
            obtain ⟨k29, gk29, hk29⟩ := wGt (cy := cy) X S8 o18.1 o18.2.1
            have i30 := ((t10.w.at o18 List.not_mem_nil).to_10 o18.2.1).R19
            refine va_getN (D := D) (ci := 14) (v := .int (S8.I r16 19)) (C := RX10) (T := TX10) (N := 23) hx hb hts hi_X12_stateOf_X10 hown hK hP k29 hk29 rfl 19 (by decide) (va_Nw.use rfl (hN (.fieldLinkNest RX12 369 "HobhouseModel$Gear" "isHard" "Z" "HobhouseModel") (by decide +kernel))) (fun _ h9 => h9) rfl dX12_stateOf_63 ?_
            refine lv_if_eq (tgt := 74) hx hb dX12_stateOf_66 (by decide) (fun c31 => ?_) (fun c31 => ?_)
            · have c31i : (S8.I r16 19).toInt = 0 := eq_v rfl rfl c31
              refine lv_aload_n hx hb dX12_stateOf_74 rfl (lv_at hl 0 rfl) ?_
              obtain ⟨k32, gk32, hk32⟩ := wGt (cy := cy) X S8 o18.1 o18.2.1
              have i33 := ((t10.w.at o18 List.not_mem_nil).to_10 o18.2.1).R18
              refine va_getN (D := D) (ci := 14) (v := .int (S8.I r16 18)) (C := RX10) (T := TX10) (N := 23) hx hb hts hi_X12_stateOf_X10 hown hK hP k32 hk32 rfl 18 (by decide) (va_Nw.use rfl (hN (.fieldLinkNest RX12 160 "HobhouseModel$Gear" "isCut" "Z" "HobhouseModel") (by decide +kernel))) (fun _ h9 => h9) rfl dX12_stateOf_75 ?_
              refine lv_if_eq (tgt := 86) hx hb dX12_stateOf_78 (by decide) (fun c34 => ?_) (fun c34 => ?_)
              · have c34i : (S8.I r16 18).toInt = 0 := eq_v rfl rfl c34
                refine lv_bipush (v := 98) hx hb dX12_stateOf_86 (by decide +kernel) ?_
                refine W.widen (k := 0) (n := 0) (Nat.le_of_ble_eq_true rfl) (Nat.le_of_ble_eq_true rfl) ?_
                exact W.zret (v := (98 : Int32)) hx hb hr (by rfl) (fun t ht hW9 => ⟨⟨(98 : Int32), S8, rfl, ⟨t10, (by rfl)⟩, wd_end hP hK hD ht hW9.alike⟩, hS.F ht⟩) hS.2.2 dX12_stateOf_88 hlocks
              · have c34i : ¬ (S8.I r16 18).toInt = 0 := neq_v rfl rfl c34
                refine lv_bipush (v := 99) hx hb dX12_stateOf_81 (by decide +kernel) ?_
                refine lv_goto (tgt := 88) hx hb dX12_stateOf_83 (by decide) ?_
                refine W.widen (k := 0) (n := 0) (Nat.le_of_ble_eq_true rfl) (Nat.le_of_ble_eq_true rfl) ?_
                exact W.zret (v := (99 : Int32)) hx hb hr (by rfl) (fun t ht hW9 => ⟨⟨(99 : Int32), S8, rfl, ⟨t10, (by rfl)⟩, wd_end hP hK hD ht hW9.alike⟩, hS.F ht⟩) hS.2.2 dX12_stateOf_88 hlocks
            · have c31i : ¬ (S8.I r16 19).toInt = 0 := neq_v rfl rfl c31
              refine lv_bipush (v := 104) hx hb dX12_stateOf_69 (by decide +kernel) ?_
              refine lv_goto (tgt := 88) hx hb dX12_stateOf_71 (by decide) ?_
              refine W.widen (k := 0) (n := 0) (Nat.le_of_ble_eq_true rfl) (Nat.le_of_ble_eq_true rfl) ?_
              exact W.zret (v := (104 : Int32)) hx hb hr (by rfl) (fun t ht hW9 => ⟨⟨(104 : Int32), S8, rfl, ⟨t10, (by rfl)⟩, wd_end hP hK hD ht hW9.alike⟩, hS.F ht⟩) hS.2.2 dX12_stateOf_88 hlocks
          · have c28i : ¬ (S8.I r16 21).toInt = 0 := neq_v rfl rfl c28
            refine lv_bipush (v := 103) hx hb dX12_stateOf_59 (by decide +kernel) ?_
            refine W.widen (k := 0) (n := 0) (Nat.le_of_ble_eq_true rfl) (Nat.le_of_ble_eq_true rfl) ?_
            exact W.zret (v := (103 : Int32)) hx hb hr (by rfl) (fun t ht hW9 => ⟨⟨(103 : Int32), S8, rfl, ⟨t10, (by rfl)⟩, wd_end hP hK hD ht hW9.alike⟩, hS.F ht⟩) hS.2.2 dX12_stateOf_61 hlocks
        · have c25i : ¬ (S8.I r16 20).toInt = 0 := neq_v rfl rfl c25
          refine lv_bipush (v := 120) hx hb dX12_stateOf_49 (by decide +kernel) ?_
          refine W.widen (k := 0) (n := 0) (Nat.le_of_ble_eq_true rfl) (Nat.le_of_ble_eq_true rfl) ?_
          exact W.zret (v := (120 : Int32)) hx hb hr (by rfl) (fun t ht hW9 => ⟨⟨(120 : Int32), S8, rfl, ⟨t10, (by rfl)⟩, wd_end hP hK hD ht hW9.alike⟩, hS.F ht⟩) hS.2.2 dX12_stateOf_51 hlocks
      · have c22i : ¬ (f_X10_isBroken S8 r16).toInt = 0 := neq_v rfl rfl c22
        refine lv_bipush (v := 47) hx hb dX12_stateOf_39 (by decide +kernel) ?_
        refine W.widen (k := 0) (n := 0) (Nat.le_of_ble_eq_true rfl) (Nat.le_of_ble_eq_true rfl) ?_
        exact W.zret (v := (47 : Int32)) hx hb hr (by rfl) (fun t ht hW9 => ⟨⟨(47 : Int32), S8, rfl, ⟨t10, (by rfl)⟩, wd_end hP hK hD ht hW9.alike⟩, hS.F ht⟩) hS.2.2 dX12_stateOf_41 hlocks
    · have c14i : 0 < (S8.I o1 15).toInt := nle_v rfl rfl c14
      refine lv_iconst (v := 0) hx hb dX12_stateOf_24 (by decide) ?_
      refine W.widen (k := 0) (n := 0) (Nat.le_of_ble_eq_true rfl) (Nat.le_of_ble_eq_true rfl) ?_
      exact W.zret (v := (0 : Int32)) hx hb hr (by rfl) (fun t ht hW9 => ⟨⟨(0 : Int32), S8, rfl, ⟨t10, (by rfl)⟩, wd_end hP hK hD ht hW9.alike⟩, hS.F ht⟩) hS.2.2 dX12_stateOf_25 hlocks
  · have c6i : ¬ (f_X12_isGear S o1 x1).toInt = 0 := neq_v rfl rfl c6
    refine lv_iconst (v := 0) hx hb dX12_stateOf_9 (by decide) ?_
    refine lv_goto (tgt := 14) hx hb dX12_stateOf_10 (by decide) ?_
    obtain ⟨k35, gk35, hk35⟩ := wGt (cy := cy) X S h_o1.1 h_o1.2.1
    refine va_put (D := D) (ci := 16) (v := .int (0 : Int32)) (ty := .int) (C := RX12) (T := TX12) (N := 34) hx hb hts hi_X12_stateOf_X12 tyX12 tyX12_ok nmX12 hown hK hP hD hS k35 hk35 rfl 15 (by decide) (hts (.fieldLink RX12 94 "HobhouseModel" "thrown" "I") (by decide +kernel)) (fun _ h9 => h9) rfl (by decide +kernel) (rfl) (rfl) (Nat.le_of_ble_eq_true rfl) dX12_stateOf_14 (fun H locs hP2 hD2 hS => ?_)
    have e9 := wPuI (cy := cy) (j := 15) (v := (0 : Int32)) hD h_o1.1 h_o1.2.1 gk35 rfl
    obtain ⟨S36, hS36⟩ : ∃ z, S.sI o1 15 (0 : Int32) = z := ⟨_, rfl⟩
    have hP : va_P D vwCl (X ++ PL cy S36) H := by rw [← hS36, ← e9]; exact hP2
    have hD : va_D A (X ++ PL cy S36) := by rw [← hS36, ← e9]; exact hD2
    have xe37 : ext S S36 := by rw [← hS36]; exact ext.sI _ _ _ _
    have t38 : stp [(12, 15)] [] [] S S36 := by rw [← hS36]; exact t0.I 15 (0 : Int32) h_o1 (by decide) (trivial) (Or.inl (by decide))
    have k39 : (S36.I (S.f o1 0) 2).toInt = (S.I (S.f o1 0) 2).toInt := by rw [← hS36]; exact congrArg Int32.toInt (sI_I (by rintro ⟨e1, e2⟩; exact absurd e2 (by decide)))
    have k40 : (S36.I o1 15).toInt = (0 : Int32).toInt := by rw [← hS36, sI_eq]
    refine lv_aload_n hx hb dX12_stateOf_17 rfl (lv_at hl 0 rfl) ?_
    have l0 : (0 : Int32).toInt = 0 := rfl
    have l1 : (1 : Int32).toInt = 1 := rfl
    obtain ⟨k41, gk41, hk41⟩ := wGt (cy := cy) X S36 (xe37.A h_o1).1 (xe37.A h_o1).2.1
    refine va_get (D := D) (ci := 16) (v := .int (S36.I o1 15)) (C := RX12) (T := TX12) (N := 34) hx hb hts hi_X12_stateOf_X12 hown hK hP k41 hk41 rfl 15 (by decide) (hts (.fieldLink RX12 94 "HobhouseModel" "thrown" "I") (by decide +kernel)) (fun _ h9 => h9) rfl dX12_stateOf_18 ?_
    refine lv_if_le (tgt := 26) hx hb dX12_stateOf_21 (by decide) (fun c42 => ?_) (fun c42 => ?_)
    · have c42i : (S36.I o1 15).toInt ≤ 0 := le_v rfl rfl c42
      refine lv_aload_n hx hb dX12_stateOf_26 rfl (lv_at hl 0 rfl) ?_
      refine lv_iload_n hx hb dX12_stateOf_27 rfl (lv_at hl 1 rfl) ?_
      have hFc := free_all hD hS hA
      obtain ⟨k43, gk43, hk43⟩ := wGt (cy := cy) X S36 (xe37.A h_o1).1 (xe37.A h_o1).2.1
      refine va_callq (va_runV (As := [.int x1]) (rest := []) ⟨hx, hb, hml, hown, hts⟩ (c_X12_gearAt l (cy := cy) (X := X) (D := D) S36 _ o1 (xe37.A h_o1) x1 (t38.w) (by rw [f_of (xe37.F h_o1 (by decide) F1.1)]; omega)) (cwV 1 hts gX12_stateOf_X12_gearAt rfl rfl rfl hd_X12_gearAt ⟨Nat.le_of_ble_eq_true rfl, Nat.le_of_ble_eq_true rfl⟩) (pV (va_recv hK hP (q := (RX12, TX12, 34)) (ci := 16) (q0 := k43) rfl hk43) hP hK hD hN) rfl rfl hl.1 rfl (lv_room (Nat.le_of_ble_eq_true rfl)) dX12_stateOf_28 ⟨(Nat.zero_le _), (Nat.zero_le _)⟩) hS (fun q _ h => hFc q h) hFc (fun r44 u t H1 locs ht hvm hw hB hz1 hk1 hS => ?_)
      obtain ⟨r44, rfl, c45, o46⟩ := hw
      obtain ⟨hP, hD⟩ := wd_post hFc ht hB
      generalize H1 = H at hP hS ⊢
      refine W.eq (g2 := F0 m 31 ls [.ref r44]) rfl ?_
      refine lv_astore_n (lv' := [(2, .ref r44), (0, .ref o1), (1, .int x1)]) hx hb dX12_stateOf_31 rfl hl (by decide) rfl (fun ls hl => ?_)
      refine lv_aload_n hx hb dX12_stateOf_32 rfl (lv_at hl 0 rfl) ?_
      have hFc := free_all hD hS hA
      obtain ⟨k47, gk47, hk47⟩ := wGt (cy := cy) X S36 o46.1 o46.2.1
      refine va_calli (va_runV (As := []) (rest := []) ⟨hx, hb, hml, hown, hts⟩ (c_X10_isBroken l (cy := cy) (X := X) (D := D) S36 _ r44 o46) (cwV 0 hts gX12_stateOf_X10_isBroken rfl rfl rfl hd_X10_isBroken ⟨Nat.le_of_ble_eq_true rfl, Nat.le_of_ble_eq_true rfl⟩) (pV (va_recv hK hP (q := (RX10, TX10, 23)) (ci := 14) (q0 := k47) rfl hk47) hP hK hD hN) rfl rfl hl.1 rfl (lv_room (Nat.le_of_ble_eq_true rfl)) dX12_stateOf_33 ⟨(Nat.zero_le _), (Nat.zero_le _)⟩) hS (fun q _ h => hFc q h) hFc (fun r48 u t H1 locs ht hvm hw hB hz1 hk1 hS => ?_)
      have c49 := hw
      obtain ⟨hP, hD⟩ := wd_post hFc ht hB
      generalize H1 = H at hP hS ⊢
      obtain rfl : f_X10_isBroken S36 r44 = r48 := c49.symm
      refine lv_if_eq (tgt := 42) hx hb dX12_stateOf_36 (by decide) (fun c50 => ?_) (fun c50 => ?_)
      · have c50i : (f_X10_isBroken S36 r44).toInt = 0 := eq_v rfl rfl c50
        refine lv_aload_n hx hb dX12_stateOf_42 rfl (lv_at hl 0 rfl) ?_
        obtain ⟨k51, gk51, hk51⟩ := wGt (cy := cy) X S36 o46.1 o46.2.1
        have i52 := ((t38.w.at o46 List.not_mem_nil).to_10 o46.2.1).R20
        refine va_getN (D := D) (ci := 14) (v := .int (S36.I r44 20)) (C := RX10) (T := TX10) (N := 23) hx hb hts hi_X12_stateOf_X10 hown hK hP k51 hk51 rfl 20 (by decide) (va_Nw.use rfl (hN (.fieldLinkNest RX12 372 "HobhouseModel$Gear" "isScrap" "Z" "HobhouseModel") (by decide +kernel))) (fun _ h9 => h9) rfl dX12_stateOf_43 ?_
        refine lv_if_eq (tgt := 52) hx hb dX12_stateOf_46 (by decide) (fun c53 => ?_) (fun c53 => ?_)
        · have c53i : (S36.I r44 20).toInt = 0 := eq_v rfl rfl c53
          refine lv_aload_n hx hb dX12_stateOf_52 rfl (lv_at hl 0 rfl) ?_
          obtain ⟨k54, gk54, hk54⟩ := wGt (cy := cy) X S36 o46.1 o46.2.1
          have i55 := ((t38.w.at o46 List.not_mem_nil).to_10 o46.2.1).R21
          refine va_getN (D := D) (ci := 14) (v := .int (S36.I r44 21)) (C := RX10) (T := TX10) (N := 23) hx hb hts hi_X12_stateOf_X10 hown hK hP k54 hk54 rfl 21 (by decide) (va_Nw.use rfl (hN (.fieldLinkNest RX12 400 "HobhouseModel$Gear" "isGround" "Z" "HobhouseModel") (by decide +kernel))) (fun _ h9 => h9) rfl dX12_stateOf_53 ?_
          refine lv_if_eq (tgt := 62) hx hb dX12_stateOf_56 (by decide) (fun c56 => ?_) (fun c56 => ?_)
          · have c56i : (S36.I r44 21).toInt = 0 := eq_v rfl rfl c56
            refine lv_aload_n hx hb dX12_stateOf_62 rfl (lv_at hl 0 rfl) ?_
            obtain ⟨k57, gk57, hk57⟩ := wGt (cy := cy) X S36 o46.1 o46.2.1
            have i58 := ((t38.w.at o46 List.not_mem_nil).to_10 o46.2.1).R19
            refine va_getN (D := D) (ci := 14) (v := .int (S36.I r44 19)) (C := RX10) (T := TX10) (N := 23) hx hb hts hi_X12_stateOf_X10 hown hK hP k57 hk57 rfl 19 (by decide) (va_Nw.use rfl (hN (.fieldLinkNest RX12 369 "HobhouseModel$Gear" "isHard" "Z" "HobhouseModel") (by decide +kernel))) (fun _ h9 => h9) rfl dX12_stateOf_63 ?_
            refine lv_if_eq (tgt := 74) hx hb dX12_stateOf_66 (by decide) (fun c59 => ?_) (fun c59 => ?_)
            · have c59i : (S36.I r44 19).toInt = 0 := eq_v rfl rfl c59
              refine lv_aload_n hx hb dX12_stateOf_74 rfl (lv_at hl 0 rfl) ?_
              obtain ⟨k60, gk60, hk60⟩ := wGt (cy := cy) X S36 o46.1 o46.2.1
              have i61 := ((t38.w.at o46 List.not_mem_nil).to_10 o46.2.1).R18
              refine va_getN (D := D) (ci := 14) (v := .int (S36.I r44 18)) (C := RX10) (T := TX10) (N := 23) hx hb hts hi_X12_stateOf_X10 hown hK hP k60 hk60 rfl 18 (by decide) (va_Nw.use rfl (hN (.fieldLinkNest RX12 160 "HobhouseModel$Gear" "isCut" "Z" "HobhouseModel") (by decide +kernel))) (fun _ h9 => h9) rfl dX12_stateOf_75 ?_
              refine lv_if_eq (tgt := 86) hx hb dX12_stateOf_78 (by decide) (fun c62 => ?_) (fun c62 => ?_)
              · have c62i : (S36.I r44 18).toInt = 0 := eq_v rfl rfl c62
                refine lv_bipush (v := 98) hx hb dX12_stateOf_86 (by decide +kernel) ?_
                refine W.widen (k := 0) (n := 0) (Nat.le_of_ble_eq_true rfl) (Nat.le_of_ble_eq_true rfl) ?_
                exact W.zret (v := (98 : Int32)) hx hb hr (by rfl) (fun t ht hW9 => ⟨⟨(98 : Int32), S36, rfl, ⟨t38, (by rfl)⟩, wd_end hP hK hD ht hW9.alike⟩, hS.F ht⟩) hS.2.2 dX12_stateOf_88 hlocks
              · have c62i : ¬ (S36.I r44 18).toInt = 0 := neq_v rfl rfl c62
                refine lv_bipush (v := 99) hx hb dX12_stateOf_81 (by decide +kernel) ?_
                refine lv_goto (tgt := 88) hx hb dX12_stateOf_83 (by decide) ?_
                refine W.widen (k := 0) (n := 0) (Nat.le_of_ble_eq_true rfl) (Nat.le_of_ble_eq_true rfl) ?_
                exact W.zret (v := (99 : Int32)) hx hb hr (by rfl) (fun t ht hW9 => ⟨⟨(99 : Int32), S36, rfl, ⟨t38, (by rfl)⟩, wd_end hP hK hD ht hW9.alike⟩, hS.F ht⟩) hS.2.2 dX12_stateOf_88 hlocks
            · have c59i : ¬ (S36.I r44 19).toInt = 0 := neq_v rfl rfl c59
              refine lv_bipush (v := 104) hx hb dX12_stateOf_69 (by decide +kernel) ?_
              refine lv_goto (tgt := 88) hx hb dX12_stateOf_71 (by decide) ?_
              refine W.widen (k := 0) (n := 0) (Nat.le_of_ble_eq_true rfl) (Nat.le_of_ble_eq_true rfl) ?_
              exact W.zret (v := (104 : Int32)) hx hb hr (by rfl) (fun t ht hW9 => ⟨⟨(104 : Int32), S36, rfl, ⟨t38, (by rfl)⟩, wd_end hP hK hD ht hW9.alike⟩, hS.F ht⟩) hS.2.2 dX12_stateOf_88 hlocks
          · have c56i : ¬ (S36.I r44 21).toInt = 0 := neq_v rfl rfl c56
            refine lv_bipush (v := 103) hx hb dX12_stateOf_59 (by decide +kernel) ?_
            refine W.widen (k := 0) (n := 0) (Nat.le_of_ble_eq_true rfl) (Nat.le_of_ble_eq_true rfl) ?_
            exact W.zret (v := (103 : Int32)) hx hb hr (by rfl) (fun t ht hW9 => ⟨⟨(103 : Int32), S36, rfl, ⟨t38, (by rfl)⟩, wd_end hP hK hD ht hW9.alike⟩, hS.F ht⟩) hS.2.2 dX12_stateOf_61 hlocks
        · have c53i : ¬ (S36.I r44 20).toInt = 0 := neq_v rfl rfl c53
          refine lv_bipush (v := 120) hx hb dX12_stateOf_49 (by decide +kernel) ?_
          refine W.widen (k := 0) (n := 0) (Nat.le_of_ble_eq_true rfl) (Nat.le_of_ble_eq_true rfl) ?_
          exact W.zret (v := (120 : Int32)) hx hb hr (by rfl) (fun t ht hW9 => ⟨⟨(120 : Int32), S36, rfl, ⟨t38, (by rfl)⟩, wd_end hP hK hD ht hW9.alike⟩, hS.F ht⟩) hS.2.2 dX12_stateOf_51 hlocks
      · have c50i : ¬ (f_X10_isBroken S36 r44).toInt = 0 := neq_v rfl rfl c50
        refine lv_bipush (v := 47) hx hb dX12_stateOf_39 (by decide +kernel) ?_
        refine W.widen (k := 0) (n := 0) (Nat.le_of_ble_eq_true rfl) (Nat.le_of_ble_eq_true rfl) ?_
        exact W.zret (v := (47 : Int32)) hx hb hr (by rfl) (fun t ht hW9 => ⟨⟨(47 : Int32), S36, rfl, ⟨t38, (by rfl)⟩, wd_end hP hK hD ht hW9.alike⟩, hS.F ht⟩) hS.2.2 dX12_stateOf_41 hlocks
    · have c42i : 0 < (S36.I o1 15).toInt := nle_v rfl rfl c42
      refine lv_iconst (v := 0) hx hb dX12_stateOf_24 (by decide) ?_
      refine W.widen (k := 0) (n := 0) (Nat.le_of_ble_eq_true rfl) (Nat.le_of_ble_eq_true rfl) ?_
      exact W.zret (v := (0 : Int32)) hx hb hr (by rfl) (fun t ht hW9 => ⟨⟨(0 : Int32), S36, rfl, ⟨t38, (by rfl)⟩, wd_end hP hK hD ht hW9.alike⟩, hS.F ht⟩) hS.2.2 dX12_stateOf_25 hlocks
theorem hi_X12_chart_X10 : ∀ w ∈ u_ws RX10 TX10 23, w ∈ wsX12_chart := by decide +kernel
theorem hd_X12_chart : yX12_chart.cls = RX12 ∧ yX12_chart.cls ≠ "java/lang/invoke/MethodHandle" ∧ yX12_chart.cls ≠ "java/lang/invoke/VarHandle" ∧ (parseMethodDescriptor yX12_chart.desc).map (fun d => d.parameters.length) = some 3 := by decide +kernel
set_option maxHeartbeats 4000000 in
set_option maxRecDepth 100000 in
theorem c_X12_chart (l : Launch) {D : va_G} {cy : Nat → ClassId} {X : va_W} (S : wPS) (sz : Nat) (o1 : Nat) (h_o1 : isA S o1 12) (x1 : Int32) (x2 : Int32) (x3 : Int32) (hW : wtB S [])  : Met l yX12_chart wsX12_chart ({ frames := 4, cells := 0, slots := 0, locals := 85 }) (va_Pc [.ref o1, .int x1, .int x2, .int x3] (fun U => U.heap.size = sz ∧ WD D cy X (fun _ => True) S U ∧ NW U)) (va_Qi (fun r (u : wPS) => stp [(12, 15), (29, 100)] [] [] S u) (fun u t => WD D cy X (va_A (X ++ PL cy S) sz) u t) (va_A (X ++ PL cy S) sz)) 0 0 (va_A (X ++ PL cy S) sz) := by
  refine Met.ofW (cc := cX12_chart) (maxL := 5) (ret := (some .int)) (by decide) rfl ?_
  intro p e s m args below meth c s₁ B hml hv
  obtain ⟨rfl, hsz, ⟨hP, hK, hD0⟩, hN⟩ := hv
  have hx := B.exec
  have hb := B.bytes
  have hr := B.returns
  have hts := atoms_spec (ws := wsX12_chart) B.pre
  have hown : s.vm.findClass RX12 = some m.cls := findClass_of_methodNamed (x := yX12_chart) B.named
  have hlocks := B.notSynchronized
  subst hsz
  have hD := hD0.self (sz := s.heap.size)
  generalize hAe : va_A (X ++ PL cy S) s.heap.size = A at hD ⊢
  have hA : ∀ q : Nat, s.heap.size ≤ q → A q := fun q h => by rw [← hAe]; exact Or.inr h
  have hS : va_S A s.heap s.heap [] := va_S.rf
  have hl := lv_entry ([.ref o1, .int x1, .int x2, .int x3]) (n := 5) (Nat.le_of_ble_eq_true rfl)
  rw [lg_entry_eq]
  generalize (lg_sl ([.ref o1, .int x1, .int x2, .int x3]) ++ List.replicate (5 - (lg_sl ([.ref o1, .int x1, .int x2, .int x3])).length) Slot.unset).toArray = ls at hl ⊢
  have hl : lv_has ls 5 [(0, .ref o1), (1, .int x1), (2, .int x2), (3, .int x3)] := hl
  have t0 : stp [(12, 15), (29, 100)] [] [] S S := stp.rf hW
  have F1 := ((hW.at h_o1 List.not_mem_nil).to_12 h_o1.2.1).F0
  refine lv_aload_n hx hb dX12_chart_0 rfl (lv_at hl 0 rfl) ?_
  refine lv_iload_n hx hb dX12_chart_1 rfl (lv_at hl 1 rfl) ?_
  have hFc := free_all hD hS hA
  obtain ⟨k2, gk2, hk2⟩ := wGt (cy := cy) X S h_o1.1 h_o1.2.1
  refine va_calli (va_runV (As := [.int x1]) (rest := []) ⟨hx, hb, hml, hown, hts⟩ (c_X12_isGear l (cy := cy) (X := X) (D := D) S _ o1 h_o1 x1 (hW)) (cwV 1 hts gX12_chart_X12_isGear rfl rfl rfl hd_X12_isGear ⟨Nat.le_of_ble_eq_true rfl, Nat.le_of_ble_eq_true rfl⟩) (pV (va_recv hK hP (q := (RX12, TX12, 34)) (ci := 16) (q0 := k2) rfl hk2) hP hK hD hN) rfl rfl hl.1 rfl (lv_room (Nat.le_of_ble_eq_true rfl)) dX12_chart_2 ⟨(Nat.zero_le _), (Nat.zero_le _)⟩) hS (fun q _ h => hFc q h) hFc (fun r3 u t H1 locs ht hvm hw hB hz1 hk1 hS => ?_)
  have c4 := hw
  obtain ⟨hP, hD⟩ := wd_post hFc ht hB
  generalize H1 = H at hP hS ⊢
  obtain rfl : f_X12_isGear S o1 x1 = r3 := c4.symm
  have i5 : (f_X12_isGear S o1 x1).toInt = 0 ∨ (0 ≤ x1.toInt ∧ x1.toInt < (S.I (S.f o1 0) 2).toInt) := by have h9 := ig_rng x1 ((hW.at h_o1 List.not_mem_nil).to_12 h_o1.2.1) hW; rw [f_of F1.1] at h9; exact h9
  refine lv_if_ne (tgt := 14) hx hb dX12_chart_5 (by decide) (fun c6 => ?_) (fun c6 => ?_)
  · have c6i : ¬ (f_X12_isGear S o1 x1).toInt = 0 := neq_v rfl rfl c6
    refine lv_iload_n hx hb dX12_chart_14 rfl (lv_at hl 2 rfl) ?_
    refine lv_i2l hx hb dX12_chart_15 rfl ?_
    refine lv_lconst (v := 0) hx hb dX12_chart_16 (by decide) ?_
    refine lv_aload_n hx hb dX12_chart_17 rfl (lv_at hl 0 rfl) ?_
    refine lv_iload_n hx hb dX12_chart_18 rfl (lv_at hl 1 rfl) ?_
    have hFc := free_all hD hS hA
    obtain ⟨k7, gk7, hk7⟩ := wGt (cy := cy) X S h_o1.1 h_o1.2.1
    refine va_callq (va_runV (As := [.int x1]) (rest := [.long (0 : Int64), .long x2.toInt64]) ⟨hx, hb, hml, hown, hts⟩ (c_X12_gearAt l (cy := cy) (X := X) (D := D) S _ o1 h_o1 x1 (hW) (by rw [f_of F1.1]; omega)) (cwV 1 hts gX12_chart_X12_gearAt rfl rfl rfl hd_X12_gearAt ⟨Nat.le_of_ble_eq_true rfl, Nat.le_of_ble_eq_true rfl⟩) (pV (va_recv hK hP (q := (RX12, TX12, 34)) (ci := 16) (q0 := k7) rfl hk7) hP hK hD hN) rfl rfl hl.1 rfl (lv_room (Nat.le_of_ble_eq_true rfl)) dX12_chart_19 ⟨(Nat.zero_le _), (Nat.zero_le _)⟩) hS (fun q _ h => hFc q h) hFc (fun r8 u t H1 locs ht hvm hw hB hz1 hk1 hS => ?_)
    obtain ⟨r8, rfl, c9, o10⟩ := hw
    obtain ⟨hP, hD⟩ := wd_post hFc ht hB
    generalize H1 = H at hP hS ⊢
    refine W.eq (g2 := F0 m 22 ls [.ref r8, .long (0 : Int64), .long x2.toInt64]) rfl ?_
    obtain ⟨k11, gk11, hk11⟩ := wGt (cy := cy) X S o10.1 o10.2.1
    have i12 := ((hW.at o10 List.not_mem_nil).to_10 o10.2.1).R1
    refine va_getN (D := D) (ci := 14) (v := .int (S.I r8 1)) (C := RX10) (T := TX10) (N := 23) hx hb hts hi_X12_chart_X10 hown hK hP k11 hk11 rfl 1 (by decide) (va_Nw.use rfl (hN (.fieldLinkNest RX12 332 "HobhouseModel$Gear" "teeth" "I" "HobhouseModel") (by decide +kernel))) (fun _ h9 => h9) rfl dX12_chart_22 ?_
    refine lv_iconst (v := 1) hx hb dX12_chart_25 (by decide) ?_
    refine lv_isub hx hb dX12_chart_26 ?_
    refine lv_i2l hx hb dX12_chart_27 rfl ?_
    have hFc := free_all hD hS hA
    refine va_calli (va_runS (As := [.long x2.toInt64, .long (0 : Int64), .long (((S.I r8 1) - (1 : Int32)).toInt64)]) (rest := []) ⟨hx, hb, hml, hown, hts⟩ (c_X12_in l (cy := cy) (X := X) (D := D) S _ x2.toInt64 (0 : Int64) (((S.I r8 1) - (1 : Int32)).toInt64)) (cwS 3 hts gX12_chart_X12_in rfl rfl rfl hd_X12_in ⟨Nat.le_of_ble_eq_true rfl, Nat.le_of_ble_eq_true rfl⟩) (pS hP hK hD hN) rfl rfl hl.1 rfl (lv_room (Nat.le_of_ble_eq_true rfl)) dX12_chart_28 ⟨(Nat.zero_le _), (Nat.zero_le _)⟩) hS (fun q _ h => hFc q h) hFc (fun r13 u t H1 locs ht hvm hw hB hz1 hk1 hS => ?_)
    have c14 := hw
    obtain ⟨hP, hD⟩ := wd_post hFc ht hB
    generalize H1 = H at hP hS ⊢
    obtain rfl : f_X12_in x2.toInt64 (0 : Int64) (((S.I r8 1) - (1 : Int32)).toInt64) = r13 := c14.symm
    have i15 := i64_i x2
    have l64_0 : (0 : Int64).toInt = 0 := rfl
    have l32_1 : (1 : Int32).toInt = 1 := rfl
    have i16 : ((S.I r8 1) - (1 : Int32)).toInt = (S.I r8 1).toInt - 1 := t_subr (n := 1) rfl (by omega)
    have i17 := i64_i ((S.I r8 1) - (1 : Int32))
    have i18 := in_rng x2.toInt64 (0 : Int64) (((S.I r8 1) - (1 : Int32)).toInt64)
    refine lv_if_eq (tgt := 48) hx hb dX12_chart_31 (by decide) (fun c19 => ?_) (fun c19 => ?_)
    · have c19i : (f_X12_in x2.toInt64 (0 : Int64) (((S.I r8 1) - (1 : Int32)).toInt64)).toInt = 0 := eq_v rfl rfl c19
      refine lv_aload_n hx hb dX12_chart_48 rfl (lv_at hl 0 rfl) ?_
      refine lv_iconst (v := 2) hx hb dX12_chart_49 (by decide) ?_
      have l32_2 : (2 : Int32).toInt = 2 := rfl
      have hFc := free_all hD hS hA
      obtain ⟨k20, gk20, hk20⟩ := wGt (cy := cy) X S h_o1.1 h_o1.2.1
      refine va_calli (va_runV (As := [.int (2 : Int32)]) (rest := []) ⟨hx, hb, hml, hown, hts⟩ (c_X12_fails l (cy := cy) (X := X) (D := D) S _ o1 h_o1 (2 : Int32) (hW)) (cwV 1 hts gX12_chart_X12_fails rfl rfl rfl hd_X12_fails ⟨Nat.le_of_ble_eq_true rfl, Nat.le_of_ble_eq_true rfl⟩) (pV (va_recv hK hP (q := (RX12, TX12, 34)) (ci := 16) (q0 := k20) rfl hk20) hP hK hD hN) rfl rfl hl.1 rfl (lv_room (Nat.le_of_ble_eq_true rfl)) dX12_chart_50 ⟨(Nat.zero_le _), (Nat.zero_le _)⟩) hS (fun q _ h => hFc q h) hFc (fun r21 u t H1 locs ht hvm hw hB hz1 hk1 hS => ?_)
      obtain ⟨c22, w23⟩ := hw
      obtain ⟨hP, hD⟩ := wd_post hFc ht hB
      generalize H1 = H at hP hS ⊢
      obtain ⟨S24, rfl⟩ : ∃ z, z = u := ⟨_, rfl⟩
      have t25 : stp [(12, 15), (29, 100)] [] [] S S24 := t0.tr w23 (by decide) (fun _ q => absurd q List.not_mem_nil)
      have xe26 : ext S S24 := w23.x
      refine W.widen (k := 0) (n := 0) (Nat.le_of_ble_eq_true rfl) (Nat.le_of_ble_eq_true rfl) ?_
      exact W.iret (v := r21) hx hb hr (fun t ht hW9 => ⟨⟨r21, S24, rfl, t25, wd_end hP hK hD ht hW9.alike⟩, hS.F ht⟩) hS.2.2 dX12_chart_53 hlocks
    · have c19i : ¬ (f_X12_in x2.toInt64 (0 : Int64) (((S.I r8 1) - (1 : Int32)).toInt64)).toInt = 0 := neq_v rfl rfl c19
      refine lv_iload_n hx hb dX12_chart_34 rfl (lv_at hl 3 rfl) ?_
      refine lv_i2l hx hb dX12_chart_35 rfl ?_
      refine lv_ldc2 (own := RX12) (v := -500) hx hb hown (hts (.constantLong RX12 137 (-500)) (by decide +kernel)) dX12_chart_36 ?_
      refine lv_ldc2 (own := RX12) (v := 500) hx hb hown (hts (.constantLong RX12 133 (500)) (by decide +kernel)) dX12_chart_39 ?_
      have hFc := free_all hD hS hA
      refine va_calli (va_runS (As := [.long x3.toInt64, .long (-500 : Int64), .long (500 : Int64)]) (rest := []) ⟨hx, hb, hml, hown, hts⟩ (c_X12_in l (cy := cy) (X := X) (D := D) S _ x3.toInt64 (-500 : Int64) (500 : Int64)) (cwS 3 hts gX12_chart_X12_in rfl rfl rfl hd_X12_in ⟨Nat.le_of_ble_eq_true rfl, Nat.le_of_ble_eq_true rfl⟩) (pS hP hK hD hN) rfl rfl hl.1 rfl (lv_room (Nat.le_of_ble_eq_true rfl)) dX12_chart_42 ⟨(Nat.zero_le _), (Nat.zero_le _)⟩) hS (fun q _ h => hFc q h) hFc (fun r27 u t H1 locs ht hvm hw hB hz1 hk1 hS => ?_)
      have c28 := hw
      obtain ⟨hP, hD⟩ := wd_post hFc ht hB
      generalize H1 = H at hP hS ⊢
      obtain rfl : f_X12_in x3.toInt64 (-500 : Int64) (500 : Int64) = r27 := c28.symm
      have i29 := i64_i x3
      have i30 : (-500 : Int64).toInt = -500 := rfl
      have l64_500 : (500 : Int64).toInt = 500 := rfl
      have i31 := in_rng x3.toInt64 (-500 : Int64) (500 : Int64)
      refine lv_if_ne (tgt := 54) hx hb dX12_chart_45 (by decide) (fun c32 => ?_) (fun c32 => ?_)
      · have c32i : ¬ (f_X12_in x3.toInt64 (-500 : Int64) (500 : Int64)).toInt = 0 := neq_v rfl rfl c32
        refine lv_aload_n hx hb dX12_chart_54 rfl (lv_at hl 0 rfl) ?_
        refine lv_iload_n hx hb dX12_chart_55 rfl (lv_at hl 1 rfl) ?_
        have hFc := free_all hD hS hA
        obtain ⟨k33, gk33, hk33⟩ := wGt (cy := cy) X S h_o1.1 h_o1.2.1
        refine va_callq (va_runV (As := [.int x1]) (rest := []) ⟨hx, hb, hml, hown, hts⟩ (c_X12_gearAt l (cy := cy) (X := X) (D := D) S _ o1 h_o1 x1 (hW) (by rw [f_of F1.1]; omega)) (cwV 1 hts gX12_chart_X12_gearAt rfl rfl rfl hd_X12_gearAt ⟨Nat.le_of_ble_eq_true rfl, Nat.le_of_ble_eq_true rfl⟩) (pV (va_recv hK hP (q := (RX12, TX12, 34)) (ci := 16) (q0 := k33) rfl hk33) hP hK hD hN) rfl rfl hl.1 rfl (lv_room (Nat.le_of_ble_eq_true rfl)) dX12_chart_56 ⟨(Nat.zero_le _), (Nat.zero_le _)⟩) hS (fun q _ h => hFc q h) hFc (fun r34 u t H1 locs ht hvm hw hB hz1 hk1 hS => ?_)
        obtain ⟨r34, rfl, c35, o36⟩ := hw
        obtain ⟨hP, hD⟩ := wd_post hFc ht hB
        generalize H1 = H at hP hS ⊢
        refine W.eq (g2 := F0 m 59 ls [.ref r34]) rfl ?_
        have F37 := ((hW.at o36 List.not_mem_nil).to_10 o36.2.1).F5
        obtain ⟨k38, gk38, hk38⟩ := wGt (cy := cy) X S o36.1 o36.2.1
        simp only [kE, F37.1] at hk38
        refine va_getN (D := D) (ci := 14) (v := .ref (S.f r34 5)) (C := RX10) (T := TX10) (N := 23) hx hb hts hi_X12_chart_X10 hown hK hP k38 hk38 rfl 5 (by decide) (va_Nw.use rfl (hN (.fieldLinkNest RX12 403 "HobhouseModel$Gear" "errors" "[I" "HobhouseModel") (by decide +kernel))) (fun _ h9 => h9) rfl dX12_chart_59 ?_
        refine lv_iload_n hx hb dX12_chart_62 rfl (lv_at hl 2 rfl) ?_
        obtain ⟨k39, gk39, hk39⟩ := wGt (cy := cy) X S F37.2.1.1 F37.2.1.2.1
        refine va_iald hx hb hK hP k39 2 hk39 rfl (inb (m := 200) F37.2.2 (by omega) (by omega)) dX12_chart_63 ?_
        refine lv_istore (lv' := [(4, .int (S.i (S.f r34 5) x2.toNatClampNeg)), (0, .ref o1), (1, .int x1), (2, .int x2), (3, .int x3)]) hx hb dX12_chart_64 hl (by decide) rfl (fun ls hl => ?_)
        refine lv_aload_n hx hb dX12_chart_66 rfl (lv_at hl 1 rfl) ?_
        refine lv_iload_n hx hb dX12_chart_67 rfl (lv_at hl 2 rfl) ?_
        have hFc := free_all hD hS hA
        obtain ⟨k40, gk40, hk40⟩ := wGt (cy := cy) X S h_o1.1 h_o1.2.1
        refine va_callq (va_runV (As := [.int x1]) (rest := []) ⟨hx, hb, hml, hown, hts⟩ (c_X12_gearAt l (cy := cy) (X := X) (D := D) S _ o1 h_o1 x1 (hW) (by rw [f_of F1.1]; omega)) (cwV 1 hts gX12_chart_X12_gearAt rfl rfl rfl hd_X12_gearAt ⟨Nat.le_of_ble_eq_true rfl, Nat.le_of_ble_eq_true rfl⟩) (pV (va_recv hK hP (q := (RX12, TX12, 34)) (ci := 16) (q0 := k40) rfl hk40) hP hK hD hN) rfl rfl hl.1 rfl (lv_room (Nat.le_of_ble_eq_true rfl)) dX12_chart_68 ⟨(Nat.zero_le _), (Nat.zero_le _)⟩) hS (fun q _ h => hFc q h) hFc (fun r41 u t H1 locs ht hvm hw hB hz1 hk1 hS => ?_)
        obtain ⟨r41, rfl, c42, o43⟩ := hw
        obtain ⟨hP, hD⟩ := wd_post hFc ht hB
        generalize H1 = H at hP hS ⊢
        refine W.eq (g2 := F0 m 71 ls [.ref r41]) rfl ?_
        have F44 := ((hW.at o43 List.not_mem_nil).to_10 o43.2.1).F5
        obtain ⟨k45, gk45, hk45⟩ := wGt (cy := cy) X S o43.1 o43.2.1
        simp only [kE, F44.1] at hk45
        refine va_getN (D := D) (ci := 14) (v := .ref (S.f r41 5)) (C := RX10) (T := TX10) (N := 23) hx hb hts hi_X12_chart_X10 hown hK hP k45 hk45 rfl 5 (by decide) (va_Nw.use rfl (hN (.fieldLinkNest RX12 403 "HobhouseModel$Gear" "errors" "[I" "HobhouseModel") (by decide +kernel))) (fun _ h9 => h9) rfl dX12_chart_71 ?_
        refine lv_iload_n hx hb dX12_chart_74 rfl (lv_at hl 3 rfl) ?_
        refine lv_iload_n hx hb dX12_chart_75 rfl (lv_at hl 4 rfl) ?_
        obtain ⟨k46, gk46, hk46⟩ := wGt (cy := cy) X S F44.2.1.1 F44.2.1.2.1
        refine va_iast hx hb hK hP hD hS k46 2 hk46 rfl (inb (m := 200) F44.2.2 (by omega) (by omega)) dX12_chart_76 (fun H locs hP2 hD2 hS => ?_)
        have e9 := wPui (cy := cy) (f := (upd (S.i (S.f r41 5)) x2.toNatClampNeg x3)) hD F44.2.1.1 F44.2.1.2.1 gk46 rfl
        obtain ⟨S47, hS47⟩ : ∃ z, S.si (S.f r41 5) (upd (S.i (S.f r41 5)) x2.toNatClampNeg x3) = z := ⟨_, rfl⟩
        have hP : va_P D vwCl (X ++ PL cy S47) H := by rw [← hS47, ← e9]; exact hP2
        have hD : va_D A (X ++ PL cy S47) := by rw [← hS47, ← e9]; exact hD2
        have xe48 : ext S S47 := by rw [← hS47]; exact ext.si _ _ _
        have t49 : stp [(12, 15), (29, 100)] [] [] S S47 := by rw [← hS47]; exact t0.i (upd (S.i (S.f r41 5)) x2.toNatClampNeg x3) F44.2.1 (by decide)
        refine lv_aload_n hx hb dX12_chart_77 rfl (lv_at hl 1 rfl) ?_
        refine lv_iload hx hb dX12_chart_78 (lv_at hl 0 rfl) ?_
        have hFc := free_all hD hS hA
        obtain ⟨k50, gk50, hk50⟩ := wGt (cy := cy) X S47 (xe48.A h_o1).1 (xe48.A h_o1).2.1
        refine va_calli (va_runV (As := [.int (S.i (S.f r34 5) x2.toNatClampNeg)]) (rest := []) ⟨hx, hb, hml, hown, hts⟩ (c_X12_answer l (cy := cy) (X := X) (D := D) S47 _ o1 (xe48.A h_o1) (S.i (S.f r34 5) x2.toNatClampNeg) (t49.w)) (cwV 1 hts gX12_chart_X12_answer rfl rfl rfl hd_X12_answer ⟨Nat.le_of_ble_eq_true rfl, Nat.le_of_ble_eq_true rfl⟩) (pV (va_recv hK hP (q := (RX12, TX12, 34)) (ci := 16) (q0 := k50) rfl hk50) hP hK hD hN) rfl rfl hl.1 rfl (lv_room (Nat.le_of_ble_eq_true rfl)) dX12_chart_80 ⟨(Nat.zero_le _), (Nat.zero_le _)⟩) hS (fun q _ h => hFc q h) hFc (fun r51 u t H1 locs ht hvm hw hB hz1 hk1 hS => ?_)
        obtain ⟨c52, w53⟩ := hw
        obtain ⟨hP, hD⟩ := wd_post hFc ht hB
        generalize H1 = H at hP hS ⊢
        obtain ⟨S54, rfl⟩ : ∃ z, z = u := ⟨_, rfl⟩
        have t55 : stp [(12, 15), (29, 100)] [] [] S S54 := t49.tr w53 (by decide) (fun _ q => absurd q List.not_mem_nil)
        have xe56 : ext S47 S54 := w53.x
        refine W.widen (k := 0) (n := 0) (Nat.le_of_ble_eq_true rfl) (Nat.le_of_ble_eq_true rfl) ?_
        exact W.iret (v := r51) hx hb hr (fun t ht hW9 => ⟨⟨r51, S54, rfl, t55, wd_end hP hK hD ht hW9.alike⟩, hS.F ht⟩) hS.2.2 dX12_chart_83 hlocks
      · have c32i : (f_X12_in x3.toInt64 (-500 : Int64) (500 : Int64)).toInt = 0 := eq_v rfl rfl c32
        refine lv_aload_n hx hb dX12_chart_48 rfl (lv_at hl 0 rfl) ?_
        refine lv_iconst (v := 2) hx hb dX12_chart_49 (by decide) ?_
        have l32_2 : (2 : Int32).toInt = 2 := rfl
        have hFc := free_all hD hS hA
        obtain ⟨k57, gk57, hk57⟩ := wGt (cy := cy) X S h_o1.1 h_o1.2.1
        refine va_calli (va_runV (As := [.int (2 : Int32)]) (rest := []) ⟨hx, hb, hml, hown, hts⟩ (c_X12_fails l (cy := cy) (X := X) (D := D) S _ o1 h_o1 (2 : Int32) (hW)) (cwV 1 hts gX12_chart_X12_fails rfl rfl rfl hd_X12_fails ⟨Nat.le_of_ble_eq_true rfl, Nat.le_of_ble_eq_true rfl⟩) (pV (va_recv hK hP (q := (RX12, TX12, 34)) (ci := 16) (q0 := k57) rfl hk57) hP hK hD hN) rfl rfl hl.1 rfl (lv_room (Nat.le_of_ble_eq_true rfl)) dX12_chart_50 ⟨(Nat.zero_le _), (Nat.zero_le _)⟩) hS (fun q _ h => hFc q h) hFc (fun r58 u t H1 locs ht hvm hw hB hz1 hk1 hS => ?_)
        obtain ⟨c59, w60⟩ := hw
        obtain ⟨hP, hD⟩ := wd_post hFc ht hB
        generalize H1 = H at hP hS ⊢
        obtain ⟨S61, rfl⟩ : ∃ z, z = u := ⟨_, rfl⟩
        have t62 : stp [(12, 15), (29, 100)] [] [] S S61 := t0.tr w60 (by decide) (fun _ q => absurd q List.not_mem_nil)
        have xe63 : ext S S61 := w60.x
        refine W.widen (k := 0) (n := 0) (Nat.le_of_ble_eq_true rfl) (Nat.le_of_ble_eq_true rfl) ?_
        exact W.iret (v := r58) hx hb hr (fun t ht hW9 => ⟨⟨r58, S61, rfl, t62, wd_end hP hK hD ht hW9.alike⟩, hS.F ht⟩) hS.2.2 dX12_chart_53 hlocks
  · have c6i : (f_X12_isGear S o1 x1).toInt = 0 := eq_v rfl rfl c6
    refine lv_aload_n hx hb dX12_chart_8 rfl (lv_at hl 0 rfl) ?_
    refine lv_iconst (v := 1) hx hb dX12_chart_9 (by decide) ?_
    have l32_1 : (1 : Int32).toInt = 1 := rfl
    have hFc := free_all hD hS hA
    obtain ⟨k64, gk64, hk64⟩ := wGt (cy := cy) X S h_o1.1 h_o1.2.1
    refine va_calli (va_runV (As := [.int (1 : Int32)]) (rest := []) ⟨hx, hb, hml, hown, hts⟩ (c_X12_fails l (cy := cy) (X := X) (D := D) S _ o1 h_o1 (1 : Int32) (hW)) (cwV 1 hts gX12_chart_X12_fails rfl rfl rfl hd_X12_fails ⟨Nat.le_of_ble_eq_true rfl, Nat.le_of_ble_eq_true rfl⟩) (pV (va_recv hK hP (q := (RX12, TX12, 34)) (ci := 16) (q0 := k64) rfl hk64) hP hK hD hN) rfl rfl hl.1 rfl (lv_room (Nat.le_of_ble_eq_true rfl)) dX12_chart_10 ⟨(Nat.zero_le _), (Nat.zero_le _)⟩) hS (fun q _ h => hFc q h) hFc (fun r65 u t H1 locs ht hvm hw hB hz1 hk1 hS => ?_)
    obtain ⟨c66, w67⟩ := hw
    obtain ⟨hP, hD⟩ := wd_post hFc ht hB
    generalize H1 = H at hP hS ⊢
    obtain ⟨S68, rfl⟩ : ∃ z, z = u := ⟨_, rfl⟩
    have t69 : stp [(12, 15), (29, 100)] [] [] S S68 := t0.tr w67 (by decide) (fun _ q => absurd q List.not_mem_nil)
    have xe70 : ext S S68 := w67.x
    refine W.widen (k := 0) (n := 0) (Nat.le_of_ble_eq_true rfl) (Nat.le_of_ble_eq_true rfl) ?_
    exact W.iret (v := r65) hx hb hr (fun t ht hW9 => ⟨⟨r65, S68, rfl, t69, wd_end hP hK hD ht hW9.alike⟩, hS.F ht⟩) hS.2.2 dX12_chart_13 hlocks
theorem hd_X12_total : yX12_total.cls = RX12 ∧ yX12_total.cls ≠ "java/lang/invoke/MethodHandle" ∧ yX12_total.cls ≠ "java/lang/invoke/VarHandle" ∧ (parseMethodDescriptor yX12_total.desc).map (fun d => d.parameters.length) = some 1 := by decide +kernel
set_option maxHeartbeats 4000000 in
set_option maxRecDepth 100000 in
theorem c_X12_total (l : Launch) {D : va_G} {cy : Nat → ClassId} {X : va_W} (S : wPS) (sz : Nat) (o1 : Nat) (h_o1 : isA S o1 12) (x1 : Int32) (hW : wtB S [])  : Met l yX12_total wsX12_total ({ frames := 4, cells := 0, slots := 0, locals := 85 }) (va_Pc [.ref o1, .int x1] (fun U => U.heap.size = sz ∧ WD D cy X (fun _ => True) S U ∧ NW U)) (va_Qi (fun r (u : wPS) => stp [(12, 15)] [] [] S u) (fun u t => WD D cy X (va_A (X ++ PL cy S) sz) u t) (va_A (X ++ PL cy S) sz)) 0 0 (va_A (X ++ PL cy S) sz) := by
  refine Met.ofW (cc := cX12_total) (maxL := 2) (ret := (some .int)) (by decide) rfl ?_
  intro p e s m args below meth c s₁ B hml hv
  obtain ⟨rfl, hsz, ⟨hP, hK, hD0⟩, hN⟩ := hv
  have hx := B.exec
  have hb := B.bytes
  have hr := B.returns
  have hts := atoms_spec (ws := wsX12_total) B.pre
  have hown : s.vm.findClass RX12 = some m.cls := findClass_of_methodNamed (x := yX12_total) B.named
  have hlocks := B.notSynchronized
  subst hsz
  have hD := hD0.self (sz := s.heap.size)
  generalize hAe : va_A (X ++ PL cy S) s.heap.size = A at hD ⊢
  have hA : ∀ q : Nat, s.heap.size ≤ q → A q := fun q h => by rw [← hAe]; exact Or.inr h
  have hS : va_S A s.heap s.heap [] := va_S.rf
  have hl := lv_entry ([.ref o1, .int x1]) (n := 2) (Nat.le_of_ble_eq_true rfl)
  rw [lg_entry_eq]
  generalize (lg_sl ([.ref o1, .int x1]) ++ List.replicate (2 - (lg_sl ([.ref o1, .int x1])).length) Slot.unset).toArray = ls at hl ⊢
  have hl : lv_has ls 2 [(0, .ref o1), (1, .int x1)] := hl
  have t0 : stp [(12, 15)] [] [] S S := stp.rf hW
  refine lv_aload_n hx hb dX12_total_0 rfl (lv_at hl 0 rfl) ?_
  refine lv_iload_n hx hb dX12_total_1 rfl (lv_at hl 1 rfl) ?_
  have hFc := free_all hD hS hA
  obtain ⟨k1, gk1, hk1⟩ := wGt (cy := cy) X S h_o1.1 h_o1.2.1
  refine va_calli (va_runV (As := [.int x1]) (rest := []) ⟨hx, hb, hml, hown, hts⟩ (c_X12_isGear l (cy := cy) (X := X) (D := D) S _ o1 h_o1 x1 (hW)) (cwV 1 hts gX12_total_X12_isGear rfl rfl rfl hd_X12_isGear ⟨Nat.le_of_ble_eq_true rfl, Nat.le_of_ble_eq_true rfl⟩) (pV (va_recv hK hP (q := (RX12, TX12, 34)) (ci := 16) (q0 := k1) rfl hk1) hP hK hD hN) rfl rfl hl.1 rfl (lv_room (Nat.le_of_ble_eq_true rfl)) dX12_total_2 ⟨(Nat.zero_le _), (Nat.zero_le _)⟩) hS (fun q _ h => hFc q h) hFc (fun r2 u t H1 locs ht hvm hw hB hz1 hk1 hS => ?_)
  have c3 := hw
  obtain ⟨hP, hD⟩ := wd_post hFc ht hB
  generalize H1 = H at hP hS ⊢
  obtain rfl : f_X12_isGear S o1 x1 = r2 := c3.symm
  have F4 := ((hW.at h_o1 List.not_mem_nil).to_12 h_o1.2.1).F0
  have i5 : (f_X12_isGear S o1 x1).toInt = 0 ∨ (0 ≤ x1.toInt ∧ x1.toInt < (S.I (S.f o1 0) 2).toInt) := by have h9 := ig_rng x1 ((hW.at h_o1 List.not_mem_nil).to_12 h_o1.2.1) hW; rw [f_of F4.1] at h9; exact h9
  refine lv_if_eq (tgt := 23) hx hb dX12_total_5 (by decide) (fun c6 => ?_) (fun c6 => ?_)
  · have c6i : (f_X12_isGear S o1 x1).toInt = 0 := eq_v rfl rfl c6
    refine lv_aload_n hx hb dX12_total_23 rfl (lv_at hl 0 rfl) ?_
    refine lv_iconst (v := 1) hx hb dX12_total_24 (by decide) ?_
    have l32_1 : (1 : Int32).toInt = 1 := rfl
    have hFc := free_all hD hS hA
    obtain ⟨k7, gk7, hk7⟩ := wGt (cy := cy) X S h_o1.1 h_o1.2.1
    refine va_calli (va_runV (As := [.int (1 : Int32)]) (rest := []) ⟨hx, hb, hml, hown, hts⟩ (c_X12_fails l (cy := cy) (X := X) (D := D) S _ o1 h_o1 (1 : Int32) (hW)) (cwV 1 hts gX12_total_X12_fails rfl rfl rfl hd_X12_fails ⟨Nat.le_of_ble_eq_true rfl, Nat.le_of_ble_eq_true rfl⟩) (pV (va_recv hK hP (q := (RX12, TX12, 34)) (ci := 16) (q0 := k7) rfl hk7) hP hK hD hN) rfl rfl hl.1 rfl (lv_room (Nat.le_of_ble_eq_true rfl)) dX12_total_25 ⟨(Nat.zero_le _), (Nat.zero_le _)⟩) hS (fun q _ h => hFc q h) hFc (fun r8 u t H1 locs ht hvm hw hB hz1 hk1 hS => ?_)
    obtain ⟨c9, w10⟩ := hw
    obtain ⟨hP, hD⟩ := wd_post hFc ht hB
    generalize H1 = H at hP hS ⊢
    obtain ⟨S11, rfl⟩ : ∃ z, z = u := ⟨_, rfl⟩
    have t12 : stp [(12, 15)] [] [] S S11 := t0.tr w10 (by decide) (fun _ q => absurd q List.not_mem_nil)
    have xe13 : ext S S11 := w10.x
    refine W.widen (k := 0) (n := 0) (Nat.le_of_ble_eq_true rfl) (Nat.le_of_ble_eq_true rfl) ?_
    exact W.iret (v := r8) hx hb hr (fun t ht hW9 => ⟨⟨r8, S11, rfl, t12, wd_end hP hK hD ht hW9.alike⟩, hS.F ht⟩) hS.2.2 dX12_total_28 hlocks
  · have c6i : ¬ (f_X12_isGear S o1 x1).toInt = 0 := neq_v rfl rfl c6
    refine lv_aload_n hx hb dX12_total_8 rfl (lv_at hl 0 rfl) ?_
    refine lv_aload_n hx hb dX12_total_9 rfl (lv_at hl 0 rfl) ?_
    refine lv_iload_n hx hb dX12_total_10 rfl (lv_at hl 1 rfl) ?_
    have hFc := free_all hD hS hA
    obtain ⟨k14, gk14, hk14⟩ := wGt (cy := cy) X S h_o1.1 h_o1.2.1
    refine va_callq (va_runV (As := [.int x1]) (rest := [.ref o1]) ⟨hx, hb, hml, hown, hts⟩ (c_X12_gearAt l (cy := cy) (X := X) (D := D) S _ o1 h_o1 x1 (hW) (by rw [f_of F4.1]; omega)) (cwV 1 hts gX12_total_X12_gearAt rfl rfl rfl hd_X12_gearAt ⟨Nat.le_of_ble_eq_true rfl, Nat.le_of_ble_eq_true rfl⟩) (pV (va_recv hK hP (q := (RX12, TX12, 34)) (ci := 16) (q0 := k14) rfl hk14) hP hK hD hN) rfl rfl hl.1 rfl (lv_room (Nat.le_of_ble_eq_true rfl)) dX12_total_11 ⟨(Nat.zero_le _), (Nat.zero_le _)⟩) hS (fun q _ h => hFc q h) hFc (fun r15 u t H1 locs ht hvm hw hB hz1 hk1 hS => ?_)
    obtain ⟨r15, rfl, c16, o17⟩ := hw
    obtain ⟨hP, hD⟩ := wd_post hFc ht hB
    generalize H1 = H at hP hS ⊢
    refine W.eq (g2 := F0 m 14 ls [.ref r15, .ref o1]) rfl ?_
    have hFc := free_all hD hS hA
    obtain ⟨k18, gk18, hk18⟩ := wGt (cy := cy) X S o17.1 o17.2.1
    refine va_calli (va_runV (As := []) (rest := [.ref o1]) ⟨hx, hb, hml, hown, hts⟩ (c_X10_total l (cy := cy) (X := X) (D := D) S _ r15 o17 (hW)) (cwV 0 hts gX12_total_X10_total rfl rfl rfl hd_X10_total ⟨Nat.le_of_ble_eq_true rfl, Nat.le_of_ble_eq_true rfl⟩) (pV (va_recv hK hP (q := (RX10, TX10, 23)) (ci := 14) (q0 := k18) rfl hk18) hP hK hD hN) rfl rfl hl.1 rfl (lv_room (Nat.le_of_ble_eq_true rfl)) dX12_total_14 ⟨(Nat.zero_le _), (Nat.zero_le _)⟩) hS (fun q _ h => hFc q h) hFc (fun r19 u t H1 locs ht hvm hw hB hz1 hk1 hS => ?_)
    clear hw
    obtain ⟨hP, hD⟩ := wd_post hFc ht hB
    generalize H1 = H at hP hS ⊢
    have hFc := free_all hD hS hA
    obtain ⟨k20, gk20, hk20⟩ := wGt (cy := cy) X S h_o1.1 h_o1.2.1
    refine va_calli (va_runV (As := [.int r19]) (rest := []) ⟨hx, hb, hml, hown, hts⟩ (c_X12_answer l (cy := cy) (X := X) (D := D) S _ o1 h_o1 r19 (hW)) (cwV 1 hts gX12_total_X12_answer rfl rfl rfl hd_X12_answer ⟨Nat.le_of_ble_eq_true rfl, Nat.le_of_ble_eq_true rfl⟩) (pV (va_recv hK hP (q := (RX12, TX12, 34)) (ci := 16) (q0 := k20) rfl hk20) hP hK hD hN) rfl rfl hl.1 rfl (lv_room (Nat.le_of_ble_eq_true rfl)) dX12_total_17 ⟨(Nat.zero_le _), (Nat.zero_le _)⟩) hS (fun q _ h => hFc q h) hFc (fun r21 u t H1 locs ht hvm hw hB hz1 hk1 hS => ?_)
    obtain ⟨c22, w23⟩ := hw
    obtain ⟨hP, hD⟩ := wd_post hFc ht hB
    generalize H1 = H at hP hS ⊢
    obtain ⟨S24, rfl⟩ : ∃ z, z = u := ⟨_, rfl⟩
    have t25 : stp [(12, 15)] [] [] S S24 := t0.tr w23 (by decide) (fun _ q => absurd q List.not_mem_nil)
    have xe26 : ext S S24 := w23.x
    refine lv_goto (tgt := 28) hx hb dX12_total_20 (by decide) ?_
    refine W.widen (k := 0) (n := 0) (Nat.le_of_ble_eq_true rfl) (Nat.le_of_ble_eq_true rfl) ?_
    exact W.iret (v := r21) hx hb hr (fun t ht hW9 => ⟨⟨r21, S24, rfl, t25, wd_end hP hK hD ht hW9.alike⟩, hS.F ht⟩) hS.2.2 dX12_total_28 hlocks
theorem hd_X12_grade : yX12_grade.cls = RX12 ∧ yX12_grade.cls ≠ "java/lang/invoke/MethodHandle" ∧ yX12_grade.cls ≠ "java/lang/invoke/VarHandle" ∧ (parseMethodDescriptor yX12_grade.desc).map (fun d => d.parameters.length) = some 1 := by decide +kernel
set_option maxHeartbeats 4000000 in
set_option maxRecDepth 100000 in
theorem c_X12_grade (l : Launch) {D : va_G} {cy : Nat → ClassId} {X : va_W} (S : wPS) (sz : Nat) (o1 : Nat) (h_o1 : isA S o1 12) (x1 : Int32) (hW : wtB S [])  : Met l yX12_grade wsX12_grade ({ frames := 4, cells := 0, slots := 0, locals := 85 }) (va_Pc [.ref o1, .int x1] (fun U => U.heap.size = sz ∧ WD D cy X (fun _ => True) S U ∧ NW U)) (va_Qi (fun r (u : wPS) => stp [(12, 15)] [] [] S u) (fun u t => WD D cy X (va_A (X ++ PL cy S) sz) u t) (va_A (X ++ PL cy S) sz)) 0 0 (va_A (X ++ PL cy S) sz) := by
  refine Met.ofW (cc := cX12_grade) (maxL := 2) (ret := (some .int)) (by decide) rfl ?_
  intro p e s m args below meth c s₁ B hml hv
  obtain ⟨rfl, hsz, ⟨hP, hK, hD0⟩, hN⟩ := hv
  have hx := B.exec
  have hb := B.bytes
  have hr := B.returns
  have hts := atoms_spec (ws := wsX12_grade) B.pre
  have hown : s.vm.findClass RX12 = some m.cls := findClass_of_methodNamed (x := yX12_grade) B.named
  have hlocks := B.notSynchronized
  subst hsz
  have hD := hD0.self (sz := s.heap.size)
  generalize hAe : va_A (X ++ PL cy S) s.heap.size = A at hD ⊢
  have hA : ∀ q : Nat, s.heap.size ≤ q → A q := fun q h => by rw [← hAe]; exact Or.inr h
  have hS : va_S A s.heap s.heap [] := va_S.rf
  have hl := lv_entry ([.ref o1, .int x1]) (n := 2) (Nat.le_of_ble_eq_true rfl)
  rw [lg_entry_eq]
  generalize (lg_sl ([.ref o1, .int x1]) ++ List.replicate (2 - (lg_sl ([.ref o1, .int x1])).length) Slot.unset).toArray = ls at hl ⊢
  have hl : lv_has ls 2 [(0, .ref o1), (1, .int x1)] := hl
  have t0 : stp [(12, 15)] [] [] S S := stp.rf hW
  refine lv_aload_n hx hb dX12_grade_0 rfl (lv_at hl 0 rfl) ?_
  refine lv_iload_n hx hb dX12_grade_1 rfl (lv_at hl 1 rfl) ?_
  have hFc := free_all hD hS hA
  obtain ⟨k1, gk1, hk1⟩ := wGt (cy := cy) X S h_o1.1 h_o1.2.1
  refine va_calli (va_runV (As := [.int x1]) (rest := []) ⟨hx, hb, hml, hown, hts⟩ (c_X12_isGear l (cy := cy) (X := X) (D := D) S _ o1 h_o1 x1 (hW)) (cwV 1 hts gX12_grade_X12_isGear rfl rfl rfl hd_X12_isGear ⟨Nat.le_of_ble_eq_true rfl, Nat.le_of_ble_eq_true rfl⟩) (pV (va_recv hK hP (q := (RX12, TX12, 34)) (ci := 16) (q0 := k1) rfl hk1) hP hK hD hN) rfl rfl hl.1 rfl (lv_room (Nat.le_of_ble_eq_true rfl)) dX12_grade_2 ⟨(Nat.zero_le _), (Nat.zero_le _)⟩) hS (fun q _ h => hFc q h) hFc (fun r2 u t H1 locs ht hvm hw hB hz1 hk1 hS => ?_)
  have c3 := hw
  obtain ⟨hP, hD⟩ := wd_post hFc ht hB
  generalize H1 = H at hP hS ⊢
  obtain rfl : f_X12_isGear S o1 x1 = r2 := c3.symm
  have F4 := ((hW.at h_o1 List.not_mem_nil).to_12 h_o1.2.1).F0
  have i5 : (f_X12_isGear S o1 x1).toInt = 0 ∨ (0 ≤ x1.toInt ∧ x1.toInt < (S.I (S.f o1 0) 2).toInt) := by have h9 := ig_rng x1 ((hW.at h_o1 List.not_mem_nil).to_12 h_o1.2.1) hW; rw [f_of F4.1] at h9; exact h9
  refine lv_if_eq (tgt := 23) hx hb dX12_grade_5 (by decide) (fun c6 => ?_) (fun c6 => ?_)
  · have c6i : (f_X12_isGear S o1 x1).toInt = 0 := eq_v rfl rfl c6
    refine lv_aload_n hx hb dX12_grade_23 rfl (lv_at hl 0 rfl) ?_
    refine lv_iconst (v := 1) hx hb dX12_grade_24 (by decide) ?_
    have l32_1 : (1 : Int32).toInt = 1 := rfl
    have hFc := free_all hD hS hA
    obtain ⟨k7, gk7, hk7⟩ := wGt (cy := cy) X S h_o1.1 h_o1.2.1
    refine va_calli (va_runV (As := [.int (1 : Int32)]) (rest := []) ⟨hx, hb, hml, hown, hts⟩ (c_X12_fails l (cy := cy) (X := X) (D := D) S _ o1 h_o1 (1 : Int32) (hW)) (cwV 1 hts gX12_grade_X12_fails rfl rfl rfl hd_X12_fails ⟨Nat.le_of_ble_eq_true rfl, Nat.le_of_ble_eq_true rfl⟩) (pV (va_recv hK hP (q := (RX12, TX12, 34)) (ci := 16) (q0 := k7) rfl hk7) hP hK hD hN) rfl rfl hl.1 rfl (lv_room (Nat.le_of_ble_eq_true rfl)) dX12_grade_25 ⟨(Nat.zero_le _), (Nat.zero_le _)⟩) hS (fun q _ h => hFc q h) hFc (fun r8 u t H1 locs ht hvm hw hB hz1 hk1 hS => ?_)
    obtain ⟨c9, w10⟩ := hw
    obtain ⟨hP, hD⟩ := wd_post hFc ht hB
    generalize H1 = H at hP hS ⊢
    obtain ⟨S11, rfl⟩ : ∃ z, z = u := ⟨_, rfl⟩
    have t12 : stp [(12, 15)] [] [] S S11 := t0.tr w10 (by decide) (fun _ q => absurd q List.not_mem_nil)
    have xe13 : ext S S11 := w10.x
    refine W.widen (k := 0) (n := 0) (Nat.le_of_ble_eq_true rfl) (Nat.le_of_ble_eq_true rfl) ?_
    exact W.iret (v := r8) hx hb hr (fun t ht hW9 => ⟨⟨r8, S11, rfl, t12, wd_end hP hK hD ht hW9.alike⟩, hS.F ht⟩) hS.2.2 dX12_grade_28 hlocks
  · have c6i : ¬ (f_X12_isGear S o1 x1).toInt = 0 := neq_v rfl rfl c6
    refine lv_aload_n hx hb dX12_grade_8 rfl (lv_at hl 0 rfl) ?_
    refine lv_aload_n hx hb dX12_grade_9 rfl (lv_at hl 0 rfl) ?_
    refine lv_iload_n hx hb dX12_grade_10 rfl (lv_at hl 1 rfl) ?_
    have hFc := free_all hD hS hA
    obtain ⟨k14, gk14, hk14⟩ := wGt (cy := cy) X S h_o1.1 h_o1.2.1
    refine va_callq (va_runV (As := [.int x1]) (rest := [.ref o1]) ⟨hx, hb, hml, hown, hts⟩ (c_X12_gearAt l (cy := cy) (X := X) (D := D) S _ o1 h_o1 x1 (hW) (by rw [f_of F4.1]; omega)) (cwV 1 hts gX12_grade_X12_gearAt rfl rfl rfl hd_X12_gearAt ⟨Nat.le_of_ble_eq_true rfl, Nat.le_of_ble_eq_true rfl⟩) (pV (va_recv hK hP (q := (RX12, TX12, 34)) (ci := 16) (q0 := k14) rfl hk14) hP hK hD hN) rfl rfl hl.1 rfl (lv_room (Nat.le_of_ble_eq_true rfl)) dX12_grade_11 ⟨(Nat.zero_le _), (Nat.zero_le _)⟩) hS (fun q _ h => hFc q h) hFc (fun r15 u t H1 locs ht hvm hw hB hz1 hk1 hS => ?_)
    obtain ⟨r15, rfl, c16, o17⟩ := hw
    obtain ⟨hP, hD⟩ := wd_post hFc ht hB
    generalize H1 = H at hP hS ⊢
    refine W.eq (g2 := F0 m 14 ls [.ref r15, .ref o1]) rfl ?_
    have hFc := free_all hD hS hA
    obtain ⟨k18, gk18, hk18⟩ := wGt (cy := cy) X S o17.1 o17.2.1
    refine va_calli (va_runV (As := []) (rest := [.ref o1]) ⟨hx, hb, hml, hown, hts⟩ (c_X10_grade l (cy := cy) (X := X) (D := D) S _ r15 o17 (hW)) (cwV 0 hts gX12_grade_X10_grade rfl rfl rfl hd_X10_grade ⟨Nat.le_of_ble_eq_true rfl, Nat.le_of_ble_eq_true rfl⟩) (pV (va_recv hK hP (q := (RX10, TX10, 23)) (ci := 14) (q0 := k18) rfl hk18) hP hK hD hN) rfl rfl hl.1 rfl (lv_room (Nat.le_of_ble_eq_true rfl)) dX12_grade_14 ⟨(Nat.zero_le _), (Nat.zero_le _)⟩) hS (fun q _ h => hFc q h) hFc (fun r19 u t H1 locs ht hvm hw hB hz1 hk1 hS => ?_)
    have y20 := hw
    obtain ⟨hP, hD⟩ := wd_post hFc ht hB
    generalize H1 = H at hP hS ⊢
    have hFc := free_all hD hS hA
    obtain ⟨k21, gk21, hk21⟩ := wGt (cy := cy) X S h_o1.1 h_o1.2.1
    refine va_calli (va_runV (As := [.int r19]) (rest := []) ⟨hx, hb, hml, hown, hts⟩ (c_X12_answer l (cy := cy) (X := X) (D := D) S _ o1 h_o1 r19 (hW)) (cwV 1 hts gX12_grade_X12_answer rfl rfl rfl hd_X12_answer ⟨Nat.le_of_ble_eq_true rfl, Nat.le_of_ble_eq_true rfl⟩) (pV (va_recv hK hP (q := (RX12, TX12, 34)) (ci := 16) (q0 := k21) rfl hk21) hP hK hD hN) rfl rfl hl.1 rfl (lv_room (Nat.le_of_ble_eq_true rfl)) dX12_grade_17 ⟨(Nat.zero_le _), (Nat.zero_le _)⟩) hS (fun q _ h => hFc q h) hFc (fun r22 u t H1 locs ht hvm hw hB hz1 hk1 hS => ?_)
    obtain ⟨c23, w24⟩ := hw
    obtain ⟨hP, hD⟩ := wd_post hFc ht hB
    generalize H1 = H at hP hS ⊢
    obtain ⟨S25, rfl⟩ : ∃ z, z = u := ⟨_, rfl⟩
    have t26 : stp [(12, 15)] [] [] S S25 := t0.tr w24 (by decide) (fun _ q => absurd q List.not_mem_nil)
    have xe27 : ext S S25 := w24.x
    refine lv_goto (tgt := 28) hx hb dX12_grade_20 (by decide) ?_
    refine W.widen (k := 0) (n := 0) (Nat.le_of_ble_eq_true rfl) (Nat.le_of_ble_eq_true rfl) ?_
    exact W.iret (v := r22) hx hb hr (fun t ht hW9 => ⟨⟨r22, S25, rfl, t26, wd_end hP hK hD ht hW9.alike⟩, hS.F ht⟩) hS.2.2 dX12_grade_28 hlocks
theorem hi_X12_part_X10 : ∀ w ∈ u_ws RX10 TX10 23, w ∈ wsX12_part := by decide +kernel
theorem hd_X12_part : yX12_part.cls = RX12 ∧ yX12_part.cls ≠ "java/lang/invoke/MethodHandle" ∧ yX12_part.cls ≠ "java/lang/invoke/VarHandle" ∧ (parseMethodDescriptor yX12_part.desc).map (fun d => d.parameters.length) = some 2 := by decide +kernel
set_option maxHeartbeats 4000000 in
set_option maxRecDepth 100000 in
theorem c_X12_part (l : Launch) {D : va_G} {cy : Nat → ClassId} {X : va_W} (S : wPS) (sz : Nat) (o1 : Nat) (h_o1 : isA S o1 12) (x1 : Int32) (x2 : Int32) (hW : wtB S [])  : Met l yX12_part wsX12_part ({ frames := 4, cells := 0, slots := 0, locals := 85 }) (va_Pc [.ref o1, .int x1, .int x2] (fun U => U.heap.size = sz ∧ WD D cy X (fun _ => True) S U ∧ NW U)) (va_Qi (fun r (u : wPS) => stp [(12, 15)] [] [] S u) (fun u t => WD D cy X (va_A (X ++ PL cy S) sz) u t) (va_A (X ++ PL cy S) sz)) 0 0 (va_A (X ++ PL cy S) sz) := by
  refine Met.ofW (cc := cX12_part) (maxL := 3) (ret := (some .int)) (by decide) rfl ?_
  intro p e s m args below meth c s₁ B hml hv
  obtain ⟨rfl, hsz, ⟨hP, hK, hD0⟩, hN⟩ := hv
  have hx := B.exec
  have hb := B.bytes
  have hr := B.returns
  have hts := atoms_spec (ws := wsX12_part) B.pre
  have hown : s.vm.findClass RX12 = some m.cls := findClass_of_methodNamed (x := yX12_part) B.named
  have hlocks := B.notSynchronized
  subst hsz
  have hD := hD0.self (sz := s.heap.size)
  generalize hAe : va_A (X ++ PL cy S) s.heap.size = A at hD ⊢
  have hA : ∀ q : Nat, s.heap.size ≤ q → A q := fun q h => by rw [← hAe]; exact Or.inr h
  have hS : va_S A s.heap s.heap [] := va_S.rf
  have hl := lv_entry ([.ref o1, .int x1, .int x2]) (n := 3) (Nat.le_of_ble_eq_true rfl)
  rw [lg_entry_eq]
  generalize (lg_sl ([.ref o1, .int x1, .int x2]) ++ List.replicate (3 - (lg_sl ([.ref o1, .int x1, .int x2])).length) Slot.unset).toArray = ls at hl ⊢
  have hl : lv_has ls 3 [(0, .ref o1), (1, .int x1), (2, .int x2)] := hl
  have t0 : stp [(12, 15)] [] [] S S := stp.rf hW
  refine lv_aload_n hx hb dX12_part_0 rfl (lv_at hl 0 rfl) ?_
  refine lv_iload_n hx hb dX12_part_1 rfl (lv_at hl 1 rfl) ?_
  have hFc := free_all hD hS hA
  obtain ⟨k1, gk1, hk1⟩ := wGt (cy := cy) X S h_o1.1 h_o1.2.1
  refine va_calli (va_runV (As := [.int x1]) (rest := []) ⟨hx, hb, hml, hown, hts⟩ (c_X12_isGear l (cy := cy) (X := X) (D := D) S _ o1 h_o1 x1 (hW)) (cwV 1 hts gX12_part_X12_isGear rfl rfl rfl hd_X12_isGear ⟨Nat.le_of_ble_eq_true rfl, Nat.le_of_ble_eq_true rfl⟩) (pV (va_recv hK hP (q := (RX12, TX12, 34)) (ci := 16) (q0 := k1) rfl hk1) hP hK hD hN) rfl rfl hl.1 rfl (lv_room (Nat.le_of_ble_eq_true rfl)) dX12_part_2 ⟨(Nat.zero_le _), (Nat.zero_le _)⟩) hS (fun q _ h => hFc q h) hFc (fun r2 u t H1 locs ht hvm hw hB hz1 hk1 hS => ?_)
  have c3 := hw
  obtain ⟨hP, hD⟩ := wd_post hFc ht hB
  generalize H1 = H at hP hS ⊢
  obtain rfl : f_X12_isGear S o1 x1 = r2 := c3.symm
  have F4 := ((hW.at h_o1 List.not_mem_nil).to_12 h_o1.2.1).F0
  have i5 : (f_X12_isGear S o1 x1).toInt = 0 ∨ (0 ≤ x1.toInt ∧ x1.toInt < (S.I (S.f o1 0) 2).toInt) := by have h9 := ig_rng x1 ((hW.at h_o1 List.not_mem_nil).to_12 h_o1.2.1) hW; rw [f_of F4.1] at h9; exact h9
  refine lv_if_ne (tgt := 14) hx hb dX12_part_5 (by decide) (fun c6 => ?_) (fun c6 => ?_)
  · have c6i : ¬ (f_X12_isGear S o1 x1).toInt = 0 := neq_v rfl rfl c6
    refine lv_iload_n hx hb dX12_part_14 rfl (lv_at hl 2 rfl) ?_
    refine lv_iconst (v := 1) hx hb dX12_part_15 (by decide) ?_
    refine lv_icmp_lt (tgt := 32) hx hb dX12_part_16 (by decide) (fun c7 => ?_) (fun c7 => ?_)
    · have c7i : x2.toInt < 1 := lt_v rfl rfl c7
      refine lv_aload_n hx hb dX12_part_32 rfl (lv_at hl 0 rfl) ?_
      refine lv_iconst (v := 2) hx hb dX12_part_33 (by decide) ?_
      have l32_2 : (2 : Int32).toInt = 2 := rfl
      have hFc := free_all hD hS hA
      obtain ⟨k8, gk8, hk8⟩ := wGt (cy := cy) X S h_o1.1 h_o1.2.1
      refine va_calli (va_runV (As := [.int (2 : Int32)]) (rest := []) ⟨hx, hb, hml, hown, hts⟩ (c_X12_fails l (cy := cy) (X := X) (D := D) S _ o1 h_o1 (2 : Int32) (hW)) (cwV 1 hts gX12_part_X12_fails rfl rfl rfl hd_X12_fails ⟨Nat.le_of_ble_eq_true rfl, Nat.le_of_ble_eq_true rfl⟩) (pV (va_recv hK hP (q := (RX12, TX12, 34)) (ci := 16) (q0 := k8) rfl hk8) hP hK hD hN) rfl rfl hl.1 rfl (lv_room (Nat.le_of_ble_eq_true rfl)) dX12_part_34 ⟨(Nat.zero_le _), (Nat.zero_le _)⟩) hS (fun q _ h => hFc q h) hFc (fun r9 u t H1 locs ht hvm hw hB hz1 hk1 hS => ?_)
      obtain ⟨c10, w11⟩ := hw
      obtain ⟨hP, hD⟩ := wd_post hFc ht hB
      generalize H1 = H at hP hS ⊢
      obtain ⟨S12, rfl⟩ : ∃ z, z = u := ⟨_, rfl⟩
      have t13 : stp [(12, 15)] [] [] S S12 := t0.tr w11 (by decide) (fun _ q => absurd q List.not_mem_nil)
      have xe14 : ext S S12 := w11.x
      refine W.widen (k := 0) (n := 0) (Nat.le_of_ble_eq_true rfl) (Nat.le_of_ble_eq_true rfl) ?_
      exact W.iret (v := r9) hx hb hr (fun t ht hW9 => ⟨⟨r9, S12, rfl, t13, wd_end hP hK hD ht hW9.alike⟩, hS.F ht⟩) hS.2.2 dX12_part_37 hlocks
    · have c7i : 1 ≤ x2.toInt := nlt_v rfl rfl c7
      refine lv_aload_n hx hb dX12_part_19 rfl (lv_at hl 0 rfl) ?_
      refine lv_iload_n hx hb dX12_part_20 rfl (lv_at hl 1 rfl) ?_
      have hFc := free_all hD hS hA
      obtain ⟨k15, gk15, hk15⟩ := wGt (cy := cy) X S h_o1.1 h_o1.2.1
      refine va_callq (va_runV (As := [.int x1]) (rest := []) ⟨hx, hb, hml, hown, hts⟩ (c_X12_gearAt l (cy := cy) (X := X) (D := D) S _ o1 h_o1 x1 (hW) (by rw [f_of F4.1]; omega)) (cwV 1 hts gX12_part_X12_gearAt rfl rfl rfl hd_X12_gearAt ⟨Nat.le_of_ble_eq_true rfl, Nat.le_of_ble_eq_true rfl⟩) (pV (va_recv hK hP (q := (RX12, TX12, 34)) (ci := 16) (q0 := k15) rfl hk15) hP hK hD hN) rfl rfl hl.1 rfl (lv_room (Nat.le_of_ble_eq_true rfl)) dX12_part_21 ⟨(Nat.zero_le _), (Nat.zero_le _)⟩) hS (fun q _ h => hFc q h) hFc (fun r16 u t H1 locs ht hvm hw hB hz1 hk1 hS => ?_)
      obtain ⟨r16, rfl, c17, o18⟩ := hw
      obtain ⟨hP, hD⟩ := wd_post hFc ht hB
      generalize H1 = H at hP hS ⊢
      refine W.eq (g2 := F0 m 24 ls [.ref r16]) rfl ?_
      obtain ⟨k19, gk19, hk19⟩ := wGt (cy := cy) X S o18.1 o18.2.1
      have i20 := ((hW.at o18 List.not_mem_nil).to_10 o18.2.1).R1
      refine va_getN (D := D) (ci := 14) (v := .int (S.I r16 1)) (C := RX10) (T := TX10) (N := 23) hx hb hts hi_X12_part_X10 hown hK hP k19 hk19 rfl 1 (by decide) (va_Nw.use rfl (hN (.fieldLinkNest RX12 332 "HobhouseModel$Gear" "teeth" "I" "HobhouseModel") (by decide +kernel))) (fun _ h9 => h9) rfl dX12_part_24 ?_
      refine lv_iload_n hx hb dX12_part_27 rfl (lv_at hl 2 rfl) ?_
      refine lv_irem hx hb dX12_part_28 (nz_i (by omega)) ?_
      refine lv_if_eq (tgt := 38) hx hb dX12_part_29 (by decide) (fun c21 => ?_) (fun c21 => ?_)
      · have c21i : ((S.I r16 1) - (S.I r16 1) / x2 * x2).toInt = 0 := eq_v rfl rfl c21
        refine lv_aload_n hx hb dX12_part_38 rfl (lv_at hl 0 rfl) ?_
        refine lv_aload_n hx hb dX12_part_39 rfl (lv_at hl 0 rfl) ?_
        refine lv_iload_n hx hb dX12_part_40 rfl (lv_at hl 1 rfl) ?_
        have hFc := free_all hD hS hA
        obtain ⟨k22, gk22, hk22⟩ := wGt (cy := cy) X S h_o1.1 h_o1.2.1
        refine va_callq (va_runV (As := [.int x1]) (rest := [.ref o1]) ⟨hx, hb, hml, hown, hts⟩ (c_X12_gearAt l (cy := cy) (X := X) (D := D) S _ o1 h_o1 x1 (hW) (by rw [f_of F4.1]; omega)) (cwV 1 hts gX12_part_X12_gearAt rfl rfl rfl hd_X12_gearAt ⟨Nat.le_of_ble_eq_true rfl, Nat.le_of_ble_eq_true rfl⟩) (pV (va_recv hK hP (q := (RX12, TX12, 34)) (ci := 16) (q0 := k22) rfl hk22) hP hK hD hN) rfl rfl hl.1 rfl (lv_room (Nat.le_of_ble_eq_true rfl)) dX12_part_41 ⟨(Nat.zero_le _), (Nat.zero_le _)⟩) hS (fun q _ h => hFc q h) hFc (fun r23 u t H1 locs ht hvm hw hB hz1 hk1 hS => ?_)
        obtain ⟨r23, rfl, c24, o25⟩ := hw
        obtain ⟨hP, hD⟩ := wd_post hFc ht hB
        generalize H1 = H at hP hS ⊢
        refine W.eq (g2 := F0 m 44 ls [.ref r23, .ref o1]) rfl ?_
        refine lv_iload_n hx hb dX12_part_44 rfl (lv_at hl 2 rfl) ?_
        have hFc := free_all hD hS hA
        obtain ⟨k26, gk26, hk26⟩ := wGt (cy := cy) X S o25.1 o25.2.1
        refine va_calli (va_runV (As := [.int x2]) (rest := [.ref o1]) ⟨hx, hb, hml, hown, hts⟩ (c_X10_part l (cy := cy) (X := X) (D := D) S _ r23 o25 x2 (hW) ⟨by omega, by have h9 := rem0_le (by omega) (by omega) c21; omega⟩) (cwV 1 hts gX12_part_X10_part rfl rfl rfl hd_X10_part ⟨Nat.le_of_ble_eq_true rfl, Nat.le_of_ble_eq_true rfl⟩) (pV (va_recv hK hP (q := (RX10, TX10, 23)) (ci := 14) (q0 := k26) rfl hk26) hP hK hD hN) rfl rfl hl.1 rfl (lv_room (Nat.le_of_ble_eq_true rfl)) dX12_part_45 ⟨(Nat.zero_le _), (Nat.zero_le _)⟩) hS (fun q _ h => hFc q h) hFc (fun r27 u t H1 locs ht hvm hw hB hz1 hk1 hS => ?_)
        clear hw
        obtain ⟨hP, hD⟩ := wd_post hFc ht hB
        generalize H1 = H at hP hS ⊢
        have hFc := free_all hD hS hA
        obtain ⟨k28, gk28, hk28⟩ := wGt (cy := cy) X S h_o1.1 h_o1.2.1
        refine va_calli (va_runV (As := [.int r27]) (rest := []) ⟨hx, hb, hml, hown, hts⟩ (c_X12_answer l (cy := cy) (X := X) (D := D) S _ o1 h_o1 r27 (hW)) (cwV 1 hts gX12_part_X12_answer rfl rfl rfl hd_X12_answer ⟨Nat.le_of_ble_eq_true rfl, Nat.le_of_ble_eq_true rfl⟩) (pV (va_recv hK hP (q := (RX12, TX12, 34)) (ci := 16) (q0 := k28) rfl hk28) hP hK hD hN) rfl rfl hl.1 rfl (lv_room (Nat.le_of_ble_eq_true rfl)) dX12_part_48 ⟨(Nat.zero_le _), (Nat.zero_le _)⟩) hS (fun q _ h => hFc q h) hFc (fun r29 u t H1 locs ht hvm hw hB hz1 hk1 hS => ?_)
        obtain ⟨c30, w31⟩ := hw
        obtain ⟨hP, hD⟩ := wd_post hFc ht hB
        generalize H1 = H at hP hS ⊢
        obtain ⟨S32, rfl⟩ : ∃ z, z = u := ⟨_, rfl⟩
        have t33 : stp [(12, 15)] [] [] S S32 := t0.tr w31 (by decide) (fun _ q => absurd q List.not_mem_nil)
        have xe34 : ext S S32 := w31.x
        refine W.widen (k := 0) (n := 0) (Nat.le_of_ble_eq_true rfl) (Nat.le_of_ble_eq_true rfl) ?_
        exact W.iret (v := r29) hx hb hr (fun t ht hW9 => ⟨⟨r29, S32, rfl, t33, wd_end hP hK hD ht hW9.alike⟩, hS.F ht⟩) hS.2.2 dX12_part_51 hlocks
      · have c21i : ¬ ((S.I r16 1) - (S.I r16 1) / x2 * x2).toInt = 0 := neq_v rfl rfl c21
        refine lv_aload_n hx hb dX12_part_32 rfl (lv_at hl 0 rfl) ?_
        refine lv_iconst (v := 2) hx hb dX12_part_33 (by decide) ?_
        have l32_2 : (2 : Int32).toInt = 2 := rfl
        have hFc := free_all hD hS hA
        obtain ⟨k35, gk35, hk35⟩ := wGt (cy := cy) X S h_o1.1 h_o1.2.1
        refine va_calli (va_runV (As := [.int (2 : Int32)]) (rest := []) ⟨hx, hb, hml, hown, hts⟩ (c_X12_fails l (cy := cy) (X := X) (D := D) S _ o1 h_o1 (2 : Int32) (hW)) (cwV 1 hts gX12_part_X12_fails rfl rfl rfl hd_X12_fails ⟨Nat.le_of_ble_eq_true rfl, Nat.le_of_ble_eq_true rfl⟩) (pV (va_recv hK hP (q := (RX12, TX12, 34)) (ci := 16) (q0 := k35) rfl hk35) hP hK hD hN) rfl rfl hl.1 rfl (lv_room (Nat.le_of_ble_eq_true rfl)) dX12_part_34 ⟨(Nat.zero_le _), (Nat.zero_le _)⟩) hS (fun q _ h => hFc q h) hFc (fun r36 u t H1 locs ht hvm hw hB hz1 hk1 hS => ?_)
        obtain ⟨c37, w38⟩ := hw
        obtain ⟨hP, hD⟩ := wd_post hFc ht hB
        generalize H1 = H at hP hS ⊢
        obtain ⟨S39, rfl⟩ : ∃ z, z = u := ⟨_, rfl⟩
        have t40 : stp [(12, 15)] [] [] S S39 := t0.tr w38 (by decide) (fun _ q => absurd q List.not_mem_nil)
        have xe41 : ext S S39 := w38.x
        refine W.widen (k := 0) (n := 0) (Nat.le_of_ble_eq_true rfl) (Nat.le_of_ble_eq_true rfl) ?_
        exact W.iret (v := r36) hx hb hr (fun t ht hW9 => ⟨⟨r36, S39, rfl, t40, wd_end hP hK hD ht hW9.alike⟩, hS.F ht⟩) hS.2.2 dX12_part_37 hlocks
  · have c6i : (f_X12_isGear S o1 x1).toInt = 0 := eq_v rfl rfl c6
    refine lv_aload_n hx hb dX12_part_8 rfl (lv_at hl 0 rfl) ?_
    refine lv_iconst (v := 1) hx hb dX12_part_9 (by decide) ?_
    have l32_1 : (1 : Int32).toInt = 1 := rfl
    have hFc := free_all hD hS hA
    obtain ⟨k42, gk42, hk42⟩ := wGt (cy := cy) X S h_o1.1 h_o1.2.1
    refine va_calli (va_runV (As := [.int (1 : Int32)]) (rest := []) ⟨hx, hb, hml, hown, hts⟩ (c_X12_fails l (cy := cy) (X := X) (D := D) S _ o1 h_o1 (1 : Int32) (hW)) (cwV 1 hts gX12_part_X12_fails rfl rfl rfl hd_X12_fails ⟨Nat.le_of_ble_eq_true rfl, Nat.le_of_ble_eq_true rfl⟩) (pV (va_recv hK hP (q := (RX12, TX12, 34)) (ci := 16) (q0 := k42) rfl hk42) hP hK hD hN) rfl rfl hl.1 rfl (lv_room (Nat.le_of_ble_eq_true rfl)) dX12_part_10 ⟨(Nat.zero_le _), (Nat.zero_le _)⟩) hS (fun q _ h => hFc q h) hFc (fun r43 u t H1 locs ht hvm hw hB hz1 hk1 hS => ?_)
    obtain ⟨c44, w45⟩ := hw
    obtain ⟨hP, hD⟩ := wd_post hFc ht hB
    generalize H1 = H at hP hS ⊢
    obtain ⟨S46, rfl⟩ : ∃ z, z = u := ⟨_, rfl⟩
    have t47 : stp [(12, 15)] [] [] S S46 := t0.tr w45 (by decide) (fun _ q => absurd q List.not_mem_nil)
    have xe48 : ext S S46 := w45.x
    refine W.widen (k := 0) (n := 0) (Nat.le_of_ble_eq_true rfl) (Nat.le_of_ble_eq_true rfl) ?_
    exact W.iret (v := r43) hx hb hr (fun t ht hW9 => ⟨⟨r43, S46, rfl, t47, wd_end hP hK hD ht hW9.alike⟩, hS.F ht⟩) hS.2.2 dX12_part_13 hlocks
theorem hi_X12_cause_X10 : ∀ w ∈ u_ws RX10 TX10 23, w ∈ wsX12_cause := by decide +kernel
theorem hi_X12_cause_X12 : ∀ w ∈ u_ws RX12 TX12 34, w ∈ wsX12_cause := by decide +kernel
theorem hd_X12_cause : yX12_cause.cls = RX12 ∧ yX12_cause.cls ≠ "java/lang/invoke/MethodHandle" ∧ yX12_cause.cls ≠ "java/lang/invoke/VarHandle" ∧ (parseMethodDescriptor yX12_cause.desc).map (fun d => d.parameters.length) = some 1 := by decide +kernel
set_option maxHeartbeats 4000000 in
set_option maxRecDepth 100000 in
theorem c_X12_cause (l : Launch) {D : va_G} {cy : Nat → ClassId} {X : va_W} (S : wPS) (sz : Nat) (o1 : Nat) (h_o1 : isA S o1 12) (x1 : Int32) (hW : wtB S [])  : Met l yX12_cause wsX12_cause ({ frames := 17, cells := 0, slots := 0, locals := 357 }) (va_Pc [.ref o1, .int x1] (fun U => U.heap.size = sz ∧ WD D cy X (fun _ => True) S U ∧ NW U)) (va_Qi (fun r (u : wPS) => stp [(12, 15)] [] [] S u ∧ narrow .char (.int r) = .int r) (fun u t => WD D cy X (va_A (X ++ PL cy S) sz) u t) (va_A (X ++ PL cy S) sz)) 0 0 (va_A (X ++ PL cy S) sz) := by
  refine Met.ofW (cc := cX12_cause) (maxL := 7) (ret := (some .char)) (by decide) rfl ?_
  intro p e s m args below meth c s₁ B hml hv
  obtain ⟨rfl, hsz, ⟨hP, hK, hD0⟩, hN⟩ := hv
  have hx := B.exec
  have hb := B.bytes
  have hr := B.returns
  have hts := atoms_spec (ws := wsX12_cause) B.pre
  have hown : s.vm.findClass RX12 = some m.cls := findClass_of_methodNamed (x := yX12_cause) B.named
  have hlocks := B.notSynchronized
  subst hsz
  have hD := hD0.self (sz := s.heap.size)
  generalize hAe : va_A (X ++ PL cy S) s.heap.size = A at hD ⊢
  have hA : ∀ q : Nat, s.heap.size ≤ q → A q := fun q h => by rw [← hAe]; exact Or.inr h
  have hS : va_S A s.heap s.heap [] := va_S.rf
  have hl := lv_entry ([.ref o1, .int x1]) (n := 7) (Nat.le_of_ble_eq_true rfl)
  rw [lg_entry_eq]
  generalize (lg_sl ([.ref o1, .int x1]) ++ List.replicate (7 - (lg_sl ([.ref o1, .int x1])).length) Slot.unset).toArray = ls at hl ⊢
  have hl : lv_has ls 7 [(0, .ref o1), (1, .int x1)] := hl
  have t0 : stp [(12, 15)] [] [] S S := stp.rf hW
  have F1 := ((hW.at h_o1 List.not_mem_nil).to_12 h_o1.2.1).F0
  refine lv_aload_n hx hb dX12_cause_0 rfl (lv_at hl 0 rfl) ?_
  refine lv_aload_n hx hb dX12_cause_1 rfl (lv_at hl 0 rfl) ?_
  refine lv_iload_n hx hb dX12_cause_2 rfl (lv_at hl 1 rfl) ?_
  have hFc := free_all hD hS hA
  obtain ⟨k2, gk2, hk2⟩ := wGt (cy := cy) X S h_o1.1 h_o1.2.1
  refine va_calli (va_runV (As := [.int x1]) (rest := [.ref o1]) ⟨hx, hb, hml, hown, hts⟩ (c_X12_isGear l (cy := cy) (X := X) (D := D) S _ o1 h_o1 x1 (hW)) (cwV 1 hts gX12_cause_X12_isGear rfl rfl rfl hd_X12_isGear ⟨Nat.le_of_ble_eq_true rfl, Nat.le_of_ble_eq_true rfl⟩) (pV (va_recv hK hP (q := (RX12, TX12, 34)) (ci := 16) (q0 := k2) rfl hk2) hP hK hD hN) rfl rfl hl.1 rfl (lv_room (Nat.le_of_ble_eq_true rfl)) dX12_cause_3 ⟨(Nat.zero_le _), (Nat.zero_le _)⟩) hS (fun q _ h => hFc q h) hFc (fun r3 u t H1 locs ht hvm hw hB hz1 hk1 hS => ?_)
  have c4 := hw
  obtain ⟨hP, hD⟩ := wd_post hFc ht hB
  generalize H1 = H at hP hS ⊢
  obtain rfl : f_X12_isGear S o1 x1 = r3 := c4.symm
  have i5 : (f_X12_isGear S o1 x1).toInt = 0 ∨ (0 ≤ x1.toInt ∧ x1.toInt < (S.I (S.f o1 0) 2).toInt) := by have h9 := ig_rng x1 ((hW.at h_o1 List.not_mem_nil).to_12 h_o1.2.1) hW; rw [f_of F1.1] at h9; exact h9
  refine lv_if_eq (tgt := 13) hx hb dX12_cause_6 (by decide) (fun c6 => ?_) (fun c6 => ?_)
  · have c6i : (f_X12_isGear S o1 x1).toInt = 0 := eq_v rfl rfl c6
    refine lv_iconst (v := 1) hx hb dX12_cause_13 (by decide) ?_
    obtain ⟨k7, gk7, hk7⟩ := wGt (cy := cy) X S h_o1.1 h_o1.2.1
    refine va_put (D := D) (ci := 16) (v := .int (1 : Int32)) (ty := .int) (C := RX12) (T := TX12) (N := 34) hx hb hts hi_X12_cause_X12 tyX12 tyX12_ok nmX12 hown hK hP hD hS k7 hk7 rfl 15 (by decide) (hts (.fieldLink RX12 94 "HobhouseModel" "thrown" "I") (by decide +kernel)) (fun _ h9 => h9) rfl (by decide +kernel) (rfl) (rfl) (Nat.le_of_ble_eq_true rfl) dX12_cause_14 (fun H locs hP2 hD2 hS => ?_)
    have e9 := wPuI (cy := cy) (j := 15) (v := (1 : Int32)) hD h_o1.1 h_o1.2.1 gk7 rfl
    obtain ⟨S8, hS8⟩ : ∃ z, S.sI o1 15 (1 : Int32) = z := ⟨_, rfl⟩
    have hP : va_P D vwCl (X ++ PL cy S8) H := by rw [← hS8, ← e9]; exact hP2
    have hD : va_D A (X ++ PL cy S8) := by rw [← hS8, ← e9]; exact hD2
    have xe9 : ext S S8 := by rw [← hS8]; exact ext.sI _ _ _ _
    have t10 : stp [(12, 15)] [] [] S S8 := by rw [← hS8]; exact t0.I 15 (1 : Int32) h_o1 (by decide) (trivial) (Or.inl (by decide))
    have k11 : (S8.I (S.f o1 0) 2).toInt = (S.I (S.f o1 0) 2).toInt := by rw [← hS8]; exact congrArg Int32.toInt (sI_I (by rintro ⟨e1, e2⟩; exact absurd e2 (by decide)))
    have k12 : (S8.I o1 15).toInt = (1 : Int32).toInt := by rw [← hS8, sI_eq]
    refine lv_aload_n hx hb dX12_cause_17 rfl (lv_at hl 0 rfl) ?_
    have l0 : (0 : Int32).toInt = 0 := rfl
    have l1 : (1 : Int32).toInt = 1 := rfl
    obtain ⟨k13, gk13, hk13⟩ := wGt (cy := cy) X S8 (xe9.A h_o1).1 (xe9.A h_o1).2.1
    refine va_get (D := D) (ci := 16) (v := .int (S8.I o1 15)) (C := RX12) (T := TX12) (N := 34) hx hb hts hi_X12_cause_X12 hown hK hP k13 hk13 rfl 15 (by decide) (hts (.fieldLink RX12 94 "HobhouseModel" "thrown" "I") (by decide +kernel)) (fun _ h9 => h9) rfl dX12_cause_18 ?_
    refine lv_if_le (tgt := 26) hx hb dX12_cause_21 (by decide) (fun c14 => ?_) (fun c14 => ?_)
    · have c14i : (S8.I o1 15).toInt ≤ 0 := le_v rfl rfl c14
      refine lv_aload_n hx hb dX12_cause_26 rfl (lv_at hl 0 rfl) ?_
      refine lv_iload_n hx hb dX12_cause_27 rfl (lv_at hl 1 rfl) ?_
      have hFc := free_all hD hS hA
      obtain ⟨k15, gk15, hk15⟩ := wGt (cy := cy) X S8 (xe9.A h_o1).1 (xe9.A h_o1).2.1
      refine va_callq (va_runV (As := [.int x1]) (rest := []) ⟨hx, hb, hml, hown, hts⟩ (c_X12_gearAt l (cy := cy) (X := X) (D := D) S8 _ o1 (xe9.A h_o1) x1 (t10.w) (by rw [f_of (xe9.F h_o1 (by decide) F1.1)]; omega)) (cwV 1 hts gX12_cause_X12_gearAt rfl rfl rfl hd_X12_gearAt ⟨Nat.le_of_ble_eq_true rfl, Nat.le_of_ble_eq_true rfl⟩) (pV (va_recv hK hP (q := (RX12, TX12, 34)) (ci := 16) (q0 := k15) rfl hk15) hP hK hD hN) rfl rfl hl.1 rfl (lv_room (Nat.le_of_ble_eq_true rfl)) dX12_cause_28 ⟨(Nat.zero_le _), (Nat.zero_le _)⟩) hS (fun q _ h => hFc q h) hFc (fun r16 u t H1 locs ht hvm hw hB hz1 hk1 hS => ?_)
      obtain ⟨r16, rfl, c17, o18⟩ := hw
      obtain ⟨hP, hD⟩ := wd_post hFc ht hB
      generalize H1 = H at hP hS ⊢
      refine W.eq (g2 := F0 m 31 ls [.ref r16]) rfl ?_
      refine lv_astore_n (lv' := [(2, .ref r16), (0, .ref o1), (1, .int x1)]) hx hb dX12_cause_31 rfl hl (by decide) rfl (fun ls hl => ?_)
      refine lv_aload_n hx hb dX12_cause_32 rfl (lv_at hl 0 rfl) ?_
      refine lv_aload_n hx hb dX12_cause_33 rfl (lv_at hl 0 rfl) ?_
      obtain ⟨k19, gk19, hk19⟩ := wGt (cy := cy) X S8 o18.1 o18.2.1
      have i20 := ((t10.w.at o18 List.not_mem_nil).to_10 o18.2.1).R1
      refine va_getN (D := D) (ci := 14) (v := .int (S8.I r16 1)) (C := RX10) (T := TX10) (N := 23) hx hb hts hi_X12_cause_X10 hown hK hP k19 hk19 rfl 1 (by decide) (va_Nw.use rfl (hN (.fieldLinkNest RX12 332 "HobhouseModel$Gear" "teeth" "I" "HobhouseModel") (by decide +kernel))) (fun _ h9 => h9) rfl dX12_cause_34 ?_
      refine lv_aload_n hx hb dX12_cause_37 rfl (lv_at hl 1 rfl) ?_
      obtain ⟨k21, gk21, hk21⟩ := wGt (cy := cy) X S8 (xe9.A h_o1).1 (xe9.A h_o1).2.1
      have i22 := ((t10.w.at (xe9.A h_o1) List.not_mem_nil).to_12 (xe9.A h_o1).2.1).R18
      refine va_get (D := D) (ci := 16) (v := .int (S8.I o1 18)) (C := RX12) (T := TX12) (N := 34) hx hb hts hi_X12_cause_X12 hown hK hP k21 hk21 rfl 18 (by decide) (hts (.fieldLink RX12 76 "HobhouseModel" "wheelTeeth" "I") (by decide +kernel)) (fun _ h9 => h9) rfl dX12_cause_38 ?_
      have hFc := free_all hD hS hA
      refine va_calli (va_runS (As := [.int (S8.I r16 1), .int (S8.I o1 18)]) (rest := [.ref r16]) ⟨hx, hb, hml, hown, hts⟩ (c_X12_divisor_e8 l (cy := cy) (X := X) (D := D) S8 _ (S8.I r16 1) (S8.I o1 18) (by omega) (by omega) (by omega) (by omega)) (cwS 2 hts gX12_cause_X12_divisor rfl rfl rfl hd_X12_divisor ⟨Nat.le_of_ble_eq_true rfl, Nat.le_of_ble_eq_true rfl⟩) (pS hP hK hD hN) rfl rfl hl.1 rfl (lv_room (Nat.le_of_ble_eq_true rfl)) dX12_cause_41 ⟨(Nat.zero_le _), (Nat.zero_le _)⟩) hS (fun q _ h => hFc q h) hFc (fun r23 u t H1 locs ht hvm hw hB hz1 hk1 hS => ?_)
      obtain ⟨c24, y25⟩ := hw
      obtain ⟨hP, hD⟩ := wd_post hFc ht hB
      generalize H1 = H at hP hS ⊢
      obtain rfl : f_X12_divisor_e8 (S8.I r16 1) (S8.I o1 18) = r23 := c24.symm
      have hFc := free_all hD hS hA
      obtain ⟨k26, gk26, hk26⟩ := wGt (cy := cy) X S8 o18.1 o18.2.1
      refine va_calli (va_runV (As := [.int (f_X12_divisor_e8 (S8.I r16 1) (S8.I o1 18))]) (rest := []) ⟨hx, hb, hml, hown, hts⟩ (c_X10_part l (cy := cy) (X := X) (D := D) S8 _ r16 o18 (f_X12_divisor_e8 (S8.I r16 1) (S8.I o1 18)) (t10.w) (by omega)) (cwV 1 hts gX12_cause_X10_part rfl rfl rfl hd_X10_part ⟨Nat.le_of_ble_eq_true rfl, Nat.le_of_ble_eq_true rfl⟩) (pV (va_recv hK hP (q := (RX10, TX10, 23)) (ci := 14) (q0 := k26) rfl hk26) hP hK hD hN) rfl rfl hl.1 rfl (lv_room (Nat.le_of_ble_eq_true rfl)) dX12_cause_44 ⟨(Nat.zero_le _), (Nat.zero_le _)⟩) hS (fun q _ h => hFc q h) hFc (fun r27 u t H1 locs ht hvm hw hB hz1 hk1 hS => ?_)
      clear hw
      obtain ⟨hP, hD⟩ := wd_post hFc ht hB
      generalize H1 = H at hP hS ⊢
      refine lv_istore_n (lv' := [(3, .int r27), (2, .ref r16), (0, .ref o1), (1, .int x1)]) hx hb dX12_cause_47 rfl hl (by decide) rfl (fun ls hl => ?_)
      refine lv_aload_n hx hb dX12_cause_48 rfl (lv_at hl 1 rfl) ?_
      refine lv_aload_n hx hb dX12_cause_49 rfl (lv_at hl 1 rfl) ?_
      obtain ⟨k28, gk28, hk28⟩ := wGt (cy := cy) X S8 o18.1 o18.2.1
      refine va_getN (D := D) (ci := 14) (v := .int (S8.I r16 11)) (C := RX10) (T := TX10) (N := 23) hx hb hts hi_X12_cause_X10 hown hK hP k28 hk28 rfl 11 (by decide) (va_Nw.use rfl (hN (.fieldLinkNest RX12 365 "HobhouseModel$Gear" "starts" "I" "HobhouseModel") (by decide +kernel))) (fun _ h9 => h9) rfl dX12_cause_50 ?_
      have hFc := free_all hD hS hA
      obtain ⟨k29, gk29, hk29⟩ := wGt (cy := cy) X S8 o18.1 o18.2.1
      refine va_calli (va_runV (As := [.int (S8.I r16 11)]) (rest := []) ⟨hx, hb, hml, hown, hts⟩ (c_X10_partOrNone l (cy := cy) (X := X) (D := D) S8 _ r16 o18 (S8.I r16 11) (t10.w)) (cwV 1 hts gX12_cause_X10_partOrNone rfl rfl rfl hd_X10_partOrNone ⟨Nat.le_of_ble_eq_true rfl, Nat.le_of_ble_eq_true rfl⟩) (pV (va_recv hK hP (q := (RX10, TX10, 23)) (ci := 14) (q0 := k29) rfl hk29) hP hK hD hN) rfl rfl hl.1 rfl (lv_room (Nat.le_of_ble_eq_true rfl)) dX12_cause_53 ⟨(Nat.zero_le _), (Nat.zero_le _)⟩) hS (fun q _ h => hFc q h) hFc (fun r30 u t H1 locs ht hvm hw hB hz1 hk1 hS => ?_)
      clear hw
      obtain ⟨hP, hD⟩ := wd_post hFc ht hB
      generalize H1 = H at hP hS ⊢
      refine lv_istore (lv' := [(4, .int r30), (3, .int r27), (2, .ref r16), (0, .ref o1), (1, .int x1)]) hx hb dX12_cause_56 hl (by decide) rfl (fun ls hl => ?_)
      refine lv_aload_n hx hb dX12_cause_58 rfl (lv_at hl 2 rfl) ?_
      have hFc := free_all hD hS hA
      obtain ⟨k31, gk31, hk31⟩ := wGt (cy := cy) X S8 o18.1 o18.2.1
      refine va_calli (va_runV (As := []) (rest := []) ⟨hx, hb, hml, hown, hts⟩ (c_X10_total l (cy := cy) (X := X) (D := D) S8 _ r16 o18 (t10.w)) (cwV 0 hts gX12_cause_X10_total rfl rfl rfl hd_X10_total ⟨Nat.le_of_ble_eq_true rfl, Nat.le_of_ble_eq_true rfl⟩) (pV (va_recv hK hP (q := (RX10, TX10, 23)) (ci := 14) (q0 := k31) rfl hk31) hP hK hD hN) rfl rfl hl.1 rfl (lv_room (Nat.le_of_ble_eq_true rfl)) dX12_cause_59 ⟨(Nat.zero_le _), (Nat.zero_le _)⟩) hS (fun q _ h => hFc q h) hFc (fun r32 u t H1 locs ht hvm hw hB hz1 hk1 hS => ?_)
      clear hw
      obtain ⟨hP, hD⟩ := wd_post hFc ht hB
      generalize H1 = H at hP hS ⊢
      refine lv_istore (lv' := [(5, .int r32), (4, .int r30), (3, .int r27), (2, .ref r16), (0, .ref o1), (1, .int x1)]) hx hb dX12_cause_62 hl (by decide) rfl (fun ls hl => ?_)
      refine lv_iload_n hx hb dX12_cause_64 rfl (lv_at hl 2 rfl) ?_
      refine lv_iload hx hb dX12_cause_65 (lv_at hl 1 rfl) ?_
      refine lv_iload hx hb dX12_cause_67 (lv_at hl 0 rfl) ?_
      refine va_mmax hx hb (hml.trans hl.1.symm) hown (hts (.methodLink RX12 418 Lib.Math.max.name) (by decide +kernel)) (hts (.static Lib.Math.max.name) (by decide +kernel)) (hts (.initialized "java/lang/Math") (by decide +kernel)) (hts (.code Lib.Math.max.name Lib.Math.max.code 2 (some .int)) (by decide +kernel)) (Nat.le_of_ble_eq_true rfl) (Nat.le_of_ble_eq_true rfl) (Nat.zero_le _) (Nat.zero_le _) dX12_cause_69 ?_
      refine va_mmax hx hb (hml.trans hl.1.symm) hown (hts (.methodLink RX12 418 Lib.Math.max.name) (by decide +kernel)) (hts (.static Lib.Math.max.name) (by decide +kernel)) (hts (.initialized "java/lang/Math") (by decide +kernel)) (hts (.code Lib.Math.max.name Lib.Math.max.code 2 (some .int)) (by decide +kernel)) (Nat.le_of_ble_eq_true rfl) (Nat.le_of_ble_eq_true rfl) (Nat.zero_le _) (Nat.zero_le _) dX12_cause_72 ?_
      refine lv_istore (lv' := [(6, .int (if r27 < (if r30 < r32 then r32 else r30) then (if r30 < r32 then r32 else r30) else r27)), (5, .int r32), (4, .int r30), (3, .int r27), (2, .ref r16), (0, .ref o1), (1, .int x1)]) hx hb dX12_cause_75 hl (by decide) rfl (fun ls hl => ?_)
      refine lv_iload hx hb dX12_cause_77 (lv_at hl 0 rfl) ?_
      refine lv_if_ne (tgt := 87) hx hb dX12_cause_79 (by decide) (fun c33 => ?_) (fun c33 => ?_)
      · have c33i : ¬ (if r27 < (if r30 < r32 then r32 else r30) then (if r30 < r32 then r32 else r30) else r27).toInt = 0 := neq_v rfl rfl c33
        refine lv_iload_n hx hb dX12_cause_87 rfl (lv_at hl 3 rfl) ?_
        refine lv_iload hx hb dX12_cause_88 (lv_at hl 0 rfl) ?_
        refine lv_icmp_ne (tgt := 98) hx hb dX12_cause_90 (by decide) (fun c34 => ?_) (fun c34 => ?_)
        · have c34i : ¬ r27.toInt = (if r27 < (if r30 < r32 then r32 else r30) then (if r30 < r32 then r32 else r30) else r27).toInt := neq_v rfl rfl c34
          refine lv_iload hx hb dX12_cause_98 (lv_at hl 2 rfl) ?_
          refine lv_iload hx hb dX12_cause_100 (lv_at hl 0 rfl) ?_
          refine lv_icmp_ne (tgt := 110) hx hb dX12_cause_102 (by decide) (fun c35 => ?_) (fun c35 => ?_)
          · have c35i : ¬ r30.toInt = (if r27 < (if r30 < r32 then r32 else r30) then (if r30 < r32 then r32 else r30) else r27).toInt := neq_v rfl rfl c35
            refine lv_bipush (v := 115) hx hb dX12_cause_110 (by decide +kernel) ?_
            refine W.widen (k := 0) (n := 0) (Nat.le_of_ble_eq_true rfl) (Nat.le_of_ble_eq_true rfl) ?_
            exact W.zret (v := (115 : Int32)) hx hb hr (by rfl) (fun t ht hW9 => ⟨⟨(115 : Int32), S8, rfl, ⟨t10, (by rfl)⟩, wd_end hP hK hD ht hW9.alike⟩, hS.F ht⟩) hS.2.2 dX12_cause_112 hlocks
          · have c35i : r30.toInt = (if r27 < (if r30 < r32 then r32 else r30) then (if r30 < r32 then r32 else r30) else r27).toInt := eq_v rfl rfl c35
            refine lv_bipush (v := 116) hx hb dX12_cause_105 (by decide +kernel) ?_
            refine lv_goto (tgt := 112) hx hb dX12_cause_107 (by decide) ?_
            refine W.widen (k := 0) (n := 0) (Nat.le_of_ble_eq_true rfl) (Nat.le_of_ble_eq_true rfl) ?_
            exact W.zret (v := (116 : Int32)) hx hb hr (by rfl) (fun t ht hW9 => ⟨⟨(116 : Int32), S8, rfl, ⟨t10, (by rfl)⟩, wd_end hP hK hD ht hW9.alike⟩, hS.F ht⟩) hS.2.2 dX12_cause_112 hlocks
        · have c34i : r27.toInt = (if r27 < (if r30 < r32 then r32 else r30) then (if r30 < r32 then r32 else r30) else r27).toInt := eq_v rfl rfl c34
          refine lv_bipush (v := 109) hx hb dX12_cause_93 (by decide +kernel) ?_
          refine lv_goto (tgt := 112) hx hb dX12_cause_95 (by decide) ?_
          refine W.widen (k := 0) (n := 0) (Nat.le_of_ble_eq_true rfl) (Nat.le_of_ble_eq_true rfl) ?_
          exact W.zret (v := (109 : Int32)) hx hb hr (by rfl) (fun t ht hW9 => ⟨⟨(109 : Int32), S8, rfl, ⟨t10, (by rfl)⟩, wd_end hP hK hD ht hW9.alike⟩, hS.F ht⟩) hS.2.2 dX12_cause_112 hlocks
      · have c33i : (if r27 < (if r30 < r32 then r32 else r30) then (if r30 < r32 then r32 else r30) else r27).toInt = 0 := eq_v rfl rfl c33
        refine lv_bipush (v := 110) hx hb dX12_cause_82 (by decide +kernel) ?_
        refine lv_goto (tgt := 112) hx hb dX12_cause_84 (by decide) ?_
        refine W.widen (k := 0) (n := 0) (Nat.le_of_ble_eq_true rfl) (Nat.le_of_ble_eq_true rfl) ?_
        exact W.zret (v := (110 : Int32)) hx hb hr (by rfl) (fun t ht hW9 => ⟨⟨(110 : Int32), S8, rfl, ⟨t10, (by rfl)⟩, wd_end hP hK hD ht hW9.alike⟩, hS.F ht⟩) hS.2.2 dX12_cause_112 hlocks
    · have c14i : 0 < (S8.I o1 15).toInt := nle_v rfl rfl c14
      refine lv_iconst (v := 0) hx hb dX12_cause_24 (by decide) ?_
      refine W.widen (k := 0) (n := 0) (Nat.le_of_ble_eq_true rfl) (Nat.le_of_ble_eq_true rfl) ?_
      exact W.zret (v := (0 : Int32)) hx hb hr (by rfl) (fun t ht hW9 => ⟨⟨(0 : Int32), S8, rfl, ⟨t10, (by rfl)⟩, wd_end hP hK hD ht hW9.alike⟩, hS.F ht⟩) hS.2.2 dX12_cause_25 hlocks
  · have c6i : ¬ (f_X12_isGear S o1 x1).toInt = 0 := neq_v rfl rfl c6
    refine lv_iconst (v := 0) hx hb dX12_cause_9 (by decide) ?_
    refine lv_goto (tgt := 14) hx hb dX12_cause_10 (by decide) ?_
    obtain ⟨k36, gk36, hk36⟩ := wGt (cy := cy) X S h_o1.1 h_o1.2.1
    refine va_put (D := D) (ci := 16) (v := .int (0 : Int32)) (ty := .int) (C := RX12) (T := TX12) (N := 34) hx hb hts hi_X12_cause_X12 tyX12 tyX12_ok nmX12 hown hK hP hD hS k36 hk36 rfl 15 (by decide) (hts (.fieldLink RX12 94 "HobhouseModel" "thrown" "I") (by decide +kernel)) (fun _ h9 => h9) rfl (by decide +kernel) (rfl) (rfl) (Nat.le_of_ble_eq_true rfl) dX12_cause_14 (fun H locs hP2 hD2 hS => ?_)
    have e9 := wPuI (cy := cy) (j := 15) (v := (0 : Int32)) hD h_o1.1 h_o1.2.1 gk36 rfl
    obtain ⟨S37, hS37⟩ : ∃ z, S.sI o1 15 (0 : Int32) = z := ⟨_, rfl⟩
    have hP : va_P D vwCl (X ++ PL cy S37) H := by rw [← hS37, ← e9]; exact hP2
    have hD : va_D A (X ++ PL cy S37) := by rw [← hS37, ← e9]; exact hD2
    have xe38 : ext S S37 := by rw [← hS37]; exact ext.sI _ _ _ _
    have t39 : stp [(12, 15)] [] [] S S37 := by rw [← hS37]; exact t0.I 15 (0 : Int32) h_o1 (by decide) (trivial) (Or.inl (by decide))
    have k40 : (S37.I (S.f o1 0) 2).toInt = (S.I (S.f o1 0) 2).toInt := by rw [← hS37]; exact congrArg Int32.toInt (sI_I (by rintro ⟨e1, e2⟩; exact absurd e2 (by decide)))
    have k41 : (S37.I o1 15).toInt = (0 : Int32).toInt := by rw [← hS37, sI_eq]
    refine lv_aload_n hx hb dX12_cause_17 rfl (lv_at hl 0 rfl) ?_
    have l0 : (0 : Int32).toInt = 0 := rfl
    have l1 : (1 : Int32).toInt = 1 := rfl
    obtain ⟨k42, gk42, hk42⟩ := wGt (cy := cy) X S37 (xe38.A h_o1).1 (xe38.A h_o1).2.1
    refine va_get (D := D) (ci := 16) (v := .int (S37.I o1 15)) (C := RX12) (T := TX12) (N := 34) hx hb hts hi_X12_cause_X12 hown hK hP k42 hk42 rfl 15 (by decide) (hts (.fieldLink RX12 94 "HobhouseModel" "thrown" "I") (by decide +kernel)) (fun _ h9 => h9) rfl dX12_cause_18 ?_
    refine lv_if_le (tgt := 26) hx hb dX12_cause_21 (by decide) (fun c43 => ?_) (fun c43 => ?_)
    · have c43i : (S37.I o1 15).toInt ≤ 0 := le_v rfl rfl c43
      refine lv_aload_n hx hb dX12_cause_26 rfl (lv_at hl 0 rfl) ?_
      refine lv_iload_n hx hb dX12_cause_27 rfl (lv_at hl 1 rfl) ?_
      have hFc := free_all hD hS hA
      obtain ⟨k44, gk44, hk44⟩ := wGt (cy := cy) X S37 (xe38.A h_o1).1 (xe38.A h_o1).2.1
      refine va_callq (va_runV (As := [.int x1]) (rest := []) ⟨hx, hb, hml, hown, hts⟩ (c_X12_gearAt l (cy := cy) (X := X) (D := D) S37 _ o1 (xe38.A h_o1) x1 (t39.w) (by rw [f_of (xe38.F h_o1 (by decide) F1.1)]; omega)) (cwV 1 hts gX12_cause_X12_gearAt rfl rfl rfl hd_X12_gearAt ⟨Nat.le_of_ble_eq_true rfl, Nat.le_of_ble_eq_true rfl⟩) (pV (va_recv hK hP (q := (RX12, TX12, 34)) (ci := 16) (q0 := k44) rfl hk44) hP hK hD hN) rfl rfl hl.1 rfl (lv_room (Nat.le_of_ble_eq_true rfl)) dX12_cause_28 ⟨(Nat.zero_le _), (Nat.zero_le _)⟩) hS (fun q _ h => hFc q h) hFc (fun r45 u t H1 locs ht hvm hw hB hz1 hk1 hS => ?_)
      obtain ⟨r45, rfl, c46, o47⟩ := hw
      obtain ⟨hP, hD⟩ := wd_post hFc ht hB
      generalize H1 = H at hP hS ⊢
      refine W.eq (g2 := F0 m 31 ls [.ref r45]) rfl ?_
      refine lv_astore_n (lv' := [(2, .ref r45), (0, .ref o1), (1, .int x1)]) hx hb dX12_cause_31 rfl hl (by decide) rfl (fun ls hl => ?_)
      refine lv_aload_n hx hb dX12_cause_32 rfl (lv_at hl 0 rfl) ?_
      refine lv_aload_n hx hb dX12_cause_33 rfl (lv_at hl 0 rfl) ?_
      obtain ⟨k48, gk48, hk48⟩ := wGt (cy := cy) X S37 o47.1 o47.2.1
      have i49 := ((t39.w.at o47 List.not_mem_nil).to_10 o47.2.1).R1
      refine va_getN (D := D) (ci := 14) (v := .int (S37.I r45 1)) (C := RX10) (T := TX10) (N := 23) hx hb hts hi_X12_cause_X10 hown hK hP k48 hk48 rfl 1 (by decide) (va_Nw.use rfl (hN (.fieldLinkNest RX12 332 "HobhouseModel$Gear" "teeth" "I" "HobhouseModel") (by decide +kernel))) (fun _ h9 => h9) rfl dX12_cause_34 ?_
      refine lv_aload_n hx hb dX12_cause_37 rfl (lv_at hl 1 rfl) ?_
      obtain ⟨k50, gk50, hk50⟩ := wGt (cy := cy) X S37 (xe38.A h_o1).1 (xe38.A h_o1).2.1
      have i51 := ((t39.w.at (xe38.A h_o1) List.not_mem_nil).to_12 (xe38.A h_o1).2.1).R18
      refine va_get (D := D) (ci := 16) (v := .int (S37.I o1 18)) (C := RX12) (T := TX12) (N := 34) hx hb hts hi_X12_cause_X12 hown hK hP k50 hk50 rfl 18 (by decide) (hts (.fieldLink RX12 76 "HobhouseModel" "wheelTeeth" "I") (by decide +kernel)) (fun _ h9 => h9) rfl dX12_cause_38 ?_
      have hFc := free_all hD hS hA
      refine va_calli (va_runS (As := [.int (S37.I r45 1), .int (S37.I o1 18)]) (rest := [.ref r45]) ⟨hx, hb, hml, hown, hts⟩ (c_X12_divisor_e8 l (cy := cy) (X := X) (D := D) S37 _ (S37.I r45 1) (S37.I o1 18) (by omega) (by omega) (by omega) (by omega)) (cwS 2 hts gX12_cause_X12_divisor rfl rfl rfl hd_X12_divisor ⟨Nat.le_of_ble_eq_true rfl, Nat.le_of_ble_eq_true rfl⟩) (pS hP hK hD hN) rfl rfl hl.1 rfl (lv_room (Nat.le_of_ble_eq_true rfl)) dX12_cause_41 ⟨(Nat.zero_le _), (Nat.zero_le _)⟩) hS (fun q _ h => hFc q h) hFc (fun r52 u t H1 locs ht hvm hw hB hz1 hk1 hS => ?_)
      obtain ⟨c53, y54⟩ := hw
      obtain ⟨hP, hD⟩ := wd_post hFc ht hB
      generalize H1 = H at hP hS ⊢
      obtain rfl : f_X12_divisor_e8 (S37.I r45 1) (S37.I o1 18) = r52 := c53.symm
      have hFc := free_all hD hS hA
      obtain ⟨k55, gk55, hk55⟩ := wGt (cy := cy) X S37 o47.1 o47.2.1
      refine va_calli (va_runV (As := [.int (f_X12_divisor_e8 (S37.I r45 1) (S37.I o1 18))]) (rest := []) ⟨hx, hb, hml, hown, hts⟩ (c_X10_part l (cy := cy) (X := X) (D := D) S37 _ r45 o47 (f_X12_divisor_e8 (S37.I r45 1) (S37.I o1 18)) (t39.w) (by omega)) (cwV 1 hts gX12_cause_X10_part rfl rfl rfl hd_X10_part ⟨Nat.le_of_ble_eq_true rfl, Nat.le_of_ble_eq_true rfl⟩) (pV (va_recv hK hP (q := (RX10, TX10, 23)) (ci := 14) (q0 := k55) rfl hk55) hP hK hD hN) rfl rfl hl.1 rfl (lv_room (Nat.le_of_ble_eq_true rfl)) dX12_cause_44 ⟨(Nat.zero_le _), (Nat.zero_le _)⟩) hS (fun q _ h => hFc q h) hFc (fun r56 u t H1 locs ht hvm hw hB hz1 hk1 hS => ?_)
      clear hw
      obtain ⟨hP, hD⟩ := wd_post hFc ht hB
      generalize H1 = H at hP hS ⊢
      refine lv_istore_n (lv' := [(3, .int r56), (2, .ref r45), (0, .ref o1), (1, .int x1)]) hx hb dX12_cause_47 rfl hl (by decide) rfl (fun ls hl => ?_)
      refine lv_aload_n hx hb dX12_cause_48 rfl (lv_at hl 1 rfl) ?_
      refine lv_aload_n hx hb dX12_cause_49 rfl (lv_at hl 1 rfl) ?_
      obtain ⟨k57, gk57, hk57⟩ := wGt (cy := cy) X S37 o47.1 o47.2.1
      refine va_getN (D := D) (ci := 14) (v := .int (S37.I r45 11)) (C := RX10) (T := TX10) (N := 23) hx hb hts hi_X12_cause_X10 hown hK hP k57 hk57 rfl 11 (by decide) (va_Nw.use rfl (hN (.fieldLinkNest RX12 365 "HobhouseModel$Gear" "starts" "I" "HobhouseModel") (by decide +kernel))) (fun _ h9 => h9) rfl dX12_cause_50 ?_
      have hFc := free_all hD hS hA
      obtain ⟨k58, gk58, hk58⟩ := wGt (cy := cy) X S37 o47.1 o47.2.1
      refine va_calli (va_runV (As := [.int (S37.I r45 11)]) (rest := []) ⟨hx, hb, hml, hown, hts⟩ (c_X10_partOrNone l (cy := cy) (X := X) (D := D) S37 _ r45 o47 (S37.I r45 11) (t39.w)) (cwV 1 hts gX12_cause_X10_partOrNone rfl rfl rfl hd_X10_partOrNone ⟨Nat.le_of_ble_eq_true rfl, Nat.le_of_ble_eq_true rfl⟩) (pV (va_recv hK hP (q := (RX10, TX10, 23)) (ci := 14) (q0 := k58) rfl hk58) hP hK hD hN) rfl rfl hl.1 rfl (lv_room (Nat.le_of_ble_eq_true rfl)) dX12_cause_53 ⟨(Nat.zero_le _), (Nat.zero_le _)⟩) hS (fun q _ h => hFc q h) hFc (fun r59 u t H1 locs ht hvm hw hB hz1 hk1 hS => ?_)
      clear hw
      obtain ⟨hP, hD⟩ := wd_post hFc ht hB
      generalize H1 = H at hP hS ⊢
      refine lv_istore (lv' := [(4, .int r59), (3, .int r56), (2, .ref r45), (0, .ref o1), (1, .int x1)]) hx hb dX12_cause_56 hl (by decide) rfl (fun ls hl => ?_)
      refine lv_aload_n hx hb dX12_cause_58 rfl (lv_at hl 2 rfl) ?_
      have hFc := free_all hD hS hA
      obtain ⟨k60, gk60, hk60⟩ := wGt (cy := cy) X S37 o47.1 o47.2.1
      refine va_calli (va_runV (As := []) (rest := []) ⟨hx, hb, hml, hown, hts⟩ (c_X10_total l (cy := cy) (X := X) (D := D) S37 _ r45 o47 (t39.w)) (cwV 0 hts gX12_cause_X10_total rfl rfl rfl hd_X10_total ⟨Nat.le_of_ble_eq_true rfl, Nat.le_of_ble_eq_true rfl⟩) (pV (va_recv hK hP (q := (RX10, TX10, 23)) (ci := 14) (q0 := k60) rfl hk60) hP hK hD hN) rfl rfl hl.1 rfl (lv_room (Nat.le_of_ble_eq_true rfl)) dX12_cause_59 ⟨(Nat.zero_le _), (Nat.zero_le _)⟩) hS (fun q _ h => hFc q h) hFc (fun r61 u t H1 locs ht hvm hw hB hz1 hk1 hS => ?_)
      clear hw
      obtain ⟨hP, hD⟩ := wd_post hFc ht hB
      generalize H1 = H at hP hS ⊢
      refine lv_istore (lv' := [(5, .int r61), (4, .int r59), (3, .int r56), (2, .ref r45), (0, .ref o1), (1, .int x1)]) hx hb dX12_cause_62 hl (by decide) rfl (fun ls hl => ?_)
      refine lv_iload_n hx hb dX12_cause_64 rfl (lv_at hl 2 rfl) ?_
      refine lv_iload hx hb dX12_cause_65 (lv_at hl 1 rfl) ?_
      refine lv_iload hx hb dX12_cause_67 (lv_at hl 0 rfl) ?_
      refine va_mmax hx hb (hml.trans hl.1.symm) hown (hts (.methodLink RX12 418 Lib.Math.max.name) (by decide +kernel)) (hts (.static Lib.Math.max.name) (by decide +kernel)) (hts (.initialized "java/lang/Math") (by decide +kernel)) (hts (.code Lib.Math.max.name Lib.Math.max.code 2 (some .int)) (by decide +kernel)) (Nat.le_of_ble_eq_true rfl) (Nat.le_of_ble_eq_true rfl) (Nat.zero_le _) (Nat.zero_le _) dX12_cause_69 ?_
      refine va_mmax hx hb (hml.trans hl.1.symm) hown (hts (.methodLink RX12 418 Lib.Math.max.name) (by decide +kernel)) (hts (.static Lib.Math.max.name) (by decide +kernel)) (hts (.initialized "java/lang/Math") (by decide +kernel)) (hts (.code Lib.Math.max.name Lib.Math.max.code 2 (some .int)) (by decide +kernel)) (Nat.le_of_ble_eq_true rfl) (Nat.le_of_ble_eq_true rfl) (Nat.zero_le _) (Nat.zero_le _) dX12_cause_72 ?_
      refine lv_istore (lv' := [(6, .int (if r56 < (if r59 < r61 then r61 else r59) then (if r59 < r61 then r61 else r59) else r56)), (5, .int r61), (4, .int r59), (3, .int r56), (2, .ref r45), (0, .ref o1), (1, .int x1)]) hx hb dX12_cause_75 hl (by decide) rfl (fun ls hl => ?_)
      refine lv_iload hx hb dX12_cause_77 (lv_at hl 0 rfl) ?_
      refine lv_if_ne (tgt := 87) hx hb dX12_cause_79 (by decide) (fun c62 => ?_) (fun c62 => ?_)
      · have c62i : ¬ (if r56 < (if r59 < r61 then r61 else r59) then (if r59 < r61 then r61 else r59) else r56).toInt = 0 := neq_v rfl rfl c62
        refine lv_iload_n hx hb dX12_cause_87 rfl (lv_at hl 3 rfl) ?_
        refine lv_iload hx hb dX12_cause_88 (lv_at hl 0 rfl) ?_
        refine lv_icmp_ne (tgt := 98) hx hb dX12_cause_90 (by decide) (fun c63 => ?_) (fun c63 => ?_)
        · have c63i : ¬ r56.toInt = (if r56 < (if r59 < r61 then r61 else r59) then (if r59 < r61 then r61 else r59) else r56).toInt := neq_v rfl rfl c63
          refine lv_iload hx hb dX12_cause_98 (lv_at hl 2 rfl) ?_
          refine lv_iload hx hb dX12_cause_100 (lv_at hl 0 rfl) ?_
          refine lv_icmp_ne (tgt := 110) hx hb dX12_cause_102 (by decide) (fun c64 => ?_) (fun c64 => ?_)
          · have c64i : ¬ r59.toInt = (if r56 < (if r59 < r61 then r61 else r59) then (if r59 < r61 then r61 else r59) else r56).toInt := neq_v rfl rfl c64
            refine lv_bipush (v := 115) hx hb dX12_cause_110 (by decide +kernel) ?_
            refine W.widen (k := 0) (n := 0) (Nat.le_of_ble_eq_true rfl) (Nat.le_of_ble_eq_true rfl) ?_
            exact W.zret (v := (115 : Int32)) hx hb hr (by rfl) (fun t ht hW9 => ⟨⟨(115 : Int32), S37, rfl, ⟨t39, (by rfl)⟩, wd_end hP hK hD ht hW9.alike⟩, hS.F ht⟩) hS.2.2 dX12_cause_112 hlocks
          · have c64i : r59.toInt = (if r56 < (if r59 < r61 then r61 else r59) then (if r59 < r61 then r61 else r59) else r56).toInt := eq_v rfl rfl c64
            refine lv_bipush (v := 116) hx hb dX12_cause_105 (by decide +kernel) ?_
            refine lv_goto (tgt := 112) hx hb dX12_cause_107 (by decide) ?_
            refine W.widen (k := 0) (n := 0) (Nat.le_of_ble_eq_true rfl) (Nat.le_of_ble_eq_true rfl) ?_
            exact W.zret (v := (116 : Int32)) hx hb hr (by rfl) (fun t ht hW9 => ⟨⟨(116 : Int32), S37, rfl, ⟨t39, (by rfl)⟩, wd_end hP hK hD ht hW9.alike⟩, hS.F ht⟩) hS.2.2 dX12_cause_112 hlocks
        · have c63i : r56.toInt = (if r56 < (if r59 < r61 then r61 else r59) then (if r59 < r61 then r61 else r59) else r56).toInt := eq_v rfl rfl c63
          refine lv_bipush (v := 109) hx hb dX12_cause_93 (by decide +kernel) ?_
          refine lv_goto (tgt := 112) hx hb dX12_cause_95 (by decide) ?_
          refine W.widen (k := 0) (n := 0) (Nat.le_of_ble_eq_true rfl) (Nat.le_of_ble_eq_true rfl) ?_
          exact W.zret (v := (109 : Int32)) hx hb hr (by rfl) (fun t ht hW9 => ⟨⟨(109 : Int32), S37, rfl, ⟨t39, (by rfl)⟩, wd_end hP hK hD ht hW9.alike⟩, hS.F ht⟩) hS.2.2 dX12_cause_112 hlocks
      · have c62i : (if r56 < (if r59 < r61 then r61 else r59) then (if r59 < r61 then r61 else r59) else r56).toInt = 0 := eq_v rfl rfl c62
        refine lv_bipush (v := 110) hx hb dX12_cause_82 (by decide +kernel) ?_
        refine lv_goto (tgt := 112) hx hb dX12_cause_84 (by decide) ?_
        refine W.widen (k := 0) (n := 0) (Nat.le_of_ble_eq_true rfl) (Nat.le_of_ble_eq_true rfl) ?_
        exact W.zret (v := (110 : Int32)) hx hb hr (by rfl) (fun t ht hW9 => ⟨⟨(110 : Int32), S37, rfl, ⟨t39, (by rfl)⟩, wd_end hP hK hD ht hW9.alike⟩, hS.F ht⟩) hS.2.2 dX12_cause_112 hlocks
    · have c43i : 0 < (S37.I o1 15).toInt := nle_v rfl rfl c43
      refine lv_iconst (v := 0) hx hb dX12_cause_24 (by decide) ?_
      refine W.widen (k := 0) (n := 0) (Nat.le_of_ble_eq_true rfl) (Nat.le_of_ble_eq_true rfl) ?_
      exact W.zret (v := (0 : Int32)) hx hb hr (by rfl) (fun t ht hW9 => ⟨⟨(0 : Int32), S37, rfl, ⟨t39, (by rfl)⟩, wd_end hP hK hD ht hW9.alike⟩, hS.F ht⟩) hS.2.2 dX12_cause_25 hlocks
theorem hi_X12_laysPlaces_X10 : ∀ w ∈ u_ws RX10 TX10 23, w ∈ wsX12_laysPlaces := by decide +kernel
theorem hi_X12_laysPlaces_X12 : ∀ w ∈ u_ws RX12 TX12 34, w ∈ wsX12_laysPlaces := by decide +kernel
theorem hd_X12_laysPlaces : yX12_laysPlaces.cls = RX12 ∧ yX12_laysPlaces.cls ≠ "java/lang/invoke/MethodHandle" ∧ yX12_laysPlaces.cls ≠ "java/lang/invoke/VarHandle" ∧ (parseMethodDescriptor yX12_laysPlaces.desc).map (fun d => d.parameters.length) = some 2 := by decide +kernel
set_option maxHeartbeats 4000000 in
set_option maxRecDepth 100000 in
theorem c_X12_laysPlaces (l : Launch) {D : va_G} {cy : Nat → ClassId} {X : va_W} (S : wPS) (sz : Nat) (o1 : Nat) (h_o1 : isA S o1 12) (o2 : Nat) (h_o2 : isA S o2 10) (o3 : Nat) (h_o3 : isA S o3 10) (hW : wtB S [])  : Met l yX12_laysPlaces wsX12_laysPlaces ({ frames := 17, cells := 0, slots := 0, locals := 357 }) (va_Pc [.ref o1, .ref o2, .ref o3] (fun U => U.heap.size = sz ∧ WD D cy X (fun _ => True) S U ∧ NW U)) (va_Qi (fun r (u : wPS) => stp [(17, 100)] [] [] S u ∧ 1 ≤ r.toInt ∧ r.toInt ≤ 200) (fun u t => WD D cy X (va_A (X ++ PL cy S) sz) u t) (va_A (X ++ PL cy S) sz)) 0 0 (va_A (X ++ PL cy S) sz) := by
  refine Met.ofW (cc := cX12_laysPlaces) (maxL := 4) (ret := (some .int)) (by decide) rfl ?_
  intro p e s m args below meth c s₁ B hml hv
  obtain ⟨rfl, hsz, ⟨hP, hK, hD0⟩, hN⟩ := hv
  have hx := B.exec
  have hb := B.bytes
  have hr := B.returns
  have hts := atoms_spec (ws := wsX12_laysPlaces) B.pre
  have hown : s.vm.findClass RX12 = some m.cls := findClass_of_methodNamed (x := yX12_laysPlaces) B.named
  have hlocks := B.notSynchronized
  subst hsz
  have hD := hD0.self (sz := s.heap.size)
  generalize hAe : va_A (X ++ PL cy S) s.heap.size = A at hD ⊢
  have hA : ∀ q : Nat, s.heap.size ≤ q → A q := fun q h => by rw [← hAe]; exact Or.inr h
  have hS : va_S A s.heap s.heap [] := va_S.rf
  have hl := lv_entry ([.ref o1, .ref o2, .ref o3]) (n := 4) (Nat.le_of_ble_eq_true rfl)
  rw [lg_entry_eq]
  generalize (lg_sl ([.ref o1, .ref o2, .ref o3]) ++ List.replicate (4 - (lg_sl ([.ref o1, .ref o2, .ref o3])).length) Slot.unset).toArray = ls at hl ⊢
  have hl : lv_has ls 4 [(0, .ref o1), (1, .ref o2), (2, .ref o3)] := hl
  have t0 : stp [(17, 100)] [] [] S S := stp.rf hW
  refine lv_aload_n hx hb dX12_laysPlaces_0 rfl (lv_at hl 1 rfl) ?_
  obtain ⟨k1, gk1, hk1⟩ := wGt (cy := cy) X S h_o2.1 h_o2.2.1
  have i2 := ((hW.at h_o2 List.not_mem_nil).to_10 h_o2.2.1).R1
  refine va_getN (D := D) (ci := 14) (v := .int (S.I o2 1)) (C := RX10) (T := TX10) (N := 23) hx hb hts hi_X12_laysPlaces_X10 hown hK hP k1 hk1 rfl 1 (by decide) (va_Nw.use rfl (hN (.fieldLinkNest RX12 332 "HobhouseModel$Gear" "teeth" "I" "HobhouseModel") (by decide +kernel))) (fun _ h9 => h9) rfl dX12_laysPlaces_1 ?_
  refine lv_aload_n hx hb dX12_laysPlaces_4 rfl (lv_at hl 2 rfl) ?_
  obtain ⟨k3, gk3, hk3⟩ := wGt (cy := cy) X S h_o3.1 h_o3.2.1
  have i4 := ((hW.at h_o3 List.not_mem_nil).to_10 h_o3.2.1).R1
  refine va_getN (D := D) (ci := 14) (v := .int (S.I o3 1)) (C := RX10) (T := TX10) (N := 23) hx hb hts hi_X12_laysPlaces_X10 hown hK hP k3 hk3 rfl 1 (by decide) (va_Nw.use rfl (hN (.fieldLinkNest RX12 332 "HobhouseModel$Gear" "teeth" "I" "HobhouseModel") (by decide +kernel))) (fun _ h9 => h9) rfl dX12_laysPlaces_5 ?_
  have hFc := free_all hD hS hA
  refine va_calli (va_runS (As := [.int (S.I o2 1), .int (S.I o3 1)]) (rest := []) ⟨hx, hb, hml, hown, hts⟩ (c_X12_divisor_e8 l (cy := cy) (X := X) (D := D) S _ (S.I o2 1) (S.I o3 1) (by omega) (by omega) (by omega) (by omega)) (cwS 2 hts gX12_laysPlaces_X12_divisor rfl rfl rfl hd_X12_divisor ⟨Nat.le_of_ble_eq_true rfl, Nat.le_of_ble_eq_true rfl⟩) (pS hP hK hD hN) rfl rfl hl.1 rfl (lv_room (Nat.le_of_ble_eq_true rfl)) dX12_laysPlaces_8 ⟨(Nat.zero_le _), (Nat.zero_le _)⟩) hS (fun q _ h => hFc q h) hFc (fun r5 u t H1 locs ht hvm hw hB hz1 hk1 hS => ?_)
  obtain ⟨c6, y7⟩ := hw
  obtain ⟨hP, hD⟩ := wd_post hFc ht hB
  generalize H1 = H at hP hS ⊢
  obtain rfl : f_X12_divisor_e8 (S.I o2 1) (S.I o3 1) = r5 := c6.symm
  refine lv_istore_n (lv' := [(3, .int (f_X12_divisor_e8 (S.I o2 1) (S.I o3 1))), (0, .ref o1), (1, .ref o2), (2, .ref o3)]) hx hb dX12_laysPlaces_11 rfl hl (by decide) rfl (fun ls hl => ?_)
  refine lv_aload_n hx hb dX12_laysPlaces_12 rfl (lv_at hl 2 rfl) ?_
  refine lv_iload_n hx hb dX12_laysPlaces_13 rfl (lv_at hl 0 rfl) ?_
  refine lv_aload_n hx hb dX12_laysPlaces_14 rfl (lv_at hl 1 rfl) ?_
  have F8 := ((hW.at h_o1 List.not_mem_nil).to_12 h_o1.2.1).F29
  obtain ⟨k9, gk9, hk9⟩ := wGt (cy := cy) X S h_o1.1 h_o1.2.1
  simp only [kE, F8.1] at hk9
  refine va_get (D := D) (ci := 16) (v := .ref (S.f o1 29)) (C := RX12) (T := TX12) (N := 34) hx hb hts hi_X12_laysPlaces_X12 hown hK hP k9 hk9 rfl 29 (by decide) (hts (.fieldLink RX12 79 "HobhouseModel" "highOne" "[I") (by decide +kernel)) (fun _ h9 => h9) rfl dX12_laysPlaces_15 ?_
  refine lv_aload_n hx hb dX12_laysPlaces_18 rfl (lv_at hl 1 rfl) ?_
  have F10 := ((hW.at h_o1 List.not_mem_nil).to_12 h_o1.2.1).F30
  obtain ⟨k11, gk11, hk11⟩ := wGt (cy := cy) X S h_o1.1 h_o1.2.1
  simp only [kE, F10.1] at hk11
  refine va_get (D := D) (ci := 16) (v := .ref (S.f o1 30)) (C := RX12) (T := TX12) (N := 34) hx hb hts hi_X12_laysPlaces_X12 hown hK hP k11 hk11 rfl 30 (by decide) (hts (.fieldLink RX12 82 "HobhouseModel" "lowOne" "[I") (by decide +kernel)) (fun _ h9 => h9) rfl dX12_laysPlaces_19 ?_
  have hFc := free_all hD hS hA
  obtain ⟨k12, gk12, hk12⟩ := wGt (cy := cy) X S h_o2.1 h_o2.2.1
  refine va_callv (va_runV (As := [.int (f_X12_divisor_e8 (S.I o2 1) (S.I o3 1)), .ref (S.f o1 29), .ref (S.f o1 30)]) (rest := []) ⟨hx, hb, hml, hown, hts⟩ (c_X10_places l (cy := cy) (X := X) (D := D) S _ o2 h_o2 (f_X12_divisor_e8 (S.I o2 1) (S.I o3 1)) (S.f o1 29) F8.2.1 (S.f o1 30) F10.2.1 (hW) (by omega) F8.2.2 F10.2.2) (cwV 3 hts gX12_laysPlaces_X10_places rfl rfl rfl hd_X10_places ⟨Nat.le_of_ble_eq_true rfl, Nat.le_of_ble_eq_true rfl⟩) (pV (va_recv hK hP (q := (RX10, TX10, 23)) (ci := 14) (q0 := k12) rfl hk12) hP hK hD hN) rfl rfl hl.1 rfl (lv_room (Nat.le_of_ble_eq_true rfl)) dX12_laysPlaces_22 ⟨(Nat.zero_le _), (Nat.zero_le _)⟩) hS (fun q _ h => hFc q h) hFc (fun u t H1 locs ht hvm hw hB hz1 hk1 hS => ?_)
  have w14 := hw
  obtain ⟨hP, hD⟩ := wd_post hFc ht hB
  generalize H1 = H at hP hS ⊢
  obtain ⟨S15, rfl⟩ : ∃ z, z = u := ⟨_, rfl⟩
  have t16 : stp [(17, 100)] [] [] S S15 := t0.tr w14 (by decide) (fun _ q => absurd q List.not_mem_nil)
  have xe17 : ext S S15 := w14.x
  refine lv_aload_n hx hb dX12_laysPlaces_25 rfl (lv_at hl 3 rfl) ?_
  refine lv_iload_n hx hb dX12_laysPlaces_26 rfl (lv_at hl 0 rfl) ?_
  refine lv_aload_n hx hb dX12_laysPlaces_27 rfl (lv_at hl 1 rfl) ?_
  have F18 := ((hW.at h_o1 List.not_mem_nil).to_12 h_o1.2.1).F31
  obtain ⟨k19, gk19, hk19⟩ := wGt (cy := cy) X S15 (xe17.A h_o1).1 (xe17.A h_o1).2.1
  simp only [kE, (xe17.F h_o1 (by decide) F18.1)] at hk19
  refine va_get (D := D) (ci := 16) (v := .ref (S.f o1 31)) (C := RX12) (T := TX12) (N := 34) hx hb hts hi_X12_laysPlaces_X12 hown hK hP k19 hk19 rfl 31 (by decide) (hts (.fieldLink RX12 85 "HobhouseModel" "highOther" "[I") (by decide +kernel)) (fun _ h9 => h9) rfl dX12_laysPlaces_28 ?_
  refine lv_aload_n hx hb dX12_laysPlaces_31 rfl (lv_at hl 1 rfl) ?_
  have F20 := ((hW.at h_o1 List.not_mem_nil).to_12 h_o1.2.1).F32
  obtain ⟨k21, gk21, hk21⟩ := wGt (cy := cy) X S15 (xe17.A h_o1).1 (xe17.A h_o1).2.1
  simp only [kE, (xe17.F h_o1 (by decide) F20.1)] at hk21
  refine va_get (D := D) (ci := 16) (v := .ref (S.f o1 32)) (C := RX12) (T := TX12) (N := 34) hx hb hts hi_X12_laysPlaces_X12 hown hK hP k21 hk21 rfl 32 (by decide) (hts (.fieldLink RX12 88 "HobhouseModel" "lowOther" "[I") (by decide +kernel)) (fun _ h9 => h9) rfl dX12_laysPlaces_32 ?_
  have hFc := free_all hD hS hA
  obtain ⟨k22, gk22, hk22⟩ := wGt (cy := cy) X S15 (xe17.A h_o3).1 (xe17.A h_o3).2.1
  refine va_callv (va_runV (As := [.int (f_X12_divisor_e8 (S.I o2 1) (S.I o3 1)), .ref (S.f o1 31), .ref (S.f o1 32)]) (rest := []) ⟨hx, hb, hml, hown, hts⟩ (c_X10_places l (cy := cy) (X := X) (D := D) S15 _ o3 (xe17.A h_o3) (f_X12_divisor_e8 (S.I o2 1) (S.I o3 1)) (S.f o1 31) (xe17.A F18.2.1) (S.f o1 32) (xe17.A F20.2.1) (t16.w) (by omega) ((xe17.n F18.2.1).trans F18.2.2) ((xe17.n F20.2.1).trans F20.2.2)) (cwV 3 hts gX12_laysPlaces_X10_places rfl rfl rfl hd_X10_places ⟨Nat.le_of_ble_eq_true rfl, Nat.le_of_ble_eq_true rfl⟩) (pV (va_recv hK hP (q := (RX10, TX10, 23)) (ci := 14) (q0 := k22) rfl hk22) hP hK hD hN) rfl rfl hl.1 rfl (lv_room (Nat.le_of_ble_eq_true rfl)) dX12_laysPlaces_35 ⟨(Nat.zero_le _), (Nat.zero_le _)⟩) hS (fun q _ h => hFc q h) hFc (fun u t H1 locs ht hvm hw hB hz1 hk1 hS => ?_)
  have w24 := hw
  obtain ⟨hP, hD⟩ := wd_post hFc ht hB
  generalize H1 = H at hP hS ⊢
  obtain ⟨S25, rfl⟩ : ∃ z, z = u := ⟨_, rfl⟩
  have t26 : stp [(17, 100)] [] [] S S25 := t16.tr w24 (by decide) (fun _ q => absurd q List.not_mem_nil)
  have xe27 : ext S15 S25 := w24.x
  refine lv_iload_n hx hb dX12_laysPlaces_38 rfl (lv_at hl 0 rfl) ?_
  refine W.widen (k := 0) (n := 0) (Nat.le_of_ble_eq_true rfl) (Nat.le_of_ble_eq_true rfl) ?_
  exact W.iret (v := f_X12_divisor_e8 (S.I o2 1) (S.I o3 1)) hx hb hr (fun t ht hW9 => ⟨⟨f_X12_divisor_e8 (S.I o2 1) (S.I o3 1), S25, rfl, ⟨t26, (by omega)⟩, wd_end hP hK hD ht hW9.alike⟩, hS.F ht⟩) hS.2.2 dX12_laysPlaces_39 hlocks
theorem hi_X12_peakBy_X12 : ∀ w ∈ u_ws RX12 TX12 34, w ∈ wsX12_peakBy := by decide +kernel
theorem hd_X12_peakBy : yX12_peakBy.cls = RX12 ∧ yX12_peakBy.cls ≠ "java/lang/invoke/MethodHandle" ∧ yX12_peakBy.cls ≠ "java/lang/invoke/VarHandle" ∧ (parseMethodDescriptor yX12_peakBy.desc).map (fun d => d.parameters.length) = some 2 := by decide +kernel
set_option maxHeartbeats 4000000 in
set_option maxRecDepth 100000 in
theorem c_X12_peakBy (l : Launch) {D : va_G} {cy : Nat → ClassId} {X : va_W} (S : wPS) (sz : Nat) (o1 : Nat) (h_o1 : isA S o1 12) (x1 : Int32) (x2 : Int32) (hW : wtB S []) (h1 : 1 ≤ x1.toInt ∧ x1.toInt ≤ 200) (h2 : 0 ≤ x2.toInt ∧ x2.toInt ≤ 300) : Met l yX12_peakBy wsX12_peakBy ({ frames := 1, cells := 0, slots := 0, locals := 13 }) (va_Pc [.ref o1, .int x1, .int x2] (fun U => U.heap.size = sz ∧ WD D cy X (fun _ => True) S U ∧ NW U)) (va_Qi (fun r (_ : Unit) => True) (fun _ t => WD D cy X (va_A (X ++ PL cy S) sz) S t) (va_A (X ++ PL cy S) sz)) 0 0 (va_A (X ++ PL cy S) sz) := by
  refine Met.ofW (cc := cX12_peakBy) (maxL := 6) (ret := (some .int)) (by decide) rfl ?_
  intro p e s m args below meth c s₁ B hml hv
  obtain ⟨rfl, hsz, ⟨hP, hK, hD0⟩, hN⟩ := hv
  have hx := B.exec
  have hb := B.bytes
  have hr := B.returns
  have hts := atoms_spec (ws := wsX12_peakBy) B.pre
  have hown : s.vm.findClass RX12 = some m.cls := findClass_of_methodNamed (x := yX12_peakBy) B.named
  have hlocks := B.notSynchronized
  subst hsz
  have hD := hD0.self (sz := s.heap.size)
  generalize hAe : va_A (X ++ PL cy S) s.heap.size = A at hD ⊢
  have hA : ∀ q : Nat, s.heap.size ≤ q → A q := fun q h => by rw [← hAe]; exact Or.inr h
  have hS : va_S A s.heap s.heap [] := va_S.rf
  have hl := lv_entry ([.ref o1, .int x1, .int x2]) (n := 6) (Nat.le_of_ble_eq_true rfl)
  rw [lg_entry_eq]
  generalize (lg_sl ([.ref o1, .int x1, .int x2]) ++ List.replicate (6 - (lg_sl ([.ref o1, .int x1, .int x2])).length) Slot.unset).toArray = ls at hl ⊢
  have hl : lv_has ls 6 [(0, .ref o1), (1, .int x1), (2, .int x2)] := hl
  refine lv_aload_n hx hb dX12_peakBy_0 rfl (lv_at hl 0 rfl) ?_
  have F1 := ((hW.at h_o1 List.not_mem_nil).to_12 h_o1.2.1).F29
  obtain ⟨k2, gk2, hk2⟩ := wGt (cy := cy) X S h_o1.1 h_o1.2.1
  simp only [kE, F1.1] at hk2
  refine va_get (D := D) (ci := 16) (v := .ref (S.f o1 29)) (C := RX12) (T := TX12) (N := 34) hx hb hts hi_X12_peakBy_X12 hown hK hP k2 hk2 rfl 29 (by decide) (hts (.fieldLink RX12 79 "HobhouseModel" "highOne" "[I") (by decide +kernel)) (fun _ h9 => h9) rfl dX12_peakBy_1 ?_
  refine lv_iconst (v := 0) hx hb dX12_peakBy_4 (by decide) ?_
  obtain ⟨k3, gk3, hk3⟩ := wGt (cy := cy) X S F1.2.1.1 F1.2.1.2.1
  refine va_iald hx hb hK hP k3 2 hk3 rfl (inb F1.2.2 (by decide) (by decide)) dX12_peakBy_5 ?_
  refine lv_aload_n hx hb dX12_peakBy_6 rfl (lv_at hl 0 rfl) ?_
  have F4 := ((hW.at h_o1 List.not_mem_nil).to_12 h_o1.2.1).F31
  obtain ⟨k5, gk5, hk5⟩ := wGt (cy := cy) X S h_o1.1 h_o1.2.1
  simp only [kE, F4.1] at hk5
  refine va_get (D := D) (ci := 16) (v := .ref (S.f o1 31)) (C := RX12) (T := TX12) (N := 34) hx hb hts hi_X12_peakBy_X12 hown hK hP k5 hk5 rfl 31 (by decide) (hts (.fieldLink RX12 85 "HobhouseModel" "highOther" "[I") (by decide +kernel)) (fun _ h9 => h9) rfl dX12_peakBy_7 ?_
  refine lv_iload_n hx hb dX12_peakBy_10 rfl (lv_at hl 2 rfl) ?_
  refine lv_iload_n hx hb dX12_peakBy_11 rfl (lv_at hl 1 rfl) ?_
  refine lv_irem hx hb dX12_peakBy_12 (nz_i (by omega)) ?_
  have i6 := rem_rng (x := x2) (y := x1) (by omega) (by omega)
  obtain ⟨k7, gk7, hk7⟩ := wGt (cy := cy) X S F4.2.1.1 F4.2.1.2.1
  refine va_iald hx hb hK hP k7 2 hk7 rfl (inb (m := 200) F4.2.2 (by omega) (by omega)) dX12_peakBy_13 ?_
  refine lv_iadd hx hb dX12_peakBy_14 ?_
  refine lv_istore_n (lv' := [(3, .int ((S.i (S.f o1 29) (0 : Int32).toNatClampNeg) + (S.i (S.f o1 31) (x2 - x2 / x1 * x1).toNatClampNeg))), (0, .ref o1), (1, .int x1), (2, .int x2)]) hx hb dX12_peakBy_15 rfl hl (by decide) rfl (fun ls hl => ?_)
  refine lv_aload_n hx hb dX12_peakBy_16 rfl (lv_at hl 1 rfl) ?_
  have F8 := ((hW.at h_o1 List.not_mem_nil).to_12 h_o1.2.1).F30
  obtain ⟨k9, gk9, hk9⟩ := wGt (cy := cy) X S h_o1.1 h_o1.2.1
  simp only [kE, F8.1] at hk9
  refine va_get (D := D) (ci := 16) (v := .ref (S.f o1 30)) (C := RX12) (T := TX12) (N := 34) hx hb hts hi_X12_peakBy_X12 hown hK hP k9 hk9 rfl 30 (by decide) (hts (.fieldLink RX12 82 "HobhouseModel" "lowOne" "[I") (by decide +kernel)) (fun _ h9 => h9) rfl dX12_peakBy_17 ?_
  refine lv_iconst (v := 0) hx hb dX12_peakBy_20 (by decide) ?_
  obtain ⟨k10, gk10, hk10⟩ := wGt (cy := cy) X S F8.2.1.1 F8.2.1.2.1
  refine va_iald hx hb hK hP k10 2 hk10 rfl (inb F8.2.2 (by decide) (by decide)) dX12_peakBy_21 ?_
  refine lv_aload_n hx hb dX12_peakBy_22 rfl (lv_at hl 1 rfl) ?_
  have F11 := ((hW.at h_o1 List.not_mem_nil).to_12 h_o1.2.1).F32
  obtain ⟨k12, gk12, hk12⟩ := wGt (cy := cy) X S h_o1.1 h_o1.2.1
  simp only [kE, F11.1] at hk12
  refine va_get (D := D) (ci := 16) (v := .ref (S.f o1 32)) (C := RX12) (T := TX12) (N := 34) hx hb hts hi_X12_peakBy_X12 hown hK hP k12 hk12 rfl 32 (by decide) (hts (.fieldLink RX12 88 "HobhouseModel" "lowOther" "[I") (by decide +kernel)) (fun _ h9 => h9) rfl dX12_peakBy_23 ?_
  refine lv_iload_n hx hb dX12_peakBy_26 rfl (lv_at hl 3 rfl) ?_
  refine lv_iload_n hx hb dX12_peakBy_27 rfl (lv_at hl 2 rfl) ?_
  refine lv_irem hx hb dX12_peakBy_28 (nz_i (by omega)) ?_
  obtain ⟨k13, gk13, hk13⟩ := wGt (cy := cy) X S F11.2.1.1 F11.2.1.2.1
  refine va_iald hx hb hK hP k13 2 hk13 rfl (inb (m := 200) F11.2.2 (by omega) (by omega)) dX12_peakBy_29 ?_
  refine lv_iadd hx hb dX12_peakBy_30 ?_
  refine lv_istore (lv' := [(4, .int ((S.i (S.f o1 30) (0 : Int32).toNatClampNeg) + (S.i (S.f o1 32) (x2 - x2 / x1 * x1).toNatClampNeg))), (3, .int ((S.i (S.f o1 29) (0 : Int32).toNatClampNeg) + (S.i (S.f o1 31) (x2 - x2 / x1 * x1).toNatClampNeg))), (0, .ref o1), (1, .int x1), (2, .int x2)]) hx hb dX12_peakBy_31 hl (by decide) rfl (fun ls hl => ?_)
  refine lv_iconst (v := 1) hx hb dX12_peakBy_33 (by decide) ?_
  refine lv_istore (lv' := [(5, .int (1 : Int32)), (4, .int ((S.i (S.f o1 30) (0 : Int32).toNatClampNeg) + (S.i (S.f o1 32) (x2 - x2 / x1 * x1).toNatClampNeg))), (3, .int ((S.i (S.f o1 29) (0 : Int32).toNatClampNeg) + (S.i (S.f o1 31) (x2 - x2 / x1 * x1).toNatClampNeg))), (0, .ref o1), (1, .int x1), (2, .int x2)]) hx hb dX12_peakBy_34 hl (by decide) rfl (fun ls hl => ?_)
  have l32_1 : (1 : Int32).toInt = 1 := rfl
  have loop36 : ∀ (n : Nat) (w36_3 : Int32) (w36_4 : Int32) (w36_5 : Int32) (H : Heap) (locs : List Loc) (ls : Array Slot), (201 - w36_5.toInt).toNat < n → 1 ≤ w36_5.toInt ∧ w36_5.toInt ≤ 201 → va_P D vwCl (X ++ PL cy S) H → va_S A s.heap H locs → lv_has ls 6 [(5, .int w36_5), (4, .int w36_4), (3, .int w36_3), (0, .ref o1), (1, .int x1), (2, .int x2)] → (∀ (w36_3x : Int32) (w36_4x : Int32) (w36_5x : Int32) (H : Heap) (locs : List Loc) (ls : Array Slot), 1 ≤ w36_5x.toInt ∧ w36_5x.toInt ≤ 201 → va_P D vwCl (X ++ PL cy S) H → va_S A s.heap H locs → lv_has ls 6 [(5, .int w36_5x), (4, .int w36_4x), (3, .int w36_3x), (0, .ref o1), (1, .int x1), (2, .int x2)] → W p l e (headSpec wsX12_peakBy ({ frames := 1, cells := 0, slots := 0, locals := 13 } : Room)).room s m [.ref o1, .int x1, .int x2].toArray below meth c H locs 0 0 (MQ below (va_Qi (fun r (_ : Unit) => True) (fun _ t => WD D cy X A S t) A) [.ref o1, .int x1, .int x2].toArray s 0 0 A) (F0 m 98 ls [])) → W p l e (headSpec wsX12_peakBy ({ frames := 1, cells := 0, slots := 0, locals := 13 } : Room)).room s m [.ref o1, .int x1, .int x2].toArray below meth c H locs 0 0 (MQ below (va_Qi (fun r (_ : Unit) => True) (fun _ t => WD D cy X A S t) A) [.ref o1, .int x1, .int x2].toArray s 0 0 A) (F0 m 36 ls []) := by
    intro n36
    induction n36 with
    | zero => intro w36_3 w36_4 w36_5 H locs ls hm; exact absurd hm (Nat.not_lt_zero _)
    | succ n36 ih36 =>
      intro w36_3 w36_4 w36_5 H locs ls hm36 hi36 hP hS hl ko36
      refine lv_iload hx hb dX12_peakBy_36 (lv_at hl 0 rfl) ?_
      refine lv_iload_n hx hb dX12_peakBy_38 rfl (lv_at hl 4 rfl) ?_
      refine lv_icmp_ge (tgt := 98) hx hb dX12_peakBy_39 (by decide) (fun c14 => ?_) (fun c14 => ?_)
      · have c14i : x1.toInt ≤ w36_5.toInt := le_v rfl rfl c14
        exact ko36 w36_3 w36_4 w36_5 _ _ _ (by omega) hP hS (lv_sub hl [0, 1, 2, 3, 4, 5] rfl)
      · have c14i : w36_5.toInt < x1.toInt := nle_v rfl rfl c14
        refine lv_iload_n hx hb dX12_peakBy_42 rfl (lv_at hl 2 rfl) ?_
        refine lv_aload_n hx hb dX12_peakBy_43 rfl (lv_at hl 3 rfl) ?_
        obtain ⟨k15, gk15, hk15⟩ := wGt (cy := cy) X S h_o1.1 h_o1.2.1
        simp only [kE, F1.1] at hk15
        refine va_get (D := D) (ci := 16) (v := .ref (S.f o1 29)) (C := RX12) (T := TX12) (N := 34) hx hb hts hi_X12_peakBy_X12 hown hK hP k15 hk15 rfl 29 (by decide) (hts (.fieldLink RX12 79 "HobhouseModel" "highOne" "[I") (by decide +kernel)) (fun _ h9 => h9) rfl dX12_peakBy_44 ?_
        refine lv_iload hx hb dX12_peakBy_47 (lv_at hl 0 rfl) ?_
        obtain ⟨k16, gk16, hk16⟩ := wGt (cy := cy) X S F1.2.1.1 F1.2.1.2.1
        refine va_iald hx hb hK hP k16 2 hk16 rfl (inb (m := 200) F1.2.2 (by omega) (by omega)) dX12_peakBy_49 ?_
        refine lv_aload_n hx hb dX12_peakBy_50 rfl (lv_at hl 3 rfl) ?_
        obtain ⟨k17, gk17, hk17⟩ := wGt (cy := cy) X S h_o1.1 h_o1.2.1
        simp only [kE, F4.1] at hk17
        refine va_get (D := D) (ci := 16) (v := .ref (S.f o1 31)) (C := RX12) (T := TX12) (N := 34) hx hb hts hi_X12_peakBy_X12 hown hK hP k17 hk17 rfl 31 (by decide) (hts (.fieldLink RX12 85 "HobhouseModel" "highOther" "[I") (by decide +kernel)) (fun _ h9 => h9) rfl dX12_peakBy_51 ?_
        refine lv_iload hx hb dX12_peakBy_54 (lv_at hl 0 rfl) ?_
        refine lv_iload_n hx hb dX12_peakBy_56 rfl (lv_at hl 5 rfl) ?_
        refine lv_iadd hx hb dX12_peakBy_57 ?_
        refine lv_iload_n hx hb dX12_peakBy_58 rfl (lv_at hl 4 rfl) ?_
        refine lv_irem hx hb dX12_peakBy_59 (nz_i (by omega)) ?_
        have i18 : (w36_5 + x2).toInt = w36_5.toInt + x2.toInt := t_add (by omega)
        have i19 := rem_rng (x := (w36_5 + x2)) (y := x1) (by omega) (by omega)
        obtain ⟨k20, gk20, hk20⟩ := wGt (cy := cy) X S F4.2.1.1 F4.2.1.2.1
        refine va_iald hx hb hK hP k20 2 hk20 rfl (inb (m := 200) F4.2.2 (by omega) (by omega)) dX12_peakBy_60 ?_
        refine lv_iadd hx hb dX12_peakBy_61 ?_
        refine va_mmax hx hb (hml.trans hl.1.symm) hown (hts (.methodLink RX12 418 Lib.Math.max.name) (by decide +kernel)) (hts (.static Lib.Math.max.name) (by decide +kernel)) (hts (.initialized "java/lang/Math") (by decide +kernel)) (hts (.code Lib.Math.max.name Lib.Math.max.code 2 (some .int)) (by decide +kernel)) (Nat.le_of_ble_eq_true rfl) (Nat.le_of_ble_eq_true rfl) (Nat.zero_le _) (Nat.zero_le _) dX12_peakBy_62 ?_
        refine lv_istore_n (lv' := [(3, .int (if w36_3 < ((S.i (S.f o1 29) w36_5.toNatClampNeg) + (S.i (S.f o1 31) ((w36_5 + x2) - (w36_5 + x2) / x1 * x1).toNatClampNeg)) then ((S.i (S.f o1 29) w36_5.toNatClampNeg) + (S.i (S.f o1 31) ((w36_5 + x2) - (w36_5 + x2) / x1 * x1).toNatClampNeg)) else w36_3)), (5, .int w36_5), (4, .int w36_4), (0, .ref o1), (1, .int x1), (2, .int x2)]) hx hb dX12_peakBy_65 rfl hl (by decide) rfl (fun ls hl => ?_)
        refine lv_iload hx hb dX12_peakBy_66 (lv_at hl 2 rfl) ?_
        refine lv_aload_n hx hb dX12_peakBy_68 rfl (lv_at hl 3 rfl) ?_
        obtain ⟨k21, gk21, hk21⟩ := wGt (cy := cy) X S h_o1.1 h_o1.2.1
        simp only [kE, F8.1] at hk21
        refine va_get (D := D) (ci := 16) (v := .ref (S.f o1 30)) (C := RX12) (T := TX12) (N := 34) hx hb hts hi_X12_peakBy_X12 hown hK hP k21 hk21 rfl 30 (by decide) (hts (.fieldLink RX12 82 "HobhouseModel" "lowOne" "[I") (by decide +kernel)) (fun _ h9 => h9) rfl dX12_peakBy_69 ?_
        refine lv_iload hx hb dX12_peakBy_72 (lv_at hl 1 rfl) ?_
        obtain ⟨k22, gk22, hk22⟩ := wGt (cy := cy) X S F8.2.1.1 F8.2.1.2.1
        refine va_iald hx hb hK hP k22 2 hk22 rfl (inb (m := 200) F8.2.2 (by omega) (by omega)) dX12_peakBy_74 ?_
        refine lv_aload_n hx hb dX12_peakBy_75 rfl (lv_at hl 3 rfl) ?_
        obtain ⟨k23, gk23, hk23⟩ := wGt (cy := cy) X S h_o1.1 h_o1.2.1
        simp only [kE, F11.1] at hk23
        refine va_get (D := D) (ci := 16) (v := .ref (S.f o1 32)) (C := RX12) (T := TX12) (N := 34) hx hb hts hi_X12_peakBy_X12 hown hK hP k23 hk23 rfl 32 (by decide) (hts (.fieldLink RX12 88 "HobhouseModel" "lowOther" "[I") (by decide +kernel)) (fun _ h9 => h9) rfl dX12_peakBy_76 ?_
        refine lv_iload hx hb dX12_peakBy_79 (lv_at hl 1 rfl) ?_
        refine lv_iload_n hx hb dX12_peakBy_81 rfl (lv_at hl 5 rfl) ?_
        refine lv_iadd hx hb dX12_peakBy_82 ?_
        refine lv_iload_n hx hb dX12_peakBy_83 rfl (lv_at hl 4 rfl) ?_
        refine lv_irem hx hb dX12_peakBy_84 (nz_i (by omega)) ?_
        obtain ⟨k24, gk24, hk24⟩ := wGt (cy := cy) X S F11.2.1.1 F11.2.1.2.1
        refine va_iald hx hb hK hP k24 2 hk24 rfl (inb (m := 200) F11.2.2 (by omega) (by omega)) dX12_peakBy_85 ?_
        refine lv_iadd hx hb dX12_peakBy_86 ?_
        refine va_mmin hx hb (hml.trans hl.1.symm) hown (hts (.methodLink RX12 212 Lib.Math.min.name) (by decide +kernel)) (hts (.static Lib.Math.min.name) (by decide +kernel)) (hts (.initialized "java/lang/Math") (by decide +kernel)) (hts (.code Lib.Math.min.name Lib.Math.min.code 2 (some .int)) (by decide +kernel)) (Nat.le_of_ble_eq_true rfl) (Nat.le_of_ble_eq_true rfl) (Nat.zero_le _) (Nat.zero_le _) dX12_peakBy_87 ?_
        refine lv_istore (lv' := [(4, .int (if ((S.i (S.f o1 30) w36_5.toNatClampNeg) + (S.i (S.f o1 32) ((w36_5 + x2) - (w36_5 + x2) / x1 * x1).toNatClampNeg)) < w36_4 then ((S.i (S.f o1 30) w36_5.toNatClampNeg) + (S.i (S.f o1 32) ((w36_5 + x2) - (w36_5 + x2) / x1 * x1).toNatClampNeg)) else w36_4)), (3, .int (if w36_3 < ((S.i (S.f o1 29) w36_5.toNatClampNeg) + (S.i (S.f o1 31) ((w36_5 + x2) - (w36_5 + x2) / x1 * x1).toNatClampNeg)) then ((S.i (S.f o1 29) w36_5.toNatClampNeg) + (S.i (S.f o1 31) ((w36_5 + x2) - (w36_5 + x2) / x1 * x1).toNatClampNeg)) else w36_3)), (5, .int w36_5), (0, .ref o1), (1, .int x1), (2, .int x2)]) hx hb dX12_peakBy_90 hl (by decide) rfl (fun ls hl => ?_)
        refine lv_iinc (v := w36_5 + (1 : Int32)) (lv' := [(5, .int (w36_5 + (1 : Int32))), (4, .int (if ((S.i (S.f o1 30) w36_5.toNatClampNeg) + (S.i (S.f o1 32) ((w36_5 + x2) - (w36_5 + x2) / x1 * x1).toNatClampNeg)) < w36_4 then ((S.i (S.f o1 30) w36_5.toNatClampNeg) + (S.i (S.f o1 32) ((w36_5 + x2) - (w36_5 + x2) / x1 * x1).toNatClampNeg)) else w36_4)), (3, .int (if w36_3 < ((S.i (S.f o1 29) w36_5.toNatClampNeg) + (S.i (S.f o1 31) ((w36_5 + x2) - (w36_5 + x2) / x1 * x1).toNatClampNeg)) then ((S.i (S.f o1 29) w36_5.toNatClampNeg) + (S.i (S.f o1 31) ((w36_5 + x2) - (w36_5 + x2) / x1 * x1).toNatClampNeg)) else w36_3)), (0, .ref o1), (1, .int x1), (2, .int x2)]) hx hb dX12_peakBy_92 hl (k := 2) rfl (by rfl) (by decide) rfl (fun ls hl => ?_)
        refine lv_goto (tgt := 36) hx hb dX12_peakBy_95 (by decide) ?_
        have i25 : (w36_5 + (1 : Int32)).toInt = w36_5.toInt + 1 := t_addr (n := 1) rfl (by omega)
        exact ih36 (if w36_3 < ((S.i (S.f o1 29) w36_5.toNatClampNeg) + (S.i (S.f o1 31) ((w36_5 + x2) - (w36_5 + x2) / x1 * x1).toNatClampNeg)) then ((S.i (S.f o1 29) w36_5.toNatClampNeg) + (S.i (S.f o1 31) ((w36_5 + x2) - (w36_5 + x2) / x1 * x1).toNatClampNeg)) else w36_3) (if ((S.i (S.f o1 30) w36_5.toNatClampNeg) + (S.i (S.f o1 32) ((w36_5 + x2) - (w36_5 + x2) / x1 * x1).toNatClampNeg)) < w36_4 then ((S.i (S.f o1 30) w36_5.toNatClampNeg) + (S.i (S.f o1 32) ((w36_5 + x2) - (w36_5 + x2) / x1 * x1).toNatClampNeg)) else w36_4) (w36_5 + (1 : Int32)) _ _ _ (Nat.lt_of_lt_of_le (by omega) (Nat.le_of_lt_succ hm36)) (by omega) hP hS (lv_sub hl [0, 1, 2, 3, 4, 5] rfl) ko36
  refine loop36 202 ((S.i (S.f o1 29) (0 : Int32).toNatClampNeg) + (S.i (S.f o1 31) (x2 - x2 / x1 * x1).toNatClampNeg)) ((S.i (S.f o1 30) (0 : Int32).toNatClampNeg) + (S.i (S.f o1 32) (x2 - x2 / x1 * x1).toNatClampNeg)) (1 : Int32) _ _ _ (by omega) (by omega) hP hS (lv_sub hl [0, 1, 2, 3, 4, 5] rfl) (fun z27 z28 z29 H locs ls hi36 hP hS hl => ?_)
  refine lv_iload_n hx hb dX12_peakBy_98 rfl (lv_at hl 2 rfl) ?_
  refine lv_iload hx hb dX12_peakBy_99 (lv_at hl 1 rfl) ?_
  refine lv_isub hx hb dX12_peakBy_101 ?_
  refine W.widen (k := 0) (n := 0) (Nat.le_of_ble_eq_true rfl) (Nat.le_of_ble_eq_true rfl) ?_
  exact W.iret (v := z27 - z28) hx hb hr (fun t ht hW9 => ⟨⟨z27 - z28, (), rfl, trivial, wd_end hP hK hD ht hW9.alike⟩, hS.F ht⟩) hS.2.2 dX12_peakBy_102 hlocks
theorem hd_X12_peakOf : yX12_peakOf.cls = RX12 ∧ yX12_peakOf.cls ≠ "java/lang/invoke/MethodHandle" ∧ yX12_peakOf.cls ≠ "java/lang/invoke/VarHandle" ∧ (parseMethodDescriptor yX12_peakOf.desc).map (fun d => d.parameters.length) = some 3 := by decide +kernel
set_option maxHeartbeats 4000000 in
set_option maxRecDepth 100000 in
theorem c_X12_peakOf (l : Launch) {D : va_G} {cy : Nat → ClassId} {X : va_W} (S : wPS) (sz : Nat) (o1 : Nat) (h_o1 : isA S o1 12) (o2 : Nat) (h_o2 : isA S o2 10) (o3 : Nat) (h_o3 : isA S o3 10) (x1 : Int32) (hW : wtB S []) (h2 : 0 ≤ x1.toInt ∧ x1.toInt ≤ 300) : Met l yX12_peakOf wsX12_peakOf ({ frames := 18, cells := 0, slots := 0, locals := 380 }) (va_Pc [.ref o1, .ref o2, .ref o3, .int x1] (fun U => U.heap.size = sz ∧ WD D cy X (fun _ => True) S U ∧ NW U)) (va_Qi (fun r (u : wPS) => stp [(17, 100)] [] [] S u) (fun u t => WD D cy X (va_A (X ++ PL cy S) sz) u t) (va_A (X ++ PL cy S) sz)) 0 0 (va_A (X ++ PL cy S) sz) := by
  refine Met.ofW (cc := cX12_peakOf) (maxL := 4) (ret := (some .int)) (by decide) rfl ?_
  intro p e s m args below meth c s₁ B hml hv
  obtain ⟨rfl, hsz, ⟨hP, hK, hD0⟩, hN⟩ := hv
  have hx := B.exec
  have hb := B.bytes
  have hr := B.returns
  have hts := atoms_spec (ws := wsX12_peakOf) B.pre
  have hown : s.vm.findClass RX12 = some m.cls := findClass_of_methodNamed (x := yX12_peakOf) B.named
  have hlocks := B.notSynchronized
  subst hsz
  have hD := hD0.self (sz := s.heap.size)
  generalize hAe : va_A (X ++ PL cy S) s.heap.size = A at hD ⊢
  have hA : ∀ q : Nat, s.heap.size ≤ q → A q := fun q h => by rw [← hAe]; exact Or.inr h
  have hS : va_S A s.heap s.heap [] := va_S.rf
  have hl := lv_entry ([.ref o1, .ref o2, .ref o3, .int x1]) (n := 4) (Nat.le_of_ble_eq_true rfl)
  rw [lg_entry_eq]
  generalize (lg_sl ([.ref o1, .ref o2, .ref o3, .int x1]) ++ List.replicate (4 - (lg_sl ([.ref o1, .ref o2, .ref o3, .int x1])).length) Slot.unset).toArray = ls at hl ⊢
  have hl : lv_has ls 4 [(0, .ref o1), (1, .ref o2), (2, .ref o3), (3, .int x1)] := hl
  have t0 : stp [(17, 100)] [] [] S S := stp.rf hW
  refine lv_aload_n hx hb dX12_peakOf_0 rfl (lv_at hl 0 rfl) ?_
  refine lv_aload_n hx hb dX12_peakOf_1 rfl (lv_at hl 0 rfl) ?_
  refine lv_aload_n hx hb dX12_peakOf_2 rfl (lv_at hl 1 rfl) ?_
  refine lv_aload_n hx hb dX12_peakOf_3 rfl (lv_at hl 2 rfl) ?_
  have hFc := free_all hD hS hA
  obtain ⟨k1, gk1, hk1⟩ := wGt (cy := cy) X S h_o1.1 h_o1.2.1
  refine va_calli (va_runV (As := [.ref o2, .ref o3]) (rest := [.ref o1]) ⟨hx, hb, hml, hown, hts⟩ (c_X12_laysPlaces l (cy := cy) (X := X) (D := D) S _ o1 h_o1 o2 h_o2 o3 h_o3 (hW)) (cwV 2 hts gX12_peakOf_X12_laysPlaces rfl rfl rfl hd_X12_laysPlaces ⟨Nat.le_of_ble_eq_true rfl, Nat.le_of_ble_eq_true rfl⟩) (pV (va_recv hK hP (q := (RX12, TX12, 34)) (ci := 16) (q0 := k1) rfl hk1) hP hK hD hN) rfl rfl hl.1 rfl (lv_room (Nat.le_of_ble_eq_true rfl)) dX12_peakOf_4 ⟨(Nat.zero_le _), (Nat.zero_le _)⟩) hS (fun q _ h => hFc q h) hFc (fun r2 u t H1 locs ht hvm hw hB hz1 hk1 hS => ?_)
  obtain ⟨w3, y4⟩ := hw
  obtain ⟨hP, hD⟩ := wd_post hFc ht hB
  generalize H1 = H at hP hS ⊢
  obtain ⟨S5, rfl⟩ : ∃ z, z = u := ⟨_, rfl⟩
  have t6 : stp [(17, 100)] [] [] S S5 := t0.tr w3 (by decide) (fun _ q => absurd q List.not_mem_nil)
  have xe7 : ext S S5 := w3.x
  refine lv_iload_n hx hb dX12_peakOf_7 rfl (lv_at hl 3 rfl) ?_
  have hFc := free_all hD hS hA
  obtain ⟨k8, gk8, hk8⟩ := wGt (cy := cy) X S5 (xe7.A h_o1).1 (xe7.A h_o1).2.1
  refine va_calli (va_runV (As := [.int r2, .int x1]) (rest := []) ⟨hx, hb, hml, hown, hts⟩ (c_X12_peakBy l (cy := cy) (X := X) (D := D) S5 _ o1 (xe7.A h_o1) r2 x1 (t6.w) (by omega) (by omega)) (cwV 2 hts gX12_peakOf_X12_peakBy rfl rfl rfl hd_X12_peakBy ⟨Nat.le_of_ble_eq_true rfl, Nat.le_of_ble_eq_true rfl⟩) (pV (va_recv hK hP (q := (RX12, TX12, 34)) (ci := 16) (q0 := k8) rfl hk8) hP hK hD hN) rfl rfl hl.1 rfl (lv_room (Nat.le_of_ble_eq_true rfl)) dX12_peakOf_8 ⟨(Nat.zero_le _), (Nat.zero_le _)⟩) hS (fun q _ h => hFc q h) hFc (fun r9 u t H1 locs ht hvm hw hB hz1 hk1 hS => ?_)
  clear hw
  obtain ⟨hP, hD⟩ := wd_post hFc ht hB
  generalize H1 = H at hP hS ⊢
  refine W.widen (k := 0) (n := 0) (Nat.le_of_ble_eq_true rfl) (Nat.le_of_ble_eq_true rfl) ?_
  exact W.iret (v := r9) hx hb hr (fun t ht hW9 => ⟨⟨r9, S5, rfl, t6, wd_end hP hK hD ht hW9.alike⟩, hS.F ht⟩) hS.2.2 dX12_peakOf_11 hlocks
theorem hd_X12_quietestOf : yX12_quietestOf.cls = RX12 ∧ yX12_quietestOf.cls ≠ "java/lang/invoke/MethodHandle" ∧ yX12_quietestOf.cls ≠ "java/lang/invoke/VarHandle" ∧ (parseMethodDescriptor yX12_quietestOf.desc).map (fun d => d.parameters.length) = some 2 := by decide +kernel
set_option maxHeartbeats 4000000 in
set_option maxRecDepth 100000 in
theorem c_X12_quietestOf (l : Launch) {D : va_G} {cy : Nat → ClassId} {X : va_W} (S : wPS) (sz : Nat) (o1 : Nat) (h_o1 : isA S o1 12) (o2 : Nat) (h_o2 : isA S o2 10) (o3 : Nat) (h_o3 : isA S o3 10) (hW : wtB S [])  : Met l yX12_quietestOf wsX12_quietestOf ({ frames := 18, cells := 0, slots := 0, locals := 380 }) (va_Pc [.ref o1, .ref o2, .ref o3] (fun U => U.heap.size = sz ∧ WD D cy X (fun _ => True) S U ∧ NW U)) (va_Qi (fun r (u : wPS) => stp [(17, 100)] [] [] S u ∧ 0 ≤ r.toInt ∧ r.toInt ≤ 200) (fun u t => WD D cy X (va_A (X ++ PL cy S) sz) u t) (va_A (X ++ PL cy S) sz)) 0 0 (va_A (X ++ PL cy S) sz) := by
  refine Met.ofW (cc := cX12_quietestOf) (maxL := 6) (ret := (some .int)) (by decide) rfl ?_
  intro p e s m args below meth c s₁ B hml hv
  obtain ⟨rfl, hsz, ⟨hP, hK, hD0⟩, hN⟩ := hv
  have hx := B.exec
  have hb := B.bytes
  have hr := B.returns
  have hts := atoms_spec (ws := wsX12_quietestOf) B.pre
  have hown : s.vm.findClass RX12 = some m.cls := findClass_of_methodNamed (x := yX12_quietestOf) B.named
  have hlocks := B.notSynchronized
  subst hsz
  have hD := hD0.self (sz := s.heap.size)
  generalize hAe : va_A (X ++ PL cy S) s.heap.size = A at hD ⊢
  have hA : ∀ q : Nat, s.heap.size ≤ q → A q := fun q h => by rw [← hAe]; exact Or.inr h
  have hS : va_S A s.heap s.heap [] := va_S.rf
  have hl := lv_entry ([.ref o1, .ref o2, .ref o3]) (n := 6) (Nat.le_of_ble_eq_true rfl)
  rw [lg_entry_eq]
  generalize (lg_sl ([.ref o1, .ref o2, .ref o3]) ++ List.replicate (6 - (lg_sl ([.ref o1, .ref o2, .ref o3])).length) Slot.unset).toArray = ls at hl ⊢
  have hl : lv_has ls 6 [(0, .ref o1), (1, .ref o2), (2, .ref o3)] := hl
  have t0 : stp [(17, 100)] [] [] S S := stp.rf hW
  refine lv_aload_n hx hb dX12_quietestOf_0 rfl (lv_at hl 0 rfl) ?_
  refine lv_aload_n hx hb dX12_quietestOf_1 rfl (lv_at hl 1 rfl) ?_
  refine lv_aload_n hx hb dX12_quietestOf_2 rfl (lv_at hl 2 rfl) ?_
  have hFc := free_all hD hS hA
  obtain ⟨k1, gk1, hk1⟩ := wGt (cy := cy) X S h_o1.1 h_o1.2.1
  refine va_calli (va_runV (As := [.ref o2, .ref o3]) (rest := []) ⟨hx, hb, hml, hown, hts⟩ (c_X12_laysPlaces l (cy := cy) (X := X) (D := D) S _ o1 h_o1 o2 h_o2 o3 h_o3 (hW)) (cwV 2 hts gX12_quietestOf_X12_laysPlaces rfl rfl rfl hd_X12_laysPlaces ⟨Nat.le_of_ble_eq_true rfl, Nat.le_of_ble_eq_true rfl⟩) (pV (va_recv hK hP (q := (RX12, TX12, 34)) (ci := 16) (q0 := k1) rfl hk1) hP hK hD hN) rfl rfl hl.1 rfl (lv_room (Nat.le_of_ble_eq_true rfl)) dX12_quietestOf_3 ⟨(Nat.zero_le _), (Nat.zero_le _)⟩) hS (fun q _ h => hFc q h) hFc (fun r2 u t H1 locs ht hvm hw hB hz1 hk1 hS => ?_)
  obtain ⟨w3, y4⟩ := hw
  obtain ⟨hP, hD⟩ := wd_post hFc ht hB
  generalize H1 = H at hP hS ⊢
  obtain ⟨S5, rfl⟩ : ∃ z, z = u := ⟨_, rfl⟩
  have t6 : stp [(17, 100)] [] [] S S5 := t0.tr w3 (by decide) (fun _ q => absurd q List.not_mem_nil)
  have xe7 : ext S S5 := w3.x
  refine lv_istore_n (lv' := [(3, .int r2), (0, .ref o1), (1, .ref o2), (2, .ref o3)]) hx hb dX12_quietestOf_6 rfl hl (by decide) rfl (fun ls hl => ?_)
  refine lv_iconst (v := 0) hx hb dX12_quietestOf_7 (by decide) ?_
  refine lv_istore (lv' := [(4, .int (0 : Int32)), (3, .int r2), (0, .ref o1), (1, .ref o2), (2, .ref o3)]) hx hb dX12_quietestOf_8 hl (by decide) rfl (fun ls hl => ?_)
  refine lv_iconst (v := 1) hx hb dX12_quietestOf_10 (by decide) ?_
  refine lv_istore (lv' := [(5, .int (1 : Int32)), (4, .int (0 : Int32)), (3, .int r2), (0, .ref o1), (1, .ref o2), (2, .ref o3)]) hx hb dX12_quietestOf_11 hl (by decide) rfl (fun ls hl => ?_)
  have l32_1 : (1 : Int32).toInt = 1 := rfl
  have l32_0 : (0 : Int32).toInt = 0 := rfl
  have loop13 : ∀ (n : Nat) (w13_4 : Int32) (w13_5 : Int32) (H : Heap) (locs : List Loc) (ls : Array Slot), (201 - w13_5.toInt).toNat < n → 1 ≤ w13_5.toInt ∧ w13_5.toInt ≤ 201 ∧ 0 ≤ w13_4.toInt ∧ w13_4.toInt ≤ 200 → va_P D vwCl (X ++ PL cy S5) H → va_S A s.heap H locs → lv_has ls 6 [(5, .int w13_5), (4, .int w13_4), (3, .int r2), (0, .ref o1), (1, .ref o2), (2, .ref o3)] → (∀ (w13_4x : Int32) (w13_5x : Int32) (H : Heap) (locs : List Loc) (ls : Array Slot), 1 ≤ w13_5x.toInt ∧ w13_5x.toInt ≤ 201 ∧ 0 ≤ w13_4x.toInt ∧ w13_4x.toInt ≤ 200 → va_P D vwCl (X ++ PL cy S5) H → va_S A s.heap H locs → lv_has ls 6 [(5, .int w13_5x), (4, .int w13_4x), (3, .int r2), (0, .ref o1), (1, .ref o2), (2, .ref o3)] → W p l e (headSpec wsX12_quietestOf ({ frames := 18, cells := 0, slots := 0, locals := 380 } : Room)).room s m [.ref o1, .ref o2, .ref o3].toArray below meth c H locs 0 0 (MQ below (va_Qi (fun r (u : wPS) => stp [(17, 100)] [] [] S u ∧ 0 ≤ r.toInt ∧ r.toInt ≤ 200) (fun u t => WD D cy X A u t) A) [.ref o1, .ref o2, .ref o3].toArray s 0 0 A) (F0 m 51 ls [])) → W p l e (headSpec wsX12_quietestOf ({ frames := 18, cells := 0, slots := 0, locals := 380 } : Room)).room s m [.ref o1, .ref o2, .ref o3].toArray below meth c H locs 0 0 (MQ below (va_Qi (fun r (u : wPS) => stp [(17, 100)] [] [] S u ∧ 0 ≤ r.toInt ∧ r.toInt ≤ 200) (fun u t => WD D cy X A u t) A) [.ref o1, .ref o2, .ref o3].toArray s 0 0 A) (F0 m 13 ls []) := by
    intro n13
    induction n13 with
    | zero => intro w13_4 w13_5 H locs ls hm; exact absurd hm (Nat.not_lt_zero _)
    | succ n13 ih13 =>
      intro w13_4 w13_5 H locs ls hm13 hi13 hP hS hl ko13
      refine lv_iload hx hb dX12_quietestOf_13 (lv_at hl 0 rfl) ?_
      refine lv_iload_n hx hb dX12_quietestOf_15 rfl (lv_at hl 2 rfl) ?_
      refine lv_icmp_ge (tgt := 51) hx hb dX12_quietestOf_16 (by decide) (fun c8 => ?_) (fun c8 => ?_)
      · have c8i : r2.toInt ≤ w13_5.toInt := le_v rfl rfl c8
        exact ko13 w13_4 w13_5 _ _ _ (by omega) hP hS (lv_sub hl [0, 1, 2, 3, 4, 5] rfl)
      · have c8i : w13_5.toInt < r2.toInt := nle_v rfl rfl c8
        refine lv_aload_n hx hb dX12_quietestOf_19 rfl (lv_at hl 3 rfl) ?_
        refine lv_iload_n hx hb dX12_quietestOf_20 rfl (lv_at hl 2 rfl) ?_
        refine lv_iload hx hb dX12_quietestOf_21 (lv_at hl 0 rfl) ?_
        have hFc := free_all hD hS hA
        obtain ⟨k9, gk9, hk9⟩ := wGt (cy := cy) X S5 (xe7.A h_o1).1 (xe7.A h_o1).2.1
        refine va_calli (va_runV (As := [.int r2, .int w13_5]) (rest := []) ⟨hx, hb, hml, hown, hts⟩ (c_X12_peakBy l (cy := cy) (X := X) (D := D) S5 _ o1 (xe7.A h_o1) r2 w13_5 (t6.w) (by omega) (by omega)) (cwV 2 hts gX12_quietestOf_X12_peakBy rfl rfl rfl hd_X12_peakBy ⟨Nat.le_of_ble_eq_true rfl, Nat.le_of_ble_eq_true rfl⟩) (pV (va_recv hK hP (q := (RX12, TX12, 34)) (ci := 16) (q0 := k9) rfl hk9) hP hK hD hN) rfl rfl hl.1 rfl (lv_room (Nat.le_of_ble_eq_true rfl)) dX12_quietestOf_23 ⟨(Nat.zero_le _), (Nat.zero_le _)⟩) hS (fun q _ h => hFc q h) hFc (fun r10 u t H1 locs ht hvm hw hB hz1 hk1 hS => ?_)
        clear hw
        obtain ⟨hP, hD⟩ := wd_post hFc ht hB
        generalize H1 = H at hP hS ⊢
        refine lv_aload_n hx hb dX12_quietestOf_26 rfl (lv_at hl 3 rfl) ?_
        refine lv_iload_n hx hb dX12_quietestOf_27 rfl (lv_at hl 2 rfl) ?_
        refine lv_iload hx hb dX12_quietestOf_28 (lv_at hl 1 rfl) ?_
        have hFc := free_all hD hS hA
        obtain ⟨k11, gk11, hk11⟩ := wGt (cy := cy) X S5 (xe7.A h_o1).1 (xe7.A h_o1).2.1
        refine va_calli (va_runV (As := [.int r2, .int w13_4]) (rest := [.int r10]) ⟨hx, hb, hml, hown, hts⟩ (c_X12_peakBy l (cy := cy) (X := X) (D := D) S5 _ o1 (xe7.A h_o1) r2 w13_4 (t6.w) (by omega) (by omega)) (cwV 2 hts gX12_quietestOf_X12_peakBy rfl rfl rfl hd_X12_peakBy ⟨Nat.le_of_ble_eq_true rfl, Nat.le_of_ble_eq_true rfl⟩) (pV (va_recv hK hP (q := (RX12, TX12, 34)) (ci := 16) (q0 := k11) rfl hk11) hP hK hD hN) rfl rfl hl.1 rfl (lv_room (Nat.le_of_ble_eq_true rfl)) dX12_quietestOf_30 ⟨(Nat.zero_le _), (Nat.zero_le _)⟩) hS (fun q _ h => hFc q h) hFc (fun r12 u t H1 locs ht hvm hw hB hz1 hk1 hS => ?_)
        clear hw
        obtain ⟨hP, hD⟩ := wd_post hFc ht hB
        generalize H1 = H at hP hS ⊢
        refine lv_icmp_ge (tgt := 41) hx hb dX12_quietestOf_33 (by decide) (fun c13 => ?_) (fun c13 => ?_)
        · have c13i : r12.toInt ≤ r10.toInt := le_v rfl rfl c13
          refine lv_iload hx hb dX12_quietestOf_41 (lv_at hl 1 rfl) ?_
          refine lv_istore (lv' := [(4, .int w13_4), (5, .int w13_5), (3, .int r2), (0, .ref o1), (1, .ref o2), (2, .ref o3)]) hx hb dX12_quietestOf_43 hl (by decide) rfl (fun ls hl => ?_)
          refine lv_iinc (v := w13_5 + (1 : Int32)) (lv' := [(5, .int (w13_5 + (1 : Int32))), (4, .int w13_4), (3, .int r2), (0, .ref o1), (1, .ref o2), (2, .ref o3)]) hx hb dX12_quietestOf_45 hl (k := 1) rfl (by rfl) (by decide) rfl (fun ls hl => ?_)
          refine lv_goto (tgt := 13) hx hb dX12_quietestOf_48 (by decide) ?_
          have i14 : (w13_5 + (1 : Int32)).toInt = w13_5.toInt + 1 := t_addr (n := 1) rfl (by omega)
          exact ih13 w13_4 (w13_5 + (1 : Int32)) _ _ _ (Nat.lt_of_lt_of_le (by omega) (Nat.le_of_lt_succ hm13)) (by omega) hP hS (lv_sub hl [0, 1, 2, 3, 4, 5] rfl) ko13
        · have c13i : r10.toInt < r12.toInt := nle_v rfl rfl c13
          refine lv_iload hx hb dX12_quietestOf_36 (lv_at hl 0 rfl) ?_
          refine lv_goto (tgt := 43) hx hb dX12_quietestOf_38 (by decide) ?_
          refine lv_istore (lv' := [(4, .int w13_5), (5, .int w13_5), (3, .int r2), (0, .ref o1), (1, .ref o2), (2, .ref o3)]) hx hb dX12_quietestOf_43 hl (by decide) rfl (fun ls hl => ?_)
          refine lv_iinc (v := w13_5 + (1 : Int32)) (lv' := [(5, .int (w13_5 + (1 : Int32))), (4, .int w13_5), (3, .int r2), (0, .ref o1), (1, .ref o2), (2, .ref o3)]) hx hb dX12_quietestOf_45 hl (k := 1) rfl (by rfl) (by decide) rfl (fun ls hl => ?_)
          refine lv_goto (tgt := 13) hx hb dX12_quietestOf_48 (by decide) ?_
          have i15 : (w13_5 + (1 : Int32)).toInt = w13_5.toInt + 1 := t_addr (n := 1) rfl (by omega)
          exact ih13 w13_5 (w13_5 + (1 : Int32)) _ _ _ (Nat.lt_of_lt_of_le (by omega) (Nat.le_of_lt_succ hm13)) (by omega) hP hS (lv_sub hl [0, 1, 2, 3, 4, 5] rfl) ko13
  refine loop13 202 (0 : Int32) (1 : Int32) _ _ _ (by omega) (by omega) hP hS (lv_sub hl [0, 1, 2, 3, 4, 5] rfl) (fun z17 z18 H locs ls hi13 hP hS hl => ?_)
  refine lv_iload hx hb dX12_quietestOf_51 (lv_at hl 1 rfl) ?_
  refine W.widen (k := 0) (n := 0) (Nat.le_of_ble_eq_true rfl) (Nat.le_of_ble_eq_true rfl) ?_
  exact W.iret (v := z17) hx hb hr (fun t ht hW9 => ⟨⟨z17, S5, rfl, ⟨t6, (by omega)⟩, wd_end hP hK hD ht hW9.alike⟩, hS.F ht⟩) hS.2.2 dX12_quietestOf_53 hlocks
theorem hi_X12_peak_X10 : ∀ w ∈ u_ws RX10 TX10 23, w ∈ wsX12_peak := by decide +kernel
theorem hd_X12_peak : yX12_peak.cls = RX12 ∧ yX12_peak.cls ≠ "java/lang/invoke/MethodHandle" ∧ yX12_peak.cls ≠ "java/lang/invoke/VarHandle" ∧ (parseMethodDescriptor yX12_peak.desc).map (fun d => d.parameters.length) = some 3 := by decide +kernel
set_option maxHeartbeats 4000000 in
set_option maxRecDepth 100000 in
theorem c_X12_peak (l : Launch) {D : va_G} {cy : Nat → ClassId} {X : va_W} (S : wPS) (sz : Nat) (o1 : Nat) (h_o1 : isA S o1 12) (x1 : Int32) (x2 : Int32) (x3 : Int32) (hW : wtB S [])  : Met l yX12_peak wsX12_peak ({ frames := 19, cells := 0, slots := 0, locals := 403 }) (va_Pc [.ref o1, .int x1, .int x2, .int x3] (fun U => U.heap.size = sz ∧ WD D cy X (fun _ => True) S U ∧ NW U)) (va_Qi (fun r (u : wPS) => stp [(12, 15), (17, 100)] [] [] S u) (fun u t => WD D cy X (va_A (X ++ PL cy S) sz) u t) (va_A (X ++ PL cy S) sz)) 0 0 (va_A (X ++ PL cy S) sz) := by
  refine Met.ofW (cc := cX12_peak) (maxL := 4) (ret := (some .int)) (by decide) rfl ?_
  intro p e s m args below meth c s₁ B hml hv
  obtain ⟨rfl, hsz, ⟨hP, hK, hD0⟩, hN⟩ := hv
  have hx := B.exec
  have hb := B.bytes
  have hr := B.returns
  have hts := atoms_spec (ws := wsX12_peak) B.pre
  have hown : s.vm.findClass RX12 = some m.cls := findClass_of_methodNamed (x := yX12_peak) B.named
  have hlocks := B.notSynchronized
  subst hsz
  have hD := hD0.self (sz := s.heap.size)
  generalize hAe : va_A (X ++ PL cy S) s.heap.size = A at hD ⊢
  have hA : ∀ q : Nat, s.heap.size ≤ q → A q := fun q h => by rw [← hAe]; exact Or.inr h
  have hS : va_S A s.heap s.heap [] := va_S.rf
  have hl := lv_entry ([.ref o1, .int x1, .int x2, .int x3]) (n := 4) (Nat.le_of_ble_eq_true rfl)
  rw [lg_entry_eq]
  generalize (lg_sl ([.ref o1, .int x1, .int x2, .int x3]) ++ List.replicate (4 - (lg_sl ([.ref o1, .int x1, .int x2, .int x3])).length) Slot.unset).toArray = ls at hl ⊢
  have hl : lv_has ls 4 [(0, .ref o1), (1, .int x1), (2, .int x2), (3, .int x3)] := hl
  have t0 : stp [(12, 15), (17, 100)] [] [] S S := stp.rf hW
  refine lv_aload_n hx hb dX12_peak_0 rfl (lv_at hl 0 rfl) ?_
  refine lv_iload_n hx hb dX12_peak_1 rfl (lv_at hl 1 rfl) ?_
  have hFc := free_all hD hS hA
  obtain ⟨k1, gk1, hk1⟩ := wGt (cy := cy) X S h_o1.1 h_o1.2.1
  refine va_calli (va_runV (As := [.int x1]) (rest := []) ⟨hx, hb, hml, hown, hts⟩ (c_X12_isGear l (cy := cy) (X := X) (D := D) S _ o1 h_o1 x1 (hW)) (cwV 1 hts gX12_peak_X12_isGear rfl rfl rfl hd_X12_isGear ⟨Nat.le_of_ble_eq_true rfl, Nat.le_of_ble_eq_true rfl⟩) (pV (va_recv hK hP (q := (RX12, TX12, 34)) (ci := 16) (q0 := k1) rfl hk1) hP hK hD hN) rfl rfl hl.1 rfl (lv_room (Nat.le_of_ble_eq_true rfl)) dX12_peak_2 ⟨(Nat.zero_le _), (Nat.zero_le _)⟩) hS (fun q _ h => hFc q h) hFc (fun r2 u t H1 locs ht hvm hw hB hz1 hk1 hS => ?_)
  have c3 := hw
  obtain ⟨hP, hD⟩ := wd_post hFc ht hB
  generalize H1 = H at hP hS ⊢
  obtain rfl : f_X12_isGear S o1 x1 = r2 := c3.symm
  have F4 := ((hW.at h_o1 List.not_mem_nil).to_12 h_o1.2.1).F0
  have i5 : (f_X12_isGear S o1 x1).toInt = 0 ∨ (0 ≤ x1.toInt ∧ x1.toInt < (S.I (S.f o1 0) 2).toInt) := by have h9 := ig_rng x1 ((hW.at h_o1 List.not_mem_nil).to_12 h_o1.2.1) hW; rw [f_of F4.1] at h9; exact h9
  refine lv_if_eq (tgt := 16) hx hb dX12_peak_5 (by decide) (fun c6 => ?_) (fun c6 => ?_)
  · have c6i : (f_X12_isGear S o1 x1).toInt = 0 := eq_v rfl rfl c6
    refine lv_aload_n hx hb dX12_peak_16 rfl (lv_at hl 0 rfl) ?_
    refine lv_iconst (v := 1) hx hb dX12_peak_17 (by decide) ?_
    have l32_1 : (1 : Int32).toInt = 1 := rfl
    have hFc := free_all hD hS hA
    obtain ⟨k7, gk7, hk7⟩ := wGt (cy := cy) X S h_o1.1 h_o1.2.1
    refine va_calli (va_runV (As := [.int (1 : Int32)]) (rest := []) ⟨hx, hb, hml, hown, hts⟩ (c_X12_fails l (cy := cy) (X := X) (D := D) S _ o1 h_o1 (1 : Int32) (hW)) (cwV 1 hts gX12_peak_X12_fails rfl rfl rfl hd_X12_fails ⟨Nat.le_of_ble_eq_true rfl, Nat.le_of_ble_eq_true rfl⟩) (pV (va_recv hK hP (q := (RX12, TX12, 34)) (ci := 16) (q0 := k7) rfl hk7) hP hK hD hN) rfl rfl hl.1 rfl (lv_room (Nat.le_of_ble_eq_true rfl)) dX12_peak_18 ⟨(Nat.zero_le _), (Nat.zero_le _)⟩) hS (fun q _ h => hFc q h) hFc (fun r8 u t H1 locs ht hvm hw hB hz1 hk1 hS => ?_)
    obtain ⟨c9, w10⟩ := hw
    obtain ⟨hP, hD⟩ := wd_post hFc ht hB
    generalize H1 = H at hP hS ⊢
    obtain ⟨S11, rfl⟩ : ∃ z, z = u := ⟨_, rfl⟩
    have t12 : stp [(12, 15), (17, 100)] [] [] S S11 := t0.tr w10 (by decide) (fun _ q => absurd q List.not_mem_nil)
    have xe13 : ext S S11 := w10.x
    refine W.widen (k := 0) (n := 0) (Nat.le_of_ble_eq_true rfl) (Nat.le_of_ble_eq_true rfl) ?_
    exact W.iret (v := r8) hx hb hr (fun t ht hW9 => ⟨⟨r8, S11, rfl, t12, wd_end hP hK hD ht hW9.alike⟩, hS.F ht⟩) hS.2.2 dX12_peak_21 hlocks
  · have c6i : ¬ (f_X12_isGear S o1 x1).toInt = 0 := neq_v rfl rfl c6
    refine lv_aload_n hx hb dX12_peak_8 rfl (lv_at hl 0 rfl) ?_
    refine lv_iload_n hx hb dX12_peak_9 rfl (lv_at hl 2 rfl) ?_
    have hFc := free_all hD hS hA
    obtain ⟨k14, gk14, hk14⟩ := wGt (cy := cy) X S h_o1.1 h_o1.2.1
    refine va_calli (va_runV (As := [.int x2]) (rest := []) ⟨hx, hb, hml, hown, hts⟩ (c_X12_isGear l (cy := cy) (X := X) (D := D) S _ o1 h_o1 x2 (hW)) (cwV 1 hts gX12_peak_X12_isGear rfl rfl rfl hd_X12_isGear ⟨Nat.le_of_ble_eq_true rfl, Nat.le_of_ble_eq_true rfl⟩) (pV (va_recv hK hP (q := (RX12, TX12, 34)) (ci := 16) (q0 := k14) rfl hk14) hP hK hD hN) rfl rfl hl.1 rfl (lv_room (Nat.le_of_ble_eq_true rfl)) dX12_peak_10 ⟨(Nat.zero_le _), (Nat.zero_le _)⟩) hS (fun q _ h => hFc q h) hFc (fun r15 u t H1 locs ht hvm hw hB hz1 hk1 hS => ?_)
    have c16 := hw
    obtain ⟨hP, hD⟩ := wd_post hFc ht hB
    generalize H1 = H at hP hS ⊢
    obtain rfl : f_X12_isGear S o1 x2 = r15 := c16.symm
    have i17 : (f_X12_isGear S o1 x2).toInt = 0 ∨ (0 ≤ x2.toInt ∧ x2.toInt < (S.I (S.f o1 0) 2).toInt) := by have h9 := ig_rng x2 ((hW.at h_o1 List.not_mem_nil).to_12 h_o1.2.1) hW; rw [f_of F4.1] at h9; exact h9
    refine lv_if_ne (tgt := 22) hx hb dX12_peak_13 (by decide) (fun c18 => ?_) (fun c18 => ?_)
    · have c18i : ¬ (f_X12_isGear S o1 x2).toInt = 0 := neq_v rfl rfl c18
      refine lv_iload_n hx hb dX12_peak_22 rfl (lv_at hl 3 rfl) ?_
      refine lv_i2l hx hb dX12_peak_23 rfl ?_
      refine lv_lconst (v := 0) hx hb dX12_peak_24 (by decide) ?_
      refine lv_aload_n hx hb dX12_peak_25 rfl (lv_at hl 0 rfl) ?_
      refine lv_iload_n hx hb dX12_peak_26 rfl (lv_at hl 2 rfl) ?_
      have hFc := free_all hD hS hA
      obtain ⟨k19, gk19, hk19⟩ := wGt (cy := cy) X S h_o1.1 h_o1.2.1
      refine va_callq (va_runV (As := [.int x2]) (rest := [.long (0 : Int64), .long x3.toInt64]) ⟨hx, hb, hml, hown, hts⟩ (c_X12_gearAt l (cy := cy) (X := X) (D := D) S _ o1 h_o1 x2 (hW) (by rw [f_of F4.1]; omega)) (cwV 1 hts gX12_peak_X12_gearAt rfl rfl rfl hd_X12_gearAt ⟨Nat.le_of_ble_eq_true rfl, Nat.le_of_ble_eq_true rfl⟩) (pV (va_recv hK hP (q := (RX12, TX12, 34)) (ci := 16) (q0 := k19) rfl hk19) hP hK hD hN) rfl rfl hl.1 rfl (lv_room (Nat.le_of_ble_eq_true rfl)) dX12_peak_27 ⟨(Nat.zero_le _), (Nat.zero_le _)⟩) hS (fun q _ h => hFc q h) hFc (fun r20 u t H1 locs ht hvm hw hB hz1 hk1 hS => ?_)
      obtain ⟨r20, rfl, c21, o22⟩ := hw
      obtain ⟨hP, hD⟩ := wd_post hFc ht hB
      generalize H1 = H at hP hS ⊢
      refine W.eq (g2 := F0 m 30 ls [.ref r20, .long (0 : Int64), .long x3.toInt64]) rfl ?_
      obtain ⟨k23, gk23, hk23⟩ := wGt (cy := cy) X S o22.1 o22.2.1
      have i24 := ((hW.at o22 List.not_mem_nil).to_10 o22.2.1).R1
      refine va_getN (D := D) (ci := 14) (v := .int (S.I r20 1)) (C := RX10) (T := TX10) (N := 23) hx hb hts hi_X12_peak_X10 hown hK hP k23 hk23 rfl 1 (by decide) (va_Nw.use rfl (hN (.fieldLinkNest RX12 332 "HobhouseModel$Gear" "teeth" "I" "HobhouseModel") (by decide +kernel))) (fun _ h9 => h9) rfl dX12_peak_30 ?_
      refine lv_iconst (v := 1) hx hb dX12_peak_33 (by decide) ?_
      refine lv_isub hx hb dX12_peak_34 ?_
      refine lv_i2l hx hb dX12_peak_35 rfl ?_
      have hFc := free_all hD hS hA
      refine va_calli (va_runS (As := [.long x3.toInt64, .long (0 : Int64), .long (((S.I r20 1) - (1 : Int32)).toInt64)]) (rest := []) ⟨hx, hb, hml, hown, hts⟩ (c_X12_in l (cy := cy) (X := X) (D := D) S _ x3.toInt64 (0 : Int64) (((S.I r20 1) - (1 : Int32)).toInt64)) (cwS 3 hts gX12_peak_X12_in rfl rfl rfl hd_X12_in ⟨Nat.le_of_ble_eq_true rfl, Nat.le_of_ble_eq_true rfl⟩) (pS hP hK hD hN) rfl rfl hl.1 rfl (lv_room (Nat.le_of_ble_eq_true rfl)) dX12_peak_36 ⟨(Nat.zero_le _), (Nat.zero_le _)⟩) hS (fun q _ h => hFc q h) hFc (fun r25 u t H1 locs ht hvm hw hB hz1 hk1 hS => ?_)
      have c26 := hw
      obtain ⟨hP, hD⟩ := wd_post hFc ht hB
      generalize H1 = H at hP hS ⊢
      obtain rfl : f_X12_in x3.toInt64 (0 : Int64) (((S.I r20 1) - (1 : Int32)).toInt64) = r25 := c26.symm
      have i27 := i64_i x3
      have l64_0 : (0 : Int64).toInt = 0 := rfl
      have l32_1 : (1 : Int32).toInt = 1 := rfl
      have i28 : ((S.I r20 1) - (1 : Int32)).toInt = (S.I r20 1).toInt - 1 := t_subr (n := 1) rfl (by omega)
      have i29 := i64_i ((S.I r20 1) - (1 : Int32))
      have i30 := in_rng x3.toInt64 (0 : Int64) (((S.I r20 1) - (1 : Int32)).toInt64)
      refine lv_if_ne (tgt := 48) hx hb dX12_peak_39 (by decide) (fun c31 => ?_) (fun c31 => ?_)
      · have c31i : ¬ (f_X12_in x3.toInt64 (0 : Int64) (((S.I r20 1) - (1 : Int32)).toInt64)).toInt = 0 := neq_v rfl rfl c31
        refine lv_aload_n hx hb dX12_peak_48 rfl (lv_at hl 0 rfl) ?_
        refine lv_iload_n hx hb dX12_peak_49 rfl (lv_at hl 1 rfl) ?_
        refine lv_iload_n hx hb dX12_peak_50 rfl (lv_at hl 2 rfl) ?_
        have hFc := free_all hD hS hA
        obtain ⟨k32, gk32, hk32⟩ := wGt (cy := cy) X S h_o1.1 h_o1.2.1
        refine va_calli (va_runV (As := [.int x1, .int x2]) (rest := []) ⟨hx, hb, hml, hown, hts⟩ (c_X12_isPair l (cy := cy) (X := X) (D := D) S _ o1 h_o1 x1 x2 (hW) (by rw [f_of F4.1]; omega) (by rw [f_of F4.1]; omega)) (cwV 2 hts gX12_peak_X12_isPair rfl rfl rfl hd_X12_isPair ⟨Nat.le_of_ble_eq_true rfl, Nat.le_of_ble_eq_true rfl⟩) (pV (va_recv hK hP (q := (RX12, TX12, 34)) (ci := 16) (q0 := k32) rfl hk32) hP hK hD hN) rfl rfl hl.1 rfl (lv_room (Nat.le_of_ble_eq_true rfl)) dX12_peak_51 ⟨(Nat.zero_le _), (Nat.zero_le _)⟩) hS (fun q _ h => hFc q h) hFc (fun r33 u t H1 locs ht hvm hw hB hz1 hk1 hS => ?_)
        obtain ⟨c34, y35⟩ := hw
        obtain ⟨hP, hD⟩ := wd_post hFc ht hB
        generalize H1 = H at hP hS ⊢
        obtain rfl : f_X12_isPair S o1 x1 x2 = r33 := c34.symm
        refine lv_if_eq (tgt := 79) hx hb dX12_peak_54 (by decide) (fun c36 => ?_) (fun c36 => ?_)
        · have c36i : (f_X12_isPair S o1 x1 x2).toInt = 0 := eq_v rfl rfl c36
          refine lv_aload_n hx hb dX12_peak_79 rfl (lv_at hl 0 rfl) ?_
          refine lv_iconst (v := 3) hx hb dX12_peak_80 (by decide) ?_
          have l32_3 : (3 : Int32).toInt = 3 := rfl
          have hFc := free_all hD hS hA
          obtain ⟨k37, gk37, hk37⟩ := wGt (cy := cy) X S h_o1.1 h_o1.2.1
          refine va_calli (va_runV (As := [.int (3 : Int32)]) (rest := []) ⟨hx, hb, hml, hown, hts⟩ (c_X12_fails l (cy := cy) (X := X) (D := D) S _ o1 h_o1 (3 : Int32) (hW)) (cwV 1 hts gX12_peak_X12_fails rfl rfl rfl hd_X12_fails ⟨Nat.le_of_ble_eq_true rfl, Nat.le_of_ble_eq_true rfl⟩) (pV (va_recv hK hP (q := (RX12, TX12, 34)) (ci := 16) (q0 := k37) rfl hk37) hP hK hD hN) rfl rfl hl.1 rfl (lv_room (Nat.le_of_ble_eq_true rfl)) dX12_peak_81 ⟨(Nat.zero_le _), (Nat.zero_le _)⟩) hS (fun q _ h => hFc q h) hFc (fun r38 u t H1 locs ht hvm hw hB hz1 hk1 hS => ?_)
          obtain ⟨c39, w40⟩ := hw
          obtain ⟨hP, hD⟩ := wd_post hFc ht hB
          generalize H1 = H at hP hS ⊢
          obtain ⟨S41, rfl⟩ : ∃ z, z = u := ⟨_, rfl⟩
          have t42 : stp [(12, 15), (17, 100)] [] [] S S41 := t0.tr w40 (by decide) (fun _ q => absurd q List.not_mem_nil)
          have xe43 : ext S S41 := w40.x
          refine W.widen (k := 0) (n := 0) (Nat.le_of_ble_eq_true rfl) (Nat.le_of_ble_eq_true rfl) ?_
          exact W.iret (v := r38) hx hb hr (fun t ht hW9 => ⟨⟨r38, S41, rfl, t42, wd_end hP hK hD ht hW9.alike⟩, hS.F ht⟩) hS.2.2 dX12_peak_84 hlocks
        · have c36i : ¬ (f_X12_isPair S o1 x1 x2).toInt = 0 := neq_v rfl rfl c36
          refine lv_aload_n hx hb dX12_peak_57 rfl (lv_at hl 0 rfl) ?_
          refine lv_aload_n hx hb dX12_peak_58 rfl (lv_at hl 0 rfl) ?_
          refine lv_aload_n hx hb dX12_peak_59 rfl (lv_at hl 0 rfl) ?_
          refine lv_iload_n hx hb dX12_peak_60 rfl (lv_at hl 1 rfl) ?_
          have hFc := free_all hD hS hA
          obtain ⟨k44, gk44, hk44⟩ := wGt (cy := cy) X S h_o1.1 h_o1.2.1
          refine va_callq (va_runV (As := [.int x1]) (rest := [.ref o1, .ref o1]) ⟨hx, hb, hml, hown, hts⟩ (c_X12_gearAt l (cy := cy) (X := X) (D := D) S _ o1 h_o1 x1 (hW) (by rw [f_of F4.1]; omega)) (cwV 1 hts gX12_peak_X12_gearAt rfl rfl rfl hd_X12_gearAt ⟨Nat.le_of_ble_eq_true rfl, Nat.le_of_ble_eq_true rfl⟩) (pV (va_recv hK hP (q := (RX12, TX12, 34)) (ci := 16) (q0 := k44) rfl hk44) hP hK hD hN) rfl rfl hl.1 rfl (lv_room (Nat.le_of_ble_eq_true rfl)) dX12_peak_61 ⟨(Nat.zero_le _), (Nat.zero_le _)⟩) hS (fun q _ h => hFc q h) hFc (fun r45 u t H1 locs ht hvm hw hB hz1 hk1 hS => ?_)
          obtain ⟨r45, rfl, c46, o47⟩ := hw
          obtain ⟨hP, hD⟩ := wd_post hFc ht hB
          generalize H1 = H at hP hS ⊢
          refine W.eq (g2 := F0 m 64 ls [.ref r45, .ref o1, .ref o1]) rfl ?_
          refine lv_aload_n hx hb dX12_peak_64 rfl (lv_at hl 0 rfl) ?_
          refine lv_iload_n hx hb dX12_peak_65 rfl (lv_at hl 2 rfl) ?_
          have hFc := free_all hD hS hA
          obtain ⟨k48, gk48, hk48⟩ := wGt (cy := cy) X S h_o1.1 h_o1.2.1
          refine va_callq (va_runV (As := [.int x2]) (rest := [.ref r45, .ref o1, .ref o1]) ⟨hx, hb, hml, hown, hts⟩ (c_X12_gearAt l (cy := cy) (X := X) (D := D) S _ o1 h_o1 x2 (hW) (by rw [f_of F4.1]; omega)) (cwV 1 hts gX12_peak_X12_gearAt rfl rfl rfl hd_X12_gearAt ⟨Nat.le_of_ble_eq_true rfl, Nat.le_of_ble_eq_true rfl⟩) (pV (va_recv hK hP (q := (RX12, TX12, 34)) (ci := 16) (q0 := k48) rfl hk48) hP hK hD hN) rfl rfl hl.1 rfl (lv_room (Nat.le_of_ble_eq_true rfl)) dX12_peak_66 ⟨(Nat.zero_le _), (Nat.zero_le _)⟩) hS (fun q _ h => hFc q h) hFc (fun r49 u t H1 locs ht hvm hw hB hz1 hk1 hS => ?_)
          obtain ⟨r49, rfl, c50, o51⟩ := hw
          obtain ⟨hP, hD⟩ := wd_post hFc ht hB
          generalize H1 = H at hP hS ⊢
          refine W.eq (g2 := F0 m 69 ls [.ref r49, .ref r45, .ref o1, .ref o1]) rfl ?_
          refine lv_iload_n hx hb dX12_peak_69 rfl (lv_at hl 3 rfl) ?_
          have hFc := free_all hD hS hA
          obtain ⟨k52, gk52, hk52⟩ := wGt (cy := cy) X S h_o1.1 h_o1.2.1
          refine va_calli (va_runV (As := [.ref r45, .ref r49, .int x3]) (rest := [.ref o1]) ⟨hx, hb, hml, hown, hts⟩ (c_X12_peakOf l (cy := cy) (X := X) (D := D) S _ o1 h_o1 r45 o47 r49 o51 x3 (hW) (by omega)) (cwV 3 hts gX12_peak_X12_peakOf rfl rfl rfl hd_X12_peakOf ⟨Nat.le_of_ble_eq_true rfl, Nat.le_of_ble_eq_true rfl⟩) (pV (va_recv hK hP (q := (RX12, TX12, 34)) (ci := 16) (q0 := k52) rfl hk52) hP hK hD hN) rfl rfl hl.1 rfl (lv_room (Nat.le_of_ble_eq_true rfl)) dX12_peak_70 ⟨(Nat.zero_le _), (Nat.zero_le _)⟩) hS (fun q _ h => hFc q h) hFc (fun r53 u t H1 locs ht hvm hw hB hz1 hk1 hS => ?_)
          have w54 := hw
          obtain ⟨hP, hD⟩ := wd_post hFc ht hB
          generalize H1 = H at hP hS ⊢
          obtain ⟨S55, rfl⟩ : ∃ z, z = u := ⟨_, rfl⟩
          have t56 : stp [(12, 15), (17, 100)] [] [] S S55 := t0.tr w54 (by decide) (fun _ q => absurd q List.not_mem_nil)
          have xe57 : ext S S55 := w54.x
          have hFc := free_all hD hS hA
          obtain ⟨k58, gk58, hk58⟩ := wGt (cy := cy) X S55 (xe57.A h_o1).1 (xe57.A h_o1).2.1
          refine va_calli (va_runV (As := [.int r53]) (rest := []) ⟨hx, hb, hml, hown, hts⟩ (c_X12_answer l (cy := cy) (X := X) (D := D) S55 _ o1 (xe57.A h_o1) r53 (t56.w)) (cwV 1 hts gX12_peak_X12_answer rfl rfl rfl hd_X12_answer ⟨Nat.le_of_ble_eq_true rfl, Nat.le_of_ble_eq_true rfl⟩) (pV (va_recv hK hP (q := (RX12, TX12, 34)) (ci := 16) (q0 := k58) rfl hk58) hP hK hD hN) rfl rfl hl.1 rfl (lv_room (Nat.le_of_ble_eq_true rfl)) dX12_peak_73 ⟨(Nat.zero_le _), (Nat.zero_le _)⟩) hS (fun q _ h => hFc q h) hFc (fun r59 u t H1 locs ht hvm hw hB hz1 hk1 hS => ?_)
          obtain ⟨c60, w61⟩ := hw
          obtain ⟨hP, hD⟩ := wd_post hFc ht hB
          generalize H1 = H at hP hS ⊢
          obtain ⟨S62, rfl⟩ : ∃ z, z = u := ⟨_, rfl⟩
          have t63 : stp [(12, 15), (17, 100)] [] [] S S62 := t56.tr w61 (by decide) (fun _ q => absurd q List.not_mem_nil)
          have xe64 : ext S55 S62 := w61.x
          refine lv_goto (tgt := 84) hx hb dX12_peak_76 (by decide) ?_
          refine W.widen (k := 0) (n := 0) (Nat.le_of_ble_eq_true rfl) (Nat.le_of_ble_eq_true rfl) ?_
          exact W.iret (v := r59) hx hb hr (fun t ht hW9 => ⟨⟨r59, S62, rfl, t63, wd_end hP hK hD ht hW9.alike⟩, hS.F ht⟩) hS.2.2 dX12_peak_84 hlocks
      · have c31i : (f_X12_in x3.toInt64 (0 : Int64) (((S.I r20 1) - (1 : Int32)).toInt64)).toInt = 0 := eq_v rfl rfl c31
        refine lv_aload_n hx hb dX12_peak_42 rfl (lv_at hl 0 rfl) ?_
        refine lv_iconst (v := 2) hx hb dX12_peak_43 (by decide) ?_
        have l32_2 : (2 : Int32).toInt = 2 := rfl
        have hFc := free_all hD hS hA
        obtain ⟨k65, gk65, hk65⟩ := wGt (cy := cy) X S h_o1.1 h_o1.2.1
        refine va_calli (va_runV (As := [.int (2 : Int32)]) (rest := []) ⟨hx, hb, hml, hown, hts⟩ (c_X12_fails l (cy := cy) (X := X) (D := D) S _ o1 h_o1 (2 : Int32) (hW)) (cwV 1 hts gX12_peak_X12_fails rfl rfl rfl hd_X12_fails ⟨Nat.le_of_ble_eq_true rfl, Nat.le_of_ble_eq_true rfl⟩) (pV (va_recv hK hP (q := (RX12, TX12, 34)) (ci := 16) (q0 := k65) rfl hk65) hP hK hD hN) rfl rfl hl.1 rfl (lv_room (Nat.le_of_ble_eq_true rfl)) dX12_peak_44 ⟨(Nat.zero_le _), (Nat.zero_le _)⟩) hS (fun q _ h => hFc q h) hFc (fun r66 u t H1 locs ht hvm hw hB hz1 hk1 hS => ?_)
        obtain ⟨c67, w68⟩ := hw
        obtain ⟨hP, hD⟩ := wd_post hFc ht hB
        generalize H1 = H at hP hS ⊢
        obtain ⟨S69, rfl⟩ : ∃ z, z = u := ⟨_, rfl⟩
        have t70 : stp [(12, 15), (17, 100)] [] [] S S69 := t0.tr w68 (by decide) (fun _ q => absurd q List.not_mem_nil)
        have xe71 : ext S S69 := w68.x
        refine W.widen (k := 0) (n := 0) (Nat.le_of_ble_eq_true rfl) (Nat.le_of_ble_eq_true rfl) ?_
        exact W.iret (v := r66) hx hb hr (fun t ht hW9 => ⟨⟨r66, S69, rfl, t70, wd_end hP hK hD ht hW9.alike⟩, hS.F ht⟩) hS.2.2 dX12_peak_47 hlocks
    · have c18i : (f_X12_isGear S o1 x2).toInt = 0 := eq_v rfl rfl c18
      refine lv_aload_n hx hb dX12_peak_16 rfl (lv_at hl 0 rfl) ?_
      refine lv_iconst (v := 1) hx hb dX12_peak_17 (by decide) ?_
      have l32_1 : (1 : Int32).toInt = 1 := rfl
      have hFc := free_all hD hS hA
      obtain ⟨k72, gk72, hk72⟩ := wGt (cy := cy) X S h_o1.1 h_o1.2.1
      refine va_calli (va_runV (As := [.int (1 : Int32)]) (rest := []) ⟨hx, hb, hml, hown, hts⟩ (c_X12_fails l (cy := cy) (X := X) (D := D) S _ o1 h_o1 (1 : Int32) (hW)) (cwV 1 hts gX12_peak_X12_fails rfl rfl rfl hd_X12_fails ⟨Nat.le_of_ble_eq_true rfl, Nat.le_of_ble_eq_true rfl⟩) (pV (va_recv hK hP (q := (RX12, TX12, 34)) (ci := 16) (q0 := k72) rfl hk72) hP hK hD hN) rfl rfl hl.1 rfl (lv_room (Nat.le_of_ble_eq_true rfl)) dX12_peak_18 ⟨(Nat.zero_le _), (Nat.zero_le _)⟩) hS (fun q _ h => hFc q h) hFc (fun r73 u t H1 locs ht hvm hw hB hz1 hk1 hS => ?_)
      obtain ⟨c74, w75⟩ := hw
      obtain ⟨hP, hD⟩ := wd_post hFc ht hB
      generalize H1 = H at hP hS ⊢
      obtain ⟨S76, rfl⟩ : ∃ z, z = u := ⟨_, rfl⟩
      have t77 : stp [(12, 15), (17, 100)] [] [] S S76 := t0.tr w75 (by decide) (fun _ q => absurd q List.not_mem_nil)
      have xe78 : ext S S76 := w75.x
      refine W.widen (k := 0) (n := 0) (Nat.le_of_ble_eq_true rfl) (Nat.le_of_ble_eq_true rfl) ?_
      exact W.iret (v := r73) hx hb hr (fun t ht hW9 => ⟨⟨r73, S76, rfl, t77, wd_end hP hK hD ht hW9.alike⟩, hS.F ht⟩) hS.2.2 dX12_peak_21 hlocks
theorem hd_X12_quietest : yX12_quietest.cls = RX12 ∧ yX12_quietest.cls ≠ "java/lang/invoke/MethodHandle" ∧ yX12_quietest.cls ≠ "java/lang/invoke/VarHandle" ∧ (parseMethodDescriptor yX12_quietest.desc).map (fun d => d.parameters.length) = some 2 := by decide +kernel
set_option maxHeartbeats 4000000 in
set_option maxRecDepth 100000 in
theorem c_X12_quietest (l : Launch) {D : va_G} {cy : Nat → ClassId} {X : va_W} (S : wPS) (sz : Nat) (o1 : Nat) (h_o1 : isA S o1 12) (x1 : Int32) (x2 : Int32) (hW : wtB S [])  : Met l yX12_quietest wsX12_quietest ({ frames := 19, cells := 0, slots := 0, locals := 405 }) (va_Pc [.ref o1, .int x1, .int x2] (fun U => U.heap.size = sz ∧ WD D cy X (fun _ => True) S U ∧ NW U)) (va_Qi (fun r (u : wPS) => stp [(12, 15), (17, 100)] [] [] S u) (fun u t => WD D cy X (va_A (X ++ PL cy S) sz) u t) (va_A (X ++ PL cy S) sz)) 0 0 (va_A (X ++ PL cy S) sz) := by
  refine Met.ofW (cc := cX12_quietest) (maxL := 3) (ret := (some .int)) (by decide) rfl ?_
  intro p e s m args below meth c s₁ B hml hv
  obtain ⟨rfl, hsz, ⟨hP, hK, hD0⟩, hN⟩ := hv
  have hx := B.exec
  have hb := B.bytes
  have hr := B.returns
  have hts := atoms_spec (ws := wsX12_quietest) B.pre
  have hown : s.vm.findClass RX12 = some m.cls := findClass_of_methodNamed (x := yX12_quietest) B.named
  have hlocks := B.notSynchronized
  subst hsz
  have hD := hD0.self (sz := s.heap.size)
  generalize hAe : va_A (X ++ PL cy S) s.heap.size = A at hD ⊢
  have hA : ∀ q : Nat, s.heap.size ≤ q → A q := fun q h => by rw [← hAe]; exact Or.inr h
  have hS : va_S A s.heap s.heap [] := va_S.rf
  have hl := lv_entry ([.ref o1, .int x1, .int x2]) (n := 3) (Nat.le_of_ble_eq_true rfl)
  rw [lg_entry_eq]
  generalize (lg_sl ([.ref o1, .int x1, .int x2]) ++ List.replicate (3 - (lg_sl ([.ref o1, .int x1, .int x2])).length) Slot.unset).toArray = ls at hl ⊢
  have hl : lv_has ls 3 [(0, .ref o1), (1, .int x1), (2, .int x2)] := hl
  have t0 : stp [(12, 15), (17, 100)] [] [] S S := stp.rf hW
  have F1 := ((hW.at h_o1 List.not_mem_nil).to_12 h_o1.2.1).F0
  refine lv_aload_n hx hb dX12_quietest_0 rfl (lv_at hl 0 rfl) ?_
  refine lv_iload_n hx hb dX12_quietest_1 rfl (lv_at hl 1 rfl) ?_
  refine lv_iload_n hx hb dX12_quietest_2 rfl (lv_at hl 2 rfl) ?_
  refine lv_iconst (v := 1) hx hb dX12_quietest_3 (by decide) ?_
  refine lv_iconst (v := 2) hx hb dX12_quietest_4 (by decide) ?_
  have l32_1 : (1 : Int32).toInt = 1 := rfl
  have l32_2 : (2 : Int32).toInt = 2 := rfl
  have hFc := free_all hD hS hA
  obtain ⟨k2, gk2, hk2⟩ := wGt (cy := cy) X S h_o1.1 h_o1.2.1
  refine va_calli (va_runV (As := [.int x1, .int x2, .int (1 : Int32), .int (2 : Int32)]) (rest := []) ⟨hx, hb, hml, hown, hts⟩ (c_X12_isAsked l (cy := cy) (X := X) (D := D) S _ o1 h_o1 x1 x2 (hW)) (cwV 4 hts gX12_quietest_X12_isAsked rfl rfl rfl hd_X12_isAsked ⟨Nat.le_of_ble_eq_true rfl, Nat.le_of_ble_eq_true rfl⟩) (pV (va_recv hK hP (q := (RX12, TX12, 34)) (ci := 16) (q0 := k2) rfl hk2) hP hK hD hN) rfl rfl hl.1 rfl (lv_room (Nat.le_of_ble_eq_true rfl)) dX12_quietest_5 ⟨(Nat.zero_le _), (Nat.zero_le _)⟩) hS (fun q _ h => hFc q h) hFc (fun r3 u t H1 locs ht hvm hw hB hz1 hk1 hS => ?_)
  obtain ⟨c4, w5, y6, y7⟩ := hw
  obtain ⟨hP, hD⟩ := wd_post hFc ht hB
  generalize H1 = H at hP hS ⊢
  obtain ⟨S8, rfl⟩ : ∃ z, z = u := ⟨_, rfl⟩
  have t9 : stp [(12, 15), (17, 100)] [] [] S S8 := t0.tr w5 (by decide) (fun _ q => absurd q List.not_mem_nil)
  have xe10 : ext S S8 := w5.x
  have k11 : (S8.I (S.f o1 0) 2).toInt = (S.I (S.f o1 0) 2).toInt := by rw [(w5.fR (S.f o1 0) F1.2.1.1 List.not_mem_nil).1 2 (by rw [F1.2.1.2.1]; decide) |>.1]
  refine lv_if_eq (tgt := 28) hx hb dX12_quietest_8 (by decide) (fun c12 => ?_) (fun c12 => ?_)
  · have c12i : r3.toInt = 0 := eq_v rfl rfl c12
    refine lv_iconst (v := 0) hx hb dX12_quietest_28 (by decide) ?_
    refine W.widen (k := 0) (n := 0) (Nat.le_of_ble_eq_true rfl) (Nat.le_of_ble_eq_true rfl) ?_
    exact W.iret (v := (0 : Int32)) hx hb hr (fun t ht hW9 => ⟨⟨(0 : Int32), S8, rfl, t9, wd_end hP hK hD ht hW9.alike⟩, hS.F ht⟩) hS.2.2 dX12_quietest_29 hlocks
  · have c12i : ¬ r3.toInt = 0 := neq_v rfl rfl c12
    refine lv_aload_n hx hb dX12_quietest_11 rfl (lv_at hl 0 rfl) ?_
    refine lv_aload_n hx hb dX12_quietest_12 rfl (lv_at hl 0 rfl) ?_
    refine lv_iload_n hx hb dX12_quietest_13 rfl (lv_at hl 1 rfl) ?_
    have hFc := free_all hD hS hA
    obtain ⟨k13, gk13, hk13⟩ := wGt (cy := cy) X S8 (xe10.A h_o1).1 (xe10.A h_o1).2.1
    refine va_callq (va_runV (As := [.int x1]) (rest := [.ref o1]) ⟨hx, hb, hml, hown, hts⟩ (c_X12_gearAt l (cy := cy) (X := X) (D := D) S8 _ o1 (xe10.A h_o1) x1 (t9.w) (by rw [f_of (xe10.F h_o1 (by decide) F1.1)]; omega)) (cwV 1 hts gX12_quietest_X12_gearAt rfl rfl rfl hd_X12_gearAt ⟨Nat.le_of_ble_eq_true rfl, Nat.le_of_ble_eq_true rfl⟩) (pV (va_recv hK hP (q := (RX12, TX12, 34)) (ci := 16) (q0 := k13) rfl hk13) hP hK hD hN) rfl rfl hl.1 rfl (lv_room (Nat.le_of_ble_eq_true rfl)) dX12_quietest_14 ⟨(Nat.zero_le _), (Nat.zero_le _)⟩) hS (fun q _ h => hFc q h) hFc (fun r14 u t H1 locs ht hvm hw hB hz1 hk1 hS => ?_)
    obtain ⟨r14, rfl, c15, o16⟩ := hw
    obtain ⟨hP, hD⟩ := wd_post hFc ht hB
    generalize H1 = H at hP hS ⊢
    refine W.eq (g2 := F0 m 17 ls [.ref r14, .ref o1]) rfl ?_
    refine lv_aload_n hx hb dX12_quietest_17 rfl (lv_at hl 0 rfl) ?_
    refine lv_iload_n hx hb dX12_quietest_18 rfl (lv_at hl 2 rfl) ?_
    have hFc := free_all hD hS hA
    obtain ⟨k17, gk17, hk17⟩ := wGt (cy := cy) X S8 (xe10.A h_o1).1 (xe10.A h_o1).2.1
    refine va_callq (va_runV (As := [.int x2]) (rest := [.ref r14, .ref o1]) ⟨hx, hb, hml, hown, hts⟩ (c_X12_gearAt l (cy := cy) (X := X) (D := D) S8 _ o1 (xe10.A h_o1) x2 (t9.w) (by rw [f_of (xe10.F h_o1 (by decide) F1.1)]; omega)) (cwV 1 hts gX12_quietest_X12_gearAt rfl rfl rfl hd_X12_gearAt ⟨Nat.le_of_ble_eq_true rfl, Nat.le_of_ble_eq_true rfl⟩) (pV (va_recv hK hP (q := (RX12, TX12, 34)) (ci := 16) (q0 := k17) rfl hk17) hP hK hD hN) rfl rfl hl.1 rfl (lv_room (Nat.le_of_ble_eq_true rfl)) dX12_quietest_19 ⟨(Nat.zero_le _), (Nat.zero_le _)⟩) hS (fun q _ h => hFc q h) hFc (fun r18 u t H1 locs ht hvm hw hB hz1 hk1 hS => ?_)
    obtain ⟨r18, rfl, c19, o20⟩ := hw
    obtain ⟨hP, hD⟩ := wd_post hFc ht hB
    generalize H1 = H at hP hS ⊢
    refine W.eq (g2 := F0 m 22 ls [.ref r18, .ref r14, .ref o1]) rfl ?_
    have hFc := free_all hD hS hA
    obtain ⟨k21, gk21, hk21⟩ := wGt (cy := cy) X S8 (xe10.A h_o1).1 (xe10.A h_o1).2.1
    refine va_calli (va_runV (As := [.ref r14, .ref r18]) (rest := []) ⟨hx, hb, hml, hown, hts⟩ (c_X12_quietestOf l (cy := cy) (X := X) (D := D) S8 _ o1 (xe10.A h_o1) r14 o16 r18 o20 (t9.w)) (cwV 2 hts gX12_quietest_X12_quietestOf rfl rfl rfl hd_X12_quietestOf ⟨Nat.le_of_ble_eq_true rfl, Nat.le_of_ble_eq_true rfl⟩) (pV (va_recv hK hP (q := (RX12, TX12, 34)) (ci := 16) (q0 := k21) rfl hk21) hP hK hD hN) rfl rfl hl.1 rfl (lv_room (Nat.le_of_ble_eq_true rfl)) dX12_quietest_22 ⟨(Nat.zero_le _), (Nat.zero_le _)⟩) hS (fun q _ h => hFc q h) hFc (fun r22 u t H1 locs ht hvm hw hB hz1 hk1 hS => ?_)
    obtain ⟨w23, y24⟩ := hw
    obtain ⟨hP, hD⟩ := wd_post hFc ht hB
    generalize H1 = H at hP hS ⊢
    obtain ⟨S25, rfl⟩ : ∃ z, z = u := ⟨_, rfl⟩
    have t26 : stp [(12, 15), (17, 100)] [] [] S S25 := t9.tr w23 (by decide) (fun _ q => absurd q List.not_mem_nil)
    have xe27 : ext S8 S25 := w23.x
    have k28 : (S25.I (S.f o1 0) 2).toInt = (S8.I (S.f o1 0) 2).toInt := by rw [(w23.fR (S.f o1 0) (xe10.A F1.2.1).1 List.not_mem_nil).1 2 (by rw [(xe10.A F1.2.1).2.1]; decide) |>.1]
    refine lv_goto (tgt := 29) hx hb dX12_quietest_25 (by decide) ?_
    refine W.widen (k := 0) (n := 0) (Nat.le_of_ble_eq_true rfl) (Nat.le_of_ble_eq_true rfl) ?_
    exact W.iret (v := r22) hx hb hr (fun t ht hW9 => ⟨⟨r22, S25, rfl, t26, wd_end hP hK hD ht hW9.alike⟩, hS.F ht⟩) hS.2.2 dX12_quietest_29 hlocks
theorem hi_X12_note_X10 : ∀ w ∈ u_ws RX10 TX10 23, w ∈ wsX12_note := by decide +kernel
theorem hd_X12_note : yX12_note.cls = RX12 ∧ yX12_note.cls ≠ "java/lang/invoke/MethodHandle" ∧ yX12_note.cls ≠ "java/lang/invoke/VarHandle" ∧ (parseMethodDescriptor yX12_note.desc).map (fun d => d.parameters.length) = some 3 := by decide +kernel
set_option maxHeartbeats 4000000 in
set_option maxRecDepth 100000 in
theorem c_X12_note (l : Launch) {D : va_G} {cy : Nat → ClassId} {X : va_W} (S : wPS) (sz : Nat) (o1 : Nat) (h_o1 : isA S o1 12) (x1 : Int32) (x2 : Int32) (x3 : Int32) (hW : wtB S [])  : Met l yX12_note wsX12_note ({ frames := 5, cells := 0, slots := 0, locals := 109 }) (va_Pc [.ref o1, .int x1, .int x2, .int x3] (fun U => U.heap.size = sz ∧ WD D cy X (fun _ => True) S U ∧ NW U)) (va_Qi (fun r (u : wPS) => stp [(12, 15)] [] [] S u) (fun u t => WD D cy X (va_A (X ++ PL cy S) sz) u t) (va_A (X ++ PL cy S) sz)) 0 0 (va_A (X ++ PL cy S) sz) := by
  refine Met.ofW (cc := cX12_note) (maxL := 9) (ret := (some .int)) (by decide) rfl ?_
  intro p e s m args below meth c s₁ B hml hv
  obtain ⟨rfl, hsz, ⟨hP, hK, hD0⟩, hN⟩ := hv
  have hx := B.exec
  have hb := B.bytes
  have hr := B.returns
  have hts := atoms_spec (ws := wsX12_note) B.pre
  have hown : s.vm.findClass RX12 = some m.cls := findClass_of_methodNamed (x := yX12_note) B.named
  have hlocks := B.notSynchronized
  subst hsz
  have hD := hD0.self (sz := s.heap.size)
  generalize hAe : va_A (X ++ PL cy S) s.heap.size = A at hD ⊢
  have hA : ∀ q : Nat, s.heap.size ≤ q → A q := fun q h => by rw [← hAe]; exact Or.inr h
  have hS : va_S A s.heap s.heap [] := va_S.rf
  have hl := lv_entry ([.ref o1, .int x1, .int x2, .int x3]) (n := 9) (Nat.le_of_ble_eq_true rfl)
  rw [lg_entry_eq]
  generalize (lg_sl ([.ref o1, .int x1, .int x2, .int x3]) ++ List.replicate (9 - (lg_sl ([.ref o1, .int x1, .int x2, .int x3])).length) Slot.unset).toArray = ls at hl ⊢
  have hl : lv_has ls 9 [(0, .ref o1), (1, .int x1), (2, .int x2), (3, .int x3)] := hl
  have t0 : stp [(12, 15)] [] [] S S := stp.rf hW
  refine lv_aload_n hx hb dX12_note_0 rfl (lv_at hl 0 rfl) ?_
  refine lv_iload_n hx hb dX12_note_1 rfl (lv_at hl 1 rfl) ?_
  have hFc := free_all hD hS hA
  obtain ⟨k1, gk1, hk1⟩ := wGt (cy := cy) X S h_o1.1 h_o1.2.1
  refine va_calli (va_runV (As := [.int x1]) (rest := []) ⟨hx, hb, hml, hown, hts⟩ (c_X12_isGear l (cy := cy) (X := X) (D := D) S _ o1 h_o1 x1 (hW)) (cwV 1 hts gX12_note_X12_isGear rfl rfl rfl hd_X12_isGear ⟨Nat.le_of_ble_eq_true rfl, Nat.le_of_ble_eq_true rfl⟩) (pV (va_recv hK hP (q := (RX12, TX12, 34)) (ci := 16) (q0 := k1) rfl hk1) hP hK hD hN) rfl rfl hl.1 rfl (lv_room (Nat.le_of_ble_eq_true rfl)) dX12_note_2 ⟨(Nat.zero_le _), (Nat.zero_le _)⟩) hS (fun q _ h => hFc q h) hFc (fun r2 u t H1 locs ht hvm hw hB hz1 hk1 hS => ?_)
  have c3 := hw
  obtain ⟨hP, hD⟩ := wd_post hFc ht hB
  generalize H1 = H at hP hS ⊢
  obtain rfl : f_X12_isGear S o1 x1 = r2 := c3.symm
  have F4 := ((hW.at h_o1 List.not_mem_nil).to_12 h_o1.2.1).F0
  have i5 : (f_X12_isGear S o1 x1).toInt = 0 ∨ (0 ≤ x1.toInt ∧ x1.toInt < (S.I (S.f o1 0) 2).toInt) := by have h9 := ig_rng x1 ((hW.at h_o1 List.not_mem_nil).to_12 h_o1.2.1) hW; rw [f_of F4.1] at h9; exact h9
  refine lv_if_eq (tgt := 16) hx hb dX12_note_5 (by decide) (fun c6 => ?_) (fun c6 => ?_)
  · have c6i : (f_X12_isGear S o1 x1).toInt = 0 := eq_v rfl rfl c6
    refine lv_aload_n hx hb dX12_note_16 rfl (lv_at hl 0 rfl) ?_
    refine lv_iconst (v := 1) hx hb dX12_note_17 (by decide) ?_
    have l32_1 : (1 : Int32).toInt = 1 := rfl
    have hFc := free_all hD hS hA
    obtain ⟨k7, gk7, hk7⟩ := wGt (cy := cy) X S h_o1.1 h_o1.2.1
    refine va_calli (va_runV (As := [.int (1 : Int32)]) (rest := []) ⟨hx, hb, hml, hown, hts⟩ (c_X12_fails l (cy := cy) (X := X) (D := D) S _ o1 h_o1 (1 : Int32) (hW)) (cwV 1 hts gX12_note_X12_fails rfl rfl rfl hd_X12_fails ⟨Nat.le_of_ble_eq_true rfl, Nat.le_of_ble_eq_true rfl⟩) (pV (va_recv hK hP (q := (RX12, TX12, 34)) (ci := 16) (q0 := k7) rfl hk7) hP hK hD hN) rfl rfl hl.1 rfl (lv_room (Nat.le_of_ble_eq_true rfl)) dX12_note_18 ⟨(Nat.zero_le _), (Nat.zero_le _)⟩) hS (fun q _ h => hFc q h) hFc (fun r8 u t H1 locs ht hvm hw hB hz1 hk1 hS => ?_)
    obtain ⟨c9, w10⟩ := hw
    obtain ⟨hP, hD⟩ := wd_post hFc ht hB
    generalize H1 = H at hP hS ⊢
    obtain ⟨S11, rfl⟩ : ∃ z, z = u := ⟨_, rfl⟩
    have t12 : stp [(12, 15)] [] [] S S11 := t0.tr w10 (by decide) (fun _ q => absurd q List.not_mem_nil)
    have xe13 : ext S S11 := w10.x
    refine W.widen (k := 0) (n := 0) (Nat.le_of_ble_eq_true rfl) (Nat.le_of_ble_eq_true rfl) ?_
    exact W.iret (v := r8) hx hb hr (fun t ht hW9 => ⟨⟨r8, S11, rfl, t12, wd_end hP hK hD ht hW9.alike⟩, hS.F ht⟩) hS.2.2 dX12_note_21 hlocks
  · have c6i : ¬ (f_X12_isGear S o1 x1).toInt = 0 := neq_v rfl rfl c6
    refine lv_aload_n hx hb dX12_note_8 rfl (lv_at hl 0 rfl) ?_
    refine lv_iload_n hx hb dX12_note_9 rfl (lv_at hl 2 rfl) ?_
    have hFc := free_all hD hS hA
    obtain ⟨k14, gk14, hk14⟩ := wGt (cy := cy) X S h_o1.1 h_o1.2.1
    refine va_calli (va_runV (As := [.int x2]) (rest := []) ⟨hx, hb, hml, hown, hts⟩ (c_X12_isGear l (cy := cy) (X := X) (D := D) S _ o1 h_o1 x2 (hW)) (cwV 1 hts gX12_note_X12_isGear rfl rfl rfl hd_X12_isGear ⟨Nat.le_of_ble_eq_true rfl, Nat.le_of_ble_eq_true rfl⟩) (pV (va_recv hK hP (q := (RX12, TX12, 34)) (ci := 16) (q0 := k14) rfl hk14) hP hK hD hN) rfl rfl hl.1 rfl (lv_room (Nat.le_of_ble_eq_true rfl)) dX12_note_10 ⟨(Nat.zero_le _), (Nat.zero_le _)⟩) hS (fun q _ h => hFc q h) hFc (fun r15 u t H1 locs ht hvm hw hB hz1 hk1 hS => ?_)
    have c16 := hw
    obtain ⟨hP, hD⟩ := wd_post hFc ht hB
    generalize H1 = H at hP hS ⊢
    obtain rfl : f_X12_isGear S o1 x2 = r15 := c16.symm
    have i17 : (f_X12_isGear S o1 x2).toInt = 0 ∨ (0 ≤ x2.toInt ∧ x2.toInt < (S.I (S.f o1 0) 2).toInt) := by have h9 := ig_rng x2 ((hW.at h_o1 List.not_mem_nil).to_12 h_o1.2.1) hW; rw [f_of F4.1] at h9; exact h9
    refine lv_if_ne (tgt := 22) hx hb dX12_note_13 (by decide) (fun c18 => ?_) (fun c18 => ?_)
    · have c18i : ¬ (f_X12_isGear S o1 x2).toInt = 0 := neq_v rfl rfl c18
      refine lv_iload_n hx hb dX12_note_22 rfl (lv_at hl 3 rfl) ?_
      refine lv_i2l hx hb dX12_note_23 rfl ?_
      refine lv_lconst (v := 1) hx hb dX12_note_24 (by decide) ?_
      refine lv_ldc2 (own := RX12) (v := 200) hx hb hown (hts (.constantLong RX12 131 (200)) (by decide +kernel)) dX12_note_25 ?_
      have hFc := free_all hD hS hA
      refine va_calli (va_runS (As := [.long x3.toInt64, .long (1 : Int64), .long (200 : Int64)]) (rest := []) ⟨hx, hb, hml, hown, hts⟩ (c_X12_in l (cy := cy) (X := X) (D := D) S _ x3.toInt64 (1 : Int64) (200 : Int64)) (cwS 3 hts gX12_note_X12_in rfl rfl rfl hd_X12_in ⟨Nat.le_of_ble_eq_true rfl, Nat.le_of_ble_eq_true rfl⟩) (pS hP hK hD hN) rfl rfl hl.1 rfl (lv_room (Nat.le_of_ble_eq_true rfl)) dX12_note_28 ⟨(Nat.zero_le _), (Nat.zero_le _)⟩) hS (fun q _ h => hFc q h) hFc (fun r19 u t H1 locs ht hvm hw hB hz1 hk1 hS => ?_)
      have c20 := hw
      obtain ⟨hP, hD⟩ := wd_post hFc ht hB
      generalize H1 = H at hP hS ⊢
      obtain rfl : f_X12_in x3.toInt64 (1 : Int64) (200 : Int64) = r19 := c20.symm
      have i21 := i64_i x3
      have l64_1 : (1 : Int64).toInt = 1 := rfl
      have l64_200 : (200 : Int64).toInt = 200 := rfl
      have i22 := in_rng x3.toInt64 (1 : Int64) (200 : Int64)
      refine lv_if_ne (tgt := 40) hx hb dX12_note_31 (by decide) (fun c23 => ?_) (fun c23 => ?_)
      · have c23i : ¬ (f_X12_in x3.toInt64 (1 : Int64) (200 : Int64)).toInt = 0 := neq_v rfl rfl c23
        refine lv_aload_n hx hb dX12_note_40 rfl (lv_at hl 0 rfl) ?_
        refine lv_iload_n hx hb dX12_note_41 rfl (lv_at hl 1 rfl) ?_
        refine lv_iload_n hx hb dX12_note_42 rfl (lv_at hl 2 rfl) ?_
        have hFc := free_all hD hS hA
        obtain ⟨k24, gk24, hk24⟩ := wGt (cy := cy) X S h_o1.1 h_o1.2.1
        refine va_calli (va_runV (As := [.int x1, .int x2]) (rest := []) ⟨hx, hb, hml, hown, hts⟩ (c_X12_isPair l (cy := cy) (X := X) (D := D) S _ o1 h_o1 x1 x2 (hW) (by rw [f_of F4.1]; omega) (by rw [f_of F4.1]; omega)) (cwV 2 hts gX12_note_X12_isPair rfl rfl rfl hd_X12_isPair ⟨Nat.le_of_ble_eq_true rfl, Nat.le_of_ble_eq_true rfl⟩) (pV (va_recv hK hP (q := (RX12, TX12, 34)) (ci := 16) (q0 := k24) rfl hk24) hP hK hD hN) rfl rfl hl.1 rfl (lv_room (Nat.le_of_ble_eq_true rfl)) dX12_note_43 ⟨(Nat.zero_le _), (Nat.zero_le _)⟩) hS (fun q _ h => hFc q h) hFc (fun r25 u t H1 locs ht hvm hw hB hz1 hk1 hS => ?_)
        obtain ⟨c26, y27⟩ := hw
        obtain ⟨hP, hD⟩ := wd_post hFc ht hB
        generalize H1 = H at hP hS ⊢
        obtain rfl : f_X12_isPair S o1 x1 x2 = r25 := c26.symm
        refine lv_if_ne (tgt := 55) hx hb dX12_note_46 (by decide) (fun c28 => ?_) (fun c28 => ?_)
        · have c28i : ¬ (f_X12_isPair S o1 x1 x2).toInt = 0 := neq_v rfl rfl c28
          refine lv_aload_n hx hb dX12_note_55 rfl (lv_at hl 0 rfl) ?_
          refine lv_iload_n hx hb dX12_note_56 rfl (lv_at hl 1 rfl) ?_
          have hFc := free_all hD hS hA
          obtain ⟨k29, gk29, hk29⟩ := wGt (cy := cy) X S h_o1.1 h_o1.2.1
          refine va_callq (va_runV (As := [.int x1]) (rest := []) ⟨hx, hb, hml, hown, hts⟩ (c_X12_gearAt l (cy := cy) (X := X) (D := D) S _ o1 h_o1 x1 (hW) (by rw [f_of F4.1]; omega)) (cwV 1 hts gX12_note_X12_gearAt rfl rfl rfl hd_X12_gearAt ⟨Nat.le_of_ble_eq_true rfl, Nat.le_of_ble_eq_true rfl⟩) (pV (va_recv hK hP (q := (RX12, TX12, 34)) (ci := 16) (q0 := k29) rfl hk29) hP hK hD hN) rfl rfl hl.1 rfl (lv_room (Nat.le_of_ble_eq_true rfl)) dX12_note_57 ⟨(Nat.zero_le _), (Nat.zero_le _)⟩) hS (fun q _ h => hFc q h) hFc (fun r30 u t H1 locs ht hvm hw hB hz1 hk1 hS => ?_)
          obtain ⟨r30, rfl, c31, o32⟩ := hw
          obtain ⟨hP, hD⟩ := wd_post hFc ht hB
          generalize H1 = H at hP hS ⊢
          refine W.eq (g2 := F0 m 60 ls [.ref r30]) rfl ?_
          refine lv_astore (lv' := [(4, .ref r30), (0, .ref o1), (1, .int x1), (2, .int x2), (3, .int x3)]) hx hb dX12_note_60 hl (by decide) rfl (fun ls hl => ?_)
          refine lv_aload_n hx hb dX12_note_62 rfl (lv_at hl 1 rfl) ?_
          refine lv_iload_n hx hb dX12_note_63 rfl (lv_at hl 3 rfl) ?_
          have hFc := free_all hD hS hA
          obtain ⟨k33, gk33, hk33⟩ := wGt (cy := cy) X S h_o1.1 h_o1.2.1
          refine va_callq (va_runV (As := [.int x2]) (rest := []) ⟨hx, hb, hml, hown, hts⟩ (c_X12_gearAt l (cy := cy) (X := X) (D := D) S _ o1 h_o1 x2 (hW) (by rw [f_of F4.1]; omega)) (cwV 1 hts gX12_note_X12_gearAt rfl rfl rfl hd_X12_gearAt ⟨Nat.le_of_ble_eq_true rfl, Nat.le_of_ble_eq_true rfl⟩) (pV (va_recv hK hP (q := (RX12, TX12, 34)) (ci := 16) (q0 := k33) rfl hk33) hP hK hD hN) rfl rfl hl.1 rfl (lv_room (Nat.le_of_ble_eq_true rfl)) dX12_note_64 ⟨(Nat.zero_le _), (Nat.zero_le _)⟩) hS (fun q _ h => hFc q h) hFc (fun r34 u t H1 locs ht hvm hw hB hz1 hk1 hS => ?_)
          obtain ⟨r34, rfl, c35, o36⟩ := hw
          obtain ⟨hP, hD⟩ := wd_post hFc ht hB
          generalize H1 = H at hP hS ⊢
          refine W.eq (g2 := F0 m 67 ls [.ref r34]) rfl ?_
          refine lv_astore (lv' := [(5, .ref r34), (4, .ref r30), (0, .ref o1), (1, .int x1), (2, .int x2), (3, .int x3)]) hx hb dX12_note_67 hl (by decide) rfl (fun ls hl => ?_)
          refine lv_aload hx hb dX12_note_69 (lv_at hl 1 rfl) ?_
          refine lv_iload_n hx hb dX12_note_71 rfl (lv_at hl 5 rfl) ?_
          have hFc := free_all hD hS hA
          obtain ⟨k37, gk37, hk37⟩ := wGt (cy := cy) X S o32.1 o32.2.1
          refine va_calli (va_runV (As := [.int x3]) (rest := []) ⟨hx, hb, hml, hown, hts⟩ (c_X10_partOrNone l (cy := cy) (X := X) (D := D) S _ r30 o32 x3 (hW)) (cwV 1 hts gX12_note_X10_partOrNone rfl rfl rfl hd_X10_partOrNone ⟨Nat.le_of_ble_eq_true rfl, Nat.le_of_ble_eq_true rfl⟩) (pV (va_recv hK hP (q := (RX10, TX10, 23)) (ci := 14) (q0 := k37) rfl hk37) hP hK hD hN) rfl rfl hl.1 rfl (lv_room (Nat.le_of_ble_eq_true rfl)) dX12_note_72 ⟨(Nat.zero_le _), (Nat.zero_le _)⟩) hS (fun q _ h => hFc q h) hFc (fun r38 u t H1 locs ht hvm hw hB hz1 hk1 hS => ?_)
          clear hw
          obtain ⟨hP, hD⟩ := wd_post hFc ht hB
          generalize H1 = H at hP hS ⊢
          refine lv_istore (lv' := [(6, .int r38), (5, .ref r34), (4, .ref r30), (0, .ref o1), (1, .int x1), (2, .int x2), (3, .int x3)]) hx hb dX12_note_75 hl (by decide) rfl (fun ls hl => ?_)
          refine lv_aload hx hb dX12_note_77 (lv_at hl 1 rfl) ?_
          refine lv_iload_n hx hb dX12_note_79 rfl (lv_at hl 6 rfl) ?_
          have hFc := free_all hD hS hA
          obtain ⟨k39, gk39, hk39⟩ := wGt (cy := cy) X S o36.1 o36.2.1
          refine va_calli (va_runV (As := [.int x3]) (rest := []) ⟨hx, hb, hml, hown, hts⟩ (c_X10_partOrNone l (cy := cy) (X := X) (D := D) S _ r34 o36 x3 (hW)) (cwV 1 hts gX12_note_X10_partOrNone rfl rfl rfl hd_X10_partOrNone ⟨Nat.le_of_ble_eq_true rfl, Nat.le_of_ble_eq_true rfl⟩) (pV (va_recv hK hP (q := (RX10, TX10, 23)) (ci := 14) (q0 := k39) rfl hk39) hP hK hD hN) rfl rfl hl.1 rfl (lv_room (Nat.le_of_ble_eq_true rfl)) dX12_note_80 ⟨(Nat.zero_le _), (Nat.zero_le _)⟩) hS (fun q _ h => hFc q h) hFc (fun r40 u t H1 locs ht hvm hw hB hz1 hk1 hS => ?_)
          clear hw
          obtain ⟨hP, hD⟩ := wd_post hFc ht hB
          generalize H1 = H at hP hS ⊢
          refine lv_istore (lv' := [(7, .int r40), (6, .int r38), (5, .ref r34), (4, .ref r30), (0, .ref o1), (1, .int x1), (2, .int x2), (3, .int x3)]) hx hb dX12_note_83 hl (by decide) rfl (fun ls hl => ?_)
          refine lv_aload hx hb dX12_note_85 (lv_at hl 3 rfl) ?_
          obtain ⟨k41, gk41, hk41⟩ := wGt (cy := cy) X S o32.1 o32.2.1
          have i42 := ((hW.at o32 List.not_mem_nil).to_10 o32.2.1).R1
          refine va_getN (D := D) (ci := 14) (v := .int (S.I r30 1)) (C := RX10) (T := TX10) (N := 23) hx hb hts hi_X12_note_X10 hown hK hP k41 hk41 rfl 1 (by decide) (va_Nw.use rfl (hN (.fieldLinkNest RX12 332 "HobhouseModel$Gear" "teeth" "I" "HobhouseModel") (by decide +kernel))) (fun _ h9 => h9) rfl dX12_note_87 ?_
          refine lv_iload_n hx hb dX12_note_90 rfl (lv_at hl 7 rfl) ?_
          refine lv_irem hx hb dX12_note_91 (nz_i (by omega)) ?_
          refine lv_if_ne (tgt := 109) hx hb dX12_note_92 (by decide) (fun c43 => ?_) (fun c43 => ?_)
          · have c43i : ¬ ((S.I r30 1) - (S.I r30 1) / x3 * x3).toInt = 0 := neq_v rfl rfl c43
            refine lv_iconst (v := 0) hx hb dX12_note_109 (by decide) ?_
            refine lv_istore (lv' := [(8, .int (0 : Int32)), (7, .int r40), (6, .int r38), (5, .ref r34), (4, .ref r30), (0, .ref o1), (1, .int x1), (2, .int x2), (3, .int x3)]) hx hb dX12_note_110 hl (by decide) rfl (fun ls hl => ?_)
            refine lv_aload_n hx hb dX12_note_112 rfl (lv_at hl 5 rfl) ?_
            refine lv_iload hx hb dX12_note_113 (lv_at hl 0 rfl) ?_
            refine lv_if_eq (tgt := 129) hx hb dX12_note_115 (by decide) (fun c44 => ?_) (fun c44 => ?_)
            · refine lv_iload hx hb dX12_note_129 (lv_at hl 2 rfl) ?_
              refine lv_iload hx hb dX12_note_131 (lv_at hl 1 rfl) ?_
              refine va_mmax hx hb (hml.trans hl.1.symm) hown (hts (.methodLink RX12 418 Lib.Math.max.name) (by decide +kernel)) (hts (.static Lib.Math.max.name) (by decide +kernel)) (hts (.initialized "java/lang/Math") (by decide +kernel)) (hts (.code Lib.Math.max.name Lib.Math.max.code 2 (some .int)) (by decide +kernel)) (Nat.le_of_ble_eq_true rfl) (Nat.le_of_ble_eq_true rfl) (Nat.zero_le _) (Nat.zero_le _) dX12_note_133 ?_
              have hFc := free_all hD hS hA
              obtain ⟨k45, gk45, hk45⟩ := wGt (cy := cy) X S h_o1.1 h_o1.2.1
              refine va_calli (va_runV (As := [.int (if r38 < r40 then r40 else r38)]) (rest := []) ⟨hx, hb, hml, hown, hts⟩ (c_X12_answer l (cy := cy) (X := X) (D := D) S _ o1 h_o1 (if r38 < r40 then r40 else r38) (hW)) (cwV 1 hts gX12_note_X12_answer rfl rfl rfl hd_X12_answer ⟨Nat.le_of_ble_eq_true rfl, Nat.le_of_ble_eq_true rfl⟩) (pV (va_recv hK hP (q := (RX12, TX12, 34)) (ci := 16) (q0 := k45) rfl hk45) hP hK hD hN) rfl rfl hl.1 rfl (lv_room (Nat.le_of_ble_eq_true rfl)) dX12_note_136 ⟨(Nat.zero_le _), (Nat.zero_le _)⟩) hS (fun q _ h => hFc q h) hFc (fun r46 u t H1 locs ht hvm hw hB hz1 hk1 hS => ?_)
              obtain ⟨c47, w48⟩ := hw
              obtain ⟨hP, hD⟩ := wd_post hFc ht hB
              generalize H1 = H at hP hS ⊢
              obtain ⟨S49, rfl⟩ : ∃ z, z = u := ⟨_, rfl⟩
              have t50 : stp [(12, 15)] [] [] S S49 := t0.tr w48 (by decide) (fun _ q => absurd q List.not_mem_nil)
              have xe51 : ext S S49 := w48.x
              refine W.widen (k := 0) (n := 0) (Nat.le_of_ble_eq_true rfl) (Nat.le_of_ble_eq_true rfl) ?_
              exact W.iret (v := r46) hx hb hr (fun t ht hW9 => ⟨⟨r46, S49, rfl, t50, wd_end hP hK hD ht hW9.alike⟩, hS.F ht⟩) hS.2.2 dX12_note_139 hlocks
            · exact absurd (by decide) c44
          · have c43i : ((S.I r30 1) - (S.I r30 1) / x3 * x3).toInt = 0 := eq_v rfl rfl c43
            refine lv_aload hx hb dX12_note_95 (lv_at hl 2 rfl) ?_
            obtain ⟨k52, gk52, hk52⟩ := wGt (cy := cy) X S o36.1 o36.2.1
            have i53 := ((hW.at o36 List.not_mem_nil).to_10 o36.2.1).R1
            refine va_getN (D := D) (ci := 14) (v := .int (S.I r34 1)) (C := RX10) (T := TX10) (N := 23) hx hb hts hi_X12_note_X10 hown hK hP k52 hk52 rfl 1 (by decide) (va_Nw.use rfl (hN (.fieldLinkNest RX12 332 "HobhouseModel$Gear" "teeth" "I" "HobhouseModel") (by decide +kernel))) (fun _ h9 => h9) rfl dX12_note_97 ?_
            refine lv_iload_n hx hb dX12_note_100 rfl (lv_at hl 7 rfl) ?_
            refine lv_irem hx hb dX12_note_101 (nz_i (by omega)) ?_
            refine lv_if_ne (tgt := 109) hx hb dX12_note_102 (by decide) (fun c54 => ?_) (fun c54 => ?_)
            · have c54i : ¬ ((S.I r34 1) - (S.I r34 1) / x3 * x3).toInt = 0 := neq_v rfl rfl c54
              refine lv_iconst (v := 0) hx hb dX12_note_109 (by decide) ?_
              refine lv_istore (lv' := [(8, .int (0 : Int32)), (7, .int r40), (6, .int r38), (5, .ref r34), (4, .ref r30), (0, .ref o1), (1, .int x1), (2, .int x2), (3, .int x3)]) hx hb dX12_note_110 hl (by decide) rfl (fun ls hl => ?_)
              refine lv_aload_n hx hb dX12_note_112 rfl (lv_at hl 5 rfl) ?_
              refine lv_iload hx hb dX12_note_113 (lv_at hl 0 rfl) ?_
              refine lv_if_eq (tgt := 129) hx hb dX12_note_115 (by decide) (fun c55 => ?_) (fun c55 => ?_)
              · refine lv_iload hx hb dX12_note_129 (lv_at hl 2 rfl) ?_
                refine lv_iload hx hb dX12_note_131 (lv_at hl 1 rfl) ?_
                refine va_mmax hx hb (hml.trans hl.1.symm) hown (hts (.methodLink RX12 418 Lib.Math.max.name) (by decide +kernel)) (hts (.static Lib.Math.max.name) (by decide +kernel)) (hts (.initialized "java/lang/Math") (by decide +kernel)) (hts (.code Lib.Math.max.name Lib.Math.max.code 2 (some .int)) (by decide +kernel)) (Nat.le_of_ble_eq_true rfl) (Nat.le_of_ble_eq_true rfl) (Nat.zero_le _) (Nat.zero_le _) dX12_note_133 ?_
                have hFc := free_all hD hS hA
                obtain ⟨k56, gk56, hk56⟩ := wGt (cy := cy) X S h_o1.1 h_o1.2.1
                refine va_calli (va_runV (As := [.int (if r38 < r40 then r40 else r38)]) (rest := []) ⟨hx, hb, hml, hown, hts⟩ (c_X12_answer l (cy := cy) (X := X) (D := D) S _ o1 h_o1 (if r38 < r40 then r40 else r38) (hW)) (cwV 1 hts gX12_note_X12_answer rfl rfl rfl hd_X12_answer ⟨Nat.le_of_ble_eq_true rfl, Nat.le_of_ble_eq_true rfl⟩) (pV (va_recv hK hP (q := (RX12, TX12, 34)) (ci := 16) (q0 := k56) rfl hk56) hP hK hD hN) rfl rfl hl.1 rfl (lv_room (Nat.le_of_ble_eq_true rfl)) dX12_note_136 ⟨(Nat.zero_le _), (Nat.zero_le _)⟩) hS (fun q _ h => hFc q h) hFc (fun r57 u t H1 locs ht hvm hw hB hz1 hk1 hS => ?_)
                obtain ⟨c58, w59⟩ := hw
                obtain ⟨hP, hD⟩ := wd_post hFc ht hB
                generalize H1 = H at hP hS ⊢
                obtain ⟨S60, rfl⟩ : ∃ z, z = u := ⟨_, rfl⟩
                have t61 : stp [(12, 15)] [] [] S S60 := t0.tr w59 (by decide) (fun _ q => absurd q List.not_mem_nil)
                have xe62 : ext S S60 := w59.x
                refine W.widen (k := 0) (n := 0) (Nat.le_of_ble_eq_true rfl) (Nat.le_of_ble_eq_true rfl) ?_
                exact W.iret (v := r57) hx hb hr (fun t ht hW9 => ⟨⟨r57, S60, rfl, t61, wd_end hP hK hD ht hW9.alike⟩, hS.F ht⟩) hS.2.2 dX12_note_139 hlocks
              · exact absurd (by decide) c55
            · have c54i : ((S.I r34 1) - (S.I r34 1) / x3 * x3).toInt = 0 := eq_v rfl rfl c54
              refine lv_iconst (v := 1) hx hb dX12_note_105 (by decide) ?_
              refine lv_goto (tgt := 110) hx hb dX12_note_106 (by decide) ?_
              refine lv_istore (lv' := [(8, .int (1 : Int32)), (7, .int r40), (6, .int r38), (5, .ref r34), (4, .ref r30), (0, .ref o1), (1, .int x1), (2, .int x2), (3, .int x3)]) hx hb dX12_note_110 hl (by decide) rfl (fun ls hl => ?_)
              refine lv_aload_n hx hb dX12_note_112 rfl (lv_at hl 5 rfl) ?_
              refine lv_iload hx hb dX12_note_113 (lv_at hl 0 rfl) ?_
              refine lv_if_eq (tgt := 129) hx hb dX12_note_115 (by decide) (fun c63 => ?_) (fun c63 => ?_)
              · exact absurd c63 (by decide)
              · refine lv_iload hx hb dX12_note_118 (lv_at hl 2 rfl) ?_
                refine lv_iload hx hb dX12_note_120 (lv_at hl 1 rfl) ?_
                refine lv_isub hx hb dX12_note_122 ?_
                refine va_mabs hx hb (hml.trans hl.1.symm) hown (hts (.methodLink RX12 215 Lib.Math.abs.name) (by decide +kernel)) (hts (.static Lib.Math.abs.name) (by decide +kernel)) (hts (.initialized "java/lang/Math") (by decide +kernel)) (hts (.code Lib.Math.abs.name Lib.Math.abs.code 1 (some .int)) (by decide +kernel)) (Nat.le_of_ble_eq_true rfl) (Nat.le_of_ble_eq_true rfl) (Nat.zero_le _) (Nat.zero_le _) dX12_note_123 ?_
                refine lv_goto (tgt := 136) hx hb dX12_note_126 (by decide) ?_
                have hFc := free_all hD hS hA
                obtain ⟨k64, gk64, hk64⟩ := wGt (cy := cy) X S h_o1.1 h_o1.2.1
                refine va_calli (va_runV (As := [.int (if 0 ≤ (r38 - r40) then (r38 - r40) else 0 - (r38 - r40))]) (rest := []) ⟨hx, hb, hml, hown, hts⟩ (c_X12_answer l (cy := cy) (X := X) (D := D) S _ o1 h_o1 (if 0 ≤ (r38 - r40) then (r38 - r40) else 0 - (r38 - r40)) (hW)) (cwV 1 hts gX12_note_X12_answer rfl rfl rfl hd_X12_answer ⟨Nat.le_of_ble_eq_true rfl, Nat.le_of_ble_eq_true rfl⟩) (pV (va_recv hK hP (q := (RX12, TX12, 34)) (ci := 16) (q0 := k64) rfl hk64) hP hK hD hN) rfl rfl hl.1 rfl (lv_room (Nat.le_of_ble_eq_true rfl)) dX12_note_136 ⟨(Nat.zero_le _), (Nat.zero_le _)⟩) hS (fun q _ h => hFc q h) hFc (fun r65 u t H1 locs ht hvm hw hB hz1 hk1 hS => ?_)
                obtain ⟨c66, w67⟩ := hw
                obtain ⟨hP, hD⟩ := wd_post hFc ht hB
                generalize H1 = H at hP hS ⊢
                obtain ⟨S68, rfl⟩ : ∃ z, z = u := ⟨_, rfl⟩
                have t69 : stp [(12, 15)] [] [] S S68 := t0.tr w67 (by decide) (fun _ q => absurd q List.not_mem_nil)
                have xe70 : ext S S68 := w67.x
                refine W.widen (k := 0) (n := 0) (Nat.le_of_ble_eq_true rfl) (Nat.le_of_ble_eq_true rfl) ?_
                exact W.iret (v := r65) hx hb hr (fun t ht hW9 => ⟨⟨r65, S68, rfl, t69, wd_end hP hK hD ht hW9.alike⟩, hS.F ht⟩) hS.2.2 dX12_note_139 hlocks
        · have c28i : (f_X12_isPair S o1 x1 x2).toInt = 0 := eq_v rfl rfl c28
          refine lv_aload_n hx hb dX12_note_49 rfl (lv_at hl 0 rfl) ?_
          refine lv_iconst (v := 3) hx hb dX12_note_50 (by decide) ?_
          have l32_3 : (3 : Int32).toInt = 3 := rfl
          have hFc := free_all hD hS hA
          obtain ⟨k71, gk71, hk71⟩ := wGt (cy := cy) X S h_o1.1 h_o1.2.1
          refine va_calli (va_runV (As := [.int (3 : Int32)]) (rest := []) ⟨hx, hb, hml, hown, hts⟩ (c_X12_fails l (cy := cy) (X := X) (D := D) S _ o1 h_o1 (3 : Int32) (hW)) (cwV 1 hts gX12_note_X12_fails rfl rfl rfl hd_X12_fails ⟨Nat.le_of_ble_eq_true rfl, Nat.le_of_ble_eq_true rfl⟩) (pV (va_recv hK hP (q := (RX12, TX12, 34)) (ci := 16) (q0 := k71) rfl hk71) hP hK hD hN) rfl rfl hl.1 rfl (lv_room (Nat.le_of_ble_eq_true rfl)) dX12_note_51 ⟨(Nat.zero_le _), (Nat.zero_le _)⟩) hS (fun q _ h => hFc q h) hFc (fun r72 u t H1 locs ht hvm hw hB hz1 hk1 hS => ?_)
          obtain ⟨c73, w74⟩ := hw
          obtain ⟨hP, hD⟩ := wd_post hFc ht hB
          generalize H1 = H at hP hS ⊢
          obtain ⟨S75, rfl⟩ : ∃ z, z = u := ⟨_, rfl⟩
          have t76 : stp [(12, 15)] [] [] S S75 := t0.tr w74 (by decide) (fun _ q => absurd q List.not_mem_nil)
          have xe77 : ext S S75 := w74.x
          refine W.widen (k := 0) (n := 0) (Nat.le_of_ble_eq_true rfl) (Nat.le_of_ble_eq_true rfl) ?_
          exact W.iret (v := r72) hx hb hr (fun t ht hW9 => ⟨⟨r72, S75, rfl, t76, wd_end hP hK hD ht hW9.alike⟩, hS.F ht⟩) hS.2.2 dX12_note_54 hlocks
      · have c23i : (f_X12_in x3.toInt64 (1 : Int64) (200 : Int64)).toInt = 0 := eq_v rfl rfl c23
        refine lv_aload_n hx hb dX12_note_34 rfl (lv_at hl 0 rfl) ?_
        refine lv_iconst (v := 2) hx hb dX12_note_35 (by decide) ?_
        have l32_2 : (2 : Int32).toInt = 2 := rfl
        have hFc := free_all hD hS hA
        obtain ⟨k78, gk78, hk78⟩ := wGt (cy := cy) X S h_o1.1 h_o1.2.1
        refine va_calli (va_runV (As := [.int (2 : Int32)]) (rest := []) ⟨hx, hb, hml, hown, hts⟩ (c_X12_fails l (cy := cy) (X := X) (D := D) S _ o1 h_o1 (2 : Int32) (hW)) (cwV 1 hts gX12_note_X12_fails rfl rfl rfl hd_X12_fails ⟨Nat.le_of_ble_eq_true rfl, Nat.le_of_ble_eq_true rfl⟩) (pV (va_recv hK hP (q := (RX12, TX12, 34)) (ci := 16) (q0 := k78) rfl hk78) hP hK hD hN) rfl rfl hl.1 rfl (lv_room (Nat.le_of_ble_eq_true rfl)) dX12_note_36 ⟨(Nat.zero_le _), (Nat.zero_le _)⟩) hS (fun q _ h => hFc q h) hFc (fun r79 u t H1 locs ht hvm hw hB hz1 hk1 hS => ?_)
        obtain ⟨c80, w81⟩ := hw
        obtain ⟨hP, hD⟩ := wd_post hFc ht hB
        generalize H1 = H at hP hS ⊢
        obtain ⟨S82, rfl⟩ : ∃ z, z = u := ⟨_, rfl⟩
        have t83 : stp [(12, 15)] [] [] S S82 := t0.tr w81 (by decide) (fun _ q => absurd q List.not_mem_nil)
        have xe84 : ext S S82 := w81.x
        refine W.widen (k := 0) (n := 0) (Nat.le_of_ble_eq_true rfl) (Nat.le_of_ble_eq_true rfl) ?_
        exact W.iret (v := r79) hx hb hr (fun t ht hW9 => ⟨⟨r79, S82, rfl, t83, wd_end hP hK hD ht hW9.alike⟩, hS.F ht⟩) hS.2.2 dX12_note_39 hlocks
    · have c18i : (f_X12_isGear S o1 x2).toInt = 0 := eq_v rfl rfl c18
      refine lv_aload_n hx hb dX12_note_16 rfl (lv_at hl 0 rfl) ?_
      refine lv_iconst (v := 1) hx hb dX12_note_17 (by decide) ?_
      have l32_1 : (1 : Int32).toInt = 1 := rfl
      have hFc := free_all hD hS hA
      obtain ⟨k85, gk85, hk85⟩ := wGt (cy := cy) X S h_o1.1 h_o1.2.1
      refine va_calli (va_runV (As := [.int (1 : Int32)]) (rest := []) ⟨hx, hb, hml, hown, hts⟩ (c_X12_fails l (cy := cy) (X := X) (D := D) S _ o1 h_o1 (1 : Int32) (hW)) (cwV 1 hts gX12_note_X12_fails rfl rfl rfl hd_X12_fails ⟨Nat.le_of_ble_eq_true rfl, Nat.le_of_ble_eq_true rfl⟩) (pV (va_recv hK hP (q := (RX12, TX12, 34)) (ci := 16) (q0 := k85) rfl hk85) hP hK hD hN) rfl rfl hl.1 rfl (lv_room (Nat.le_of_ble_eq_true rfl)) dX12_note_18 ⟨(Nat.zero_le _), (Nat.zero_le _)⟩) hS (fun q _ h => hFc q h) hFc (fun r86 u t H1 locs ht hvm hw hB hz1 hk1 hS => ?_)
      obtain ⟨c87, w88⟩ := hw
      obtain ⟨hP, hD⟩ := wd_post hFc ht hB
      generalize H1 = H at hP hS ⊢
      obtain ⟨S89, rfl⟩ : ∃ z, z = u := ⟨_, rfl⟩
      have t90 : stp [(12, 15)] [] [] S S89 := t0.tr w88 (by decide) (fun _ q => absurd q List.not_mem_nil)
      have xe91 : ext S S89 := w88.x
      refine W.widen (k := 0) (n := 0) (Nat.le_of_ble_eq_true rfl) (Nat.le_of_ble_eq_true rfl) ?_
      exact W.iret (v := r86) hx hb hr (fun t ht hW9 => ⟨⟨r86, S89, rfl, t90, wd_end hP hK hD ht hW9.alike⟩, hS.F ht⟩) hS.2.2 dX12_note_21 hlocks
def f_X12_hunts (S : wPS) (o1 : Nat) (x1 : Int32) (x2 : Int32) : (Int32 × wPS) := l2 (f_X12_isAsked S o1 x1 x2) (fun r3 S8 => if r3 = (0 : Int32) then ((0 : Int32), S8) else l1 (f_X12_gearAt S8 o1 x1) (fun r14 => l1 (f_X12_gearAt S8 o1 x2) (fun r20 => if (f_X12_divisor_e8 (S8.I r14 1) (S8.I r20 1)) = (1 : Int32) then ((1 : Int32), S8) else ((0 : Int32), S8))))
theorem hi_X12_hunts_X10 : ∀ w ∈ u_ws RX10 TX10 23, w ∈ wsX12_hunts := by decide +kernel
theorem hd_X12_hunts : yX12_hunts.cls = RX12 ∧ yX12_hunts.cls ≠ "java/lang/invoke/MethodHandle" ∧ yX12_hunts.cls ≠ "java/lang/invoke/VarHandle" ∧ (parseMethodDescriptor yX12_hunts.desc).map (fun d => d.parameters.length) = some 2 := by decide +kernel
set_option maxHeartbeats 4000000 in
set_option maxRecDepth 100000 in
theorem c_X12_hunts (l : Launch) {D : va_G} {cy : Nat → ClassId} {X : va_W} (S : wPS) (sz : Nat) (o1 : Nat) (h_o1 : isA S o1 12) (x1 : Int32) (x2 : Int32) (hW : wtB S [])  : Met l yX12_hunts wsX12_hunts ({ frames := 17, cells := 0, slots := 0, locals := 357 }) (va_Pc [.ref o1, .int x1, .int x2] (fun U => U.heap.size = sz ∧ WD D cy X (fun _ => True) S U ∧ NW U)) (va_Qi (fun r (u : wPS) => (r, u) = f_X12_hunts S o1 x1 x2 ∧ stp [(12, 15)] [] [] S u ∧ narrow .boolean (.int r) = .int r) (fun u t => WD D cy X (va_A (X ++ PL cy S) sz) u t) (va_A (X ++ PL cy S) sz)) 0 0 (va_A (X ++ PL cy S) sz) := by
  refine Met.ofW (cc := cX12_hunts) (maxL := 3) (ret := (some .boolean)) (by decide) rfl ?_
  intro p e s m args below meth c s₁ B hml hv
  obtain ⟨rfl, hsz, ⟨hP, hK, hD0⟩, hN⟩ := hv
  have hx := B.exec
  have hb := B.bytes
  have hr := B.returns
  have hts := atoms_spec (ws := wsX12_hunts) B.pre
  have hown : s.vm.findClass RX12 = some m.cls := findClass_of_methodNamed (x := yX12_hunts) B.named
  have hlocks := B.notSynchronized
  subst hsz
  have hD := hD0.self (sz := s.heap.size)
  generalize hAe : va_A (X ++ PL cy S) s.heap.size = A at hD ⊢
  have hA : ∀ q : Nat, s.heap.size ≤ q → A q := fun q h => by rw [← hAe]; exact Or.inr h
  have hS : va_S A s.heap s.heap [] := va_S.rf
  have hl := lv_entry ([.ref o1, .int x1, .int x2]) (n := 3) (Nat.le_of_ble_eq_true rfl)
  rw [lg_entry_eq]
  generalize (lg_sl ([.ref o1, .int x1, .int x2]) ++ List.replicate (3 - (lg_sl ([.ref o1, .int x1, .int x2])).length) Slot.unset).toArray = ls at hl ⊢
  have hl : lv_has ls 3 [(0, .ref o1), (1, .int x1), (2, .int x2)] := hl
  have t0 : stp [(12, 15)] [] [] S S := stp.rf hW
  have F1 := ((hW.at h_o1 List.not_mem_nil).to_12 h_o1.2.1).F0
  refine lv_aload_n hx hb dX12_hunts_0 rfl (lv_at hl 0 rfl) ?_
  refine lv_iload_n hx hb dX12_hunts_1 rfl (lv_at hl 1 rfl) ?_
  refine lv_iload_n hx hb dX12_hunts_2 rfl (lv_at hl 2 rfl) ?_
  refine lv_iconst (v := 1) hx hb dX12_hunts_3 (by decide) ?_
  refine lv_iconst (v := 2) hx hb dX12_hunts_4 (by decide) ?_
  have l32_1 : (1 : Int32).toInt = 1 := rfl
  have l32_2 : (2 : Int32).toInt = 2 := rfl
  have hFc := free_all hD hS hA
  obtain ⟨k2, gk2, hk2⟩ := wGt (cy := cy) X S h_o1.1 h_o1.2.1
  refine va_calli (va_runV (As := [.int x1, .int x2, .int (1 : Int32), .int (2 : Int32)]) (rest := []) ⟨hx, hb, hml, hown, hts⟩ (c_X12_isAsked l (cy := cy) (X := X) (D := D) S _ o1 h_o1 x1 x2 (hW)) (cwV 4 hts gX12_hunts_X12_isAsked rfl rfl rfl hd_X12_isAsked ⟨Nat.le_of_ble_eq_true rfl, Nat.le_of_ble_eq_true rfl⟩) (pV (va_recv hK hP (q := (RX12, TX12, 34)) (ci := 16) (q0 := k2) rfl hk2) hP hK hD hN) rfl rfl hl.1 rfl (lv_room (Nat.le_of_ble_eq_true rfl)) dX12_hunts_5 ⟨(Nat.zero_le _), (Nat.zero_le _)⟩) hS (fun q _ h => hFc q h) hFc (fun r3 u t H1 locs ht hvm hw hB hz1 hk1 hS => ?_)
  obtain ⟨c4, w5, y6, y7⟩ := hw
  obtain ⟨hP, hD⟩ := wd_post hFc ht hB
  generalize H1 = H at hP hS ⊢
  obtain ⟨S8, rfl⟩ : ∃ z, z = u := ⟨_, rfl⟩
  have t9 : stp [(12, 15)] [] [] S S8 := t0.tr w5 (by decide) (fun _ q => absurd q List.not_mem_nil)
  have xe10 : ext S S8 := w5.x
  have k11 : (S8.I (S.f o1 0) 2).toInt = (S.I (S.f o1 0) 2).toInt := by rw [(w5.fR (S.f o1 0) F1.2.1.1 List.not_mem_nil).1 2 (by rw [F1.2.1.2.1]; decide) |>.1]
  refine lv_if_eq (tgt := 38) hx hb dX12_hunts_8 (by decide) (fun c12 => ?_) (fun c12 => ?_)
  · have c12i : r3.toInt = 0 := eq_v rfl rfl c12
    refine lv_iconst (v := 0) hx hb dX12_hunts_38 (by decide) ?_
    refine W.widen (k := 0) (n := 0) (Nat.le_of_ble_eq_true rfl) (Nat.le_of_ble_eq_true rfl) ?_
    exact W.zret (v := (0 : Int32)) hx hb hr (by rfl) (fun t ht hW9 => ⟨⟨(0 : Int32), S8, rfl, ⟨(by show ((0 : Int32), S8) = f_X12_hunts S o1 x1 x2; unfold f_X12_hunts; rw [l2_eq c4.symm, if_pos c12]), t9, (by rfl)⟩, wd_end hP hK hD ht hW9.alike⟩, hS.F ht⟩) hS.2.2 dX12_hunts_39 hlocks
  · have c12i : ¬ r3.toInt = 0 := neq_v rfl rfl c12
    refine lv_aload_n hx hb dX12_hunts_11 rfl (lv_at hl 0 rfl) ?_
    refine lv_iload_n hx hb dX12_hunts_12 rfl (lv_at hl 1 rfl) ?_
    have hFc := free_all hD hS hA
    obtain ⟨k13, gk13, hk13⟩ := wGt (cy := cy) X S8 (xe10.A h_o1).1 (xe10.A h_o1).2.1
    refine va_callq (va_runV (As := [.int x1]) (rest := []) ⟨hx, hb, hml, hown, hts⟩ (c_X12_gearAt l (cy := cy) (X := X) (D := D) S8 _ o1 (xe10.A h_o1) x1 (t9.w) (by rw [f_of (xe10.F h_o1 (by decide) F1.1)]; omega)) (cwV 1 hts gX12_hunts_X12_gearAt rfl rfl rfl hd_X12_gearAt ⟨Nat.le_of_ble_eq_true rfl, Nat.le_of_ble_eq_true rfl⟩) (pV (va_recv hK hP (q := (RX12, TX12, 34)) (ci := 16) (q0 := k13) rfl hk13) hP hK hD hN) rfl rfl hl.1 rfl (lv_room (Nat.le_of_ble_eq_true rfl)) dX12_hunts_13 ⟨(Nat.zero_le _), (Nat.zero_le _)⟩) hS (fun q _ h => hFc q h) hFc (fun r14 u t H1 locs ht hvm hw hB hz1 hk1 hS => ?_)
    obtain ⟨r14, rfl, c15, o16⟩ := hw
    obtain ⟨hP, hD⟩ := wd_post hFc ht hB
    generalize H1 = H at hP hS ⊢
    refine W.eq (g2 := F0 m 16 ls [.ref r14]) rfl ?_
    obtain ⟨k17, gk17, hk17⟩ := wGt (cy := cy) X S8 o16.1 o16.2.1
    have i18 := ((t9.w.at o16 List.not_mem_nil).to_10 o16.2.1).R1
    refine va_getN (D := D) (ci := 14) (v := .int (S8.I r14 1)) (C := RX10) (T := TX10) (N := 23) hx hb hts hi_X12_hunts_X10 hown hK hP k17 hk17 rfl 1 (by decide) (va_Nw.use rfl (hN (.fieldLinkNest RX12 332 "HobhouseModel$Gear" "teeth" "I" "HobhouseModel") (by decide +kernel))) (fun _ h9 => h9) rfl dX12_hunts_16 ?_
    refine lv_aload_n hx hb dX12_hunts_19 rfl (lv_at hl 0 rfl) ?_
    refine lv_iload_n hx hb dX12_hunts_20 rfl (lv_at hl 2 rfl) ?_
    have hFc := free_all hD hS hA
    obtain ⟨k19, gk19, hk19⟩ := wGt (cy := cy) X S8 (xe10.A h_o1).1 (xe10.A h_o1).2.1
    refine va_callq (va_runV (As := [.int x2]) (rest := [.int (S8.I r14 1)]) ⟨hx, hb, hml, hown, hts⟩ (c_X12_gearAt l (cy := cy) (X := X) (D := D) S8 _ o1 (xe10.A h_o1) x2 (t9.w) (by rw [f_of (xe10.F h_o1 (by decide) F1.1)]; omega)) (cwV 1 hts gX12_hunts_X12_gearAt rfl rfl rfl hd_X12_gearAt ⟨Nat.le_of_ble_eq_true rfl, Nat.le_of_ble_eq_true rfl⟩) (pV (va_recv hK hP (q := (RX12, TX12, 34)) (ci := 16) (q0 := k19) rfl hk19) hP hK hD hN) rfl rfl hl.1 rfl (lv_room (Nat.le_of_ble_eq_true rfl)) dX12_hunts_21 ⟨(Nat.zero_le _), (Nat.zero_le _)⟩) hS (fun q _ h => hFc q h) hFc (fun r20 u t H1 locs ht hvm hw hB hz1 hk1 hS => ?_)
    obtain ⟨r20, rfl, c21, o22⟩ := hw
    obtain ⟨hP, hD⟩ := wd_post hFc ht hB
    generalize H1 = H at hP hS ⊢
    refine W.eq (g2 := F0 m 24 ls [.ref r20, .int (S8.I r14 1)]) rfl ?_
    obtain ⟨k23, gk23, hk23⟩ := wGt (cy := cy) X S8 o22.1 o22.2.1
    have i24 := ((t9.w.at o22 List.not_mem_nil).to_10 o22.2.1).R1
    refine va_getN (D := D) (ci := 14) (v := .int (S8.I r20 1)) (C := RX10) (T := TX10) (N := 23) hx hb hts hi_X12_hunts_X10 hown hK hP k23 hk23 rfl 1 (by decide) (va_Nw.use rfl (hN (.fieldLinkNest RX12 332 "HobhouseModel$Gear" "teeth" "I" "HobhouseModel") (by decide +kernel))) (fun _ h9 => h9) rfl dX12_hunts_24 ?_
    have hFc := free_all hD hS hA
    refine va_calli (va_runS (As := [.int (S8.I r14 1), .int (S8.I r20 1)]) (rest := []) ⟨hx, hb, hml, hown, hts⟩ (c_X12_divisor_e8 l (cy := cy) (X := X) (D := D) S8 _ (S8.I r14 1) (S8.I r20 1) (by omega) (by omega) (by omega) (by omega)) (cwS 2 hts gX12_hunts_X12_divisor rfl rfl rfl hd_X12_divisor ⟨Nat.le_of_ble_eq_true rfl, Nat.le_of_ble_eq_true rfl⟩) (pS hP hK hD hN) rfl rfl hl.1 rfl (lv_room (Nat.le_of_ble_eq_true rfl)) dX12_hunts_27 ⟨(Nat.zero_le _), (Nat.zero_le _)⟩) hS (fun q _ h => hFc q h) hFc (fun r25 u t H1 locs ht hvm hw hB hz1 hk1 hS => ?_)
    obtain ⟨c26, y27⟩ := hw
    obtain ⟨hP, hD⟩ := wd_post hFc ht hB
    generalize H1 = H at hP hS ⊢
    obtain rfl : f_X12_divisor_e8 (S8.I r14 1) (S8.I r20 1) = r25 := c26.symm
    refine lv_iconst (v := 1) hx hb dX12_hunts_30 (by decide) ?_
    refine lv_icmp_ne (tgt := 38) hx hb dX12_hunts_31 (by decide) (fun c28 => ?_) (fun c28 => ?_)
    · have c28i : ¬ (f_X12_divisor_e8 (S8.I r14 1) (S8.I r20 1)).toInt = 1 := neq_v rfl rfl c28
      refine lv_iconst (v := 0) hx hb dX12_hunts_38 (by decide) ?_
      refine W.widen (k := 0) (n := 0) (Nat.le_of_ble_eq_true rfl) (Nat.le_of_ble_eq_true rfl) ?_
      exact W.zret (v := (0 : Int32)) hx hb hr (by rfl) (fun t ht hW9 => ⟨⟨(0 : Int32), S8, rfl, ⟨(by show ((0 : Int32), S8) = f_X12_hunts S o1 x1 x2; unfold f_X12_hunts; rw [l2_eq c4.symm, if_neg c12, l1_eq c15.symm, l1_eq c21.symm, if_neg c28]), t9, (by rfl)⟩, wd_end hP hK hD ht hW9.alike⟩, hS.F ht⟩) hS.2.2 dX12_hunts_39 hlocks
    · have c28i : (f_X12_divisor_e8 (S8.I r14 1) (S8.I r20 1)).toInt = 1 := eq_v rfl rfl c28
      refine lv_iconst (v := 1) hx hb dX12_hunts_34 (by decide) ?_
      refine lv_goto (tgt := 39) hx hb dX12_hunts_35 (by decide) ?_
      refine W.widen (k := 0) (n := 0) (Nat.le_of_ble_eq_true rfl) (Nat.le_of_ble_eq_true rfl) ?_
      exact W.zret (v := (1 : Int32)) hx hb hr (by rfl) (fun t ht hW9 => ⟨⟨(1 : Int32), S8, rfl, ⟨(by show ((1 : Int32), S8) = f_X12_hunts S o1 x1 x2; unfold f_X12_hunts; rw [l2_eq c4.symm, if_neg c12, l1_eq c15.symm, l1_eq c21.symm, if_pos c28]), t9, (by rfl)⟩, wd_end hP hK hD ht hW9.alike⟩, hS.F ht⟩) hS.2.2 dX12_hunts_39 hlocks
theorem hd_X12_bears : yX12_bears.cls = RX12 ∧ yX12_bears.cls ≠ "java/lang/invoke/MethodHandle" ∧ yX12_bears.cls ≠ "java/lang/invoke/VarHandle" ∧ (parseMethodDescriptor yX12_bears.desc).map (fun d => d.parameters.length) = some 1 := by decide +kernel
set_option maxHeartbeats 4000000 in
set_option maxRecDepth 100000 in
theorem c_X12_bears (l : Launch) {D : va_G} {cy : Nat → ClassId} {X : va_W} (S : wPS) (sz : Nat) (o1 : Nat) (h_o1 : isA S o1 12) (x1 : Int32) (hW : wtB S [])  : Met l yX12_bears wsX12_bears ({ frames := 4, cells := 0, slots := 0, locals := 85 }) (va_Pc [.ref o1, .int x1] (fun U => U.heap.size = sz ∧ WD D cy X (fun _ => True) S U ∧ NW U)) (va_Qi (fun r (u : wPS) => stp [(12, 15)] [] [] S u) (fun u t => WD D cy X (va_A (X ++ PL cy S) sz) u t) (va_A (X ++ PL cy S) sz)) 0 0 (va_A (X ++ PL cy S) sz) := by
  refine Met.ofW (cc := cX12_bears) (maxL := 2) (ret := (some .int)) (by decide) rfl ?_
  intro p e s m args below meth c s₁ B hml hv
  obtain ⟨rfl, hsz, ⟨hP, hK, hD0⟩, hN⟩ := hv
  have hx := B.exec
  have hb := B.bytes
  have hr := B.returns
  have hts := atoms_spec (ws := wsX12_bears) B.pre
  have hown : s.vm.findClass RX12 = some m.cls := findClass_of_methodNamed (x := yX12_bears) B.named
  have hlocks := B.notSynchronized
  subst hsz
  have hD := hD0.self (sz := s.heap.size)
  generalize hAe : va_A (X ++ PL cy S) s.heap.size = A at hD ⊢
  have hA : ∀ q : Nat, s.heap.size ≤ q → A q := fun q h => by rw [← hAe]; exact Or.inr h
  have hS : va_S A s.heap s.heap [] := va_S.rf
  have hl := lv_entry ([.ref o1, .int x1]) (n := 2) (Nat.le_of_ble_eq_true rfl)
  rw [lg_entry_eq]
  generalize (lg_sl ([.ref o1, .int x1]) ++ List.replicate (2 - (lg_sl ([.ref o1, .int x1])).length) Slot.unset).toArray = ls at hl ⊢
  have hl : lv_has ls 2 [(0, .ref o1), (1, .int x1)] := hl
  have t0 : stp [(12, 15)] [] [] S S := stp.rf hW
  refine lv_aload_n hx hb dX12_bears_0 rfl (lv_at hl 0 rfl) ?_
  refine lv_iload_n hx hb dX12_bears_1 rfl (lv_at hl 1 rfl) ?_
  have hFc := free_all hD hS hA
  obtain ⟨k1, gk1, hk1⟩ := wGt (cy := cy) X S h_o1.1 h_o1.2.1
  refine va_calli (va_runV (As := [.int x1]) (rest := []) ⟨hx, hb, hml, hown, hts⟩ (c_X12_isGear l (cy := cy) (X := X) (D := D) S _ o1 h_o1 x1 (hW)) (cwV 1 hts gX12_bears_X12_isGear rfl rfl rfl hd_X12_isGear ⟨Nat.le_of_ble_eq_true rfl, Nat.le_of_ble_eq_true rfl⟩) (pV (va_recv hK hP (q := (RX12, TX12, 34)) (ci := 16) (q0 := k1) rfl hk1) hP hK hD hN) rfl rfl hl.1 rfl (lv_room (Nat.le_of_ble_eq_true rfl)) dX12_bears_2 ⟨(Nat.zero_le _), (Nat.zero_le _)⟩) hS (fun q _ h => hFc q h) hFc (fun r2 u t H1 locs ht hvm hw hB hz1 hk1 hS => ?_)
  have c3 := hw
  obtain ⟨hP, hD⟩ := wd_post hFc ht hB
  generalize H1 = H at hP hS ⊢
  obtain rfl : f_X12_isGear S o1 x1 = r2 := c3.symm
  have F4 := ((hW.at h_o1 List.not_mem_nil).to_12 h_o1.2.1).F0
  have i5 : (f_X12_isGear S o1 x1).toInt = 0 ∨ (0 ≤ x1.toInt ∧ x1.toInt < (S.I (S.f o1 0) 2).toInt) := by have h9 := ig_rng x1 ((hW.at h_o1 List.not_mem_nil).to_12 h_o1.2.1) hW; rw [f_of F4.1] at h9; exact h9
  refine lv_if_eq (tgt := 23) hx hb dX12_bears_5 (by decide) (fun c6 => ?_) (fun c6 => ?_)
  · have c6i : (f_X12_isGear S o1 x1).toInt = 0 := eq_v rfl rfl c6
    refine lv_aload_n hx hb dX12_bears_23 rfl (lv_at hl 0 rfl) ?_
    refine lv_iconst (v := 1) hx hb dX12_bears_24 (by decide) ?_
    have l32_1 : (1 : Int32).toInt = 1 := rfl
    have hFc := free_all hD hS hA
    obtain ⟨k7, gk7, hk7⟩ := wGt (cy := cy) X S h_o1.1 h_o1.2.1
    refine va_calli (va_runV (As := [.int (1 : Int32)]) (rest := []) ⟨hx, hb, hml, hown, hts⟩ (c_X12_fails l (cy := cy) (X := X) (D := D) S _ o1 h_o1 (1 : Int32) (hW)) (cwV 1 hts gX12_bears_X12_fails rfl rfl rfl hd_X12_fails ⟨Nat.le_of_ble_eq_true rfl, Nat.le_of_ble_eq_true rfl⟩) (pV (va_recv hK hP (q := (RX12, TX12, 34)) (ci := 16) (q0 := k7) rfl hk7) hP hK hD hN) rfl rfl hl.1 rfl (lv_room (Nat.le_of_ble_eq_true rfl)) dX12_bears_25 ⟨(Nat.zero_le _), (Nat.zero_le _)⟩) hS (fun q _ h => hFc q h) hFc (fun r8 u t H1 locs ht hvm hw hB hz1 hk1 hS => ?_)
    obtain ⟨c9, w10⟩ := hw
    obtain ⟨hP, hD⟩ := wd_post hFc ht hB
    generalize H1 = H at hP hS ⊢
    obtain ⟨S11, rfl⟩ : ∃ z, z = u := ⟨_, rfl⟩
    have t12 : stp [(12, 15)] [] [] S S11 := t0.tr w10 (by decide) (fun _ q => absurd q List.not_mem_nil)
    have xe13 : ext S S11 := w10.x
    refine W.widen (k := 0) (n := 0) (Nat.le_of_ble_eq_true rfl) (Nat.le_of_ble_eq_true rfl) ?_
    exact W.iret (v := r8) hx hb hr (fun t ht hW9 => ⟨⟨r8, S11, rfl, t12, wd_end hP hK hD ht hW9.alike⟩, hS.F ht⟩) hS.2.2 dX12_bears_28 hlocks
  · have c6i : ¬ (f_X12_isGear S o1 x1).toInt = 0 := neq_v rfl rfl c6
    refine lv_aload_n hx hb dX12_bears_8 rfl (lv_at hl 0 rfl) ?_
    refine lv_aload_n hx hb dX12_bears_9 rfl (lv_at hl 0 rfl) ?_
    refine lv_iload_n hx hb dX12_bears_10 rfl (lv_at hl 1 rfl) ?_
    have hFc := free_all hD hS hA
    obtain ⟨k14, gk14, hk14⟩ := wGt (cy := cy) X S h_o1.1 h_o1.2.1
    refine va_callq (va_runV (As := [.int x1]) (rest := [.ref o1]) ⟨hx, hb, hml, hown, hts⟩ (c_X12_gearAt l (cy := cy) (X := X) (D := D) S _ o1 h_o1 x1 (hW) (by rw [f_of F4.1]; omega)) (cwV 1 hts gX12_bears_X12_gearAt rfl rfl rfl hd_X12_gearAt ⟨Nat.le_of_ble_eq_true rfl, Nat.le_of_ble_eq_true rfl⟩) (pV (va_recv hK hP (q := (RX12, TX12, 34)) (ci := 16) (q0 := k14) rfl hk14) hP hK hD hN) rfl rfl hl.1 rfl (lv_room (Nat.le_of_ble_eq_true rfl)) dX12_bears_11 ⟨(Nat.zero_le _), (Nat.zero_le _)⟩) hS (fun q _ h => hFc q h) hFc (fun r15 u t H1 locs ht hvm hw hB hz1 hk1 hS => ?_)
    obtain ⟨r15, rfl, c16, o17⟩ := hw
    obtain ⟨hP, hD⟩ := wd_post hFc ht hB
    generalize H1 = H at hP hS ⊢
    refine W.eq (g2 := F0 m 14 ls [.ref r15, .ref o1]) rfl ?_
    have hFc := free_all hD hS hA
    obtain ⟨k18, gk18, hk18⟩ := wGt (cy := cy) X S o17.1 o17.2.1
    refine va_calli (va_runV (As := []) (rest := [.ref o1]) ⟨hx, hb, hml, hown, hts⟩ (c_X10_bears_ l (cy := cy) (X := X) (D := D) S _ r15 o17 (hW)) (cwV 0 hts gX12_bears_X10_bears_ rfl rfl rfl hd_X10_bears_ ⟨Nat.le_of_ble_eq_true rfl, Nat.le_of_ble_eq_true rfl⟩) (pV (va_recv hK hP (q := (RX10, TX10, 23)) (ci := 14) (q0 := k18) rfl hk18) hP hK hD hN) rfl rfl hl.1 rfl (lv_room (Nat.le_of_ble_eq_true rfl)) dX12_bears_14 ⟨(Nat.zero_le _), (Nat.zero_le _)⟩) hS (fun q _ h => hFc q h) hFc (fun r19 u t H1 locs ht hvm hw hB hz1 hk1 hS => ?_)
    have y20 := hw
    obtain ⟨hP, hD⟩ := wd_post hFc ht hB
    generalize H1 = H at hP hS ⊢
    have hFc := free_all hD hS hA
    obtain ⟨k21, gk21, hk21⟩ := wGt (cy := cy) X S h_o1.1 h_o1.2.1
    refine va_calli (va_runV (As := [.int r19]) (rest := []) ⟨hx, hb, hml, hown, hts⟩ (c_X12_answer l (cy := cy) (X := X) (D := D) S _ o1 h_o1 r19 (hW)) (cwV 1 hts gX12_bears_X12_answer rfl rfl rfl hd_X12_answer ⟨Nat.le_of_ble_eq_true rfl, Nat.le_of_ble_eq_true rfl⟩) (pV (va_recv hK hP (q := (RX12, TX12, 34)) (ci := 16) (q0 := k21) rfl hk21) hP hK hD hN) rfl rfl hl.1 rfl (lv_room (Nat.le_of_ble_eq_true rfl)) dX12_bears_17 ⟨(Nat.zero_le _), (Nat.zero_le _)⟩) hS (fun q _ h => hFc q h) hFc (fun r22 u t H1 locs ht hvm hw hB hz1 hk1 hS => ?_)
    obtain ⟨c23, w24⟩ := hw
    obtain ⟨hP, hD⟩ := wd_post hFc ht hB
    generalize H1 = H at hP hS ⊢
    obtain ⟨S25, rfl⟩ : ∃ z, z = u := ⟨_, rfl⟩
    have t26 : stp [(12, 15)] [] [] S S25 := t0.tr w24 (by decide) (fun _ q => absurd q List.not_mem_nil)
    have xe27 : ext S S25 := w24.x
    refine lv_goto (tgt := 28) hx hb dX12_bears_20 (by decide) ?_
    refine W.widen (k := 0) (n := 0) (Nat.le_of_ble_eq_true rfl) (Nat.le_of_ble_eq_true rfl) ?_
    exact W.iret (v := r22) hx hb hr (fun t ht hW9 => ⟨⟨r22, S25, rfl, t26, wd_end hP hK hD ht hW9.alike⟩, hS.F ht⟩) hS.2.2 dX12_bears_28 hlocks
theorem hd_X12_life : yX12_life.cls = RX12 ∧ yX12_life.cls ≠ "java/lang/invoke/MethodHandle" ∧ yX12_life.cls ≠ "java/lang/invoke/VarHandle" ∧ (parseMethodDescriptor yX12_life.desc).map (fun d => d.parameters.length) = some 2 := by decide +kernel
set_option maxHeartbeats 4000000 in
set_option maxRecDepth 100000 in
theorem c_X12_life (l : Launch) {D : va_G} {cy : Nat → ClassId} {X : va_W} (S : wPS) (sz : Nat) (o1 : Nat) (h_o1 : isA S o1 12) (x1 : Int32) (x2 : Int32) (hW : wtB S [])  : Met l yX12_life wsX12_life ({ frames := 5, cells := 0, slots := 0, locals := 112 }) (va_Pc [.ref o1, .int x1, .int x2] (fun U => U.heap.size = sz ∧ WD D cy X (fun _ => True) S U ∧ NW U)) (va_Ql (fun r (u : wPS) => stp [(12, 15)] [] [] S u) (fun u t => WD D cy X (va_A (X ++ PL cy S) sz) u t) (va_A (X ++ PL cy S) sz)) 0 0 (va_A (X ++ PL cy S) sz) := by
  refine Met.ofW (cc := cX12_life) (maxL := 3) (ret := (some .long)) (by decide) rfl ?_
  intro p e s m args below meth c s₁ B hml hv
  obtain ⟨rfl, hsz, ⟨hP, hK, hD0⟩, hN⟩ := hv
  have hx := B.exec
  have hb := B.bytes
  have hr := B.returns
  have hts := atoms_spec (ws := wsX12_life) B.pre
  have hown : s.vm.findClass RX12 = some m.cls := findClass_of_methodNamed (x := yX12_life) B.named
  have hlocks := B.notSynchronized
  subst hsz
  have hD := hD0.self (sz := s.heap.size)
  generalize hAe : va_A (X ++ PL cy S) s.heap.size = A at hD ⊢
  have hA : ∀ q : Nat, s.heap.size ≤ q → A q := fun q h => by rw [← hAe]; exact Or.inr h
  have hS : va_S A s.heap s.heap [] := va_S.rf
  have hl := lv_entry ([.ref o1, .int x1, .int x2]) (n := 3) (Nat.le_of_ble_eq_true rfl)
  rw [lg_entry_eq]
  generalize (lg_sl ([.ref o1, .int x1, .int x2]) ++ List.replicate (3 - (lg_sl ([.ref o1, .int x1, .int x2])).length) Slot.unset).toArray = ls at hl ⊢
  have hl : lv_has ls 3 [(0, .ref o1), (1, .int x1), (2, .int x2)] := hl
  have t0 : stp [(12, 15)] [] [] S S := stp.rf hW
  refine lv_aload_n hx hb dX12_life_0 rfl (lv_at hl 0 rfl) ?_
  refine lv_iload_n hx hb dX12_life_1 rfl (lv_at hl 1 rfl) ?_
  have hFc := free_all hD hS hA
  obtain ⟨k1, gk1, hk1⟩ := wGt (cy := cy) X S h_o1.1 h_o1.2.1
  refine va_calli (va_runV (As := [.int x1]) (rest := []) ⟨hx, hb, hml, hown, hts⟩ (c_X12_isGear l (cy := cy) (X := X) (D := D) S _ o1 h_o1 x1 (hW)) (cwV 1 hts gX12_life_X12_isGear rfl rfl rfl hd_X12_isGear ⟨Nat.le_of_ble_eq_true rfl, Nat.le_of_ble_eq_true rfl⟩) (pV (va_recv hK hP (q := (RX12, TX12, 34)) (ci := 16) (q0 := k1) rfl hk1) hP hK hD hN) rfl rfl hl.1 rfl (lv_room (Nat.le_of_ble_eq_true rfl)) dX12_life_2 ⟨(Nat.zero_le _), (Nat.zero_le _)⟩) hS (fun q _ h => hFc q h) hFc (fun r2 u t H1 locs ht hvm hw hB hz1 hk1 hS => ?_)
  have c3 := hw
  obtain ⟨hP, hD⟩ := wd_post hFc ht hB
  generalize H1 = H at hP hS ⊢
  obtain rfl : f_X12_isGear S o1 x1 = r2 := c3.symm
  have F4 := ((hW.at h_o1 List.not_mem_nil).to_12 h_o1.2.1).F0
  have i5 : (f_X12_isGear S o1 x1).toInt = 0 ∨ (0 ≤ x1.toInt ∧ x1.toInt < (S.I (S.f o1 0) 2).toInt) := by have h9 := ig_rng x1 ((hW.at h_o1 List.not_mem_nil).to_12 h_o1.2.1) hW; rw [f_of F4.1] at h9; exact h9
  refine lv_if_ne (tgt := 15) hx hb dX12_life_5 (by decide) (fun c6 => ?_) (fun c6 => ?_)
  · have c6i : ¬ (f_X12_isGear S o1 x1).toInt = 0 := neq_v rfl rfl c6
    refine lv_iload_n hx hb dX12_life_15 rfl (lv_at hl 2 rfl) ?_
    refine lv_i2l hx hb dX12_life_16 rfl ?_
    refine lv_lconst (v := 1) hx hb dX12_life_17 (by decide) ?_
    refine lv_ldc2 (own := RX12) (v := 999999) hx hb hown (hts (.constantLong RX12 306 (999999)) (by decide +kernel)) dX12_life_18 ?_
    have hFc := free_all hD hS hA
    refine va_calli (va_runS (As := [.long x2.toInt64, .long (1 : Int64), .long (999999 : Int64)]) (rest := []) ⟨hx, hb, hml, hown, hts⟩ (c_X12_in l (cy := cy) (X := X) (D := D) S _ x2.toInt64 (1 : Int64) (999999 : Int64)) (cwS 3 hts gX12_life_X12_in rfl rfl rfl hd_X12_in ⟨Nat.le_of_ble_eq_true rfl, Nat.le_of_ble_eq_true rfl⟩) (pS hP hK hD hN) rfl rfl hl.1 rfl (lv_room (Nat.le_of_ble_eq_true rfl)) dX12_life_21 ⟨(Nat.zero_le _), (Nat.zero_le _)⟩) hS (fun q _ h => hFc q h) hFc (fun r7 u t H1 locs ht hvm hw hB hz1 hk1 hS => ?_)
    have c8 := hw
    obtain ⟨hP, hD⟩ := wd_post hFc ht hB
    generalize H1 = H at hP hS ⊢
    obtain rfl : f_X12_in x2.toInt64 (1 : Int64) (999999 : Int64) = r7 := c8.symm
    have i9 := i64_i x2
    have l64_1 : (1 : Int64).toInt = 1 := rfl
    have l64_999999 : (999999 : Int64).toInt = 999999 := rfl
    have i10 := in_rng x2.toInt64 (1 : Int64) (999999 : Int64)
    refine lv_if_eq (tgt := 44) hx hb dX12_life_24 (by decide) (fun c11 => ?_) (fun c11 => ?_)
    · have c11i : (f_X12_in x2.toInt64 (1 : Int64) (999999 : Int64)).toInt = 0 := eq_v rfl rfl c11
      refine lv_aload_n hx hb dX12_life_44 rfl (lv_at hl 0 rfl) ?_
      refine lv_iconst (v := 2) hx hb dX12_life_45 (by decide) ?_
      have l32_2 : (2 : Int32).toInt = 2 := rfl
      have hFc := free_all hD hS hA
      obtain ⟨k12, gk12, hk12⟩ := wGt (cy := cy) X S h_o1.1 h_o1.2.1
      refine va_calli (va_runV (As := [.int (2 : Int32)]) (rest := []) ⟨hx, hb, hml, hown, hts⟩ (c_X12_fails l (cy := cy) (X := X) (D := D) S _ o1 h_o1 (2 : Int32) (hW)) (cwV 1 hts gX12_life_X12_fails rfl rfl rfl hd_X12_fails ⟨Nat.le_of_ble_eq_true rfl, Nat.le_of_ble_eq_true rfl⟩) (pV (va_recv hK hP (q := (RX12, TX12, 34)) (ci := 16) (q0 := k12) rfl hk12) hP hK hD hN) rfl rfl hl.1 rfl (lv_room (Nat.le_of_ble_eq_true rfl)) dX12_life_46 ⟨(Nat.zero_le _), (Nat.zero_le _)⟩) hS (fun q _ h => hFc q h) hFc (fun r13 u t H1 locs ht hvm hw hB hz1 hk1 hS => ?_)
      obtain ⟨c14, w15⟩ := hw
      obtain ⟨hP, hD⟩ := wd_post hFc ht hB
      generalize H1 = H at hP hS ⊢
      obtain ⟨S16, rfl⟩ : ∃ z, z = u := ⟨_, rfl⟩
      have t17 : stp [(12, 15)] [] [] S S16 := t0.tr w15 (by decide) (fun _ q => absurd q List.not_mem_nil)
      have xe18 : ext S S16 := w15.x
      refine lv_i2l hx hb dX12_life_49 rfl ?_
      refine W.widen (k := 0) (n := 0) (Nat.le_of_ble_eq_true rfl) (Nat.le_of_ble_eq_true rfl) ?_
      exact W.lret (v := r13.toInt64) hx hb hr (fun t ht hW9 => ⟨⟨r13.toInt64, S16, rfl, t17, wd_end hP hK hD ht hW9.alike⟩, hS.F ht⟩) hS.2.2 dX12_life_50 hlocks
    · have c11i : ¬ (f_X12_in x2.toInt64 (1 : Int64) (999999 : Int64)).toInt = 0 := neq_v rfl rfl c11
      refine lv_aload_n hx hb dX12_life_27 rfl (lv_at hl 0 rfl) ?_
      refine lv_aload_n hx hb dX12_life_28 rfl (lv_at hl 0 rfl) ?_
      refine lv_iload_n hx hb dX12_life_29 rfl (lv_at hl 1 rfl) ?_
      have hFc := free_all hD hS hA
      obtain ⟨k19, gk19, hk19⟩ := wGt (cy := cy) X S h_o1.1 h_o1.2.1
      refine va_callq (va_runV (As := [.int x1]) (rest := [.ref o1]) ⟨hx, hb, hml, hown, hts⟩ (c_X12_gearAt l (cy := cy) (X := X) (D := D) S _ o1 h_o1 x1 (hW) (by rw [f_of F4.1]; omega)) (cwV 1 hts gX12_life_X12_gearAt rfl rfl rfl hd_X12_gearAt ⟨Nat.le_of_ble_eq_true rfl, Nat.le_of_ble_eq_true rfl⟩) (pV (va_recv hK hP (q := (RX12, TX12, 34)) (ci := 16) (q0 := k19) rfl hk19) hP hK hD hN) rfl rfl hl.1 rfl (lv_room (Nat.le_of_ble_eq_true rfl)) dX12_life_30 ⟨(Nat.zero_le _), (Nat.zero_le _)⟩) hS (fun q _ h => hFc q h) hFc (fun r20 u t H1 locs ht hvm hw hB hz1 hk1 hS => ?_)
      obtain ⟨r20, rfl, c21, o22⟩ := hw
      obtain ⟨hP, hD⟩ := wd_post hFc ht hB
      generalize H1 = H at hP hS ⊢
      refine W.eq (g2 := F0 m 33 ls [.ref r20, .ref o1]) rfl ?_
      refine lv_iload_n hx hb dX12_life_33 rfl (lv_at hl 2 rfl) ?_
      refine lv_i2l hx hb dX12_life_34 rfl ?_
      have hFc := free_all hD hS hA
      obtain ⟨k23, gk23, hk23⟩ := wGt (cy := cy) X S o22.1 o22.2.1
      refine va_calll (va_runV (As := [.long x2.toInt64]) (rest := [.ref o1]) ⟨hx, hb, hml, hown, hts⟩ (c_X10_life l (cy := cy) (X := X) (D := D) S _ r20 o22 x2.toInt64 (hW)) (cwV 1 hts gX12_life_X10_life rfl rfl rfl hd_X10_life ⟨Nat.le_of_ble_eq_true rfl, Nat.le_of_ble_eq_true rfl⟩) (pV (va_recv hK hP (q := (RX10, TX10, 23)) (ci := 14) (q0 := k23) rfl hk23) hP hK hD hN) rfl rfl hl.1 rfl (lv_room (Nat.le_of_ble_eq_true rfl)) dX12_life_35 ⟨(Nat.zero_le _), (Nat.zero_le _)⟩) hS (fun q _ h => hFc q h) hFc (fun r24 u t H1 locs ht hvm hw hB hz1 hk1 hS => ?_)
      clear hw
      obtain ⟨hP, hD⟩ := wd_post hFc ht hB
      generalize H1 = H at hP hS ⊢
      have hFc := free_all hD hS hA
      obtain ⟨k25, gk25, hk25⟩ := wGt (cy := cy) X S h_o1.1 h_o1.2.1
      refine va_calll (va_runV (As := [.long r24]) (rest := []) ⟨hx, hb, hml, hown, hts⟩ (c_X12_answerLong l (cy := cy) (X := X) (D := D) S _ o1 h_o1 r24 (hW)) (cwV 1 hts gX12_life_X12_answerLong rfl rfl rfl hd_X12_answerLong ⟨Nat.le_of_ble_eq_true rfl, Nat.le_of_ble_eq_true rfl⟩) (pV (va_recv hK hP (q := (RX12, TX12, 34)) (ci := 16) (q0 := k25) rfl hk25) hP hK hD hN) rfl rfl hl.1 rfl (lv_room (Nat.le_of_ble_eq_true rfl)) dX12_life_38 ⟨(Nat.zero_le _), (Nat.zero_le _)⟩) hS (fun q _ h => hFc q h) hFc (fun r26 u t H1 locs ht hvm hw hB hz1 hk1 hS => ?_)
      obtain ⟨c27, w28⟩ := hw
      obtain ⟨hP, hD⟩ := wd_post hFc ht hB
      generalize H1 = H at hP hS ⊢
      obtain ⟨S29, rfl⟩ : ∃ z, z = u := ⟨_, rfl⟩
      have t30 : stp [(12, 15)] [] [] S S29 := t0.tr w28 (by decide) (fun _ q => absurd q List.not_mem_nil)
      have xe31 : ext S S29 := w28.x
      refine lv_goto (tgt := 50) hx hb dX12_life_41 (by decide) ?_
      refine W.widen (k := 0) (n := 0) (Nat.le_of_ble_eq_true rfl) (Nat.le_of_ble_eq_true rfl) ?_
      exact W.lret (v := r26) hx hb hr (fun t ht hW9 => ⟨⟨r26, S29, rfl, t30, wd_end hP hK hD ht hW9.alike⟩, hS.F ht⟩) hS.2.2 dX12_life_50 hlocks
  · have c6i : (f_X12_isGear S o1 x1).toInt = 0 := eq_v rfl rfl c6
    refine lv_aload_n hx hb dX12_life_8 rfl (lv_at hl 0 rfl) ?_
    refine lv_iconst (v := 1) hx hb dX12_life_9 (by decide) ?_
    have l32_1 : (1 : Int32).toInt = 1 := rfl
    have hFc := free_all hD hS hA
    obtain ⟨k32, gk32, hk32⟩ := wGt (cy := cy) X S h_o1.1 h_o1.2.1
    refine va_calli (va_runV (As := [.int (1 : Int32)]) (rest := []) ⟨hx, hb, hml, hown, hts⟩ (c_X12_fails l (cy := cy) (X := X) (D := D) S _ o1 h_o1 (1 : Int32) (hW)) (cwV 1 hts gX12_life_X12_fails rfl rfl rfl hd_X12_fails ⟨Nat.le_of_ble_eq_true rfl, Nat.le_of_ble_eq_true rfl⟩) (pV (va_recv hK hP (q := (RX12, TX12, 34)) (ci := 16) (q0 := k32) rfl hk32) hP hK hD hN) rfl rfl hl.1 rfl (lv_room (Nat.le_of_ble_eq_true rfl)) dX12_life_10 ⟨(Nat.zero_le _), (Nat.zero_le _)⟩) hS (fun q _ h => hFc q h) hFc (fun r33 u t H1 locs ht hvm hw hB hz1 hk1 hS => ?_)
    obtain ⟨c34, w35⟩ := hw
    obtain ⟨hP, hD⟩ := wd_post hFc ht hB
    generalize H1 = H at hP hS ⊢
    obtain ⟨S36, rfl⟩ : ∃ z, z = u := ⟨_, rfl⟩
    have t37 : stp [(12, 15)] [] [] S S36 := t0.tr w35 (by decide) (fun _ q => absurd q List.not_mem_nil)
    have xe38 : ext S S36 := w35.x
    refine lv_i2l hx hb dX12_life_13 rfl ?_
    refine W.widen (k := 0) (n := 0) (Nat.le_of_ble_eq_true rfl) (Nat.le_of_ble_eq_true rfl) ?_
    exact W.lret (v := r33.toInt64) hx hb hr (fun t ht hW9 => ⟨⟨r33.toInt64, S36, rfl, t37, wd_end hP hK hD ht hW9.alike⟩, hS.F ht⟩) hS.2.2 dX12_life_14 hlocks
theorem hi_X12_canRun_X10 : ∀ w ∈ u_ws RX10 TX10 23, w ∈ wsX12_canRun := by decide +kernel
theorem hd_X12_canRun : yX12_canRun.cls = RX12 ∧ yX12_canRun.cls ≠ "java/lang/invoke/MethodHandle" ∧ yX12_canRun.cls ≠ "java/lang/invoke/VarHandle" ∧ (parseMethodDescriptor yX12_canRun.desc).map (fun d => d.parameters.length) = some 2 := by decide +kernel
set_option maxHeartbeats 4000000 in
set_option maxRecDepth 100000 in
theorem c_X12_canRun (l : Launch) {D : va_G} {cy : Nat → ClassId} {X : va_W} (S : wPS) (sz : Nat) (o1 : Nat) (h_o1 : isA S o1 12) (x1 : Int32) (x2 : Int32) (hW : wtB S []) (g1 : 0 ≤ x1.toInt ∧ x1.toInt < (S.I (S.f o1 0) 2).toInt) : Met l yX12_canRun wsX12_canRun ({ frames := 4, cells := 0, slots := 0, locals := 85 }) (va_Pc [.ref o1, .int x1, .int x2] (fun U => U.heap.size = sz ∧ WD D cy X (fun _ => True) S U ∧ NW U)) (va_Qi (fun r (_ : Unit) => narrow .boolean (.int r) = .int r) (fun _ t => WD D cy X (va_A (X ++ PL cy S) sz) S t) (va_A (X ++ PL cy S) sz)) 0 0 (va_A (X ++ PL cy S) sz) := by
  refine Met.ofW (cc := cX12_canRun) (maxL := 4) (ret := (some .boolean)) (by decide) rfl ?_
  intro p e s m args below meth c s₁ B hml hv
  obtain ⟨rfl, hsz, ⟨hP, hK, hD0⟩, hN⟩ := hv
  have hx := B.exec
  have hb := B.bytes
  have hr := B.returns
  have hts := atoms_spec (ws := wsX12_canRun) B.pre
  have hown : s.vm.findClass RX12 = some m.cls := findClass_of_methodNamed (x := yX12_canRun) B.named
  have hlocks := B.notSynchronized
  subst hsz
  have hD := hD0.self (sz := s.heap.size)
  generalize hAe : va_A (X ++ PL cy S) s.heap.size = A at hD ⊢
  have hA : ∀ q : Nat, s.heap.size ≤ q → A q := fun q h => by rw [← hAe]; exact Or.inr h
  have hS : va_S A s.heap s.heap [] := va_S.rf
  have hl := lv_entry ([.ref o1, .int x1, .int x2]) (n := 4) (Nat.le_of_ble_eq_true rfl)
  rw [lg_entry_eq]
  generalize (lg_sl ([.ref o1, .int x1, .int x2]) ++ List.replicate (4 - (lg_sl ([.ref o1, .int x1, .int x2])).length) Slot.unset).toArray = ls at hl ⊢
  have hl : lv_has ls 4 [(0, .ref o1), (1, .int x1), (2, .int x2)] := hl
  refine lv_aload_n hx hb dX12_canRun_0 rfl (lv_at hl 0 rfl) ?_
  refine lv_iload_n hx hb dX12_canRun_1 rfl (lv_at hl 1 rfl) ?_
  have F1 := ((hW.at h_o1 List.not_mem_nil).to_12 h_o1.2.1).F0
  have hFc := free_all hD hS hA
  obtain ⟨k2, gk2, hk2⟩ := wGt (cy := cy) X S h_o1.1 h_o1.2.1
  refine va_callq (va_runV (As := [.int x1]) (rest := []) ⟨hx, hb, hml, hown, hts⟩ (c_X12_gearAt l (cy := cy) (X := X) (D := D) S _ o1 h_o1 x1 (hW) (by rw [f_of F1.1]; omega)) (cwV 1 hts gX12_canRun_X12_gearAt rfl rfl rfl hd_X12_gearAt ⟨Nat.le_of_ble_eq_true rfl, Nat.le_of_ble_eq_true rfl⟩) (pV (va_recv hK hP (q := (RX12, TX12, 34)) (ci := 16) (q0 := k2) rfl hk2) hP hK hD hN) rfl rfl hl.1 rfl (lv_room (Nat.le_of_ble_eq_true rfl)) dX12_canRun_2 ⟨(Nat.zero_le _), (Nat.zero_le _)⟩) hS (fun q _ h => hFc q h) hFc (fun r3 u t H1 locs ht hvm hw hB hz1 hk1 hS => ?_)
  obtain ⟨r3, rfl, c4, o5⟩ := hw
  obtain ⟨hP, hD⟩ := wd_post hFc ht hB
  generalize H1 = H at hP hS ⊢
  refine W.eq (g2 := F0 m 5 ls [.ref r3]) rfl ?_
  refine lv_astore_n (lv' := [(3, .ref r3), (0, .ref o1), (1, .int x1), (2, .int x2)]) hx hb dX12_canRun_5 rfl hl (by decide) rfl (fun ls hl => ?_)
  refine lv_aload_n hx hb dX12_canRun_6 rfl (lv_at hl 0 rfl) ?_
  obtain ⟨k6, gk6, hk6⟩ := wGt (cy := cy) X S o5.1 o5.2.1
  have i7 := ((hW.at o5 List.not_mem_nil).to_10 o5.2.1).R18
  refine va_getN (D := D) (ci := 14) (v := .int (S.I r3 18)) (C := RX10) (T := TX10) (N := 23) hx hb hts hi_X12_canRun_X10 hown hK hP k6 hk6 rfl 18 (by decide) (va_Nw.use rfl (hN (.fieldLinkNest RX12 160 "HobhouseModel$Gear" "isCut" "Z" "HobhouseModel") (by decide +kernel))) (fun _ h9 => h9) rfl dX12_canRun_7 ?_
  refine lv_if_eq (tgt := 47) hx hb dX12_canRun_10 (by decide) (fun c8 => ?_) (fun c8 => ?_)
  · have c8i : (S.I r3 18).toInt = 0 := eq_v rfl rfl c8
    refine lv_iconst (v := 0) hx hb dX12_canRun_47 (by decide) ?_
    refine W.widen (k := 0) (n := 0) (Nat.le_of_ble_eq_true rfl) (Nat.le_of_ble_eq_true rfl) ?_
    exact W.zret (v := (0 : Int32)) hx hb hr (by rfl) (fun t ht hW9 => ⟨⟨(0 : Int32), (), rfl, (by rfl), wd_end hP hK hD ht hW9.alike⟩, hS.F ht⟩) hS.2.2 dX12_canRun_48 hlocks
  · have c8i : ¬ (S.I r3 18).toInt = 0 := neq_v rfl rfl c8
    refine lv_aload_n hx hb dX12_canRun_13 rfl (lv_at hl 0 rfl) ?_
    obtain ⟨k9, gk9, hk9⟩ := wGt (cy := cy) X S o5.1 o5.2.1
    have i10 := ((hW.at o5 List.not_mem_nil).to_10 o5.2.1).R20
    refine va_getN (D := D) (ci := 14) (v := .int (S.I r3 20)) (C := RX10) (T := TX10) (N := 23) hx hb hts hi_X12_canRun_X10 hown hK hP k9 hk9 rfl 20 (by decide) (va_Nw.use rfl (hN (.fieldLinkNest RX12 372 "HobhouseModel$Gear" "isScrap" "Z" "HobhouseModel") (by decide +kernel))) (fun _ h9 => h9) rfl dX12_canRun_14 ?_
    refine lv_if_ne (tgt := 47) hx hb dX12_canRun_17 (by decide) (fun c11 => ?_) (fun c11 => ?_)
    · have c11i : ¬ (S.I r3 20).toInt = 0 := neq_v rfl rfl c11
      refine lv_iconst (v := 0) hx hb dX12_canRun_47 (by decide) ?_
      refine W.widen (k := 0) (n := 0) (Nat.le_of_ble_eq_true rfl) (Nat.le_of_ble_eq_true rfl) ?_
      exact W.zret (v := (0 : Int32)) hx hb hr (by rfl) (fun t ht hW9 => ⟨⟨(0 : Int32), (), rfl, (by rfl), wd_end hP hK hD ht hW9.alike⟩, hS.F ht⟩) hS.2.2 dX12_canRun_48 hlocks
    · have c11i : (S.I r3 20).toInt = 0 := eq_v rfl rfl c11
      refine lv_aload_n hx hb dX12_canRun_20 rfl (lv_at hl 0 rfl) ?_
      have hFc := free_all hD hS hA
      obtain ⟨k12, gk12, hk12⟩ := wGt (cy := cy) X S o5.1 o5.2.1
      refine va_calli (va_runV (As := []) (rest := []) ⟨hx, hb, hml, hown, hts⟩ (c_X10_isBroken l (cy := cy) (X := X) (D := D) S _ r3 o5) (cwV 0 hts gX12_canRun_X10_isBroken rfl rfl rfl hd_X10_isBroken ⟨Nat.le_of_ble_eq_true rfl, Nat.le_of_ble_eq_true rfl⟩) (pV (va_recv hK hP (q := (RX10, TX10, 23)) (ci := 14) (q0 := k12) rfl hk12) hP hK hD hN) rfl rfl hl.1 rfl (lv_room (Nat.le_of_ble_eq_true rfl)) dX12_canRun_21 ⟨(Nat.zero_le _), (Nat.zero_le _)⟩) hS (fun q _ h => hFc q h) hFc (fun r13 u t H1 locs ht hvm hw hB hz1 hk1 hS => ?_)
      have c14 := hw
      obtain ⟨hP, hD⟩ := wd_post hFc ht hB
      generalize H1 = H at hP hS ⊢
      obtain rfl : f_X10_isBroken S r3 = r13 := c14.symm
      refine lv_if_ne (tgt := 47) hx hb dX12_canRun_24 (by decide) (fun c15 => ?_) (fun c15 => ?_)
      · have c15i : ¬ (f_X10_isBroken S r3).toInt = 0 := neq_v rfl rfl c15
        refine lv_iconst (v := 0) hx hb dX12_canRun_47 (by decide) ?_
        refine W.widen (k := 0) (n := 0) (Nat.le_of_ble_eq_true rfl) (Nat.le_of_ble_eq_true rfl) ?_
        exact W.zret (v := (0 : Int32)) hx hb hr (by rfl) (fun t ht hW9 => ⟨⟨(0 : Int32), (), rfl, (by rfl), wd_end hP hK hD ht hW9.alike⟩, hS.F ht⟩) hS.2.2 dX12_canRun_48 hlocks
      · have c15i : (f_X10_isBroken S r3).toInt = 0 := eq_v rfl rfl c15
        refine lv_aload_n hx hb dX12_canRun_27 rfl (lv_at hl 0 rfl) ?_
        obtain ⟨k16, gk16, hk16⟩ := wGt (cy := cy) X S o5.1 o5.2.1
        refine va_getN (D := D) (ci := 14) (v := .int (S.I r3 16)) (C := RX10) (T := TX10) (N := 23) hx hb hts hi_X12_canRun_X10 hown hK hP k16 hk16 rfl 16 (by decide) (va_Nw.use rfl (hN (.fieldLinkNest RX12 446 "HobhouseModel$Gear" "mate" "I" "HobhouseModel") (by decide +kernel))) (fun _ h9 => h9) rfl dX12_canRun_28 ?_
        refine lv_iconst (v := -1) hx hb dX12_canRun_31 (by decide) ?_
        refine lv_icmp_eq (tgt := 43) hx hb dX12_canRun_32 (by decide) (fun c17 => ?_) (fun c17 => ?_)
        · have c17i : (S.I r3 16).toInt = -1 := eq_v rfl rfl c17
          refine lv_iconst (v := 1) hx hb dX12_canRun_43 (by decide) ?_
          refine lv_goto (tgt := 48) hx hb dX12_canRun_44 (by decide) ?_
          refine W.widen (k := 0) (n := 0) (Nat.le_of_ble_eq_true rfl) (Nat.le_of_ble_eq_true rfl) ?_
          exact W.zret (v := (1 : Int32)) hx hb hr (by rfl) (fun t ht hW9 => ⟨⟨(1 : Int32), (), rfl, (by rfl), wd_end hP hK hD ht hW9.alike⟩, hS.F ht⟩) hS.2.2 dX12_canRun_48 hlocks
        · have c17i : ¬ (S.I r3 16).toInt = -1 := neq_v rfl rfl c17
          refine lv_aload_n hx hb dX12_canRun_35 rfl (lv_at hl 0 rfl) ?_
          obtain ⟨k18, gk18, hk18⟩ := wGt (cy := cy) X S o5.1 o5.2.1
          refine va_getN (D := D) (ci := 14) (v := .int (S.I r3 16)) (C := RX10) (T := TX10) (N := 23) hx hb hts hi_X12_canRun_X10 hown hK hP k18 hk18 rfl 16 (by decide) (va_Nw.use rfl (hN (.fieldLinkNest RX12 446 "HobhouseModel$Gear" "mate" "I" "HobhouseModel") (by decide +kernel))) (fun _ h9 => h9) rfl dX12_canRun_36 ?_
          refine lv_iload_n hx hb dX12_canRun_39 rfl (lv_at hl 3 rfl) ?_
          refine lv_icmp_ne (tgt := 47) hx hb dX12_canRun_40 (by decide) (fun c19 => ?_) (fun c19 => ?_)
          · have c19i : ¬ (S.I r3 16).toInt = x2.toInt := neq_v rfl rfl c19
            refine lv_iconst (v := 0) hx hb dX12_canRun_47 (by decide) ?_
            refine W.widen (k := 0) (n := 0) (Nat.le_of_ble_eq_true rfl) (Nat.le_of_ble_eq_true rfl) ?_
            exact W.zret (v := (0 : Int32)) hx hb hr (by rfl) (fun t ht hW9 => ⟨⟨(0 : Int32), (), rfl, (by rfl), wd_end hP hK hD ht hW9.alike⟩, hS.F ht⟩) hS.2.2 dX12_canRun_48 hlocks
          · have c19i : (S.I r3 16).toInt = x2.toInt := eq_v rfl rfl c19
            refine lv_iconst (v := 1) hx hb dX12_canRun_43 (by decide) ?_
            refine lv_goto (tgt := 48) hx hb dX12_canRun_44 (by decide) ?_
            refine W.widen (k := 0) (n := 0) (Nat.le_of_ble_eq_true rfl) (Nat.le_of_ble_eq_true rfl) ?_
            exact W.zret (v := (1 : Int32)) hx hb hr (by rfl) (fun t ht hW9 => ⟨⟨(1 : Int32), (), rfl, (by rfl), wd_end hP hK hD ht hW9.alike⟩, hS.F ht⟩) hS.2.2 dX12_canRun_48 hlocks
theorem hi_X12_run_X10 : ∀ w ∈ u_ws RX10 TX10 23, w ∈ wsX12_run := by decide +kernel
theorem hd_X12_run : yX12_run.cls = RX12 ∧ yX12_run.cls ≠ "java/lang/invoke/MethodHandle" ∧ yX12_run.cls ≠ "java/lang/invoke/VarHandle" ∧ (parseMethodDescriptor yX12_run.desc).map (fun d => d.parameters.length) = some 4 := by decide +kernel
set_option maxHeartbeats 4000000 in
set_option maxRecDepth 100000 in
theorem c_X12_run (l : Launch) {D : va_G} {cy : Nat → ClassId} {X : va_W} (S : wPS) (sz : Nat) (o1 : Nat) (h_o1 : isA S o1 12) (x1 : Int32) (x2 : Int32) (x3 : Int32) (x4 : Int32) (hW : wtB S [])  : Met l yX12_run wsX12_run ({ frames := 6, cells := 0, slots := 0, locals := 138 }) (va_Pc [.ref o1, .int x1, .int x2, .int x3, .int x4] (fun U => U.heap.size = sz ∧ WD D cy X (fun _ => True) S U ∧ NW U)) (va_Qi (fun r (u : wPS) => stp [(10, 22), (12, 15)] [] [] S u) (fun u t => WD D cy X (va_A (X ++ PL cy S) sz) u t) (va_A (X ++ PL cy S) sz)) 0 0 (va_A (X ++ PL cy S) sz) := by
  refine Met.ofW (cc := cX12_run) (maxL := 7) (ret := (some .int)) (by decide) rfl ?_
  intro p e s m args below meth c s₁ B hml hv
  obtain ⟨rfl, hsz, ⟨hP, hK, hD0⟩, hN⟩ := hv
  have hx := B.exec
  have hb := B.bytes
  have hr := B.returns
  have hts := atoms_spec (ws := wsX12_run) B.pre
  have hown : s.vm.findClass RX12 = some m.cls := findClass_of_methodNamed (x := yX12_run) B.named
  have hlocks := B.notSynchronized
  subst hsz
  have hD := hD0.self (sz := s.heap.size)
  generalize hAe : va_A (X ++ PL cy S) s.heap.size = A at hD ⊢
  have hA : ∀ q : Nat, s.heap.size ≤ q → A q := fun q h => by rw [← hAe]; exact Or.inr h
  have hS : va_S A s.heap s.heap [] := va_S.rf
  have hl := lv_entry ([.ref o1, .int x1, .int x2, .int x3, .int x4]) (n := 7) (Nat.le_of_ble_eq_true rfl)
  rw [lg_entry_eq]
  generalize (lg_sl ([.ref o1, .int x1, .int x2, .int x3, .int x4]) ++ List.replicate (7 - (lg_sl ([.ref o1, .int x1, .int x2, .int x3, .int x4])).length) Slot.unset).toArray = ls at hl ⊢
  have hl : lv_has ls 7 [(0, .ref o1), (1, .int x1), (2, .int x2), (3, .int x3), (4, .int x4)] := hl
  have t0 : stp [(10, 22), (12, 15)] [] [] S S := stp.rf hW
  refine lv_aload_n hx hb dX12_run_0 rfl (lv_at hl 0 rfl) ?_
  refine lv_iload_n hx hb dX12_run_1 rfl (lv_at hl 1 rfl) ?_
  have hFc := free_all hD hS hA
  obtain ⟨k1, gk1, hk1⟩ := wGt (cy := cy) X S h_o1.1 h_o1.2.1
  refine va_calli (va_runV (As := [.int x1]) (rest := []) ⟨hx, hb, hml, hown, hts⟩ (c_X12_isGear l (cy := cy) (X := X) (D := D) S _ o1 h_o1 x1 (hW)) (cwV 1 hts gX12_run_X12_isGear rfl rfl rfl hd_X12_isGear ⟨Nat.le_of_ble_eq_true rfl, Nat.le_of_ble_eq_true rfl⟩) (pV (va_recv hK hP (q := (RX12, TX12, 34)) (ci := 16) (q0 := k1) rfl hk1) hP hK hD hN) rfl rfl hl.1 rfl (lv_room (Nat.le_of_ble_eq_true rfl)) dX12_run_2 ⟨(Nat.zero_le _), (Nat.zero_le _)⟩) hS (fun q _ h => hFc q h) hFc (fun r2 u t H1 locs ht hvm hw hB hz1 hk1 hS => ?_)
  have c3 := hw
  obtain ⟨hP, hD⟩ := wd_post hFc ht hB
  generalize H1 = H at hP hS ⊢
  obtain rfl : f_X12_isGear S o1 x1 = r2 := c3.symm
  have F4 := ((hW.at h_o1 List.not_mem_nil).to_12 h_o1.2.1).F0
  have i5 : (f_X12_isGear S o1 x1).toInt = 0 ∨ (0 ≤ x1.toInt ∧ x1.toInt < (S.I (S.f o1 0) 2).toInt) := by have h9 := ig_rng x1 ((hW.at h_o1 List.not_mem_nil).to_12 h_o1.2.1) hW; rw [f_of F4.1] at h9; exact h9
  refine lv_if_eq (tgt := 16) hx hb dX12_run_5 (by decide) (fun c6 => ?_) (fun c6 => ?_)
  · have c6i : (f_X12_isGear S o1 x1).toInt = 0 := eq_v rfl rfl c6
    refine lv_aload_n hx hb dX12_run_16 rfl (lv_at hl 0 rfl) ?_
    refine lv_iconst (v := 1) hx hb dX12_run_17 (by decide) ?_
    have l32_1 : (1 : Int32).toInt = 1 := rfl
    have hFc := free_all hD hS hA
    obtain ⟨k7, gk7, hk7⟩ := wGt (cy := cy) X S h_o1.1 h_o1.2.1
    refine va_calli (va_runV (As := [.int (1 : Int32)]) (rest := []) ⟨hx, hb, hml, hown, hts⟩ (c_X12_fails l (cy := cy) (X := X) (D := D) S _ o1 h_o1 (1 : Int32) (hW)) (cwV 1 hts gX12_run_X12_fails rfl rfl rfl hd_X12_fails ⟨Nat.le_of_ble_eq_true rfl, Nat.le_of_ble_eq_true rfl⟩) (pV (va_recv hK hP (q := (RX12, TX12, 34)) (ci := 16) (q0 := k7) rfl hk7) hP hK hD hN) rfl rfl hl.1 rfl (lv_room (Nat.le_of_ble_eq_true rfl)) dX12_run_18 ⟨(Nat.zero_le _), (Nat.zero_le _)⟩) hS (fun q _ h => hFc q h) hFc (fun r8 u t H1 locs ht hvm hw hB hz1 hk1 hS => ?_)
    obtain ⟨c9, w10⟩ := hw
    obtain ⟨hP, hD⟩ := wd_post hFc ht hB
    generalize H1 = H at hP hS ⊢
    obtain ⟨S11, rfl⟩ : ∃ z, z = u := ⟨_, rfl⟩
    have t12 : stp [(10, 22), (12, 15)] [] [] S S11 := t0.tr w10 (by decide) (fun _ q => absurd q List.not_mem_nil)
    have xe13 : ext S S11 := w10.x
    refine W.widen (k := 0) (n := 0) (Nat.le_of_ble_eq_true rfl) (Nat.le_of_ble_eq_true rfl) ?_
    exact W.iret (v := r8) hx hb hr (fun t ht hW9 => ⟨⟨r8, S11, rfl, t12, wd_end hP hK hD ht hW9.alike⟩, hS.F ht⟩) hS.2.2 dX12_run_21 hlocks
  · have c6i : ¬ (f_X12_isGear S o1 x1).toInt = 0 := neq_v rfl rfl c6
    refine lv_aload_n hx hb dX12_run_8 rfl (lv_at hl 0 rfl) ?_
    refine lv_iload_n hx hb dX12_run_9 rfl (lv_at hl 2 rfl) ?_
    have hFc := free_all hD hS hA
    obtain ⟨k14, gk14, hk14⟩ := wGt (cy := cy) X S h_o1.1 h_o1.2.1
    refine va_calli (va_runV (As := [.int x2]) (rest := []) ⟨hx, hb, hml, hown, hts⟩ (c_X12_isGear l (cy := cy) (X := X) (D := D) S _ o1 h_o1 x2 (hW)) (cwV 1 hts gX12_run_X12_isGear rfl rfl rfl hd_X12_isGear ⟨Nat.le_of_ble_eq_true rfl, Nat.le_of_ble_eq_true rfl⟩) (pV (va_recv hK hP (q := (RX12, TX12, 34)) (ci := 16) (q0 := k14) rfl hk14) hP hK hD hN) rfl rfl hl.1 rfl (lv_room (Nat.le_of_ble_eq_true rfl)) dX12_run_10 ⟨(Nat.zero_le _), (Nat.zero_le _)⟩) hS (fun q _ h => hFc q h) hFc (fun r15 u t H1 locs ht hvm hw hB hz1 hk1 hS => ?_)
    have c16 := hw
    obtain ⟨hP, hD⟩ := wd_post hFc ht hB
    generalize H1 = H at hP hS ⊢
    obtain rfl : f_X12_isGear S o1 x2 = r15 := c16.symm
    have i17 : (f_X12_isGear S o1 x2).toInt = 0 ∨ (0 ≤ x2.toInt ∧ x2.toInt < (S.I (S.f o1 0) 2).toInt) := by have h9 := ig_rng x2 ((hW.at h_o1 List.not_mem_nil).to_12 h_o1.2.1) hW; rw [f_of F4.1] at h9; exact h9
    refine lv_if_ne (tgt := 22) hx hb dX12_run_13 (by decide) (fun c18 => ?_) (fun c18 => ?_)
    · have c18i : ¬ (f_X12_isGear S o1 x2).toInt = 0 := neq_v rfl rfl c18
      refine lv_iload_n hx hb dX12_run_22 rfl (lv_at hl 3 rfl) ?_
      refine lv_i2l hx hb dX12_run_23 rfl ?_
      refine lv_lconst (v := 1) hx hb dX12_run_24 (by decide) ?_
      refine lv_ldc2 (own := RX12) (v := 99999) hx hb hown (hts (.constantLong RX12 141 (99999)) (by decide +kernel)) dX12_run_25 ?_
      have hFc := free_all hD hS hA
      refine va_calli (va_runS (As := [.long x3.toInt64, .long (1 : Int64), .long (99999 : Int64)]) (rest := []) ⟨hx, hb, hml, hown, hts⟩ (c_X12_in l (cy := cy) (X := X) (D := D) S _ x3.toInt64 (1 : Int64) (99999 : Int64)) (cwS 3 hts gX12_run_X12_in rfl rfl rfl hd_X12_in ⟨Nat.le_of_ble_eq_true rfl, Nat.le_of_ble_eq_true rfl⟩) (pS hP hK hD hN) rfl rfl hl.1 rfl (lv_room (Nat.le_of_ble_eq_true rfl)) dX12_run_28 ⟨(Nat.zero_le _), (Nat.zero_le _)⟩) hS (fun q _ h => hFc q h) hFc (fun r19 u t H1 locs ht hvm hw hB hz1 hk1 hS => ?_)
      have c20 := hw
      obtain ⟨hP, hD⟩ := wd_post hFc ht hB
      generalize H1 = H at hP hS ⊢
      obtain rfl : f_X12_in x3.toInt64 (1 : Int64) (99999 : Int64) = r19 := c20.symm
      have i21 := i64_i x3
      have l64_1 : (1 : Int64).toInt = 1 := rfl
      have l64_99999 : (99999 : Int64).toInt = 99999 := rfl
      have i22 := in_rng x3.toInt64 (1 : Int64) (99999 : Int64)
      refine lv_if_eq (tgt := 47) hx hb dX12_run_31 (by decide) (fun c23 => ?_) (fun c23 => ?_)
      · have c23i : (f_X12_in x3.toInt64 (1 : Int64) (99999 : Int64)).toInt = 0 := eq_v rfl rfl c23
        refine lv_aload_n hx hb dX12_run_47 rfl (lv_at hl 0 rfl) ?_
        refine lv_iconst (v := 2) hx hb dX12_run_48 (by decide) ?_
        have l32_2 : (2 : Int32).toInt = 2 := rfl
        have hFc := free_all hD hS hA
        obtain ⟨k24, gk24, hk24⟩ := wGt (cy := cy) X S h_o1.1 h_o1.2.1
        refine va_calli (va_runV (As := [.int (2 : Int32)]) (rest := []) ⟨hx, hb, hml, hown, hts⟩ (c_X12_fails l (cy := cy) (X := X) (D := D) S _ o1 h_o1 (2 : Int32) (hW)) (cwV 1 hts gX12_run_X12_fails rfl rfl rfl hd_X12_fails ⟨Nat.le_of_ble_eq_true rfl, Nat.le_of_ble_eq_true rfl⟩) (pV (va_recv hK hP (q := (RX12, TX12, 34)) (ci := 16) (q0 := k24) rfl hk24) hP hK hD hN) rfl rfl hl.1 rfl (lv_room (Nat.le_of_ble_eq_true rfl)) dX12_run_49 ⟨(Nat.zero_le _), (Nat.zero_le _)⟩) hS (fun q _ h => hFc q h) hFc (fun r25 u t H1 locs ht hvm hw hB hz1 hk1 hS => ?_)
        obtain ⟨c26, w27⟩ := hw
        obtain ⟨hP, hD⟩ := wd_post hFc ht hB
        generalize H1 = H at hP hS ⊢
        obtain ⟨S28, rfl⟩ : ∃ z, z = u := ⟨_, rfl⟩
        have t29 : stp [(10, 22), (12, 15)] [] [] S S28 := t0.tr w27 (by decide) (fun _ q => absurd q List.not_mem_nil)
        have xe30 : ext S S28 := w27.x
        refine W.widen (k := 0) (n := 0) (Nat.le_of_ble_eq_true rfl) (Nat.le_of_ble_eq_true rfl) ?_
        exact W.iret (v := r25) hx hb hr (fun t ht hW9 => ⟨⟨r25, S28, rfl, t29, wd_end hP hK hD ht hW9.alike⟩, hS.F ht⟩) hS.2.2 dX12_run_52 hlocks
      · have c23i : ¬ (f_X12_in x3.toInt64 (1 : Int64) (99999 : Int64)).toInt = 0 := neq_v rfl rfl c23
        refine lv_iload hx hb dX12_run_34 (lv_at hl 4 rfl) ?_
        refine lv_i2l hx hb dX12_run_36 rfl ?_
        refine lv_lconst (v := 1) hx hb dX12_run_37 (by decide) ?_
        refine lv_ldc2 (own := RX12) (v := 999999) hx hb hown (hts (.constantLong RX12 306 (999999)) (by decide +kernel)) dX12_run_38 ?_
        have hFc := free_all hD hS hA
        refine va_calli (va_runS (As := [.long x4.toInt64, .long (1 : Int64), .long (999999 : Int64)]) (rest := []) ⟨hx, hb, hml, hown, hts⟩ (c_X12_in l (cy := cy) (X := X) (D := D) S _ x4.toInt64 (1 : Int64) (999999 : Int64)) (cwS 3 hts gX12_run_X12_in rfl rfl rfl hd_X12_in ⟨Nat.le_of_ble_eq_true rfl, Nat.le_of_ble_eq_true rfl⟩) (pS hP hK hD hN) rfl rfl hl.1 rfl (lv_room (Nat.le_of_ble_eq_true rfl)) dX12_run_41 ⟨(Nat.zero_le _), (Nat.zero_le _)⟩) hS (fun q _ h => hFc q h) hFc (fun r31 u t H1 locs ht hvm hw hB hz1 hk1 hS => ?_)
        have c32 := hw
        obtain ⟨hP, hD⟩ := wd_post hFc ht hB
        generalize H1 = H at hP hS ⊢
        obtain rfl : f_X12_in x4.toInt64 (1 : Int64) (999999 : Int64) = r31 := c32.symm
        have i33 := i64_i x4
        have l64_999999 : (999999 : Int64).toInt = 999999 := rfl
        have i34 := in_rng x4.toInt64 (1 : Int64) (999999 : Int64)
        refine lv_if_ne (tgt := 53) hx hb dX12_run_44 (by decide) (fun c35 => ?_) (fun c35 => ?_)
        · have c35i : ¬ (f_X12_in x4.toInt64 (1 : Int64) (999999 : Int64)).toInt = 0 := neq_v rfl rfl c35
          refine lv_aload_n hx hb dX12_run_53 rfl (lv_at hl 0 rfl) ?_
          refine lv_iload_n hx hb dX12_run_54 rfl (lv_at hl 1 rfl) ?_
          refine lv_iload_n hx hb dX12_run_55 rfl (lv_at hl 2 rfl) ?_
          have hFc := free_all hD hS hA
          obtain ⟨k36, gk36, hk36⟩ := wGt (cy := cy) X S h_o1.1 h_o1.2.1
          refine va_calli (va_runV (As := [.int x1, .int x2]) (rest := []) ⟨hx, hb, hml, hown, hts⟩ (c_X12_isPair l (cy := cy) (X := X) (D := D) S _ o1 h_o1 x1 x2 (hW) (by rw [f_of F4.1]; omega) (by rw [f_of F4.1]; omega)) (cwV 2 hts gX12_run_X12_isPair rfl rfl rfl hd_X12_isPair ⟨Nat.le_of_ble_eq_true rfl, Nat.le_of_ble_eq_true rfl⟩) (pV (va_recv hK hP (q := (RX12, TX12, 34)) (ci := 16) (q0 := k36) rfl hk36) hP hK hD hN) rfl rfl hl.1 rfl (lv_room (Nat.le_of_ble_eq_true rfl)) dX12_run_56 ⟨(Nat.zero_le _), (Nat.zero_le _)⟩) hS (fun q _ h => hFc q h) hFc (fun r37 u t H1 locs ht hvm hw hB hz1 hk1 hS => ?_)
          obtain ⟨c38, y39⟩ := hw
          obtain ⟨hP, hD⟩ := wd_post hFc ht hB
          generalize H1 = H at hP hS ⊢
          obtain rfl : f_X12_isPair S o1 x1 x2 = r37 := c38.symm
          refine lv_if_eq (tgt := 80) hx hb dX12_run_59 (by decide) (fun c40 => ?_) (fun c40 => ?_)
          · have c40i : (f_X12_isPair S o1 x1 x2).toInt = 0 := eq_v rfl rfl c40
            refine lv_aload_n hx hb dX12_run_80 rfl (lv_at hl 0 rfl) ?_
            refine lv_iconst (v := 3) hx hb dX12_run_81 (by decide) ?_
            have l32_3 : (3 : Int32).toInt = 3 := rfl
            have hFc := free_all hD hS hA
            obtain ⟨k41, gk41, hk41⟩ := wGt (cy := cy) X S h_o1.1 h_o1.2.1
            refine va_calli (va_runV (As := [.int (3 : Int32)]) (rest := []) ⟨hx, hb, hml, hown, hts⟩ (c_X12_fails l (cy := cy) (X := X) (D := D) S _ o1 h_o1 (3 : Int32) (hW)) (cwV 1 hts gX12_run_X12_fails rfl rfl rfl hd_X12_fails ⟨Nat.le_of_ble_eq_true rfl, Nat.le_of_ble_eq_true rfl⟩) (pV (va_recv hK hP (q := (RX12, TX12, 34)) (ci := 16) (q0 := k41) rfl hk41) hP hK hD hN) rfl rfl hl.1 rfl (lv_room (Nat.le_of_ble_eq_true rfl)) dX12_run_82 ⟨(Nat.zero_le _), (Nat.zero_le _)⟩) hS (fun q _ h => hFc q h) hFc (fun r42 u t H1 locs ht hvm hw hB hz1 hk1 hS => ?_)
            obtain ⟨c43, w44⟩ := hw
            obtain ⟨hP, hD⟩ := wd_post hFc ht hB
            generalize H1 = H at hP hS ⊢
            obtain ⟨S45, rfl⟩ : ∃ z, z = u := ⟨_, rfl⟩
            have t46 : stp [(10, 22), (12, 15)] [] [] S S45 := t0.tr w44 (by decide) (fun _ q => absurd q List.not_mem_nil)
            have xe47 : ext S S45 := w44.x
            refine W.widen (k := 0) (n := 0) (Nat.le_of_ble_eq_true rfl) (Nat.le_of_ble_eq_true rfl) ?_
            exact W.iret (v := r42) hx hb hr (fun t ht hW9 => ⟨⟨r42, S45, rfl, t46, wd_end hP hK hD ht hW9.alike⟩, hS.F ht⟩) hS.2.2 dX12_run_85 hlocks
          · have c40i : ¬ (f_X12_isPair S o1 x1 x2).toInt = 0 := neq_v rfl rfl c40
            refine lv_aload_n hx hb dX12_run_62 rfl (lv_at hl 0 rfl) ?_
            refine lv_iload_n hx hb dX12_run_63 rfl (lv_at hl 1 rfl) ?_
            refine lv_iload_n hx hb dX12_run_64 rfl (lv_at hl 2 rfl) ?_
            have hFc := free_all hD hS hA
            obtain ⟨k48, gk48, hk48⟩ := wGt (cy := cy) X S h_o1.1 h_o1.2.1
            refine va_calli (va_runV (As := [.int x1, .int x2]) (rest := []) ⟨hx, hb, hml, hown, hts⟩ (c_X12_canRun l (cy := cy) (X := X) (D := D) S _ o1 h_o1 x1 x2 (hW) (by rw [f_of F4.1]; omega)) (cwV 2 hts gX12_run_X12_canRun rfl rfl rfl hd_X12_canRun ⟨Nat.le_of_ble_eq_true rfl, Nat.le_of_ble_eq_true rfl⟩) (pV (va_recv hK hP (q := (RX12, TX12, 34)) (ci := 16) (q0 := k48) rfl hk48) hP hK hD hN) rfl rfl hl.1 rfl (lv_room (Nat.le_of_ble_eq_true rfl)) dX12_run_65 ⟨(Nat.zero_le _), (Nat.zero_le _)⟩) hS (fun q _ h => hFc q h) hFc (fun r49 u t H1 locs ht hvm hw hB hz1 hk1 hS => ?_)
            have y50 := hw
            obtain ⟨hP, hD⟩ := wd_post hFc ht hB
            generalize H1 = H at hP hS ⊢
            refine lv_if_eq (tgt := 80) hx hb dX12_run_68 (by decide) (fun c51 => ?_) (fun c51 => ?_)
            · have c51i : r49.toInt = 0 := eq_v rfl rfl c51
              refine lv_aload_n hx hb dX12_run_80 rfl (lv_at hl 0 rfl) ?_
              refine lv_iconst (v := 3) hx hb dX12_run_81 (by decide) ?_
              have l32_3 : (3 : Int32).toInt = 3 := rfl
              have hFc := free_all hD hS hA
              obtain ⟨k52, gk52, hk52⟩ := wGt (cy := cy) X S h_o1.1 h_o1.2.1
              refine va_calli (va_runV (As := [.int (3 : Int32)]) (rest := []) ⟨hx, hb, hml, hown, hts⟩ (c_X12_fails l (cy := cy) (X := X) (D := D) S _ o1 h_o1 (3 : Int32) (hW)) (cwV 1 hts gX12_run_X12_fails rfl rfl rfl hd_X12_fails ⟨Nat.le_of_ble_eq_true rfl, Nat.le_of_ble_eq_true rfl⟩) (pV (va_recv hK hP (q := (RX12, TX12, 34)) (ci := 16) (q0 := k52) rfl hk52) hP hK hD hN) rfl rfl hl.1 rfl (lv_room (Nat.le_of_ble_eq_true rfl)) dX12_run_82 ⟨(Nat.zero_le _), (Nat.zero_le _)⟩) hS (fun q _ h => hFc q h) hFc (fun r53 u t H1 locs ht hvm hw hB hz1 hk1 hS => ?_)
              obtain ⟨c54, w55⟩ := hw
              obtain ⟨hP, hD⟩ := wd_post hFc ht hB
              generalize H1 = H at hP hS ⊢
              obtain ⟨S56, rfl⟩ : ∃ z, z = u := ⟨_, rfl⟩
              have t57 : stp [(10, 22), (12, 15)] [] [] S S56 := t0.tr w55 (by decide) (fun _ q => absurd q List.not_mem_nil)
              have xe58 : ext S S56 := w55.x
              refine W.widen (k := 0) (n := 0) (Nat.le_of_ble_eq_true rfl) (Nat.le_of_ble_eq_true rfl) ?_
              exact W.iret (v := r53) hx hb hr (fun t ht hW9 => ⟨⟨r53, S56, rfl, t57, wd_end hP hK hD ht hW9.alike⟩, hS.F ht⟩) hS.2.2 dX12_run_85 hlocks
            · have c51i : ¬ r49.toInt = 0 := neq_v rfl rfl c51
              refine lv_aload_n hx hb dX12_run_71 rfl (lv_at hl 0 rfl) ?_
              refine lv_iload_n hx hb dX12_run_72 rfl (lv_at hl 2 rfl) ?_
              refine lv_iload_n hx hb dX12_run_73 rfl (lv_at hl 1 rfl) ?_
              have hFc := free_all hD hS hA
              obtain ⟨k59, gk59, hk59⟩ := wGt (cy := cy) X S h_o1.1 h_o1.2.1
              refine va_calli (va_runV (As := [.int x2, .int x1]) (rest := []) ⟨hx, hb, hml, hown, hts⟩ (c_X12_canRun l (cy := cy) (X := X) (D := D) S _ o1 h_o1 x2 x1 (hW) (by rw [f_of F4.1]; omega)) (cwV 2 hts gX12_run_X12_canRun rfl rfl rfl hd_X12_canRun ⟨Nat.le_of_ble_eq_true rfl, Nat.le_of_ble_eq_true rfl⟩) (pV (va_recv hK hP (q := (RX12, TX12, 34)) (ci := 16) (q0 := k59) rfl hk59) hP hK hD hN) rfl rfl hl.1 rfl (lv_room (Nat.le_of_ble_eq_true rfl)) dX12_run_74 ⟨(Nat.zero_le _), (Nat.zero_le _)⟩) hS (fun q _ h => hFc q h) hFc (fun r60 u t H1 locs ht hvm hw hB hz1 hk1 hS => ?_)
              have y61 := hw
              obtain ⟨hP, hD⟩ := wd_post hFc ht hB
              generalize H1 = H at hP hS ⊢
              refine lv_if_ne (tgt := 86) hx hb dX12_run_77 (by decide) (fun c62 => ?_) (fun c62 => ?_)
              · have c62i : ¬ r60.toInt = 0 := neq_v rfl rfl c62
                refine lv_aload_n hx hb dX12_run_86 rfl (lv_at hl 0 rfl) ?_
                refine lv_iload_n hx hb dX12_run_87 rfl (lv_at hl 1 rfl) ?_
                have hFc := free_all hD hS hA
                obtain ⟨k63, gk63, hk63⟩ := wGt (cy := cy) X S h_o1.1 h_o1.2.1
                refine va_callq (va_runV (As := [.int x1]) (rest := []) ⟨hx, hb, hml, hown, hts⟩ (c_X12_gearAt l (cy := cy) (X := X) (D := D) S _ o1 h_o1 x1 (hW) (by rw [f_of F4.1]; omega)) (cwV 1 hts gX12_run_X12_gearAt rfl rfl rfl hd_X12_gearAt ⟨Nat.le_of_ble_eq_true rfl, Nat.le_of_ble_eq_true rfl⟩) (pV (va_recv hK hP (q := (RX12, TX12, 34)) (ci := 16) (q0 := k63) rfl hk63) hP hK hD hN) rfl rfl hl.1 rfl (lv_room (Nat.le_of_ble_eq_true rfl)) dX12_run_88 ⟨(Nat.zero_le _), (Nat.zero_le _)⟩) hS (fun q _ h => hFc q h) hFc (fun r64 u t H1 locs ht hvm hw hB hz1 hk1 hS => ?_)
                obtain ⟨r64, rfl, c65, o66⟩ := hw
                obtain ⟨hP, hD⟩ := wd_post hFc ht hB
                generalize H1 = H at hP hS ⊢
                refine W.eq (g2 := F0 m 91 ls [.ref r64]) rfl ?_
                refine lv_astore (lv' := [(5, .ref r64), (0, .ref o1), (1, .int x1), (2, .int x2), (3, .int x3), (4, .int x4)]) hx hb dX12_run_91 hl (by decide) rfl (fun ls hl => ?_)
                refine lv_aload_n hx hb dX12_run_93 rfl (lv_at hl 1 rfl) ?_
                refine lv_iload_n hx hb dX12_run_94 rfl (lv_at hl 3 rfl) ?_
                have hFc := free_all hD hS hA
                obtain ⟨k67, gk67, hk67⟩ := wGt (cy := cy) X S h_o1.1 h_o1.2.1
                refine va_callq (va_runV (As := [.int x2]) (rest := []) ⟨hx, hb, hml, hown, hts⟩ (c_X12_gearAt l (cy := cy) (X := X) (D := D) S _ o1 h_o1 x2 (hW) (by rw [f_of F4.1]; omega)) (cwV 1 hts gX12_run_X12_gearAt rfl rfl rfl hd_X12_gearAt ⟨Nat.le_of_ble_eq_true rfl, Nat.le_of_ble_eq_true rfl⟩) (pV (va_recv hK hP (q := (RX12, TX12, 34)) (ci := 16) (q0 := k67) rfl hk67) hP hK hD hN) rfl rfl hl.1 rfl (lv_room (Nat.le_of_ble_eq_true rfl)) dX12_run_95 ⟨(Nat.zero_le _), (Nat.zero_le _)⟩) hS (fun q _ h => hFc q h) hFc (fun r68 u t H1 locs ht hvm hw hB hz1 hk1 hS => ?_)
                obtain ⟨r68, rfl, c69, o70⟩ := hw
                obtain ⟨hP, hD⟩ := wd_post hFc ht hB
                generalize H1 = H at hP hS ⊢
                refine W.eq (g2 := F0 m 98 ls [.ref r68]) rfl ?_
                refine lv_astore (lv' := [(6, .ref r68), (5, .ref r64), (0, .ref o1), (1, .int x1), (2, .int x2), (3, .int x3), (4, .int x4)]) hx hb dX12_run_98 hl (by decide) rfl (fun ls hl => ?_)
                refine lv_aload hx hb dX12_run_100 (lv_at hl 1 rfl) ?_
                refine lv_iload_n hx hb dX12_run_102 rfl (lv_at hl 5 rfl) ?_
                refine lv_i2l hx hb dX12_run_103 rfl ?_
                refine lv_iload hx hb dX12_run_104 (lv_at hl 6 rfl) ?_
                refine lv_i2l hx hb dX12_run_106 rfl ?_
                have hFc := free_all hD hS hA
                obtain ⟨k71, gk71, hk71⟩ := wGt (cy := cy) X S o66.1 o66.2.1
                refine va_callv (va_runV (As := [.long x3.toInt64, .long x4.toInt64]) (rest := []) ⟨hx, hb, hml, hown, hts⟩ (c_X10_runs l (cy := cy) (X := X) (D := D) S _ r64 o66 x3.toInt64 x4.toInt64 (hW)) (cwV 2 hts gX12_run_X10_runs rfl rfl rfl hd_X10_runs ⟨Nat.le_of_ble_eq_true rfl, Nat.le_of_ble_eq_true rfl⟩) (pV (va_recv hK hP (q := (RX10, TX10, 23)) (ci := 14) (q0 := k71) rfl hk71) hP hK hD hN) rfl rfl hl.1 rfl (lv_room (Nat.le_of_ble_eq_true rfl)) dX12_run_107 ⟨(Nat.zero_le _), (Nat.zero_le _)⟩) hS (fun q _ h => hFc q h) hFc (fun u t H1 locs ht hvm hw hB hz1 hk1 hS => ?_)
                have w73 := hw
                obtain ⟨hP, hD⟩ := wd_post hFc ht hB
                generalize H1 = H at hP hS ⊢
                obtain ⟨S74, rfl⟩ : ∃ z, z = u := ⟨_, rfl⟩
                have t75 : stp [(10, 22), (12, 15)] [] [] S S74 := t0.tr w73 (by decide) (fun _ q => absurd q List.not_mem_nil)
                have xe76 : ext S S74 := w73.x
                refine lv_aload hx hb dX12_run_110 (lv_at hl 0 rfl) ?_
                refine lv_iload_n hx hb dX12_run_112 rfl (lv_at hl 5 rfl) ?_
                refine lv_i2l hx hb dX12_run_113 rfl ?_
                refine lv_aload hx hb dX12_run_114 (lv_at hl 0 rfl) ?_
                obtain ⟨k77, gk77, hk77⟩ := wGt (cy := cy) X S74 (xe76.A o70).1 (xe76.A o70).2.1
                have i78 := ((t75.w.at (xe76.A o70) List.not_mem_nil).to_10 (xe76.A o70).2.1).R1
                refine va_getN (D := D) (ci := 14) (v := .int (S74.I r68 1)) (C := RX10) (T := TX10) (N := 23) hx hb hts hi_X12_run_X10 hown hK hP k77 hk77 rfl 1 (by decide) (va_Nw.use rfl (hN (.fieldLinkNest RX12 332 "HobhouseModel$Gear" "teeth" "I" "HobhouseModel") (by decide +kernel))) (fun _ h9 => h9) rfl dX12_run_116 ?_
                refine lv_i2l hx hb dX12_run_119 rfl ?_
                refine lv_lmul hx hb dX12_run_120 ?_
                refine lv_aload hx hb dX12_run_121 (lv_at hl 1 rfl) ?_
                obtain ⟨k79, gk79, hk79⟩ := wGt (cy := cy) X S74 (xe76.A o66).1 (xe76.A o66).2.1
                have i80 := ((t75.w.at (xe76.A o66) List.not_mem_nil).to_10 (xe76.A o66).2.1).R1
                refine va_getN (D := D) (ci := 14) (v := .int (S74.I r64 1)) (C := RX10) (T := TX10) (N := 23) hx hb hts hi_X12_run_X10 hown hK hP k79 hk79 rfl 1 (by decide) (va_Nw.use rfl (hN (.fieldLinkNest RX12 332 "HobhouseModel$Gear" "teeth" "I" "HobhouseModel") (by decide +kernel))) (fun _ h9 => h9) rfl dX12_run_123 ?_
                refine lv_i2l hx hb dX12_run_126 rfl ?_
                refine lv_ldiv hx hb dX12_run_127 (nz_l (by omega)) ?_
                refine lv_iload hx hb dX12_run_128 (lv_at hl 6 rfl) ?_
                refine lv_i2l hx hb dX12_run_130 rfl ?_
                refine lv_aload hx hb dX12_run_131 (lv_at hl 1 rfl) ?_
                obtain ⟨k81, gk81, hk81⟩ := wGt (cy := cy) X S74 (xe76.A o66).1 (xe76.A o66).2.1
                refine va_getN (D := D) (ci := 14) (v := .int (S74.I r64 1)) (C := RX10) (T := TX10) (N := 23) hx hb hts hi_X12_run_X10 hown hK hP k81 hk81 rfl 1 (by decide) (va_Nw.use rfl (hN (.fieldLinkNest RX12 332 "HobhouseModel$Gear" "teeth" "I" "HobhouseModel") (by decide +kernel))) (fun _ h9 => h9) rfl dX12_run_133 ?_
                refine lv_i2l hx hb dX12_run_136 rfl ?_
                refine lv_lmul hx hb dX12_run_137 ?_
                refine lv_aload hx hb dX12_run_138 (lv_at hl 0 rfl) ?_
                obtain ⟨k82, gk82, hk82⟩ := wGt (cy := cy) X S74 (xe76.A o70).1 (xe76.A o70).2.1
                refine va_getN (D := D) (ci := 14) (v := .int (S74.I r68 1)) (C := RX10) (T := TX10) (N := 23) hx hb hts hi_X12_run_X10 hown hK hP k82 hk82 rfl 1 (by decide) (va_Nw.use rfl (hN (.fieldLinkNest RX12 332 "HobhouseModel$Gear" "teeth" "I" "HobhouseModel") (by decide +kernel))) (fun _ h9 => h9) rfl dX12_run_140 ?_
                refine lv_i2l hx hb dX12_run_143 rfl ?_
                refine lv_ldiv hx hb dX12_run_144 (nz_l (by omega)) ?_
                have hFc := free_all hD hS hA
                obtain ⟨k83, gk83, hk83⟩ := wGt (cy := cy) X S74 (xe76.A o70).1 (xe76.A o70).2.1
                refine va_callv (va_runV (As := [.long ((x3.toInt64 * ((S74.I r68 1).toInt64)) / ((S74.I r64 1).toInt64)), .long ((x4.toInt64 * ((S74.I r64 1).toInt64)) / ((S74.I r68 1).toInt64))]) (rest := []) ⟨hx, hb, hml, hown, hts⟩ (c_X10_runs l (cy := cy) (X := X) (D := D) S74 _ r68 (xe76.A o70) ((x3.toInt64 * ((S74.I r68 1).toInt64)) / ((S74.I r64 1).toInt64)) ((x4.toInt64 * ((S74.I r64 1).toInt64)) / ((S74.I r68 1).toInt64)) (t75.w)) (cwV 2 hts gX12_run_X10_runs rfl rfl rfl hd_X10_runs ⟨Nat.le_of_ble_eq_true rfl, Nat.le_of_ble_eq_true rfl⟩) (pV (va_recv hK hP (q := (RX10, TX10, 23)) (ci := 14) (q0 := k83) rfl hk83) hP hK hD hN) rfl rfl hl.1 rfl (lv_room (Nat.le_of_ble_eq_true rfl)) dX12_run_145 ⟨(Nat.zero_le _), (Nat.zero_le _)⟩) hS (fun q _ h => hFc q h) hFc (fun u t H1 locs ht hvm hw hB hz1 hk1 hS => ?_)
                have w85 := hw
                obtain ⟨hP, hD⟩ := wd_post hFc ht hB
                generalize H1 = H at hP hS ⊢
                obtain ⟨S86, rfl⟩ : ∃ z, z = u := ⟨_, rfl⟩
                have t87 : stp [(10, 22), (12, 15)] [] [] S S86 := t75.tr w85 (by decide) (fun _ q => absurd q List.not_mem_nil)
                have xe88 : ext S74 S86 := w85.x
                refine lv_aload_n hx hb dX12_run_148 rfl (lv_at hl 2 rfl) ?_
                refine lv_aload hx hb dX12_run_149 (lv_at hl 1 rfl) ?_
                have hFc := free_all hD hS hA
                obtain ⟨k89, gk89, hk89⟩ := wGt (cy := cy) X S86 (xe88.A (xe76.A o66)).1 (xe88.A (xe76.A o66)).2.1
                refine va_calli (va_runV (As := []) (rest := [.ref o1]) ⟨hx, hb, hml, hown, hts⟩ (c_X10_isBroken l (cy := cy) (X := X) (D := D) S86 _ r64 (xe88.A (xe76.A o66))) (cwV 0 hts gX12_run_X10_isBroken rfl rfl rfl hd_X10_isBroken ⟨Nat.le_of_ble_eq_true rfl, Nat.le_of_ble_eq_true rfl⟩) (pV (va_recv hK hP (q := (RX10, TX10, 23)) (ci := 14) (q0 := k89) rfl hk89) hP hK hD hN) rfl rfl hl.1 rfl (lv_room (Nat.le_of_ble_eq_true rfl)) dX12_run_151 ⟨(Nat.zero_le _), (Nat.zero_le _)⟩) hS (fun q _ h => hFc q h) hFc (fun r90 u t H1 locs ht hvm hw hB hz1 hk1 hS => ?_)
                have c91 := hw
                obtain ⟨hP, hD⟩ := wd_post hFc ht hB
                generalize H1 = H at hP hS ⊢
                obtain rfl : f_X10_isBroken S86 r64 = r90 := c91.symm
                refine lv_if_eq (tgt := 161) hx hb dX12_run_154 (by decide) (fun c92 => ?_) (fun c92 => ?_)
                · have c92i : (f_X10_isBroken S86 r64).toInt = 0 := eq_v rfl rfl c92
                  refine lv_iconst (v := 0) hx hb dX12_run_161 (by decide) ?_
                  refine lv_aload hx hb dX12_run_162 (lv_at hl 0 rfl) ?_
                  have hFc := free_all hD hS hA
                  obtain ⟨k93, gk93, hk93⟩ := wGt (cy := cy) X S86 (xe88.A (xe76.A o70)).1 (xe88.A (xe76.A o70)).2.1
                  refine va_calli (va_runV (As := []) (rest := [.int (0 : Int32), .ref o1]) ⟨hx, hb, hml, hown, hts⟩ (c_X10_isBroken l (cy := cy) (X := X) (D := D) S86 _ r68 (xe88.A (xe76.A o70))) (cwV 0 hts gX12_run_X10_isBroken rfl rfl rfl hd_X10_isBroken ⟨Nat.le_of_ble_eq_true rfl, Nat.le_of_ble_eq_true rfl⟩) (pV (va_recv hK hP (q := (RX10, TX10, 23)) (ci := 14) (q0 := k93) rfl hk93) hP hK hD hN) rfl rfl hl.1 rfl (lv_room (Nat.le_of_ble_eq_true rfl)) dX12_run_164 ⟨(Nat.zero_le _), (Nat.zero_le _)⟩) hS (fun q _ h => hFc q h) hFc (fun r94 u t H1 locs ht hvm hw hB hz1 hk1 hS => ?_)
                  have c95 := hw
                  obtain ⟨hP, hD⟩ := wd_post hFc ht hB
                  generalize H1 = H at hP hS ⊢
                  obtain rfl : f_X10_isBroken S86 r68 = r94 := c95.symm
                  refine lv_if_eq (tgt := 174) hx hb dX12_run_167 (by decide) (fun c96 => ?_) (fun c96 => ?_)
                  · have c96i : (f_X10_isBroken S86 r68).toInt = 0 := eq_v rfl rfl c96
                    refine lv_iconst (v := 0) hx hb dX12_run_174 (by decide) ?_
                    refine lv_iadd hx hb dX12_run_175 ?_
                    have l32_0 : (0 : Int32).toInt = 0 := rfl
                    have hFc := free_all hD hS hA
                    obtain ⟨k97, gk97, hk97⟩ := wGt (cy := cy) X S86 ((xe76.tr xe88).A h_o1).1 ((xe76.tr xe88).A h_o1).2.1
                    refine va_calli (va_runV (As := [.int ((0 : Int32) + (0 : Int32))]) (rest := []) ⟨hx, hb, hml, hown, hts⟩ (c_X12_answer l (cy := cy) (X := X) (D := D) S86 _ o1 ((xe76.tr xe88).A h_o1) ((0 : Int32) + (0 : Int32)) (t87.w)) (cwV 1 hts gX12_run_X12_answer rfl rfl rfl hd_X12_answer ⟨Nat.le_of_ble_eq_true rfl, Nat.le_of_ble_eq_true rfl⟩) (pV (va_recv hK hP (q := (RX12, TX12, 34)) (ci := 16) (q0 := k97) rfl hk97) hP hK hD hN) rfl rfl hl.1 rfl (lv_room (Nat.le_of_ble_eq_true rfl)) dX12_run_176 ⟨(Nat.zero_le _), (Nat.zero_le _)⟩) hS (fun q _ h => hFc q h) hFc (fun r98 u t H1 locs ht hvm hw hB hz1 hk1 hS => ?_)
                    obtain ⟨c99, w100⟩ := hw
                    obtain ⟨hP, hD⟩ := wd_post hFc ht hB
                    generalize H1 = H at hP hS ⊢
                    obtain ⟨S101, rfl⟩ : ∃ z, z = u := ⟨_, rfl⟩
                    have t102 : stp [(10, 22), (12, 15)] [] [] S S101 := t87.tr w100 (by decide) (fun _ q => absurd q List.not_mem_nil)
                    have xe103 : ext S86 S101 := w100.x
                    refine W.widen (k := 0) (n := 0) (Nat.le_of_ble_eq_true rfl) (Nat.le_of_ble_eq_true rfl) ?_
                    exact W.iret (v := r98) hx hb hr (fun t ht hW9 => ⟨⟨r98, S101, rfl, t102, wd_end hP hK hD ht hW9.alike⟩, hS.F ht⟩) hS.2.2 dX12_run_179 hlocks
                  · have c96i : ¬ (f_X10_isBroken S86 r68).toInt = 0 := neq_v rfl rfl c96
                    refine lv_iconst (v := 1) hx hb dX12_run_170 (by decide) ?_
                    refine lv_goto (tgt := 175) hx hb dX12_run_171 (by decide) ?_
                    refine lv_iadd hx hb dX12_run_175 ?_
                    have l32_0 : (0 : Int32).toInt = 0 := rfl
                    have l32_1 : (1 : Int32).toInt = 1 := rfl
                    have hFc := free_all hD hS hA
                    obtain ⟨k104, gk104, hk104⟩ := wGt (cy := cy) X S86 ((xe76.tr xe88).A h_o1).1 ((xe76.tr xe88).A h_o1).2.1
                    refine va_calli (va_runV (As := [.int ((0 : Int32) + (1 : Int32))]) (rest := []) ⟨hx, hb, hml, hown, hts⟩ (c_X12_answer l (cy := cy) (X := X) (D := D) S86 _ o1 ((xe76.tr xe88).A h_o1) ((0 : Int32) + (1 : Int32)) (t87.w)) (cwV 1 hts gX12_run_X12_answer rfl rfl rfl hd_X12_answer ⟨Nat.le_of_ble_eq_true rfl, Nat.le_of_ble_eq_true rfl⟩) (pV (va_recv hK hP (q := (RX12, TX12, 34)) (ci := 16) (q0 := k104) rfl hk104) hP hK hD hN) rfl rfl hl.1 rfl (lv_room (Nat.le_of_ble_eq_true rfl)) dX12_run_176 ⟨(Nat.zero_le _), (Nat.zero_le _)⟩) hS (fun q _ h => hFc q h) hFc (fun r105 u t H1 locs ht hvm hw hB hz1 hk1 hS => ?_)
                    obtain ⟨c106, w107⟩ := hw
                    obtain ⟨hP, hD⟩ := wd_post hFc ht hB
                    generalize H1 = H at hP hS ⊢
                    obtain ⟨S108, rfl⟩ : ∃ z, z = u := ⟨_, rfl⟩
                    have t109 : stp [(10, 22), (12, 15)] [] [] S S108 := t87.tr w107 (by decide) (fun _ q => absurd q List.not_mem_nil)
                    have xe110 : ext S86 S108 := w107.x
                    refine W.widen (k := 0) (n := 0) (Nat.le_of_ble_eq_true rfl) (Nat.le_of_ble_eq_true rfl) ?_
                    exact W.iret (v := r105) hx hb hr (fun t ht hW9 => ⟨⟨r105, S108, rfl, t109, wd_end hP hK hD ht hW9.alike⟩, hS.F ht⟩) hS.2.2 dX12_run_179 hlocks
                · have c92i : ¬ (f_X10_isBroken S86 r64).toInt = 0 := neq_v rfl rfl c92
                  refine lv_iconst (v := 1) hx hb dX12_run_157 (by decide) ?_
                  refine lv_goto (tgt := 162) hx hb dX12_run_158 (by decide) ?_
                  refine lv_aload hx hb dX12_run_162 (lv_at hl 0 rfl) ?_
                  have hFc := free_all hD hS hA
                  obtain ⟨k111, gk111, hk111⟩ := wGt (cy := cy) X S86 (xe88.A (xe76.A o70)).1 (xe88.A (xe76.A o70)).2.1
                  refine va_calli (va_runV (As := []) (rest := [.int (1 : Int32), .ref o1]) ⟨hx, hb, hml, hown, hts⟩ (c_X10_isBroken l (cy := cy) (X := X) (D := D) S86 _ r68 (xe88.A (xe76.A o70))) (cwV 0 hts gX12_run_X10_isBroken rfl rfl rfl hd_X10_isBroken ⟨Nat.le_of_ble_eq_true rfl, Nat.le_of_ble_eq_true rfl⟩) (pV (va_recv hK hP (q := (RX10, TX10, 23)) (ci := 14) (q0 := k111) rfl hk111) hP hK hD hN) rfl rfl hl.1 rfl (lv_room (Nat.le_of_ble_eq_true rfl)) dX12_run_164 ⟨(Nat.zero_le _), (Nat.zero_le _)⟩) hS (fun q _ h => hFc q h) hFc (fun r112 u t H1 locs ht hvm hw hB hz1 hk1 hS => ?_)
                  have c113 := hw
                  obtain ⟨hP, hD⟩ := wd_post hFc ht hB
                  generalize H1 = H at hP hS ⊢
                  obtain rfl : f_X10_isBroken S86 r68 = r112 := c113.symm
                  refine lv_if_eq (tgt := 174) hx hb dX12_run_167 (by decide) (fun c114 => ?_) (fun c114 => ?_)
                  · have c114i : (f_X10_isBroken S86 r68).toInt = 0 := eq_v rfl rfl c114
                    refine lv_iconst (v := 0) hx hb dX12_run_174 (by decide) ?_
                    refine lv_iadd hx hb dX12_run_175 ?_
                    have l32_1 : (1 : Int32).toInt = 1 := rfl
                    have l32_0 : (0 : Int32).toInt = 0 := rfl
                    have hFc := free_all hD hS hA
                    obtain ⟨k115, gk115, hk115⟩ := wGt (cy := cy) X S86 ((xe76.tr xe88).A h_o1).1 ((xe76.tr xe88).A h_o1).2.1
                    refine va_calli (va_runV (As := [.int ((1 : Int32) + (0 : Int32))]) (rest := []) ⟨hx, hb, hml, hown, hts⟩ (c_X12_answer l (cy := cy) (X := X) (D := D) S86 _ o1 ((xe76.tr xe88).A h_o1) ((1 : Int32) + (0 : Int32)) (t87.w)) (cwV 1 hts gX12_run_X12_answer rfl rfl rfl hd_X12_answer ⟨Nat.le_of_ble_eq_true rfl, Nat.le_of_ble_eq_true rfl⟩) (pV (va_recv hK hP (q := (RX12, TX12, 34)) (ci := 16) (q0 := k115) rfl hk115) hP hK hD hN) rfl rfl hl.1 rfl (lv_room (Nat.le_of_ble_eq_true rfl)) dX12_run_176 ⟨(Nat.zero_le _), (Nat.zero_le _)⟩) hS (fun q _ h => hFc q h) hFc (fun r116 u t H1 locs ht hvm hw hB hz1 hk1 hS => ?_)
                    obtain ⟨c117, w118⟩ := hw
                    obtain ⟨hP, hD⟩ := wd_post hFc ht hB
                    generalize H1 = H at hP hS ⊢
                    obtain ⟨S119, rfl⟩ : ∃ z, z = u := ⟨_, rfl⟩
                    have t120 : stp [(10, 22), (12, 15)] [] [] S S119 := t87.tr w118 (by decide) (fun _ q => absurd q List.not_mem_nil)
                    have xe121 : ext S86 S119 := w118.x
                    refine W.widen (k := 0) (n := 0) (Nat.le_of_ble_eq_true rfl) (Nat.le_of_ble_eq_true rfl) ?_
                    exact W.iret (v := r116) hx hb hr (fun t ht hW9 => ⟨⟨r116, S119, rfl, t120, wd_end hP hK hD ht hW9.alike⟩, hS.F ht⟩) hS.2.2 dX12_run_179 hlocks
                  · have c114i : ¬ (f_X10_isBroken S86 r68).toInt = 0 := neq_v rfl rfl c114
                    refine lv_iconst (v := 1) hx hb dX12_run_170 (by decide) ?_
                    refine lv_goto (tgt := 175) hx hb dX12_run_171 (by decide) ?_
                    refine lv_iadd hx hb dX12_run_175 ?_
                    have l32_1 : (1 : Int32).toInt = 1 := rfl
                    have hFc := free_all hD hS hA
                    obtain ⟨k122, gk122, hk122⟩ := wGt (cy := cy) X S86 ((xe76.tr xe88).A h_o1).1 ((xe76.tr xe88).A h_o1).2.1
                    refine va_calli (va_runV (As := [.int ((1 : Int32) + (1 : Int32))]) (rest := []) ⟨hx, hb, hml, hown, hts⟩ (c_X12_answer l (cy := cy) (X := X) (D := D) S86 _ o1 ((xe76.tr xe88).A h_o1) ((1 : Int32) + (1 : Int32)) (t87.w)) (cwV 1 hts gX12_run_X12_answer rfl rfl rfl hd_X12_answer ⟨Nat.le_of_ble_eq_true rfl, Nat.le_of_ble_eq_true rfl⟩) (pV (va_recv hK hP (q := (RX12, TX12, 34)) (ci := 16) (q0 := k122) rfl hk122) hP hK hD hN) rfl rfl hl.1 rfl (lv_room (Nat.le_of_ble_eq_true rfl)) dX12_run_176 ⟨(Nat.zero_le _), (Nat.zero_le _)⟩) hS (fun q _ h => hFc q h) hFc (fun r123 u t H1 locs ht hvm hw hB hz1 hk1 hS => ?_)
                    obtain ⟨c124, w125⟩ := hw
                    obtain ⟨hP, hD⟩ := wd_post hFc ht hB
                    generalize H1 = H at hP hS ⊢
                    obtain ⟨S126, rfl⟩ : ∃ z, z = u := ⟨_, rfl⟩
                    have t127 : stp [(10, 22), (12, 15)] [] [] S S126 := t87.tr w125 (by decide) (fun _ q => absurd q List.not_mem_nil)
                    have xe128 : ext S86 S126 := w125.x
                    refine W.widen (k := 0) (n := 0) (Nat.le_of_ble_eq_true rfl) (Nat.le_of_ble_eq_true rfl) ?_
                    exact W.iret (v := r123) hx hb hr (fun t ht hW9 => ⟨⟨r123, S126, rfl, t127, wd_end hP hK hD ht hW9.alike⟩, hS.F ht⟩) hS.2.2 dX12_run_179 hlocks
              · have c62i : r60.toInt = 0 := eq_v rfl rfl c62
                refine lv_aload_n hx hb dX12_run_80 rfl (lv_at hl 0 rfl) ?_
                refine lv_iconst (v := 3) hx hb dX12_run_81 (by decide) ?_
                have l32_3 : (3 : Int32).toInt = 3 := rfl
                have hFc := free_all hD hS hA
                obtain ⟨k129, gk129, hk129⟩ := wGt (cy := cy) X S h_o1.1 h_o1.2.1
                refine va_calli (va_runV (As := [.int (3 : Int32)]) (rest := []) ⟨hx, hb, hml, hown, hts⟩ (c_X12_fails l (cy := cy) (X := X) (D := D) S _ o1 h_o1 (3 : Int32) (hW)) (cwV 1 hts gX12_run_X12_fails rfl rfl rfl hd_X12_fails ⟨Nat.le_of_ble_eq_true rfl, Nat.le_of_ble_eq_true rfl⟩) (pV (va_recv hK hP (q := (RX12, TX12, 34)) (ci := 16) (q0 := k129) rfl hk129) hP hK hD hN) rfl rfl hl.1 rfl (lv_room (Nat.le_of_ble_eq_true rfl)) dX12_run_82 ⟨(Nat.zero_le _), (Nat.zero_le _)⟩) hS (fun q _ h => hFc q h) hFc (fun r130 u t H1 locs ht hvm hw hB hz1 hk1 hS => ?_)
                obtain ⟨c131, w132⟩ := hw
                obtain ⟨hP, hD⟩ := wd_post hFc ht hB
                generalize H1 = H at hP hS ⊢
                obtain ⟨S133, rfl⟩ : ∃ z, z = u := ⟨_, rfl⟩
                have t134 : stp [(10, 22), (12, 15)] [] [] S S133 := t0.tr w132 (by decide) (fun _ q => absurd q List.not_mem_nil)
                have xe135 : ext S S133 := w132.x
                refine W.widen (k := 0) (n := 0) (Nat.le_of_ble_eq_true rfl) (Nat.le_of_ble_eq_true rfl) ?_
                exact W.iret (v := r130) hx hb hr (fun t ht hW9 => ⟨⟨r130, S133, rfl, t134, wd_end hP hK hD ht hW9.alike⟩, hS.F ht⟩) hS.2.2 dX12_run_85 hlocks
        · have c35i : (f_X12_in x4.toInt64 (1 : Int64) (999999 : Int64)).toInt = 0 := eq_v rfl rfl c35
          refine lv_aload_n hx hb dX12_run_47 rfl (lv_at hl 0 rfl) ?_
          refine lv_iconst (v := 2) hx hb dX12_run_48 (by decide) ?_
          have l32_2 : (2 : Int32).toInt = 2 := rfl
          have hFc := free_all hD hS hA
          obtain ⟨k136, gk136, hk136⟩ := wGt (cy := cy) X S h_o1.1 h_o1.2.1
          refine va_calli (va_runV (As := [.int (2 : Int32)]) (rest := []) ⟨hx, hb, hml, hown, hts⟩ (c_X12_fails l (cy := cy) (X := X) (D := D) S _ o1 h_o1 (2 : Int32) (hW)) (cwV 1 hts gX12_run_X12_fails rfl rfl rfl hd_X12_fails ⟨Nat.le_of_ble_eq_true rfl, Nat.le_of_ble_eq_true rfl⟩) (pV (va_recv hK hP (q := (RX12, TX12, 34)) (ci := 16) (q0 := k136) rfl hk136) hP hK hD hN) rfl rfl hl.1 rfl (lv_room (Nat.le_of_ble_eq_true rfl)) dX12_run_49 ⟨(Nat.zero_le _), (Nat.zero_le _)⟩) hS (fun q _ h => hFc q h) hFc (fun r137 u t H1 locs ht hvm hw hB hz1 hk1 hS => ?_)
          obtain ⟨c138, w139⟩ := hw
          obtain ⟨hP, hD⟩ := wd_post hFc ht hB
          generalize H1 = H at hP hS ⊢
          obtain ⟨S140, rfl⟩ : ∃ z, z = u := ⟨_, rfl⟩
          have t141 : stp [(10, 22), (12, 15)] [] [] S S140 := t0.tr w139 (by decide) (fun _ q => absurd q List.not_mem_nil)
          have xe142 : ext S S140 := w139.x
          refine W.widen (k := 0) (n := 0) (Nat.le_of_ble_eq_true rfl) (Nat.le_of_ble_eq_true rfl) ?_
          exact W.iret (v := r137) hx hb hr (fun t ht hW9 => ⟨⟨r137, S140, rfl, t141, wd_end hP hK hD ht hW9.alike⟩, hS.F ht⟩) hS.2.2 dX12_run_52 hlocks
    · have c18i : (f_X12_isGear S o1 x2).toInt = 0 := eq_v rfl rfl c18
      refine lv_aload_n hx hb dX12_run_16 rfl (lv_at hl 0 rfl) ?_
      refine lv_iconst (v := 1) hx hb dX12_run_17 (by decide) ?_
      have l32_1 : (1 : Int32).toInt = 1 := rfl
      have hFc := free_all hD hS hA
      obtain ⟨k143, gk143, hk143⟩ := wGt (cy := cy) X S h_o1.1 h_o1.2.1
      refine va_calli (va_runV (As := [.int (1 : Int32)]) (rest := []) ⟨hx, hb, hml, hown, hts⟩ (c_X12_fails l (cy := cy) (X := X) (D := D) S _ o1 h_o1 (1 : Int32) (hW)) (cwV 1 hts gX12_run_X12_fails rfl rfl rfl hd_X12_fails ⟨Nat.le_of_ble_eq_true rfl, Nat.le_of_ble_eq_true rfl⟩) (pV (va_recv hK hP (q := (RX12, TX12, 34)) (ci := 16) (q0 := k143) rfl hk143) hP hK hD hN) rfl rfl hl.1 rfl (lv_room (Nat.le_of_ble_eq_true rfl)) dX12_run_18 ⟨(Nat.zero_le _), (Nat.zero_le _)⟩) hS (fun q _ h => hFc q h) hFc (fun r144 u t H1 locs ht hvm hw hB hz1 hk1 hS => ?_)
      obtain ⟨c145, w146⟩ := hw
      obtain ⟨hP, hD⟩ := wd_post hFc ht hB
      generalize H1 = H at hP hS ⊢
      obtain ⟨S147, rfl⟩ : ∃ z, z = u := ⟨_, rfl⟩
      have t148 : stp [(10, 22), (12, 15)] [] [] S S147 := t0.tr w146 (by decide) (fun _ q => absurd q List.not_mem_nil)
      have xe149 : ext S S147 := w146.x
      refine W.widen (k := 0) (n := 0) (Nat.le_of_ble_eq_true rfl) (Nat.le_of_ble_eq_true rfl) ?_
      exact W.iret (v := r144) hx hb hr (fun t ht hW9 => ⟨⟨r144, S147, rfl, t148, wd_end hP hK hD ht hW9.alike⟩, hS.F ht⟩) hS.2.2 dX12_run_21 hlocks
theorem hi_X12_damage_X10 : ∀ w ∈ u_ws RX10 TX10 23, w ∈ wsX12_damage := by decide +kernel
theorem hi_X12_damage_X12 : ∀ w ∈ u_ws RX12 TX12 34, w ∈ wsX12_damage := by decide +kernel
theorem hd_X12_damage : yX12_damage.cls = RX12 ∧ yX12_damage.cls ≠ "java/lang/invoke/MethodHandle" ∧ yX12_damage.cls ≠ "java/lang/invoke/VarHandle" ∧ (parseMethodDescriptor yX12_damage.desc).map (fun d => d.parameters.length) = some 1 := by decide +kernel
set_option maxHeartbeats 4000000 in
set_option maxRecDepth 100000 in
theorem c_X12_damage (l : Launch) {D : va_G} {cy : Nat → ClassId} {X : va_W} (S : wPS) (sz : Nat) (o1 : Nat) (h_o1 : isA S o1 12) (x1 : Int32) (hW : wtB S [])  : Met l yX12_damage wsX12_damage ({ frames := 4, cells := 0, slots := 0, locals := 85 }) (va_Pc [.ref o1, .int x1] (fun U => U.heap.size = sz ∧ WD D cy X (fun _ => True) S U ∧ NW U)) (va_Ql (fun r (u : wPS) => stp [(12, 15)] [] [] S u) (fun u t => WD D cy X (va_A (X ++ PL cy S) sz) u t) (va_A (X ++ PL cy S) sz)) 0 0 (va_A (X ++ PL cy S) sz) := by
  refine Met.ofW (cc := cX12_damage) (maxL := 2) (ret := (some .long)) (by decide) rfl ?_
  intro p e s m args below meth c s₁ B hml hv
  obtain ⟨rfl, hsz, ⟨hP, hK, hD0⟩, hN⟩ := hv
  have hx := B.exec
  have hb := B.bytes
  have hr := B.returns
  have hts := atoms_spec (ws := wsX12_damage) B.pre
  have hown : s.vm.findClass RX12 = some m.cls := findClass_of_methodNamed (x := yX12_damage) B.named
  have hlocks := B.notSynchronized
  subst hsz
  have hD := hD0.self (sz := s.heap.size)
  generalize hAe : va_A (X ++ PL cy S) s.heap.size = A at hD ⊢
  have hA : ∀ q : Nat, s.heap.size ≤ q → A q := fun q h => by rw [← hAe]; exact Or.inr h
  have hS : va_S A s.heap s.heap [] := va_S.rf
  have hl := lv_entry ([.ref o1, .int x1]) (n := 2) (Nat.le_of_ble_eq_true rfl)
  rw [lg_entry_eq]
  generalize (lg_sl ([.ref o1, .int x1]) ++ List.replicate (2 - (lg_sl ([.ref o1, .int x1])).length) Slot.unset).toArray = ls at hl ⊢
  have hl : lv_has ls 2 [(0, .ref o1), (1, .int x1)] := hl
  have t0 : stp [(12, 15)] [] [] S S := stp.rf hW
  have F1 := ((hW.at h_o1 List.not_mem_nil).to_12 h_o1.2.1).F0
  refine lv_aload_n hx hb dX12_damage_0 rfl (lv_at hl 0 rfl) ?_
  refine lv_aload_n hx hb dX12_damage_1 rfl (lv_at hl 0 rfl) ?_
  refine lv_iload_n hx hb dX12_damage_2 rfl (lv_at hl 1 rfl) ?_
  have hFc := free_all hD hS hA
  obtain ⟨k2, gk2, hk2⟩ := wGt (cy := cy) X S h_o1.1 h_o1.2.1
  refine va_calli (va_runV (As := [.int x1]) (rest := [.ref o1]) ⟨hx, hb, hml, hown, hts⟩ (c_X12_isGear l (cy := cy) (X := X) (D := D) S _ o1 h_o1 x1 (hW)) (cwV 1 hts gX12_damage_X12_isGear rfl rfl rfl hd_X12_isGear ⟨Nat.le_of_ble_eq_true rfl, Nat.le_of_ble_eq_true rfl⟩) (pV (va_recv hK hP (q := (RX12, TX12, 34)) (ci := 16) (q0 := k2) rfl hk2) hP hK hD hN) rfl rfl hl.1 rfl (lv_room (Nat.le_of_ble_eq_true rfl)) dX12_damage_3 ⟨(Nat.zero_le _), (Nat.zero_le _)⟩) hS (fun q _ h => hFc q h) hFc (fun r3 u t H1 locs ht hvm hw hB hz1 hk1 hS => ?_)
  have c4 := hw
  obtain ⟨hP, hD⟩ := wd_post hFc ht hB
  generalize H1 = H at hP hS ⊢
  obtain rfl : f_X12_isGear S o1 x1 = r3 := c4.symm
  have i5 : (f_X12_isGear S o1 x1).toInt = 0 ∨ (0 ≤ x1.toInt ∧ x1.toInt < (S.I (S.f o1 0) 2).toInt) := by have h9 := ig_rng x1 ((hW.at h_o1 List.not_mem_nil).to_12 h_o1.2.1) hW; rw [f_of F1.1] at h9; exact h9
  refine lv_if_eq (tgt := 13) hx hb dX12_damage_6 (by decide) (fun c6 => ?_) (fun c6 => ?_)
  · have c6i : (f_X12_isGear S o1 x1).toInt = 0 := eq_v rfl rfl c6
    refine lv_iconst (v := 1) hx hb dX12_damage_13 (by decide) ?_
    obtain ⟨k7, gk7, hk7⟩ := wGt (cy := cy) X S h_o1.1 h_o1.2.1
    refine va_put (D := D) (ci := 16) (v := .int (1 : Int32)) (ty := .int) (C := RX12) (T := TX12) (N := 34) hx hb hts hi_X12_damage_X12 tyX12 tyX12_ok nmX12 hown hK hP hD hS k7 hk7 rfl 15 (by decide) (hts (.fieldLink RX12 94 "HobhouseModel" "thrown" "I") (by decide +kernel)) (fun _ h9 => h9) rfl (by decide +kernel) (rfl) (rfl) (Nat.le_of_ble_eq_true rfl) dX12_damage_14 (fun H locs hP2 hD2 hS => ?_)
    have e9 := wPuI (cy := cy) (j := 15) (v := (1 : Int32)) hD h_o1.1 h_o1.2.1 gk7 rfl
    obtain ⟨S8, hS8⟩ : ∃ z, S.sI o1 15 (1 : Int32) = z := ⟨_, rfl⟩
    have hP : va_P D vwCl (X ++ PL cy S8) H := by rw [← hS8, ← e9]; exact hP2
    have hD : va_D A (X ++ PL cy S8) := by rw [← hS8, ← e9]; exact hD2
    have xe9 : ext S S8 := by rw [← hS8]; exact ext.sI _ _ _ _
    have t10 : stp [(12, 15)] [] [] S S8 := by rw [← hS8]; exact t0.I 15 (1 : Int32) h_o1 (by decide) (trivial) (Or.inl (by decide))
    have k11 : (S8.I (S.f o1 0) 2).toInt = (S.I (S.f o1 0) 2).toInt := by rw [← hS8]; exact congrArg Int32.toInt (sI_I (by rintro ⟨e1, e2⟩; exact absurd e2 (by decide)))
    have k12 : (S8.I o1 15).toInt = (1 : Int32).toInt := by rw [← hS8, sI_eq]
    refine lv_aload_n hx hb dX12_damage_17 rfl (lv_at hl 0 rfl) ?_
    have l0 : (0 : Int32).toInt = 0 := rfl
    have l1 : (1 : Int32).toInt = 1 := rfl
    obtain ⟨k13, gk13, hk13⟩ := wGt (cy := cy) X S8 (xe9.A h_o1).1 (xe9.A h_o1).2.1
    refine va_get (D := D) (ci := 16) (v := .int (S8.I o1 15)) (C := RX12) (T := TX12) (N := 34) hx hb hts hi_X12_damage_X12 hown hK hP k13 hk13 rfl 15 (by decide) (hts (.fieldLink RX12 94 "HobhouseModel" "thrown" "I") (by decide +kernel)) (fun _ h9 => h9) rfl dX12_damage_18 ?_
    refine lv_if_ne (tgt := 35) hx hb dX12_damage_21 (by decide) (fun c14 => ?_) (fun c14 => ?_)
    · have c14i : ¬ (S8.I o1 15).toInt = 0 := neq_v rfl rfl c14
      refine lv_lconst (v := 0) hx hb dX12_damage_35 (by decide) ?_
      refine W.widen (k := 0) (n := 0) (Nat.le_of_ble_eq_true rfl) (Nat.le_of_ble_eq_true rfl) ?_
      exact W.lret (v := (0 : Int64)) hx hb hr (fun t ht hW9 => ⟨⟨(0 : Int64), S8, rfl, t10, wd_end hP hK hD ht hW9.alike⟩, hS.F ht⟩) hS.2.2 dX12_damage_36 hlocks
    · have c14i : (S8.I o1 15).toInt = 0 := eq_v rfl rfl c14
      refine lv_aload_n hx hb dX12_damage_24 rfl (lv_at hl 0 rfl) ?_
      refine lv_iload_n hx hb dX12_damage_25 rfl (lv_at hl 1 rfl) ?_
      have hFc := free_all hD hS hA
      obtain ⟨k15, gk15, hk15⟩ := wGt (cy := cy) X S8 (xe9.A h_o1).1 (xe9.A h_o1).2.1
      refine va_callq (va_runV (As := [.int x1]) (rest := []) ⟨hx, hb, hml, hown, hts⟩ (c_X12_gearAt l (cy := cy) (X := X) (D := D) S8 _ o1 (xe9.A h_o1) x1 (t10.w) (by rw [f_of (xe9.F h_o1 (by decide) F1.1)]; omega)) (cwV 1 hts gX12_damage_X12_gearAt rfl rfl rfl hd_X12_gearAt ⟨Nat.le_of_ble_eq_true rfl, Nat.le_of_ble_eq_true rfl⟩) (pV (va_recv hK hP (q := (RX12, TX12, 34)) (ci := 16) (q0 := k15) rfl hk15) hP hK hD hN) rfl rfl hl.1 rfl (lv_room (Nat.le_of_ble_eq_true rfl)) dX12_damage_26 ⟨(Nat.zero_le _), (Nat.zero_le _)⟩) hS (fun q _ h => hFc q h) hFc (fun r16 u t H1 locs ht hvm hw hB hz1 hk1 hS => ?_)
      obtain ⟨r16, rfl, c17, o18⟩ := hw
      obtain ⟨hP, hD⟩ := wd_post hFc ht hB
      generalize H1 = H at hP hS ⊢
      refine W.eq (g2 := F0 m 29 ls [.ref r16]) rfl ?_
      obtain ⟨k19, gk19, hk19⟩ := wGt (cy := cy) X S8 o18.1 o18.2.1
      refine va_getN (D := D) (ci := 14) (v := .long (S8.J r16 22)) (C := RX10) (T := TX10) (N := 23) hx hb hts hi_X12_damage_X10 hown hK hP k19 hk19 rfl 22 (by decide) (va_Nw.use rfl (hN (.fieldLinkNest RX12 455 "HobhouseModel$Gear" "damage" "J" "HobhouseModel") (by decide +kernel))) (fun _ h9 => h9) rfl dX12_damage_29 ?_
      refine lv_goto (tgt := 36) hx hb dX12_damage_32 (by decide) ?_
      refine W.widen (k := 0) (n := 0) (Nat.le_of_ble_eq_true rfl) (Nat.le_of_ble_eq_true rfl) ?_
      exact W.lret (v := S8.J r16 22) hx hb hr (fun t ht hW9 => ⟨⟨S8.J r16 22, S8, rfl, t10, wd_end hP hK hD ht hW9.alike⟩, hS.F ht⟩) hS.2.2 dX12_damage_36 hlocks
  · have c6i : ¬ (f_X12_isGear S o1 x1).toInt = 0 := neq_v rfl rfl c6
    refine lv_iconst (v := 0) hx hb dX12_damage_9 (by decide) ?_
    refine lv_goto (tgt := 14) hx hb dX12_damage_10 (by decide) ?_
    obtain ⟨k20, gk20, hk20⟩ := wGt (cy := cy) X S h_o1.1 h_o1.2.1
    refine va_put (D := D) (ci := 16) (v := .int (0 : Int32)) (ty := .int) (C := RX12) (T := TX12) (N := 34) hx hb hts hi_X12_damage_X12 tyX12 tyX12_ok nmX12 hown hK hP hD hS k20 hk20 rfl 15 (by decide) (hts (.fieldLink RX12 94 "HobhouseModel" "thrown" "I") (by decide +kernel)) (fun _ h9 => h9) rfl (by decide +kernel) (rfl) (rfl) (Nat.le_of_ble_eq_true rfl) dX12_damage_14 (fun H locs hP2 hD2 hS => ?_)
    have e9 := wPuI (cy := cy) (j := 15) (v := (0 : Int32)) hD h_o1.1 h_o1.2.1 gk20 rfl
    obtain ⟨S21, hS21⟩ : ∃ z, S.sI o1 15 (0 : Int32) = z := ⟨_, rfl⟩
    have hP : va_P D vwCl (X ++ PL cy S21) H := by rw [← hS21, ← e9]; exact hP2
    have hD : va_D A (X ++ PL cy S21) := by rw [← hS21, ← e9]; exact hD2
    have xe22 : ext S S21 := by rw [← hS21]; exact ext.sI _ _ _ _
    have t23 : stp [(12, 15)] [] [] S S21 := by rw [← hS21]; exact t0.I 15 (0 : Int32) h_o1 (by decide) (trivial) (Or.inl (by decide))
    have k24 : (S21.I (S.f o1 0) 2).toInt = (S.I (S.f o1 0) 2).toInt := by rw [← hS21]; exact congrArg Int32.toInt (sI_I (by rintro ⟨e1, e2⟩; exact absurd e2 (by decide)))
    have k25 : (S21.I o1 15).toInt = (0 : Int32).toInt := by rw [← hS21, sI_eq]
    refine lv_aload_n hx hb dX12_damage_17 rfl (lv_at hl 0 rfl) ?_
    have l0 : (0 : Int32).toInt = 0 := rfl
    have l1 : (1 : Int32).toInt = 1 := rfl
    obtain ⟨k26, gk26, hk26⟩ := wGt (cy := cy) X S21 (xe22.A h_o1).1 (xe22.A h_o1).2.1
    refine va_get (D := D) (ci := 16) (v := .int (S21.I o1 15)) (C := RX12) (T := TX12) (N := 34) hx hb hts hi_X12_damage_X12 hown hK hP k26 hk26 rfl 15 (by decide) (hts (.fieldLink RX12 94 "HobhouseModel" "thrown" "I") (by decide +kernel)) (fun _ h9 => h9) rfl dX12_damage_18 ?_
    refine lv_if_ne (tgt := 35) hx hb dX12_damage_21 (by decide) (fun c27 => ?_) (fun c27 => ?_)
    · have c27i : ¬ (S21.I o1 15).toInt = 0 := neq_v rfl rfl c27
      refine lv_lconst (v := 0) hx hb dX12_damage_35 (by decide) ?_
      refine W.widen (k := 0) (n := 0) (Nat.le_of_ble_eq_true rfl) (Nat.le_of_ble_eq_true rfl) ?_
      exact W.lret (v := (0 : Int64)) hx hb hr (fun t ht hW9 => ⟨⟨(0 : Int64), S21, rfl, t23, wd_end hP hK hD ht hW9.alike⟩, hS.F ht⟩) hS.2.2 dX12_damage_36 hlocks
    · have c27i : (S21.I o1 15).toInt = 0 := eq_v rfl rfl c27
      refine lv_aload_n hx hb dX12_damage_24 rfl (lv_at hl 0 rfl) ?_
      refine lv_iload_n hx hb dX12_damage_25 rfl (lv_at hl 1 rfl) ?_
      have hFc := free_all hD hS hA
      obtain ⟨k28, gk28, hk28⟩ := wGt (cy := cy) X S21 (xe22.A h_o1).1 (xe22.A h_o1).2.1
      refine va_callq (va_runV (As := [.int x1]) (rest := []) ⟨hx, hb, hml, hown, hts⟩ (c_X12_gearAt l (cy := cy) (X := X) (D := D) S21 _ o1 (xe22.A h_o1) x1 (t23.w) (by rw [f_of (xe22.F h_o1 (by decide) F1.1)]; omega)) (cwV 1 hts gX12_damage_X12_gearAt rfl rfl rfl hd_X12_gearAt ⟨Nat.le_of_ble_eq_true rfl, Nat.le_of_ble_eq_true rfl⟩) (pV (va_recv hK hP (q := (RX12, TX12, 34)) (ci := 16) (q0 := k28) rfl hk28) hP hK hD hN) rfl rfl hl.1 rfl (lv_room (Nat.le_of_ble_eq_true rfl)) dX12_damage_26 ⟨(Nat.zero_le _), (Nat.zero_le _)⟩) hS (fun q _ h => hFc q h) hFc (fun r29 u t H1 locs ht hvm hw hB hz1 hk1 hS => ?_)
      obtain ⟨r29, rfl, c30, o31⟩ := hw
      obtain ⟨hP, hD⟩ := wd_post hFc ht hB
      generalize H1 = H at hP hS ⊢
      refine W.eq (g2 := F0 m 29 ls [.ref r29]) rfl ?_
      obtain ⟨k32, gk32, hk32⟩ := wGt (cy := cy) X S21 o31.1 o31.2.1
      refine va_getN (D := D) (ci := 14) (v := .long (S21.J r29 22)) (C := RX10) (T := TX10) (N := 23) hx hb hts hi_X12_damage_X10 hown hK hP k32 hk32 rfl 22 (by decide) (va_Nw.use rfl (hN (.fieldLinkNest RX12 455 "HobhouseModel$Gear" "damage" "J" "HobhouseModel") (by decide +kernel))) (fun _ h9 => h9) rfl dX12_damage_29 ?_
      refine lv_goto (tgt := 36) hx hb dX12_damage_32 (by decide) ?_
      refine W.widen (k := 0) (n := 0) (Nat.le_of_ble_eq_true rfl) (Nat.le_of_ble_eq_true rfl) ?_
      exact W.lret (v := S21.J r29 22) hx hb hr (fun t ht hW9 => ⟨⟨S21.J r29 22, S21, rfl, t23, wd_end hP hK hD ht hW9.alike⟩, hS.F ht⟩) hS.2.2 dX12_damage_36 hlocks
