def f_X9_needFourWheels (S : wPS) (o1 : Nat) : Except String Unit := if (f_X0_hasFour S (S.f o1 6)) = (0 : Int32) then .error "java/util/NoSuchElementException" else .ok ()
set_option maxRecDepth 20000 in
theorem s_X9_needFourWheels_NSEE : ∀ w ∈ (vx_atI RX9 154 "java/util/NoSuchElementException" ["java/lang/RuntimeException", "java/lang/Exception"]).filter goodWord, w ∈ wsX9_needFourWheels := fun w h => List.mem_cons_of_mem _ (List.mem_append_right _ h)
theorem hi_X9_needFourWheels_X9 : ∀ w ∈ u_ws RX9 TX9 11, w ∈ wsX9_needFourWheels := by decide +kernel
theorem hd_X9_needFourWheels : yX9_needFourWheels.cls = RX9 ∧ yX9_needFourWheels.cls ≠ "java/lang/invoke/MethodHandle" ∧ yX9_needFourWheels.cls ≠ "java/lang/invoke/VarHandle" ∧ (parseMethodDescriptor yX9_needFourWheels.desc).map (fun d => d.parameters.length) = some 0 := by decide +kernel
set_option maxHeartbeats 4000000 in
set_option maxRecDepth 100000 in
theorem c_X9_needFourWheels (l : Launch) (hst : l.stackTraces = false) {D : va_G} {cy : Nat → ClassId} {X : va_W} (S : wPS) (sz : Nat) (o1 : Nat) (h_o1 : isA S o1 9) (hW : wtB S [])  : vx_Met l yX9_needFourWheels wsX9_needFourWheels ({ frames := 6, cells := 1, slots := 6, locals := 82 }) (va_Pc [.ref o1] (fun U => U.heap.size = sz ∧ WD D cy X (fun _ => True) S U ∧ NW U ∧ TH (va_A (X ++ PL cy S) sz) U)) (va_Qv (fun (_ : Unit) => f_X9_needFourWheels S o1 = .ok ()) (fun _ t => WD D cy X (va_A (X ++ PL cy S) sz) S t) (va_A (X ++ PL cy S) sz)) (vx_X (fun (_ : Unit) => True) (fun E _ t => f_X9_needFourWheels S o1 = .error E ∧ E ∈ ["java/util/NoSuchElementException"] ∧ WD D cy X (va_A (X ++ PL cy S) sz) S t) (va_A (X ++ PL cy S) sz)) 1 6 (va_A (X ++ PL cy S) sz) := by
  refine vx_ofW (cc := cX9_needFourWheels) (maxL := 1) (ret := none) (by decide) rfl ?_
  intro p e s m args below meth c s₁ B hml hno hv
  obtain ⟨rfl, hsz, ⟨hP, hK, hD0⟩, hN, hTH⟩ := hv
  have hx := B.exec
  have hb := B.bytes
  have hr := B.returns
  have hts := atoms_spec (ws := wsX9_needFourWheels) B.pre
  have hown : s.vm.findClass RX9 = some m.cls := findClass_of_methodNamed (x := yX9_needFourWheels) B.named
  have hlocks := B.notSynchronized
  subst hsz
  have hD := hD0.self (sz := s.heap.size)
  generalize hAe : va_A (X ++ PL cy S) s.heap.size = A at hD hTH ⊢
  have hA : ∀ q : Nat, s.heap.size ≤ q → A q := fun q h => by rw [← hAe]; exact Or.inr h
  have hS : va_S A s.heap s.heap [] := va_S.rf
  have hl := lv_entry ([.ref o1]) (n := 1) (Nat.le_of_ble_eq_true rfl)
  rw [lg_entry_eq]
  generalize (lg_sl ([.ref o1]) ++ List.replicate (1 - (lg_sl ([.ref o1])).length) Slot.unset).toArray = ls at hl ⊢
  have hl : lv_has ls 1 [(0, .ref o1)] := hl
  refine lv_aload_n hx hb dX9_needFourWheels_0 rfl (lv_at hl 0 rfl) ?_
  have F1 := ((hW.at h_o1 List.not_mem_nil).to_9 h_o1.2.1).F6
  obtain ⟨k2, gk2, hk2⟩ := wGt (cy := cy) X S h_o1.1 h_o1.2.1
  simp only [kE, F1.1] at hk2
  refine va_get (D := D) (ci := 13) (v := .ref (S.f o1 6)) (C := RX9) (T := TX9) (N := 11) hx hb hts hi_X9_needFourWheels_X9 hown hK hP k2 hk2 rfl 6 (by decide) (hts (.fieldLink RX9 30 "Hobhouse" "box" "LHobhouse$Box;") (by decide +kernel)) (fun _ h9 => h9) rfl dX9_needFourWheels_1 ?_
  have hFc := free_all hD hS hA
  obtain ⟨k3, gk3, hk3⟩ := wGt (cy := cy) X S F1.2.1 F1.2.2.1
  refine va_calli (va_runV (As := []) (rest := []) ⟨hx, hb, hml, hown, hts⟩ (c_X0_hasFour l (cy := cy) (X := X) (D := D) S _ (S.f o1 6) F1.2) (cwV 0 hts gX9_needFourWheels_X0_hasFour rfl rfl rfl hd_X0_hasFour ⟨Nat.le_of_ble_eq_true rfl, Nat.le_of_ble_eq_true rfl⟩) (pV (va_recv hK hP (q := (RX0, TX0, 7)) (ci := 4) (q0 := k3) rfl hk3) hP hK hD hN) rfl rfl hl.1 rfl (lv_room (Nat.le_of_ble_eq_true rfl)) dX9_needFourWheels_4 ⟨(Nat.zero_le _), (Nat.zero_le _)⟩) hS (fun q _ h => hFc q h) hFc (fun r4 u t H1 locs ht hvm hw hB hz1 hk1 hS => ?_)
  have c5 := hw
  obtain ⟨hP, hD⟩ := wd_post hFc ht hB
  generalize H1 = H at hP hS ⊢
  obtain rfl : f_X0_hasFour S (S.f o1 6) = r4 := c5.symm
  refine lv_if_ne (tgt := 21) hx hb dX9_needFourWheels_7 (by decide) (fun c6 => ?_) (fun c6 => ?_)
  · have c6i : ¬ (f_X0_hasFour S (S.f o1 6)).toInt = 0 := neq_v rfl rfl c6
    refine vx_ret ?_
    refine W.widen (k := 1) (n := 6) (Nat.le_of_ble_eq_true rfl) (Nat.le_of_ble_eq_true rfl) ?_
    exact W.vret hx hb hr (fun t ht hW9 => ⟨⟨(), rfl, (by show f_X9_needFourWheels S o1 = .ok (); unfold f_X9_needFourWheels; rw [if_neg c6]), wd_end hP hK hD ht hW9.alike⟩, hS.F ht⟩) hS.2.2 dX9_needFourWheels_21 hlocks
  · have c6i : (f_X0_hasFour S (S.f o1 6)).toInt = 0 := eq_v rfl rfl c6
    obtain ⟨sa, hsa⟩ := hTH.2.2 (RX9, 537, "the box has fewer than 4 wheels") (by decide +kernel)
    exact vx_throwIW hx hb hst hown (by decide +kernel) (by decide +kernel) (hts (.classLink RX9 150 "java/util/NoSuchElementException") (by decide +kernel)) (hts (.initialized "java/util/NoSuchElementException") (by decide +kernel)) hsa (th_at (B := exW_X9_NSEE) (fun w h => hts w (s_X9_needFourWheels_NSEE w h)) rfl (by simp only [exW, List.mem_append]; intro w h; simp [h]) hTH.2.1) (List.forall_mem_cons.mpr ⟨by decide +kernel, List.forall_mem_cons.mpr ⟨by decide +kernel, exW_X9_NSEE_ok⟩⟩) hTH.1.1 hTH.1.2 hS (hl.1.trans hml.symm) dX9_needFourWheels_10 dX9_needFourWheels_13 dX9_needFourWheels_14 dX9_needFourWheels_17 dX9_needFourWheels_20 (fun x h => (hno x h).elim) (Nat.le_of_ble_eq_true rfl) (Nat.le_of_ble_eq_true rfl) (Nat.le_of_ble_eq_true rfl) (Nat.le_of_ble_eq_true rfl) hlocks (fun t hA2 h1 h2 => ⟨(), trivial, ⟨(by show f_X9_needFourWheels S o1 = .error "java/util/NoSuchElementException"; unfold f_X9_needFourWheels; rw [if_pos c6]), (by decide), wd_exc hP hK hD hA2 h2⟩, exc_F hS h1 h2⟩) hS.2.2 (Nat.le_of_ble_eq_true rfl) (Nat.le_of_ble_eq_true rfl)
def f_X9_wheel (S : wPS) (o1 : Nat) (x1 : Int32) : Except String (Int32 × wPS) := eB (f_X9_needRange x1 (15 : Int32) (127 : Int32)) (fun _ => if (f_X0_isFull S (S.f o1 6)) = (0 : Int32) then l2 (f_X0_put S (S.f o1 6) x1) (fun r15 S20 => .ok (r15, S20)) else .error "java/lang/IllegalStateException")
set_option maxRecDepth 20000 in
theorem s_X9_wheel_ISE : ∀ w ∈ (vx_atS RX9 71 "java/lang/IllegalStateException" ["java/lang/RuntimeException", "java/lang/Exception"]).filter goodWord, w ∈ wsX9_wheel := fun w h => List.mem_cons_of_mem _ (List.mem_append_left _ (List.mem_append_left _ (List.mem_append_right _ h)))
theorem hi_X9_wheel_X9 : ∀ w ∈ u_ws RX9 TX9 11, w ∈ wsX9_wheel := by decide +kernel
theorem hd_X9_wheel : yX9_wheel.cls = RX9 ∧ yX9_wheel.cls ≠ "java/lang/invoke/MethodHandle" ∧ yX9_wheel.cls ≠ "java/lang/invoke/VarHandle" ∧ (parseMethodDescriptor yX9_wheel.desc).map (fun d => d.parameters.length) = some 1 := by decide +kernel
set_option maxHeartbeats 4000000 in
set_option maxRecDepth 100000 in
theorem c_X9_wheel (l : Launch) (hst : l.stackTraces = false) {D : va_G} {cy : Nat → ClassId} {X : va_W} (S : wPS) (sz : Nat) (o1 : Nat) (h_o1 : isA S o1 9) (x1 : Int32) (hW : wtB S [])  : vx_Met l yX9_wheel wsX9_wheel ({ frames := 7, cells := 2, slots := 12, locals := 104 }) (va_Pc [.ref o1, .int x1] (fun U => U.heap.size = sz ∧ WD D cy X (fun _ => True) S U ∧ NW U ∧ TH (va_A (X ++ PL cy S) sz) U)) (va_Qi (fun r (u : wPS) => f_X9_wheel S o1 x1 = .ok (r, u) ∧ stp [(0, 2), (27, 100)] [] [] S u ∧ (u.I (S.f o1 6) 2).toInt = (S.I (S.f o1 6) 2).toInt + 1 ∧ r.toInt = (S.I (S.f o1 6) 2).toInt + 1) (fun u t => WD D cy X (va_A (X ++ PL cy S) sz) u t) (va_A (X ++ PL cy S) sz)) (vx_X (fun (u : wPS) => stp [(0, 2), (27, 100)] [] [] S u) (fun E u t => f_X9_wheel S o1 x1 = .error E ∧ E ∈ ["java/lang/IllegalArgumentException", "java/lang/IllegalStateException"] ∧ u = S ∧ WD D cy X (va_A (X ++ PL cy S) sz) u t) (va_A (X ++ PL cy S) sz)) 2 12 (va_A (X ++ PL cy S) sz) := by
  refine vx_ofW (cc := cX9_wheel) (maxL := 2) (ret := (some .int)) (by decide) rfl ?_
  intro p e s m args below meth c s₁ B hml hno hv
  obtain ⟨rfl, hsz, ⟨hP, hK, hD0⟩, hN, hTH⟩ := hv
  have hx := B.exec
  have hb := B.bytes
  have hr := B.returns
  have hts := atoms_spec (ws := wsX9_wheel) B.pre
  have hown : s.vm.findClass RX9 = some m.cls := findClass_of_methodNamed (x := yX9_wheel) B.named
  have hlocks := B.notSynchronized
  subst hsz
  have hD := hD0.self (sz := s.heap.size)
  generalize hAe : va_A (X ++ PL cy S) s.heap.size = A at hD hTH ⊢
  have hA : ∀ q : Nat, s.heap.size ≤ q → A q := fun q h => by rw [← hAe]; exact Or.inr h
  have hS : va_S A s.heap s.heap [] := va_S.rf
  have hl := lv_entry ([.ref o1, .int x1]) (n := 2) (Nat.le_of_ble_eq_true rfl)
  rw [lg_entry_eq]
  generalize (lg_sl ([.ref o1, .int x1]) ++ List.replicate (2 - (lg_sl ([.ref o1, .int x1])).length) Slot.unset).toArray = ls at hl ⊢
  have hl : lv_has ls 2 [(0, .ref o1), (1, .int x1)] := hl
  have t0 : stp [(0, 2), (27, 100)] [] [] S S := stp.rf hW
  refine lv_iload_n hx hb dX9_wheel_0 rfl (lv_at hl 1 rfl) ?_
  refine lv_bipush (v := 15) hx hb dX9_wheel_1 (by decide +kernel) ?_
  refine lv_bipush (v := 127) hx hb dX9_wheel_3 (by decide +kernel) ?_
  have l32_15 : (15 : Int32).toInt = 15 := rfl
  have l32_127 : (127 : Int32).toInt = 127 := rfl
  have hFc := free_all hD hS hA
  refine vx_callv (vx_runS (As := [.int x1, .int (15 : Int32), .int (127 : Int32)]) (rest := []) ⟨hx, hb, hml, hown, hts⟩ (c_X9_needRange l hst (cy := cy) (X := X) (D := D) S _ x1 (15 : Int32) (127 : Int32)) (cwS 3 hts gX9_wheel_X9_needRange rfl rfl rfl hd_X9_needRange ⟨Nat.le_of_ble_eq_true rfl, Nat.le_of_ble_eq_true rfl⟩) (pSt hP hK hD hN hTH hS hFc) rfl rfl hl.1 rfl (lv_room (Nat.le_of_ble_eq_true rfl)) dX9_wheel_5 ⟨Nat.le_of_ble_eq_true rfl, Nat.le_of_ble_eq_true rfl⟩) hS (fun q _ h => hFc q h) hFc (fun q _ h => hFc q h) (fun E ce q9 u t H1 locs ht hvm hw hB hz1 hk1 hS hq9 hce hcl => ?_) (fun u t H1 locs ht hvm hw hB hz1 hk1 hS => ?_)
  · obtain ⟨c2, hEc2, hB2⟩ := hB
    obtain ⟨hP, hD⟩ := wd_post hFc ht hB2
    exact vx_out (fun x h => (hno x h).elim) hlocks hq9 hce hcl (fun t2 ht2 hA2 => ⟨S, t0, ⟨(by show f_X9_wheel S o1 x1 = .error E; unfold f_X9_wheel; rw [eB_er c2]), (el_in (by decide) hEc2), rfl, wd_end hP hK hD ht2 hA2⟩, hS.F ht2⟩) hS.2.2 (Nat.le_of_ble_eq_true rfl) (Nat.le_of_ble_eq_true rfl)
  · have c3 := hw
    obtain ⟨hP, hD⟩ := wd_post hFc ht hB
    generalize H1 = H at hP hS ⊢
    have i4 := nr_i c3
    have i4l := i4.1
    have i4h := i4.2
    have l5 : (15 : Int32).toInt = 15 := rfl
    have l6 : (127 : Int32).toInt = 127 := rfl
    refine lv_aload_n hx hb dX9_wheel_8 rfl (lv_at hl 0 rfl) ?_
    have F7 := ((hW.at h_o1 List.not_mem_nil).to_9 h_o1.2.1).F6
    obtain ⟨k8, gk8, hk8⟩ := wGt (cy := cy) X S h_o1.1 h_o1.2.1
    simp only [kE, F7.1] at hk8
    refine va_get (D := D) (ci := 13) (v := .ref (S.f o1 6)) (C := RX9) (T := TX9) (N := 11) hx hb hts hi_X9_wheel_X9 hown hK hP k8 hk8 rfl 6 (by decide) (hts (.fieldLink RX9 30 "Hobhouse" "box" "LHobhouse$Box;") (by decide +kernel)) (fun _ h9 => h9) rfl dX9_wheel_9 ?_
    have hFc := free_all hD hS hA
    obtain ⟨k9, gk9, hk9⟩ := wGt (cy := cy) X S F7.2.1 F7.2.2.1
    refine va_calli (va_runV (As := []) (rest := []) ⟨hx, hb, hml, hown, hts⟩ (c_X0_isFull l (cy := cy) (X := X) (D := D) S _ (S.f o1 6) F7.2) (cwV 0 hts gX9_wheel_X0_isFull rfl rfl rfl hd_X0_isFull ⟨Nat.le_of_ble_eq_true rfl, Nat.le_of_ble_eq_true rfl⟩) (pV (va_recv hK hP (q := (RX0, TX0, 7)) (ci := 4) (q0 := k9) rfl hk9) hP hK hD hN) rfl rfl hl.1 rfl (lv_room (Nat.le_of_ble_eq_true rfl)) dX9_wheel_12 ⟨Nat.le_of_ble_eq_true rfl, Nat.le_of_ble_eq_true rfl⟩) hS (fun q _ h => hFc q h) hFc (fun r10 u t H1 locs ht hvm hw hB hz1 hk1 hS => ?_)
    have c11 := hw
    obtain ⟨hP, hD⟩ := wd_post hFc ht hB
    generalize H1 = H at hP hS ⊢
    obtain rfl : f_X0_isFull S (S.f o1 6) = r10 := c11.symm
    refine lv_if_eq (tgt := 28) hx hb dX9_wheel_15 (by decide) (fun c12 => ?_) (fun c12 => ?_)
    · have c12i : (f_X0_isFull S (S.f o1 6)).toInt = 0 := eq_v rfl rfl c12
      have hfull := full_i c12
      refine lv_aload_n hx hb dX9_wheel_28 rfl (lv_at hl 0 rfl) ?_
      obtain ⟨k13, gk13, hk13⟩ := wGt (cy := cy) X S h_o1.1 h_o1.2.1
      simp only [kE, F7.1] at hk13
      refine va_get (D := D) (ci := 13) (v := .ref (S.f o1 6)) (C := RX9) (T := TX9) (N := 11) hx hb hts hi_X9_wheel_X9 hown hK hP k13 hk13 rfl 6 (by decide) (hts (.fieldLink RX9 30 "Hobhouse" "box" "LHobhouse$Box;") (by decide +kernel)) (fun _ h9 => h9) rfl dX9_wheel_29 ?_
      refine lv_iload_n hx hb dX9_wheel_32 rfl (lv_at hl 1 rfl) ?_
      have hFc := free_all hD hS hA
      obtain ⟨k14, gk14, hk14⟩ := wGt (cy := cy) X S F7.2.1 F7.2.2.1
      refine va_calli (va_runV (As := [.int x1]) (rest := []) ⟨hx, hb, hml, hown, hts⟩ (c_X0_put l (cy := cy) (X := X) (D := D) S _ (S.f o1 6) F7.2 x1 (hW) (by omega)) (cwV 1 hts gX9_wheel_X0_put rfl rfl rfl hd_X0_put ⟨Nat.le_of_ble_eq_true rfl, Nat.le_of_ble_eq_true rfl⟩) (pV (va_recv hK hP (q := (RX0, TX0, 7)) (ci := 4) (q0 := k14) rfl hk14) hP hK hD hN) rfl rfl hl.1 rfl (lv_room (Nat.le_of_ble_eq_true rfl)) dX9_wheel_33 ⟨Nat.le_of_ble_eq_true rfl, Nat.le_of_ble_eq_true rfl⟩) hS (fun q _ h => hFc q h) hFc (fun r15 u t H1 locs ht hvm hw hB hz1 hk1 hS => ?_)
      obtain ⟨c16, w17, y18, y19⟩ := hw
      obtain ⟨hP, hD⟩ := wd_post hFc ht hB
      generalize H1 = H at hP hS ⊢
      obtain ⟨S20, rfl⟩ : ∃ z, z = u := ⟨_, rfl⟩
      have t21 : stp [(0, 2), (27, 100)] [] [] S S20 := t0.tr w17 (by decide) (fun _ q => absurd q List.not_mem_nil)
      have xe22 : ext S S20 := w17.x
      refine vx_ret ?_
      refine W.widen (k := 2) (n := 12) (Nat.le_of_ble_eq_true rfl) (Nat.le_of_ble_eq_true rfl) ?_
      exact W.iret (v := r15) hx hb hr (fun t ht hW9 => ⟨⟨r15, S20, rfl, ⟨(by show f_X9_wheel S o1 x1 = .ok (r15, S20); unfold f_X9_wheel; rw [eB_ok c3, if_pos c12, l2_eq c16.symm]), t21, (⟨y19, y18⟩)⟩, wd_end hP hK hD ht hW9.alike⟩, hS.F ht⟩) hS.2.2 dX9_wheel_36 hlocks
    · have c12i : ¬ (f_X0_isFull S (S.f o1 6)).toInt = 0 := neq_v rfl rfl c12
      obtain ⟨sa, hsa⟩ := hTH.2.2 (RX9, 230, "the box has 16 wheels") (by decide +kernel)
      exact vx_throwS hx hb hst (names := ["java/lang/RuntimeException", "java/lang/Exception"]) hown (by decide +kernel) (by decide +kernel) (hts (.classLink RX9 67 "java/lang/IllegalStateException") (by decide +kernel)) (hts (.initialized "java/lang/IllegalStateException") (by decide +kernel)) hsa (th_at (B := exW_X9_ISE) (fun w h => hts w (s_X9_wheel_ISE w h)) rfl (by simp only [exW, List.mem_append]; intro w h; simp [h]) hTH.2.1) (List.forall_mem_cons.mpr ⟨by decide +kernel, List.forall_mem_cons.mpr ⟨by decide +kernel, exW_X9_ISE_ok⟩⟩) hTH.1.1 hTH.1.2 hS (hl.1.trans hml.symm) dX9_wheel_18 dX9_wheel_21 dX9_wheel_22 dX9_wheel_24 dX9_wheel_27 (fun x h => (hno x h).elim) (Nat.le_of_ble_eq_true rfl) (Nat.le_of_ble_eq_true rfl) (Nat.le_of_ble_eq_true rfl) (Nat.le_of_ble_eq_true rfl) hlocks (fun t hA2 h1 h2 => ⟨S, t0, ⟨(by show f_X9_wheel S o1 x1 = .error "java/lang/IllegalStateException"; unfold f_X9_wheel; rw [eB_ok c3, if_neg c12]), (by decide), rfl, wd_exc hP hK hD hA2 h2⟩, exc_F hS h1 h2⟩) hS.2.2 (Nat.le_of_ble_eq_true rfl) (Nat.le_of_ble_eq_true rfl)
theorem hi_X9_change_X9 : ∀ w ∈ u_ws RX9 TX9 11, w ∈ wsX9_change := by decide +kernel
theorem hd_X9_change : yX9_change.cls = RX9 ∧ yX9_change.cls ≠ "java/lang/invoke/MethodHandle" ∧ yX9_change.cls ≠ "java/lang/invoke/VarHandle" ∧ (parseMethodDescriptor yX9_change.desc).map (fun d => d.parameters.length) = some 3 := by decide +kernel
set_option maxHeartbeats 4000000 in
set_option maxRecDepth 100000 in
theorem c_X9_change (l : Launch) (hst : l.stackTraces = false) {D : va_G} {cy : Nat → ClassId} {X : va_W} (S : wPS) (sz : Nat) (o1 : Nat) (h_o1 : isA S o1 9) (x1 : Int32) (x2 : Int32) (x3 : Int32) (hW : wtB S [])  : vx_Met l yX9_change wsX9_change ({ frames := 8, cells := 4, slots := 24, locals := 125 }) (va_Pc [.ref o1, .int x1, .int x2, .int x3] (fun U => U.heap.size = sz ∧ WD D cy X (fun _ => True) S U ∧ NW U ∧ TH (va_A (X ++ PL cy S) sz) U)) (va_Qi (fun r (u : wPS) => stp [(0, 3), (0, 4), (0, 5), (0, 6), (17, 100)] [] [] S u) (fun u t => WD D cy X (va_A (X ++ PL cy S) sz) u t) (va_A (X ++ PL cy S) sz)) (vx_X (fun (u : wPS) => stp [(0, 3), (0, 4), (0, 5), (0, 6), (17, 100)] [] [] S u) (fun E u t => E ∈ ["java/lang/IllegalArgumentException", "java/util/NoSuchElementException"] ∧ WD D cy X (va_A (X ++ PL cy S) sz) u t) (va_A (X ++ PL cy S) sz)) 4 24 (va_A (X ++ PL cy S) sz) := by
  refine vx_ofW (cc := cX9_change) (maxL := 4) (ret := (some .int)) (by decide) rfl ?_
  intro p e s m args below meth c s₁ B hml hno hv
  obtain ⟨rfl, hsz, ⟨hP, hK, hD0⟩, hN, hTH⟩ := hv
  have hx := B.exec
  have hb := B.bytes
  have hr := B.returns
  have hts := atoms_spec (ws := wsX9_change) B.pre
  have hown : s.vm.findClass RX9 = some m.cls := findClass_of_methodNamed (x := yX9_change) B.named
  have hlocks := B.notSynchronized
  subst hsz
  have hD := hD0.self (sz := s.heap.size)
  generalize hAe : va_A (X ++ PL cy S) s.heap.size = A at hD hTH ⊢
  have hA : ∀ q : Nat, s.heap.size ≤ q → A q := fun q h => by rw [← hAe]; exact Or.inr h
  have hS : va_S A s.heap s.heap [] := va_S.rf
  have hl := lv_entry ([.ref o1, .int x1, .int x2, .int x3]) (n := 4) (Nat.le_of_ble_eq_true rfl)
  rw [lg_entry_eq]
  generalize (lg_sl ([.ref o1, .int x1, .int x2, .int x3]) ++ List.replicate (4 - (lg_sl ([.ref o1, .int x1, .int x2, .int x3])).length) Slot.unset).toArray = ls at hl ⊢
  have hl : lv_has ls 4 [(0, .ref o1), (1, .int x1), (2, .int x2), (3, .int x3)] := hl
  have t0 : stp [(0, 3), (0, 4), (0, 5), (0, 6), (17, 100)] [] [] S S := stp.rf hW
  refine lv_iload_n hx hb dX9_change_0 rfl (lv_at hl 1 rfl) ?_
  refine lv_iload_n hx hb dX9_change_1 rfl (lv_at hl 2 rfl) ?_
  have hFc := free_all hD hS hA
  refine vx_callv (vx_runS (As := [.int x1, .int x2]) (rest := []) ⟨hx, hb, hml, hown, hts⟩ (c_X9_needRatio l hst (cy := cy) (X := X) (D := D) S _ x1 x2) (cwS 2 hts gX9_change_X9_needRatio rfl rfl rfl hd_X9_needRatio ⟨Nat.le_of_ble_eq_true rfl, Nat.le_of_ble_eq_true rfl⟩) (pSt hP hK hD hN hTH hS hFc) rfl rfl hl.1 rfl (lv_room (Nat.le_of_ble_eq_true rfl)) dX9_change_2 ⟨Nat.le_of_ble_eq_true rfl, Nat.le_of_ble_eq_true rfl⟩) hS (fun q _ h => hFc q h) hFc (fun q _ h => hFc q h) (fun E ce q9 u t H1 locs ht hvm hw hB hz1 hk1 hS hq9 hce hcl => ?_) (fun u t H1 locs ht hvm hw hB hz1 hk1 hS => ?_)
  · obtain ⟨c2, hEc2, hB2⟩ := hB
    obtain ⟨hP, hD⟩ := wd_post hFc ht hB2
    exact vx_out (fun x h => (hno x h).elim) hlocks hq9 hce hcl (fun t2 ht2 hA2 => ⟨S, t0, ⟨(el_in (by decide) hEc2), wd_end hP hK hD ht2 hA2⟩, hS.F ht2⟩) hS.2.2 (Nat.le_of_ble_eq_true rfl) (Nat.le_of_ble_eq_true rfl)
  · have c3 := hw
    obtain ⟨hP, hD⟩ := wd_post hFc ht hB
    generalize H1 = H at hP hS ⊢
    have i4 := nq_i c3
    refine lv_iload_n hx hb dX9_change_5 rfl (lv_at hl 3 rfl) ?_
    refine lv_iconst (v := 0) hx hb dX9_change_6 (by decide) ?_
    refine lv_iconst (v := 3) hx hb dX9_change_7 (by decide) ?_
    have l32_0 : (0 : Int32).toInt = 0 := rfl
    have l32_3 : (3 : Int32).toInt = 3 := rfl
    have hFc := free_all hD hS hA
    refine vx_callv (vx_runS (As := [.int x3, .int (0 : Int32), .int (3 : Int32)]) (rest := []) ⟨hx, hb, hml, hown, hts⟩ (c_X9_needRange l hst (cy := cy) (X := X) (D := D) S _ x3 (0 : Int32) (3 : Int32)) (cwS 3 hts gX9_change_X9_needRange rfl rfl rfl hd_X9_needRange ⟨Nat.le_of_ble_eq_true rfl, Nat.le_of_ble_eq_true rfl⟩) (pSt hP hK hD hN hTH hS hFc) rfl rfl hl.1 rfl (lv_room (Nat.le_of_ble_eq_true rfl)) dX9_change_8 ⟨Nat.le_of_ble_eq_true rfl, Nat.le_of_ble_eq_true rfl⟩) hS (fun q _ h => hFc q h) hFc (fun q _ h => hFc q h) (fun E ce q9 u t H1 locs ht hvm hw hB hz1 hk1 hS hq9 hce hcl => ?_) (fun u t H1 locs ht hvm hw hB hz1 hk1 hS => ?_)
    · obtain ⟨c6, hEc6, hB2⟩ := hB
      obtain ⟨hP, hD⟩ := wd_post hFc ht hB2
      exact vx_out (fun x h => (hno x h).elim) hlocks hq9 hce hcl (fun t2 ht2 hA2 => ⟨S, t0, ⟨(el_in (by decide) hEc6), wd_end hP hK hD ht2 hA2⟩, hS.F ht2⟩) hS.2.2 (Nat.le_of_ble_eq_true rfl) (Nat.le_of_ble_eq_true rfl)
    · have c7 := hw
      obtain ⟨hP, hD⟩ := wd_post hFc ht hB
      generalize H1 = H at hP hS ⊢
      have i8 := nr_i c7
      have i8l := i8.1
      have i8h := i8.2
      have l9 : (0 : Int32).toInt = 0 := rfl
      have l10 : (3 : Int32).toInt = 3 := rfl
      refine lv_aload_n hx hb dX9_change_11 rfl (lv_at hl 0 rfl) ?_
      have hFc := free_all hD hS hA
      obtain ⟨k11, gk11, hk11⟩ := wGt (cy := cy) X S h_o1.1 h_o1.2.1
      refine vx_callv (vx_runV (As := []) (rest := []) ⟨hx, hb, hml, hown, hts⟩ (c_X9_needFourWheels l hst (cy := cy) (X := X) (D := D) S _ o1 h_o1 (hW)) (cwV 0 hts gX9_change_X9_needFourWheels rfl rfl rfl hd_X9_needFourWheels ⟨Nat.le_of_ble_eq_true rfl, Nat.le_of_ble_eq_true rfl⟩) (pVt (va_recv hK hP (q := (RX9, TX9, 11)) (ci := 13) (q0 := k11) rfl hk11) hP hK hD hN hTH hS hFc) rfl rfl hl.1 rfl (lv_room (Nat.le_of_ble_eq_true rfl)) dX9_change_12 ⟨Nat.le_of_ble_eq_true rfl, Nat.le_of_ble_eq_true rfl⟩) hS (fun q _ h => hFc q h) hFc (fun q _ h => hFc q h) (fun E ce q9 u t H1 locs ht hvm hw hB hz1 hk1 hS hq9 hce hcl => ?_) (fun u t H1 locs ht hvm hw hB hz1 hk1 hS => ?_)
      · obtain ⟨c13, hEc13, hB2⟩ := hB
        obtain ⟨hP, hD⟩ := wd_post hFc ht hB2
        exact vx_out (fun x h => (hno x h).elim) hlocks hq9 hce hcl (fun t2 ht2 hA2 => ⟨S, t0, ⟨(el_in (by decide) hEc13), wd_end hP hK hD ht2 hA2⟩, hS.F ht2⟩) hS.2.2 (Nat.le_of_ble_eq_true rfl) (Nat.le_of_ble_eq_true rfl)
      · have c14 := hw
        obtain ⟨hP, hD⟩ := wd_post hFc ht hB
        generalize H1 = H at hP hS ⊢
        refine lv_aload_n hx hb dX9_change_15 rfl (lv_at hl 0 rfl) ?_
        have F15 := ((hW.at h_o1 List.not_mem_nil).to_9 h_o1.2.1).F6
        obtain ⟨k16, gk16, hk16⟩ := wGt (cy := cy) X S h_o1.1 h_o1.2.1
        simp only [kE, F15.1] at hk16
        refine va_get (D := D) (ci := 13) (v := .ref (S.f o1 6)) (C := RX9) (T := TX9) (N := 11) hx hb hts hi_X9_change_X9 hown hK hP k16 hk16 rfl 6 (by decide) (hts (.fieldLink RX9 30 "Hobhouse" "box" "LHobhouse$Box;") (by decide +kernel)) (fun _ h9 => h9) rfl dX9_change_16 ?_
        refine lv_iload_n hx hb dX9_change_19 rfl (lv_at hl 1 rfl) ?_
        refine lv_i2l hx hb dX9_change_20 rfl ?_
        refine lv_iload_n hx hb dX9_change_21 rfl (lv_at hl 2 rfl) ?_
        refine lv_i2l hx hb dX9_change_22 rfl ?_
        have hFc := free_all hD hS hA
        obtain ⟨k17, gk17, hk17⟩ := wGt (cy := cy) X S F15.2.1 F15.2.2.1
        refine va_callv (va_runV (As := [.long x1.toInt64, .long x2.toInt64]) (rest := []) ⟨hx, hb, hml, hown, hts⟩ (c_X0_search l (cy := cy) (X := X) (D := D) S _ (S.f o1 6) F15.2 x1.toInt64 x2.toInt64 (hW)) (cwV 2 hts gX9_change_X0_search rfl rfl rfl hd_X0_search ⟨Nat.le_of_ble_eq_true rfl, Nat.le_of_ble_eq_true rfl⟩) (pV (va_recv hK hP (q := (RX0, TX0, 7)) (ci := 4) (q0 := k17) rfl hk17) hP hK hD hN) rfl rfl hl.1 rfl (lv_room (Nat.le_of_ble_eq_true rfl)) dX9_change_23 ⟨Nat.le_of_ble_eq_true rfl, Nat.le_of_ble_eq_true rfl⟩) hS (fun q _ h => hFc q h) hFc (fun u t H1 locs ht hvm hw hB hz1 hk1 hS => ?_)
        have w19 := hw
        obtain ⟨hP, hD⟩ := wd_post hFc ht hB
        generalize H1 = H at hP hS ⊢
        obtain ⟨S20, rfl⟩ : ∃ z, z = u := ⟨_, rfl⟩
        have t21 : stp [(0, 3), (0, 4), (0, 5), (0, 6), (17, 100)] [] [] S S20 := t0.tr w19 (by decide) (fun _ q => absurd q List.not_mem_nil)
        have xe22 : ext S S20 := w19.x
        refine lv_aload_n hx hb dX9_change_26 rfl (lv_at hl 0 rfl) ?_
        obtain ⟨k23, gk23, hk23⟩ := wGt (cy := cy) X S20 (xe22.A h_o1).1 (xe22.A h_o1).2.1
        simp only [kE, (xe22.F h_o1 (by decide) F15.1)] at hk23
        refine va_get (D := D) (ci := 13) (v := .ref (S.f o1 6)) (C := RX9) (T := TX9) (N := 11) hx hb hts hi_X9_change_X9 hown hK hP k23 hk23 rfl 6 (by decide) (hts (.fieldLink RX9 30 "Hobhouse" "box" "LHobhouse$Box;") (by decide +kernel)) (fun _ h9 => h9) rfl dX9_change_27 ?_
        refine lv_iload_n hx hb dX9_change_30 rfl (lv_at hl 3 rfl) ?_
        have hFc := free_all hD hS hA
        obtain ⟨k24, gk24, hk24⟩ := wGt (cy := cy) X S20 (xe22.A F15.2).1 (xe22.A F15.2).2.1
        refine va_calli (va_runV (As := [.int x3]) (rest := []) ⟨hx, hb, hml, hown, hts⟩ (c_X0_bestWheel l (cy := cy) (X := X) (D := D) S20 _ (S.f o1 6) (xe22.A F15.2) x3 (t21.w)) (cwV 1 hts gX9_change_X0_bestWheel rfl rfl rfl hd_X0_bestWheel ⟨Nat.le_of_ble_eq_true rfl, Nat.le_of_ble_eq_true rfl⟩) (pV (va_recv hK hP (q := (RX0, TX0, 7)) (ci := 4) (q0 := k24) rfl hk24) hP hK hD hN) rfl rfl hl.1 rfl (lv_room (Nat.le_of_ble_eq_true rfl)) dX9_change_31 ⟨Nat.le_of_ble_eq_true rfl, Nat.le_of_ble_eq_true rfl⟩) hS (fun q _ h => hFc q h) hFc (fun r25 u t H1 locs ht hvm hw hB hz1 hk1 hS => ?_)
        have c26 := hw
        obtain ⟨hP, hD⟩ := wd_post hFc ht hB
        generalize H1 = H at hP hS ⊢
        obtain rfl : f_X0_bestWheel S20 (S.f o1 6) x3 = r25 := c26.symm
        refine vx_ret ?_
        refine W.widen (k := 4) (n := 24) (Nat.le_of_ble_eq_true rfl) (Nat.le_of_ble_eq_true rfl) ?_
        exact W.iret (v := f_X0_bestWheel S20 (S.f o1 6) x3) hx hb hr (fun t ht hW9 => ⟨⟨f_X0_bestWheel S20 (S.f o1 6) x3, S20, rfl, t21, wd_end hP hK hD ht hW9.alike⟩, hS.F ht⟩) hS.2.2 dX9_change_34 hlocks
theorem hi_X9_meets_X9 : ∀ w ∈ u_ws RX9 TX9 11, w ∈ wsX9_meets := by decide +kernel
theorem hd_X9_meets : yX9_meets.cls = RX9 ∧ yX9_meets.cls ≠ "java/lang/invoke/MethodHandle" ∧ yX9_meets.cls ≠ "java/lang/invoke/VarHandle" ∧ (parseMethodDescriptor yX9_meets.desc).map (fun d => d.parameters.length) = some 3 := by decide +kernel
set_option maxHeartbeats 4000000 in
set_option maxRecDepth 100000 in
theorem c_X9_meets (l : Launch) (hst : l.stackTraces = false) {D : va_G} {cy : Nat → ClassId} {X : va_W} (S : wPS) (sz : Nat) (o1 : Nat) (h_o1 : isA S o1 9) (x1 : Int32) (x2 : Int32) (x3 : Int32) (hW : wtB S [])  : vx_Met l yX9_meets wsX9_meets ({ frames := 8, cells := 4, slots := 24, locals := 125 }) (va_Pc [.ref o1, .int x1, .int x2, .int x3] (fun U => U.heap.size = sz ∧ WD D cy X (fun _ => True) S U ∧ NW U ∧ TH (va_A (X ++ PL cy S) sz) U)) (va_Qi (fun r (u : wPS) => stp [(0, 3), (0, 4), (0, 5), (0, 6), (17, 100)] [] [] S u) (fun u t => WD D cy X (va_A (X ++ PL cy S) sz) u t) (va_A (X ++ PL cy S) sz)) (vx_X (fun (u : wPS) => stp [(0, 3), (0, 4), (0, 5), (0, 6), (17, 100)] [] [] S u) (fun E u t => E ∈ ["java/lang/IllegalArgumentException", "java/util/NoSuchElementException"] ∧ WD D cy X (va_A (X ++ PL cy S) sz) u t) (va_A (X ++ PL cy S) sz)) 4 24 (va_A (X ++ PL cy S) sz) := by
  refine vx_ofW (cc := cX9_meets) (maxL := 4) (ret := (some .boolean)) (by decide) rfl ?_
  intro p e s m args below meth c s₁ B hml hno hv
  obtain ⟨rfl, hsz, ⟨hP, hK, hD0⟩, hN, hTH⟩ := hv
  have hx := B.exec
  have hb := B.bytes
  have hr := B.returns
  have hts := atoms_spec (ws := wsX9_meets) B.pre
  have hown : s.vm.findClass RX9 = some m.cls := findClass_of_methodNamed (x := yX9_meets) B.named
  have hlocks := B.notSynchronized
  subst hsz
  have hD := hD0.self (sz := s.heap.size)
  generalize hAe : va_A (X ++ PL cy S) s.heap.size = A at hD hTH ⊢
  have hA : ∀ q : Nat, s.heap.size ≤ q → A q := fun q h => by rw [← hAe]; exact Or.inr h
  have hS : va_S A s.heap s.heap [] := va_S.rf
  have hl := lv_entry ([.ref o1, .int x1, .int x2, .int x3]) (n := 4) (Nat.le_of_ble_eq_true rfl)
  rw [lg_entry_eq]
  generalize (lg_sl ([.ref o1, .int x1, .int x2, .int x3]) ++ List.replicate (4 - (lg_sl ([.ref o1, .int x1, .int x2, .int x3])).length) Slot.unset).toArray = ls at hl ⊢
  have hl : lv_has ls 4 [(0, .ref o1), (1, .int x1), (2, .int x2), (3, .int x3)] := hl
  have t0 : stp [(0, 3), (0, 4), (0, 5), (0, 6), (17, 100)] [] [] S S := stp.rf hW
  refine lv_iload_n hx hb dX9_meets_0 rfl (lv_at hl 1 rfl) ?_
  refine lv_iload_n hx hb dX9_meets_1 rfl (lv_at hl 2 rfl) ?_
  have hFc := free_all hD hS hA
  refine vx_callv (vx_runS (As := [.int x1, .int x2]) (rest := []) ⟨hx, hb, hml, hown, hts⟩ (c_X9_needRatio l hst (cy := cy) (X := X) (D := D) S _ x1 x2) (cwS 2 hts gX9_meets_X9_needRatio rfl rfl rfl hd_X9_needRatio ⟨Nat.le_of_ble_eq_true rfl, Nat.le_of_ble_eq_true rfl⟩) (pSt hP hK hD hN hTH hS hFc) rfl rfl hl.1 rfl (lv_room (Nat.le_of_ble_eq_true rfl)) dX9_meets_2 ⟨Nat.le_of_ble_eq_true rfl, Nat.le_of_ble_eq_true rfl⟩) hS (fun q _ h => hFc q h) hFc (fun q _ h => hFc q h) (fun E ce q9 u t H1 locs ht hvm hw hB hz1 hk1 hS hq9 hce hcl => ?_) (fun u t H1 locs ht hvm hw hB hz1 hk1 hS => ?_)
  · obtain ⟨c2, hEc2, hB2⟩ := hB
    obtain ⟨hP, hD⟩ := wd_post hFc ht hB2
    exact vx_out (fun x h => (hno x h).elim) hlocks hq9 hce hcl (fun t2 ht2 hA2 => ⟨S, t0, ⟨(el_in (by decide) hEc2), wd_end hP hK hD ht2 hA2⟩, hS.F ht2⟩) hS.2.2 (Nat.le_of_ble_eq_true rfl) (Nat.le_of_ble_eq_true rfl)
  · have c3 := hw
    obtain ⟨hP, hD⟩ := wd_post hFc ht hB
    generalize H1 = H at hP hS ⊢
    have i4 := nq_i c3
    refine lv_iload_n hx hb dX9_meets_5 rfl (lv_at hl 3 rfl) ?_
    refine lv_iconst (v := 0) hx hb dX9_meets_6 (by decide) ?_
    refine lv_ldc (own := RX9) (v := 999999) hx hb hown (hts (.constant RX9 244 (999999)) (by decide +kernel)) dX9_meets_7 ?_
    have l32_0 : (0 : Int32).toInt = 0 := rfl
    have l32_999999 : (999999 : Int32).toInt = 999999 := rfl
    have hFc := free_all hD hS hA
    refine vx_callv (vx_runS (As := [.int x3, .int (0 : Int32), .int (999999 : Int32)]) (rest := []) ⟨hx, hb, hml, hown, hts⟩ (c_X9_needRange l hst (cy := cy) (X := X) (D := D) S _ x3 (0 : Int32) (999999 : Int32)) (cwS 3 hts gX9_meets_X9_needRange rfl rfl rfl hd_X9_needRange ⟨Nat.le_of_ble_eq_true rfl, Nat.le_of_ble_eq_true rfl⟩) (pSt hP hK hD hN hTH hS hFc) rfl rfl hl.1 rfl (lv_room (Nat.le_of_ble_eq_true rfl)) dX9_meets_9 ⟨Nat.le_of_ble_eq_true rfl, Nat.le_of_ble_eq_true rfl⟩) hS (fun q _ h => hFc q h) hFc (fun q _ h => hFc q h) (fun E ce q9 u t H1 locs ht hvm hw hB hz1 hk1 hS hq9 hce hcl => ?_) (fun u t H1 locs ht hvm hw hB hz1 hk1 hS => ?_)
    · obtain ⟨c6, hEc6, hB2⟩ := hB
      obtain ⟨hP, hD⟩ := wd_post hFc ht hB2
      exact vx_out (fun x h => (hno x h).elim) hlocks hq9 hce hcl (fun t2 ht2 hA2 => ⟨S, t0, ⟨(el_in (by decide) hEc6), wd_end hP hK hD ht2 hA2⟩, hS.F ht2⟩) hS.2.2 (Nat.le_of_ble_eq_true rfl) (Nat.le_of_ble_eq_true rfl)
    · have c7 := hw
      obtain ⟨hP, hD⟩ := wd_post hFc ht hB
      generalize H1 = H at hP hS ⊢
      have i8 := nr_i c7
      have i8l := i8.1
      have i8h := i8.2
      have l9 : (0 : Int32).toInt = 0 := rfl
      have l10 : (999999 : Int32).toInt = 999999 := rfl
      refine lv_aload_n hx hb dX9_meets_12 rfl (lv_at hl 0 rfl) ?_
      have hFc := free_all hD hS hA
      obtain ⟨k11, gk11, hk11⟩ := wGt (cy := cy) X S h_o1.1 h_o1.2.1
      refine vx_callv (vx_runV (As := []) (rest := []) ⟨hx, hb, hml, hown, hts⟩ (c_X9_needFourWheels l hst (cy := cy) (X := X) (D := D) S _ o1 h_o1 (hW)) (cwV 0 hts gX9_meets_X9_needFourWheels rfl rfl rfl hd_X9_needFourWheels ⟨Nat.le_of_ble_eq_true rfl, Nat.le_of_ble_eq_true rfl⟩) (pVt (va_recv hK hP (q := (RX9, TX9, 11)) (ci := 13) (q0 := k11) rfl hk11) hP hK hD hN hTH hS hFc) rfl rfl hl.1 rfl (lv_room (Nat.le_of_ble_eq_true rfl)) dX9_meets_13 ⟨Nat.le_of_ble_eq_true rfl, Nat.le_of_ble_eq_true rfl⟩) hS (fun q _ h => hFc q h) hFc (fun q _ h => hFc q h) (fun E ce q9 u t H1 locs ht hvm hw hB hz1 hk1 hS hq9 hce hcl => ?_) (fun u t H1 locs ht hvm hw hB hz1 hk1 hS => ?_)
      · obtain ⟨c13, hEc13, hB2⟩ := hB
        obtain ⟨hP, hD⟩ := wd_post hFc ht hB2
        exact vx_out (fun x h => (hno x h).elim) hlocks hq9 hce hcl (fun t2 ht2 hA2 => ⟨S, t0, ⟨(el_in (by decide) hEc13), wd_end hP hK hD ht2 hA2⟩, hS.F ht2⟩) hS.2.2 (Nat.le_of_ble_eq_true rfl) (Nat.le_of_ble_eq_true rfl)
      · have c14 := hw
        obtain ⟨hP, hD⟩ := wd_post hFc ht hB
        generalize H1 = H at hP hS ⊢
        refine lv_aload_n hx hb dX9_meets_16 rfl (lv_at hl 0 rfl) ?_
        have F15 := ((hW.at h_o1 List.not_mem_nil).to_9 h_o1.2.1).F6
        obtain ⟨k16, gk16, hk16⟩ := wGt (cy := cy) X S h_o1.1 h_o1.2.1
        simp only [kE, F15.1] at hk16
        refine va_get (D := D) (ci := 13) (v := .ref (S.f o1 6)) (C := RX9) (T := TX9) (N := 11) hx hb hts hi_X9_meets_X9 hown hK hP k16 hk16 rfl 6 (by decide) (hts (.fieldLink RX9 30 "Hobhouse" "box" "LHobhouse$Box;") (by decide +kernel)) (fun _ h9 => h9) rfl dX9_meets_17 ?_
        refine lv_iload_n hx hb dX9_meets_20 rfl (lv_at hl 1 rfl) ?_
        refine lv_i2l hx hb dX9_meets_21 rfl ?_
        refine lv_iload_n hx hb dX9_meets_22 rfl (lv_at hl 2 rfl) ?_
        refine lv_i2l hx hb dX9_meets_23 rfl ?_
        have hFc := free_all hD hS hA
        obtain ⟨k17, gk17, hk17⟩ := wGt (cy := cy) X S F15.2.1 F15.2.2.1
        refine va_callv (va_runV (As := [.long x1.toInt64, .long x2.toInt64]) (rest := []) ⟨hx, hb, hml, hown, hts⟩ (c_X0_search l (cy := cy) (X := X) (D := D) S _ (S.f o1 6) F15.2 x1.toInt64 x2.toInt64 (hW)) (cwV 2 hts gX9_meets_X0_search rfl rfl rfl hd_X0_search ⟨Nat.le_of_ble_eq_true rfl, Nat.le_of_ble_eq_true rfl⟩) (pV (va_recv hK hP (q := (RX0, TX0, 7)) (ci := 4) (q0 := k17) rfl hk17) hP hK hD hN) rfl rfl hl.1 rfl (lv_room (Nat.le_of_ble_eq_true rfl)) dX9_meets_24 ⟨Nat.le_of_ble_eq_true rfl, Nat.le_of_ble_eq_true rfl⟩) hS (fun q _ h => hFc q h) hFc (fun u t H1 locs ht hvm hw hB hz1 hk1 hS => ?_)
        have w19 := hw
        obtain ⟨hP, hD⟩ := wd_post hFc ht hB
        generalize H1 = H at hP hS ⊢
        obtain ⟨S20, rfl⟩ : ∃ z, z = u := ⟨_, rfl⟩
        have t21 : stp [(0, 3), (0, 4), (0, 5), (0, 6), (17, 100)] [] [] S S20 := t0.tr w19 (by decide) (fun _ q => absurd q List.not_mem_nil)
        have xe22 : ext S S20 := w19.x
        refine lv_aload_n hx hb dX9_meets_27 rfl (lv_at hl 0 rfl) ?_
        obtain ⟨k23, gk23, hk23⟩ := wGt (cy := cy) X S20 (xe22.A h_o1).1 (xe22.A h_o1).2.1
        simp only [kE, (xe22.F h_o1 (by decide) F15.1)] at hk23
        refine va_get (D := D) (ci := 13) (v := .ref (S.f o1 6)) (C := RX9) (T := TX9) (N := 11) hx hb hts hi_X9_meets_X9 hown hK hP k23 hk23 rfl 6 (by decide) (hts (.fieldLink RX9 30 "Hobhouse" "box" "LHobhouse$Box;") (by decide +kernel)) (fun _ h9 => h9) rfl dX9_meets_28 ?_
        refine lv_iload_n hx hb dX9_meets_31 rfl (lv_at hl 3 rfl) ?_
        have hFc := free_all hD hS hA
        obtain ⟨k24, gk24, hk24⟩ := wGt (cy := cy) X S20 (xe22.A F15.2).1 (xe22.A F15.2).2.1
        refine va_calli (va_runV (As := [.int x3]) (rest := []) ⟨hx, hb, hml, hown, hts⟩ (c_X0_isMet l (cy := cy) (X := X) (D := D) S20 _ (S.f o1 6) (xe22.A F15.2) x3) (cwV 1 hts gX9_meets_X0_isMet rfl rfl rfl hd_X0_isMet ⟨Nat.le_of_ble_eq_true rfl, Nat.le_of_ble_eq_true rfl⟩) (pV (va_recv hK hP (q := (RX0, TX0, 7)) (ci := 4) (q0 := k24) rfl hk24) hP hK hD hN) rfl rfl hl.1 rfl (lv_room (Nat.le_of_ble_eq_true rfl)) dX9_meets_32 ⟨Nat.le_of_ble_eq_true rfl, Nat.le_of_ble_eq_true rfl⟩) hS (fun q _ h => hFc q h) hFc (fun r25 u t H1 locs ht hvm hw hB hz1 hk1 hS => ?_)
        have c26 := hw
        obtain ⟨hP, hD⟩ := wd_post hFc ht hB
        generalize H1 = H at hP hS ⊢
        obtain rfl : f_X0_isMet S20 (S.f o1 6) x3 = r25 := c26.symm
        refine vx_ret ?_
        refine W.widen (k := 4) (n := 24) (Nat.le_of_ble_eq_true rfl) (Nat.le_of_ble_eq_true rfl) ?_
        exact W.zret (v := f_X0_isMet S20 (S.f o1 6) x3) hx hb hr (f_X0_isMet_b S20 (S.f o1 6) x3) (fun t ht hW9 => ⟨⟨f_X0_isMet S20 (S.f o1 6) x3, S20, rfl, t21, wd_end hP hK hD ht hW9.alike⟩, hS.F ht⟩) hS.2.2 dX9_meets_35 hlocks
theorem hi_X9_indexes_X2 : ∀ w ∈ u_ws RX2 TX2 20, w ∈ wsX9_indexes := by decide +kernel
theorem hi_X9_indexes_X3 : ∀ w ∈ u_ws RX3 TX3 6, w ∈ wsX9_indexes := by decide +kernel
theorem hi_X9_indexes_X9 : ∀ w ∈ u_ws RX9 TX9 11, w ∈ wsX9_indexes := by decide +kernel
theorem hd_X9_indexes : yX9_indexes.cls = RX9 ∧ yX9_indexes.cls ≠ "java/lang/invoke/MethodHandle" ∧ yX9_indexes.cls ≠ "java/lang/invoke/VarHandle" ∧ (parseMethodDescriptor yX9_indexes.desc).map (fun d => d.parameters.length) = some 3 := by decide +kernel
set_option maxHeartbeats 4000000 in
set_option maxRecDepth 100000 in
theorem c_X9_indexes (l : Launch) (hst : l.stackTraces = false) {D : va_G} {cy : Nat → ClassId} {X : va_W} (S : wPS) (sz : Nat) (o1 : Nat) (h_o1 : isA S o1 9) (x1 : Int32) (x2 : Int32) (x3 : Int32) (hW : wtB S [])  : vx_Met l yX9_indexes wsX9_indexes ({ frames := 7, cells := 4, slots := 24, locals := 104 }) (va_Pc [.ref o1, .int x1, .int x2, .int x3] (fun U => U.heap.size = sz ∧ WD D cy X (fun _ => True) S U ∧ NW U ∧ TH (va_A (X ++ PL cy S) sz) U)) (va_Qi (fun r (u : wPS) => stp [(0, 3), (0, 4), (0, 5), (0, 6), (17, 100)] [] [] S u) (fun u t => WD D cy X (va_A (X ++ PL cy S) sz) u t) (va_A (X ++ PL cy S) sz)) (vx_X (fun (u : wPS) => stp [(0, 3), (0, 4), (0, 5), (0, 6), (17, 100)] [] [] S u) (fun E u t => E ∈ ["java/lang/IllegalArgumentException", "java/lang/IndexOutOfBoundsException", "java/util/NoSuchElementException"] ∧ WD D cy X (va_A (X ++ PL cy S) sz) u t) (va_A (X ++ PL cy S) sz)) 4 24 (va_A (X ++ PL cy S) sz) := by
  refine vx_ofW (cc := cX9_indexes) (maxL := 6) (ret := (some .boolean)) (by decide) rfl ?_
  intro p e s m args below meth c s₁ B hml hno hv
  obtain ⟨rfl, hsz, ⟨hP, hK, hD0⟩, hN, hTH⟩ := hv
  have hx := B.exec
  have hb := B.bytes
  have hr := B.returns
  have hts := atoms_spec (ws := wsX9_indexes) B.pre
  have hown : s.vm.findClass RX9 = some m.cls := findClass_of_methodNamed (x := yX9_indexes) B.named
  have hlocks := B.notSynchronized
  subst hsz
  have hD := hD0.self (sz := s.heap.size)
  generalize hAe : va_A (X ++ PL cy S) s.heap.size = A at hD hTH ⊢
  have hA : ∀ q : Nat, s.heap.size ≤ q → A q := fun q h => by rw [← hAe]; exact Or.inr h
  have hS : va_S A s.heap s.heap [] := va_S.rf
  have hl := lv_entry ([.ref o1, .int x1, .int x2, .int x3]) (n := 6) (Nat.le_of_ble_eq_true rfl)
  rw [lg_entry_eq]
  generalize (lg_sl ([.ref o1, .int x1, .int x2, .int x3]) ++ List.replicate (6 - (lg_sl ([.ref o1, .int x1, .int x2, .int x3])).length) Slot.unset).toArray = ls at hl ⊢
  have hl : lv_has ls 6 [(0, .ref o1), (1, .int x1), (2, .int x2), (3, .int x3)] := hl
  have t0 : stp [(0, 3), (0, 4), (0, 5), (0, 6), (17, 100)] [] [] S S := stp.rf hW
  refine lv_aload_n hx hb dX9_indexes_0 rfl (lv_at hl 0 rfl) ?_
  refine lv_iload_n hx hb dX9_indexes_1 rfl (lv_at hl 1 rfl) ?_
  have hFc := free_all hD hS hA
  obtain ⟨k1, gk1, hk1⟩ := wGt (cy := cy) X S h_o1.1 h_o1.2.1
  refine vx_callq (vx_runV (As := [.int x1]) (rest := []) ⟨hx, hb, hml, hown, hts⟩ (c_X9_gearAt l hst (cy := cy) (X := X) (D := D) S _ o1 h_o1 x1 (hW)) (cwV 1 hts gX9_indexes_X9_gearAt rfl rfl rfl hd_X9_gearAt ⟨Nat.le_of_ble_eq_true rfl, Nat.le_of_ble_eq_true rfl⟩) (pVt (va_recv hK hP (q := (RX9, TX9, 11)) (ci := 13) (q0 := k1) rfl hk1) hP hK hD hN hTH hS hFc) rfl rfl hl.1 rfl (lv_room (Nat.le_of_ble_eq_true rfl)) dX9_indexes_2 ⟨Nat.le_of_ble_eq_true rfl, Nat.le_of_ble_eq_true rfl⟩) hS (fun q _ h => hFc q h) hFc (fun q _ h => hFc q h) (fun E ce q9 u t H1 locs ht hvm hw hB hz1 hk1 hS hq9 hce hcl => ?_) (fun r2 u t H1 locs ht hvm hw hB hz1 hk1 hS => ?_)
  · obtain ⟨c3, hEc3, hB2⟩ := hB
    obtain ⟨hP, hD⟩ := wd_post hFc ht hB2
    exact vx_out (fun x h => (hno x h).elim) hlocks hq9 hce hcl (fun t2 ht2 hA2 => ⟨S, t0, ⟨(el_in (by decide) hEc3), wd_end hP hK hD ht2 hA2⟩, hS.F ht2⟩) hS.2.2 (Nat.le_of_ble_eq_true rfl) (Nat.le_of_ble_eq_true rfl)
  · obtain ⟨r2, rfl, c4, o5⟩ := hw
    obtain ⟨hP, hD⟩ := wd_post hFc ht hB
    generalize H1 = H at hP hS ⊢
    refine W.eq (g2 := F0 m 5 ls [.ref r2]) rfl ?_
    refine lv_astore (lv' := [(4, .ref r2), (0, .ref o1), (1, .int x1), (2, .int x2), (3, .int x3)]) hx hb dX9_indexes_5 hl (by decide) rfl (fun ls hl => ?_)
    refine lv_aload_n hx hb dX9_indexes_7 rfl (lv_at hl 1 rfl) ?_
    refine lv_iload_n hx hb dX9_indexes_8 rfl (lv_at hl 3 rfl) ?_
    have hFc := free_all hD hS hA
    obtain ⟨k6, gk6, hk6⟩ := wGt (cy := cy) X S h_o1.1 h_o1.2.1
    refine vx_callq (vx_runV (As := [.int x2]) (rest := []) ⟨hx, hb, hml, hown, hts⟩ (c_X9_hobAt l hst (cy := cy) (X := X) (D := D) S _ o1 h_o1 x2 (hW)) (cwV 1 hts gX9_indexes_X9_hobAt rfl rfl rfl hd_X9_hobAt ⟨Nat.le_of_ble_eq_true rfl, Nat.le_of_ble_eq_true rfl⟩) (pVt (va_recv hK hP (q := (RX9, TX9, 11)) (ci := 13) (q0 := k6) rfl hk6) hP hK hD hN hTH hS hFc) rfl rfl hl.1 rfl (lv_room (Nat.le_of_ble_eq_true rfl)) dX9_indexes_9 ⟨Nat.le_of_ble_eq_true rfl, Nat.le_of_ble_eq_true rfl⟩) hS (fun q _ h => hFc q h) hFc (fun q _ h => hFc q h) (fun E ce q9 u t H1 locs ht hvm hw hB hz1 hk1 hS hq9 hce hcl => ?_) (fun r7 u t H1 locs ht hvm hw hB hz1 hk1 hS => ?_)
    · obtain ⟨c8, hEc8, hB2⟩ := hB
      obtain ⟨hP, hD⟩ := wd_post hFc ht hB2
      exact vx_out (fun x h => (hno x h).elim) hlocks hq9 hce hcl (fun t2 ht2 hA2 => ⟨S, t0, ⟨(el_in (by decide) hEc8), wd_end hP hK hD ht2 hA2⟩, hS.F ht2⟩) hS.2.2 (Nat.le_of_ble_eq_true rfl) (Nat.le_of_ble_eq_true rfl)
    · obtain ⟨r7, rfl, c9, o10⟩ := hw
      obtain ⟨hP, hD⟩ := wd_post hFc ht hB
      generalize H1 = H at hP hS ⊢
      refine W.eq (g2 := F0 m 12 ls [.ref r7]) rfl ?_
      refine lv_astore (lv' := [(5, .ref r7), (4, .ref r2), (0, .ref o1), (1, .int x1), (2, .int x2), (3, .int x3)]) hx hb dX9_indexes_12 hl (by decide) rfl (fun ls hl => ?_)
      refine lv_iload_n hx hb dX9_indexes_14 rfl (lv_at hl 5 rfl) ?_
      refine lv_iconst (v := 0) hx hb dX9_indexes_15 (by decide) ?_
      refine lv_ldc (own := RX9) (v := 999999) hx hb hown (hts (.constant RX9 244 (999999)) (by decide +kernel)) dX9_indexes_16 ?_
      have l32_0 : (0 : Int32).toInt = 0 := rfl
      have l32_999999 : (999999 : Int32).toInt = 999999 := rfl
      have hFc := free_all hD hS hA
      refine vx_callv (vx_runS (As := [.int x3, .int (0 : Int32), .int (999999 : Int32)]) (rest := []) ⟨hx, hb, hml, hown, hts⟩ (c_X9_needRange l hst (cy := cy) (X := X) (D := D) S _ x3 (0 : Int32) (999999 : Int32)) (cwS 3 hts gX9_indexes_X9_needRange rfl rfl rfl hd_X9_needRange ⟨Nat.le_of_ble_eq_true rfl, Nat.le_of_ble_eq_true rfl⟩) (pSt hP hK hD hN hTH hS hFc) rfl rfl hl.1 rfl (lv_room (Nat.le_of_ble_eq_true rfl)) dX9_indexes_18 ⟨Nat.le_of_ble_eq_true rfl, Nat.le_of_ble_eq_true rfl⟩) hS (fun q _ h => hFc q h) hFc (fun q _ h => hFc q h) (fun E ce q9 u t H1 locs ht hvm hw hB hz1 hk1 hS hq9 hce hcl => ?_) (fun u t H1 locs ht hvm hw hB hz1 hk1 hS => ?_)
      · obtain ⟨c12, hEc12, hB2⟩ := hB
        obtain ⟨hP, hD⟩ := wd_post hFc ht hB2
        exact vx_out (fun x h => (hno x h).elim) hlocks hq9 hce hcl (fun t2 ht2 hA2 => ⟨S, t0, ⟨(el_in (by decide) hEc12), wd_end hP hK hD ht2 hA2⟩, hS.F ht2⟩) hS.2.2 (Nat.le_of_ble_eq_true rfl) (Nat.le_of_ble_eq_true rfl)
      · have c13 := hw
        obtain ⟨hP, hD⟩ := wd_post hFc ht hB
        generalize H1 = H at hP hS ⊢
        have i14 := nr_i c13
        have i14l := i14.1
        have i14h := i14.2
        have l15 : (0 : Int32).toInt = 0 := rfl
        have l16 : (999999 : Int32).toInt = 999999 := rfl
        refine lv_aload_n hx hb dX9_indexes_21 rfl (lv_at hl 2 rfl) ?_
        have hFc := free_all hD hS hA
        obtain ⟨k17, gk17, hk17⟩ := wGt (cy := cy) X S h_o1.1 h_o1.2.1
        refine vx_callv (vx_runV (As := []) (rest := []) ⟨hx, hb, hml, hown, hts⟩ (c_X9_needFourWheels l hst (cy := cy) (X := X) (D := D) S _ o1 h_o1 (hW)) (cwV 0 hts gX9_indexes_X9_needFourWheels rfl rfl rfl hd_X9_needFourWheels ⟨Nat.le_of_ble_eq_true rfl, Nat.le_of_ble_eq_true rfl⟩) (pVt (va_recv hK hP (q := (RX9, TX9, 11)) (ci := 13) (q0 := k17) rfl hk17) hP hK hD hN hTH hS hFc) rfl rfl hl.1 rfl (lv_room (Nat.le_of_ble_eq_true rfl)) dX9_indexes_22 ⟨Nat.le_of_ble_eq_true rfl, Nat.le_of_ble_eq_true rfl⟩) hS (fun q _ h => hFc q h) hFc (fun q _ h => hFc q h) (fun E ce q9 u t H1 locs ht hvm hw hB hz1 hk1 hS hq9 hce hcl => ?_) (fun u t H1 locs ht hvm hw hB hz1 hk1 hS => ?_)
        · obtain ⟨c19, hEc19, hB2⟩ := hB
          obtain ⟨hP, hD⟩ := wd_post hFc ht hB2
          exact vx_out (fun x h => (hno x h).elim) hlocks hq9 hce hcl (fun t2 ht2 hA2 => ⟨S, t0, ⟨(el_in (by decide) hEc19), wd_end hP hK hD ht2 hA2⟩, hS.F ht2⟩) hS.2.2 (Nat.le_of_ble_eq_true rfl) (Nat.le_of_ble_eq_true rfl)
        · have c20 := hw
          obtain ⟨hP, hD⟩ := wd_post hFc ht hB
          generalize H1 = H at hP hS ⊢
          refine lv_aload_n hx hb dX9_indexes_25 rfl (lv_at hl 2 rfl) ?_
          have F21 := ((hW.at h_o1 List.not_mem_nil).to_9 h_o1.2.1).F6
          obtain ⟨k22, gk22, hk22⟩ := wGt (cy := cy) X S h_o1.1 h_o1.2.1
          simp only [kE, F21.1] at hk22
          refine va_get (D := D) (ci := 13) (v := .ref (S.f o1 6)) (C := RX9) (T := TX9) (N := 11) hx hb hts hi_X9_indexes_X9 hown hK hP k22 hk22 rfl 6 (by decide) (hts (.fieldLink RX9 30 "Hobhouse" "box" "LHobhouse$Box;") (by decide +kernel)) (fun _ h9 => h9) rfl dX9_indexes_26 ?_
          refine lv_aload_n hx hb dX9_indexes_29 rfl (lv_at hl 2 rfl) ?_
          obtain ⟨k23, gk23, hk23⟩ := wGt (cy := cy) X S h_o1.1 h_o1.2.1
          refine va_get (D := D) (ci := 13) (v := .int (S.I o1 9)) (C := RX9) (T := TX9) (N := 11) hx hb hts hi_X9_indexes_X9 hown hK hP k23 hk23 rfl 9 (by decide) (hts (.fieldLink RX9 48 "Hobhouse" "constant" "I") (by decide +kernel)) (fun _ h9 => h9) rfl dX9_indexes_30 ?_
          refine lv_aload hx hb dX9_indexes_33 (lv_at hl 0 rfl) ?_
          obtain ⟨k24, gk24, hk24⟩ := wGt (cy := cy) X S o10.1 o10.2.1
          refine va_get (D := D) (ci := 7) (v := .int (S.I r7 1)) (C := RX3) (T := TX3) (N := 6) hx hb hts hi_X9_indexes_X3 hown hK hP k24 hk24 rfl 1 (by decide) (hts (.fieldLink RX9 261 "Hobhouse$Hob" "starts" "I") (by decide +kernel)) (fun _ h9 => h9) rfl dX9_indexes_35 ?_
          refine lv_imul hx hb dX9_indexes_38 ?_
          refine lv_i2l hx hb dX9_indexes_39 rfl ?_
          refine lv_aload hx hb dX9_indexes_40 (lv_at hl 1 rfl) ?_
          obtain ⟨k25, gk25, hk25⟩ := wGt (cy := cy) X S o5.1 o5.2.1
          have i26 := ((hW.at o5 List.not_mem_nil).to_2 o5.2.1).R1
          refine va_get (D := D) (ci := 6) (v := .int (S.I r2 1)) (C := RX2) (T := TX2) (N := 20) hx hb hts hi_X9_indexes_X2 hown hK hP k25 hk25 rfl 1 (by decide) (hts (.fieldLink RX9 100 "Hobhouse$Gear" "teeth" "I") (by decide +kernel)) (fun _ h9 => h9) rfl dX9_indexes_42 ?_
          refine lv_i2l hx hb dX9_indexes_45 rfl ?_
          have hFc := free_all hD hS hA
          obtain ⟨k27, gk27, hk27⟩ := wGt (cy := cy) X S F21.2.1 F21.2.2.1
          refine va_callv (va_runV (As := [.long (((S.I o1 9) * (S.I r7 1)).toInt64), .long ((S.I r2 1).toInt64)]) (rest := []) ⟨hx, hb, hml, hown, hts⟩ (c_X0_search l (cy := cy) (X := X) (D := D) S _ (S.f o1 6) F21.2 (((S.I o1 9) * (S.I r7 1)).toInt64) ((S.I r2 1).toInt64) (hW)) (cwV 2 hts gX9_indexes_X0_search rfl rfl rfl hd_X0_search ⟨Nat.le_of_ble_eq_true rfl, Nat.le_of_ble_eq_true rfl⟩) (pV (va_recv hK hP (q := (RX0, TX0, 7)) (ci := 4) (q0 := k27) rfl hk27) hP hK hD hN) rfl rfl hl.1 rfl (lv_room (Nat.le_of_ble_eq_true rfl)) dX9_indexes_46 ⟨Nat.le_of_ble_eq_true rfl, Nat.le_of_ble_eq_true rfl⟩) hS (fun q _ h => hFc q h) hFc (fun u t H1 locs ht hvm hw hB hz1 hk1 hS => ?_)
          have w29 := hw
          obtain ⟨hP, hD⟩ := wd_post hFc ht hB
          generalize H1 = H at hP hS ⊢
          obtain ⟨S30, rfl⟩ : ∃ z, z = u := ⟨_, rfl⟩
          have t31 : stp [(0, 3), (0, 4), (0, 5), (0, 6), (17, 100)] [] [] S S30 := t0.tr w29 (by decide) (fun _ q => absurd q List.not_mem_nil)
          have xe32 : ext S S30 := w29.x
          refine lv_aload_n hx hb dX9_indexes_49 rfl (lv_at hl 2 rfl) ?_
          obtain ⟨k33, gk33, hk33⟩ := wGt (cy := cy) X S30 (xe32.A h_o1).1 (xe32.A h_o1).2.1
          simp only [kE, (xe32.F h_o1 (by decide) F21.1)] at hk33
          refine va_get (D := D) (ci := 13) (v := .ref (S.f o1 6)) (C := RX9) (T := TX9) (N := 11) hx hb hts hi_X9_indexes_X9 hown hK hP k33 hk33 rfl 6 (by decide) (hts (.fieldLink RX9 30 "Hobhouse" "box" "LHobhouse$Box;") (by decide +kernel)) (fun _ h9 => h9) rfl dX9_indexes_50 ?_
          refine lv_iload_n hx hb dX9_indexes_53 rfl (lv_at hl 5 rfl) ?_
          have hFc := free_all hD hS hA
          obtain ⟨k34, gk34, hk34⟩ := wGt (cy := cy) X S30 (xe32.A F21.2).1 (xe32.A F21.2).2.1
          refine va_calli (va_runV (As := [.int x3]) (rest := []) ⟨hx, hb, hml, hown, hts⟩ (c_X0_isMet l (cy := cy) (X := X) (D := D) S30 _ (S.f o1 6) (xe32.A F21.2) x3) (cwV 1 hts gX9_indexes_X0_isMet rfl rfl rfl hd_X0_isMet ⟨Nat.le_of_ble_eq_true rfl, Nat.le_of_ble_eq_true rfl⟩) (pV (va_recv hK hP (q := (RX0, TX0, 7)) (ci := 4) (q0 := k34) rfl hk34) hP hK hD hN) rfl rfl hl.1 rfl (lv_room (Nat.le_of_ble_eq_true rfl)) dX9_indexes_54 ⟨Nat.le_of_ble_eq_true rfl, Nat.le_of_ble_eq_true rfl⟩) hS (fun q _ h => hFc q h) hFc (fun r35 u t H1 locs ht hvm hw hB hz1 hk1 hS => ?_)
          have c36 := hw
          obtain ⟨hP, hD⟩ := wd_post hFc ht hB
          generalize H1 = H at hP hS ⊢
          obtain rfl : f_X0_isMet S30 (S.f o1 6) x3 = r35 := c36.symm
          refine vx_ret ?_
          refine W.widen (k := 4) (n := 24) (Nat.le_of_ble_eq_true rfl) (Nat.le_of_ble_eq_true rfl) ?_
          exact W.zret (v := f_X0_isMet S30 (S.f o1 6) x3) hx hb hr (f_X0_isMet_b S30 (S.f o1 6) x3) (fun t ht hW9 => ⟨⟨f_X0_isMet S30 (S.f o1 6) x3, S30, rfl, t31, wd_end hP hK hD ht hW9.alike⟩, hS.F ht⟩) hS.2.2 dX9_indexes_57 hlocks
theorem hi_X9_differs_X2 : ∀ w ∈ u_ws RX2 TX2 20, w ∈ wsX9_differs := by decide +kernel
theorem hi_X9_differs_X3 : ∀ w ∈ u_ws RX3 TX3 6, w ∈ wsX9_differs := by decide +kernel
theorem hi_X9_differs_X9 : ∀ w ∈ u_ws RX9 TX9 11, w ∈ wsX9_differs := by decide +kernel
theorem hd_X9_differs : yX9_differs.cls = RX9 ∧ yX9_differs.cls ≠ "java/lang/invoke/MethodHandle" ∧ yX9_differs.cls ≠ "java/lang/invoke/VarHandle" ∧ (parseMethodDescriptor yX9_differs.desc).map (fun d => d.parameters.length) = some 3 := by decide +kernel
set_option maxHeartbeats 4000000 in
set_option maxRecDepth 100000 in
theorem c_X9_differs (l : Launch) (hst : l.stackTraces = false) {D : va_G} {cy : Nat → ClassId} {X : va_W} (S : wPS) (sz : Nat) (o1 : Nat) (h_o1 : isA S o1 9) (x1 : Int32) (x2 : Int32) (x3 : Int32) (hW : wtB S [])  : vx_Met l yX9_differs wsX9_differs ({ frames := 7, cells := 5, slots := 30, locals := 104 }) (va_Pc [.ref o1, .int x1, .int x2, .int x3] (fun U => U.heap.size = sz ∧ WD D cy X (fun _ => True) S U ∧ NW U ∧ TH (va_A (X ++ PL cy S) sz) U)) (va_Qi (fun r (u : wPS) => stp [(0, 3), (0, 4), (0, 5), (0, 6), (17, 100)] [] [] S u) (fun u t => WD D cy X (va_A (X ++ PL cy S) sz) u t) (va_A (X ++ PL cy S) sz)) (vx_X (fun (u : wPS) => stp [(0, 3), (0, 4), (0, 5), (0, 6), (17, 100)] [] [] S u) (fun E u t => E ∈ ["java/lang/IllegalArgumentException", "java/lang/IndexOutOfBoundsException", "java/lang/UnsupportedOperationException", "java/util/NoSuchElementException"] ∧ WD D cy X (va_A (X ++ PL cy S) sz) u t) (va_A (X ++ PL cy S) sz)) 5 30 (va_A (X ++ PL cy S) sz) := by
  refine vx_ofW (cc := cX9_differs) (maxL := 6) (ret := (some .boolean)) (by decide) rfl ?_
  intro p e s m args below meth c s₁ B hml hno hv
  obtain ⟨rfl, hsz, ⟨hP, hK, hD0⟩, hN, hTH⟩ := hv
  have hx := B.exec
  have hb := B.bytes
  have hr := B.returns
  have hts := atoms_spec (ws := wsX9_differs) B.pre
  have hown : s.vm.findClass RX9 = some m.cls := findClass_of_methodNamed (x := yX9_differs) B.named
  have hlocks := B.notSynchronized
  subst hsz
  have hD := hD0.self (sz := s.heap.size)
  generalize hAe : va_A (X ++ PL cy S) s.heap.size = A at hD hTH ⊢
  have hA : ∀ q : Nat, s.heap.size ≤ q → A q := fun q h => by rw [← hAe]; exact Or.inr h
  have hS : va_S A s.heap s.heap [] := va_S.rf
  have hl := lv_entry ([.ref o1, .int x1, .int x2, .int x3]) (n := 6) (Nat.le_of_ble_eq_true rfl)
  rw [lg_entry_eq]
  generalize (lg_sl ([.ref o1, .int x1, .int x2, .int x3]) ++ List.replicate (6 - (lg_sl ([.ref o1, .int x1, .int x2, .int x3])).length) Slot.unset).toArray = ls at hl ⊢
  have hl : lv_has ls 6 [(0, .ref o1), (1, .int x1), (2, .int x2), (3, .int x3)] := hl
  have t0 : stp [(0, 3), (0, 4), (0, 5), (0, 6), (17, 100)] [] [] S S := stp.rf hW
  refine lv_aload_n hx hb dX9_differs_0 rfl (lv_at hl 0 rfl) ?_
  refine lv_iload_n hx hb dX9_differs_1 rfl (lv_at hl 1 rfl) ?_
  have hFc := free_all hD hS hA
  obtain ⟨k1, gk1, hk1⟩ := wGt (cy := cy) X S h_o1.1 h_o1.2.1
  refine vx_callq (vx_runV (As := [.int x1]) (rest := []) ⟨hx, hb, hml, hown, hts⟩ (c_X9_gearAt l hst (cy := cy) (X := X) (D := D) S _ o1 h_o1 x1 (hW)) (cwV 1 hts gX9_differs_X9_gearAt rfl rfl rfl hd_X9_gearAt ⟨Nat.le_of_ble_eq_true rfl, Nat.le_of_ble_eq_true rfl⟩) (pVt (va_recv hK hP (q := (RX9, TX9, 11)) (ci := 13) (q0 := k1) rfl hk1) hP hK hD hN hTH hS hFc) rfl rfl hl.1 rfl (lv_room (Nat.le_of_ble_eq_true rfl)) dX9_differs_2 ⟨Nat.le_of_ble_eq_true rfl, Nat.le_of_ble_eq_true rfl⟩) hS (fun q _ h => hFc q h) hFc (fun q _ h => hFc q h) (fun E ce q9 u t H1 locs ht hvm hw hB hz1 hk1 hS hq9 hce hcl => ?_) (fun r2 u t H1 locs ht hvm hw hB hz1 hk1 hS => ?_)
  · obtain ⟨c3, hEc3, hB2⟩ := hB
    obtain ⟨hP, hD⟩ := wd_post hFc ht hB2
    exact vx_out (fun x h => (hno x h).elim) hlocks hq9 hce hcl (fun t2 ht2 hA2 => ⟨S, t0, ⟨(el_in (by decide) hEc3), wd_end hP hK hD ht2 hA2⟩, hS.F ht2⟩) hS.2.2 (Nat.le_of_ble_eq_true rfl) (Nat.le_of_ble_eq_true rfl)
  · obtain ⟨r2, rfl, c4, o5⟩ := hw
    obtain ⟨hP, hD⟩ := wd_post hFc ht hB
    generalize H1 = H at hP hS ⊢
    refine W.eq (g2 := F0 m 5 ls [.ref r2]) rfl ?_
    refine lv_astore (lv' := [(4, .ref r2), (0, .ref o1), (1, .int x1), (2, .int x2), (3, .int x3)]) hx hb dX9_differs_5 hl (by decide) rfl (fun ls hl => ?_)
    refine lv_aload_n hx hb dX9_differs_7 rfl (lv_at hl 1 rfl) ?_
    refine lv_iload_n hx hb dX9_differs_8 rfl (lv_at hl 3 rfl) ?_
    have hFc := free_all hD hS hA
    obtain ⟨k6, gk6, hk6⟩ := wGt (cy := cy) X S h_o1.1 h_o1.2.1
    refine vx_callq (vx_runV (As := [.int x2]) (rest := []) ⟨hx, hb, hml, hown, hts⟩ (c_X9_hobAt l hst (cy := cy) (X := X) (D := D) S _ o1 h_o1 x2 (hW)) (cwV 1 hts gX9_differs_X9_hobAt rfl rfl rfl hd_X9_hobAt ⟨Nat.le_of_ble_eq_true rfl, Nat.le_of_ble_eq_true rfl⟩) (pVt (va_recv hK hP (q := (RX9, TX9, 11)) (ci := 13) (q0 := k6) rfl hk6) hP hK hD hN hTH hS hFc) rfl rfl hl.1 rfl (lv_room (Nat.le_of_ble_eq_true rfl)) dX9_differs_9 ⟨Nat.le_of_ble_eq_true rfl, Nat.le_of_ble_eq_true rfl⟩) hS (fun q _ h => hFc q h) hFc (fun q _ h => hFc q h) (fun E ce q9 u t H1 locs ht hvm hw hB hz1 hk1 hS hq9 hce hcl => ?_) (fun r7 u t H1 locs ht hvm hw hB hz1 hk1 hS => ?_)
    · obtain ⟨c8, hEc8, hB2⟩ := hB
      obtain ⟨hP, hD⟩ := wd_post hFc ht hB2
      exact vx_out (fun x h => (hno x h).elim) hlocks hq9 hce hcl (fun t2 ht2 hA2 => ⟨S, t0, ⟨(el_in (by decide) hEc8), wd_end hP hK hD ht2 hA2⟩, hS.F ht2⟩) hS.2.2 (Nat.le_of_ble_eq_true rfl) (Nat.le_of_ble_eq_true rfl)
    · obtain ⟨r7, rfl, c9, o10⟩ := hw
      obtain ⟨hP, hD⟩ := wd_post hFc ht hB
      generalize H1 = H at hP hS ⊢
      refine W.eq (g2 := F0 m 12 ls [.ref r7]) rfl ?_
      refine lv_astore (lv' := [(5, .ref r7), (4, .ref r2), (0, .ref o1), (1, .int x1), (2, .int x2), (3, .int x3)]) hx hb dX9_differs_12 hl (by decide) rfl (fun ls hl => ?_)
      refine lv_iload_n hx hb dX9_differs_14 rfl (lv_at hl 5 rfl) ?_
      refine lv_iconst (v := 0) hx hb dX9_differs_15 (by decide) ?_
      refine lv_ldc (own := RX9) (v := 999999) hx hb hown (hts (.constant RX9 244 (999999)) (by decide +kernel)) dX9_differs_16 ?_
      have l32_0 : (0 : Int32).toInt = 0 := rfl
      have l32_999999 : (999999 : Int32).toInt = 999999 := rfl
      have hFc := free_all hD hS hA
      refine vx_callv (vx_runS (As := [.int x3, .int (0 : Int32), .int (999999 : Int32)]) (rest := []) ⟨hx, hb, hml, hown, hts⟩ (c_X9_needRange l hst (cy := cy) (X := X) (D := D) S _ x3 (0 : Int32) (999999 : Int32)) (cwS 3 hts gX9_differs_X9_needRange rfl rfl rfl hd_X9_needRange ⟨Nat.le_of_ble_eq_true rfl, Nat.le_of_ble_eq_true rfl⟩) (pSt hP hK hD hN hTH hS hFc) rfl rfl hl.1 rfl (lv_room (Nat.le_of_ble_eq_true rfl)) dX9_differs_18 ⟨Nat.le_of_ble_eq_true rfl, Nat.le_of_ble_eq_true rfl⟩) hS (fun q _ h => hFc q h) hFc (fun q _ h => hFc q h) (fun E ce q9 u t H1 locs ht hvm hw hB hz1 hk1 hS hq9 hce hcl => ?_) (fun u t H1 locs ht hvm hw hB hz1 hk1 hS => ?_)
      · obtain ⟨c12, hEc12, hB2⟩ := hB
        obtain ⟨hP, hD⟩ := wd_post hFc ht hB2
        exact vx_out (fun x h => (hno x h).elim) hlocks hq9 hce hcl (fun t2 ht2 hA2 => ⟨S, t0, ⟨(el_in (by decide) hEc12), wd_end hP hK hD ht2 hA2⟩, hS.F ht2⟩) hS.2.2 (Nat.le_of_ble_eq_true rfl) (Nat.le_of_ble_eq_true rfl)
      · have c13 := hw
        obtain ⟨hP, hD⟩ := wd_post hFc ht hB
        generalize H1 = H at hP hS ⊢
        have i14 := nr_i c13
        have i14l := i14.1
        have i14h := i14.2
        have l15 : (0 : Int32).toInt = 0 := rfl
        have l16 : (999999 : Int32).toInt = 999999 := rfl
        refine lv_aload hx hb dX9_differs_21 (lv_at hl 1 rfl) ?_
        obtain ⟨k17, gk17, hk17⟩ := wGt (cy := cy) X S o5.1 o5.2.1
        have i18 := ((hW.at o5 List.not_mem_nil).to_2 o5.2.1).R3
        refine va_get (D := D) (ci := 6) (v := .int (S.I r2 3)) (C := RX2) (T := TX2) (N := 20) hx hb hts hi_X9_differs_X2 hown hK hP k17 hk17 rfl 3 (by decide) (hts (.fieldLink RX9 185 "Hobhouse$Gear" "helix" "I") (by decide +kernel)) (fun _ h9 => h9) rfl dX9_differs_23 ?_
        refine lv_if_eq (tgt := 33) hx hb dX9_differs_26 (by decide) (fun c19 => ?_) (fun c19 => ?_)
        · have c19i : (S.I r2 3).toInt = 0 := eq_v rfl rfl c19
          refine lv_iconst (v := 0) hx hb dX9_differs_33 (by decide) ?_
          have hFc := free_all hD hS hA
          refine vx_callv (vx_runS (As := [.int (0 : Int32)]) (rest := []) ⟨hx, hb, hml, hown, hts⟩ (c_X9_allowOnly l hst (cy := cy) (X := X) (D := D) S _ (0 : Int32)) (cwS 1 hts gX9_differs_X9_allowOnly rfl rfl rfl hd_X9_allowOnly ⟨Nat.le_of_ble_eq_true rfl, Nat.le_of_ble_eq_true rfl⟩) (pSt hP hK hD hN hTH hS hFc) rfl rfl hl.1 rfl (lv_room (Nat.le_of_ble_eq_true rfl)) dX9_differs_34 ⟨Nat.le_of_ble_eq_true rfl, Nat.le_of_ble_eq_true rfl⟩) hS (fun q _ h => hFc q h) hFc (fun q _ h => hFc q h) (fun E ce q9 u t H1 locs ht hvm hw hB hz1 hk1 hS hq9 hce hcl => ?_) (fun u t H1 locs ht hvm hw hB hz1 hk1 hS => ?_)
          · obtain ⟨c21, hEc21, hB2⟩ := hB
            obtain ⟨hP, hD⟩ := wd_post hFc ht hB2
            exact vx_out (fun x h => (hno x h).elim) hlocks hq9 hce hcl (fun t2 ht2 hA2 => ⟨S, t0, ⟨(el_in (by decide) hEc21), wd_end hP hK hD ht2 hA2⟩, hS.F ht2⟩) hS.2.2 (Nat.le_of_ble_eq_true rfl) (Nat.le_of_ble_eq_true rfl)
          · have c22 := hw
            obtain ⟨hP, hD⟩ := wd_post hFc ht hB
            generalize H1 = H at hP hS ⊢
            exact absurd rfl (ao_i c22)
        · have c19i : ¬ (S.I r2 3).toInt = 0 := neq_v rfl rfl c19
          refine lv_iconst (v := 1) hx hb dX9_differs_29 (by decide) ?_
          refine lv_goto (tgt := 34) hx hb dX9_differs_30 (by decide) ?_
          have l32_1 : (1 : Int32).toInt = 1 := rfl
          have hFc := free_all hD hS hA
          refine vx_callv (vx_runS (As := [.int (1 : Int32)]) (rest := []) ⟨hx, hb, hml, hown, hts⟩ (c_X9_allowOnly l hst (cy := cy) (X := X) (D := D) S _ (1 : Int32)) (cwS 1 hts gX9_differs_X9_allowOnly rfl rfl rfl hd_X9_allowOnly ⟨Nat.le_of_ble_eq_true rfl, Nat.le_of_ble_eq_true rfl⟩) (pSt hP hK hD hN hTH hS hFc) rfl rfl hl.1 rfl (lv_room (Nat.le_of_ble_eq_true rfl)) dX9_differs_34 ⟨Nat.le_of_ble_eq_true rfl, Nat.le_of_ble_eq_true rfl⟩) hS (fun q _ h => hFc q h) hFc (fun q _ h => hFc q h) (fun E ce q9 u t H1 locs ht hvm hw hB hz1 hk1 hS hq9 hce hcl => ?_) (fun u t H1 locs ht hvm hw hB hz1 hk1 hS => ?_)
          · obtain ⟨c24, hEc24, hB2⟩ := hB
            obtain ⟨hP, hD⟩ := wd_post hFc ht hB2
            exact vx_out (fun x h => (hno x h).elim) hlocks hq9 hce hcl (fun t2 ht2 hA2 => ⟨S, t0, ⟨(el_in (by decide) hEc24), wd_end hP hK hD ht2 hA2⟩, hS.F ht2⟩) hS.2.2 (Nat.le_of_ble_eq_true rfl) (Nat.le_of_ble_eq_true rfl)
          · have c25 := hw
            obtain ⟨hP, hD⟩ := wd_post hFc ht hB
            generalize H1 = H at hP hS ⊢
            have i26 := ao_i c25
            refine lv_aload_n hx hb dX9_differs_37 rfl (lv_at hl 2 rfl) ?_
            have hFc := free_all hD hS hA
            obtain ⟨k27, gk27, hk27⟩ := wGt (cy := cy) X S h_o1.1 h_o1.2.1
            refine vx_callv (vx_runV (As := []) (rest := []) ⟨hx, hb, hml, hown, hts⟩ (c_X9_needFourWheels l hst (cy := cy) (X := X) (D := D) S _ o1 h_o1 (hW)) (cwV 0 hts gX9_differs_X9_needFourWheels rfl rfl rfl hd_X9_needFourWheels ⟨Nat.le_of_ble_eq_true rfl, Nat.le_of_ble_eq_true rfl⟩) (pVt (va_recv hK hP (q := (RX9, TX9, 11)) (ci := 13) (q0 := k27) rfl hk27) hP hK hD hN hTH hS hFc) rfl rfl hl.1 rfl (lv_room (Nat.le_of_ble_eq_true rfl)) dX9_differs_38 ⟨Nat.le_of_ble_eq_true rfl, Nat.le_of_ble_eq_true rfl⟩) hS (fun q _ h => hFc q h) hFc (fun q _ h => hFc q h) (fun E ce q9 u t H1 locs ht hvm hw hB hz1 hk1 hS hq9 hce hcl => ?_) (fun u t H1 locs ht hvm hw hB hz1 hk1 hS => ?_)
            · obtain ⟨c29, hEc29, hB2⟩ := hB
              obtain ⟨hP, hD⟩ := wd_post hFc ht hB2
              exact vx_out (fun x h => (hno x h).elim) hlocks hq9 hce hcl (fun t2 ht2 hA2 => ⟨S, t0, ⟨(el_in (by decide) hEc29), wd_end hP hK hD ht2 hA2⟩, hS.F ht2⟩) hS.2.2 (Nat.le_of_ble_eq_true rfl) (Nat.le_of_ble_eq_true rfl)
            · have c30 := hw
              obtain ⟨hP, hD⟩ := wd_post hFc ht hB
              generalize H1 = H at hP hS ⊢
              refine lv_aload_n hx hb dX9_differs_41 rfl (lv_at hl 2 rfl) ?_
              have F31 := ((hW.at h_o1 List.not_mem_nil).to_9 h_o1.2.1).F6
              obtain ⟨k32, gk32, hk32⟩ := wGt (cy := cy) X S h_o1.1 h_o1.2.1
              simp only [kE, F31.1] at hk32
              refine va_get (D := D) (ci := 13) (v := .ref (S.f o1 6)) (C := RX9) (T := TX9) (N := 11) hx hb hts hi_X9_differs_X9 hown hK hP k32 hk32 rfl 6 (by decide) (hts (.fieldLink RX9 30 "Hobhouse" "box" "LHobhouse$Box;") (by decide +kernel)) (fun _ h9 => h9) rfl dX9_differs_42 ?_
              refine lv_aload hx hb dX9_differs_45 (lv_at hl 1 rfl) ?_
              obtain ⟨k33, gk33, hk33⟩ := wGt (cy := cy) X S o5.1 o5.2.1
              refine va_get (D := D) (ci := 6) (v := .int (S.I r2 3)) (C := RX2) (T := TX2) (N := 20) hx hb hts hi_X9_differs_X2 hown hK hP k33 hk33 rfl 3 (by decide) (hts (.fieldLink RX9 185 "Hobhouse$Gear" "helix" "I") (by decide +kernel)) (fun _ h9 => h9) rfl dX9_differs_47 ?_
              refine va_mabs hx hb (hml.trans hl.1.symm) hown (hts (.methodLink RX9 188 Lib.Math.abs.name) (by decide +kernel)) (hts (.static Lib.Math.abs.name) (by decide +kernel)) (hts (.initialized "java/lang/Math") (by decide +kernel)) (hts (.code Lib.Math.abs.name Lib.Math.abs.code 1 (some .int)) (by decide +kernel)) (Nat.le_of_ble_eq_true rfl) (Nat.le_of_ble_eq_true rfl) (Nat.le_of_ble_eq_true rfl) (Nat.le_of_ble_eq_true rfl) dX9_differs_50 ?_
              refine lv_aload_n hx hb dX9_differs_53 rfl (lv_at hl 2 rfl) ?_
              obtain ⟨k34, gk34, hk34⟩ := wGt (cy := cy) X S h_o1.1 h_o1.2.1
              refine va_get (D := D) (ci := 13) (v := .int (S.I o1 9)) (C := RX9) (T := TX9) (N := 11) hx hb hts hi_X9_differs_X9 hown hK hP k34 hk34 rfl 9 (by decide) (hts (.fieldLink RX9 48 "Hobhouse" "constant" "I") (by decide +kernel)) (fun _ h9 => h9) rfl dX9_differs_54 ?_
              refine lv_imul hx hb dX9_differs_57 ?_
              refine lv_i2l hx hb dX9_differs_58 rfl ?_
              refine lv_aload hx hb dX9_differs_59 (lv_at hl 1 rfl) ?_
              obtain ⟨k35, gk35, hk35⟩ := wGt (cy := cy) X S o5.1 o5.2.1
              have i36 := ((hW.at o5 List.not_mem_nil).to_2 o5.2.1).R2
              refine va_get (D := D) (ci := 6) (v := .int (S.I r2 2)) (C := RX2) (T := TX2) (N := 20) hx hb hts hi_X9_differs_X2 hown hK hP k35 hk35 rfl 2 (by decide) (hts (.fieldLink RX9 165 "Hobhouse$Gear" "module" "I") (by decide +kernel)) (fun _ h9 => h9) rfl dX9_differs_61 ?_
              refine lv_aload hx hb dX9_differs_64 (lv_at hl 0 rfl) ?_
              obtain ⟨k37, gk37, hk37⟩ := wGt (cy := cy) X S o10.1 o10.2.1
              refine va_get (D := D) (ci := 7) (v := .int (S.I r7 1)) (C := RX3) (T := TX3) (N := 6) hx hb hts hi_X9_differs_X3 hown hK hP k37 hk37 rfl 1 (by decide) (hts (.fieldLink RX9 261 "Hobhouse$Hob" "starts" "I") (by decide +kernel)) (fun _ h9 => h9) rfl dX9_differs_66 ?_
              refine lv_imul hx hb dX9_differs_69 ?_
              refine lv_i2l hx hb dX9_differs_70 rfl ?_
              have hFc := free_all hD hS hA
              obtain ⟨k38, gk38, hk38⟩ := wGt (cy := cy) X S F31.2.1 F31.2.2.1
              refine va_callv (va_runV (As := [.long (((if 0 ≤ (S.I r2 3) then (S.I r2 3) else 0 - (S.I r2 3)) * (S.I o1 9)).toInt64), .long (((S.I r2 2) * (S.I r7 1)).toInt64)]) (rest := []) ⟨hx, hb, hml, hown, hts⟩ (c_X0_search l (cy := cy) (X := X) (D := D) S _ (S.f o1 6) F31.2 (((if 0 ≤ (S.I r2 3) then (S.I r2 3) else 0 - (S.I r2 3)) * (S.I o1 9)).toInt64) (((S.I r2 2) * (S.I r7 1)).toInt64) (hW)) (cwV 2 hts gX9_differs_X0_search rfl rfl rfl hd_X0_search ⟨Nat.le_of_ble_eq_true rfl, Nat.le_of_ble_eq_true rfl⟩) (pV (va_recv hK hP (q := (RX0, TX0, 7)) (ci := 4) (q0 := k38) rfl hk38) hP hK hD hN) rfl rfl hl.1 rfl (lv_room (Nat.le_of_ble_eq_true rfl)) dX9_differs_71 ⟨Nat.le_of_ble_eq_true rfl, Nat.le_of_ble_eq_true rfl⟩) hS (fun q _ h => hFc q h) hFc (fun u t H1 locs ht hvm hw hB hz1 hk1 hS => ?_)
              have w40 := hw
              obtain ⟨hP, hD⟩ := wd_post hFc ht hB
              generalize H1 = H at hP hS ⊢
              obtain ⟨S41, rfl⟩ : ∃ z, z = u := ⟨_, rfl⟩
              have t42 : stp [(0, 3), (0, 4), (0, 5), (0, 6), (17, 100)] [] [] S S41 := t0.tr w40 (by decide) (fun _ q => absurd q List.not_mem_nil)
              have xe43 : ext S S41 := w40.x
              refine lv_aload_n hx hb dX9_differs_74 rfl (lv_at hl 2 rfl) ?_
              obtain ⟨k44, gk44, hk44⟩ := wGt (cy := cy) X S41 (xe43.A h_o1).1 (xe43.A h_o1).2.1
              simp only [kE, (xe43.F h_o1 (by decide) F31.1)] at hk44
              refine va_get (D := D) (ci := 13) (v := .ref (S.f o1 6)) (C := RX9) (T := TX9) (N := 11) hx hb hts hi_X9_differs_X9 hown hK hP k44 hk44 rfl 6 (by decide) (hts (.fieldLink RX9 30 "Hobhouse" "box" "LHobhouse$Box;") (by decide +kernel)) (fun _ h9 => h9) rfl dX9_differs_75 ?_
              refine lv_iload_n hx hb dX9_differs_78 rfl (lv_at hl 5 rfl) ?_
              have hFc := free_all hD hS hA
              obtain ⟨k45, gk45, hk45⟩ := wGt (cy := cy) X S41 (xe43.A F31.2).1 (xe43.A F31.2).2.1
              refine va_calli (va_runV (As := [.int x3]) (rest := []) ⟨hx, hb, hml, hown, hts⟩ (c_X0_isMet l (cy := cy) (X := X) (D := D) S41 _ (S.f o1 6) (xe43.A F31.2) x3) (cwV 1 hts gX9_differs_X0_isMet rfl rfl rfl hd_X0_isMet ⟨Nat.le_of_ble_eq_true rfl, Nat.le_of_ble_eq_true rfl⟩) (pV (va_recv hK hP (q := (RX0, TX0, 7)) (ci := 4) (q0 := k45) rfl hk45) hP hK hD hN) rfl rfl hl.1 rfl (lv_room (Nat.le_of_ble_eq_true rfl)) dX9_differs_79 ⟨Nat.le_of_ble_eq_true rfl, Nat.le_of_ble_eq_true rfl⟩) hS (fun q _ h => hFc q h) hFc (fun r46 u t H1 locs ht hvm hw hB hz1 hk1 hS => ?_)
              have c47 := hw
              obtain ⟨hP, hD⟩ := wd_post hFc ht hB
              generalize H1 = H at hP hS ⊢
              obtain rfl : f_X0_isMet S41 (S.f o1 6) x3 = r46 := c47.symm
              refine vx_ret ?_
              refine W.widen (k := 5) (n := 30) (Nat.le_of_ble_eq_true rfl) (Nat.le_of_ble_eq_true rfl) ?_
              exact W.zret (v := f_X0_isMet S41 (S.f o1 6) x3) hx hb hr (f_X0_isMet_b S41 (S.f o1 6) x3) (fun t ht hW9 => ⟨⟨f_X0_isMet S41 (S.f o1 6) x3, S41, rfl, t42, wd_end hP hK hD ht hW9.alike⟩, hS.F ht⟩) hS.2.2 dX9_differs_82 hlocks
def f_X9_inStep (S : wPS) (o1 : Nat) (x1 : Int32) (x2 : Int32) (x3 : Int32) (x4 : Int32) : Except String Int32 := eB (f_X9_needTeeth x1) (fun _ => eB (f_X9_needTeeth x2) (fun _ => eB (f_X9_needRange x3 (0 : Int32) (2147483647 : Int32)) (fun _ => eB (f_X9_needRange x4 (1 : Int32) (9999 : Int32)) (fun _ => if (lg_cmp ((x3.toInt64 * ((f_X9_commonMultiple x1 x2).toInt64)) - (x3.toInt64 * ((f_X9_commonMultiple x1 x2).toInt64)) / x4.toInt64 * x4.toInt64) (0 : Int64)) = (0 : Int32) then .ok (1 : Int32) else .ok (0 : Int32)))))
theorem hd_X9_inStep : yX9_inStep.cls = RX9 ∧ yX9_inStep.cls ≠ "java/lang/invoke/MethodHandle" ∧ yX9_inStep.cls ≠ "java/lang/invoke/VarHandle" ∧ (parseMethodDescriptor yX9_inStep.desc).map (fun d => d.parameters.length) = some 4 := by decide +kernel
set_option maxHeartbeats 4000000 in
set_option maxRecDepth 100000 in
theorem c_X9_inStep (l : Launch) (hst : l.stackTraces = false) {D : va_G} {cy : Nat → ClassId} {X : va_W} (S : wPS) (sz : Nat) (o1 : Nat) (h_o1 : isA S o1 9) (x1 : Int32) (x2 : Int32) (x3 : Int32) (x4 : Int32) (hW : wtB S [])  : vx_Met l yX9_inStep wsX9_inStep ({ frames := 8, cells := 4, slots := 24, locals := 124 }) (va_Pc [.ref o1, .int x1, .int x2, .int x3, .int x4] (fun U => U.heap.size = sz ∧ WD D cy X (fun _ => True) S U ∧ NW U ∧ TH (va_A (X ++ PL cy S) sz) U)) (va_Qi (fun r (_ : Unit) => f_X9_inStep S o1 x1 x2 x3 x4 = .ok r) (fun _ t => WD D cy X (va_A (X ++ PL cy S) sz) S t) (va_A (X ++ PL cy S) sz)) (vx_X (fun (_ : Unit) => True) (fun E _ t => f_X9_inStep S o1 x1 x2 x3 x4 = .error E ∧ E ∈ ["java/lang/IllegalArgumentException"] ∧ WD D cy X (va_A (X ++ PL cy S) sz) S t) (va_A (X ++ PL cy S) sz)) 4 24 (va_A (X ++ PL cy S) sz) := by
  refine vx_ofW (cc := cX9_inStep) (maxL := 5) (ret := (some .boolean)) (by decide) rfl ?_
  intro p e s m args below meth c s₁ B hml hno hv
  obtain ⟨rfl, hsz, ⟨hP, hK, hD0⟩, hN, hTH⟩ := hv
  have hx := B.exec
  have hb := B.bytes
  have hr := B.returns
  have hts := atoms_spec (ws := wsX9_inStep) B.pre
  have hown : s.vm.findClass RX9 = some m.cls := findClass_of_methodNamed (x := yX9_inStep) B.named
  have hlocks := B.notSynchronized
  subst hsz
  have hD := hD0.self (sz := s.heap.size)
  generalize hAe : va_A (X ++ PL cy S) s.heap.size = A at hD hTH ⊢
  have hA : ∀ q : Nat, s.heap.size ≤ q → A q := fun q h => by rw [← hAe]; exact Or.inr h
  have hS : va_S A s.heap s.heap [] := va_S.rf
  have hl := lv_entry ([.ref o1, .int x1, .int x2, .int x3, .int x4]) (n := 5) (Nat.le_of_ble_eq_true rfl)
  rw [lg_entry_eq]
  generalize (lg_sl ([.ref o1, .int x1, .int x2, .int x3, .int x4]) ++ List.replicate (5 - (lg_sl ([.ref o1, .int x1, .int x2, .int x3, .int x4])).length) Slot.unset).toArray = ls at hl ⊢
  have hl : lv_has ls 5 [(0, .ref o1), (1, .int x1), (2, .int x2), (3, .int x3), (4, .int x4)] := hl
  refine lv_iload_n hx hb dX9_inStep_0 rfl (lv_at hl 1 rfl) ?_
  have hFc := free_all hD hS hA
  refine vx_callv (vx_runS (As := [.int x1]) (rest := []) ⟨hx, hb, hml, hown, hts⟩ (c_X9_needTeeth l hst (cy := cy) (X := X) (D := D) S _ x1) (cwS 1 hts gX9_inStep_X9_needTeeth rfl rfl rfl hd_X9_needTeeth ⟨Nat.le_of_ble_eq_true rfl, Nat.le_of_ble_eq_true rfl⟩) (pSt hP hK hD hN hTH hS hFc) rfl rfl hl.1 rfl (lv_room (Nat.le_of_ble_eq_true rfl)) dX9_inStep_1 ⟨Nat.le_of_ble_eq_true rfl, Nat.le_of_ble_eq_true rfl⟩) hS (fun q _ h => hFc q h) hFc (fun q _ h => hFc q h) (fun E ce q9 u t H1 locs ht hvm hw hB hz1 hk1 hS hq9 hce hcl => ?_) (fun u t H1 locs ht hvm hw hB hz1 hk1 hS => ?_)
  · obtain ⟨c2, hEc2, hB2⟩ := hB
    obtain ⟨hP, hD⟩ := wd_post hFc ht hB2
    exact vx_out (fun x h => (hno x h).elim) hlocks hq9 hce hcl (fun t2 ht2 hA2 => ⟨(), trivial, ⟨(by show f_X9_inStep S o1 x1 x2 x3 x4 = .error E; unfold f_X9_inStep; rw [eB_er c2]), (el_in (by decide) hEc2), wd_end hP hK hD ht2 hA2⟩, hS.F ht2⟩) hS.2.2 (Nat.le_of_ble_eq_true rfl) (Nat.le_of_ble_eq_true rfl)
  · have c3 := hw
    obtain ⟨hP, hD⟩ := wd_post hFc ht hB
    generalize H1 = H at hP hS ⊢
    have i4 := nt_i c3
    refine lv_iload_n hx hb dX9_inStep_4 rfl (lv_at hl 2 rfl) ?_
    have hFc := free_all hD hS hA
    refine vx_callv (vx_runS (As := [.int x2]) (rest := []) ⟨hx, hb, hml, hown, hts⟩ (c_X9_needTeeth l hst (cy := cy) (X := X) (D := D) S _ x2) (cwS 1 hts gX9_inStep_X9_needTeeth rfl rfl rfl hd_X9_needTeeth ⟨Nat.le_of_ble_eq_true rfl, Nat.le_of_ble_eq_true rfl⟩) (pSt hP hK hD hN hTH hS hFc) rfl rfl hl.1 rfl (lv_room (Nat.le_of_ble_eq_true rfl)) dX9_inStep_5 ⟨Nat.le_of_ble_eq_true rfl, Nat.le_of_ble_eq_true rfl⟩) hS (fun q _ h => hFc q h) hFc (fun q _ h => hFc q h) (fun E ce q9 u t H1 locs ht hvm hw hB hz1 hk1 hS hq9 hce hcl => ?_) (fun u t H1 locs ht hvm hw hB hz1 hk1 hS => ?_)
    · obtain ⟨c6, hEc6, hB2⟩ := hB
      obtain ⟨hP, hD⟩ := wd_post hFc ht hB2
      exact vx_out (fun x h => (hno x h).elim) hlocks hq9 hce hcl (fun t2 ht2 hA2 => ⟨(), trivial, ⟨(by show f_X9_inStep S o1 x1 x2 x3 x4 = .error E; unfold f_X9_inStep; rw [eB_ok c3, eB_er c6]), (el_in (by decide) hEc6), wd_end hP hK hD ht2 hA2⟩, hS.F ht2⟩) hS.2.2 (Nat.le_of_ble_eq_true rfl) (Nat.le_of_ble_eq_true rfl)
    · have c7 := hw
      obtain ⟨hP, hD⟩ := wd_post hFc ht hB
      generalize H1 = H at hP hS ⊢
      have i8 := nt_i c7
      refine lv_iload_n hx hb dX9_inStep_8 rfl (lv_at hl 3 rfl) ?_
      refine lv_iconst (v := 0) hx hb dX9_inStep_9 (by decide) ?_
      refine lv_ldcw (own := RX9) (v := 2147483647) hx hb hown (hts (.constant RX9 304 (2147483647)) (by decide +kernel)) dX9_inStep_10 ?_
      have l32_0 : (0 : Int32).toInt = 0 := rfl
      have l32_2147483647 : (2147483647 : Int32).toInt = 2147483647 := rfl
      have hFc := free_all hD hS hA
      refine vx_callv (vx_runS (As := [.int x3, .int (0 : Int32), .int (2147483647 : Int32)]) (rest := []) ⟨hx, hb, hml, hown, hts⟩ (c_X9_needRange l hst (cy := cy) (X := X) (D := D) S _ x3 (0 : Int32) (2147483647 : Int32)) (cwS 3 hts gX9_inStep_X9_needRange rfl rfl rfl hd_X9_needRange ⟨Nat.le_of_ble_eq_true rfl, Nat.le_of_ble_eq_true rfl⟩) (pSt hP hK hD hN hTH hS hFc) rfl rfl hl.1 rfl (lv_room (Nat.le_of_ble_eq_true rfl)) dX9_inStep_13 ⟨Nat.le_of_ble_eq_true rfl, Nat.le_of_ble_eq_true rfl⟩) hS (fun q _ h => hFc q h) hFc (fun q _ h => hFc q h) (fun E ce q9 u t H1 locs ht hvm hw hB hz1 hk1 hS hq9 hce hcl => ?_) (fun u t H1 locs ht hvm hw hB hz1 hk1 hS => ?_)
      · obtain ⟨c10, hEc10, hB2⟩ := hB
        obtain ⟨hP, hD⟩ := wd_post hFc ht hB2
        exact vx_out (fun x h => (hno x h).elim) hlocks hq9 hce hcl (fun t2 ht2 hA2 => ⟨(), trivial, ⟨(by show f_X9_inStep S o1 x1 x2 x3 x4 = .error E; unfold f_X9_inStep; rw [eB_ok c3, eB_ok c7, eB_er c10]), (el_in (by decide) hEc10), wd_end hP hK hD ht2 hA2⟩, hS.F ht2⟩) hS.2.2 (Nat.le_of_ble_eq_true rfl) (Nat.le_of_ble_eq_true rfl)
      · have c11 := hw
        obtain ⟨hP, hD⟩ := wd_post hFc ht hB
        generalize H1 = H at hP hS ⊢
        have i12 := nr_i c11
        have i12l := i12.1
        have i12h := i12.2
        have l13 : (0 : Int32).toInt = 0 := rfl
        have l14 : (2147483647 : Int32).toInt = 2147483647 := rfl
        refine lv_iload hx hb dX9_inStep_16 (lv_at hl 4 rfl) ?_
        refine lv_iconst (v := 1) hx hb dX9_inStep_18 (by decide) ?_
        refine lv_sipush (v := 9999) hx hb dX9_inStep_19 (by decide +kernel) ?_
        have l32_1 : (1 : Int32).toInt = 1 := rfl
        have l32_9999 : (9999 : Int32).toInt = 9999 := rfl
        have hFc := free_all hD hS hA
        refine vx_callv (vx_runS (As := [.int x4, .int (1 : Int32), .int (9999 : Int32)]) (rest := []) ⟨hx, hb, hml, hown, hts⟩ (c_X9_needRange l hst (cy := cy) (X := X) (D := D) S _ x4 (1 : Int32) (9999 : Int32)) (cwS 3 hts gX9_inStep_X9_needRange rfl rfl rfl hd_X9_needRange ⟨Nat.le_of_ble_eq_true rfl, Nat.le_of_ble_eq_true rfl⟩) (pSt hP hK hD hN hTH hS hFc) rfl rfl hl.1 rfl (lv_room (Nat.le_of_ble_eq_true rfl)) dX9_inStep_22 ⟨Nat.le_of_ble_eq_true rfl, Nat.le_of_ble_eq_true rfl⟩) hS (fun q _ h => hFc q h) hFc (fun q _ h => hFc q h) (fun E ce q9 u t H1 locs ht hvm hw hB hz1 hk1 hS hq9 hce hcl => ?_) (fun u t H1 locs ht hvm hw hB hz1 hk1 hS => ?_)
        · obtain ⟨c16, hEc16, hB2⟩ := hB
          obtain ⟨hP, hD⟩ := wd_post hFc ht hB2
          exact vx_out (fun x h => (hno x h).elim) hlocks hq9 hce hcl (fun t2 ht2 hA2 => ⟨(), trivial, ⟨(by show f_X9_inStep S o1 x1 x2 x3 x4 = .error E; unfold f_X9_inStep; rw [eB_ok c3, eB_ok c7, eB_ok c11, eB_er c16]), (el_in (by decide) hEc16), wd_end hP hK hD ht2 hA2⟩, hS.F ht2⟩) hS.2.2 (Nat.le_of_ble_eq_true rfl) (Nat.le_of_ble_eq_true rfl)
        · have c17 := hw
          obtain ⟨hP, hD⟩ := wd_post hFc ht hB
          generalize H1 = H at hP hS ⊢
          have i18 := nr_i c17
          have i18l := i18.1
          have i18h := i18.2
          have l19 : (1 : Int32).toInt = 1 := rfl
          have l20 : (9999 : Int32).toInt = 9999 := rfl
          refine lv_iload_n hx hb dX9_inStep_25 rfl (lv_at hl 3 rfl) ?_
          refine lv_i2l hx hb dX9_inStep_26 rfl ?_
          refine lv_iload_n hx hb dX9_inStep_27 rfl (lv_at hl 1 rfl) ?_
          refine lv_iload_n hx hb dX9_inStep_28 rfl (lv_at hl 2 rfl) ?_
          have hFc := free_all hD hS hA
          refine va_calli (va_runS (As := [.int x1, .int x2]) (rest := [.long x3.toInt64]) ⟨hx, hb, hml, hown, hts⟩ (c_X9_commonMultiple l (cy := cy) (X := X) (D := D) S _ x1 x2) (cwS 2 hts gX9_inStep_X9_commonMultiple rfl rfl rfl hd_X9_commonMultiple ⟨Nat.le_of_ble_eq_true rfl, Nat.le_of_ble_eq_true rfl⟩) (pS hP hK hD hN) rfl rfl hl.1 rfl (lv_room (Nat.le_of_ble_eq_true rfl)) dX9_inStep_29 ⟨Nat.le_of_ble_eq_true rfl, Nat.le_of_ble_eq_true rfl⟩) hS (fun q _ h => hFc q h) hFc (fun r21 u t H1 locs ht hvm hw hB hz1 hk1 hS => ?_)
          have c22 := hw
          obtain ⟨hP, hD⟩ := wd_post hFc ht hB
          generalize H1 = H at hP hS ⊢
          obtain rfl : f_X9_commonMultiple x1 x2 = r21 := c22.symm
          refine lv_i2l hx hb dX9_inStep_32 rfl ?_
          refine lv_lmul hx hb dX9_inStep_33 ?_
          refine lv_iload hx hb dX9_inStep_34 (lv_at hl 4 rfl) ?_
          refine lv_i2l hx hb dX9_inStep_36 rfl ?_
          refine lv_lrem hx hb dX9_inStep_37 (nz_l (by omega)) ?_
          refine lv_lconst (v := 0) hx hb dX9_inStep_38 (by decide) ?_
          refine W.lcmp hx hb dX9_inStep_39 ?_
          refine lv_if_ne (tgt := 47) hx hb dX9_inStep_40 (by decide) (fun c23 => ?_) (fun c23 => ?_)
          · refine lv_iconst (v := 0) hx hb dX9_inStep_47 (by decide) ?_
            refine vx_ret ?_
            refine W.widen (k := 4) (n := 24) (Nat.le_of_ble_eq_true rfl) (Nat.le_of_ble_eq_true rfl) ?_
            exact W.zret (v := (0 : Int32)) hx hb hr (by rfl) (fun t ht hW9 => ⟨⟨(0 : Int32), (), rfl, (by show f_X9_inStep S o1 x1 x2 x3 x4 = .ok (0 : Int32); unfold f_X9_inStep; rw [eB_ok c3, eB_ok c7, eB_ok c11, eB_ok c17, if_neg c23]), wd_end hP hK hD ht hW9.alike⟩, hS.F ht⟩) hS.2.2 dX9_inStep_48 hlocks
          · refine lv_iconst (v := 1) hx hb dX9_inStep_43 (by decide) ?_
            refine lv_goto (tgt := 48) hx hb dX9_inStep_44 (by decide) ?_
            refine vx_ret ?_
            refine W.widen (k := 4) (n := 24) (Nat.le_of_ble_eq_true rfl) (Nat.le_of_ble_eq_true rfl) ?_
            exact W.zret (v := (1 : Int32)) hx hb hr (by rfl) (fun t ht hW9 => ⟨⟨(1 : Int32), (), rfl, (by show f_X9_inStep S o1 x1 x2 x3 x4 = .ok (1 : Int32); unfold f_X9_inStep; rw [eB_ok c3, eB_ok c7, eB_ok c11, eB_ok c17, if_pos c23]), wd_end hP hK hD ht hW9.alike⟩, hS.F ht⟩) hS.2.2 dX9_inStep_48 hlocks
theorem hi_X9_bestTrain_X8 : ∀ w ∈ u_ws RX8 TX8 5, w ∈ wsX9_bestTrain := by decide +kernel
theorem hd_X9_bestTrain : yX9_bestTrain.cls = RX9 ∧ yX9_bestTrain.cls ≠ "java/lang/invoke/MethodHandle" ∧ yX9_bestTrain.cls ≠ "java/lang/invoke/VarHandle" ∧ (parseMethodDescriptor yX9_bestTrain.desc).map (fun d => d.parameters.length) = some 4 := by decide +kernel
set_option maxHeartbeats 4000000 in
set_option maxRecDepth 100000 in
theorem c_X9_bestTrain (l : Launch) (hst : l.stackTraces = false) {D : va_G} {cy : Nat → ClassId} {X : va_W} (S : wPS) (sz : Nat) (x1 : Int32) (x2 : Int32) (x3 : Int32) (x4 : Int32) (hW : wtB S [])  : vx_Met l yX9_bestTrain wsX9_bestTrain ({ frames := 8, cells := 5, slots := 29, locals := 125 }) (va_Pc [.int x1, .int x2, .int x3, .int x4] (fun U => U.heap.size = sz ∧ WD D cy X (fun _ => True) S U ∧ NW U ∧ TH (va_A (X ++ PL cy S) sz) U)) (va_Qq (fun r (u : wPS) => ∃ a : Nat, r = some a ∧ stp [(8, 2), (8, 3), (8, 4)] [] [] S u ∧ isA u a 8) (fun u t => WD D cy X (va_A (X ++ PL cy S) sz) u t) (va_A (X ++ PL cy S) sz)) (vx_X (fun (u : wPS) => stp [(8, 2), (8, 3), (8, 4)] [] [] S u) (fun E u t => E ∈ ["java/lang/IllegalArgumentException"] ∧ WD D cy X (va_A (X ++ PL cy S) sz) u t) (va_A (X ++ PL cy S) sz)) 5 29 (va_A (X ++ PL cy S) sz) := by
  refine vx_ofW (cc := cX9_bestTrain) (maxL := 5) (ret := (some (.object "Hobhouse$Train"))) (by decide) rfl ?_
  intro p e s m args below meth c s₁ B hml hno hv
  obtain ⟨rfl, hsz, ⟨hP, hK, hD0⟩, hN, hTH⟩ := hv
  have hx := B.exec
  have hb := B.bytes
  have hr := B.returns
  have hts := atoms_spec (ws := wsX9_bestTrain) B.pre
  have hown : s.vm.findClass RX9 = some m.cls := findClass_of_methodNamed (x := yX9_bestTrain) B.named
  have hlocks := B.notSynchronized
  subst hsz
  have hD := hD0.self (sz := s.heap.size)
  generalize hAe : va_A (X ++ PL cy S) s.heap.size = A at hD hTH ⊢
  have hA : ∀ q : Nat, s.heap.size ≤ q → A q := fun q h => by rw [← hAe]; exact Or.inr h
  have hS : va_S A s.heap s.heap [] := va_S.rf
  have hl := lv_entry ([.int x1, .int x2, .int x3, .int x4]) (n := 5) (Nat.le_of_ble_eq_true rfl)
  rw [lg_entry_eq]
  generalize (lg_sl ([.int x1, .int x2, .int x3, .int x4]) ++ List.replicate (5 - (lg_sl ([.int x1, .int x2, .int x3, .int x4])).length) Slot.unset).toArray = ls at hl ⊢
  have hl : lv_has ls 5 [(0, .int x1), (1, .int x2), (2, .int x3), (3, .int x4)] := hl
  have t0 : stp [(8, 2), (8, 3), (8, 4)] [] [] S S := stp.rf hW
  refine lv_iload_n hx hb dX9_bestTrain_0 rfl (lv_at hl 0 rfl) ?_
  refine lv_iload_n hx hb dX9_bestTrain_1 rfl (lv_at hl 1 rfl) ?_
  have hFc := free_all hD hS hA
  refine vx_callv (vx_runS (As := [.int x1, .int x2]) (rest := []) ⟨hx, hb, hml, hown, hts⟩ (c_X9_needRatio l hst (cy := cy) (X := X) (D := D) S _ x1 x2) (cwS 2 hts gX9_bestTrain_X9_needRatio rfl rfl rfl hd_X9_needRatio ⟨Nat.le_of_ble_eq_true rfl, Nat.le_of_ble_eq_true rfl⟩) (pSt hP hK hD hN hTH hS hFc) rfl rfl hl.1 rfl (lv_room (Nat.le_of_ble_eq_true rfl)) dX9_bestTrain_2 ⟨Nat.le_of_ble_eq_true rfl, Nat.le_of_ble_eq_true rfl⟩) hS (fun q _ h => hFc q h) hFc (fun q _ h => hFc q h) (fun E ce q9 u t H1 locs ht hvm hw hB hz1 hk1 hS hq9 hce hcl => ?_) (fun u t H1 locs ht hvm hw hB hz1 hk1 hS => ?_)
  · obtain ⟨c2, hEc2, hB2⟩ := hB
    obtain ⟨hP, hD⟩ := wd_post hFc ht hB2
    exact vx_out (fun x h => (hno x h).elim) hlocks hq9 hce hcl (fun t2 ht2 hA2 => ⟨S, t0, ⟨(el_in (by decide) hEc2), wd_end hP hK hD ht2 hA2⟩, hS.F ht2⟩) hS.2.2 (Nat.le_of_ble_eq_true rfl) (Nat.le_of_ble_eq_true rfl)
  · have c3 := hw
    obtain ⟨hP, hD⟩ := wd_post hFc ht hB
    generalize H1 = H at hP hS ⊢
    have i4 := nq_i c3
    refine lv_iload_n hx hb dX9_bestTrain_5 rfl (lv_at hl 2 rfl) ?_
    refine lv_bipush (v := 6) hx hb dX9_bestTrain_6 (by decide +kernel) ?_
    refine lv_sipush (v := 200) hx hb dX9_bestTrain_8 (by decide +kernel) ?_
    have l32_6 : (6 : Int32).toInt = 6 := rfl
    have l32_200 : (200 : Int32).toInt = 200 := rfl
    have hFc := free_all hD hS hA
    refine vx_callv (vx_runS (As := [.int x3, .int (6 : Int32), .int (200 : Int32)]) (rest := []) ⟨hx, hb, hml, hown, hts⟩ (c_X9_needRange l hst (cy := cy) (X := X) (D := D) S _ x3 (6 : Int32) (200 : Int32)) (cwS 3 hts gX9_bestTrain_X9_needRange rfl rfl rfl hd_X9_needRange ⟨Nat.le_of_ble_eq_true rfl, Nat.le_of_ble_eq_true rfl⟩) (pSt hP hK hD hN hTH hS hFc) rfl rfl hl.1 rfl (lv_room (Nat.le_of_ble_eq_true rfl)) dX9_bestTrain_11 ⟨Nat.le_of_ble_eq_true rfl, Nat.le_of_ble_eq_true rfl⟩) hS (fun q _ h => hFc q h) hFc (fun q _ h => hFc q h) (fun E ce q9 u t H1 locs ht hvm hw hB hz1 hk1 hS hq9 hce hcl => ?_) (fun u t H1 locs ht hvm hw hB hz1 hk1 hS => ?_)
    · obtain ⟨c6, hEc6, hB2⟩ := hB
      obtain ⟨hP, hD⟩ := wd_post hFc ht hB2
      exact vx_out (fun x h => (hno x h).elim) hlocks hq9 hce hcl (fun t2 ht2 hA2 => ⟨S, t0, ⟨(el_in (by decide) hEc6), wd_end hP hK hD ht2 hA2⟩, hS.F ht2⟩) hS.2.2 (Nat.le_of_ble_eq_true rfl) (Nat.le_of_ble_eq_true rfl)
    · have c7 := hw
      obtain ⟨hP, hD⟩ := wd_post hFc ht hB
      generalize H1 = H at hP hS ⊢
      have i8 := nr_i c7
      have i8l := i8.1
      have i8h := i8.2
      have l9 : (6 : Int32).toInt = 6 := rfl
      have l10 : (200 : Int32).toInt = 200 := rfl
      refine lv_iload_n hx hb dX9_bestTrain_14 rfl (lv_at hl 3 rfl) ?_
      refine lv_iload_n hx hb dX9_bestTrain_15 rfl (lv_at hl 2 rfl) ?_
      refine lv_sipush (v := 200) hx hb dX9_bestTrain_16 (by decide +kernel) ?_
      have hFc := free_all hD hS hA
      refine vx_callv (vx_runS (As := [.int x4, .int x3, .int (200 : Int32)]) (rest := []) ⟨hx, hb, hml, hown, hts⟩ (c_X9_needRange l hst (cy := cy) (X := X) (D := D) S _ x4 x3 (200 : Int32)) (cwS 3 hts gX9_bestTrain_X9_needRange rfl rfl rfl hd_X9_needRange ⟨Nat.le_of_ble_eq_true rfl, Nat.le_of_ble_eq_true rfl⟩) (pSt hP hK hD hN hTH hS hFc) rfl rfl hl.1 rfl (lv_room (Nat.le_of_ble_eq_true rfl)) dX9_bestTrain_19 ⟨Nat.le_of_ble_eq_true rfl, Nat.le_of_ble_eq_true rfl⟩) hS (fun q _ h => hFc q h) hFc (fun q _ h => hFc q h) (fun E ce q9 u t H1 locs ht hvm hw hB hz1 hk1 hS hq9 hce hcl => ?_) (fun u t H1 locs ht hvm hw hB hz1 hk1 hS => ?_)
      · obtain ⟨c12, hEc12, hB2⟩ := hB
        obtain ⟨hP, hD⟩ := wd_post hFc ht hB2
        exact vx_out (fun x h => (hno x h).elim) hlocks hq9 hce hcl (fun t2 ht2 hA2 => ⟨S, t0, ⟨(el_in (by decide) hEc12), wd_end hP hK hD ht2 hA2⟩, hS.F ht2⟩) hS.2.2 (Nat.le_of_ble_eq_true rfl) (Nat.le_of_ble_eq_true rfl)
      · have c13 := hw
        obtain ⟨hP, hD⟩ := wd_post hFc ht hB
        generalize H1 = H at hP hS ⊢
        have i14 := nr_i c13
        have i14l := i14.1
        have i14h := i14.2
        have l15 : (200 : Int32).toInt = 200 := rfl
        refine va_new (ci := 12) (fs := [.int 0, .int 0, .int 0, .int 0, .long 0]) (C := RX8) (T := TX8) (N := 5) hx hb hts hi_X9_bestTrain_X8 tyX8 tyX8_ok hown (hts (.classLink RX9 202 RX8) (by decide +kernel)) (hts (.instantiable RX8 5) (by decide +kernel)) (hts (.initialized RX8) (by decide +kernel)) hK hP hD hS hA rfl (fun j hj => by rcases (show j = 0 ∨ j = 1 ∨ j = 2 ∨ j = 3 ∨ j = 4 by omega) with rfl | rfl | rfl | rfl | rfl <;> rfl) (Nat.le_of_ble_eq_true rfl) (Nat.le_of_ble_eq_true rfl) dX9_bestTrain_22 (fun qa16 H hP2 hD2 hS => ?_)
        have hqa16 : qa16 ∉ S.L := nw_q hD2
        have e9 := wNw (cy := cy) (X := X) (S := S) (a := qa16) (k := 8) (z := 0) (f := fun _ => 0) (g := fun _ => none) hqa16 rfl
        obtain ⟨S17, hS17⟩ : ∃ z, S.nw qa16 8 0 (fun _ => 0) (fun _ => none) = z := ⟨_, rfl⟩
        have hP : va_P D vwCl (X ++ PL cy S17) H := by rw [← hS17, ← e9]; exact hP2
        have hD : va_D A (X ++ PL cy S17) := by rw [← hS17, ← e9]; exact hD2
        have xe18 : ext S S17 := by rw [← hS17]; exact ext.nw hqa16
        have t19 : stp [(8, 2), (8, 3), (8, 4)] [] (qa16 :: []) S S17 := by rw [← hS17]; exact t0.nw hqa16 (Or.inl (by decide))
        refine W.widen (k := 5) (n := 29) (Nat.le_of_ble_eq_true rfl) (Nat.le_of_ble_eq_true rfl) ?_
        have aqa16 : isA S17 qa16 8 := by rw [← hS17]; exact nw_A (by decide)
        have fqa16 : ∀ j, S17.F qa16 j = none := by rw [← hS17]; exact nw_F
        have iqa16 : ∀ j, S17.I qa16 j = 0 := by rw [← hS17]; exact nw_I
        have bqa16 : qa16 ∉ S.L := fun e => hqa16 e
        refine lv_dup hx hb dX9_bestTrain_25 rfl ?_
        refine lv_iload_n hx hb dX9_bestTrain_26 rfl (lv_at hl 0 rfl) ?_
        refine lv_iload_n hx hb dX9_bestTrain_27 rfl (lv_at hl 1 rfl) ?_
        have hFc := free_all hD hS hA
        refine va_callv (va_runI (As := [.int x1, .int x2]) (rest := [.ref qa16]) ⟨hx, hb, hml, hown, hts⟩ (c_X8_init l (cy := cy) (X := X) (D := D) S17 _ qa16 aqa16 x1 x2 [] (t19.w) fqa16 iqa16) (cwI 2 hts gX9_bestTrain_X8_init rfl rfl rfl (hts (.initialized RX8) (by decide +kernel)) (hts (.methodLink RX9 217 yX8_init) (by decide +kernel)) (hts (.instanceMethod yX8_init) (by decide +kernel)) rfl (by decide +kernel) ⟨Nat.le_of_ble_eq_true rfl, Nat.le_of_ble_eq_true rfl⟩) (pS hP hK hD hN) rfl rfl hl.1 rfl (lv_room (Nat.le_of_ble_eq_true rfl)) dX9_bestTrain_28 ⟨Nat.le_of_ble_eq_true rfl, Nat.le_of_ble_eq_true rfl⟩) hS (fun q _ h => hFc q h) hFc (fun u t H1 locs ht hvm hw hB hz1 hk1 hS => ?_)
        obtain ⟨w21, y22, y23, y24, y25, y26⟩ := hw
        obtain ⟨hP, hD⟩ := wd_post hFc ht hB
        generalize H1 = H at hP hS ⊢
        obtain ⟨S27, rfl⟩ : ∃ z, z = u := ⟨_, rfl⟩
        have t28 : stp [(8, 2), (8, 3), (8, 4)] [] [] S S27 := t19.tr w21 (by decide) (fun z q => by rw [List.mem_singleton.mp q]; exact (Or.inr bqa16))
        have xe29 : ext S17 S27 := w21.x
        refine lv_astore (lv' := [(4, .ref qa16), (0, .int x1), (1, .int x2), (2, .int x3), (3, .int x4)]) hx hb dX9_bestTrain_31 hl (by decide) rfl (fun ls hl => ?_)
        refine lv_aload hx hb dX9_bestTrain_33 (lv_at hl 0 rfl) ?_
        refine lv_iload_n hx hb dX9_bestTrain_35 rfl (lv_at hl 3 rfl) ?_
        refine lv_iload_n hx hb dX9_bestTrain_36 rfl (lv_at hl 4 rfl) ?_
        have hFc := free_all hD hS hA
        obtain ⟨k30, gk30, hk30⟩ := wGt (cy := cy) X S27 (xe29.A aqa16).1 (xe29.A aqa16).2.1
        refine va_callv (va_runV (As := [.int x3, .int x4]) (rest := []) ⟨hx, hb, hml, hown, hts⟩ (c_X8_search l (cy := cy) (X := X) (D := D) S27 _ qa16 (xe29.A aqa16) x3 x4 (t28.w) (by omega) (by omega)) (cwV 2 hts gX9_bestTrain_X8_search rfl rfl rfl hd_X8_search ⟨Nat.le_of_ble_eq_true rfl, Nat.le_of_ble_eq_true rfl⟩) (pV (va_recv hK hP (q := (RX8, TX8, 5)) (ci := 12) (q0 := k30) rfl hk30) hP hK hD hN) rfl rfl hl.1 rfl (lv_room (Nat.le_of_ble_eq_true rfl)) dX9_bestTrain_37 ⟨Nat.le_of_ble_eq_true rfl, Nat.le_of_ble_eq_true rfl⟩) hS (fun q _ h => hFc q h) hFc (fun u t H1 locs ht hvm hw hB hz1 hk1 hS => ?_)
        have w32 := hw
        obtain ⟨hP, hD⟩ := wd_post hFc ht hB
        generalize H1 = H at hP hS ⊢
        obtain ⟨S33, rfl⟩ : ∃ z, z = u := ⟨_, rfl⟩
        have t34 : stp [(8, 2), (8, 3), (8, 4)] [] [] S S33 := t28.tr w32 (by decide) (fun _ q => absurd q List.not_mem_nil)
        have xe35 : ext S27 S33 := w32.x
        refine lv_aload hx hb dX9_bestTrain_40 (lv_at hl 0 rfl) ?_
        refine vx_ret ?_
        refine W.widen (k := 5) (n := 29) (Nat.le_of_ble_eq_true rfl) (Nat.le_of_ble_eq_true rfl) ?_
        exact W.aret (v := .ref qa16) hx hb hr (Or.inl ⟨_, rfl⟩) (Or.inr ⟨_, rfl⟩) (fun t ht hW9 => ⟨⟨some qa16, S33, rfl, ⟨qa16, rfl, t34, (xe35.A (xe29.A aqa16))⟩, wd_end hP hK hD ht hW9.alike⟩, hS.F ht⟩) hS.2.2 dX9_bestTrain_42 hlocks
theorem hi_X9_bestPair_X8 : ∀ w ∈ u_ws RX8 TX8 5, w ∈ wsX9_bestPair := by decide +kernel
theorem hd_X9_bestPair : yX9_bestPair.cls = RX9 ∧ yX9_bestPair.cls ≠ "java/lang/invoke/MethodHandle" ∧ yX9_bestPair.cls ≠ "java/lang/invoke/VarHandle" ∧ (parseMethodDescriptor yX9_bestPair.desc).map (fun d => d.parameters.length) = some 4 := by decide +kernel
set_option maxHeartbeats 4000000 in
set_option maxRecDepth 100000 in
theorem c_X9_bestPair (l : Launch) (hst : l.stackTraces = false) {D : va_G} {cy : Nat → ClassId} {X : va_W} (S : wPS) (sz : Nat) (o1 : Nat) (h_o1 : isA S o1 9) (x1 : Int32) (x2 : Int32) (x3 : Int32) (x4 : Int32) (hW : wtB S [])  : vx_Met l yX9_bestPair wsX9_bestPair ({ frames := 9, cells := 5, slots := 29, locals := 149 }) (va_Pc [.ref o1, .int x1, .int x2, .int x3, .int x4] (fun U => U.heap.size = sz ∧ WD D cy X (fun _ => True) S U ∧ NW U ∧ TH (va_A (X ++ PL cy S) sz) U)) (va_Qi (fun r (u : wPS) => stp [(8, 2), (8, 3), (8, 4)] [] [] S u) (fun u t => WD D cy X (va_A (X ++ PL cy S) sz) u t) (va_A (X ++ PL cy S) sz)) (vx_X (fun (u : wPS) => stp [(8, 2), (8, 3), (8, 4)] [] [] S u) (fun E u t => E ∈ ["java/lang/IllegalArgumentException"] ∧ WD D cy X (va_A (X ++ PL cy S) sz) u t) (va_A (X ++ PL cy S) sz)) 5 29 (va_A (X ++ PL cy S) sz) := by
  refine vx_ofW (cc := cX9_bestPair) (maxL := 5) (ret := (some .int)) (by decide) rfl ?_
  intro p e s m args below meth c s₁ B hml hno hv
  obtain ⟨rfl, hsz, ⟨hP, hK, hD0⟩, hN, hTH⟩ := hv
  have hx := B.exec
  have hb := B.bytes
  have hr := B.returns
  have hts := atoms_spec (ws := wsX9_bestPair) B.pre
  have hown : s.vm.findClass RX9 = some m.cls := findClass_of_methodNamed (x := yX9_bestPair) B.named
  have hlocks := B.notSynchronized
  subst hsz
  have hD := hD0.self (sz := s.heap.size)
  generalize hAe : va_A (X ++ PL cy S) s.heap.size = A at hD hTH ⊢
  have hA : ∀ q : Nat, s.heap.size ≤ q → A q := fun q h => by rw [← hAe]; exact Or.inr h
  have hS : va_S A s.heap s.heap [] := va_S.rf
  have hl := lv_entry ([.ref o1, .int x1, .int x2, .int x3, .int x4]) (n := 5) (Nat.le_of_ble_eq_true rfl)
  rw [lg_entry_eq]
  generalize (lg_sl ([.ref o1, .int x1, .int x2, .int x3, .int x4]) ++ List.replicate (5 - (lg_sl ([.ref o1, .int x1, .int x2, .int x3, .int x4])).length) Slot.unset).toArray = ls at hl ⊢
  have hl : lv_has ls 5 [(0, .ref o1), (1, .int x1), (2, .int x2), (3, .int x3), (4, .int x4)] := hl
  have t0 : stp [(8, 2), (8, 3), (8, 4)] [] [] S S := stp.rf hW
  refine lv_iload_n hx hb dX9_bestPair_0 rfl (lv_at hl 1 rfl) ?_
  refine lv_iload_n hx hb dX9_bestPair_1 rfl (lv_at hl 2 rfl) ?_
  refine lv_iload_n hx hb dX9_bestPair_2 rfl (lv_at hl 3 rfl) ?_
  refine lv_iload hx hb dX9_bestPair_3 (lv_at hl 4 rfl) ?_
  have hFc := free_all hD hS hA
  refine vx_callq (vx_runS (As := [.int x1, .int x2, .int x3, .int x4]) (rest := []) ⟨hx, hb, hml, hown, hts⟩ (c_X9_bestTrain l hst (cy := cy) (X := X) (D := D) S _ x1 x2 x3 x4 (hW)) (cwS 4 hts gX9_bestPair_X9_bestTrain rfl rfl rfl hd_X9_bestTrain ⟨Nat.le_of_ble_eq_true rfl, Nat.le_of_ble_eq_true rfl⟩) (pSt hP hK hD hN hTH hS hFc) rfl rfl hl.1 rfl (lv_room (Nat.le_of_ble_eq_true rfl)) dX9_bestPair_5 ⟨Nat.le_of_ble_eq_true rfl, Nat.le_of_ble_eq_true rfl⟩) hS (fun q _ h => hFc q h) hFc (fun q _ h => hFc q h) (fun E ce q9 u t H1 locs ht hvm hw hB hz1 hk1 hS hq9 hce hcl => ?_) (fun r1 u t H1 locs ht hvm hw hB hz1 hk1 hS => ?_)
  · obtain ⟨hEc2, hB2⟩ := hB
    obtain ⟨hP, hD⟩ := wd_post hFc ht hB2
    have t3 : stp [(8, 2), (8, 3), (8, 4)] [] [] S u := t0.tr hw (by decide) (fun _ q => absurd q List.not_mem_nil)
    have xe4 : ext S u := hw.x
    exact vx_out (fun x h => (hno x h).elim) hlocks hq9 hce hcl (fun t2 ht2 hA2 => ⟨u, t3, ⟨(el_in (by decide) hEc2), wd_end hP hK hD ht2 hA2⟩, hS.F ht2⟩) hS.2.2 (Nat.le_of_ble_eq_true rfl) (Nat.le_of_ble_eq_true rfl)
  · obtain ⟨r1, rfl, w5, o6⟩ := hw
    obtain ⟨hP, hD⟩ := wd_post hFc ht hB
    generalize H1 = H at hP hS ⊢
    obtain ⟨S7, rfl⟩ : ∃ z, z = u := ⟨_, rfl⟩
    have t8 : stp [(8, 2), (8, 3), (8, 4)] [] [] S S7 := t0.tr w5 (by decide) (fun _ q => absurd q List.not_mem_nil)
    have xe9 : ext S S7 := w5.x
    refine W.eq (g2 := F0 m 8 ls [.ref r1]) rfl ?_
    obtain ⟨k10, gk10, hk10⟩ := wGt (cy := cy) X S7 o6.1 o6.2.1
    refine va_getN (D := D) (ci := 12) (v := .int (S7.I r1 2)) (C := RX8) (T := TX8) (N := 5) hx hb hts hi_X9_bestPair_X8 hown hK hP k10 hk10 rfl 2 (by decide) (va_Nw.use rfl (hN (.fieldLinkNest RX9 201 "Hobhouse$Train" "first" "I" "Hobhouse") (by decide +kernel))) (fun _ h9 => h9) rfl dX9_bestPair_8 ?_
    refine vx_ret ?_
    refine W.widen (k := 5) (n := 29) (Nat.le_of_ble_eq_true rfl) (Nat.le_of_ble_eq_true rfl) ?_
    exact W.iret (v := S7.I r1 2) hx hb hr (fun t ht hW9 => ⟨⟨S7.I r1 2, S7, rfl, t8, wd_end hP hK hD ht hW9.alike⟩, hS.F ht⟩) hS.2.2 dX9_bestPair_11 hlocks
theorem hi_X9_bestMate_X8 : ∀ w ∈ u_ws RX8 TX8 5, w ∈ wsX9_bestMate := by decide +kernel
theorem hd_X9_bestMate : yX9_bestMate.cls = RX9 ∧ yX9_bestMate.cls ≠ "java/lang/invoke/MethodHandle" ∧ yX9_bestMate.cls ≠ "java/lang/invoke/VarHandle" ∧ (parseMethodDescriptor yX9_bestMate.desc).map (fun d => d.parameters.length) = some 4 := by decide +kernel
set_option maxHeartbeats 4000000 in
set_option maxRecDepth 100000 in
theorem c_X9_bestMate (l : Launch) (hst : l.stackTraces = false) {D : va_G} {cy : Nat → ClassId} {X : va_W} (S : wPS) (sz : Nat) (o1 : Nat) (h_o1 : isA S o1 9) (x1 : Int32) (x2 : Int32) (x3 : Int32) (x4 : Int32) (hW : wtB S [])  : vx_Met l yX9_bestMate wsX9_bestMate ({ frames := 9, cells := 5, slots := 29, locals := 149 }) (va_Pc [.ref o1, .int x1, .int x2, .int x3, .int x4] (fun U => U.heap.size = sz ∧ WD D cy X (fun _ => True) S U ∧ NW U ∧ TH (va_A (X ++ PL cy S) sz) U)) (va_Qi (fun r (u : wPS) => stp [(8, 2), (8, 3), (8, 4)] [] [] S u) (fun u t => WD D cy X (va_A (X ++ PL cy S) sz) u t) (va_A (X ++ PL cy S) sz)) (vx_X (fun (u : wPS) => stp [(8, 2), (8, 3), (8, 4)] [] [] S u) (fun E u t => E ∈ ["java/lang/IllegalArgumentException"] ∧ WD D cy X (va_A (X ++ PL cy S) sz) u t) (va_A (X ++ PL cy S) sz)) 5 29 (va_A (X ++ PL cy S) sz) := by
  refine vx_ofW (cc := cX9_bestMate) (maxL := 5) (ret := (some .int)) (by decide) rfl ?_
  intro p e s m args below meth c s₁ B hml hno hv
  obtain ⟨rfl, hsz, ⟨hP, hK, hD0⟩, hN, hTH⟩ := hv
  have hx := B.exec
  have hb := B.bytes
  have hr := B.returns
  have hts := atoms_spec (ws := wsX9_bestMate) B.pre
  have hown : s.vm.findClass RX9 = some m.cls := findClass_of_methodNamed (x := yX9_bestMate) B.named
  have hlocks := B.notSynchronized
  subst hsz
  have hD := hD0.self (sz := s.heap.size)
  generalize hAe : va_A (X ++ PL cy S) s.heap.size = A at hD hTH ⊢
  have hA : ∀ q : Nat, s.heap.size ≤ q → A q := fun q h => by rw [← hAe]; exact Or.inr h
  have hS : va_S A s.heap s.heap [] := va_S.rf
  have hl := lv_entry ([.ref o1, .int x1, .int x2, .int x3, .int x4]) (n := 5) (Nat.le_of_ble_eq_true rfl)
  rw [lg_entry_eq]
  generalize (lg_sl ([.ref o1, .int x1, .int x2, .int x3, .int x4]) ++ List.replicate (5 - (lg_sl ([.ref o1, .int x1, .int x2, .int x3, .int x4])).length) Slot.unset).toArray = ls at hl ⊢
  have hl : lv_has ls 5 [(0, .ref o1), (1, .int x1), (2, .int x2), (3, .int x3), (4, .int x4)] := hl
  have t0 : stp [(8, 2), (8, 3), (8, 4)] [] [] S S := stp.rf hW
  refine lv_iload_n hx hb dX9_bestMate_0 rfl (lv_at hl 1 rfl) ?_
  refine lv_iload_n hx hb dX9_bestMate_1 rfl (lv_at hl 2 rfl) ?_
  refine lv_iload_n hx hb dX9_bestMate_2 rfl (lv_at hl 3 rfl) ?_
  refine lv_iload hx hb dX9_bestMate_3 (lv_at hl 4 rfl) ?_
  have hFc := free_all hD hS hA
  refine vx_callq (vx_runS (As := [.int x1, .int x2, .int x3, .int x4]) (rest := []) ⟨hx, hb, hml, hown, hts⟩ (c_X9_bestTrain l hst (cy := cy) (X := X) (D := D) S _ x1 x2 x3 x4 (hW)) (cwS 4 hts gX9_bestMate_X9_bestTrain rfl rfl rfl hd_X9_bestTrain ⟨Nat.le_of_ble_eq_true rfl, Nat.le_of_ble_eq_true rfl⟩) (pSt hP hK hD hN hTH hS hFc) rfl rfl hl.1 rfl (lv_room (Nat.le_of_ble_eq_true rfl)) dX9_bestMate_5 ⟨Nat.le_of_ble_eq_true rfl, Nat.le_of_ble_eq_true rfl⟩) hS (fun q _ h => hFc q h) hFc (fun q _ h => hFc q h) (fun E ce q9 u t H1 locs ht hvm hw hB hz1 hk1 hS hq9 hce hcl => ?_) (fun r1 u t H1 locs ht hvm hw hB hz1 hk1 hS => ?_)
  · obtain ⟨hEc2, hB2⟩ := hB
    obtain ⟨hP, hD⟩ := wd_post hFc ht hB2
    have t3 : stp [(8, 2), (8, 3), (8, 4)] [] [] S u := t0.tr hw (by decide) (fun _ q => absurd q List.not_mem_nil)
    have xe4 : ext S u := hw.x
    exact vx_out (fun x h => (hno x h).elim) hlocks hq9 hce hcl (fun t2 ht2 hA2 => ⟨u, t3, ⟨(el_in (by decide) hEc2), wd_end hP hK hD ht2 hA2⟩, hS.F ht2⟩) hS.2.2 (Nat.le_of_ble_eq_true rfl) (Nat.le_of_ble_eq_true rfl)
  · obtain ⟨r1, rfl, w5, o6⟩ := hw
    obtain ⟨hP, hD⟩ := wd_post hFc ht hB
    generalize H1 = H at hP hS ⊢
    obtain ⟨S7, rfl⟩ : ∃ z, z = u := ⟨_, rfl⟩
    have t8 : stp [(8, 2), (8, 3), (8, 4)] [] [] S S7 := t0.tr w5 (by decide) (fun _ q => absurd q List.not_mem_nil)
    have xe9 : ext S S7 := w5.x
    refine W.eq (g2 := F0 m 8 ls [.ref r1]) rfl ?_
    obtain ⟨k10, gk10, hk10⟩ := wGt (cy := cy) X S7 o6.1 o6.2.1
    refine va_getN (D := D) (ci := 12) (v := .int (S7.I r1 3)) (C := RX8) (T := TX8) (N := 5) hx hb hts hi_X9_bestMate_X8 hown hK hP k10 hk10 rfl 3 (by decide) (va_Nw.use rfl (hN (.fieldLinkNest RX9 206 "Hobhouse$Train" "second" "I" "Hobhouse") (by decide +kernel))) (fun _ h9 => h9) rfl dX9_bestMate_8 ?_
    refine vx_ret ?_
    refine W.widen (k := 5) (n := 29) (Nat.le_of_ble_eq_true rfl) (Nat.le_of_ble_eq_true rfl) ?_
    exact W.iret (v := S7.I r1 3) hx hb hr (fun t ht hW9 => ⟨⟨S7.I r1 3, S7, rfl, t8, wd_end hP hK hD ht hW9.alike⟩, hS.F ht⟩) hS.2.2 dX9_bestMate_11 hlocks
set_option maxRecDepth 20000 in
theorem s_X9_tellOld_NSEE : ∀ w ∈ (vx_atI RX9 154 "java/util/NoSuchElementException" ["java/lang/RuntimeException", "java/lang/Exception"]).filter goodWord, w ∈ wsX9_tellOld := fun w h => List.mem_cons_of_mem _ (List.mem_append_left _ (List.mem_append_right _ h))
theorem hi_X9_tellOld_X5 : ∀ w ∈ u_ws RX5 TX5 6, w ∈ wsX9_tellOld := by decide +kernel
theorem hd_X9_tellOld : yX9_tellOld.cls = RX9 ∧ yX9_tellOld.cls ≠ "java/lang/invoke/MethodHandle" ∧ yX9_tellOld.cls ≠ "java/lang/invoke/VarHandle" ∧ (parseMethodDescriptor yX9_tellOld.desc).map (fun d => d.parameters.length) = some 3 := by decide +kernel
set_option maxHeartbeats 4000000 in
set_option maxRecDepth 100000 in
theorem c_X9_tellOld (l : Launch) (hst : l.stackTraces = false) {D : va_G} {cy : Nat → ClassId} {X : va_W} (S : wPS) (sz : Nat) (x1 : Int32) (x2 : Int32) (x3 : Int32) (hW : wtB S [])  : vx_Met l yX9_tellOld wsX9_tellOld ({ frames := 8, cells := 5, slots := 30, locals := 124 }) (va_Pc [.int x1, .int x2, .int x3] (fun U => U.heap.size = sz ∧ WD D cy X (fun _ => True) S U ∧ NW U ∧ TH (va_A (X ++ PL cy S) sz) U)) (va_Qq (fun r (u : wPS) => ∃ a : Nat, r = some a ∧ stp [(5, 3), (5, 4), (5, 5)] [] [] S u ∧ isA u a 5) (fun u t => WD D cy X (va_A (X ++ PL cy S) sz) u t) (va_A (X ++ PL cy S) sz)) (vx_X (fun (u : wPS) => stp [(5, 3), (5, 4), (5, 5)] [] [] S u) (fun E u t => E ∈ ["java/lang/IllegalArgumentException", "java/util/NoSuchElementException"] ∧ WD D cy X (va_A (X ++ PL cy S) sz) u t) (va_A (X ++ PL cy S) sz)) 5 30 (va_A (X ++ PL cy S) sz) := by
  refine vx_ofW (cc := cX9_tellOld) (maxL := 4) (ret := (some (.object "Hobhouse$OldGear"))) (by decide) rfl ?_
  intro p e s m args below meth c s₁ B hml hno hv
  obtain ⟨rfl, hsz, ⟨hP, hK, hD0⟩, hN, hTH⟩ := hv
  have hx := B.exec
  have hb := B.bytes
  have hr := B.returns
  have hts := atoms_spec (ws := wsX9_tellOld) B.pre
  have hown : s.vm.findClass RX9 = some m.cls := findClass_of_methodNamed (x := yX9_tellOld) B.named
  have hlocks := B.notSynchronized
  subst hsz
  have hD := hD0.self (sz := s.heap.size)
  generalize hAe : va_A (X ++ PL cy S) s.heap.size = A at hD hTH ⊢
  have hA : ∀ q : Nat, s.heap.size ≤ q → A q := fun q h => by rw [← hAe]; exact Or.inr h
  have hS : va_S A s.heap s.heap [] := va_S.rf
  have hl := lv_entry ([.int x1, .int x2, .int x3]) (n := 4) (Nat.le_of_ble_eq_true rfl)
  rw [lg_entry_eq]
  generalize (lg_sl ([.int x1, .int x2, .int x3]) ++ List.replicate (4 - (lg_sl ([.int x1, .int x2, .int x3])).length) Slot.unset).toArray = ls at hl ⊢
  have hl : lv_has ls 4 [(0, .int x1), (1, .int x2), (2, .int x3)] := hl
  have t0 : stp [(5, 3), (5, 4), (5, 5)] [] [] S S := stp.rf hW
  refine lv_iload_n hx hb dX9_tellOld_0 rfl (lv_at hl 0 rfl) ?_
  have hFc := free_all hD hS hA
  refine vx_callv (vx_runS (As := [.int x1]) (rest := []) ⟨hx, hb, hml, hown, hts⟩ (c_X9_needTeeth l hst (cy := cy) (X := X) (D := D) S _ x1) (cwS 1 hts gX9_tellOld_X9_needTeeth rfl rfl rfl hd_X9_needTeeth ⟨Nat.le_of_ble_eq_true rfl, Nat.le_of_ble_eq_true rfl⟩) (pSt hP hK hD hN hTH hS hFc) rfl rfl hl.1 rfl (lv_room (Nat.le_of_ble_eq_true rfl)) dX9_tellOld_1 ⟨Nat.le_of_ble_eq_true rfl, Nat.le_of_ble_eq_true rfl⟩) hS (fun q _ h => hFc q h) hFc (fun q _ h => hFc q h) (fun E ce q9 u t H1 locs ht hvm hw hB hz1 hk1 hS hq9 hce hcl => ?_) (fun u t H1 locs ht hvm hw hB hz1 hk1 hS => ?_)
  · obtain ⟨c2, hEc2, hB2⟩ := hB
    obtain ⟨hP, hD⟩ := wd_post hFc ht hB2
    exact vx_out (fun x h => (hno x h).elim) hlocks hq9 hce hcl (fun t2 ht2 hA2 => ⟨S, t0, ⟨(el_in (by decide) hEc2), wd_end hP hK hD ht2 hA2⟩, hS.F ht2⟩) hS.2.2 (Nat.le_of_ble_eq_true rfl) (Nat.le_of_ble_eq_true rfl)
  · have c3 := hw
    obtain ⟨hP, hD⟩ := wd_post hFc ht hB
    generalize H1 = H at hP hS ⊢
    have i4 := nt_i c3
    refine lv_iload_n hx hb dX9_tellOld_4 rfl (lv_at hl 1 rfl) ?_
    refine lv_sipush (v := 1000) hx hb dX9_tellOld_5 (by decide +kernel) ?_
    refine lv_ldcw (own := RX9) (v := 9999999) hx hb hown (hts (.constant RX9 489 (9999999)) (by decide +kernel)) dX9_tellOld_8 ?_
    have l32_1000 : (1000 : Int32).toInt = 1000 := rfl
    have l32_9999999 : (9999999 : Int32).toInt = 9999999 := rfl
    have hFc := free_all hD hS hA
    refine vx_callv (vx_runS (As := [.int x2, .int (1000 : Int32), .int (9999999 : Int32)]) (rest := []) ⟨hx, hb, hml, hown, hts⟩ (c_X9_needRange l hst (cy := cy) (X := X) (D := D) S _ x2 (1000 : Int32) (9999999 : Int32)) (cwS 3 hts gX9_tellOld_X9_needRange rfl rfl rfl hd_X9_needRange ⟨Nat.le_of_ble_eq_true rfl, Nat.le_of_ble_eq_true rfl⟩) (pSt hP hK hD hN hTH hS hFc) rfl rfl hl.1 rfl (lv_room (Nat.le_of_ble_eq_true rfl)) dX9_tellOld_11 ⟨Nat.le_of_ble_eq_true rfl, Nat.le_of_ble_eq_true rfl⟩) hS (fun q _ h => hFc q h) hFc (fun q _ h => hFc q h) (fun E ce q9 u t H1 locs ht hvm hw hB hz1 hk1 hS hq9 hce hcl => ?_) (fun u t H1 locs ht hvm hw hB hz1 hk1 hS => ?_)
    · obtain ⟨c6, hEc6, hB2⟩ := hB
      obtain ⟨hP, hD⟩ := wd_post hFc ht hB2
      exact vx_out (fun x h => (hno x h).elim) hlocks hq9 hce hcl (fun t2 ht2 hA2 => ⟨S, t0, ⟨(el_in (by decide) hEc6), wd_end hP hK hD ht2 hA2⟩, hS.F ht2⟩) hS.2.2 (Nat.le_of_ble_eq_true rfl) (Nat.le_of_ble_eq_true rfl)
    · have c7 := hw
      obtain ⟨hP, hD⟩ := wd_post hFc ht hB
      generalize H1 = H at hP hS ⊢
      have i8 := nr_i c7
      have i8l := i8.1
      have i8h := i8.2
      have l9 : (1000 : Int32).toInt = 1000 := rfl
      have l10 : (9999999 : Int32).toInt = 9999999 := rfl
      refine lv_iload_n hx hb dX9_tellOld_14 rfl (lv_at hl 2 rfl) ?_
      refine lv_iconst (v := 0) hx hb dX9_tellOld_15 (by decide) ?_
      refine lv_sipush (v := 9999) hx hb dX9_tellOld_16 (by decide +kernel) ?_
      have l32_0 : (0 : Int32).toInt = 0 := rfl
      have l32_9999 : (9999 : Int32).toInt = 9999 := rfl
      have hFc := free_all hD hS hA
      refine vx_callv (vx_runS (As := [.int x3, .int (0 : Int32), .int (9999 : Int32)]) (rest := []) ⟨hx, hb, hml, hown, hts⟩ (c_X9_needRange l hst (cy := cy) (X := X) (D := D) S _ x3 (0 : Int32) (9999 : Int32)) (cwS 3 hts gX9_tellOld_X9_needRange rfl rfl rfl hd_X9_needRange ⟨Nat.le_of_ble_eq_true rfl, Nat.le_of_ble_eq_true rfl⟩) (pSt hP hK hD hN hTH hS hFc) rfl rfl hl.1 rfl (lv_room (Nat.le_of_ble_eq_true rfl)) dX9_tellOld_19 ⟨Nat.le_of_ble_eq_true rfl, Nat.le_of_ble_eq_true rfl⟩) hS (fun q _ h => hFc q h) hFc (fun q _ h => hFc q h) (fun E ce q9 u t H1 locs ht hvm hw hB hz1 hk1 hS hq9 hce hcl => ?_) (fun u t H1 locs ht hvm hw hB hz1 hk1 hS => ?_)
      · obtain ⟨c12, hEc12, hB2⟩ := hB
        obtain ⟨hP, hD⟩ := wd_post hFc ht hB2
        exact vx_out (fun x h => (hno x h).elim) hlocks hq9 hce hcl (fun t2 ht2 hA2 => ⟨S, t0, ⟨(el_in (by decide) hEc12), wd_end hP hK hD ht2 hA2⟩, hS.F ht2⟩) hS.2.2 (Nat.le_of_ble_eq_true rfl) (Nat.le_of_ble_eq_true rfl)
      · have c13 := hw
        obtain ⟨hP, hD⟩ := wd_post hFc ht hB
        generalize H1 = H at hP hS ⊢
        have i14 := nr_i c13
        have i14l := i14.1
        have i14h := i14.2
        have l15 : (0 : Int32).toInt = 0 := rfl
        have l16 : (9999 : Int32).toInt = 9999 := rfl
        refine va_new (ci := 9) (fs := [.int 0, .int 0, .int 0, .int 0, .int 0, .int 0]) (C := RX5) (T := TX5) (N := 6) hx hb hts hi_X9_tellOld_X5 tyX5 tyX5_ok hown (hts (.classLink RX9 486 RX5) (by decide +kernel)) (hts (.instantiable RX5 6) (by decide +kernel)) (hts (.initialized RX5) (by decide +kernel)) hK hP hD hS hA rfl (fun j hj => by rcases (show j = 0 ∨ j = 1 ∨ j = 2 ∨ j = 3 ∨ j = 4 ∨ j = 5 by omega) with rfl | rfl | rfl | rfl | rfl | rfl <;> rfl) (Nat.le_of_ble_eq_true rfl) (Nat.le_of_ble_eq_true rfl) dX9_tellOld_22 (fun qa17 H hP2 hD2 hS => ?_)
        have hqa17 : qa17 ∉ S.L := nw_q hD2
        have e9 := wNw (cy := cy) (X := X) (S := S) (a := qa17) (k := 5) (z := 0) (f := fun _ => 0) (g := fun _ => none) hqa17 rfl
        obtain ⟨S18, hS18⟩ : ∃ z, S.nw qa17 5 0 (fun _ => 0) (fun _ => none) = z := ⟨_, rfl⟩
        have hP : va_P D vwCl (X ++ PL cy S18) H := by rw [← hS18, ← e9]; exact hP2
        have hD : va_D A (X ++ PL cy S18) := by rw [← hS18, ← e9]; exact hD2
        have xe19 : ext S S18 := by rw [← hS18]; exact ext.nw hqa17
        have t20 : stp [(5, 3), (5, 4), (5, 5)] [] (qa17 :: []) S S18 := by rw [← hS18]; exact t0.nw hqa17 (Or.inl (by decide))
        refine W.widen (k := 4) (n := 24) (Nat.le_of_ble_eq_true rfl) (Nat.le_of_ble_eq_true rfl) ?_
        have aqa17 : isA S18 qa17 5 := by rw [← hS18]; exact nw_A (by decide)
        have fqa17 : ∀ j, S18.F qa17 j = none := by rw [← hS18]; exact nw_F
        have iqa17 : ∀ j, S18.I qa17 j = 0 := by rw [← hS18]; exact nw_I
        have bqa17 : qa17 ∉ S.L := fun e => hqa17 e
        refine lv_dup hx hb dX9_tellOld_25 rfl ?_
        refine lv_iload_n hx hb dX9_tellOld_26 rfl (lv_at hl 0 rfl) ?_
        refine lv_iload_n hx hb dX9_tellOld_27 rfl (lv_at hl 1 rfl) ?_
        refine lv_iload_n hx hb dX9_tellOld_28 rfl (lv_at hl 2 rfl) ?_
        have hFc := free_all hD hS hA
        refine va_callv (va_runI (As := [.int x1, .int x2, .int x3]) (rest := [.ref qa17]) ⟨hx, hb, hml, hown, hts⟩ (c_X5_init l (cy := cy) (X := X) (D := D) S18 _ qa17 aqa17 x1 x2 x3 [] (t20.w) fqa17 iqa17) (cwI 3 hts gX9_tellOld_X5_init rfl rfl rfl (hts (.initialized RX5) (by decide +kernel)) (hts (.methodLink RX9 490 yX5_init) (by decide +kernel)) (hts (.instanceMethod yX5_init) (by decide +kernel)) rfl (by decide +kernel) ⟨Nat.le_of_ble_eq_true rfl, Nat.le_of_ble_eq_true rfl⟩) (pS hP hK hD hN) rfl rfl hl.1 rfl (lv_room (Nat.le_of_ble_eq_true rfl)) dX9_tellOld_29 ⟨Nat.le_of_ble_eq_true rfl, Nat.le_of_ble_eq_true rfl⟩) hS (fun q _ h => hFc q h) hFc (fun u t H1 locs ht hvm hw hB hz1 hk1 hS => ?_)
        obtain ⟨w22, y23, y24, y25, y26, y27, y28, y29⟩ := hw
        obtain ⟨hP, hD⟩ := wd_post hFc ht hB
        generalize H1 = H at hP hS ⊢
        obtain ⟨S30, rfl⟩ : ∃ z, z = u := ⟨_, rfl⟩
        have t31 : stp [(5, 3), (5, 4), (5, 5)] [] [] S S30 := t20.tr w22 (by decide) (fun z q => by rw [List.mem_singleton.mp q]; exact (Or.inr bqa17))
        have xe32 : ext S18 S30 := w22.x
        refine lv_astore_n (lv' := [(3, .ref qa17), (0, .int x1), (1, .int x2), (2, .int x3)]) hx hb dX9_tellOld_32 rfl hl (by decide) rfl (fun ls hl => ?_)
        refine lv_aload_n hx hb dX9_tellOld_33 rfl (lv_at hl 0 rfl) ?_
        have hFc := free_all hD hS hA
        obtain ⟨k33, gk33, hk33⟩ := wGt (cy := cy) X S30 (xe32.A aqa17).1 (xe32.A aqa17).2.1
        refine va_callv (va_runV (As := []) (rest := []) ⟨hx, hb, hml, hown, hts⟩ (c_X5_search l (cy := cy) (X := X) (D := D) S30 _ qa17 (xe32.A aqa17) (t31.w)) (cwV 0 hts gX9_tellOld_X5_search rfl rfl rfl hd_X5_search ⟨Nat.le_of_ble_eq_true rfl, Nat.le_of_ble_eq_true rfl⟩) (pV (va_recv hK hP (q := (RX5, TX5, 6)) (ci := 9) (q0 := k33) rfl hk33) hP hK hD hN) rfl rfl hl.1 rfl (lv_room (Nat.le_of_ble_eq_true rfl)) dX9_tellOld_34 ⟨Nat.le_of_ble_eq_true rfl, Nat.le_of_ble_eq_true rfl⟩) hS (fun q _ h => hFc q h) hFc (fun u t H1 locs ht hvm hw hB hz1 hk1 hS => ?_)
        have w35 := hw
        obtain ⟨hP, hD⟩ := wd_post hFc ht hB
        generalize H1 = H at hP hS ⊢
        obtain ⟨S36, rfl⟩ : ∃ z, z = u := ⟨_, rfl⟩
        have t37 : stp [(5, 3), (5, 4), (5, 5)] [] [] S S36 := t31.tr w35 (by decide) (fun _ q => absurd q List.not_mem_nil)
        have xe38 : ext S30 S36 := w35.x
        refine lv_aload_n hx hb dX9_tellOld_37 rfl (lv_at hl 0 rfl) ?_
        have hFc := free_all hD hS hA
        obtain ⟨k39, gk39, hk39⟩ := wGt (cy := cy) X S36 (xe38.A (xe32.A aqa17)).1 (xe38.A (xe32.A aqa17)).2.1
        refine va_calli (va_runV (As := []) (rest := []) ⟨hx, hb, hml, hown, hts⟩ (c_X5_isFound l (cy := cy) (X := X) (D := D) S36 _ qa17 (xe38.A (xe32.A aqa17))) (cwV 0 hts gX9_tellOld_X5_isFound rfl rfl rfl hd_X5_isFound ⟨Nat.le_of_ble_eq_true rfl, Nat.le_of_ble_eq_true rfl⟩) (pV (va_recv hK hP (q := (RX5, TX5, 6)) (ci := 9) (q0 := k39) rfl hk39) hP hK hD hN) rfl rfl hl.1 rfl (lv_room (Nat.le_of_ble_eq_true rfl)) dX9_tellOld_38 ⟨Nat.le_of_ble_eq_true rfl, Nat.le_of_ble_eq_true rfl⟩) hS (fun q _ h => hFc q h) hFc (fun r40 u t H1 locs ht hvm hw hB hz1 hk1 hS => ?_)
        have c41 := hw
        obtain ⟨hP, hD⟩ := wd_post hFc ht hB
        generalize H1 = H at hP hS ⊢
        obtain rfl : f_X5_isFound S36 qa17 = r40 := c41.symm
        refine lv_if_ne (tgt := 55) hx hb dX9_tellOld_41 (by decide) (fun c42 => ?_) (fun c42 => ?_)
        · have c42i : ¬ (f_X5_isFound S36 qa17).toInt = 0 := neq_v rfl rfl c42
          refine lv_aload_n hx hb dX9_tellOld_55 rfl (lv_at hl 0 rfl) ?_
          refine vx_ret ?_
          refine W.widen (k := 5) (n := 30) (Nat.le_of_ble_eq_true rfl) (Nat.le_of_ble_eq_true rfl) ?_
          exact W.aret (v := .ref qa17) hx hb hr (Or.inl ⟨_, rfl⟩) (Or.inr ⟨_, rfl⟩) (fun t ht hW9 => ⟨⟨some qa17, S36, rfl, ⟨qa17, rfl, t37, (xe38.A (xe32.A aqa17))⟩, wd_end hP hK hD ht hW9.alike⟩, hS.F ht⟩) hS.2.2 dX9_tellOld_56 hlocks
        · have c42i : (f_X5_isFound S36 qa17).toInt = 0 := eq_v rfl rfl c42
          obtain ⟨sa, hsa⟩ := hTH.2.2 (RX9, 497, "no gear is meant") (by decide +kernel)
          exact vx_throwIW hx hb hst hown (by decide +kernel) (by decide +kernel) (hts (.classLink RX9 150 "java/util/NoSuchElementException") (by decide +kernel)) (hts (.initialized "java/util/NoSuchElementException") (by decide +kernel)) hsa (th_at (B := exW_X9_NSEE) (fun w h => hts w (s_X9_tellOld_NSEE w h)) rfl (by simp only [exW, List.mem_append]; intro w h; simp [h]) hTH.2.1) (List.forall_mem_cons.mpr ⟨by decide +kernel, List.forall_mem_cons.mpr ⟨by decide +kernel, exW_X9_NSEE_ok⟩⟩) hTH.1.1 hTH.1.2 hS (hl.1.trans hml.symm) dX9_tellOld_44 dX9_tellOld_47 dX9_tellOld_48 dX9_tellOld_51 dX9_tellOld_54 (fun x h => (hno x h).elim) (Nat.le_of_ble_eq_true rfl) (Nat.le_of_ble_eq_true rfl) (Nat.le_of_ble_eq_true rfl) (Nat.le_of_ble_eq_true rfl) hlocks (fun t hA2 h1 h2 => ⟨S36, t37, ⟨(by decide), wd_exc hP hK hD hA2 h2⟩, exc_F hS h1 h2⟩) hS.2.2 (Nat.le_of_ble_eq_true rfl) (Nat.le_of_ble_eq_true rfl)
theorem hi_X9_oldModule_X5 : ∀ w ∈ u_ws RX5 TX5 6, w ∈ wsX9_oldModule := by decide +kernel
theorem hd_X9_oldModule : yX9_oldModule.cls = RX9 ∧ yX9_oldModule.cls ≠ "java/lang/invoke/MethodHandle" ∧ yX9_oldModule.cls ≠ "java/lang/invoke/VarHandle" ∧ (parseMethodDescriptor yX9_oldModule.desc).map (fun d => d.parameters.length) = some 3 := by decide +kernel
set_option maxHeartbeats 4000000 in
set_option maxRecDepth 100000 in
theorem c_X9_oldModule (l : Launch) (hst : l.stackTraces = false) {D : va_G} {cy : Nat → ClassId} {X : va_W} (S : wPS) (sz : Nat) (o1 : Nat) (h_o1 : isA S o1 9) (x1 : Int32) (x2 : Int32) (x3 : Int32) (hW : wtB S [])  : vx_Met l yX9_oldModule wsX9_oldModule ({ frames := 9, cells := 5, slots := 30, locals := 147 }) (va_Pc [.ref o1, .int x1, .int x2, .int x3] (fun U => U.heap.size = sz ∧ WD D cy X (fun _ => True) S U ∧ NW U ∧ TH (va_A (X ++ PL cy S) sz) U)) (va_Qi (fun r (u : wPS) => stp [(5, 3), (5, 4), (5, 5)] [] [] S u) (fun u t => WD D cy X (va_A (X ++ PL cy S) sz) u t) (va_A (X ++ PL cy S) sz)) (vx_X (fun (u : wPS) => stp [(5, 3), (5, 4), (5, 5)] [] [] S u) (fun E u t => E ∈ ["java/lang/IllegalArgumentException", "java/util/NoSuchElementException"] ∧ WD D cy X (va_A (X ++ PL cy S) sz) u t) (va_A (X ++ PL cy S) sz)) 5 30 (va_A (X ++ PL cy S) sz) := by
  refine vx_ofW (cc := cX9_oldModule) (maxL := 4) (ret := (some .int)) (by decide) rfl ?_
  intro p e s m args below meth c s₁ B hml hno hv
  obtain ⟨rfl, hsz, ⟨hP, hK, hD0⟩, hN, hTH⟩ := hv
  have hx := B.exec
  have hb := B.bytes
  have hr := B.returns
  have hts := atoms_spec (ws := wsX9_oldModule) B.pre
  have hown : s.vm.findClass RX9 = some m.cls := findClass_of_methodNamed (x := yX9_oldModule) B.named
  have hlocks := B.notSynchronized
  subst hsz
  have hD := hD0.self (sz := s.heap.size)
  generalize hAe : va_A (X ++ PL cy S) s.heap.size = A at hD hTH ⊢
  have hA : ∀ q : Nat, s.heap.size ≤ q → A q := fun q h => by rw [← hAe]; exact Or.inr h
  have hS : va_S A s.heap s.heap [] := va_S.rf
  have hl := lv_entry ([.ref o1, .int x1, .int x2, .int x3]) (n := 4) (Nat.le_of_ble_eq_true rfl)
  rw [lg_entry_eq]
  generalize (lg_sl ([.ref o1, .int x1, .int x2, .int x3]) ++ List.replicate (4 - (lg_sl ([.ref o1, .int x1, .int x2, .int x3])).length) Slot.unset).toArray = ls at hl ⊢
  have hl : lv_has ls 4 [(0, .ref o1), (1, .int x1), (2, .int x2), (3, .int x3)] := hl
  have t0 : stp [(5, 3), (5, 4), (5, 5)] [] [] S S := stp.rf hW
  refine lv_iload_n hx hb dX9_oldModule_0 rfl (lv_at hl 1 rfl) ?_
  refine lv_iload_n hx hb dX9_oldModule_1 rfl (lv_at hl 2 rfl) ?_
  refine lv_iload_n hx hb dX9_oldModule_2 rfl (lv_at hl 3 rfl) ?_
  have hFc := free_all hD hS hA
  refine vx_callq (vx_runS (As := [.int x1, .int x2, .int x3]) (rest := []) ⟨hx, hb, hml, hown, hts⟩ (c_X9_tellOld l hst (cy := cy) (X := X) (D := D) S _ x1 x2 x3 (hW)) (cwS 3 hts gX9_oldModule_X9_tellOld rfl rfl rfl hd_X9_tellOld ⟨Nat.le_of_ble_eq_true rfl, Nat.le_of_ble_eq_true rfl⟩) (pSt hP hK hD hN hTH hS hFc) rfl rfl hl.1 rfl (lv_room (Nat.le_of_ble_eq_true rfl)) dX9_oldModule_3 ⟨Nat.le_of_ble_eq_true rfl, Nat.le_of_ble_eq_true rfl⟩) hS (fun q _ h => hFc q h) hFc (fun q _ h => hFc q h) (fun E ce q9 u t H1 locs ht hvm hw hB hz1 hk1 hS hq9 hce hcl => ?_) (fun r1 u t H1 locs ht hvm hw hB hz1 hk1 hS => ?_)
  · obtain ⟨hEc2, hB2⟩ := hB
    obtain ⟨hP, hD⟩ := wd_post hFc ht hB2
    have t3 : stp [(5, 3), (5, 4), (5, 5)] [] [] S u := t0.tr hw (by decide) (fun _ q => absurd q List.not_mem_nil)
    have xe4 : ext S u := hw.x
    exact vx_out (fun x h => (hno x h).elim) hlocks hq9 hce hcl (fun t2 ht2 hA2 => ⟨u, t3, ⟨(el_in (by decide) hEc2), wd_end hP hK hD ht2 hA2⟩, hS.F ht2⟩) hS.2.2 (Nat.le_of_ble_eq_true rfl) (Nat.le_of_ble_eq_true rfl)
  · obtain ⟨r1, rfl, w5, o6⟩ := hw
    obtain ⟨hP, hD⟩ := wd_post hFc ht hB
    generalize H1 = H at hP hS ⊢
    obtain ⟨S7, rfl⟩ : ∃ z, z = u := ⟨_, rfl⟩
    have t8 : stp [(5, 3), (5, 4), (5, 5)] [] [] S S7 := t0.tr w5 (by decide) (fun _ q => absurd q List.not_mem_nil)
    have xe9 : ext S S7 := w5.x
    refine W.eq (g2 := F0 m 6 ls [.ref r1]) rfl ?_
    obtain ⟨k10, gk10, hk10⟩ := wGt (cy := cy) X S7 o6.1 o6.2.1
    refine va_getN (D := D) (ci := 9) (v := .int (S7.I r1 3)) (C := RX5) (T := TX5) (N := 6) hx hb hts hi_X9_oldModule_X5 hown hK hP k10 hk10 rfl 3 (by decide) (va_Nw.use rfl (hN (.fieldLinkNest RX9 485 "Hobhouse$OldGear" "module" "I" "Hobhouse") (by decide +kernel))) (fun _ h9 => h9) rfl dX9_oldModule_6 ?_
    refine vx_ret ?_
    refine W.widen (k := 5) (n := 30) (Nat.le_of_ble_eq_true rfl) (Nat.le_of_ble_eq_true rfl) ?_
    exact W.iret (v := S7.I r1 3) hx hb hr (fun t ht hW9 => ⟨⟨S7.I r1 3, S7, rfl, t8, wd_end hP hK hD ht hW9.alike⟩, hS.F ht⟩) hS.2.2 dX9_oldModule_9 hlocks
theorem hi_X9_oldShift_X5 : ∀ w ∈ u_ws RX5 TX5 6, w ∈ wsX9_oldShift := by decide +kernel
theorem hd_X9_oldShift : yX9_oldShift.cls = RX9 ∧ yX9_oldShift.cls ≠ "java/lang/invoke/MethodHandle" ∧ yX9_oldShift.cls ≠ "java/lang/invoke/VarHandle" ∧ (parseMethodDescriptor yX9_oldShift.desc).map (fun d => d.parameters.length) = some 3 := by decide +kernel
set_option maxHeartbeats 4000000 in
set_option maxRecDepth 100000 in
theorem c_X9_oldShift (l : Launch) (hst : l.stackTraces = false) {D : va_G} {cy : Nat → ClassId} {X : va_W} (S : wPS) (sz : Nat) (o1 : Nat) (h_o1 : isA S o1 9) (x1 : Int32) (x2 : Int32) (x3 : Int32) (hW : wtB S [])  : vx_Met l yX9_oldShift wsX9_oldShift ({ frames := 9, cells := 5, slots := 30, locals := 147 }) (va_Pc [.ref o1, .int x1, .int x2, .int x3] (fun U => U.heap.size = sz ∧ WD D cy X (fun _ => True) S U ∧ NW U ∧ TH (va_A (X ++ PL cy S) sz) U)) (va_Qi (fun r (u : wPS) => stp [(5, 3), (5, 4), (5, 5)] [] [] S u) (fun u t => WD D cy X (va_A (X ++ PL cy S) sz) u t) (va_A (X ++ PL cy S) sz)) (vx_X (fun (u : wPS) => stp [(5, 3), (5, 4), (5, 5)] [] [] S u) (fun E u t => E ∈ ["java/lang/IllegalArgumentException", "java/util/NoSuchElementException"] ∧ WD D cy X (va_A (X ++ PL cy S) sz) u t) (va_A (X ++ PL cy S) sz)) 5 30 (va_A (X ++ PL cy S) sz) := by
  refine vx_ofW (cc := cX9_oldShift) (maxL := 4) (ret := (some .int)) (by decide) rfl ?_
  intro p e s m args below meth c s₁ B hml hno hv
  obtain ⟨rfl, hsz, ⟨hP, hK, hD0⟩, hN, hTH⟩ := hv
  have hx := B.exec
  have hb := B.bytes
  have hr := B.returns
  have hts := atoms_spec (ws := wsX9_oldShift) B.pre
  have hown : s.vm.findClass RX9 = some m.cls := findClass_of_methodNamed (x := yX9_oldShift) B.named
  have hlocks := B.notSynchronized
  subst hsz
  have hD := hD0.self (sz := s.heap.size)
  generalize hAe : va_A (X ++ PL cy S) s.heap.size = A at hD hTH ⊢
  have hA : ∀ q : Nat, s.heap.size ≤ q → A q := fun q h => by rw [← hAe]; exact Or.inr h
  have hS : va_S A s.heap s.heap [] := va_S.rf
  have hl := lv_entry ([.ref o1, .int x1, .int x2, .int x3]) (n := 4) (Nat.le_of_ble_eq_true rfl)
  rw [lg_entry_eq]
  generalize (lg_sl ([.ref o1, .int x1, .int x2, .int x3]) ++ List.replicate (4 - (lg_sl ([.ref o1, .int x1, .int x2, .int x3])).length) Slot.unset).toArray = ls at hl ⊢
  have hl : lv_has ls 4 [(0, .ref o1), (1, .int x1), (2, .int x2), (3, .int x3)] := hl
  have t0 : stp [(5, 3), (5, 4), (5, 5)] [] [] S S := stp.rf hW
  refine lv_iload_n hx hb dX9_oldShift_0 rfl (lv_at hl 1 rfl) ?_
  refine lv_iload_n hx hb dX9_oldShift_1 rfl (lv_at hl 2 rfl) ?_
  refine lv_iload_n hx hb dX9_oldShift_2 rfl (lv_at hl 3 rfl) ?_
  have hFc := free_all hD hS hA
  refine vx_callq (vx_runS (As := [.int x1, .int x2, .int x3]) (rest := []) ⟨hx, hb, hml, hown, hts⟩ (c_X9_tellOld l hst (cy := cy) (X := X) (D := D) S _ x1 x2 x3 (hW)) (cwS 3 hts gX9_oldShift_X9_tellOld rfl rfl rfl hd_X9_tellOld ⟨Nat.le_of_ble_eq_true rfl, Nat.le_of_ble_eq_true rfl⟩) (pSt hP hK hD hN hTH hS hFc) rfl rfl hl.1 rfl (lv_room (Nat.le_of_ble_eq_true rfl)) dX9_oldShift_3 ⟨Nat.le_of_ble_eq_true rfl, Nat.le_of_ble_eq_true rfl⟩) hS (fun q _ h => hFc q h) hFc (fun q _ h => hFc q h) (fun E ce q9 u t H1 locs ht hvm hw hB hz1 hk1 hS hq9 hce hcl => ?_) (fun r1 u t H1 locs ht hvm hw hB hz1 hk1 hS => ?_)
  · obtain ⟨hEc2, hB2⟩ := hB
    obtain ⟨hP, hD⟩ := wd_post hFc ht hB2
    have t3 : stp [(5, 3), (5, 4), (5, 5)] [] [] S u := t0.tr hw (by decide) (fun _ q => absurd q List.not_mem_nil)
    have xe4 : ext S u := hw.x
    exact vx_out (fun x h => (hno x h).elim) hlocks hq9 hce hcl (fun t2 ht2 hA2 => ⟨u, t3, ⟨(el_in (by decide) hEc2), wd_end hP hK hD ht2 hA2⟩, hS.F ht2⟩) hS.2.2 (Nat.le_of_ble_eq_true rfl) (Nat.le_of_ble_eq_true rfl)
  · obtain ⟨r1, rfl, w5, o6⟩ := hw
    obtain ⟨hP, hD⟩ := wd_post hFc ht hB
    generalize H1 = H at hP hS ⊢
    obtain ⟨S7, rfl⟩ : ∃ z, z = u := ⟨_, rfl⟩
    have t8 : stp [(5, 3), (5, 4), (5, 5)] [] [] S S7 := t0.tr w5 (by decide) (fun _ q => absurd q List.not_mem_nil)
    have xe9 : ext S S7 := w5.x
    refine W.eq (g2 := F0 m 6 ls [.ref r1]) rfl ?_
    obtain ⟨k10, gk10, hk10⟩ := wGt (cy := cy) X S7 o6.1 o6.2.1
    refine va_getN (D := D) (ci := 9) (v := .int (S7.I r1 4)) (C := RX5) (T := TX5) (N := 6) hx hb hts hi_X9_oldShift_X5 hown hK hP k10 hk10 rfl 4 (by decide) (va_Nw.use rfl (hN (.fieldLinkNest RX9 488 "Hobhouse$OldGear" "shift" "I" "Hobhouse") (by decide +kernel))) (fun _ h9 => h9) rfl dX9_oldShift_6 ?_
    refine vx_ret ?_
    refine W.widen (k := 5) (n := 30) (Nat.le_of_ble_eq_true rfl) (Nat.le_of_ble_eq_true rfl) ?_
    exact W.iret (v := S7.I r1 4) hx hb hr (fun t ht hW9 => ⟨⟨S7.I r1 4, S7, rfl, t8, wd_end hP hK hD ht hW9.alike⟩, hS.F ht⟩) hS.2.2 dX9_oldShift_9 hlocks
