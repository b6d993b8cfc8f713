def f_X9_gearAt (S : wPS) (o1 : Nat) (x1 : Int32) : Except String Nat := if x1 < (0 : Int32) then .error "java/lang/IndexOutOfBoundsException" else if x1 < (S.I o1 1) then .ok (S.q (S.f o1 0) x1.toNatClampNeg) else .error "java/lang/IndexOutOfBoundsException"
set_option maxRecDepth 20000 in
theorem s_X9_gearAt_IOOBE : ∀ w ∈ (vx_atS RX9 297 "java/lang/IndexOutOfBoundsException" ["java/lang/RuntimeException", "java/lang/Exception"]).filter goodWord, w ∈ wsX9_gearAt := fun w h => List.mem_cons_of_mem _ (List.mem_append_right _ h)
theorem hi_X9_gearAt_X9 : ∀ w ∈ u_ws RX9 TX9 11, w ∈ wsX9_gearAt := by decide +kernel
theorem hd_X9_gearAt : yX9_gearAt.cls = RX9 ∧ yX9_gearAt.cls ≠ "java/lang/invoke/MethodHandle" ∧ yX9_gearAt.cls ≠ "java/lang/invoke/VarHandle" ∧ (parseMethodDescriptor yX9_gearAt.desc).map (fun d => d.parameters.length) = some 1 := by decide +kernel
set_option maxHeartbeats 4000000 in
set_option maxRecDepth 100000 in
theorem c_X9_gearAt (l : Launch) (hst : l.stackTraces = false) {D : va_G} {cy : Nat → ClassId} {X : va_W} (S : wPS) (sz : Nat) (o1 : Nat) (h_o1 : isA S o1 9) (x1 : Int32) (hW : wtB S [])  : vx_Met l yX9_gearAt wsX9_gearAt ({ frames := 6, cells := 1, slots := 6, locals := 82 }) (va_Pc [.ref o1, .int x1] (fun U => U.heap.size = sz ∧ WD D cy X (fun _ => True) S U ∧ NW U ∧ TH (va_A (X ++ PL cy S) sz) U)) (va_Qq (fun r (_ : Unit) => ∃ a : Nat, r = some a ∧ f_X9_gearAt S o1 x1 = .ok a ∧ isA S a 2) (fun _ t => WD D cy X (va_A (X ++ PL cy S) sz) S t) (va_A (X ++ PL cy S) sz)) (vx_X (fun (_ : Unit) => True) (fun E _ t => f_X9_gearAt S o1 x1 = .error E ∧ E ∈ ["java/lang/IndexOutOfBoundsException"] ∧ WD D cy X (va_A (X ++ PL cy S) sz) S t) (va_A (X ++ PL cy S) sz)) 1 6 (va_A (X ++ PL cy S) sz) := by
  refine vx_ofW (cc := cX9_gearAt) (maxL := 2) (ret := (some (.object "Hobhouse$Gear"))) (by decide) rfl ?_
  intro p e s m args below meth c s₁ B hml hno hv
  obtain ⟨rfl, hsz, ⟨hP, hK, hD0⟩, hN, hTH⟩ := hv
  have hx := B.exec
  have hb := B.bytes
  have hr := B.returns
  have hts := atoms_spec (ws := wsX9_gearAt) B.pre
  have hown : s.vm.findClass RX9 = some m.cls := findClass_of_methodNamed (x := yX9_gearAt) B.named
  have hlocks := B.notSynchronized
  subst hsz
  have hD := hD0.self (sz := s.heap.size)
  generalize hAe : va_A (X ++ PL cy S) s.heap.size = A at hD hTH ⊢
  have hA : ∀ q : Nat, s.heap.size ≤ q → A q := fun q h => by rw [← hAe]; exact Or.inr h
  have hS : va_S A s.heap s.heap [] := va_S.rf
  have hl := lv_entry ([.ref o1, .int x1]) (n := 2) (Nat.le_of_ble_eq_true rfl)
  rw [lg_entry_eq]
  generalize (lg_sl ([.ref o1, .int x1]) ++ List.replicate (2 - (lg_sl ([.ref o1, .int x1])).length) Slot.unset).toArray = ls at hl ⊢
  have hl : lv_has ls 2 [(0, .ref o1), (1, .int x1)] := hl
  refine lv_iload_n hx hb dX9_gearAt_0 rfl (lv_at hl 1 rfl) ?_
  refine lv_if_lt (tgt := 12) hx hb dX9_gearAt_1 (by decide) (fun c1 => ?_) (fun c1 => ?_)
  · have c1i : x1.toInt < 0 := lt_v rfl rfl c1
    obtain ⟨sa, hsa⟩ := hTH.2.2 (RX9, 521, "there is no such gear") (by decide +kernel)
    exact vx_throwSW hx hb hst (names := ["java/lang/RuntimeException", "java/lang/Exception"]) hown (by decide +kernel) (by decide +kernel) (hts (.classLink RX9 293 "java/lang/IndexOutOfBoundsException") (by decide +kernel)) (hts (.initialized "java/lang/IndexOutOfBoundsException") (by decide +kernel)) hsa (th_at (B := exW_X9_IOOBE) (fun w h => hts w (s_X9_gearAt_IOOBE w h)) rfl (by simp only [exW, List.mem_append]; intro w h; simp [h]) hTH.2.1) (List.forall_mem_cons.mpr ⟨by decide +kernel, List.forall_mem_cons.mpr ⟨by decide +kernel, exW_X9_IOOBE_ok⟩⟩) hTH.1.1 hTH.1.2 hS (hl.1.trans hml.symm) dX9_gearAt_12 dX9_gearAt_15 dX9_gearAt_16 dX9_gearAt_19 dX9_gearAt_22 (fun x h => (hno x h).elim) (Nat.le_of_ble_eq_true rfl) (Nat.le_of_ble_eq_true rfl) (Nat.le_of_ble_eq_true rfl) (Nat.le_of_ble_eq_true rfl) hlocks (fun t hA2 h1 h2 => ⟨(), trivial, ⟨(by show f_X9_gearAt S o1 x1 = .error "java/lang/IndexOutOfBoundsException"; unfold f_X9_gearAt; rw [if_pos c1]), (by decide), wd_exc hP hK hD hA2 h2⟩, exc_F hS h1 h2⟩) hS.2.2 (Nat.le_of_ble_eq_true rfl) (Nat.le_of_ble_eq_true rfl)
  · have c1i : 0 ≤ x1.toInt := nlt_v rfl rfl c1
    refine lv_iload_n hx hb dX9_gearAt_4 rfl (lv_at hl 1 rfl) ?_
    refine lv_aload_n hx hb dX9_gearAt_5 rfl (lv_at hl 0 rfl) ?_
    obtain ⟨k2, gk2, hk2⟩ := wGt (cy := cy) X S h_o1.1 h_o1.2.1
    have i3 := ((hW.at h_o1 List.not_mem_nil).to_9 h_o1.2.1).R1
    refine va_get (D := D) (ci := 13) (v := .int (S.I o1 1)) (C := RX9) (T := TX9) (N := 11) hx hb hts hi_X9_gearAt_X9 hown hK hP k2 hk2 rfl 1 (by decide) (hts (.fieldLink RX9 64 "Hobhouse" "gearCount" "I") (by decide +kernel)) (fun _ h9 => h9) rfl dX9_gearAt_6 ?_
    refine lv_icmp_lt (tgt := 23) hx hb dX9_gearAt_9 (by decide) (fun c4 => ?_) (fun c4 => ?_)
    · have c4i : x1.toInt < (S.I o1 1).toInt := lt_v rfl rfl c4
      refine lv_aload_n hx hb dX9_gearAt_23 rfl (lv_at hl 0 rfl) ?_
      have F5 := ((hW.at h_o1 List.not_mem_nil).to_9 h_o1.2.1).F0
      obtain ⟨k6, gk6, hk6⟩ := wGt (cy := cy) X S h_o1.1 h_o1.2.1
      simp only [kE, F5.1] at hk6
      refine va_get (D := D) (ci := 13) (v := .ref (S.f o1 0)) (C := RX9) (T := TX9) (N := 11) hx hb hts hi_X9_gearAt_X9 hown hK hP k6 hk6 rfl 0 (by decide) (hts (.fieldLink RX9 11 "Hobhouse" "gears" "[LHobhouse$Gear;") (by decide +kernel)) (fun _ h9 => h9) rfl dX9_gearAt_24 ?_
      refine lv_iload_n hx hb dX9_gearAt_27 rfl (lv_at hl 1 rfl) ?_
      obtain ⟨k7, gk7, hk7⟩ := wGt (cy := cy) X S F5.2.1.1 F5.2.1.2.1
      have i9 := cl_int (i := x1) (by omega)
      have g8 := elq (by have h9 := ((hW.at h_o1 List.not_mem_nil).to_9 h_o1.2.1).E0 x1.toNatClampNeg (by omega); rw [f_of F5.1] at h9; exact h9)
      refine va_aldq hx hb hK hP k7 4 hk7 rfl (inb (m := 20) F5.2.2 (by omega) (by omega)) dX9_gearAt_28 ?_
      rw [g8.1]
      refine W.eq (g2 := F0 m 29 ls [.ref (S.q (S.f o1 0) x1.toNatClampNeg)]) rfl ?_
      refine vx_ret ?_
      refine W.widen (k := 1) (n := 6) (Nat.le_of_ble_eq_true rfl) (Nat.le_of_ble_eq_true rfl) ?_
      exact W.aret (v := .ref (S.q (S.f o1 0) x1.toNatClampNeg)) hx hb hr (Or.inl ⟨_, rfl⟩) (Or.inr ⟨_, rfl⟩) (fun t ht hW9 => ⟨⟨some (S.q (S.f o1 0) x1.toNatClampNeg), (), rfl, ⟨(S.q (S.f o1 0) x1.toNatClampNeg), rfl, (by show f_X9_gearAt S o1 x1 = .ok (S.q (S.f o1 0) x1.toNatClampNeg); unfold f_X9_gearAt; rw [if_neg c1, if_pos c4]), g8.2⟩, wd_end hP hK hD ht hW9.alike⟩, hS.F ht⟩) hS.2.2 dX9_gearAt_29 hlocks
    · have c4i : (S.I o1 1).toInt ≤ x1.toInt := nlt_v rfl rfl c4
      obtain ⟨sa, hsa⟩ := hTH.2.2 (RX9, 521, "there is no such gear") (by decide +kernel)
      exact vx_throwSW hx hb hst (names := ["java/lang/RuntimeException", "java/lang/Exception"]) hown (by decide +kernel) (by decide +kernel) (hts (.classLink RX9 293 "java/lang/IndexOutOfBoundsException") (by decide +kernel)) (hts (.initialized "java/lang/IndexOutOfBoundsException") (by decide +kernel)) hsa (th_at (B := exW_X9_IOOBE) (fun w h => hts w (s_X9_gearAt_IOOBE w h)) rfl (by simp only [exW, List.mem_append]; intro w h; simp [h]) hTH.2.1) (List.forall_mem_cons.mpr ⟨by decide +kernel, List.forall_mem_cons.mpr ⟨by decide +kernel, exW_X9_IOOBE_ok⟩⟩) hTH.1.1 hTH.1.2 hS (hl.1.trans hml.symm) dX9_gearAt_12 dX9_gearAt_15 dX9_gearAt_16 dX9_gearAt_19 dX9_gearAt_22 (fun x h => (hno x h).elim) (Nat.le_of_ble_eq_true rfl) (Nat.le_of_ble_eq_true rfl) (Nat.le_of_ble_eq_true rfl) (Nat.le_of_ble_eq_true rfl) hlocks (fun t hA2 h1 h2 => ⟨(), trivial, ⟨(by show f_X9_gearAt S o1 x1 = .error "java/lang/IndexOutOfBoundsException"; unfold f_X9_gearAt; rw [if_neg c1, if_neg c4]), (by decide), wd_exc hP hK hD hA2 h2⟩, exc_F hS h1 h2⟩) hS.2.2 (Nat.le_of_ble_eq_true rfl) (Nat.le_of_ble_eq_true rfl)
def f_X9_setMachine (S : wPS) (o1 : Nat) (x1 : Int32) (x2 : Int32) : Except String (Int32 × wPS) := eB (f_X9_needRange x1 (1 : Int32) (99 : Int32)) (fun _ => eB (f_X9_needRange x2 (2 : Int32) (200 : Int32)) (fun _ => l1 (S.sI o1 9 x1) (fun S15 => l1 (S15.sI o1 10 x2) (fun S19 => .ok (S.I o1 9, S19)))))
theorem hi_X9_setMachine_X9 : ∀ w ∈ u_ws RX9 TX9 11, w ∈ wsX9_setMachine := by decide +kernel
theorem hd_X9_setMachine : yX9_setMachine.cls = RX9 ∧ yX9_setMachine.cls ≠ "java/lang/invoke/MethodHandle" ∧ yX9_setMachine.cls ≠ "java/lang/invoke/VarHandle" ∧ (parseMethodDescriptor yX9_setMachine.desc).map (fun d => d.parameters.length) = some 2 := by decide +kernel
set_option maxHeartbeats 4000000 in
set_option maxRecDepth 100000 in
theorem c_X9_setMachine (l : Launch) (hst : l.stackTraces = false) {D : va_G} {cy : Nat → ClassId} {X : va_W} (S : wPS) (sz : Nat) (o1 : Nat) (h_o1 : isA S o1 9) (x1 : Int32) (x2 : Int32) (hW : wtB S [])  : vx_Met l yX9_setMachine wsX9_setMachine ({ frames := 7, cells := 2, slots := 12, locals := 104 }) (va_Pc [.ref o1, .int x1, .int x2] (fun U => U.heap.size = sz ∧ WD D cy X (fun _ => True) S U ∧ NW U ∧ TH (va_A (X ++ PL cy S) sz) U)) (va_Qi (fun r (u : wPS) => f_X9_setMachine S o1 x1 x2 = .ok (r, u) ∧ stp [(9, 9), (9, 10)] [] [] S u) (fun u t => WD D cy X (va_A (X ++ PL cy S) sz) u t) (va_A (X ++ PL cy S) sz)) (vx_X (fun (u : wPS) => stp [(9, 9), (9, 10)] [] [] S u) (fun E u t => f_X9_setMachine S o1 x1 x2 = .error E ∧ E ∈ ["java/lang/IllegalArgumentException"] ∧ u = S ∧ WD D cy X (va_A (X ++ PL cy S) sz) u t) (va_A (X ++ PL cy S) sz)) 2 12 (va_A (X ++ PL cy S) sz) := by
  refine vx_ofW (cc := cX9_setMachine) (maxL := 4) (ret := (some .int)) (by decide) rfl ?_
  intro p e s m args below meth c s₁ B hml hno hv
  obtain ⟨rfl, hsz, ⟨hP, hK, hD0⟩, hN, hTH⟩ := hv
  have hx := B.exec
  have hb := B.bytes
  have hr := B.returns
  have hts := atoms_spec (ws := wsX9_setMachine) B.pre
  have hown : s.vm.findClass RX9 = some m.cls := findClass_of_methodNamed (x := yX9_setMachine) B.named
  have hlocks := B.notSynchronized
  subst hsz
  have hD := hD0.self (sz := s.heap.size)
  generalize hAe : va_A (X ++ PL cy S) s.heap.size = A at hD hTH ⊢
  have hA : ∀ q : Nat, s.heap.size ≤ q → A q := fun q h => by rw [← hAe]; exact Or.inr h
  have hS : va_S A s.heap s.heap [] := va_S.rf
  have hl := lv_entry ([.ref o1, .int x1, .int x2]) (n := 4) (Nat.le_of_ble_eq_true rfl)
  rw [lg_entry_eq]
  generalize (lg_sl ([.ref o1, .int x1, .int x2]) ++ List.replicate (4 - (lg_sl ([.ref o1, .int x1, .int x2])).length) Slot.unset).toArray = ls at hl ⊢
  have hl : lv_has ls 4 [(0, .ref o1), (1, .int x1), (2, .int x2)] := hl
  have t0 : stp [(9, 9), (9, 10)] [] [] S S := stp.rf hW
  refine lv_iload_n hx hb dX9_setMachine_0 rfl (lv_at hl 1 rfl) ?_
  refine lv_iconst (v := 1) hx hb dX9_setMachine_1 (by decide) ?_
  refine lv_bipush (v := 99) hx hb dX9_setMachine_2 (by decide +kernel) ?_
  have l32_1 : (1 : Int32).toInt = 1 := rfl
  have l32_99 : (99 : Int32).toInt = 99 := rfl
  have hFc := free_all hD hS hA
  refine vx_callv (vx_runS (As := [.int x1, .int (1 : Int32), .int (99 : Int32)]) (rest := []) ⟨hx, hb, hml, hown, hts⟩ (c_X9_needRange l hst (cy := cy) (X := X) (D := D) S _ x1 (1 : Int32) (99 : Int32)) (cwS 3 hts gX9_setMachine_X9_needRange rfl rfl rfl hd_X9_needRange ⟨Nat.le_of_ble_eq_true rfl, Nat.le_of_ble_eq_true rfl⟩) (pSt hP hK hD hN hTH hS hFc) rfl rfl hl.1 rfl (lv_room (Nat.le_of_ble_eq_true rfl)) dX9_setMachine_4 ⟨Nat.le_of_ble_eq_true rfl, Nat.le_of_ble_eq_true rfl⟩) hS (fun q _ h => hFc q h) hFc (fun q _ h => hFc q h) (fun E ce q9 u t H1 locs ht hvm hw hB hz1 hk1 hS hq9 hce hcl => ?_) (fun u t H1 locs ht hvm hw hB hz1 hk1 hS => ?_)
  · obtain ⟨c2, hEc2, hB2⟩ := hB
    obtain ⟨hP, hD⟩ := wd_post hFc ht hB2
    exact vx_out (fun x h => (hno x h).elim) hlocks hq9 hce hcl (fun t2 ht2 hA2 => ⟨S, t0, ⟨(by show f_X9_setMachine S o1 x1 x2 = .error E; unfold f_X9_setMachine; rw [eB_er c2]), (el_in (by decide) hEc2), rfl, wd_end hP hK hD ht2 hA2⟩, hS.F ht2⟩) hS.2.2 (Nat.le_of_ble_eq_true rfl) (Nat.le_of_ble_eq_true rfl)
  · have c3 := hw
    obtain ⟨hP, hD⟩ := wd_post hFc ht hB
    generalize H1 = H at hP hS ⊢
    have i4 := nr_i c3
    have i4l := i4.1
    have i4h := i4.2
    have l5 : (1 : Int32).toInt = 1 := rfl
    have l6 : (99 : Int32).toInt = 99 := rfl
    refine lv_iload_n hx hb dX9_setMachine_7 rfl (lv_at hl 2 rfl) ?_
    refine lv_iconst (v := 2) hx hb dX9_setMachine_8 (by decide) ?_
    refine lv_sipush (v := 200) hx hb dX9_setMachine_9 (by decide +kernel) ?_
    have l32_2 : (2 : Int32).toInt = 2 := rfl
    have l32_200 : (200 : Int32).toInt = 200 := rfl
    have hFc := free_all hD hS hA
    refine vx_callv (vx_runS (As := [.int x2, .int (2 : Int32), .int (200 : Int32)]) (rest := []) ⟨hx, hb, hml, hown, hts⟩ (c_X9_needRange l hst (cy := cy) (X := X) (D := D) S _ x2 (2 : Int32) (200 : Int32)) (cwS 3 hts gX9_setMachine_X9_needRange rfl rfl rfl hd_X9_needRange ⟨Nat.le_of_ble_eq_true rfl, Nat.le_of_ble_eq_true rfl⟩) (pSt hP hK hD hN hTH hS hFc) rfl rfl hl.1 rfl (lv_room (Nat.le_of_ble_eq_true rfl)) dX9_setMachine_12 ⟨Nat.le_of_ble_eq_true rfl, Nat.le_of_ble_eq_true rfl⟩) hS (fun q _ h => hFc q h) hFc (fun q _ h => hFc q h) (fun E ce q9 u t H1 locs ht hvm hw hB hz1 hk1 hS hq9 hce hcl => ?_) (fun u t H1 locs ht hvm hw hB hz1 hk1 hS => ?_)
    · obtain ⟨c8, hEc8, hB2⟩ := hB
      obtain ⟨hP, hD⟩ := wd_post hFc ht hB2
      exact vx_out (fun x h => (hno x h).elim) hlocks hq9 hce hcl (fun t2 ht2 hA2 => ⟨S, t0, ⟨(by show f_X9_setMachine S o1 x1 x2 = .error E; unfold f_X9_setMachine; rw [eB_ok c3, eB_er c8]), (el_in (by decide) hEc8), rfl, wd_end hP hK hD ht2 hA2⟩, hS.F ht2⟩) hS.2.2 (Nat.le_of_ble_eq_true rfl) (Nat.le_of_ble_eq_true rfl)
    · have c9 := hw
      obtain ⟨hP, hD⟩ := wd_post hFc ht hB
      generalize H1 = H at hP hS ⊢
      have i10 := nr_i c9
      have i10l := i10.1
      have i10h := i10.2
      have l11 : (2 : Int32).toInt = 2 := rfl
      have l12 : (200 : Int32).toInt = 200 := rfl
      refine lv_aload_n hx hb dX9_setMachine_15 rfl (lv_at hl 0 rfl) ?_
      obtain ⟨k13, gk13, hk13⟩ := wGt (cy := cy) X S h_o1.1 h_o1.2.1
      refine va_get (D := D) (ci := 13) (v := .int (S.I o1 9)) (C := RX9) (T := TX9) (N := 11) hx hb hts hi_X9_setMachine_X9 hown hK hP k13 hk13 rfl 9 (by decide) (hts (.fieldLink RX9 48 "Hobhouse" "constant" "I") (by decide +kernel)) (fun _ h9 => h9) rfl dX9_setMachine_16 ?_
      refine lv_istore_n (lv' := [(3, .int (S.I o1 9)), (0, .ref o1), (1, .int x1), (2, .int x2)]) hx hb dX9_setMachine_19 rfl hl (by decide) rfl (fun ls hl => ?_)
      refine lv_aload_n hx hb dX9_setMachine_20 rfl (lv_at hl 1 rfl) ?_
      refine lv_iload_n hx hb dX9_setMachine_21 rfl (lv_at hl 2 rfl) ?_
      obtain ⟨k14, gk14, hk14⟩ := wGt (cy := cy) X S h_o1.1 h_o1.2.1
      refine va_put (D := D) (ci := 13) (v := .int x1) (ty := .int) (C := RX9) (T := TX9) (N := 11) hx hb hts hi_X9_setMachine_X9 tyX9 tyX9_ok nmX9 hown hK hP hD hS k14 hk14 rfl 9 (by decide) (hts (.fieldLink RX9 48 "Hobhouse" "constant" "I") (by decide +kernel)) (fun _ h9 => h9) rfl (by decide +kernel) (rfl) (rfl) (Nat.le_of_ble_eq_true rfl) dX9_setMachine_22 (fun H locs hP2 hD2 hS => ?_)
      have e9 := wPuI (cy := cy) (j := 9) (v := x1) hD h_o1.1 h_o1.2.1 gk14 rfl
      obtain ⟨S15, hS15⟩ : ∃ z, S.sI o1 9 x1 = z := ⟨_, rfl⟩
      have hP : va_P D vwCl (X ++ PL cy S15) H := by rw [← hS15, ← e9]; exact hP2
      have hD : va_D A (X ++ PL cy S15) := by rw [← hS15, ← e9]; exact hD2
      have xe16 : ext S S15 := by rw [← hS15]; exact ext.sI _ _ _ _
      have t17 : stp [(9, 9), (9, 10)] [] [] S S15 := by rw [← hS15]; exact t0.I 9 x1 h_o1 (by decide) (trivial) (Or.inl (by decide))
      refine lv_aload_n hx hb dX9_setMachine_25 rfl (lv_at hl 1 rfl) ?_
      refine lv_iload_n hx hb dX9_setMachine_26 rfl (lv_at hl 3 rfl) ?_
      obtain ⟨k18, gk18, hk18⟩ := wGt (cy := cy) X S15 (xe16.A h_o1).1 (xe16.A h_o1).2.1
      refine va_put (D := D) (ci := 13) (v := .int x2) (ty := .int) (C := RX9) (T := TX9) (N := 11) hx hb hts hi_X9_setMachine_X9 tyX9 tyX9_ok nmX9 hown hK hP hD hS k18 hk18 rfl 10 (by decide) (hts (.fieldLink RX9 52 "Hobhouse" "ownTeeth" "I") (by decide +kernel)) (fun _ h9 => h9) rfl (by decide +kernel) (rfl) (rfl) (Nat.le_of_ble_eq_true rfl) dX9_setMachine_27 (fun H locs hP2 hD2 hS => ?_)
      have e9 := wPuI (cy := cy) (j := 10) (v := x2) hD (xe16.A h_o1).1 (xe16.A h_o1).2.1 gk18 rfl
      obtain ⟨S19, hS19⟩ : ∃ z, S15.sI o1 10 x2 = z := ⟨_, rfl⟩
      have hP : va_P D vwCl (X ++ PL cy S19) H := by rw [← hS19, ← e9]; exact hP2
      have hD : va_D A (X ++ PL cy S19) := by rw [← hS19, ← e9]; exact hD2
      have xe20 : ext S15 S19 := by rw [← hS19]; exact ext.sI _ _ _ _
      have t21 : stp [(9, 9), (9, 10)] [] [] S S19 := by rw [← hS19]; exact t17.I 10 x2 (xe16.A h_o1) (by decide) (trivial) (Or.inl (by decide))
      refine lv_iload_n hx hb dX9_setMachine_30 rfl (lv_at hl 0 rfl) ?_
      refine vx_ret ?_
      refine W.widen (k := 2) (n := 12) (Nat.le_of_ble_eq_true rfl) (Nat.le_of_ble_eq_true rfl) ?_
      exact W.iret (v := S.I o1 9) hx hb hr (fun t ht hW9 => ⟨⟨S.I o1 9, S19, rfl, ⟨(by show f_X9_setMachine S o1 x1 x2 = .ok (S.I o1 9, S19); unfold f_X9_setMachine; rw [eB_ok c3, eB_ok c9, l1_eq hS15, l1_eq hS19]), t21⟩, wd_end hP hK hD ht hW9.alike⟩, hS.F ht⟩) hS.2.2 dX9_setMachine_31 hlocks
theorem hi_X0_init_X0 : ∀ w ∈ u_ws RX0 TX0 7, w ∈ wsX0_init := by decide +kernel
set_option maxHeartbeats 4000000 in
set_option maxRecDepth 100000 in
theorem c_X0_init (l : Launch) {D : va_G} {cy : Nat → ClassId} {X : va_W} (S : wPS) (sz : Nat) (o1 : Nat) (h_o1 : isA S o1 0) (R : List Nat) (hW : wtB S (o1 :: R)) (hF0 : ∀ j, S.F o1 j = none) (hI0 : ∀ j, S.I o1 j = 0)  : Met l yX0_init wsX0_init ({ frames := 1, cells := 2, slots := 20, locals := 12 }) (va_Pc [.ref o1] (fun U => U.heap.size = sz ∧ WD D cy X (fun _ => True) S U ∧ NW U)) (va_Qv (fun (u : wPS) => stp ([] : List (Nat × Nat)) [o1] R S u ∧ isA u o1 0 ∧ u.I o1 2 = (0 : Int32)) (fun u t => WD D cy X (va_A (X ++ PL cy S) sz) u t) (va_A (X ++ PL cy S) sz)) 2 20 (va_A (X ++ PL cy S) sz) := by
  refine Met.ofW (cc := cX0_init) (maxL := 1) (ret := none) (by decide) rfl ?_
  intro p e s m args below meth c s₁ B hml hv
  obtain ⟨rfl, hsz, ⟨hP, hK, hD0⟩, hN⟩ := hv
  have hx := B.exec
  have hb := B.bytes
  have hr := B.returns
  have hts := atoms_spec (ws := wsX0_init) B.pre
  have hown : s.vm.findClass RX0 = some m.cls := findClass_of_methodNamed (x := yX0_init) B.named
  have hlocks := B.notSynchronized
  have hin : meth.name = "<init>" := (name_of_methodNamed B.named B.method).1
  subst hsz
  have hD := hD0.self (sz := s.heap.size)
  generalize hAe : va_A (X ++ PL cy S) s.heap.size = A at hD ⊢
  have hA : ∀ q : Nat, s.heap.size ≤ q → A q := fun q h => by rw [← hAe]; exact Or.inr h
  have hS : va_S A s.heap s.heap [] := va_S.rf
  have hl := lv_entry ([.ref o1]) (n := 1) (Nat.le_of_ble_eq_true rfl)
  rw [lg_entry_eq]
  generalize (lg_sl ([.ref o1]) ++ List.replicate (1 - (lg_sl ([.ref o1])).length) Slot.unset).toArray = ls at hl ⊢
  have hl : lv_has ls 1 [(0, .ref o1)] := hl
  have t0 : stp ([] : List (Nat × Nat)) [o1] (o1 :: R) S S := stp.rf hW
  refine lv_aload_n hx hb dX0_init_0 rfl (lv_at hl 0 rfl) ?_
  refine W.objInit hx hb hown (hts (.methodLink RX0 3 objectInit) (by decide +kernel)) (hts (.instanceMethod objectInit) (by decide +kernel)) (hts (.code objectInit ⟨#[0xb1]⟩ 1 none) (by decide +kernel)) rfl (by rw [hml]; exact hl.1) rfl dX0_init_1 (Nat.le_of_ble_eq_true rfl) (Nat.le_of_ble_eq_true rfl) ?_
  refine W.eq (g2 := F0 m 4 ls []) rfl ?_
  refine lv_aload_n hx hb dX0_init_4 rfl (lv_at hl 0 rfl) ?_
  refine lv_bipush (v := 16) hx hb dX0_init_5 (by decide +kernel) ?_
  refine va_newa (atype := .int) hx hb (hts (.arrayClass .int) (by decide +kernel)) (ty := .int) rfl hK hP hD hS hA (N' := 16) (a0 := (16, .inl (fun _ => 0))) (fun _ => rfl) (by decide) (by decide) (by decide) (Nat.le_of_ble_eq_true rfl) (Nat.le_of_ble_eq_true rfl) dX0_init_7 (fun qa1 cqa1 H hK2 hP2 hD2 hS => ?_)
  obtain rfl : cqa1 = cy 2 := cls_int hK hK2
  have hqa1 : qa1 ∉ S.L := nw_q hD2
  have e9 := wNw (cy := cy) (X := X) (S := S) (a := qa1) (k := 27) (z := 16) (f := fun _ => 0) (g := fun _ => none) hqa1 rfl
  obtain ⟨S2, hS2⟩ : ∃ z, S.nw qa1 27 16 (fun _ => 0) (fun _ => none) = z := ⟨_, rfl⟩
  have hP : va_P D vwCl (X ++ PL cy S2) H := by rw [← hS2, ← e9]; exact hP2
  have hD : va_D A (X ++ PL cy S2) := by rw [← hS2, ← e9]; exact hD2
  have xe3 : ext S S2 := by rw [← hS2]; exact ext.nw hqa1
  have t4 : stp ([] : List (Nat × Nat)) [o1] (o1 :: R) S S2 := by rw [← hS2]; exact t0.nwA hqa1 (by decide)
  refine W.widen (k := 1) (n := 16) (Nat.le_of_ble_eq_true rfl) (Nat.le_of_ble_eq_true rfl) ?_
  have aqa1 : isA S2 qa1 27 := by rw [← hS2]; exact nw_A (by decide)
  have nqa1 : S2.n qa1 = 16 := by rw [← hS2]; exact nw_n
  obtain ⟨k5, gk5, hk5⟩ := wGt (cy := cy) X S2 (xe3.A h_o1).1 (xe3.A h_o1).2.1
  refine va_putF (D := D) (ci := 4) (v := .ref qa1) (ty := (tyX0 0)) (C := RX0) (T := TX0) (N := 7) hx hb hts hi_X0_init_X0 tyX0 tyX0_ok nmX0 hown hK hP hD hS k5 hk5 rfl 0 (by decide) (hts (.fieldLink RX0 9 "Hobhouse$Box" "wheels" "[I") (by decide +kernel)) (fun _ h9 => h9) rfl hin rfl (by decide +kernel) (rfl) (rfl) (Nat.le_of_ble_eq_true rfl) dX0_init_9 (fun H locs hP2 hD2 hS => ?_)
  have e9 := wPuF (cy := cy) (j := 0) (v := (some qa1)) hD (xe3.A h_o1).1 (xe3.A h_o1).2.1 gk5 rfl
  obtain ⟨S6, hS6⟩ : ∃ z, S2.sF o1 0 (some qa1) = z := ⟨_, rfl⟩
  have hP : va_P D vwCl (X ++ PL cy S6) H := by rw [← hS6, ← e9]; exact hP2
  have hD : va_D A (X ++ PL cy S6) := by rw [← hS6, ← e9]; exact hD2
  have xe7 : ext S2 S6 := by rw [← hS6]; exact ext.sF (by rw [← hS2, nw_Fo hqa1 h_o1.1]; exact hF0 0)
  have t8 : stp ([] : List (Nat × Nat)) [o1] (o1 :: R) S S6 := by rw [← hS6]; exact t4.F 0 qa1 List.mem_cons_self (Or.inl List.mem_cons_self) (by rw [← hS2, nw_Fo hqa1 h_o1.1]; exact hF0 0)
  have F9 : S6.F o1 0 = some qa1 := by rw [← hS6]; exact sF_eq
  refine lv_aload_n hx hb dX0_init_12 rfl (lv_at hl 0 rfl) ?_
  refine lv_iconst (v := 4) hx hb dX0_init_13 (by decide) ?_
  refine va_newa (atype := .int) hx hb (hts (.arrayClass .int) (by decide +kernel)) (ty := .int) rfl hK hP hD hS hA (N' := 4) (a0 := (4, .inl (fun _ => 0))) (fun _ => rfl) (by decide) (by decide) (by decide) (Nat.le_of_ble_eq_true rfl) (Nat.le_of_ble_eq_true rfl) dX0_init_14 (fun qa10 cqa10 H hK2 hP2 hD2 hS => ?_)
  obtain rfl : cqa10 = cy 2 := cls_int hK hK2
  have hqa10 : qa10 ∉ S6.L := nw_q hD2
  have e9 := wNw (cy := cy) (X := X) (S := S6) (a := qa10) (k := 17) (z := 4) (f := fun _ => 0) (g := fun _ => none) hqa10 rfl
  obtain ⟨S11, hS11⟩ : ∃ z, S6.nw qa10 17 4 (fun _ => 0) (fun _ => none) = z := ⟨_, rfl⟩
  have hP : va_P D vwCl (X ++ PL cy S11) H := by rw [← hS11, ← e9]; exact hP2
  have hD : va_D A (X ++ PL cy S11) := by rw [← hS11, ← e9]; exact hD2
  have xe12 : ext S6 S11 := by rw [← hS11]; exact ext.nw hqa10
  have t13 : stp ([] : List (Nat × Nat)) [o1] (o1 :: R) S S11 := by rw [← hS11]; exact t8.nwA hqa10 (by decide)
  refine W.widen (k := 2) (n := 20) (Nat.le_of_ble_eq_true rfl) (Nat.le_of_ble_eq_true rfl) ?_
  have aqa10 : isA S11 qa10 17 := by rw [← hS11]; exact nw_A (by decide)
  have nqa10 : S11.n qa10 = 4 := by rw [← hS11]; exact nw_n
  obtain ⟨k14, gk14, hk14⟩ := wGt (cy := cy) X S11 ((xe7.tr xe12).A (xe3.A h_o1)).1 ((xe7.tr xe12).A (xe3.A h_o1)).2.1
  refine va_putF (D := D) (ci := 4) (v := .ref qa10) (ty := (tyX0 1)) (C := RX0) (T := TX0) (N := 7) hx hb hts hi_X0_init_X0 tyX0 tyX0_ok nmX0 hown hK hP hD hS k14 hk14 rfl 1 (by decide) (hts (.fieldLink RX0 15 "Hobhouse$Box" "best" "[I") (by decide +kernel)) (fun _ h9 => h9) rfl hin rfl (by decide +kernel) (rfl) (rfl) (Nat.le_of_ble_eq_true rfl) dX0_init_16 (fun H locs hP2 hD2 hS => ?_)
  have e9 := wPuF (cy := cy) (j := 1) (v := (some qa10)) hD ((xe7.tr xe12).A (xe3.A h_o1)).1 ((xe7.tr xe12).A (xe3.A h_o1)).2.1 gk14 rfl
  obtain ⟨S15, hS15⟩ : ∃ z, S11.sF o1 1 (some qa10) = z := ⟨_, rfl⟩
  have hP : va_P D vwCl (X ++ PL cy S15) H := by rw [← hS15, ← e9]; exact hP2
  have hD : va_D A (X ++ PL cy S15) := by rw [← hS15, ← e9]; exact hD2
  have xe16 : ext S11 S15 := by rw [← hS15]; exact ext.sF (by rw [← hS11, nw_Fo hqa10 ((xe3.tr xe7).A h_o1).1]; rw [← hS6, sF_ne (fun q9 => absurd q9.2 (by decide))]; rw [← hS2, nw_Fo hqa1 h_o1.1]; exact hF0 1)
  have t17 : stp ([] : List (Nat × Nat)) [o1] (o1 :: R) S S15 := by rw [← hS15]; exact t13.F 1 qa10 List.mem_cons_self (Or.inl List.mem_cons_self) (by rw [← hS11, nw_Fo hqa10 ((xe3.tr xe7).A h_o1).1]; rw [← hS6, sF_ne (fun q9 => absurd q9.2 (by decide))]; rw [← hS2, nw_Fo hqa1 h_o1.1]; exact hF0 1)
  have F18 : S15.F o1 1 = some qa10 := by rw [← hS15]; exact sF_eq
  have oo : isA S15 o1 0 := (xe16.A ((xe7.tr xe12).A (xe3.A h_o1)))
  have I2 : S15.I o1 2 = (0 : Int32) := (by rw [← hS15]; show S11.I o1 2 = _; rw [← hS11, nw_Io hqa10 ((xe3.tr xe7).A h_o1).1]; rw [← hS6]; show S2.I o1 2 = _; rw [← hS2, nw_Io hqa1 h_o1.1]; exact hI0 2)
  have tt : stp ([] : List (Nat × Nat)) [o1] R S S15 := t17.un (okAt.of_0 oo.2.1 ⟨(by rw [f_of ((xe12.tr xe16).F ((xe3.tr xe7).A h_o1) (by decide) F9)]; exact ⟨((xe12.tr xe16).F ((xe3.tr xe7).A h_o1) (by decide) F9), ((xe7.tr (xe12.tr xe16)).A aqa1), (((xe7.tr (xe12.tr xe16)).n aqa1).trans nqa1)⟩), (by rw [f_of F18]; exact ⟨F18, (xe16.A aqa10), ((xe16.n aqa10).trans nqa10)⟩), (by rw [I2]; exact ⟨by decide, by decide⟩)⟩)
  refine W.widen (k := 2) (n := 20) (Nat.le_of_ble_eq_true rfl) (Nat.le_of_ble_eq_true rfl) ?_
  exact W.vret hx hb hr (fun t ht hW9 => ⟨⟨S15, rfl, ⟨tt, oo, I2⟩, wd_end hP hK hD ht hW9.alike⟩, hS.F ht⟩) hS.2.2 dX0_init_19 hlocks
theorem hi_X1_init_X1 : ∀ w ∈ u_ws RX1 TX1 3, w ∈ wsX1_init := by decide +kernel
set_option maxHeartbeats 4000000 in
set_option maxRecDepth 100000 in
theorem c_X1_init (l : Launch) {D : va_G} {cy : Nat → ClassId} {X : va_W} (S : wPS) (sz : Nat) (o1 : Nat) (h_o1 : isA S o1 1) (x1 : Int32) (R : List Nat) (hW : wtB S (o1 :: R)) (hF0 : ∀ j, S.F o1 j = none) (hI0 : ∀ j, S.I o1 j = 0) (hx : 0 ≤ x1.toInt ∧ x1.toInt ≤ 200) : Met l yX1_init wsX1_init ({ frames := 1, cells := 2, slots := 400, locals := 12 }) (va_Pc [.ref o1, .int x1] (fun U => U.heap.size = sz ∧ WD D cy X (fun _ => True) S U ∧ NW U)) (va_Qv (fun (u : wPS) => stp ([] : List (Nat × Nat)) [o1] R S u ∧ isA u o1 1 ∧ u.I o1 2 = (0 : Int32)) (fun u t => WD D cy X (va_A (X ++ PL cy S) sz) u t) (va_A (X ++ PL cy S) sz)) 2 400 (va_A (X ++ PL cy S) sz) := by
  refine Met.ofW (cc := cX1_init) (maxL := 2) (ret := none) (by decide) rfl ?_
  intro p e s m args below meth c s₁ B hml hv
  obtain ⟨rfl, hsz, ⟨hP, hK, hD0⟩, hN⟩ := hv
  have hx := B.exec
  have hb := B.bytes
  have hr := B.returns
  have hts := atoms_spec (ws := wsX1_init) B.pre
  have hown : s.vm.findClass RX1 = some m.cls := findClass_of_methodNamed (x := yX1_init) B.named
  have hlocks := B.notSynchronized
  have hin : meth.name = "<init>" := (name_of_methodNamed B.named B.method).1
  subst hsz
  have hD := hD0.self (sz := s.heap.size)
  generalize hAe : va_A (X ++ PL cy S) s.heap.size = A at hD ⊢
  have hA : ∀ q : Nat, s.heap.size ≤ q → A q := fun q h => by rw [← hAe]; exact Or.inr h
  have hS : va_S A s.heap s.heap [] := va_S.rf
  have hl := lv_entry ([.ref o1, .int x1]) (n := 2) (Nat.le_of_ble_eq_true rfl)
  rw [lg_entry_eq]
  generalize (lg_sl ([.ref o1, .int x1]) ++ List.replicate (2 - (lg_sl ([.ref o1, .int x1])).length) Slot.unset).toArray = ls at hl ⊢
  have hl : lv_has ls 2 [(0, .ref o1), (1, .int x1)] := hl
  have t0 : stp ([] : List (Nat × Nat)) [o1] (o1 :: R) S S := stp.rf hW
  refine lv_aload_n hx hb dX1_init_0 rfl (lv_at hl 0 rfl) ?_
  refine W.objInit hx hb hown (hts (.methodLink RX1 1 objectInit) (by decide +kernel)) (hts (.instanceMethod objectInit) (by decide +kernel)) (hts (.code objectInit ⟨#[0xb1]⟩ 1 none) (by decide +kernel)) rfl (by rw [hml]; exact hl.1) rfl dX1_init_1 (Nat.le_of_ble_eq_true rfl) (Nat.le_of_ble_eq_true rfl) ?_
  refine W.eq (g2 := F0 m 4 ls []) rfl ?_
  refine lv_aload_n hx hb dX1_init_4 rfl (lv_at hl 0 rfl) ?_
  refine lv_iload_n hx hb dX1_init_5 rfl (lv_at hl 1 rfl) ?_
  have mqa1 : x1.toNatClampNeg ≤ 200 := clamp_le (by omega) (by omega)
  refine va_newa (atype := .int) hx hb (hts (.arrayClass .int) (by decide +kernel)) (ty := .int) rfl hK hP hD hS hA (N' := x1.toNatClampNeg) (a0 := (x1.toNatClampNeg, .inl (fun _ => 0))) (fun _ => rfl) (nneg_i (by omega)) (rfl) (Nat.le_trans (Nat.mul_le_mul_right _ mqa1) (by decide)) (Nat.le_of_ble_eq_true rfl) (Nat.le_trans (Nat.add_le_add_left mqa1 _) (Nat.le_of_ble_eq_true rfl)) dX1_init_6 (fun qa1 cqa1 H hK2 hP2 hD2 hS => ?_)
  obtain rfl : cqa1 = cy 2 := cls_int hK hK2
  have hqa1 : qa1 ∉ S.L := nw_q hD2
  have e9 := wNw (cy := cy) (X := X) (S := S) (a := qa1) (k := 25) (z := x1.toNatClampNeg) (f := fun _ => 0) (g := fun _ => none) hqa1 rfl
  obtain ⟨S2, hS2⟩ : ∃ z, S.nw qa1 25 x1.toNatClampNeg (fun _ => 0) (fun _ => none) = z := ⟨_, rfl⟩
  have hP : va_P D vwCl (X ++ PL cy S2) H := by rw [← hS2, ← e9]; exact hP2
  have hD : va_D A (X ++ PL cy S2) := by rw [← hS2, ← e9]; exact hD2
  have xe3 : ext S S2 := by rw [← hS2]; exact ext.nw hqa1
  have t4 : stp ([] : List (Nat × Nat)) [o1] (o1 :: R) S S2 := by rw [← hS2]; exact t0.nwA hqa1 (by decide)
  refine W.widen (k := 1) (n := 200) (Nat.le_of_ble_eq_true rfl) (Nat.add_le_add_left mqa1 _) ?_
  have aqa1 : isA S2 qa1 25 := by rw [← hS2]; exact nw_A (Nat.lt_of_le_of_lt mqa1 (by decide))
  have nqa1 : S2.n qa1 = x1.toNatClampNeg := by rw [← hS2]; exact nw_n
  obtain ⟨k5, gk5, hk5⟩ := wGt (cy := cy) X S2 (xe3.A h_o1).1 (xe3.A h_o1).2.1
  refine va_putF (D := D) (ci := 5) (v := .ref qa1) (ty := (tyX1 0)) (C := RX1) (T := TX1) (N := 3) hx hb hts hi_X1_init_X1 tyX1 tyX1_ok nmX1 hown hK hP hD hS k5 hk5 rfl 0 (by decide) (hts (.fieldLink RX1 7 "Hobhouse$Chart" "errors" "[I") (by decide +kernel)) (fun _ h9 => h9) rfl hin rfl (by decide +kernel) (rfl) (rfl) (Nat.le_of_ble_eq_true rfl) dX1_init_8 (fun H locs hP2 hD2 hS => ?_)
  have e9 := wPuF (cy := cy) (j := 0) (v := (some qa1)) hD (xe3.A h_o1).1 (xe3.A h_o1).2.1 gk5 rfl
  obtain ⟨S6, hS6⟩ : ∃ z, S2.sF o1 0 (some qa1) = z := ⟨_, rfl⟩
  have hP : va_P D vwCl (X ++ PL cy S6) H := by rw [← hS6, ← e9]; exact hP2
  have hD : va_D A (X ++ PL cy S6) := by rw [← hS6, ← e9]; exact hD2
  have xe7 : ext S2 S6 := by rw [← hS6]; exact ext.sF (by rw [← hS2, nw_Fo hqa1 h_o1.1]; exact hF0 0)
  have t8 : stp ([] : List (Nat × Nat)) [o1] (o1 :: R) S S6 := by rw [← hS6]; exact t4.F 0 qa1 List.mem_cons_self (Or.inl List.mem_cons_self) (by rw [← hS2, nw_Fo hqa1 h_o1.1]; exact hF0 0)
  have F9 : S6.F o1 0 = some qa1 := by rw [← hS6]; exact sF_eq
  refine lv_aload_n hx hb dX1_init_11 rfl (lv_at hl 0 rfl) ?_
  refine lv_iload_n hx hb dX1_init_12 rfl (lv_at hl 1 rfl) ?_
  have mqa10 : x1.toNatClampNeg ≤ 200 := clamp_le (by omega) (by omega)
  refine va_newa (atype := .int) hx hb (hts (.arrayClass .int) (by decide +kernel)) (ty := .int) rfl hK hP hD hS hA (N' := x1.toNatClampNeg) (a0 := (x1.toNatClampNeg, .inl (fun _ => 0))) (fun _ => rfl) (nneg_i (by omega)) (rfl) (Nat.le_trans (Nat.mul_le_mul_right _ mqa10) (by decide)) (Nat.le_of_ble_eq_true rfl) (Nat.le_trans (Nat.add_le_add_left mqa10 _) (Nat.le_of_ble_eq_true rfl)) dX1_init_13 (fun qa10 cqa10 H hK2 hP2 hD2 hS => ?_)
  obtain rfl : cqa10 = cy 2 := cls_int hK hK2
  have hqa10 : qa10 ∉ S6.L := nw_q hD2
  have e9 := wNw (cy := cy) (X := X) (S := S6) (a := qa10) (k := 26) (z := x1.toNatClampNeg) (f := fun _ => 0) (g := fun _ => none) hqa10 rfl
  obtain ⟨S11, hS11⟩ : ∃ z, S6.nw qa10 26 x1.toNatClampNeg (fun _ => 0) (fun _ => none) = z := ⟨_, rfl⟩
  have hP : va_P D vwCl (X ++ PL cy S11) H := by rw [← hS11, ← e9]; exact hP2
  have hD : va_D A (X ++ PL cy S11) := by rw [← hS11, ← e9]; exact hD2
  have xe12 : ext S6 S11 := by rw [← hS11]; exact ext.nw hqa10
  have t13 : stp ([] : List (Nat × Nat)) [o1] (o1 :: R) S S11 := by rw [← hS11]; exact t8.nwA hqa10 (by decide)
  refine W.widen (k := 2) (n := 400) (Nat.le_of_ble_eq_true rfl) (Nat.add_le_add_left mqa10 _) ?_
  have aqa10 : isA S11 qa10 26 := by rw [← hS11]; exact nw_A (Nat.lt_of_le_of_lt mqa10 (by decide))
  have nqa10 : S11.n qa10 = x1.toNatClampNeg := by rw [← hS11]; exact nw_n
  obtain ⟨k14, gk14, hk14⟩ := wGt (cy := cy) X S11 ((xe7.tr xe12).A (xe3.A h_o1)).1 ((xe7.tr xe12).A (xe3.A h_o1)).2.1
  refine va_putF (D := D) (ci := 5) (v := .ref qa10) (ty := (tyX1 1)) (C := RX1) (T := TX1) (N := 3) hx hb hts hi_X1_init_X1 tyX1 tyX1_ok nmX1 hown hK hP hD hS k14 hk14 rfl 1 (by decide) (hts (.fieldLink RX1 13 "Hobhouse$Chart" "stands" "[I") (by decide +kernel)) (fun _ h9 => h9) rfl hin rfl (by decide +kernel) (rfl) (rfl) (Nat.le_of_ble_eq_true rfl) dX1_init_15 (fun H locs hP2 hD2 hS => ?_)
  have e9 := wPuF (cy := cy) (j := 1) (v := (some qa10)) hD ((xe7.tr xe12).A (xe3.A h_o1)).1 ((xe7.tr xe12).A (xe3.A h_o1)).2.1 gk14 rfl
  obtain ⟨S15, hS15⟩ : ∃ z, S11.sF o1 1 (some qa10) = z := ⟨_, rfl⟩
  have hP : va_P D vwCl (X ++ PL cy S15) H := by rw [← hS15, ← e9]; exact hP2
  have hD : va_D A (X ++ PL cy S15) := by rw [← hS15, ← e9]; exact hD2
  have xe16 : ext S11 S15 := by rw [← hS15]; exact ext.sF (by rw [← hS11, nw_Fo hqa10 ((xe3.tr xe7).A h_o1).1]; rw [← hS6, sF_ne (fun q9 => absurd q9.2 (by decide))]; rw [← hS2, nw_Fo hqa1 h_o1.1]; exact hF0 1)
  have t17 : stp ([] : List (Nat × Nat)) [o1] (o1 :: R) S S15 := by rw [← hS15]; exact t13.F 1 qa10 List.mem_cons_self (Or.inl List.mem_cons_self) (by rw [← hS11, nw_Fo hqa10 ((xe3.tr xe7).A h_o1).1]; rw [← hS6, sF_ne (fun q9 => absurd q9.2 (by decide))]; rw [← hS2, nw_Fo hqa1 h_o1.1]; exact hF0 1)
  have F18 : S15.F o1 1 = some qa10 := by rw [← hS15]; exact sF_eq
  have oo : isA S15 o1 1 := (xe16.A ((xe7.tr xe12).A (xe3.A h_o1)))
  have I2 : S15.I o1 2 = (0 : Int32) := (by rw [← hS15]; show S11.I o1 2 = _; rw [← hS11, nw_Io hqa10 ((xe3.tr xe7).A h_o1).1]; rw [← hS6]; show S2.I o1 2 = _; rw [← hS2, nw_Io hqa1 h_o1.1]; exact hI0 2)
  have tt : stp ([] : List (Nat × Nat)) [o1] R S S15 := t17.un (okAt.of_1 oo.2.1 ⟨(by rw [f_of ((xe12.tr xe16).F ((xe3.tr xe7).A h_o1) (by decide) F9)]; exact ⟨((xe12.tr xe16).F ((xe3.tr xe7).A h_o1) (by decide) F9), ((xe7.tr (xe12.tr xe16)).A aqa1), (by rw [((xe7.tr (xe12.tr xe16)).n aqa1).trans nqa1]; exact clamp_le (by omega) (by omega))⟩), (by rw [f_of F18]; exact ⟨F18, (xe16.A aqa10), (by rw [f_of ((xe12.tr xe16).F ((xe3.tr xe7).A h_o1) (by decide) F9)]; exact ((xe16.n aqa10).trans nqa10).trans (((xe7.tr (xe12.tr xe16)).n aqa1).trans nqa1).symm)⟩)⟩)
  refine W.widen (k := 2) (n := 400) (Nat.le_of_ble_eq_true rfl) (Nat.le_of_ble_eq_true rfl) ?_
  exact W.vret hx hb hr (fun t ht hW9 => ⟨⟨S15, rfl, ⟨tt, oo, I2⟩, wd_end hP hK hD ht hW9.alike⟩, hS.F ht⟩) hS.2.2 dX1_init_18 hlocks
