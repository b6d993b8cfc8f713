def f_X9_setShift (S : wPS) (o1 : Nat) (x1 : Int32) (x2 : Int32) : Except String (Int32 × wPS) := eB (f_X9_gearAt S o1 x1) (fun r2 => eB (f_X9_needRange x2 (-100 : Int32) (100 : Int32)) (fun _ => if (S.I r2 9) = (0 : Int32) then eB (f_X9_allowOnly (1 : Int32)) (fun _ => l1 (S.sI r2 7 x2) (fun S24 => .ok (S.I r2 7, S24))) else eB (f_X9_allowOnly (0 : Int32)) (fun _ => .error "")))
theorem hi_X9_setShift_X2 : ∀ w ∈ u_ws RX2 TX2 20, w ∈ wsX9_setShift := by decide +kernel
theorem hd_X9_setShift : yX9_setShift.cls = RX9 ∧ yX9_setShift.cls ≠ "java/lang/invoke/MethodHandle" ∧ yX9_setShift.cls ≠ "java/lang/invoke/VarHandle" ∧ (parseMethodDescriptor yX9_setShift.desc).map (fun d => d.parameters.length) = some 2 := by decide +kernel
set_option maxHeartbeats 4000000 in
set_option maxRecDepth 100000 in
theorem c_X9_setShift (l : Launch) (hst : l.stackTraces = false) {D : va_G} {cy : Nat → ClassId} {X : va_W} (S : wPS) (sz : Nat) (o1 : Nat) (h_o1 : isA S o1 9) (x1 : Int32) (x2 : Int32) (hW : wtB S [])  : vx_Met l yX9_setShift wsX9_setShift ({ frames := 7, cells := 3, slots := 18, locals := 104 }) (va_Pc [.ref o1, .int x1, .int x2] (fun U => U.heap.size = sz ∧ WD D cy X (fun _ => True) S U ∧ NW U ∧ TH (va_A (X ++ PL cy S) sz) U)) (va_Qi (fun r (u : wPS) => f_X9_setShift S o1 x1 x2 = .ok (r, u) ∧ stp [(2, 7)] [] [] S u) (fun u t => WD D cy X (va_A (X ++ PL cy S) sz) u t) (va_A (X ++ PL cy S) sz)) (vx_X (fun (u : wPS) => stp [(2, 7)] [] [] S u) (fun E u t => f_X9_setShift S o1 x1 x2 = .error E ∧ E ∈ ["java/lang/IllegalArgumentException", "java/lang/IndexOutOfBoundsException", "java/lang/UnsupportedOperationException"] ∧ u = S ∧ WD D cy X (va_A (X ++ PL cy S) sz) u t) (va_A (X ++ PL cy S) sz)) 3 18 (va_A (X ++ PL cy S) sz) := by
  refine vx_ofW (cc := cX9_setShift) (maxL := 5) (ret := (some .int)) (by decide) rfl ?_
  intro p e s m args below meth c s₁ B hml hno hv
  obtain ⟨rfl, hsz, ⟨hP, hK, hD0⟩, hN, hTH⟩ := hv
  have hx := B.exec
  have hb := B.bytes
  have hr := B.returns
  have hts := atoms_spec (ws := wsX9_setShift) B.pre
  have hown : s.vm.findClass RX9 = some m.cls := findClass_of_methodNamed (x := yX9_setShift) B.named
  have hlocks := B.notSynchronized
  subst hsz
  have hD := hD0.self (sz := s.heap.size)
  generalize hAe : va_A (X ++ PL cy S) s.heap.size = A at hD hTH ⊢
  have hA : ∀ q : Nat, s.heap.size ≤ q → A q := fun q h => by rw [← hAe]; exact Or.inr h
  have hS : va_S A s.heap s.heap [] := va_S.rf
  have hl := lv_entry ([.ref o1, .int x1, .int x2]) (n := 5) (Nat.le_of_ble_eq_true rfl)
  rw [lg_entry_eq]
  generalize (lg_sl ([.ref o1, .int x1, .int x2]) ++ List.replicate (5 - (lg_sl ([.ref o1, .int x1, .int x2])).length) Slot.unset).toArray = ls at hl ⊢
  have hl : lv_has ls 5 [(0, .ref o1), (1, .int x1), (2, .int x2)] := hl
  have t0 : stp [(2, 7)] [] [] S S := stp.rf hW
  refine lv_aload_n hx hb dX9_setShift_0 rfl (lv_at hl 0 rfl) ?_
  refine lv_iload_n hx hb dX9_setShift_1 rfl (lv_at hl 1 rfl) ?_
  have hFc := free_all hD hS hA
  obtain ⟨k1, gk1, hk1⟩ := wGt (cy := cy) X S h_o1.1 h_o1.2.1
  refine vx_callq (vx_runV (As := [.int x1]) (rest := []) ⟨hx, hb, hml, hown, hts⟩ (c_X9_gearAt l hst (cy := cy) (X := X) (D := D) S _ o1 h_o1 x1 (hW)) (cwV 1 hts gX9_setShift_X9_gearAt rfl rfl rfl hd_X9_gearAt ⟨Nat.le_of_ble_eq_true rfl, Nat.le_of_ble_eq_true rfl⟩) (pVt (va_recv hK hP (q := (RX9, TX9, 11)) (ci := 13) (q0 := k1) rfl hk1) hP hK hD hN hTH hS hFc) rfl rfl hl.1 rfl (lv_room (Nat.le_of_ble_eq_true rfl)) dX9_setShift_2 ⟨Nat.le_of_ble_eq_true rfl, Nat.le_of_ble_eq_true rfl⟩) hS (fun q _ h => hFc q h) hFc (fun q _ h => hFc q h) (fun E ce q9 u t H1 locs ht hvm hw hB hz1 hk1 hS hq9 hce hcl => ?_) (fun r2 u t H1 locs ht hvm hw hB hz1 hk1 hS => ?_)
  · obtain ⟨c3, hEc3, hB2⟩ := hB
    obtain ⟨hP, hD⟩ := wd_post hFc ht hB2
    exact vx_out (fun x h => (hno x h).elim) hlocks hq9 hce hcl (fun t2 ht2 hA2 => ⟨S, t0, ⟨(by show f_X9_setShift S o1 x1 x2 = .error E; unfold f_X9_setShift; rw [eB_er c3]), (el_in (by decide) hEc3), rfl, wd_end hP hK hD ht2 hA2⟩, hS.F ht2⟩) hS.2.2 (Nat.le_of_ble_eq_true rfl) (Nat.le_of_ble_eq_true rfl)
  · obtain ⟨r2, rfl, c4, o5⟩ := hw
    obtain ⟨hP, hD⟩ := wd_post hFc ht hB
    generalize H1 = H at hP hS ⊢
    refine W.eq (g2 := F0 m 5 ls [.ref r2]) rfl ?_
    refine lv_astore_n (lv' := [(3, .ref r2), (0, .ref o1), (1, .int x1), (2, .int x2)]) hx hb dX9_setShift_5 rfl hl (by decide) rfl (fun ls hl => ?_)
    refine lv_iload_n hx hb dX9_setShift_6 rfl (lv_at hl 3 rfl) ?_
    refine lv_bipush (v := -100) hx hb dX9_setShift_7 (by decide +kernel) ?_
    refine lv_bipush (v := 100) hx hb dX9_setShift_9 (by decide +kernel) ?_
    have l32_100 : (100 : Int32).toInt = 100 := rfl
    have hFc := free_all hD hS hA
    refine vx_callv (vx_runS (As := [.int x2, .int (-100 : Int32), .int (100 : Int32)]) (rest := []) ⟨hx, hb, hml, hown, hts⟩ (c_X9_needRange l hst (cy := cy) (X := X) (D := D) S _ x2 (-100 : Int32) (100 : Int32)) (cwS 3 hts gX9_setShift_X9_needRange rfl rfl rfl hd_X9_needRange ⟨Nat.le_of_ble_eq_true rfl, Nat.le_of_ble_eq_true rfl⟩) (pSt hP hK hD hN hTH hS hFc) rfl rfl hl.1 rfl (lv_room (Nat.le_of_ble_eq_true rfl)) dX9_setShift_11 ⟨Nat.le_of_ble_eq_true rfl, Nat.le_of_ble_eq_true rfl⟩) hS (fun q _ h => hFc q h) hFc (fun q _ h => hFc q h) (fun E ce q9 u t H1 locs ht hvm hw hB hz1 hk1 hS hq9 hce hcl => ?_) (fun u t H1 locs ht hvm hw hB hz1 hk1 hS => ?_)
    · obtain ⟨c7, hEc7, hB2⟩ := hB
      obtain ⟨hP, hD⟩ := wd_post hFc ht hB2
      exact vx_out (fun x h => (hno x h).elim) hlocks hq9 hce hcl (fun t2 ht2 hA2 => ⟨S, t0, ⟨(by show f_X9_setShift S o1 x1 x2 = .error E; unfold f_X9_setShift; rw [eB_ok c4, eB_er c7]), (el_in (by decide) hEc7), rfl, wd_end hP hK hD ht2 hA2⟩, hS.F ht2⟩) hS.2.2 (Nat.le_of_ble_eq_true rfl) (Nat.le_of_ble_eq_true rfl)
    · have c8 := hw
      obtain ⟨hP, hD⟩ := wd_post hFc ht hB
      generalize H1 = H at hP hS ⊢
      have i9 := nr_i c8
      have i9l := i9.1
      have i9h := i9.2
      have l10 : (-100 : Int32).toInt = -100 := rfl
      have l11 : (100 : Int32).toInt = 100 := rfl
      refine lv_aload_n hx hb dX9_setShift_14 rfl (lv_at hl 0 rfl) ?_
      obtain ⟨k12, gk12, hk12⟩ := wGt (cy := cy) X S o5.1 o5.2.1
      have i13 := ((hW.at o5 List.not_mem_nil).to_2 o5.2.1).R9
      refine va_get (D := D) (ci := 6) (v := .int (S.I r2 9)) (C := RX2) (T := TX2) (N := 20) hx hb hts hi_X9_setShift_X2 hown hK hP k12 hk12 rfl 9 (by decide) (hts (.fieldLink RX9 81 "Hobhouse$Gear" "isCut" "Z") (by decide +kernel)) (fun _ h9 => h9) rfl dX9_setShift_15 ?_
      refine lv_if_ne (tgt := 25) hx hb dX9_setShift_18 (by decide) (fun c14 => ?_) (fun c14 => ?_)
      · have c14i : ¬ (S.I r2 9).toInt = 0 := neq_v rfl rfl c14
        refine lv_iconst (v := 0) hx hb dX9_setShift_25 (by decide) ?_
        have l32_0 : (0 : Int32).toInt = 0 := rfl
        have hFc := free_all hD hS hA
        refine vx_callv (vx_runS (As := [.int (0 : Int32)]) (rest := []) ⟨hx, hb, hml, hown, hts⟩ (c_X9_allowOnly l hst (cy := cy) (X := X) (D := D) S _ (0 : Int32)) (cwS 1 hts gX9_setShift_X9_allowOnly rfl rfl rfl hd_X9_allowOnly ⟨Nat.le_of_ble_eq_true rfl, Nat.le_of_ble_eq_true rfl⟩) (pSt hP hK hD hN hTH hS hFc) rfl rfl hl.1 rfl (lv_room (Nat.le_of_ble_eq_true rfl)) dX9_setShift_26 ⟨Nat.le_of_ble_eq_true rfl, Nat.le_of_ble_eq_true rfl⟩) hS (fun q _ h => hFc q h) hFc (fun q _ h => hFc q h) (fun E ce q9 u t H1 locs ht hvm hw hB hz1 hk1 hS hq9 hce hcl => ?_) (fun u t H1 locs ht hvm hw hB hz1 hk1 hS => ?_)
        · obtain ⟨c16, hEc16, hB2⟩ := hB
          obtain ⟨hP, hD⟩ := wd_post hFc ht hB2
          exact vx_out (fun x h => (hno x h).elim) hlocks hq9 hce hcl (fun t2 ht2 hA2 => ⟨S, t0, ⟨(by show f_X9_setShift S o1 x1 x2 = .error E; unfold f_X9_setShift; rw [eB_ok c4, eB_ok c8, if_neg c14, eB_er c16]), (el_in (by decide) hEc16), rfl, wd_end hP hK hD ht2 hA2⟩, hS.F ht2⟩) hS.2.2 (Nat.le_of_ble_eq_true rfl) (Nat.le_of_ble_eq_true rfl)
        · have c17 := hw
          obtain ⟨hP, hD⟩ := wd_post hFc ht hB
          generalize H1 = H at hP hS ⊢
          exact absurd rfl (ao_i c17)
      · have c14i : (S.I r2 9).toInt = 0 := eq_v rfl rfl c14
        refine lv_iconst (v := 1) hx hb dX9_setShift_21 (by decide) ?_
        refine lv_goto (tgt := 26) hx hb dX9_setShift_22 (by decide) ?_
        have l32_1 : (1 : Int32).toInt = 1 := rfl
        have hFc := free_all hD hS hA
        refine vx_callv (vx_runS (As := [.int (1 : Int32)]) (rest := []) ⟨hx, hb, hml, hown, hts⟩ (c_X9_allowOnly l hst (cy := cy) (X := X) (D := D) S _ (1 : Int32)) (cwS 1 hts gX9_setShift_X9_allowOnly rfl rfl rfl hd_X9_allowOnly ⟨Nat.le_of_ble_eq_true rfl, Nat.le_of_ble_eq_true rfl⟩) (pSt hP hK hD hN hTH hS hFc) rfl rfl hl.1 rfl (lv_room (Nat.le_of_ble_eq_true rfl)) dX9_setShift_26 ⟨Nat.le_of_ble_eq_true rfl, Nat.le_of_ble_eq_true rfl⟩) hS (fun q _ h => hFc q h) hFc (fun q _ h => hFc q h) (fun E ce q9 u t H1 locs ht hvm hw hB hz1 hk1 hS hq9 hce hcl => ?_) (fun u t H1 locs ht hvm hw hB hz1 hk1 hS => ?_)
        · obtain ⟨c19, hEc19, hB2⟩ := hB
          obtain ⟨hP, hD⟩ := wd_post hFc ht hB2
          exact vx_out (fun x h => (hno x h).elim) hlocks hq9 hce hcl (fun t2 ht2 hA2 => ⟨S, t0, ⟨(by show f_X9_setShift S o1 x1 x2 = .error E; unfold f_X9_setShift; rw [eB_ok c4, eB_ok c8, if_pos c14, eB_er c19]), (el_in (by decide) hEc19), rfl, wd_end hP hK hD ht2 hA2⟩, hS.F ht2⟩) hS.2.2 (Nat.le_of_ble_eq_true rfl) (Nat.le_of_ble_eq_true rfl)
        · have c20 := hw
          obtain ⟨hP, hD⟩ := wd_post hFc ht hB
          generalize H1 = H at hP hS ⊢
          have i21 := ao_i c20
          refine lv_aload_n hx hb dX9_setShift_29 rfl (lv_at hl 0 rfl) ?_
          obtain ⟨k22, gk22, hk22⟩ := wGt (cy := cy) X S o5.1 o5.2.1
          refine va_get (D := D) (ci := 6) (v := .int (S.I r2 7)) (C := RX2) (T := TX2) (N := 20) hx hb hts hi_X9_setShift_X2 hown hK hP k22 hk22 rfl 7 (by decide) (hts (.fieldLink RX9 89 "Hobhouse$Gear" "shift" "I") (by decide +kernel)) (fun _ h9 => h9) rfl dX9_setShift_30 ?_
          refine lv_istore (lv' := [(4, .int (S.I r2 7)), (3, .ref r2), (0, .ref o1), (1, .int x1), (2, .int x2)]) hx hb dX9_setShift_33 hl (by decide) rfl (fun ls hl => ?_)
          refine lv_aload_n hx hb dX9_setShift_35 rfl (lv_at hl 1 rfl) ?_
          refine lv_iload_n hx hb dX9_setShift_36 rfl (lv_at hl 4 rfl) ?_
          obtain ⟨k23, gk23, hk23⟩ := wGt (cy := cy) X S o5.1 o5.2.1
          refine va_put (D := D) (ci := 6) (v := .int x2) (ty := .int) (C := RX2) (T := TX2) (N := 20) hx hb hts hi_X9_setShift_X2 tyX2 tyX2_ok nmX2 hown hK hP hD hS k23 hk23 rfl 7 (by decide) (hts (.fieldLink RX9 89 "Hobhouse$Gear" "shift" "I") (by decide +kernel)) (fun _ h9 => h9) rfl (by decide +kernel) (rfl) (rfl) (Nat.le_of_ble_eq_true rfl) dX9_setShift_37 (fun H locs hP2 hD2 hS => ?_)
          have e9 := wPuI (cy := cy) (j := 7) (v := x2) hD o5.1 o5.2.1 gk23 rfl
          obtain ⟨S24, hS24⟩ : ∃ z, S.sI r2 7 x2 = z := ⟨_, rfl⟩
          have hP : va_P D vwCl (X ++ PL cy S24) H := by rw [← hS24, ← e9]; exact hP2
          have hD : va_D A (X ++ PL cy S24) := by rw [← hS24, ← e9]; exact hD2
          have xe25 : ext S S24 := by rw [← hS24]; exact ext.sI _ _ _ _
          have t26 : stp [(2, 7)] [] [] S S24 := by rw [← hS24]; exact t0.I 7 x2 o5 (by decide) (trivial) (Or.inl (by decide))
          refine lv_iload hx hb dX9_setShift_40 (lv_at hl 0 rfl) ?_
          refine vx_ret ?_
          refine W.widen (k := 3) (n := 18) (Nat.le_of_ble_eq_true rfl) (Nat.le_of_ble_eq_true rfl) ?_
          exact W.iret (v := S.I r2 7) hx hb hr (fun t ht hW9 => ⟨⟨S.I r2 7, S24, rfl, ⟨(by show f_X9_setShift S o1 x1 x2 = .ok (S.I r2 7, S24); unfold f_X9_setShift; rw [eB_ok c4, eB_ok c8, if_pos c14, eB_ok c20, l1_eq hS24]), t26⟩, wd_end hP hK hD ht hW9.alike⟩, hS.F ht⟩) hS.2.2 dX9_setShift_42 hlocks
def f_X9_shoulder (S : wPS) (o1 : Nat) (x1 : Int32) (x2 : Int32) : Except String (Int32 × wPS) := eB (f_X9_gearAt S o1 x1) (fun r2 => eB (f_X9_needRange x2 (-1 : Int32) (99999 : Int32)) (fun _ => l1 (S.sI r2 8 x2) (fun S14 => .ok (S.I r2 8, S14))))
theorem hi_X9_shoulder_X2 : ∀ w ∈ u_ws RX2 TX2 20, w ∈ wsX9_shoulder := by decide +kernel
theorem hd_X9_shoulder : yX9_shoulder.cls = RX9 ∧ yX9_shoulder.cls ≠ "java/lang/invoke/MethodHandle" ∧ yX9_shoulder.cls ≠ "java/lang/invoke/VarHandle" ∧ (parseMethodDescriptor yX9_shoulder.desc).map (fun d => d.parameters.length) = some 2 := by decide +kernel
set_option maxHeartbeats 4000000 in
set_option maxRecDepth 100000 in
theorem c_X9_shoulder (l : Launch) (hst : l.stackTraces = false) {D : va_G} {cy : Nat → ClassId} {X : va_W} (S : wPS) (sz : Nat) (o1 : Nat) (h_o1 : isA S o1 9) (x1 : Int32) (x2 : Int32) (hW : wtB S [])  : vx_Met l yX9_shoulder wsX9_shoulder ({ frames := 7, cells := 2, slots := 12, locals := 104 }) (va_Pc [.ref o1, .int x1, .int x2] (fun U => U.heap.size = sz ∧ WD D cy X (fun _ => True) S U ∧ NW U ∧ TH (va_A (X ++ PL cy S) sz) U)) (va_Qi (fun r (u : wPS) => f_X9_shoulder S o1 x1 x2 = .ok (r, u) ∧ stp [(2, 8)] [] [] S u) (fun u t => WD D cy X (va_A (X ++ PL cy S) sz) u t) (va_A (X ++ PL cy S) sz)) (vx_X (fun (u : wPS) => stp [(2, 8)] [] [] S u) (fun E u t => f_X9_shoulder S o1 x1 x2 = .error E ∧ E ∈ ["java/lang/IllegalArgumentException", "java/lang/IndexOutOfBoundsException"] ∧ u = S ∧ WD D cy X (va_A (X ++ PL cy S) sz) u t) (va_A (X ++ PL cy S) sz)) 2 12 (va_A (X ++ PL cy S) sz) := by
  refine vx_ofW (cc := cX9_shoulder) (maxL := 5) (ret := (some .int)) (by decide) rfl ?_
  intro p e s m args below meth c s₁ B hml hno hv
  obtain ⟨rfl, hsz, ⟨hP, hK, hD0⟩, hN, hTH⟩ := hv
  have hx := B.exec
  have hb := B.bytes
  have hr := B.returns
  have hts := atoms_spec (ws := wsX9_shoulder) B.pre
  have hown : s.vm.findClass RX9 = some m.cls := findClass_of_methodNamed (x := yX9_shoulder) B.named
  have hlocks := B.notSynchronized
  subst hsz
  have hD := hD0.self (sz := s.heap.size)
  generalize hAe : va_A (X ++ PL cy S) s.heap.size = A at hD hTH ⊢
  have hA : ∀ q : Nat, s.heap.size ≤ q → A q := fun q h => by rw [← hAe]; exact Or.inr h
  have hS : va_S A s.heap s.heap [] := va_S.rf
  have hl := lv_entry ([.ref o1, .int x1, .int x2]) (n := 5) (Nat.le_of_ble_eq_true rfl)
  rw [lg_entry_eq]
  generalize (lg_sl ([.ref o1, .int x1, .int x2]) ++ List.replicate (5 - (lg_sl ([.ref o1, .int x1, .int x2])).length) Slot.unset).toArray = ls at hl ⊢
  have hl : lv_has ls 5 [(0, .ref o1), (1, .int x1), (2, .int x2)] := hl
  have t0 : stp [(2, 8)] [] [] S S := stp.rf hW
  refine lv_aload_n hx hb dX9_shoulder_0 rfl (lv_at hl 0 rfl) ?_
  refine lv_iload_n hx hb dX9_shoulder_1 rfl (lv_at hl 1 rfl) ?_
  have hFc := free_all hD hS hA
  obtain ⟨k1, gk1, hk1⟩ := wGt (cy := cy) X S h_o1.1 h_o1.2.1
  refine vx_callq (vx_runV (As := [.int x1]) (rest := []) ⟨hx, hb, hml, hown, hts⟩ (c_X9_gearAt l hst (cy := cy) (X := X) (D := D) S _ o1 h_o1 x1 (hW)) (cwV 1 hts gX9_shoulder_X9_gearAt rfl rfl rfl hd_X9_gearAt ⟨Nat.le_of_ble_eq_true rfl, Nat.le_of_ble_eq_true rfl⟩) (pVt (va_recv hK hP (q := (RX9, TX9, 11)) (ci := 13) (q0 := k1) rfl hk1) hP hK hD hN hTH hS hFc) rfl rfl hl.1 rfl (lv_room (Nat.le_of_ble_eq_true rfl)) dX9_shoulder_2 ⟨Nat.le_of_ble_eq_true rfl, Nat.le_of_ble_eq_true rfl⟩) hS (fun q _ h => hFc q h) hFc (fun q _ h => hFc q h) (fun E ce q9 u t H1 locs ht hvm hw hB hz1 hk1 hS hq9 hce hcl => ?_) (fun r2 u t H1 locs ht hvm hw hB hz1 hk1 hS => ?_)
  · obtain ⟨c3, hEc3, hB2⟩ := hB
    obtain ⟨hP, hD⟩ := wd_post hFc ht hB2
    exact vx_out (fun x h => (hno x h).elim) hlocks hq9 hce hcl (fun t2 ht2 hA2 => ⟨S, t0, ⟨(by show f_X9_shoulder S o1 x1 x2 = .error E; unfold f_X9_shoulder; rw [eB_er c3]), (el_in (by decide) hEc3), rfl, wd_end hP hK hD ht2 hA2⟩, hS.F ht2⟩) hS.2.2 (Nat.le_of_ble_eq_true rfl) (Nat.le_of_ble_eq_true rfl)
  · obtain ⟨r2, rfl, c4, o5⟩ := hw
    obtain ⟨hP, hD⟩ := wd_post hFc ht hB
    generalize H1 = H at hP hS ⊢
    refine W.eq (g2 := F0 m 5 ls [.ref r2]) rfl ?_
    refine lv_astore_n (lv' := [(3, .ref r2), (0, .ref o1), (1, .int x1), (2, .int x2)]) hx hb dX9_shoulder_5 rfl hl (by decide) rfl (fun ls hl => ?_)
    refine lv_iload_n hx hb dX9_shoulder_6 rfl (lv_at hl 3 rfl) ?_
    refine lv_iconst (v := -1) hx hb dX9_shoulder_7 (by decide) ?_
    refine lv_ldc (own := RX9) (v := 99999) hx hb hown (hts (.constant RX9 63 (99999)) (by decide +kernel)) dX9_shoulder_8 ?_
    have l32_99999 : (99999 : Int32).toInt = 99999 := rfl
    have hFc := free_all hD hS hA
    refine vx_callv (vx_runS (As := [.int x2, .int (-1 : Int32), .int (99999 : Int32)]) (rest := []) ⟨hx, hb, hml, hown, hts⟩ (c_X9_needRange l hst (cy := cy) (X := X) (D := D) S _ x2 (-1 : Int32) (99999 : Int32)) (cwS 3 hts gX9_shoulder_X9_needRange rfl rfl rfl hd_X9_needRange ⟨Nat.le_of_ble_eq_true rfl, Nat.le_of_ble_eq_true rfl⟩) (pSt hP hK hD hN hTH hS hFc) rfl rfl hl.1 rfl (lv_room (Nat.le_of_ble_eq_true rfl)) dX9_shoulder_10 ⟨Nat.le_of_ble_eq_true rfl, Nat.le_of_ble_eq_true rfl⟩) hS (fun q _ h => hFc q h) hFc (fun q _ h => hFc q h) (fun E ce q9 u t H1 locs ht hvm hw hB hz1 hk1 hS hq9 hce hcl => ?_) (fun u t H1 locs ht hvm hw hB hz1 hk1 hS => ?_)
    · obtain ⟨c7, hEc7, hB2⟩ := hB
      obtain ⟨hP, hD⟩ := wd_post hFc ht hB2
      exact vx_out (fun x h => (hno x h).elim) hlocks hq9 hce hcl (fun t2 ht2 hA2 => ⟨S, t0, ⟨(by show f_X9_shoulder S o1 x1 x2 = .error E; unfold f_X9_shoulder; rw [eB_ok c4, eB_er c7]), (el_in (by decide) hEc7), rfl, wd_end hP hK hD ht2 hA2⟩, hS.F ht2⟩) hS.2.2 (Nat.le_of_ble_eq_true rfl) (Nat.le_of_ble_eq_true rfl)
    · have c8 := hw
      obtain ⟨hP, hD⟩ := wd_post hFc ht hB
      generalize H1 = H at hP hS ⊢
      have i9 := nr_i c8
      have i9l := i9.1
      have i9h := i9.2
      have l10 : (-1 : Int32).toInt = -1 := rfl
      have l11 : (99999 : Int32).toInt = 99999 := rfl
      refine lv_aload_n hx hb dX9_shoulder_13 rfl (lv_at hl 0 rfl) ?_
      obtain ⟨k12, gk12, hk12⟩ := wGt (cy := cy) X S o5.1 o5.2.1
      refine va_get (D := D) (ci := 6) (v := .int (S.I r2 8)) (C := RX2) (T := TX2) (N := 20) hx hb hts hi_X9_shoulder_X2 hown hK hP k12 hk12 rfl 8 (by decide) (hts (.fieldLink RX9 264 "Hobhouse$Gear" "room" "I") (by decide +kernel)) (fun _ h9 => h9) rfl dX9_shoulder_14 ?_
      refine lv_istore (lv' := [(4, .int (S.I r2 8)), (3, .ref r2), (0, .ref o1), (1, .int x1), (2, .int x2)]) hx hb dX9_shoulder_17 hl (by decide) rfl (fun ls hl => ?_)
      refine lv_aload_n hx hb dX9_shoulder_19 rfl (lv_at hl 1 rfl) ?_
      refine lv_iload_n hx hb dX9_shoulder_20 rfl (lv_at hl 4 rfl) ?_
      obtain ⟨k13, gk13, hk13⟩ := wGt (cy := cy) X S o5.1 o5.2.1
      refine va_put (D := D) (ci := 6) (v := .int x2) (ty := .int) (C := RX2) (T := TX2) (N := 20) hx hb hts hi_X9_shoulder_X2 tyX2 tyX2_ok nmX2 hown hK hP hD hS k13 hk13 rfl 8 (by decide) (hts (.fieldLink RX9 264 "Hobhouse$Gear" "room" "I") (by decide +kernel)) (fun _ h9 => h9) rfl (by decide +kernel) (rfl) (rfl) (Nat.le_of_ble_eq_true rfl) dX9_shoulder_21 (fun H locs hP2 hD2 hS => ?_)
      have e9 := wPuI (cy := cy) (j := 8) (v := x2) hD o5.1 o5.2.1 gk13 rfl
      obtain ⟨S14, hS14⟩ : ∃ z, S.sI r2 8 x2 = z := ⟨_, rfl⟩
      have hP : va_P D vwCl (X ++ PL cy S14) H := by rw [← hS14, ← e9]; exact hP2
      have hD : va_D A (X ++ PL cy S14) := by rw [← hS14, ← e9]; exact hD2
      have xe15 : ext S S14 := by rw [← hS14]; exact ext.sI _ _ _ _
      have t16 : stp [(2, 8)] [] [] S S14 := by rw [← hS14]; exact t0.I 8 x2 o5 (by decide) (trivial) (Or.inl (by decide))
      refine lv_iload hx hb dX9_shoulder_24 (lv_at hl 0 rfl) ?_
      refine vx_ret ?_
      refine W.widen (k := 2) (n := 12) (Nat.le_of_ble_eq_true rfl) (Nat.le_of_ble_eq_true rfl) ?_
      exact W.iret (v := S.I r2 8) hx hb hr (fun t ht hW9 => ⟨⟨S.I r2 8, S14, rfl, ⟨(by show f_X9_shoulder S o1 x1 x2 = .ok (S.I r2 8, S14); unfold f_X9_shoulder; rw [eB_ok c4, eB_ok c8, l1_eq hS14]), t16⟩, wd_end hP hK hD ht hW9.alike⟩, hS.F ht⟩) hS.2.2 dX9_shoulder_26 hlocks
def f_X9_slide (S : wPS) (o1 : Nat) (x1 : Int32) (x2 : Int32) : Except String Int64 := eB (f_X9_gearAt S o1 x1) (fun r2 => eB (f_X9_gearAt S o1 x2) (fun r7 => eB (f_X9_needPair S r2 r7) (fun _ => .ok (if 0 < ((f_X2_wayAt S r2 (S.I r2 7)) - (f_X2_wayAt S r7 (S.I r7 7))) then ((f_X2_wayAt S r2 (S.I r2 7)) - (f_X2_wayAt S r7 (S.I r7 7))) else -((f_X2_wayAt S r2 (S.I r2 7)) - (f_X2_wayAt S r7 (S.I r7 7)))))))
theorem hi_X9_slide_X2 : ∀ w ∈ u_ws RX2 TX2 20, w ∈ wsX9_slide := by decide +kernel
theorem hd_X9_slide : yX9_slide.cls = RX9 ∧ yX9_slide.cls ≠ "java/lang/invoke/MethodHandle" ∧ yX9_slide.cls ≠ "java/lang/invoke/VarHandle" ∧ (parseMethodDescriptor yX9_slide.desc).map (fun d => d.parameters.length) = some 2 := by decide +kernel
set_option maxHeartbeats 4000000 in
set_option maxRecDepth 100000 in
theorem c_X9_slide (l : Launch) (hst : l.stackTraces = false) {D : va_G} {cy : Nat → ClassId} {X : va_W} (S : wPS) (sz : Nat) (o1 : Nat) (h_o1 : isA S o1 9) (x1 : Int32) (x2 : Int32) (hW : wtB S [])  : vx_Met l yX9_slide wsX9_slide ({ frames := 8, cells := 3, slots := 18, locals := 123 }) (va_Pc [.ref o1, .int x1, .int x2] (fun U => U.heap.size = sz ∧ WD D cy X (fun _ => True) S U ∧ NW U ∧ TH (va_A (X ++ PL cy S) sz) U)) (va_Ql (fun r (_ : Unit) => f_X9_slide S o1 x1 x2 = .ok r) (fun _ t => WD D cy X (va_A (X ++ PL cy S) sz) S t) (va_A (X ++ PL cy S) sz)) (vx_X (fun (_ : Unit) => True) (fun E _ t => f_X9_slide S o1 x1 x2 = .error E ∧ E ∈ ["java/lang/IndexOutOfBoundsException", "java/lang/UnsupportedOperationException"] ∧ WD D cy X (va_A (X ++ PL cy S) sz) S t) (va_A (X ++ PL cy S) sz)) 3 18 (va_A (X ++ PL cy S) sz) := by
  refine vx_ofW (cc := cX9_slide) (maxL := 5) (ret := (some .long)) (by decide) rfl ?_
  intro p e s m args below meth c s₁ B hml hno hv
  obtain ⟨rfl, hsz, ⟨hP, hK, hD0⟩, hN, hTH⟩ := hv
  have hx := B.exec
  have hb := B.bytes
  have hr := B.returns
  have hts := atoms_spec (ws := wsX9_slide) B.pre
  have hown : s.vm.findClass RX9 = some m.cls := findClass_of_methodNamed (x := yX9_slide) B.named
  have hlocks := B.notSynchronized
  subst hsz
  have hD := hD0.self (sz := s.heap.size)
  generalize hAe : va_A (X ++ PL cy S) s.heap.size = A at hD hTH ⊢
  have hA : ∀ q : Nat, s.heap.size ≤ q → A q := fun q h => by rw [← hAe]; exact Or.inr h
  have hS : va_S A s.heap s.heap [] := va_S.rf
  have hl := lv_entry ([.ref o1, .int x1, .int x2]) (n := 5) (Nat.le_of_ble_eq_true rfl)
  rw [lg_entry_eq]
  generalize (lg_sl ([.ref o1, .int x1, .int x2]) ++ List.replicate (5 - (lg_sl ([.ref o1, .int x1, .int x2])).length) Slot.unset).toArray = ls at hl ⊢
  have hl : lv_has ls 5 [(0, .ref o1), (1, .int x1), (2, .int x2)] := hl
  refine lv_aload_n hx hb dX9_slide_0 rfl (lv_at hl 0 rfl) ?_
  refine lv_iload_n hx hb dX9_slide_1 rfl (lv_at hl 1 rfl) ?_
  have hFc := free_all hD hS hA
  obtain ⟨k1, gk1, hk1⟩ := wGt (cy := cy) X S h_o1.1 h_o1.2.1
  refine vx_callq (vx_runV (As := [.int x1]) (rest := []) ⟨hx, hb, hml, hown, hts⟩ (c_X9_gearAt l hst (cy := cy) (X := X) (D := D) S _ o1 h_o1 x1 (hW)) (cwV 1 hts gX9_slide_X9_gearAt rfl rfl rfl hd_X9_gearAt ⟨Nat.le_of_ble_eq_true rfl, Nat.le_of_ble_eq_true rfl⟩) (pVt (va_recv hK hP (q := (RX9, TX9, 11)) (ci := 13) (q0 := k1) rfl hk1) hP hK hD hN hTH hS hFc) rfl rfl hl.1 rfl (lv_room (Nat.le_of_ble_eq_true rfl)) dX9_slide_2 ⟨Nat.le_of_ble_eq_true rfl, Nat.le_of_ble_eq_true rfl⟩) hS (fun q _ h => hFc q h) hFc (fun q _ h => hFc q h) (fun E ce q9 u t H1 locs ht hvm hw hB hz1 hk1 hS hq9 hce hcl => ?_) (fun r2 u t H1 locs ht hvm hw hB hz1 hk1 hS => ?_)
  · obtain ⟨c3, hEc3, hB2⟩ := hB
    obtain ⟨hP, hD⟩ := wd_post hFc ht hB2
    exact vx_out (fun x h => (hno x h).elim) hlocks hq9 hce hcl (fun t2 ht2 hA2 => ⟨(), trivial, ⟨(by show f_X9_slide S o1 x1 x2 = .error E; unfold f_X9_slide; rw [eB_er c3]), (el_in (by decide) hEc3), wd_end hP hK hD ht2 hA2⟩, hS.F ht2⟩) hS.2.2 (Nat.le_of_ble_eq_true rfl) (Nat.le_of_ble_eq_true rfl)
  · obtain ⟨r2, rfl, c4, o5⟩ := hw
    obtain ⟨hP, hD⟩ := wd_post hFc ht hB
    generalize H1 = H at hP hS ⊢
    refine W.eq (g2 := F0 m 5 ls [.ref r2]) rfl ?_
    refine lv_astore_n (lv' := [(3, .ref r2), (0, .ref o1), (1, .int x1), (2, .int x2)]) hx hb dX9_slide_5 rfl hl (by decide) rfl (fun ls hl => ?_)
    refine lv_aload_n hx hb dX9_slide_6 rfl (lv_at hl 1 rfl) ?_
    refine lv_iload_n hx hb dX9_slide_7 rfl (lv_at hl 3 rfl) ?_
    have hFc := free_all hD hS hA
    obtain ⟨k6, gk6, hk6⟩ := wGt (cy := cy) X S h_o1.1 h_o1.2.1
    refine vx_callq (vx_runV (As := [.int x2]) (rest := []) ⟨hx, hb, hml, hown, hts⟩ (c_X9_gearAt l hst (cy := cy) (X := X) (D := D) S _ o1 h_o1 x2 (hW)) (cwV 1 hts gX9_slide_X9_gearAt rfl rfl rfl hd_X9_gearAt ⟨Nat.le_of_ble_eq_true rfl, Nat.le_of_ble_eq_true rfl⟩) (pVt (va_recv hK hP (q := (RX9, TX9, 11)) (ci := 13) (q0 := k6) rfl hk6) hP hK hD hN hTH hS hFc) rfl rfl hl.1 rfl (lv_room (Nat.le_of_ble_eq_true rfl)) dX9_slide_8 ⟨Nat.le_of_ble_eq_true rfl, Nat.le_of_ble_eq_true rfl⟩) hS (fun q _ h => hFc q h) hFc (fun q _ h => hFc q h) (fun E ce q9 u t H1 locs ht hvm hw hB hz1 hk1 hS hq9 hce hcl => ?_) (fun r7 u t H1 locs ht hvm hw hB hz1 hk1 hS => ?_)
    · obtain ⟨c8, hEc8, hB2⟩ := hB
      obtain ⟨hP, hD⟩ := wd_post hFc ht hB2
      exact vx_out (fun x h => (hno x h).elim) hlocks hq9 hce hcl (fun t2 ht2 hA2 => ⟨(), trivial, ⟨(by show f_X9_slide S o1 x1 x2 = .error E; unfold f_X9_slide; rw [eB_ok c4, eB_er c8]), (el_in (by decide) hEc8), wd_end hP hK hD ht2 hA2⟩, hS.F ht2⟩) hS.2.2 (Nat.le_of_ble_eq_true rfl) (Nat.le_of_ble_eq_true rfl)
    · obtain ⟨r7, rfl, c9, o10⟩ := hw
      obtain ⟨hP, hD⟩ := wd_post hFc ht hB
      generalize H1 = H at hP hS ⊢
      refine W.eq (g2 := F0 m 11 ls [.ref r7]) rfl ?_
      refine lv_astore (lv' := [(4, .ref r7), (3, .ref r2), (0, .ref o1), (1, .int x1), (2, .int x2)]) hx hb dX9_slide_11 hl (by decide) rfl (fun ls hl => ?_)
      refine lv_aload_n hx hb dX9_slide_13 rfl (lv_at hl 1 rfl) ?_
      refine lv_aload hx hb dX9_slide_14 (lv_at hl 0 rfl) ?_
      have hFc := free_all hD hS hA
      refine vx_callv (vx_runS (As := [.ref r2, .ref r7]) (rest := []) ⟨hx, hb, hml, hown, hts⟩ (c_X9_needPair l hst (cy := cy) (X := X) (D := D) S _ r2 o5 r7 o10) (cwS 2 hts gX9_slide_X9_needPair rfl rfl rfl hd_X9_needPair ⟨Nat.le_of_ble_eq_true rfl, Nat.le_of_ble_eq_true rfl⟩) (pSt hP hK hD hN hTH hS hFc) rfl rfl hl.1 rfl (lv_room (Nat.le_of_ble_eq_true rfl)) dX9_slide_16 ⟨Nat.le_of_ble_eq_true rfl, Nat.le_of_ble_eq_true rfl⟩) hS (fun q _ h => hFc q h) hFc (fun q _ h => hFc q h) (fun E ce q9 u t H1 locs ht hvm hw hB hz1 hk1 hS hq9 hce hcl => ?_) (fun u t H1 locs ht hvm hw hB hz1 hk1 hS => ?_)
      · obtain ⟨c12, hEc12, hB2⟩ := hB
        obtain ⟨hP, hD⟩ := wd_post hFc ht hB2
        exact vx_out (fun x h => (hno x h).elim) hlocks hq9 hce hcl (fun t2 ht2 hA2 => ⟨(), trivial, ⟨(by show f_X9_slide S o1 x1 x2 = .error E; unfold f_X9_slide; rw [eB_ok c4, eB_ok c9, eB_er c12]), (el_in (by decide) hEc12), wd_end hP hK hD ht2 hA2⟩, hS.F ht2⟩) hS.2.2 (Nat.le_of_ble_eq_true rfl) (Nat.le_of_ble_eq_true rfl)
      · have c13 := hw
        obtain ⟨hP, hD⟩ := wd_post hFc ht hB
        generalize H1 = H at hP hS ⊢
        refine lv_aload_n hx hb dX9_slide_19 rfl (lv_at hl 1 rfl) ?_
        refine lv_aload_n hx hb dX9_slide_20 rfl (lv_at hl 1 rfl) ?_
        obtain ⟨k14, gk14, hk14⟩ := wGt (cy := cy) X S o5.1 o5.2.1
        refine va_get (D := D) (ci := 6) (v := .int (S.I r2 7)) (C := RX2) (T := TX2) (N := 20) hx hb hts hi_X9_slide_X2 hown hK hP k14 hk14 rfl 7 (by decide) (hts (.fieldLink RX9 89 "Hobhouse$Gear" "shift" "I") (by decide +kernel)) (fun _ h9 => h9) rfl dX9_slide_21 ?_
        have hFc := free_all hD hS hA
        obtain ⟨k15, gk15, hk15⟩ := wGt (cy := cy) X S o5.1 o5.2.1
        refine va_calll (va_runV (As := [.int (S.I r2 7)]) (rest := []) ⟨hx, hb, hml, hown, hts⟩ (c_X2_wayAt l (cy := cy) (X := X) (D := D) S _ r2 o5 (S.I r2 7)) (cwV 1 hts gX9_slide_X2_wayAt rfl rfl rfl hd_X2_wayAt ⟨Nat.le_of_ble_eq_true rfl, Nat.le_of_ble_eq_true rfl⟩) (pV (va_recv hK hP (q := (RX2, TX2, 20)) (ci := 6) (q0 := k15) rfl hk15) hP hK hD hN) rfl rfl hl.1 rfl (lv_room (Nat.le_of_ble_eq_true rfl)) dX9_slide_24 ⟨Nat.le_of_ble_eq_true rfl, Nat.le_of_ble_eq_true rfl⟩) hS (fun q _ h => hFc q h) hFc (fun r16 u t H1 locs ht hvm hw hB hz1 hk1 hS => ?_)
        have c17 := hw
        obtain ⟨hP, hD⟩ := wd_post hFc ht hB
        generalize H1 = H at hP hS ⊢
        obtain rfl : f_X2_wayAt S r2 (S.I r2 7) = r16 := c17.symm
        refine lv_aload hx hb dX9_slide_27 (lv_at hl 0 rfl) ?_
        refine lv_aload hx hb dX9_slide_29 (lv_at hl 0 rfl) ?_
        obtain ⟨k18, gk18, hk18⟩ := wGt (cy := cy) X S o10.1 o10.2.1
        refine va_get (D := D) (ci := 6) (v := .int (S.I r7 7)) (C := RX2) (T := TX2) (N := 20) hx hb hts hi_X9_slide_X2 hown hK hP k18 hk18 rfl 7 (by decide) (hts (.fieldLink RX9 89 "Hobhouse$Gear" "shift" "I") (by decide +kernel)) (fun _ h9 => h9) rfl dX9_slide_31 ?_
        have hFc := free_all hD hS hA
        obtain ⟨k19, gk19, hk19⟩ := wGt (cy := cy) X S o10.1 o10.2.1
        refine va_calll (va_runV (As := [.int (S.I r7 7)]) (rest := [.long (f_X2_wayAt S r2 (S.I r2 7))]) ⟨hx, hb, hml, hown, hts⟩ (c_X2_wayAt l (cy := cy) (X := X) (D := D) S _ r7 o10 (S.I r7 7)) (cwV 1 hts gX9_slide_X2_wayAt rfl rfl rfl hd_X2_wayAt ⟨Nat.le_of_ble_eq_true rfl, Nat.le_of_ble_eq_true rfl⟩) (pV (va_recv hK hP (q := (RX2, TX2, 20)) (ci := 6) (q0 := k19) rfl hk19) hP hK hD hN) rfl rfl hl.1 rfl (lv_room (Nat.le_of_ble_eq_true rfl)) dX9_slide_34 ⟨Nat.le_of_ble_eq_true rfl, Nat.le_of_ble_eq_true rfl⟩) hS (fun q _ h => hFc q h) hFc (fun r20 u t H1 locs ht hvm hw hB hz1 hk1 hS => ?_)
        have c21 := hw
        obtain ⟨hP, hD⟩ := wd_post hFc ht hB
        generalize H1 = H at hP hS ⊢
        obtain rfl : f_X2_wayAt S r7 (S.I r7 7) = r20 := c21.symm
        refine lv_lsub hx hb dX9_slide_37 ?_
        refine va_mabs_long hx hb (hml.trans hl.1.symm) hown (hts (.methodLink RX9 140 Lib.MathLoose.abs_long.x) (by decide +kernel)) (hts (.static Lib.MathLoose.abs_long.x) (by decide +kernel)) (hts (.initialized "java/lang/Math") (by decide +kernel)) (hts (.code Lib.MathLoose.abs_long.x Lib.MathLoose.abs_long.code 2 (some .long)) (by decide +kernel)) (Nat.le_of_ble_eq_true rfl) (Nat.le_of_ble_eq_true rfl) (Nat.le_of_ble_eq_true rfl) (Nat.le_of_ble_eq_true rfl) dX9_slide_38 ?_
        refine vx_ret ?_
        refine W.widen (k := 3) (n := 18) (Nat.le_of_ble_eq_true rfl) (Nat.le_of_ble_eq_true rfl) ?_
        exact W.lret (v := (if 0 < ((f_X2_wayAt S r2 (S.I r2 7)) - (f_X2_wayAt S r7 (S.I r7 7))) then ((f_X2_wayAt S r2 (S.I r2 7)) - (f_X2_wayAt S r7 (S.I r7 7))) else -((f_X2_wayAt S r2 (S.I r2 7)) - (f_X2_wayAt S r7 (S.I r7 7))))) hx hb hr (fun t ht hW9 => ⟨⟨(if 0 < ((f_X2_wayAt S r2 (S.I r2 7)) - (f_X2_wayAt S r7 (S.I r7 7))) then ((f_X2_wayAt S r2 (S.I r2 7)) - (f_X2_wayAt S r7 (S.I r7 7))) else -((f_X2_wayAt S r2 (S.I r2 7)) - (f_X2_wayAt S r7 (S.I r7 7)))), (), rfl, (by show f_X9_slide S o1 x1 x2 = .ok (if 0 < ((f_X2_wayAt S r2 (S.I r2 7)) - (f_X2_wayAt S r7 (S.I r7 7))) then ((f_X2_wayAt S r2 (S.I r2 7)) - (f_X2_wayAt S r7 (S.I r7 7))) else -((f_X2_wayAt S r2 (S.I r2 7)) - (f_X2_wayAt S r7 (S.I r7 7)))); unfold f_X9_slide; rw [eB_ok c4, eB_ok c9, eB_ok c13]), wd_end hP hK hD ht hW9.alike⟩, hS.F ht⟩) hS.2.2 dX9_slide_41 hlocks
def f_X9_contact (S : wPS) (o1 : Nat) (x1 : Int32) (x2 : Int32) : Except String Int64 := eB (f_X9_gearAt S o1 x1) (fun r2 => eB (f_X9_gearAt S o1 x2) (fun r7 => eB (f_X9_needPair S r2 r7) (fun _ => .ok (f_X9_contactOf S r2 r7))))
theorem hd_X9_contact : yX9_contact.cls = RX9 ∧ yX9_contact.cls ≠ "java/lang/invoke/MethodHandle" ∧ yX9_contact.cls ≠ "java/lang/invoke/VarHandle" ∧ (parseMethodDescriptor yX9_contact.desc).map (fun d => d.parameters.length) = some 2 := by decide +kernel
set_option maxHeartbeats 4000000 in
set_option maxRecDepth 100000 in
theorem c_X9_contact (l : Launch) (hst : l.stackTraces = false) {D : va_G} {cy : Nat → ClassId} {X : va_W} (S : wPS) (sz : Nat) (o1 : Nat) (h_o1 : isA S o1 9) (x1 : Int32) (x2 : Int32) (hW : wtB S [])  : vx_Met l yX9_contact wsX9_contact ({ frames := 8, cells := 3, slots := 18, locals := 123 }) (va_Pc [.ref o1, .int x1, .int x2] (fun U => U.heap.size = sz ∧ WD D cy X (fun _ => True) S U ∧ NW U ∧ TH (va_A (X ++ PL cy S) sz) U)) (va_Ql (fun r (_ : Unit) => f_X9_contact S o1 x1 x2 = .ok r) (fun _ t => WD D cy X (va_A (X ++ PL cy S) sz) S t) (va_A (X ++ PL cy S) sz)) (vx_X (fun (_ : Unit) => True) (fun E _ t => f_X9_contact S o1 x1 x2 = .error E ∧ E ∈ ["java/lang/IndexOutOfBoundsException", "java/lang/UnsupportedOperationException"] ∧ WD D cy X (va_A (X ++ PL cy S) sz) S t) (va_A (X ++ PL cy S) sz)) 3 18 (va_A (X ++ PL cy S) sz) := by
  refine vx_ofW (cc := cX9_contact) (maxL := 5) (ret := (some .long)) (by decide) rfl ?_
  intro p e s m args below meth c s₁ B hml hno hv
  obtain ⟨rfl, hsz, ⟨hP, hK, hD0⟩, hN, hTH⟩ := hv
  have hx := B.exec
  have hb := B.bytes
  have hr := B.returns
  have hts := atoms_spec (ws := wsX9_contact) B.pre
  have hown : s.vm.findClass RX9 = some m.cls := findClass_of_methodNamed (x := yX9_contact) B.named
  have hlocks := B.notSynchronized
  subst hsz
  have hD := hD0.self (sz := s.heap.size)
  generalize hAe : va_A (X ++ PL cy S) s.heap.size = A at hD hTH ⊢
  have hA : ∀ q : Nat, s.heap.size ≤ q → A q := fun q h => by rw [← hAe]; exact Or.inr h
  have hS : va_S A s.heap s.heap [] := va_S.rf
  have hl := lv_entry ([.ref o1, .int x1, .int x2]) (n := 5) (Nat.le_of_ble_eq_true rfl)
  rw [lg_entry_eq]
  generalize (lg_sl ([.ref o1, .int x1, .int x2]) ++ List.replicate (5 - (lg_sl ([.ref o1, .int x1, .int x2])).length) Slot.unset).toArray = ls at hl ⊢
  have hl : lv_has ls 5 [(0, .ref o1), (1, .int x1), (2, .int x2)] := hl
  refine lv_aload_n hx hb dX9_contact_0 rfl (lv_at hl 0 rfl) ?_
  refine lv_iload_n hx hb dX9_contact_1 rfl (lv_at hl 1 rfl) ?_
  have hFc := free_all hD hS hA
  obtain ⟨k1, gk1, hk1⟩ := wGt (cy := cy) X S h_o1.1 h_o1.2.1
  refine vx_callq (vx_runV (As := [.int x1]) (rest := []) ⟨hx, hb, hml, hown, hts⟩ (c_X9_gearAt l hst (cy := cy) (X := X) (D := D) S _ o1 h_o1 x1 (hW)) (cwV 1 hts gX9_contact_X9_gearAt rfl rfl rfl hd_X9_gearAt ⟨Nat.le_of_ble_eq_true rfl, Nat.le_of_ble_eq_true rfl⟩) (pVt (va_recv hK hP (q := (RX9, TX9, 11)) (ci := 13) (q0 := k1) rfl hk1) hP hK hD hN hTH hS hFc) rfl rfl hl.1 rfl (lv_room (Nat.le_of_ble_eq_true rfl)) dX9_contact_2 ⟨Nat.le_of_ble_eq_true rfl, Nat.le_of_ble_eq_true rfl⟩) hS (fun q _ h => hFc q h) hFc (fun q _ h => hFc q h) (fun E ce q9 u t H1 locs ht hvm hw hB hz1 hk1 hS hq9 hce hcl => ?_) (fun r2 u t H1 locs ht hvm hw hB hz1 hk1 hS => ?_)
  · obtain ⟨c3, hEc3, hB2⟩ := hB
    obtain ⟨hP, hD⟩ := wd_post hFc ht hB2
    exact vx_out (fun x h => (hno x h).elim) hlocks hq9 hce hcl (fun t2 ht2 hA2 => ⟨(), trivial, ⟨(by show f_X9_contact S o1 x1 x2 = .error E; unfold f_X9_contact; rw [eB_er c3]), (el_in (by decide) hEc3), wd_end hP hK hD ht2 hA2⟩, hS.F ht2⟩) hS.2.2 (Nat.le_of_ble_eq_true rfl) (Nat.le_of_ble_eq_true rfl)
  · obtain ⟨r2, rfl, c4, o5⟩ := hw
    obtain ⟨hP, hD⟩ := wd_post hFc ht hB
    generalize H1 = H at hP hS ⊢
    refine W.eq (g2 := F0 m 5 ls [.ref r2]) rfl ?_
    refine lv_astore_n (lv' := [(3, .ref r2), (0, .ref o1), (1, .int x1), (2, .int x2)]) hx hb dX9_contact_5 rfl hl (by decide) rfl (fun ls hl => ?_)
    refine lv_aload_n hx hb dX9_contact_6 rfl (lv_at hl 1 rfl) ?_
    refine lv_iload_n hx hb dX9_contact_7 rfl (lv_at hl 3 rfl) ?_
    have hFc := free_all hD hS hA
    obtain ⟨k6, gk6, hk6⟩ := wGt (cy := cy) X S h_o1.1 h_o1.2.1
    refine vx_callq (vx_runV (As := [.int x2]) (rest := []) ⟨hx, hb, hml, hown, hts⟩ (c_X9_gearAt l hst (cy := cy) (X := X) (D := D) S _ o1 h_o1 x2 (hW)) (cwV 1 hts gX9_contact_X9_gearAt rfl rfl rfl hd_X9_gearAt ⟨Nat.le_of_ble_eq_true rfl, Nat.le_of_ble_eq_true rfl⟩) (pVt (va_recv hK hP (q := (RX9, TX9, 11)) (ci := 13) (q0 := k6) rfl hk6) hP hK hD hN hTH hS hFc) rfl rfl hl.1 rfl (lv_room (Nat.le_of_ble_eq_true rfl)) dX9_contact_8 ⟨Nat.le_of_ble_eq_true rfl, Nat.le_of_ble_eq_true rfl⟩) hS (fun q _ h => hFc q h) hFc (fun q _ h => hFc q h) (fun E ce q9 u t H1 locs ht hvm hw hB hz1 hk1 hS hq9 hce hcl => ?_) (fun r7 u t H1 locs ht hvm hw hB hz1 hk1 hS => ?_)
    · obtain ⟨c8, hEc8, hB2⟩ := hB
      obtain ⟨hP, hD⟩ := wd_post hFc ht hB2
      exact vx_out (fun x h => (hno x h).elim) hlocks hq9 hce hcl (fun t2 ht2 hA2 => ⟨(), trivial, ⟨(by show f_X9_contact S o1 x1 x2 = .error E; unfold f_X9_contact; rw [eB_ok c4, eB_er c8]), (el_in (by decide) hEc8), wd_end hP hK hD ht2 hA2⟩, hS.F ht2⟩) hS.2.2 (Nat.le_of_ble_eq_true rfl) (Nat.le_of_ble_eq_true rfl)
    · obtain ⟨r7, rfl, c9, o10⟩ := hw
      obtain ⟨hP, hD⟩ := wd_post hFc ht hB
      generalize H1 = H at hP hS ⊢
      refine W.eq (g2 := F0 m 11 ls [.ref r7]) rfl ?_
      refine lv_astore (lv' := [(4, .ref r7), (3, .ref r2), (0, .ref o1), (1, .int x1), (2, .int x2)]) hx hb dX9_contact_11 hl (by decide) rfl (fun ls hl => ?_)
      refine lv_aload_n hx hb dX9_contact_13 rfl (lv_at hl 1 rfl) ?_
      refine lv_aload hx hb dX9_contact_14 (lv_at hl 0 rfl) ?_
      have hFc := free_all hD hS hA
      refine vx_callv (vx_runS (As := [.ref r2, .ref r7]) (rest := []) ⟨hx, hb, hml, hown, hts⟩ (c_X9_needPair l hst (cy := cy) (X := X) (D := D) S _ r2 o5 r7 o10) (cwS 2 hts gX9_contact_X9_needPair rfl rfl rfl hd_X9_needPair ⟨Nat.le_of_ble_eq_true rfl, Nat.le_of_ble_eq_true rfl⟩) (pSt hP hK hD hN hTH hS hFc) rfl rfl hl.1 rfl (lv_room (Nat.le_of_ble_eq_true rfl)) dX9_contact_16 ⟨Nat.le_of_ble_eq_true rfl, Nat.le_of_ble_eq_true rfl⟩) hS (fun q _ h => hFc q h) hFc (fun q _ h => hFc q h) (fun E ce q9 u t H1 locs ht hvm hw hB hz1 hk1 hS hq9 hce hcl => ?_) (fun u t H1 locs ht hvm hw hB hz1 hk1 hS => ?_)
      · obtain ⟨c12, hEc12, hB2⟩ := hB
        obtain ⟨hP, hD⟩ := wd_post hFc ht hB2
        exact vx_out (fun x h => (hno x h).elim) hlocks hq9 hce hcl (fun t2 ht2 hA2 => ⟨(), trivial, ⟨(by show f_X9_contact S o1 x1 x2 = .error E; unfold f_X9_contact; rw [eB_ok c4, eB_ok c9, eB_er c12]), (el_in (by decide) hEc12), wd_end hP hK hD ht2 hA2⟩, hS.F ht2⟩) hS.2.2 (Nat.le_of_ble_eq_true rfl) (Nat.le_of_ble_eq_true rfl)
      · have c13 := hw
        obtain ⟨hP, hD⟩ := wd_post hFc ht hB
        generalize H1 = H at hP hS ⊢
        refine lv_aload_n hx hb dX9_contact_19 rfl (lv_at hl 1 rfl) ?_
        refine lv_aload hx hb dX9_contact_20 (lv_at hl 0 rfl) ?_
        have hFc := free_all hD hS hA
        refine va_calll (va_runS (As := [.ref r2, .ref r7]) (rest := []) ⟨hx, hb, hml, hown, hts⟩ (c_X9_contactOf l (cy := cy) (X := X) (D := D) S _ r2 o5 r7 o10) (cwS 2 hts gX9_contact_X9_contactOf rfl rfl rfl hd_X9_contactOf ⟨Nat.le_of_ble_eq_true rfl, Nat.le_of_ble_eq_true rfl⟩) (pS hP hK hD hN) rfl rfl hl.1 rfl (lv_room (Nat.le_of_ble_eq_true rfl)) dX9_contact_22 ⟨Nat.le_of_ble_eq_true rfl, Nat.le_of_ble_eq_true rfl⟩) hS (fun q _ h => hFc q h) hFc (fun r14 u t H1 locs ht hvm hw hB hz1 hk1 hS => ?_)
        have c15 := hw
        obtain ⟨hP, hD⟩ := wd_post hFc ht hB
        generalize H1 = H at hP hS ⊢
        obtain rfl : f_X9_contactOf S r2 r7 = r14 := c15.symm
        refine vx_ret ?_
        refine W.widen (k := 3) (n := 18) (Nat.le_of_ble_eq_true rfl) (Nat.le_of_ble_eq_true rfl) ?_
        exact W.lret (v := f_X9_contactOf S r2 r7) hx hb hr (fun t ht hW9 => ⟨⟨f_X9_contactOf S r2 r7, (), rfl, (by show f_X9_contact S o1 x1 x2 = .ok (f_X9_contactOf S r2 r7); unfold f_X9_contact; rw [eB_ok c4, eB_ok c9, eB_ok c13]), wd_end hP hK hD ht hW9.alike⟩, hS.F ht⟩) hS.2.2 dX9_contact_25 hlocks
def f_X9_overlap (S : wPS) (o1 : Nat) (x1 : Int32) (x2 : Int32) : Except String Int64 := eB (f_X9_gearAt S o1 x1) (fun r2 => eB (f_X9_gearAt S o1 x2) (fun r7 => eB (f_X9_needPair S r2 r7) (fun _ => .ok (f_X9_overlapOf S r2 r7))))
theorem hd_X9_overlap : yX9_overlap.cls = RX9 ∧ yX9_overlap.cls ≠ "java/lang/invoke/MethodHandle" ∧ yX9_overlap.cls ≠ "java/lang/invoke/VarHandle" ∧ (parseMethodDescriptor yX9_overlap.desc).map (fun d => d.parameters.length) = some 2 := by decide +kernel
set_option maxHeartbeats 4000000 in
set_option maxRecDepth 100000 in
theorem c_X9_overlap (l : Launch) (hst : l.stackTraces = false) {D : va_G} {cy : Nat → ClassId} {X : va_W} (S : wPS) (sz : Nat) (o1 : Nat) (h_o1 : isA S o1 9) (x1 : Int32) (x2 : Int32) (hW : wtB S [])  : vx_Met l yX9_overlap wsX9_overlap ({ frames := 8, cells := 3, slots := 18, locals := 123 }) (va_Pc [.ref o1, .int x1, .int x2] (fun U => U.heap.size = sz ∧ WD D cy X (fun _ => True) S U ∧ NW U ∧ TH (va_A (X ++ PL cy S) sz) U)) (va_Ql (fun r (_ : Unit) => f_X9_overlap S o1 x1 x2 = .ok r) (fun _ t => WD D cy X (va_A (X ++ PL cy S) sz) S t) (va_A (X ++ PL cy S) sz)) (vx_X (fun (_ : Unit) => True) (fun E _ t => f_X9_overlap S o1 x1 x2 = .error E ∧ E ∈ ["java/lang/IndexOutOfBoundsException", "java/lang/UnsupportedOperationException"] ∧ WD D cy X (va_A (X ++ PL cy S) sz) S t) (va_A (X ++ PL cy S) sz)) 3 18 (va_A (X ++ PL cy S) sz) := by
  refine vx_ofW (cc := cX9_overlap) (maxL := 5) (ret := (some .long)) (by decide) rfl ?_
  intro p e s m args below meth c s₁ B hml hno hv
  obtain ⟨rfl, hsz, ⟨hP, hK, hD0⟩, hN, hTH⟩ := hv
  have hx := B.exec
  have hb := B.bytes
  have hr := B.returns
  have hts := atoms_spec (ws := wsX9_overlap) B.pre
  have hown : s.vm.findClass RX9 = some m.cls := findClass_of_methodNamed (x := yX9_overlap) B.named
  have hlocks := B.notSynchronized
  subst hsz
  have hD := hD0.self (sz := s.heap.size)
  generalize hAe : va_A (X ++ PL cy S) s.heap.size = A at hD hTH ⊢
  have hA : ∀ q : Nat, s.heap.size ≤ q → A q := fun q h => by rw [← hAe]; exact Or.inr h
  have hS : va_S A s.heap s.heap [] := va_S.rf
  have hl := lv_entry ([.ref o1, .int x1, .int x2]) (n := 5) (Nat.le_of_ble_eq_true rfl)
  rw [lg_entry_eq]
  generalize (lg_sl ([.ref o1, .int x1, .int x2]) ++ List.replicate (5 - (lg_sl ([.ref o1, .int x1, .int x2])).length) Slot.unset).toArray = ls at hl ⊢
  have hl : lv_has ls 5 [(0, .ref o1), (1, .int x1), (2, .int x2)] := hl
  refine lv_aload_n hx hb dX9_overlap_0 rfl (lv_at hl 0 rfl) ?_
  refine lv_iload_n hx hb dX9_overlap_1 rfl (lv_at hl 1 rfl) ?_
  have hFc := free_all hD hS hA
  obtain ⟨k1, gk1, hk1⟩ := wGt (cy := cy) X S h_o1.1 h_o1.2.1
  refine vx_callq (vx_runV (As := [.int x1]) (rest := []) ⟨hx, hb, hml, hown, hts⟩ (c_X9_gearAt l hst (cy := cy) (X := X) (D := D) S _ o1 h_o1 x1 (hW)) (cwV 1 hts gX9_overlap_X9_gearAt rfl rfl rfl hd_X9_gearAt ⟨Nat.le_of_ble_eq_true rfl, Nat.le_of_ble_eq_true rfl⟩) (pVt (va_recv hK hP (q := (RX9, TX9, 11)) (ci := 13) (q0 := k1) rfl hk1) hP hK hD hN hTH hS hFc) rfl rfl hl.1 rfl (lv_room (Nat.le_of_ble_eq_true rfl)) dX9_overlap_2 ⟨Nat.le_of_ble_eq_true rfl, Nat.le_of_ble_eq_true rfl⟩) hS (fun q _ h => hFc q h) hFc (fun q _ h => hFc q h) (fun E ce q9 u t H1 locs ht hvm hw hB hz1 hk1 hS hq9 hce hcl => ?_) (fun r2 u t H1 locs ht hvm hw hB hz1 hk1 hS => ?_)
  · obtain ⟨c3, hEc3, hB2⟩ := hB
    obtain ⟨hP, hD⟩ := wd_post hFc ht hB2
    exact vx_out (fun x h => (hno x h).elim) hlocks hq9 hce hcl (fun t2 ht2 hA2 => ⟨(), trivial, ⟨(by show f_X9_overlap S o1 x1 x2 = .error E; unfold f_X9_overlap; rw [eB_er c3]), (el_in (by decide) hEc3), wd_end hP hK hD ht2 hA2⟩, hS.F ht2⟩) hS.2.2 (Nat.le_of_ble_eq_true rfl) (Nat.le_of_ble_eq_true rfl)
  · obtain ⟨r2, rfl, c4, o5⟩ := hw
    obtain ⟨hP, hD⟩ := wd_post hFc ht hB
    generalize H1 = H at hP hS ⊢
    refine W.eq (g2 := F0 m 5 ls [.ref r2]) rfl ?_
    refine lv_astore_n (lv' := [(3, .ref r2), (0, .ref o1), (1, .int x1), (2, .int x2)]) hx hb dX9_overlap_5 rfl hl (by decide) rfl (fun ls hl => ?_)
    refine lv_aload_n hx hb dX9_overlap_6 rfl (lv_at hl 1 rfl) ?_
    refine lv_iload_n hx hb dX9_overlap_7 rfl (lv_at hl 3 rfl) ?_
    have hFc := free_all hD hS hA
    obtain ⟨k6, gk6, hk6⟩ := wGt (cy := cy) X S h_o1.1 h_o1.2.1
    refine vx_callq (vx_runV (As := [.int x2]) (rest := []) ⟨hx, hb, hml, hown, hts⟩ (c_X9_gearAt l hst (cy := cy) (X := X) (D := D) S _ o1 h_o1 x2 (hW)) (cwV 1 hts gX9_overlap_X9_gearAt rfl rfl rfl hd_X9_gearAt ⟨Nat.le_of_ble_eq_true rfl, Nat.le_of_ble_eq_true rfl⟩) (pVt (va_recv hK hP (q := (RX9, TX9, 11)) (ci := 13) (q0 := k6) rfl hk6) hP hK hD hN hTH hS hFc) rfl rfl hl.1 rfl (lv_room (Nat.le_of_ble_eq_true rfl)) dX9_overlap_8 ⟨Nat.le_of_ble_eq_true rfl, Nat.le_of_ble_eq_true rfl⟩) hS (fun q _ h => hFc q h) hFc (fun q _ h => hFc q h) (fun E ce q9 u t H1 locs ht hvm hw hB hz1 hk1 hS hq9 hce hcl => ?_) (fun r7 u t H1 locs ht hvm hw hB hz1 hk1 hS => ?_)
    · obtain ⟨c8, hEc8, hB2⟩ := hB
      obtain ⟨hP, hD⟩ := wd_post hFc ht hB2
      exact vx_out (fun x h => (hno x h).elim) hlocks hq9 hce hcl (fun t2 ht2 hA2 => ⟨(), trivial, ⟨(by show f_X9_overlap S o1 x1 x2 = .error E; unfold f_X9_overlap; rw [eB_ok c4, eB_er c8]), (el_in (by decide) hEc8), wd_end hP hK hD ht2 hA2⟩, hS.F ht2⟩) hS.2.2 (Nat.le_of_ble_eq_true rfl) (Nat.le_of_ble_eq_true rfl)
    · obtain ⟨r7, rfl, c9, o10⟩ := hw
      obtain ⟨hP, hD⟩ := wd_post hFc ht hB
      generalize H1 = H at hP hS ⊢
      refine W.eq (g2 := F0 m 11 ls [.ref r7]) rfl ?_
      refine lv_astore (lv' := [(4, .ref r7), (3, .ref r2), (0, .ref o1), (1, .int x1), (2, .int x2)]) hx hb dX9_overlap_11 hl (by decide) rfl (fun ls hl => ?_)
      refine lv_aload_n hx hb dX9_overlap_13 rfl (lv_at hl 1 rfl) ?_
      refine lv_aload hx hb dX9_overlap_14 (lv_at hl 0 rfl) ?_
      have hFc := free_all hD hS hA
      refine vx_callv (vx_runS (As := [.ref r2, .ref r7]) (rest := []) ⟨hx, hb, hml, hown, hts⟩ (c_X9_needPair l hst (cy := cy) (X := X) (D := D) S _ r2 o5 r7 o10) (cwS 2 hts gX9_overlap_X9_needPair rfl rfl rfl hd_X9_needPair ⟨Nat.le_of_ble_eq_true rfl, Nat.le_of_ble_eq_true rfl⟩) (pSt hP hK hD hN hTH hS hFc) rfl rfl hl.1 rfl (lv_room (Nat.le_of_ble_eq_true rfl)) dX9_overlap_16 ⟨Nat.le_of_ble_eq_true rfl, Nat.le_of_ble_eq_true rfl⟩) hS (fun q _ h => hFc q h) hFc (fun q _ h => hFc q h) (fun E ce q9 u t H1 locs ht hvm hw hB hz1 hk1 hS hq9 hce hcl => ?_) (fun u t H1 locs ht hvm hw hB hz1 hk1 hS => ?_)
      · obtain ⟨c12, hEc12, hB2⟩ := hB
        obtain ⟨hP, hD⟩ := wd_post hFc ht hB2
        exact vx_out (fun x h => (hno x h).elim) hlocks hq9 hce hcl (fun t2 ht2 hA2 => ⟨(), trivial, ⟨(by show f_X9_overlap S o1 x1 x2 = .error E; unfold f_X9_overlap; rw [eB_ok c4, eB_ok c9, eB_er c12]), (el_in (by decide) hEc12), wd_end hP hK hD ht2 hA2⟩, hS.F ht2⟩) hS.2.2 (Nat.le_of_ble_eq_true rfl) (Nat.le_of_ble_eq_true rfl)
      · have c13 := hw
        obtain ⟨hP, hD⟩ := wd_post hFc ht hB
        generalize H1 = H at hP hS ⊢
        refine lv_aload_n hx hb dX9_overlap_19 rfl (lv_at hl 1 rfl) ?_
        refine lv_aload hx hb dX9_overlap_20 (lv_at hl 0 rfl) ?_
        have hFc := free_all hD hS hA
        refine va_calll (va_runS (As := [.ref r2, .ref r7]) (rest := []) ⟨hx, hb, hml, hown, hts⟩ (c_X9_overlapOf l (cy := cy) (X := X) (D := D) S _ r2 o5 r7 o10 (hW)) (cwS 2 hts gX9_overlap_X9_overlapOf rfl rfl rfl hd_X9_overlapOf ⟨Nat.le_of_ble_eq_true rfl, Nat.le_of_ble_eq_true rfl⟩) (pS hP hK hD hN) rfl rfl hl.1 rfl (lv_room (Nat.le_of_ble_eq_true rfl)) dX9_overlap_22 ⟨Nat.le_of_ble_eq_true rfl, Nat.le_of_ble_eq_true rfl⟩) hS (fun q _ h => hFc q h) hFc (fun r14 u t H1 locs ht hvm hw hB hz1 hk1 hS => ?_)
        have c15 := hw
        obtain ⟨hP, hD⟩ := wd_post hFc ht hB
        generalize H1 = H at hP hS ⊢
        obtain rfl : f_X9_overlapOf S r2 r7 = r14 := c15.symm
        refine vx_ret ?_
        refine W.widen (k := 3) (n := 18) (Nat.le_of_ble_eq_true rfl) (Nat.le_of_ble_eq_true rfl) ?_
        exact W.lret (v := f_X9_overlapOf S r2 r7) hx hb hr (fun t ht hW9 => ⟨⟨f_X9_overlapOf S r2 r7, (), rfl, (by show f_X9_overlap S o1 x1 x2 = .ok (f_X9_overlapOf S r2 r7); unfold f_X9_overlap; rw [eB_ok c4, eB_ok c9, eB_ok c13]), wd_end hP hK hD ht hW9.alike⟩, hS.F ht⟩) hS.2.2 dX9_overlap_25 hlocks
def f_X9_runsWell (S : wPS) (o1 : Nat) (x1 : Int32) (x2 : Int32) : Except String Int32 := eB (f_X9_gearAt S o1 x1) (fun r2 => eB (f_X9_gearAt S o1 x2) (fun r7 => eB (f_X9_needPair S r2 r7) (fun _ => if (f_X2_isGoodAt S r2 (S.I r2 7)) = (0 : Int32) then .ok (0 : Int32) else if (f_X2_isGoodAt S r7 (S.I r7 7)) = (0 : Int32) then .ok (0 : Int32) else if (lg_cmp ((f_X9_contactOf S r2 r7) + (f_X9_overlapOf S r2 r7)) (1200 : Int64)) < (0 : Int32) then .ok (0 : Int32) else .ok (1 : Int32))))
theorem hi_X9_runsWell_X2 : ∀ w ∈ u_ws RX2 TX2 20, w ∈ wsX9_runsWell := by decide +kernel
theorem hd_X9_runsWell : yX9_runsWell.cls = RX9 ∧ yX9_runsWell.cls ≠ "java/lang/invoke/MethodHandle" ∧ yX9_runsWell.cls ≠ "java/lang/invoke/VarHandle" ∧ (parseMethodDescriptor yX9_runsWell.desc).map (fun d => d.parameters.length) = some 2 := by decide +kernel
set_option maxHeartbeats 4000000 in
set_option maxRecDepth 100000 in
theorem c_X9_runsWell (l : Launch) (hst : l.stackTraces = false) {D : va_G} {cy : Nat → ClassId} {X : va_W} (S : wPS) (sz : Nat) (o1 : Nat) (h_o1 : isA S o1 9) (x1 : Int32) (x2 : Int32) (hW : wtB S [])  : vx_Met l yX9_runsWell wsX9_runsWell ({ frames := 8, cells := 3, slots := 18, locals := 123 }) (va_Pc [.ref o1, .int x1, .int x2] (fun U => U.heap.size = sz ∧ WD D cy X (fun _ => True) S U ∧ NW U ∧ TH (va_A (X ++ PL cy S) sz) U)) (va_Qi (fun r (_ : Unit) => f_X9_runsWell S o1 x1 x2 = .ok r) (fun _ t => WD D cy X (va_A (X ++ PL cy S) sz) S t) (va_A (X ++ PL cy S) sz)) (vx_X (fun (_ : Unit) => True) (fun E _ t => f_X9_runsWell S o1 x1 x2 = .error E ∧ E ∈ ["java/lang/IndexOutOfBoundsException", "java/lang/UnsupportedOperationException"] ∧ WD D cy X (va_A (X ++ PL cy S) sz) S t) (va_A (X ++ PL cy S) sz)) 3 18 (va_A (X ++ PL cy S) sz) := by
  refine vx_ofW (cc := cX9_runsWell) (maxL := 5) (ret := (some .boolean)) (by decide) rfl ?_
  intro p e s m args below meth c s₁ B hml hno hv
  obtain ⟨rfl, hsz, ⟨hP, hK, hD0⟩, hN, hTH⟩ := hv
  have hx := B.exec
  have hb := B.bytes
  have hr := B.returns
  have hts := atoms_spec (ws := wsX9_runsWell) B.pre
  have hown : s.vm.findClass RX9 = some m.cls := findClass_of_methodNamed (x := yX9_runsWell) B.named
  have hlocks := B.notSynchronized
  subst hsz
  have hD := hD0.self (sz := s.heap.size)
  generalize hAe : va_A (X ++ PL cy S) s.heap.size = A at hD hTH ⊢
  have hA : ∀ q : Nat, s.heap.size ≤ q → A q := fun q h => by rw [← hAe]; exact Or.inr h
  have hS : va_S A s.heap s.heap [] := va_S.rf
  have hl := lv_entry ([.ref o1, .int x1, .int x2]) (n := 5) (Nat.le_of_ble_eq_true rfl)
  rw [lg_entry_eq]
  generalize (lg_sl ([.ref o1, .int x1, .int x2]) ++ List.replicate (5 - (lg_sl ([.ref o1, .int x1, .int x2])).length) Slot.unset).toArray = ls at hl ⊢
  have hl : lv_has ls 5 [(0, .ref o1), (1, .int x1), (2, .int x2)] := hl
  refine lv_aload_n hx hb dX9_runsWell_0 rfl (lv_at hl 0 rfl) ?_
  refine lv_iload_n hx hb dX9_runsWell_1 rfl (lv_at hl 1 rfl) ?_
  have hFc := free_all hD hS hA
  obtain ⟨k1, gk1, hk1⟩ := wGt (cy := cy) X S h_o1.1 h_o1.2.1
  refine vx_callq (vx_runV (As := [.int x1]) (rest := []) ⟨hx, hb, hml, hown, hts⟩ (c_X9_gearAt l hst (cy := cy) (X := X) (D := D) S _ o1 h_o1 x1 (hW)) (cwV 1 hts gX9_runsWell_X9_gearAt rfl rfl rfl hd_X9_gearAt ⟨Nat.le_of_ble_eq_true rfl, Nat.le_of_ble_eq_true rfl⟩) (pVt (va_recv hK hP (q := (RX9, TX9, 11)) (ci := 13) (q0 := k1) rfl hk1) hP hK hD hN hTH hS hFc) rfl rfl hl.1 rfl (lv_room (Nat.le_of_ble_eq_true rfl)) dX9_runsWell_2 ⟨Nat.le_of_ble_eq_true rfl, Nat.le_of_ble_eq_true rfl⟩) hS (fun q _ h => hFc q h) hFc (fun q _ h => hFc q h) (fun E ce q9 u t H1 locs ht hvm hw hB hz1 hk1 hS hq9 hce hcl => ?_) (fun r2 u t H1 locs ht hvm hw hB hz1 hk1 hS => ?_)
  · obtain ⟨c3, hEc3, hB2⟩ := hB
    obtain ⟨hP, hD⟩ := wd_post hFc ht hB2
    exact vx_out (fun x h => (hno x h).elim) hlocks hq9 hce hcl (fun t2 ht2 hA2 => ⟨(), trivial, ⟨(by show f_X9_runsWell S o1 x1 x2 = .error E; unfold f_X9_runsWell; rw [eB_er c3]), (el_in (by decide) hEc3), wd_end hP hK hD ht2 hA2⟩, hS.F ht2⟩) hS.2.2 (Nat.le_of_ble_eq_true rfl) (Nat.le_of_ble_eq_true rfl)
  · obtain ⟨r2, rfl, c4, o5⟩ := hw
    obtain ⟨hP, hD⟩ := wd_post hFc ht hB
    generalize H1 = H at hP hS ⊢
    refine W.eq (g2 := F0 m 5 ls [.ref r2]) rfl ?_
    refine lv_astore_n (lv' := [(3, .ref r2), (0, .ref o1), (1, .int x1), (2, .int x2)]) hx hb dX9_runsWell_5 rfl hl (by decide) rfl (fun ls hl => ?_)
    refine lv_aload_n hx hb dX9_runsWell_6 rfl (lv_at hl 1 rfl) ?_
    refine lv_iload_n hx hb dX9_runsWell_7 rfl (lv_at hl 3 rfl) ?_
    have hFc := free_all hD hS hA
    obtain ⟨k6, gk6, hk6⟩ := wGt (cy := cy) X S h_o1.1 h_o1.2.1
    refine vx_callq (vx_runV (As := [.int x2]) (rest := []) ⟨hx, hb, hml, hown, hts⟩ (c_X9_gearAt l hst (cy := cy) (X := X) (D := D) S _ o1 h_o1 x2 (hW)) (cwV 1 hts gX9_runsWell_X9_gearAt rfl rfl rfl hd_X9_gearAt ⟨Nat.le_of_ble_eq_true rfl, Nat.le_of_ble_eq_true rfl⟩) (pVt (va_recv hK hP (q := (RX9, TX9, 11)) (ci := 13) (q0 := k6) rfl hk6) hP hK hD hN hTH hS hFc) rfl rfl hl.1 rfl (lv_room (Nat.le_of_ble_eq_true rfl)) dX9_runsWell_8 ⟨Nat.le_of_ble_eq_true rfl, Nat.le_of_ble_eq_true rfl⟩) hS (fun q _ h => hFc q h) hFc (fun q _ h => hFc q h) (fun E ce q9 u t H1 locs ht hvm hw hB hz1 hk1 hS hq9 hce hcl => ?_) (fun r7 u t H1 locs ht hvm hw hB hz1 hk1 hS => ?_)
    · obtain ⟨c8, hEc8, hB2⟩ := hB
      obtain ⟨hP, hD⟩ := wd_post hFc ht hB2
      exact vx_out (fun x h => (hno x h).elim) hlocks hq9 hce hcl (fun t2 ht2 hA2 => ⟨(), trivial, ⟨(by show f_X9_runsWell S o1 x1 x2 = .error E; unfold f_X9_runsWell; rw [eB_ok c4, eB_er c8]), (el_in (by decide) hEc8), wd_end hP hK hD ht2 hA2⟩, hS.F ht2⟩) hS.2.2 (Nat.le_of_ble_eq_true rfl) (Nat.le_of_ble_eq_true rfl)
    · obtain ⟨r7, rfl, c9, o10⟩ := hw
      obtain ⟨hP, hD⟩ := wd_post hFc ht hB
      generalize H1 = H at hP hS ⊢
      refine W.eq (g2 := F0 m 11 ls [.ref r7]) rfl ?_
      refine lv_astore (lv' := [(4, .ref r7), (3, .ref r2), (0, .ref o1), (1, .int x1), (2, .int x2)]) hx hb dX9_runsWell_11 hl (by decide) rfl (fun ls hl => ?_)
      refine lv_aload_n hx hb dX9_runsWell_13 rfl (lv_at hl 1 rfl) ?_
      refine lv_aload hx hb dX9_runsWell_14 (lv_at hl 0 rfl) ?_
      have hFc := free_all hD hS hA
      refine vx_callv (vx_runS (As := [.ref r2, .ref r7]) (rest := []) ⟨hx, hb, hml, hown, hts⟩ (c_X9_needPair l hst (cy := cy) (X := X) (D := D) S _ r2 o5 r7 o10) (cwS 2 hts gX9_runsWell_X9_needPair rfl rfl rfl hd_X9_needPair ⟨Nat.le_of_ble_eq_true rfl, Nat.le_of_ble_eq_true rfl⟩) (pSt hP hK hD hN hTH hS hFc) rfl rfl hl.1 rfl (lv_room (Nat.le_of_ble_eq_true rfl)) dX9_runsWell_16 ⟨Nat.le_of_ble_eq_true rfl, Nat.le_of_ble_eq_true rfl⟩) hS (fun q _ h => hFc q h) hFc (fun q _ h => hFc q h) (fun E ce q9 u t H1 locs ht hvm hw hB hz1 hk1 hS hq9 hce hcl => ?_) (fun u t H1 locs ht hvm hw hB hz1 hk1 hS => ?_)
      · obtain ⟨c12, hEc12, hB2⟩ := hB
        obtain ⟨hP, hD⟩ := wd_post hFc ht hB2
        exact vx_out (fun x h => (hno x h).elim) hlocks hq9 hce hcl (fun t2 ht2 hA2 => ⟨(), trivial, ⟨(by show f_X9_runsWell S o1 x1 x2 = .error E; unfold f_X9_runsWell; rw [eB_ok c4, eB_ok c9, eB_er c12]), (el_in (by decide) hEc12), wd_end hP hK hD ht2 hA2⟩, hS.F ht2⟩) hS.2.2 (Nat.le_of_ble_eq_true rfl) (Nat.le_of_ble_eq_true rfl)
      · have c13 := hw
        obtain ⟨hP, hD⟩ := wd_post hFc ht hB
        generalize H1 = H at hP hS ⊢
        refine lv_aload_n hx hb dX9_runsWell_19 rfl (lv_at hl 1 rfl) ?_
        refine lv_aload_n hx hb dX9_runsWell_20 rfl (lv_at hl 1 rfl) ?_
        obtain ⟨k14, gk14, hk14⟩ := wGt (cy := cy) X S o5.1 o5.2.1
        refine va_get (D := D) (ci := 6) (v := .int (S.I r2 7)) (C := RX2) (T := TX2) (N := 20) hx hb hts hi_X9_runsWell_X2 hown hK hP k14 hk14 rfl 7 (by decide) (hts (.fieldLink RX9 89 "Hobhouse$Gear" "shift" "I") (by decide +kernel)) (fun _ h9 => h9) rfl dX9_runsWell_21 ?_
        have hFc := free_all hD hS hA
        obtain ⟨k15, gk15, hk15⟩ := wGt (cy := cy) X S o5.1 o5.2.1
        refine va_calli (va_runV (As := [.int (S.I r2 7)]) (rest := []) ⟨hx, hb, hml, hown, hts⟩ (c_X2_isGoodAt l (cy := cy) (X := X) (D := D) S _ r2 o5 (S.I r2 7)) (cwV 1 hts gX9_runsWell_X2_isGoodAt rfl rfl rfl hd_X2_isGoodAt ⟨Nat.le_of_ble_eq_true rfl, Nat.le_of_ble_eq_true rfl⟩) (pV (va_recv hK hP (q := (RX2, TX2, 20)) (ci := 6) (q0 := k15) rfl hk15) hP hK hD hN) rfl rfl hl.1 rfl (lv_room (Nat.le_of_ble_eq_true rfl)) dX9_runsWell_24 ⟨Nat.le_of_ble_eq_true rfl, Nat.le_of_ble_eq_true rfl⟩) hS (fun q _ h => hFc q h) hFc (fun r16 u t H1 locs ht hvm hw hB hz1 hk1 hS => ?_)
        have c17 := hw
        obtain ⟨hP, hD⟩ := wd_post hFc ht hB
        generalize H1 = H at hP hS ⊢
        obtain rfl : f_X2_isGoodAt S r2 (S.I r2 7) = r16 := c17.symm
        refine lv_if_eq (tgt := 67) hx hb dX9_runsWell_27 (by decide) (fun c18 => ?_) (fun c18 => ?_)
        · have c18i : (f_X2_isGoodAt S r2 (S.I r2 7)).toInt = 0 := eq_v rfl rfl c18
          refine lv_iconst (v := 0) hx hb dX9_runsWell_67 (by decide) ?_
          refine vx_ret ?_
          refine W.widen (k := 3) (n := 18) (Nat.le_of_ble_eq_true rfl) (Nat.le_of_ble_eq_true rfl) ?_
          exact W.zret (v := (0 : Int32)) hx hb hr (by rfl) (fun t ht hW9 => ⟨⟨(0 : Int32), (), rfl, (by show f_X9_runsWell S o1 x1 x2 = .ok (0 : Int32); unfold f_X9_runsWell; rw [eB_ok c4, eB_ok c9, eB_ok c13, if_pos c18]), wd_end hP hK hD ht hW9.alike⟩, hS.F ht⟩) hS.2.2 dX9_runsWell_68 hlocks
        · have c18i : ¬ (f_X2_isGoodAt S r2 (S.I r2 7)).toInt = 0 := neq_v rfl rfl c18
          refine lv_aload hx hb dX9_runsWell_30 (lv_at hl 0 rfl) ?_
          refine lv_aload hx hb dX9_runsWell_32 (lv_at hl 0 rfl) ?_
          obtain ⟨k19, gk19, hk19⟩ := wGt (cy := cy) X S o10.1 o10.2.1
          refine va_get (D := D) (ci := 6) (v := .int (S.I r7 7)) (C := RX2) (T := TX2) (N := 20) hx hb hts hi_X9_runsWell_X2 hown hK hP k19 hk19 rfl 7 (by decide) (hts (.fieldLink RX9 89 "Hobhouse$Gear" "shift" "I") (by decide +kernel)) (fun _ h9 => h9) rfl dX9_runsWell_34 ?_
          have hFc := free_all hD hS hA
          obtain ⟨k20, gk20, hk20⟩ := wGt (cy := cy) X S o10.1 o10.2.1
          refine va_calli (va_runV (As := [.int (S.I r7 7)]) (rest := []) ⟨hx, hb, hml, hown, hts⟩ (c_X2_isGoodAt l (cy := cy) (X := X) (D := D) S _ r7 o10 (S.I r7 7)) (cwV 1 hts gX9_runsWell_X2_isGoodAt rfl rfl rfl hd_X2_isGoodAt ⟨Nat.le_of_ble_eq_true rfl, Nat.le_of_ble_eq_true rfl⟩) (pV (va_recv hK hP (q := (RX2, TX2, 20)) (ci := 6) (q0 := k20) rfl hk20) hP hK hD hN) rfl rfl hl.1 rfl (lv_room (Nat.le_of_ble_eq_true rfl)) dX9_runsWell_37 ⟨Nat.le_of_ble_eq_true rfl, Nat.le_of_ble_eq_true rfl⟩) hS (fun q _ h => hFc q h) hFc (fun r21 u t H1 locs ht hvm hw hB hz1 hk1 hS => ?_)
          have c22 := hw
          obtain ⟨hP, hD⟩ := wd_post hFc ht hB
          generalize H1 = H at hP hS ⊢
          obtain rfl : f_X2_isGoodAt S r7 (S.I r7 7) = r21 := c22.symm
          refine lv_if_eq (tgt := 67) hx hb dX9_runsWell_40 (by decide) (fun c23 => ?_) (fun c23 => ?_)
          · have c23i : (f_X2_isGoodAt S r7 (S.I r7 7)).toInt = 0 := eq_v rfl rfl c23
            refine lv_iconst (v := 0) hx hb dX9_runsWell_67 (by decide) ?_
            refine vx_ret ?_
            refine W.widen (k := 3) (n := 18) (Nat.le_of_ble_eq_true rfl) (Nat.le_of_ble_eq_true rfl) ?_
            exact W.zret (v := (0 : Int32)) hx hb hr (by rfl) (fun t ht hW9 => ⟨⟨(0 : Int32), (), rfl, (by show f_X9_runsWell S o1 x1 x2 = .ok (0 : Int32); unfold f_X9_runsWell; rw [eB_ok c4, eB_ok c9, eB_ok c13, if_neg c18, if_pos c23]), wd_end hP hK hD ht hW9.alike⟩, hS.F ht⟩) hS.2.2 dX9_runsWell_68 hlocks
          · have c23i : ¬ (f_X2_isGoodAt S r7 (S.I r7 7)).toInt = 0 := neq_v rfl rfl c23
            refine lv_aload_n hx hb dX9_runsWell_43 rfl (lv_at hl 1 rfl) ?_
            refine lv_aload hx hb dX9_runsWell_44 (lv_at hl 0 rfl) ?_
            have hFc := free_all hD hS hA
            refine va_calll (va_runS (As := [.ref r2, .ref r7]) (rest := []) ⟨hx, hb, hml, hown, hts⟩ (c_X9_contactOf l (cy := cy) (X := X) (D := D) S _ r2 o5 r7 o10) (cwS 2 hts gX9_runsWell_X9_contactOf rfl rfl rfl hd_X9_contactOf ⟨Nat.le_of_ble_eq_true rfl, Nat.le_of_ble_eq_true rfl⟩) (pS hP hK hD hN) rfl rfl hl.1 rfl (lv_room (Nat.le_of_ble_eq_true rfl)) dX9_runsWell_46 ⟨Nat.le_of_ble_eq_true rfl, Nat.le_of_ble_eq_true rfl⟩) hS (fun q _ h => hFc q h) hFc (fun r24 u t H1 locs ht hvm hw hB hz1 hk1 hS => ?_)
            have c25 := hw
            obtain ⟨hP, hD⟩ := wd_post hFc ht hB
            generalize H1 = H at hP hS ⊢
            obtain rfl : f_X9_contactOf S r2 r7 = r24 := c25.symm
            refine lv_aload_n hx hb dX9_runsWell_49 rfl (lv_at hl 1 rfl) ?_
            refine lv_aload hx hb dX9_runsWell_50 (lv_at hl 0 rfl) ?_
            have hFc := free_all hD hS hA
            refine va_calll (va_runS (As := [.ref r2, .ref r7]) (rest := [.long (f_X9_contactOf S r2 r7)]) ⟨hx, hb, hml, hown, hts⟩ (c_X9_overlapOf l (cy := cy) (X := X) (D := D) S _ r2 o5 r7 o10 (hW)) (cwS 2 hts gX9_runsWell_X9_overlapOf rfl rfl rfl hd_X9_overlapOf ⟨Nat.le_of_ble_eq_true rfl, Nat.le_of_ble_eq_true rfl⟩) (pS hP hK hD hN) rfl rfl hl.1 rfl (lv_room (Nat.le_of_ble_eq_true rfl)) dX9_runsWell_52 ⟨Nat.le_of_ble_eq_true rfl, Nat.le_of_ble_eq_true rfl⟩) hS (fun q _ h => hFc q h) hFc (fun r26 u t H1 locs ht hvm hw hB hz1 hk1 hS => ?_)
            have c27 := hw
            obtain ⟨hP, hD⟩ := wd_post hFc ht hB
            generalize H1 = H at hP hS ⊢
            obtain rfl : f_X9_overlapOf S r2 r7 = r26 := c27.symm
            refine lv_ladd hx hb dX9_runsWell_55 ?_
            refine lv_ldc2 (own := RX9) (v := 1200) hx hb hown (hts (.constantLong RX9 134 (1200)) (by decide +kernel)) dX9_runsWell_56 ?_
            refine W.lcmp hx hb dX9_runsWell_59 ?_
            refine lv_if_lt (tgt := 67) hx hb dX9_runsWell_60 (by decide) (fun c28 => ?_) (fun c28 => ?_)
            · have c28i := lc_lt c28
              refine lv_iconst (v := 0) hx hb dX9_runsWell_67 (by decide) ?_
              refine vx_ret ?_
              refine W.widen (k := 3) (n := 18) (Nat.le_of_ble_eq_true rfl) (Nat.le_of_ble_eq_true rfl) ?_
              exact W.zret (v := (0 : Int32)) hx hb hr (by rfl) (fun t ht hW9 => ⟨⟨(0 : Int32), (), rfl, (by show f_X9_runsWell S o1 x1 x2 = .ok (0 : Int32); unfold f_X9_runsWell; rw [eB_ok c4, eB_ok c9, eB_ok c13, if_neg c18, if_neg c23, if_pos c28]), wd_end hP hK hD ht hW9.alike⟩, hS.F ht⟩) hS.2.2 dX9_runsWell_68 hlocks
            · have c28i := lc_nlt c28
              refine lv_iconst (v := 1) hx hb dX9_runsWell_63 (by decide) ?_
              refine lv_goto (tgt := 68) hx hb dX9_runsWell_64 (by decide) ?_
              refine vx_ret ?_
              refine W.widen (k := 3) (n := 18) (Nat.le_of_ble_eq_true rfl) (Nat.le_of_ble_eq_true rfl) ?_
              exact W.zret (v := (1 : Int32)) hx hb hr (by rfl) (fun t ht hW9 => ⟨⟨(1 : Int32), (), rfl, (by show f_X9_runsWell S o1 x1 x2 = .ok (1 : Int32); unfold f_X9_runsWell; rw [eB_ok c4, eB_ok c9, eB_ok c13, if_neg c18, if_neg c23, if_neg c28]), wd_end hP hK hD ht hW9.alike⟩, hS.F ht⟩) hS.2.2 dX9_runsWell_68 hlocks
def f_X9_hunts (S : wPS) (o1 : Nat) (x1 : Int32) (x2 : Int32) : Except String Int32 := eB (f_X9_gearAt S o1 x1) (fun r2 => eB (f_X9_gearAt S o1 x2) (fun r7 => eB (f_X9_needPair S r2 r7) (fun _ => if (f_X9_commonDivisor (S.I r2 1) (S.I r7 1)) = (1 : Int32) then .ok (1 : Int32) else .ok (0 : Int32))))
theorem hi_X9_hunts_X2 : ∀ w ∈ u_ws RX2 TX2 20, w ∈ wsX9_hunts := by decide +kernel
theorem hd_X9_hunts : yX9_hunts.cls = RX9 ∧ yX9_hunts.cls ≠ "java/lang/invoke/MethodHandle" ∧ yX9_hunts.cls ≠ "java/lang/invoke/VarHandle" ∧ (parseMethodDescriptor yX9_hunts.desc).map (fun d => d.parameters.length) = some 2 := by decide +kernel
set_option maxHeartbeats 4000000 in
set_option maxRecDepth 100000 in
theorem c_X9_hunts (l : Launch) (hst : l.stackTraces = false) {D : va_G} {cy : Nat → ClassId} {X : va_W} (S : wPS) (sz : Nat) (o1 : Nat) (h_o1 : isA S o1 9) (x1 : Int32) (x2 : Int32) (hW : wtB S [])  : vx_Met l yX9_hunts wsX9_hunts ({ frames := 8, cells := 3, slots := 18, locals := 123 }) (va_Pc [.ref o1, .int x1, .int x2] (fun U => U.heap.size = sz ∧ WD D cy X (fun _ => True) S U ∧ NW U ∧ TH (va_A (X ++ PL cy S) sz) U)) (va_Qi (fun r (_ : Unit) => f_X9_hunts S o1 x1 x2 = .ok r) (fun _ t => WD D cy X (va_A (X ++ PL cy S) sz) S t) (va_A (X ++ PL cy S) sz)) (vx_X (fun (_ : Unit) => True) (fun E _ t => f_X9_hunts S o1 x1 x2 = .error E ∧ E ∈ ["java/lang/IndexOutOfBoundsException", "java/lang/UnsupportedOperationException"] ∧ WD D cy X (va_A (X ++ PL cy S) sz) S t) (va_A (X ++ PL cy S) sz)) 3 18 (va_A (X ++ PL cy S) sz) := by
  refine vx_ofW (cc := cX9_hunts) (maxL := 5) (ret := (some .boolean)) (by decide) rfl ?_
  intro p e s m args below meth c s₁ B hml hno hv
  obtain ⟨rfl, hsz, ⟨hP, hK, hD0⟩, hN, hTH⟩ := hv
  have hx := B.exec
  have hb := B.bytes
  have hr := B.returns
  have hts := atoms_spec (ws := wsX9_hunts) B.pre
  have hown : s.vm.findClass RX9 = some m.cls := findClass_of_methodNamed (x := yX9_hunts) B.named
  have hlocks := B.notSynchronized
  subst hsz
  have hD := hD0.self (sz := s.heap.size)
  generalize hAe : va_A (X ++ PL cy S) s.heap.size = A at hD hTH ⊢
  have hA : ∀ q : Nat, s.heap.size ≤ q → A q := fun q h => by rw [← hAe]; exact Or.inr h
  have hS : va_S A s.heap s.heap [] := va_S.rf
  have hl := lv_entry ([.ref o1, .int x1, .int x2]) (n := 5) (Nat.le_of_ble_eq_true rfl)
  rw [lg_entry_eq]
  generalize (lg_sl ([.ref o1, .int x1, .int x2]) ++ List.replicate (5 - (lg_sl ([.ref o1, .int x1, .int x2])).length) Slot.unset).toArray = ls at hl ⊢
  have hl : lv_has ls 5 [(0, .ref o1), (1, .int x1), (2, .int x2)] := hl
  refine lv_aload_n hx hb dX9_hunts_0 rfl (lv_at hl 0 rfl) ?_
  refine lv_iload_n hx hb dX9_hunts_1 rfl (lv_at hl 1 rfl) ?_
  have hFc := free_all hD hS hA
  obtain ⟨k1, gk1, hk1⟩ := wGt (cy := cy) X S h_o1.1 h_o1.2.1
  refine vx_callq (vx_runV (As := [.int x1]) (rest := []) ⟨hx, hb, hml, hown, hts⟩ (c_X9_gearAt l hst (cy := cy) (X := X) (D := D) S _ o1 h_o1 x1 (hW)) (cwV 1 hts gX9_hunts_X9_gearAt rfl rfl rfl hd_X9_gearAt ⟨Nat.le_of_ble_eq_true rfl, Nat.le_of_ble_eq_true rfl⟩) (pVt (va_recv hK hP (q := (RX9, TX9, 11)) (ci := 13) (q0 := k1) rfl hk1) hP hK hD hN hTH hS hFc) rfl rfl hl.1 rfl (lv_room (Nat.le_of_ble_eq_true rfl)) dX9_hunts_2 ⟨Nat.le_of_ble_eq_true rfl, Nat.le_of_ble_eq_true rfl⟩) hS (fun q _ h => hFc q h) hFc (fun q _ h => hFc q h) (fun E ce q9 u t H1 locs ht hvm hw hB hz1 hk1 hS hq9 hce hcl => ?_) (fun r2 u t H1 locs ht hvm hw hB hz1 hk1 hS => ?_)
  · obtain ⟨c3, hEc3, hB2⟩ := hB
    obtain ⟨hP, hD⟩ := wd_post hFc ht hB2
    exact vx_out (fun x h => (hno x h).elim) hlocks hq9 hce hcl (fun t2 ht2 hA2 => ⟨(), trivial, ⟨(by show f_X9_hunts S o1 x1 x2 = .error E; unfold f_X9_hunts; rw [eB_er c3]), (el_in (by decide) hEc3), wd_end hP hK hD ht2 hA2⟩, hS.F ht2⟩) hS.2.2 (Nat.le_of_ble_eq_true rfl) (Nat.le_of_ble_eq_true rfl)
  · obtain ⟨r2, rfl, c4, o5⟩ := hw
    obtain ⟨hP, hD⟩ := wd_post hFc ht hB
    generalize H1 = H at hP hS ⊢
    refine W.eq (g2 := F0 m 5 ls [.ref r2]) rfl ?_
    refine lv_astore_n (lv' := [(3, .ref r2), (0, .ref o1), (1, .int x1), (2, .int x2)]) hx hb dX9_hunts_5 rfl hl (by decide) rfl (fun ls hl => ?_)
    refine lv_aload_n hx hb dX9_hunts_6 rfl (lv_at hl 1 rfl) ?_
    refine lv_iload_n hx hb dX9_hunts_7 rfl (lv_at hl 3 rfl) ?_
    have hFc := free_all hD hS hA
    obtain ⟨k6, gk6, hk6⟩ := wGt (cy := cy) X S h_o1.1 h_o1.2.1
    refine vx_callq (vx_runV (As := [.int x2]) (rest := []) ⟨hx, hb, hml, hown, hts⟩ (c_X9_gearAt l hst (cy := cy) (X := X) (D := D) S _ o1 h_o1 x2 (hW)) (cwV 1 hts gX9_hunts_X9_gearAt rfl rfl rfl hd_X9_gearAt ⟨Nat.le_of_ble_eq_true rfl, Nat.le_of_ble_eq_true rfl⟩) (pVt (va_recv hK hP (q := (RX9, TX9, 11)) (ci := 13) (q0 := k6) rfl hk6) hP hK hD hN hTH hS hFc) rfl rfl hl.1 rfl (lv_room (Nat.le_of_ble_eq_true rfl)) dX9_hunts_8 ⟨Nat.le_of_ble_eq_true rfl, Nat.le_of_ble_eq_true rfl⟩) hS (fun q _ h => hFc q h) hFc (fun q _ h => hFc q h) (fun E ce q9 u t H1 locs ht hvm hw hB hz1 hk1 hS hq9 hce hcl => ?_) (fun r7 u t H1 locs ht hvm hw hB hz1 hk1 hS => ?_)
    · obtain ⟨c8, hEc8, hB2⟩ := hB
      obtain ⟨hP, hD⟩ := wd_post hFc ht hB2
      exact vx_out (fun x h => (hno x h).elim) hlocks hq9 hce hcl (fun t2 ht2 hA2 => ⟨(), trivial, ⟨(by show f_X9_hunts S o1 x1 x2 = .error E; unfold f_X9_hunts; rw [eB_ok c4, eB_er c8]), (el_in (by decide) hEc8), wd_end hP hK hD ht2 hA2⟩, hS.F ht2⟩) hS.2.2 (Nat.le_of_ble_eq_true rfl) (Nat.le_of_ble_eq_true rfl)
    · obtain ⟨r7, rfl, c9, o10⟩ := hw
      obtain ⟨hP, hD⟩ := wd_post hFc ht hB
      generalize H1 = H at hP hS ⊢
      refine W.eq (g2 := F0 m 11 ls [.ref r7]) rfl ?_
      refine lv_astore (lv' := [(4, .ref r7), (3, .ref r2), (0, .ref o1), (1, .int x1), (2, .int x2)]) hx hb dX9_hunts_11 hl (by decide) rfl (fun ls hl => ?_)
      refine lv_aload_n hx hb dX9_hunts_13 rfl (lv_at hl 1 rfl) ?_
      refine lv_aload hx hb dX9_hunts_14 (lv_at hl 0 rfl) ?_
      have hFc := free_all hD hS hA
      refine vx_callv (vx_runS (As := [.ref r2, .ref r7]) (rest := []) ⟨hx, hb, hml, hown, hts⟩ (c_X9_needPair l hst (cy := cy) (X := X) (D := D) S _ r2 o5 r7 o10) (cwS 2 hts gX9_hunts_X9_needPair rfl rfl rfl hd_X9_needPair ⟨Nat.le_of_ble_eq_true rfl, Nat.le_of_ble_eq_true rfl⟩) (pSt hP hK hD hN hTH hS hFc) rfl rfl hl.1 rfl (lv_room (Nat.le_of_ble_eq_true rfl)) dX9_hunts_16 ⟨Nat.le_of_ble_eq_true rfl, Nat.le_of_ble_eq_true rfl⟩) hS (fun q _ h => hFc q h) hFc (fun q _ h => hFc q h) (fun E ce q9 u t H1 locs ht hvm hw hB hz1 hk1 hS hq9 hce hcl => ?_) (fun u t H1 locs ht hvm hw hB hz1 hk1 hS => ?_)
      · obtain ⟨c12, hEc12, hB2⟩ := hB
        obtain ⟨hP, hD⟩ := wd_post hFc ht hB2
        exact vx_out (fun x h => (hno x h).elim) hlocks hq9 hce hcl (fun t2 ht2 hA2 => ⟨(), trivial, ⟨(by show f_X9_hunts S o1 x1 x2 = .error E; unfold f_X9_hunts; rw [eB_ok c4, eB_ok c9, eB_er c12]), (el_in (by decide) hEc12), wd_end hP hK hD ht2 hA2⟩, hS.F ht2⟩) hS.2.2 (Nat.le_of_ble_eq_true rfl) (Nat.le_of_ble_eq_true rfl)
      · have c13 := hw
        obtain ⟨hP, hD⟩ := wd_post hFc ht hB
        generalize H1 = H at hP hS ⊢
        refine lv_aload_n hx hb dX9_hunts_19 rfl (lv_at hl 1 rfl) ?_
        obtain ⟨k14, gk14, hk14⟩ := wGt (cy := cy) X S o5.1 o5.2.1
        have i15 := ((hW.at o5 List.not_mem_nil).to_2 o5.2.1).R1
        refine va_get (D := D) (ci := 6) (v := .int (S.I r2 1)) (C := RX2) (T := TX2) (N := 20) hx hb hts hi_X9_hunts_X2 hown hK hP k14 hk14 rfl 1 (by decide) (hts (.fieldLink RX9 100 "Hobhouse$Gear" "teeth" "I") (by decide +kernel)) (fun _ h9 => h9) rfl dX9_hunts_20 ?_
        refine lv_aload hx hb dX9_hunts_23 (lv_at hl 0 rfl) ?_
        obtain ⟨k16, gk16, hk16⟩ := wGt (cy := cy) X S o10.1 o10.2.1
        have i17 := ((hW.at o10 List.not_mem_nil).to_2 o10.2.1).R1
        refine va_get (D := D) (ci := 6) (v := .int (S.I r7 1)) (C := RX2) (T := TX2) (N := 20) hx hb hts hi_X9_hunts_X2 hown hK hP k16 hk16 rfl 1 (by decide) (hts (.fieldLink RX9 100 "Hobhouse$Gear" "teeth" "I") (by decide +kernel)) (fun _ h9 => h9) rfl dX9_hunts_25 ?_
        have hFc := free_all hD hS hA
        refine va_calli (va_runS (As := [.int (S.I r2 1), .int (S.I r7 1)]) (rest := []) ⟨hx, hb, hml, hown, hts⟩ (c_X9_commonDivisor l (cy := cy) (X := X) (D := D) S _ (S.I r2 1) (S.I r7 1)) (cwS 2 hts gX9_hunts_X9_commonDivisor rfl rfl rfl hd_X9_commonDivisor ⟨Nat.le_of_ble_eq_true rfl, Nat.le_of_ble_eq_true rfl⟩) (pS hP hK hD hN) rfl rfl hl.1 rfl (lv_room (Nat.le_of_ble_eq_true rfl)) dX9_hunts_28 ⟨Nat.le_of_ble_eq_true rfl, Nat.le_of_ble_eq_true rfl⟩) hS (fun q _ h => hFc q h) hFc (fun r18 u t H1 locs ht hvm hw hB hz1 hk1 hS => ?_)
        have c19 := hw
        obtain ⟨hP, hD⟩ := wd_post hFc ht hB
        generalize H1 = H at hP hS ⊢
        obtain rfl : f_X9_commonDivisor (S.I r2 1) (S.I r7 1) = r18 := c19.symm
        have i20 := cd_i (S.I r2 1) (S.I r7 1)
        refine lv_iconst (v := 1) hx hb dX9_hunts_31 (by decide) ?_
        refine lv_icmp_ne (tgt := 39) hx hb dX9_hunts_32 (by decide) (fun c21 => ?_) (fun c21 => ?_)
        · have c21i : ¬ (f_X9_commonDivisor (S.I r2 1) (S.I r7 1)).toInt = 1 := neq_v rfl rfl c21
          refine lv_iconst (v := 0) hx hb dX9_hunts_39 (by decide) ?_
          refine vx_ret ?_
          refine W.widen (k := 3) (n := 18) (Nat.le_of_ble_eq_true rfl) (Nat.le_of_ble_eq_true rfl) ?_
          exact W.zret (v := (0 : Int32)) hx hb hr (by rfl) (fun t ht hW9 => ⟨⟨(0 : Int32), (), rfl, (by show f_X9_hunts S o1 x1 x2 = .ok (0 : Int32); unfold f_X9_hunts; rw [eB_ok c4, eB_ok c9, eB_ok c13, if_neg c21]), wd_end hP hK hD ht hW9.alike⟩, hS.F ht⟩) hS.2.2 dX9_hunts_40 hlocks
        · have c21i : (f_X9_commonDivisor (S.I r2 1) (S.I r7 1)).toInt = 1 := eq_v rfl rfl c21
          refine lv_iconst (v := 1) hx hb dX9_hunts_35 (by decide) ?_
          refine lv_goto (tgt := 40) hx hb dX9_hunts_36 (by decide) ?_
          refine vx_ret ?_
          refine W.widen (k := 3) (n := 18) (Nat.le_of_ble_eq_true rfl) (Nat.le_of_ble_eq_true rfl) ?_
          exact W.zret (v := (1 : Int32)) hx hb hr (by rfl) (fun t ht hW9 => ⟨⟨(1 : Int32), (), rfl, (by show f_X9_hunts S o1 x1 x2 = .ok (1 : Int32); unfold f_X9_hunts; rw [eB_ok c4, eB_ok c9, eB_ok c13, if_pos c21]), wd_end hP hK hD ht hW9.alike⟩, hS.F ht⟩) hS.2.2 dX9_hunts_40 hlocks
def f_X9_grind (S : wPS) (o1 : Nat) (x1 : Int32) (x2 : Int32) (x3 : Int32) : Except String (Int32 × wPS) := eB (f_X9_gearAt S o1 x1) (fun r2 => eB (f_X9_needRange x2 (1 : Int32) (99 : Int32)) (fun _ => eB (f_X9_needRange x3 (1 : Int32) (999 : Int32)) (fun _ => if (f_X2_isWhole S r2) = (0 : Int32) then eB (f_X9_allowOnly (0 : Int32)) (fun _ => .error "") else if (S.I r2 12) ≤ (0 : Int32) then eB (f_X9_allowOnly (0 : Int32)) (fun _ => .error "") else eB (f_X9_allowOnly (1 : Int32)) (fun _ => l1 (f_X2_takeOff S r2 (if (S.I r2 12) < x2 then (S.I r2 12) else x2) x3) (fun S39 => .ok (S39.I r2 12, S39))))))
theorem hi_X9_grind_X2 : ∀ w ∈ u_ws RX2 TX2 20, w ∈ wsX9_grind := by decide +kernel
theorem hd_X9_grind : yX9_grind.cls = RX9 ∧ yX9_grind.cls ≠ "java/lang/invoke/MethodHandle" ∧ yX9_grind.cls ≠ "java/lang/invoke/VarHandle" ∧ (parseMethodDescriptor yX9_grind.desc).map (fun d => d.parameters.length) = some 3 := by decide +kernel
set_option maxHeartbeats 4000000 in
set_option maxRecDepth 100000 in
theorem c_X9_grind (l : Launch) (hst : l.stackTraces = false) {D : va_G} {cy : Nat → ClassId} {X : va_W} (S : wPS) (sz : Nat) (o1 : Nat) (h_o1 : isA S o1 9) (x1 : Int32) (x2 : Int32) (x3 : Int32) (hW : wtB S [])  : vx_Met l yX9_grind wsX9_grind ({ frames := 7, cells := 4, slots := 24, locals := 104 }) (va_Pc [.ref o1, .int x1, .int x2, .int x3] (fun U => U.heap.size = sz ∧ WD D cy X (fun _ => True) S U ∧ NW U ∧ TH (va_A (X ++ PL cy S) sz) U)) (va_Qi (fun r (u : wPS) => f_X9_grind S o1 x1 x2 x3 = .ok (r, u) ∧ stp [(2, 12), (2, 15), (2, 16), (2, 17)] [] [] S u) (fun u t => WD D cy X (va_A (X ++ PL cy S) sz) u t) (va_A (X ++ PL cy S) sz)) (vx_X (fun (u : wPS) => stp [(2, 12), (2, 15), (2, 16), (2, 17)] [] [] S u) (fun E u t => f_X9_grind S o1 x1 x2 x3 = .error E ∧ E ∈ ["java/lang/IllegalArgumentException", "java/lang/IndexOutOfBoundsException", "java/lang/UnsupportedOperationException"] ∧ WD D cy X (va_A (X ++ PL cy S) sz) u t) (va_A (X ++ PL cy S) sz)) 4 24 (va_A (X ++ PL cy S) sz) := by
  refine vx_ofW (cc := cX9_grind) (maxL := 5) (ret := (some .int)) (by decide) rfl ?_
  intro p e s m args below meth c s₁ B hml hno hv
  obtain ⟨rfl, hsz, ⟨hP, hK, hD0⟩, hN, hTH⟩ := hv
  have hx := B.exec
  have hb := B.bytes
  have hr := B.returns
  have hts := atoms_spec (ws := wsX9_grind) B.pre
  have hown : s.vm.findClass RX9 = some m.cls := findClass_of_methodNamed (x := yX9_grind) B.named
  have hlocks := B.notSynchronized
  subst hsz
  have hD := hD0.self (sz := s.heap.size)
  generalize hAe : va_A (X ++ PL cy S) s.heap.size = A at hD hTH ⊢
  have hA : ∀ q : Nat, s.heap.size ≤ q → A q := fun q h => by rw [← hAe]; exact Or.inr h
  have hS : va_S A s.heap s.heap [] := va_S.rf
  have hl := lv_entry ([.ref o1, .int x1, .int x2, .int x3]) (n := 5) (Nat.le_of_ble_eq_true rfl)
  rw [lg_entry_eq]
  generalize (lg_sl ([.ref o1, .int x1, .int x2, .int x3]) ++ List.replicate (5 - (lg_sl ([.ref o1, .int x1, .int x2, .int x3])).length) Slot.unset).toArray = ls at hl ⊢
  have hl : lv_has ls 5 [(0, .ref o1), (1, .int x1), (2, .int x2), (3, .int x3)] := hl
  have t0 : stp [(2, 12), (2, 15), (2, 16), (2, 17)] [] [] S S := stp.rf hW
  refine lv_aload_n hx hb dX9_grind_0 rfl (lv_at hl 0 rfl) ?_
  refine lv_iload_n hx hb dX9_grind_1 rfl (lv_at hl 1 rfl) ?_
  have hFc := free_all hD hS hA
  obtain ⟨k1, gk1, hk1⟩ := wGt (cy := cy) X S h_o1.1 h_o1.2.1
  refine vx_callq (vx_runV (As := [.int x1]) (rest := []) ⟨hx, hb, hml, hown, hts⟩ (c_X9_gearAt l hst (cy := cy) (X := X) (D := D) S _ o1 h_o1 x1 (hW)) (cwV 1 hts gX9_grind_X9_gearAt rfl rfl rfl hd_X9_gearAt ⟨Nat.le_of_ble_eq_true rfl, Nat.le_of_ble_eq_true rfl⟩) (pVt (va_recv hK hP (q := (RX9, TX9, 11)) (ci := 13) (q0 := k1) rfl hk1) hP hK hD hN hTH hS hFc) rfl rfl hl.1 rfl (lv_room (Nat.le_of_ble_eq_true rfl)) dX9_grind_2 ⟨Nat.le_of_ble_eq_true rfl, Nat.le_of_ble_eq_true rfl⟩) hS (fun q _ h => hFc q h) hFc (fun q _ h => hFc q h) (fun E ce q9 u t H1 locs ht hvm hw hB hz1 hk1 hS hq9 hce hcl => ?_) (fun r2 u t H1 locs ht hvm hw hB hz1 hk1 hS => ?_)
  · obtain ⟨c3, hEc3, hB2⟩ := hB
    obtain ⟨hP, hD⟩ := wd_post hFc ht hB2
    exact vx_out (fun x h => (hno x h).elim) hlocks hq9 hce hcl (fun t2 ht2 hA2 => ⟨S, t0, ⟨(by show f_X9_grind S o1 x1 x2 x3 = .error E; unfold f_X9_grind; rw [eB_er c3]), (el_in (by decide) hEc3), wd_end hP hK hD ht2 hA2⟩, hS.F ht2⟩) hS.2.2 (Nat.le_of_ble_eq_true rfl) (Nat.le_of_ble_eq_true rfl)
  · obtain ⟨r2, rfl, c4, o5⟩ := hw
    obtain ⟨hP, hD⟩ := wd_post hFc ht hB
    generalize H1 = H at hP hS ⊢
    refine W.eq (g2 := F0 m 5 ls [.ref r2]) rfl ?_
    refine lv_astore (lv' := [(4, .ref r2), (0, .ref o1), (1, .int x1), (2, .int x2), (3, .int x3)]) hx hb dX9_grind_5 hl (by decide) rfl (fun ls hl => ?_)
    refine lv_iload_n hx hb dX9_grind_7 rfl (lv_at hl 3 rfl) ?_
    refine lv_iconst (v := 1) hx hb dX9_grind_8 (by decide) ?_
    refine lv_bipush (v := 99) hx hb dX9_grind_9 (by decide +kernel) ?_
    have l32_1 : (1 : Int32).toInt = 1 := rfl
    have l32_99 : (99 : Int32).toInt = 99 := rfl
    have hFc := free_all hD hS hA
    refine vx_callv (vx_runS (As := [.int x2, .int (1 : Int32), .int (99 : Int32)]) (rest := []) ⟨hx, hb, hml, hown, hts⟩ (c_X9_needRange l hst (cy := cy) (X := X) (D := D) S _ x2 (1 : Int32) (99 : Int32)) (cwS 3 hts gX9_grind_X9_needRange rfl rfl rfl hd_X9_needRange ⟨Nat.le_of_ble_eq_true rfl, Nat.le_of_ble_eq_true rfl⟩) (pSt hP hK hD hN hTH hS hFc) rfl rfl hl.1 rfl (lv_room (Nat.le_of_ble_eq_true rfl)) dX9_grind_11 ⟨Nat.le_of_ble_eq_true rfl, Nat.le_of_ble_eq_true rfl⟩) hS (fun q _ h => hFc q h) hFc (fun q _ h => hFc q h) (fun E ce q9 u t H1 locs ht hvm hw hB hz1 hk1 hS hq9 hce hcl => ?_) (fun u t H1 locs ht hvm hw hB hz1 hk1 hS => ?_)
    · obtain ⟨c7, hEc7, hB2⟩ := hB
      obtain ⟨hP, hD⟩ := wd_post hFc ht hB2
      exact vx_out (fun x h => (hno x h).elim) hlocks hq9 hce hcl (fun t2 ht2 hA2 => ⟨S, t0, ⟨(by show f_X9_grind S o1 x1 x2 x3 = .error E; unfold f_X9_grind; rw [eB_ok c4, eB_er c7]), (el_in (by decide) hEc7), wd_end hP hK hD ht2 hA2⟩, hS.F ht2⟩) hS.2.2 (Nat.le_of_ble_eq_true rfl) (Nat.le_of_ble_eq_true rfl)
    · have c8 := hw
      obtain ⟨hP, hD⟩ := wd_post hFc ht hB
      generalize H1 = H at hP hS ⊢
      have i9 := nr_i c8
      have i9l := i9.1
      have i9h := i9.2
      have l10 : (1 : Int32).toInt = 1 := rfl
      have l11 : (99 : Int32).toInt = 99 := rfl
      refine lv_iload_n hx hb dX9_grind_14 rfl (lv_at hl 4 rfl) ?_
      refine lv_iconst (v := 1) hx hb dX9_grind_15 (by decide) ?_
      refine lv_sipush (v := 999) hx hb dX9_grind_16 (by decide +kernel) ?_
      have l32_999 : (999 : Int32).toInt = 999 := rfl
      have hFc := free_all hD hS hA
      refine vx_callv (vx_runS (As := [.int x3, .int (1 : Int32), .int (999 : Int32)]) (rest := []) ⟨hx, hb, hml, hown, hts⟩ (c_X9_needRange l hst (cy := cy) (X := X) (D := D) S _ x3 (1 : Int32) (999 : Int32)) (cwS 3 hts gX9_grind_X9_needRange rfl rfl rfl hd_X9_needRange ⟨Nat.le_of_ble_eq_true rfl, Nat.le_of_ble_eq_true rfl⟩) (pSt hP hK hD hN hTH hS hFc) rfl rfl hl.1 rfl (lv_room (Nat.le_of_ble_eq_true rfl)) dX9_grind_19 ⟨Nat.le_of_ble_eq_true rfl, Nat.le_of_ble_eq_true rfl⟩) hS (fun q _ h => hFc q h) hFc (fun q _ h => hFc q h) (fun E ce q9 u t H1 locs ht hvm hw hB hz1 hk1 hS hq9 hce hcl => ?_) (fun u t H1 locs ht hvm hw hB hz1 hk1 hS => ?_)
      · obtain ⟨c13, hEc13, hB2⟩ := hB
        obtain ⟨hP, hD⟩ := wd_post hFc ht hB2
        exact vx_out (fun x h => (hno x h).elim) hlocks hq9 hce hcl (fun t2 ht2 hA2 => ⟨S, t0, ⟨(by show f_X9_grind S o1 x1 x2 x3 = .error E; unfold f_X9_grind; rw [eB_ok c4, eB_ok c8, eB_er c13]), (el_in (by decide) hEc13), wd_end hP hK hD ht2 hA2⟩, hS.F ht2⟩) hS.2.2 (Nat.le_of_ble_eq_true rfl) (Nat.le_of_ble_eq_true rfl)
      · have c14 := hw
        obtain ⟨hP, hD⟩ := wd_post hFc ht hB
        generalize H1 = H at hP hS ⊢
        have i15 := nr_i c14
        have i15l := i15.1
        have i15h := i15.2
        have l16 : (1 : Int32).toInt = 1 := rfl
        have l17 : (999 : Int32).toInt = 999 := rfl
        refine lv_aload hx hb dX9_grind_22 (lv_at hl 0 rfl) ?_
        have hFc := free_all hD hS hA
        obtain ⟨k18, gk18, hk18⟩ := wGt (cy := cy) X S o5.1 o5.2.1
        refine va_calli (va_runV (As := []) (rest := []) ⟨hx, hb, hml, hown, hts⟩ (c_X2_isWhole l (cy := cy) (X := X) (D := D) S _ r2 o5) (cwV 0 hts gX9_grind_X2_isWhole rfl rfl rfl hd_X2_isWhole ⟨Nat.le_of_ble_eq_true rfl, Nat.le_of_ble_eq_true rfl⟩) (pV (va_recv hK hP (q := (RX2, TX2, 20)) (ci := 6) (q0 := k18) rfl hk18) hP hK hD hN) rfl rfl hl.1 rfl (lv_room (Nat.le_of_ble_eq_true rfl)) dX9_grind_24 ⟨Nat.le_of_ble_eq_true rfl, Nat.le_of_ble_eq_true rfl⟩) hS (fun q _ h => hFc q h) hFc (fun r19 u t H1 locs ht hvm hw hB hz1 hk1 hS => ?_)
        have c20 := hw
        obtain ⟨hP, hD⟩ := wd_post hFc ht hB
        generalize H1 = H at hP hS ⊢
        obtain rfl : f_X2_isWhole S r2 = r19 := c20.symm
        refine lv_if_eq (tgt := 42) hx hb dX9_grind_27 (by decide) (fun c21 => ?_) (fun c21 => ?_)
        · have c21i : (f_X2_isWhole S r2).toInt = 0 := eq_v rfl rfl c21
          refine lv_iconst (v := 0) hx hb dX9_grind_42 (by decide) ?_
          have l32_0 : (0 : Int32).toInt = 0 := rfl
          have hFc := free_all hD hS hA
          refine vx_callv (vx_runS (As := [.int (0 : Int32)]) (rest := []) ⟨hx, hb, hml, hown, hts⟩ (c_X9_allowOnly l hst (cy := cy) (X := X) (D := D) S _ (0 : Int32)) (cwS 1 hts gX9_grind_X9_allowOnly rfl rfl rfl hd_X9_allowOnly ⟨Nat.le_of_ble_eq_true rfl, Nat.le_of_ble_eq_true rfl⟩) (pSt hP hK hD hN hTH hS hFc) rfl rfl hl.1 rfl (lv_room (Nat.le_of_ble_eq_true rfl)) dX9_grind_43 ⟨Nat.le_of_ble_eq_true rfl, Nat.le_of_ble_eq_true rfl⟩) hS (fun q _ h => hFc q h) hFc (fun q _ h => hFc q h) (fun E ce q9 u t H1 locs ht hvm hw hB hz1 hk1 hS hq9 hce hcl => ?_) (fun u t H1 locs ht hvm hw hB hz1 hk1 hS => ?_)
          · obtain ⟨c23, hEc23, hB2⟩ := hB
            obtain ⟨hP, hD⟩ := wd_post hFc ht hB2
            exact vx_out (fun x h => (hno x h).elim) hlocks hq9 hce hcl (fun t2 ht2 hA2 => ⟨S, t0, ⟨(by show f_X9_grind S o1 x1 x2 x3 = .error E; unfold f_X9_grind; rw [eB_ok c4, eB_ok c8, eB_ok c14, if_pos c21, eB_er c23]), (el_in (by decide) hEc23), wd_end hP hK hD ht2 hA2⟩, hS.F ht2⟩) hS.2.2 (Nat.le_of_ble_eq_true rfl) (Nat.le_of_ble_eq_true rfl)
          · have c24 := hw
            obtain ⟨hP, hD⟩ := wd_post hFc ht hB
            generalize H1 = H at hP hS ⊢
            exact absurd rfl (ao_i c24)
        · have c21i : ¬ (f_X2_isWhole S r2).toInt = 0 := neq_v rfl rfl c21
          refine lv_aload hx hb dX9_grind_30 (lv_at hl 0 rfl) ?_
          obtain ⟨k25, gk25, hk25⟩ := wGt (cy := cy) X S o5.1 o5.2.1
          refine va_get (D := D) (ci := 6) (v := .int (S.I r2 12)) (C := RX2) (T := TX2) (N := 20) hx hb hts hi_X9_grind_X2 hown hK hP k25 hk25 rfl 12 (by decide) (hts (.fieldLink RX9 284 "Hobhouse$Gear" "stock" "I") (by decide +kernel)) (fun _ h9 => h9) rfl dX9_grind_32 ?_
          refine lv_if_le (tgt := 42) hx hb dX9_grind_35 (by decide) (fun c26 => ?_) (fun c26 => ?_)
          · have c26i : (S.I r2 12).toInt ≤ 0 := le_v rfl rfl c26
            refine lv_iconst (v := 0) hx hb dX9_grind_42 (by decide) ?_
            have l32_0 : (0 : Int32).toInt = 0 := rfl
            have hFc := free_all hD hS hA
            refine vx_callv (vx_runS (As := [.int (0 : Int32)]) (rest := []) ⟨hx, hb, hml, hown, hts⟩ (c_X9_allowOnly l hst (cy := cy) (X := X) (D := D) S _ (0 : Int32)) (cwS 1 hts gX9_grind_X9_allowOnly rfl rfl rfl hd_X9_allowOnly ⟨Nat.le_of_ble_eq_true rfl, Nat.le_of_ble_eq_true rfl⟩) (pSt hP hK hD hN hTH hS hFc) rfl rfl hl.1 rfl (lv_room (Nat.le_of_ble_eq_true rfl)) dX9_grind_43 ⟨Nat.le_of_ble_eq_true rfl, Nat.le_of_ble_eq_true rfl⟩) hS (fun q _ h => hFc q h) hFc (fun q _ h => hFc q h) (fun E ce q9 u t H1 locs ht hvm hw hB hz1 hk1 hS hq9 hce hcl => ?_) (fun u t H1 locs ht hvm hw hB hz1 hk1 hS => ?_)
            · obtain ⟨c28, hEc28, hB2⟩ := hB
              obtain ⟨hP, hD⟩ := wd_post hFc ht hB2
              exact vx_out (fun x h => (hno x h).elim) hlocks hq9 hce hcl (fun t2 ht2 hA2 => ⟨S, t0, ⟨(by show f_X9_grind S o1 x1 x2 x3 = .error E; unfold f_X9_grind; rw [eB_ok c4, eB_ok c8, eB_ok c14, if_neg c21, if_pos c26, eB_er c28]), (el_in (by decide) hEc28), wd_end hP hK hD ht2 hA2⟩, hS.F ht2⟩) hS.2.2 (Nat.le_of_ble_eq_true rfl) (Nat.le_of_ble_eq_true rfl)
            · have c29 := hw
              obtain ⟨hP, hD⟩ := wd_post hFc ht hB
              generalize H1 = H at hP hS ⊢
              exact absurd rfl (ao_i c29)
          · have c26i : 0 < (S.I r2 12).toInt := nle_v rfl rfl c26
            refine lv_iconst (v := 1) hx hb dX9_grind_38 (by decide) ?_
            refine lv_goto (tgt := 43) hx hb dX9_grind_39 (by decide) ?_
            have hFc := free_all hD hS hA
            refine vx_callv (vx_runS (As := [.int (1 : Int32)]) (rest := []) ⟨hx, hb, hml, hown, hts⟩ (c_X9_allowOnly l hst (cy := cy) (X := X) (D := D) S _ (1 : Int32)) (cwS 1 hts gX9_grind_X9_allowOnly rfl rfl rfl hd_X9_allowOnly ⟨Nat.le_of_ble_eq_true rfl, Nat.le_of_ble_eq_true rfl⟩) (pSt hP hK hD hN hTH hS hFc) rfl rfl hl.1 rfl (lv_room (Nat.le_of_ble_eq_true rfl)) dX9_grind_43 ⟨Nat.le_of_ble_eq_true rfl, Nat.le_of_ble_eq_true rfl⟩) hS (fun q _ h => hFc q h) hFc (fun q _ h => hFc q h) (fun E ce q9 u t H1 locs ht hvm hw hB hz1 hk1 hS hq9 hce hcl => ?_) (fun u t H1 locs ht hvm hw hB hz1 hk1 hS => ?_)
            · obtain ⟨c31, hEc31, hB2⟩ := hB
              obtain ⟨hP, hD⟩ := wd_post hFc ht hB2
              exact vx_out (fun x h => (hno x h).elim) hlocks hq9 hce hcl (fun t2 ht2 hA2 => ⟨S, t0, ⟨(by show f_X9_grind S o1 x1 x2 x3 = .error E; unfold f_X9_grind; rw [eB_ok c4, eB_ok c8, eB_ok c14, if_neg c21, if_neg c26, eB_er c31]), (el_in (by decide) hEc31), wd_end hP hK hD ht2 hA2⟩, hS.F ht2⟩) hS.2.2 (Nat.le_of_ble_eq_true rfl) (Nat.le_of_ble_eq_true rfl)
            · have c32 := hw
              obtain ⟨hP, hD⟩ := wd_post hFc ht hB
              generalize H1 = H at hP hS ⊢
              have i33 := ao_i c32
              refine lv_aload hx hb dX9_grind_46 (lv_at hl 0 rfl) ?_
              refine lv_iload_n hx hb dX9_grind_48 rfl (lv_at hl 3 rfl) ?_
              refine lv_aload hx hb dX9_grind_49 (lv_at hl 0 rfl) ?_
              obtain ⟨k34, gk34, hk34⟩ := wGt (cy := cy) X S o5.1 o5.2.1
              refine va_get (D := D) (ci := 6) (v := .int (S.I r2 12)) (C := RX2) (T := TX2) (N := 20) hx hb hts hi_X9_grind_X2 hown hK hP k34 hk34 rfl 12 (by decide) (hts (.fieldLink RX9 284 "Hobhouse$Gear" "stock" "I") (by decide +kernel)) (fun _ h9 => h9) rfl dX9_grind_51 ?_
              refine va_mmin hx hb (hml.trans hl.1.symm) hown (hts (.methodLink RX9 181 Lib.Math.min.name) (by decide +kernel)) (hts (.static Lib.Math.min.name) (by decide +kernel)) (hts (.initialized "java/lang/Math") (by decide +kernel)) (hts (.code Lib.Math.min.name Lib.Math.min.code 2 (some .int)) (by decide +kernel)) (Nat.le_of_ble_eq_true rfl) (Nat.le_of_ble_eq_true rfl) (Nat.le_of_ble_eq_true rfl) (Nat.le_of_ble_eq_true rfl) dX9_grind_54 ?_
              refine lv_iload_n hx hb dX9_grind_57 rfl (lv_at hl 4 rfl) ?_
              have hFc := free_all hD hS hA
              obtain ⟨k35, gk35, hk35⟩ := wGt (cy := cy) X S o5.1 o5.2.1
              refine va_callv (va_runV (As := [.int (if (S.I r2 12) < x2 then (S.I r2 12) else x2), .int x3]) (rest := []) ⟨hx, hb, hml, hown, hts⟩ (c_X2_takeOff l (cy := cy) (X := X) (D := D) S _ r2 o5 (if (S.I r2 12) < x2 then (S.I r2 12) else x2) x3 (hW)) (cwV 2 hts gX9_grind_X2_takeOff rfl rfl rfl hd_X2_takeOff ⟨Nat.le_of_ble_eq_true rfl, Nat.le_of_ble_eq_true rfl⟩) (pV (va_recv hK hP (q := (RX2, TX2, 20)) (ci := 6) (q0 := k35) rfl hk35) hP hK hD hN) rfl rfl hl.1 rfl (lv_room (Nat.le_of_ble_eq_true rfl)) dX9_grind_58 ⟨Nat.le_of_ble_eq_true rfl, Nat.le_of_ble_eq_true rfl⟩) hS (fun q _ h => hFc q h) hFc (fun u t H1 locs ht hvm hw hB hz1 hk1 hS => ?_)
              obtain ⟨c37, w38⟩ := hw
              obtain ⟨hP, hD⟩ := wd_post hFc ht hB
              generalize H1 = H at hP hS ⊢
              obtain ⟨S39, rfl⟩ : ∃ z, z = u := ⟨_, rfl⟩
              have t40 : stp [(2, 12), (2, 15), (2, 16), (2, 17)] [] [] S S39 := t0.tr w38 (by decide) (fun _ q => absurd q List.not_mem_nil)
              have xe41 : ext S S39 := w38.x
              refine lv_aload hx hb dX9_grind_61 (lv_at hl 0 rfl) ?_
              obtain ⟨k42, gk42, hk42⟩ := wGt (cy := cy) X S39 (xe41.A o5).1 (xe41.A o5).2.1
              refine va_get (D := D) (ci := 6) (v := .int (S39.I r2 12)) (C := RX2) (T := TX2) (N := 20) hx hb hts hi_X9_grind_X2 hown hK hP k42 hk42 rfl 12 (by decide) (hts (.fieldLink RX9 284 "Hobhouse$Gear" "stock" "I") (by decide +kernel)) (fun _ h9 => h9) rfl dX9_grind_63 ?_
              refine vx_ret ?_
              refine W.widen (k := 4) (n := 24) (Nat.le_of_ble_eq_true rfl) (Nat.le_of_ble_eq_true rfl) ?_
              exact W.iret (v := S39.I r2 12) hx hb hr (fun t ht hW9 => ⟨⟨S39.I r2 12, S39, rfl, ⟨(by show f_X9_grind S o1 x1 x2 x3 = .ok (S39.I r2 12, S39); unfold f_X9_grind; rw [eB_ok c4, eB_ok c8, eB_ok c14, if_neg c21, if_neg c26, eB_ok c32, l1_eq c37.symm]), t40⟩, wd_end hP hK hD ht hW9.alike⟩, hS.F ht⟩) hS.2.2 dX9_grind_66 hlocks
def f_X9_bears (S : wPS) (o1 : Nat) (x1 : Int32) : Except String Int32 := eB (f_X9_gearAt S o1 x1) (fun r2 => .ok (f_X2_borneTorque S r2))
theorem hd_X9_bears : yX9_bears.cls = RX9 ∧ yX9_bears.cls ≠ "java/lang/invoke/MethodHandle" ∧ yX9_bears.cls ≠ "java/lang/invoke/VarHandle" ∧ (parseMethodDescriptor yX9_bears.desc).map (fun d => d.parameters.length) = some 1 := by decide +kernel
set_option maxHeartbeats 4000000 in
set_option maxRecDepth 100000 in
theorem c_X9_bears (l : Launch) (hst : l.stackTraces = false) {D : va_G} {cy : Nat → ClassId} {X : va_W} (S : wPS) (sz : Nat) (o1 : Nat) (h_o1 : isA S o1 9) (x1 : Int32) (hW : wtB S [])  : vx_Met l yX9_bears wsX9_bears ({ frames := 7, cells := 1, slots := 6, locals := 103 }) (va_Pc [.ref o1, .int x1] (fun U => U.heap.size = sz ∧ WD D cy X (fun _ => True) S U ∧ NW U ∧ TH (va_A (X ++ PL cy S) sz) U)) (va_Qi (fun r (_ : Unit) => f_X9_bears S o1 x1 = .ok r) (fun _ t => WD D cy X (va_A (X ++ PL cy S) sz) S t) (va_A (X ++ PL cy S) sz)) (vx_X (fun (_ : Unit) => True) (fun E _ t => f_X9_bears S o1 x1 = .error E ∧ E ∈ ["java/lang/IndexOutOfBoundsException"] ∧ WD D cy X (va_A (X ++ PL cy S) sz) S t) (va_A (X ++ PL cy S) sz)) 1 6 (va_A (X ++ PL cy S) sz) := by
  refine vx_ofW (cc := cX9_bears) (maxL := 2) (ret := (some .int)) (by decide) rfl ?_
  intro p e s m args below meth c s₁ B hml hno hv
  obtain ⟨rfl, hsz, ⟨hP, hK, hD0⟩, hN, hTH⟩ := hv
  have hx := B.exec
  have hb := B.bytes
  have hr := B.returns
  have hts := atoms_spec (ws := wsX9_bears) B.pre
  have hown : s.vm.findClass RX9 = some m.cls := findClass_of_methodNamed (x := yX9_bears) B.named
  have hlocks := B.notSynchronized
  subst hsz
  have hD := hD0.self (sz := s.heap.size)
  generalize hAe : va_A (X ++ PL cy S) s.heap.size = A at hD hTH ⊢
  have hA : ∀ q : Nat, s.heap.size ≤ q → A q := fun q h => by rw [← hAe]; exact Or.inr h
  have hS : va_S A s.heap s.heap [] := va_S.rf
  have hl := lv_entry ([.ref o1, .int x1]) (n := 2) (Nat.le_of_ble_eq_true rfl)
  rw [lg_entry_eq]
  generalize (lg_sl ([.ref o1, .int x1]) ++ List.replicate (2 - (lg_sl ([.ref o1, .int x1])).length) Slot.unset).toArray = ls at hl ⊢
  have hl : lv_has ls 2 [(0, .ref o1), (1, .int x1)] := hl
  refine lv_aload_n hx hb dX9_bears_0 rfl (lv_at hl 0 rfl) ?_
  refine lv_iload_n hx hb dX9_bears_1 rfl (lv_at hl 1 rfl) ?_
  have hFc := free_all hD hS hA
  obtain ⟨k1, gk1, hk1⟩ := wGt (cy := cy) X S h_o1.1 h_o1.2.1
  refine vx_callq (vx_runV (As := [.int x1]) (rest := []) ⟨hx, hb, hml, hown, hts⟩ (c_X9_gearAt l hst (cy := cy) (X := X) (D := D) S _ o1 h_o1 x1 (hW)) (cwV 1 hts gX9_bears_X9_gearAt rfl rfl rfl hd_X9_gearAt ⟨Nat.le_of_ble_eq_true rfl, Nat.le_of_ble_eq_true rfl⟩) (pVt (va_recv hK hP (q := (RX9, TX9, 11)) (ci := 13) (q0 := k1) rfl hk1) hP hK hD hN hTH hS hFc) rfl rfl hl.1 rfl (lv_room (Nat.le_of_ble_eq_true rfl)) dX9_bears_2 ⟨Nat.le_of_ble_eq_true rfl, Nat.le_of_ble_eq_true rfl⟩) hS (fun q _ h => hFc q h) hFc (fun q _ h => hFc q h) (fun E ce q9 u t H1 locs ht hvm hw hB hz1 hk1 hS hq9 hce hcl => ?_) (fun r2 u t H1 locs ht hvm hw hB hz1 hk1 hS => ?_)
  · obtain ⟨c3, hEc3, hB2⟩ := hB
    obtain ⟨hP, hD⟩ := wd_post hFc ht hB2
    exact vx_out (fun x h => (hno x h).elim) hlocks hq9 hce hcl (fun t2 ht2 hA2 => ⟨(), trivial, ⟨(by show f_X9_bears S o1 x1 = .error E; unfold f_X9_bears; rw [eB_er c3]), (el_in (by decide) hEc3), wd_end hP hK hD ht2 hA2⟩, hS.F ht2⟩) hS.2.2 (Nat.le_of_ble_eq_true rfl) (Nat.le_of_ble_eq_true rfl)
  · obtain ⟨r2, rfl, c4, o5⟩ := hw
    obtain ⟨hP, hD⟩ := wd_post hFc ht hB
    generalize H1 = H at hP hS ⊢
    refine W.eq (g2 := F0 m 5 ls [.ref r2]) rfl ?_
    have hFc := free_all hD hS hA
    obtain ⟨k6, gk6, hk6⟩ := wGt (cy := cy) X S o5.1 o5.2.1
    refine va_calli (va_runV (As := []) (rest := []) ⟨hx, hb, hml, hown, hts⟩ (c_X2_borneTorque l (cy := cy) (X := X) (D := D) S _ r2 o5 (hW)) (cwV 0 hts gX9_bears_X2_borneTorque rfl rfl rfl hd_X2_borneTorque ⟨Nat.le_of_ble_eq_true rfl, Nat.le_of_ble_eq_true rfl⟩) (pV (va_recv hK hP (q := (RX2, TX2, 20)) (ci := 6) (q0 := k6) rfl hk6) hP hK hD hN) rfl rfl hl.1 rfl (lv_room (Nat.le_of_ble_eq_true rfl)) dX9_bears_5 ⟨Nat.le_of_ble_eq_true rfl, Nat.le_of_ble_eq_true rfl⟩) hS (fun q _ h => hFc q h) hFc (fun r7 u t H1 locs ht hvm hw hB hz1 hk1 hS => ?_)
    obtain ⟨c8, y9⟩ := hw
    obtain ⟨hP, hD⟩ := wd_post hFc ht hB
    generalize H1 = H at hP hS ⊢
    obtain rfl : f_X2_borneTorque S r2 = r7 := c8.symm
    refine vx_ret ?_
    refine W.widen (k := 1) (n := 6) (Nat.le_of_ble_eq_true rfl) (Nat.le_of_ble_eq_true rfl) ?_
    exact W.iret (v := f_X2_borneTorque S r2) hx hb hr (fun t ht hW9 => ⟨⟨f_X2_borneTorque S r2, (), rfl, (by show f_X9_bears S o1 x1 = .ok (f_X2_borneTorque S r2); unfold f_X9_bears; rw [eB_ok c4]), wd_end hP hK hD ht hW9.alike⟩, hS.F ht⟩) hS.2.2 dX9_bears_8 hlocks
def f_X9_life (S : wPS) (o1 : Nat) (x1 : Int32) (x2 : Int32) : Except String Int64 := eB (f_X9_gearAt S o1 x1) (fun r2 => eB (f_X9_needRange x2 (1 : Int32) (999999 : Int32)) (fun _ => .ok (f_X2_lifeUnder S r2 x2.toInt64)))
theorem hd_X9_life : yX9_life.cls = RX9 ∧ yX9_life.cls ≠ "java/lang/invoke/MethodHandle" ∧ yX9_life.cls ≠ "java/lang/invoke/VarHandle" ∧ (parseMethodDescriptor yX9_life.desc).map (fun d => d.parameters.length) = some 2 := by decide +kernel
set_option maxHeartbeats 4000000 in
set_option maxRecDepth 100000 in
theorem c_X9_life (l : Launch) (hst : l.stackTraces = false) {D : va_G} {cy : Nat → ClassId} {X : va_W} (S : wPS) (sz : Nat) (o1 : Nat) (h_o1 : isA S o1 9) (x1 : Int32) (x2 : Int32) (hW : wtB S [])  : vx_Met l yX9_life wsX9_life ({ frames := 7, cells := 2, slots := 12, locals := 106 }) (va_Pc [.ref o1, .int x1, .int x2] (fun U => U.heap.size = sz ∧ WD D cy X (fun _ => True) S U ∧ NW U ∧ TH (va_A (X ++ PL cy S) sz) U)) (va_Ql (fun r (_ : Unit) => f_X9_life S o1 x1 x2 = .ok r) (fun _ t => WD D cy X (va_A (X ++ PL cy S) sz) S t) (va_A (X ++ PL cy S) sz)) (vx_X (fun (_ : Unit) => True) (fun E _ t => f_X9_life S o1 x1 x2 = .error E ∧ E ∈ ["java/lang/IllegalArgumentException", "java/lang/IndexOutOfBoundsException"] ∧ WD D cy X (va_A (X ++ PL cy S) sz) S t) (va_A (X ++ PL cy S) sz)) 2 12 (va_A (X ++ PL cy S) sz) := by
  refine vx_ofW (cc := cX9_life) (maxL := 4) (ret := (some .long)) (by decide) rfl ?_
  intro p e s m args below meth c s₁ B hml hno hv
  obtain ⟨rfl, hsz, ⟨hP, hK, hD0⟩, hN, hTH⟩ := hv
  have hx := B.exec
  have hb := B.bytes
  have hr := B.returns
  have hts := atoms_spec (ws := wsX9_life) B.pre
  have hown : s.vm.findClass RX9 = some m.cls := findClass_of_methodNamed (x := yX9_life) B.named
  have hlocks := B.notSynchronized
  subst hsz
  have hD := hD0.self (sz := s.heap.size)
  generalize hAe : va_A (X ++ PL cy S) s.heap.size = A at hD hTH ⊢
  have hA : ∀ q : Nat, s.heap.size ≤ q → A q := fun q h => by rw [← hAe]; exact Or.inr h
  have hS : va_S A s.heap s.heap [] := va_S.rf
  have hl := lv_entry ([.ref o1, .int x1, .int x2]) (n := 4) (Nat.le_of_ble_eq_true rfl)
  rw [lg_entry_eq]
  generalize (lg_sl ([.ref o1, .int x1, .int x2]) ++ List.replicate (4 - (lg_sl ([.ref o1, .int x1, .int x2])).length) Slot.unset).toArray = ls at hl ⊢
  have hl : lv_has ls 4 [(0, .ref o1), (1, .int x1), (2, .int x2)] := hl
  refine lv_aload_n hx hb dX9_life_0 rfl (lv_at hl 0 rfl) ?_
  refine lv_iload_n hx hb dX9_life_1 rfl (lv_at hl 1 rfl) ?_
  have hFc := free_all hD hS hA
  obtain ⟨k1, gk1, hk1⟩ := wGt (cy := cy) X S h_o1.1 h_o1.2.1
  refine vx_callq (vx_runV (As := [.int x1]) (rest := []) ⟨hx, hb, hml, hown, hts⟩ (c_X9_gearAt l hst (cy := cy) (X := X) (D := D) S _ o1 h_o1 x1 (hW)) (cwV 1 hts gX9_life_X9_gearAt rfl rfl rfl hd_X9_gearAt ⟨Nat.le_of_ble_eq_true rfl, Nat.le_of_ble_eq_true rfl⟩) (pVt (va_recv hK hP (q := (RX9, TX9, 11)) (ci := 13) (q0 := k1) rfl hk1) hP hK hD hN hTH hS hFc) rfl rfl hl.1 rfl (lv_room (Nat.le_of_ble_eq_true rfl)) dX9_life_2 ⟨Nat.le_of_ble_eq_true rfl, Nat.le_of_ble_eq_true rfl⟩) hS (fun q _ h => hFc q h) hFc (fun q _ h => hFc q h) (fun E ce q9 u t H1 locs ht hvm hw hB hz1 hk1 hS hq9 hce hcl => ?_) (fun r2 u t H1 locs ht hvm hw hB hz1 hk1 hS => ?_)
  · obtain ⟨c3, hEc3, hB2⟩ := hB
    obtain ⟨hP, hD⟩ := wd_post hFc ht hB2
    exact vx_out (fun x h => (hno x h).elim) hlocks hq9 hce hcl (fun t2 ht2 hA2 => ⟨(), trivial, ⟨(by show f_X9_life S o1 x1 x2 = .error E; unfold f_X9_life; rw [eB_er c3]), (el_in (by decide) hEc3), wd_end hP hK hD ht2 hA2⟩, hS.F ht2⟩) hS.2.2 (Nat.le_of_ble_eq_true rfl) (Nat.le_of_ble_eq_true rfl)
  · obtain ⟨r2, rfl, c4, o5⟩ := hw
    obtain ⟨hP, hD⟩ := wd_post hFc ht hB
    generalize H1 = H at hP hS ⊢
    refine W.eq (g2 := F0 m 5 ls [.ref r2]) rfl ?_
    refine lv_astore_n (lv' := [(3, .ref r2), (0, .ref o1), (1, .int x1), (2, .int x2)]) hx hb dX9_life_5 rfl hl (by decide) rfl (fun ls hl => ?_)
    refine lv_iload_n hx hb dX9_life_6 rfl (lv_at hl 3 rfl) ?_
    refine lv_iconst (v := 1) hx hb dX9_life_7 (by decide) ?_
    refine lv_ldc (own := RX9) (v := 999999) hx hb hown (hts (.constant RX9 244 (999999)) (by decide +kernel)) dX9_life_8 ?_
    have l32_1 : (1 : Int32).toInt = 1 := rfl
    have l32_999999 : (999999 : Int32).toInt = 999999 := rfl
    have hFc := free_all hD hS hA
    refine vx_callv (vx_runS (As := [.int x2, .int (1 : Int32), .int (999999 : Int32)]) (rest := []) ⟨hx, hb, hml, hown, hts⟩ (c_X9_needRange l hst (cy := cy) (X := X) (D := D) S _ x2 (1 : Int32) (999999 : Int32)) (cwS 3 hts gX9_life_X9_needRange rfl rfl rfl hd_X9_needRange ⟨Nat.le_of_ble_eq_true rfl, Nat.le_of_ble_eq_true rfl⟩) (pSt hP hK hD hN hTH hS hFc) rfl rfl hl.1 rfl (lv_room (Nat.le_of_ble_eq_true rfl)) dX9_life_10 ⟨Nat.le_of_ble_eq_true rfl, Nat.le_of_ble_eq_true rfl⟩) hS (fun q _ h => hFc q h) hFc (fun q _ h => hFc q h) (fun E ce q9 u t H1 locs ht hvm hw hB hz1 hk1 hS hq9 hce hcl => ?_) (fun u t H1 locs ht hvm hw hB hz1 hk1 hS => ?_)
    · obtain ⟨c7, hEc7, hB2⟩ := hB
      obtain ⟨hP, hD⟩ := wd_post hFc ht hB2
      exact vx_out (fun x h => (hno x h).elim) hlocks hq9 hce hcl (fun t2 ht2 hA2 => ⟨(), trivial, ⟨(by show f_X9_life S o1 x1 x2 = .error E; unfold f_X9_life; rw [eB_ok c4, eB_er c7]), (el_in (by decide) hEc7), wd_end hP hK hD ht2 hA2⟩, hS.F ht2⟩) hS.2.2 (Nat.le_of_ble_eq_true rfl) (Nat.le_of_ble_eq_true rfl)
    · have c8 := hw
      obtain ⟨hP, hD⟩ := wd_post hFc ht hB
      generalize H1 = H at hP hS ⊢
      have i9 := nr_i c8
      have i9l := i9.1
      have i9h := i9.2
      have l10 : (1 : Int32).toInt = 1 := rfl
      have l11 : (999999 : Int32).toInt = 999999 := rfl
      refine lv_aload_n hx hb dX9_life_13 rfl (lv_at hl 0 rfl) ?_
      refine lv_iload_n hx hb dX9_life_14 rfl (lv_at hl 3 rfl) ?_
      refine lv_i2l hx hb dX9_life_15 rfl ?_
      have hFc := free_all hD hS hA
      obtain ⟨k12, gk12, hk12⟩ := wGt (cy := cy) X S o5.1 o5.2.1
      refine va_calll (va_runV (As := [.long x2.toInt64]) (rest := []) ⟨hx, hb, hml, hown, hts⟩ (c_X2_lifeUnder l (cy := cy) (X := X) (D := D) S _ r2 o5 x2.toInt64 (hW)) (cwV 1 hts gX9_life_X2_lifeUnder rfl rfl rfl hd_X2_lifeUnder ⟨Nat.le_of_ble_eq_true rfl, Nat.le_of_ble_eq_true rfl⟩) (pV (va_recv hK hP (q := (RX2, TX2, 20)) (ci := 6) (q0 := k12) rfl hk12) hP hK hD hN) rfl rfl hl.1 rfl (lv_room (Nat.le_of_ble_eq_true rfl)) dX9_life_16 ⟨Nat.le_of_ble_eq_true rfl, Nat.le_of_ble_eq_true rfl⟩) hS (fun q _ h => hFc q h) hFc (fun r13 u t H1 locs ht hvm hw hB hz1 hk1 hS => ?_)
      have c14 := hw
      obtain ⟨hP, hD⟩ := wd_post hFc ht hB
      generalize H1 = H at hP hS ⊢
      obtain rfl : f_X2_lifeUnder S r2 x2.toInt64 = r13 := c14.symm
      refine vx_ret ?_
      refine W.widen (k := 2) (n := 12) (Nat.le_of_ble_eq_true rfl) (Nat.le_of_ble_eq_true rfl) ?_
      exact W.lret (v := f_X2_lifeUnder S r2 x2.toInt64) hx hb hr (fun t ht hW9 => ⟨⟨f_X2_lifeUnder S r2 x2.toInt64, (), rfl, (by show f_X9_life S o1 x1 x2 = .ok (f_X2_lifeUnder S r2 x2.toInt64); unfold f_X9_life; rw [eB_ok c4, eB_ok c8]), wd_end hP hK hD ht hW9.alike⟩, hS.F ht⟩) hS.2.2 dX9_life_19 hlocks
def f_X9_part (S : wPS) (o1 : Nat) (x1 : Int32) (x2 : Int32) : Except String Int32 := eB (f_X9_gearAt S o1 x1) (fun r2 => if x2 < (1 : Int32) then .error "java/lang/IllegalArgumentException" else if (S.I r2 1) < x2 then .error "java/lang/IllegalArgumentException" else if ((S.I r2 1) - (S.I r2 1) / x2 * x2) = (0 : Int32) then .ok (f_X1_partOf S (S.f r2 5) x2) else .error "java/lang/IllegalArgumentException")
set_option maxRecDepth 20000 in
theorem s_X9_part_IAE : ∀ w ∈ (vx_atS RX9 114 "java/lang/IllegalArgumentException" ["java/lang/RuntimeException", "java/lang/Exception"]).filter goodWord, w ∈ wsX9_part := fun w h => List.mem_cons_of_mem _ (List.mem_append_left _ (List.mem_append_left _ (List.mem_append_right _ h)))
theorem hi_X9_part_X2 : ∀ w ∈ u_ws RX2 TX2 20, w ∈ wsX9_part := by decide +kernel
theorem hd_X9_part : yX9_part.cls = RX9 ∧ yX9_part.cls ≠ "java/lang/invoke/MethodHandle" ∧ yX9_part.cls ≠ "java/lang/invoke/VarHandle" ∧ (parseMethodDescriptor yX9_part.desc).map (fun d => d.parameters.length) = some 2 := by decide +kernel
set_option maxHeartbeats 4000000 in
set_option maxRecDepth 100000 in
theorem c_X9_part (l : Launch) (hst : l.stackTraces = false) {D : va_G} {cy : Nat → ClassId} {X : va_W} (S : wPS) (sz : Nat) (o1 : Nat) (h_o1 : isA S o1 9) (x1 : Int32) (x2 : Int32) (hW : wtB S [])  : vx_Met l yX9_part wsX9_part ({ frames := 7, cells := 2, slots := 12, locals := 103 }) (va_Pc [.ref o1, .int x1, .int x2] (fun U => U.heap.size = sz ∧ WD D cy X (fun _ => True) S U ∧ NW U ∧ TH (va_A (X ++ PL cy S) sz) U)) (va_Qi (fun r (_ : Unit) => f_X9_part S o1 x1 x2 = .ok r) (fun _ t => WD D cy X (va_A (X ++ PL cy S) sz) S t) (va_A (X ++ PL cy S) sz)) (vx_X (fun (_ : Unit) => True) (fun E _ t => f_X9_part S o1 x1 x2 = .error E ∧ E ∈ ["java/lang/IllegalArgumentException", "java/lang/IndexOutOfBoundsException"] ∧ WD D cy X (va_A (X ++ PL cy S) sz) S t) (va_A (X ++ PL cy S) sz)) 2 12 (va_A (X ++ PL cy S) sz) := by
  refine vx_ofW (cc := cX9_part) (maxL := 4) (ret := (some .int)) (by decide) rfl ?_
  intro p e s m args below meth c s₁ B hml hno hv
  obtain ⟨rfl, hsz, ⟨hP, hK, hD0⟩, hN, hTH⟩ := hv
  have hx := B.exec
  have hb := B.bytes
  have hr := B.returns
  have hts := atoms_spec (ws := wsX9_part) B.pre
  have hown : s.vm.findClass RX9 = some m.cls := findClass_of_methodNamed (x := yX9_part) B.named
  have hlocks := B.notSynchronized
  subst hsz
  have hD := hD0.self (sz := s.heap.size)
  generalize hAe : va_A (X ++ PL cy S) s.heap.size = A at hD hTH ⊢
  have hA : ∀ q : Nat, s.heap.size ≤ q → A q := fun q h => by rw [← hAe]; exact Or.inr h
  have hS : va_S A s.heap s.heap [] := va_S.rf
  have hl := lv_entry ([.ref o1, .int x1, .int x2]) (n := 4) (Nat.le_of_ble_eq_true rfl)
  rw [lg_entry_eq]
  generalize (lg_sl ([.ref o1, .int x1, .int x2]) ++ List.replicate (4 - (lg_sl ([.ref o1, .int x1, .int x2])).length) Slot.unset).toArray = ls at hl ⊢
  have hl : lv_has ls 4 [(0, .ref o1), (1, .int x1), (2, .int x2)] := hl
  refine lv_aload_n hx hb dX9_part_0 rfl (lv_at hl 0 rfl) ?_
  refine lv_iload_n hx hb dX9_part_1 rfl (lv_at hl 1 rfl) ?_
  have hFc := free_all hD hS hA
  obtain ⟨k1, gk1, hk1⟩ := wGt (cy := cy) X S h_o1.1 h_o1.2.1
  refine vx_callq (vx_runV (As := [.int x1]) (rest := []) ⟨hx, hb, hml, hown, hts⟩ (c_X9_gearAt l hst (cy := cy) (X := X) (D := D) S _ o1 h_o1 x1 (hW)) (cwV 1 hts gX9_part_X9_gearAt rfl rfl rfl hd_X9_gearAt ⟨Nat.le_of_ble_eq_true rfl, Nat.le_of_ble_eq_true rfl⟩) (pVt (va_recv hK hP (q := (RX9, TX9, 11)) (ci := 13) (q0 := k1) rfl hk1) hP hK hD hN hTH hS hFc) rfl rfl hl.1 rfl (lv_room (Nat.le_of_ble_eq_true rfl)) dX9_part_2 ⟨Nat.le_of_ble_eq_true rfl, Nat.le_of_ble_eq_true rfl⟩) hS (fun q _ h => hFc q h) hFc (fun q _ h => hFc q h) (fun E ce q9 u t H1 locs ht hvm hw hB hz1 hk1 hS hq9 hce hcl => ?_) (fun r2 u t H1 locs ht hvm hw hB hz1 hk1 hS => ?_)
  · obtain ⟨c3, hEc3, hB2⟩ := hB
    obtain ⟨hP, hD⟩ := wd_post hFc ht hB2
    exact vx_out (fun x h => (hno x h).elim) hlocks hq9 hce hcl (fun t2 ht2 hA2 => ⟨(), trivial, ⟨(by show f_X9_part S o1 x1 x2 = .error E; unfold f_X9_part; rw [eB_er c3]), (el_in (by decide) hEc3), wd_end hP hK hD ht2 hA2⟩, hS.F ht2⟩) hS.2.2 (Nat.le_of_ble_eq_true rfl) (Nat.le_of_ble_eq_true rfl)
  · obtain ⟨r2, rfl, c4, o5⟩ := hw
    obtain ⟨hP, hD⟩ := wd_post hFc ht hB
    generalize H1 = H at hP hS ⊢
    refine W.eq (g2 := F0 m 5 ls [.ref r2]) rfl ?_
    refine lv_astore_n (lv' := [(3, .ref r2), (0, .ref o1), (1, .int x1), (2, .int x2)]) hx hb dX9_part_5 rfl hl (by decide) rfl (fun ls hl => ?_)
    refine lv_iload_n hx hb dX9_part_6 rfl (lv_at hl 3 rfl) ?_
    refine lv_iconst (v := 1) hx hb dX9_part_7 (by decide) ?_
    refine lv_icmp_lt (tgt := 28) hx hb dX9_part_8 (by decide) (fun c6 => ?_) (fun c6 => ?_)
    · have c6i : x2.toInt < 1 := lt_v rfl rfl c6
      obtain ⟨sa, hsa⟩ := hTH.2.2 (RX9, 354, "there is no such period") (by decide +kernel)
      exact vx_throwSW hx hb hst (names := ["java/lang/RuntimeException", "java/lang/Exception"]) hown (by decide +kernel) (by decide +kernel) (hts (.classLink RX9 110 "java/lang/IllegalArgumentException") (by decide +kernel)) (hts (.initialized "java/lang/IllegalArgumentException") (by decide +kernel)) hsa (th_at (B := exW_X9_IAE) (fun w h => hts w (s_X9_part_IAE w h)) rfl (by simp only [exW, List.mem_append]; intro w h; simp [h]) hTH.2.1) (List.forall_mem_cons.mpr ⟨by decide +kernel, List.forall_mem_cons.mpr ⟨by decide +kernel, exW_X9_IAE_ok⟩⟩) hTH.1.1 hTH.1.2 hS (hl.1.trans hml.symm) dX9_part_28 dX9_part_31 dX9_part_32 dX9_part_35 dX9_part_38 (fun x h => (hno x h).elim) (Nat.le_of_ble_eq_true rfl) (Nat.le_of_ble_eq_true rfl) (Nat.le_of_ble_eq_true rfl) (Nat.le_of_ble_eq_true rfl) hlocks (fun t hA2 h1 h2 => ⟨(), trivial, ⟨(by show f_X9_part S o1 x1 x2 = .error "java/lang/IllegalArgumentException"; unfold f_X9_part; rw [eB_ok c4, if_pos c6]), (by decide), wd_exc hP hK hD hA2 h2⟩, exc_F hS h1 h2⟩) hS.2.2 (Nat.le_of_ble_eq_true rfl) (Nat.le_of_ble_eq_true rfl)
    · have c6i : 1 ≤ x2.toInt := nlt_v rfl rfl c6
      refine lv_iload_n hx hb dX9_part_11 rfl (lv_at hl 3 rfl) ?_
      refine lv_aload_n hx hb dX9_part_12 rfl (lv_at hl 0 rfl) ?_
      obtain ⟨k7, gk7, hk7⟩ := wGt (cy := cy) X S o5.1 o5.2.1
      have i8 := ((hW.at o5 List.not_mem_nil).to_2 o5.2.1).R1
      refine va_get (D := D) (ci := 6) (v := .int (S.I r2 1)) (C := RX2) (T := TX2) (N := 20) hx hb hts hi_X9_part_X2 hown hK hP k7 hk7 rfl 1 (by decide) (hts (.fieldLink RX9 100 "Hobhouse$Gear" "teeth" "I") (by decide +kernel)) (fun _ h9 => h9) rfl dX9_part_13 ?_
      refine lv_icmp_gt (tgt := 28) hx hb dX9_part_16 (by decide) (fun c9 => ?_) (fun c9 => ?_)
      · have c9i : (S.I r2 1).toInt < x2.toInt := lt_v rfl rfl c9
        obtain ⟨sa, hsa⟩ := hTH.2.2 (RX9, 354, "there is no such period") (by decide +kernel)
        exact vx_throwSW hx hb hst (names := ["java/lang/RuntimeException", "java/lang/Exception"]) hown (by decide +kernel) (by decide +kernel) (hts (.classLink RX9 110 "java/lang/IllegalArgumentException") (by decide +kernel)) (hts (.initialized "java/lang/IllegalArgumentException") (by decide +kernel)) hsa (th_at (B := exW_X9_IAE) (fun w h => hts w (s_X9_part_IAE w h)) rfl (by simp only [exW, List.mem_append]; intro w h; simp [h]) hTH.2.1) (List.forall_mem_cons.mpr ⟨by decide +kernel, List.forall_mem_cons.mpr ⟨by decide +kernel, exW_X9_IAE_ok⟩⟩) hTH.1.1 hTH.1.2 hS (hl.1.trans hml.symm) dX9_part_28 dX9_part_31 dX9_part_32 dX9_part_35 dX9_part_38 (fun x h => (hno x h).elim) (Nat.le_of_ble_eq_true rfl) (Nat.le_of_ble_eq_true rfl) (Nat.le_of_ble_eq_true rfl) (Nat.le_of_ble_eq_true rfl) hlocks (fun t hA2 h1 h2 => ⟨(), trivial, ⟨(by show f_X9_part S o1 x1 x2 = .error "java/lang/IllegalArgumentException"; unfold f_X9_part; rw [eB_ok c4, if_neg c6, if_pos c9]), (by decide), wd_exc hP hK hD hA2 h2⟩, exc_F hS h1 h2⟩) hS.2.2 (Nat.le_of_ble_eq_true rfl) (Nat.le_of_ble_eq_true rfl)
      · have c9i : x2.toInt ≤ (S.I r2 1).toInt := nlt_v rfl rfl c9
        refine lv_aload_n hx hb dX9_part_19 rfl (lv_at hl 0 rfl) ?_
        obtain ⟨k10, gk10, hk10⟩ := wGt (cy := cy) X S o5.1 o5.2.1
        refine va_get (D := D) (ci := 6) (v := .int (S.I r2 1)) (C := RX2) (T := TX2) (N := 20) hx hb hts hi_X9_part_X2 hown hK hP k10 hk10 rfl 1 (by decide) (hts (.fieldLink RX9 100 "Hobhouse$Gear" "teeth" "I") (by decide +kernel)) (fun _ h9 => h9) rfl dX9_part_20 ?_
        refine lv_iload_n hx hb dX9_part_23 rfl (lv_at hl 3 rfl) ?_
        refine lv_irem hx hb dX9_part_24 (nz_i (by omega)) ?_
        refine lv_if_eq (tgt := 39) hx hb dX9_part_25 (by decide) (fun c11 => ?_) (fun c11 => ?_)
        · have c11i : ((S.I r2 1) - (S.I r2 1) / x2 * x2).toInt = 0 := eq_v rfl rfl c11
          refine lv_aload_n hx hb dX9_part_39 rfl (lv_at hl 0 rfl) ?_
          have F12 := ((hW.at o5 List.not_mem_nil).to_2 o5.2.1).F5
          obtain ⟨k13, gk13, hk13⟩ := wGt (cy := cy) X S o5.1 o5.2.1
          simp only [kE, F12.1] at hk13
          refine va_get (D := D) (ci := 6) (v := .ref (S.f r2 5)) (C := RX2) (T := TX2) (N := 20) hx hb hts hi_X9_part_X2 hown hK hP k13 hk13 rfl 5 (by decide) (hts (.fieldLink RX9 339 "Hobhouse$Gear" "chart" "LHobhouse$Chart;") (by decide +kernel)) (fun _ h9 => h9) rfl dX9_part_40 ?_
          refine lv_iload_n hx hb dX9_part_43 rfl (lv_at hl 3 rfl) ?_
          have hFc := free_all hD hS hA
          obtain ⟨k14, gk14, hk14⟩ := wGt (cy := cy) X S F12.2.1 F12.2.2.1
          refine va_calli (va_runV (As := [.int x2]) (rest := []) ⟨hx, hb, hml, hown, hts⟩ (c_X1_partOf l (cy := cy) (X := X) (D := D) S _ (S.f r2 5) F12.2 x2 (hW)) (cwV 1 hts gX9_part_X1_partOf rfl rfl rfl hd_X1_partOf ⟨Nat.le_of_ble_eq_true rfl, Nat.le_of_ble_eq_true rfl⟩) (pV (va_recv hK hP (q := (RX1, TX1, 3)) (ci := 5) (q0 := k14) rfl hk14) hP hK hD hN) rfl rfl hl.1 rfl (lv_room (Nat.le_of_ble_eq_true rfl)) dX9_part_44 ⟨Nat.le_of_ble_eq_true rfl, Nat.le_of_ble_eq_true rfl⟩) hS (fun q _ h => hFc q h) hFc (fun r15 u t H1 locs ht hvm hw hB hz1 hk1 hS => ?_)
          have c16 := hw
          obtain ⟨hP, hD⟩ := wd_post hFc ht hB
          generalize H1 = H at hP hS ⊢
          obtain rfl : f_X1_partOf S (S.f r2 5) x2 = r15 := c16.symm
          refine vx_ret ?_
          refine W.widen (k := 2) (n := 12) (Nat.le_of_ble_eq_true rfl) (Nat.le_of_ble_eq_true rfl) ?_
          exact W.iret (v := f_X1_partOf S (S.f r2 5) x2) hx hb hr (fun t ht hW9 => ⟨⟨f_X1_partOf S (S.f r2 5) x2, (), rfl, (by show f_X9_part S o1 x1 x2 = .ok (f_X1_partOf S (S.f r2 5) x2); unfold f_X9_part; rw [eB_ok c4, if_neg c6, if_neg c9, if_pos c11]), wd_end hP hK hD ht hW9.alike⟩, hS.F ht⟩) hS.2.2 dX9_part_47 hlocks
        · have c11i : ¬ ((S.I r2 1) - (S.I r2 1) / x2 * x2).toInt = 0 := neq_v rfl rfl c11
          obtain ⟨sa, hsa⟩ := hTH.2.2 (RX9, 354, "there is no such period") (by decide +kernel)
          exact vx_throwSW hx hb hst (names := ["java/lang/RuntimeException", "java/lang/Exception"]) hown (by decide +kernel) (by decide +kernel) (hts (.classLink RX9 110 "java/lang/IllegalArgumentException") (by decide +kernel)) (hts (.initialized "java/lang/IllegalArgumentException") (by decide +kernel)) hsa (th_at (B := exW_X9_IAE) (fun w h => hts w (s_X9_part_IAE w h)) rfl (by simp only [exW, List.mem_append]; intro w h; simp [h]) hTH.2.1) (List.forall_mem_cons.mpr ⟨by decide +kernel, List.forall_mem_cons.mpr ⟨by decide +kernel, exW_X9_IAE_ok⟩⟩) hTH.1.1 hTH.1.2 hS (hl.1.trans hml.symm) dX9_part_28 dX9_part_31 dX9_part_32 dX9_part_35 dX9_part_38 (fun x h => (hno x h).elim) (Nat.le_of_ble_eq_true rfl) (Nat.le_of_ble_eq_true rfl) (Nat.le_of_ble_eq_true rfl) (Nat.le_of_ble_eq_true rfl) hlocks (fun t hA2 h1 h2 => ⟨(), trivial, ⟨(by show f_X9_part S o1 x1 x2 = .error "java/lang/IllegalArgumentException"; unfold f_X9_part; rw [eB_ok c4, if_neg c6, if_neg c9, if_neg c11]), (by decide), wd_exc hP hK hD hA2 h2⟩, exc_F hS h1 h2⟩) hS.2.2 (Nat.le_of_ble_eq_true rfl) (Nat.le_of_ble_eq_true rfl)
def f_X9_chart (S : wPS) (o1 : Nat) (x1 : Int32) (x2 : Int32) (x3 : Int32) : Except String (Int32 × wPS) := eB (f_X9_gearAt S o1 x1) (fun r2 => eB (f_X9_needRange x2 (0 : Int32) ((S.I r2 1) - (1 : Int32))) (fun _ => eB (f_X9_needRange x3 (-500 : Int32) (500 : Int32)) (fun _ => l2 (f_X1_tell S (S.f r2 5) x2 x3) (fun r22 S25 => .ok (r22, S25)))))
theorem hi_X9_chart_X2 : ∀ w ∈ u_ws RX2 TX2 20, w ∈ wsX9_chart := by decide +kernel
theorem hd_X9_chart : yX9_chart.cls = RX9 ∧ yX9_chart.cls ≠ "java/lang/invoke/MethodHandle" ∧ yX9_chart.cls ≠ "java/lang/invoke/VarHandle" ∧ (parseMethodDescriptor yX9_chart.desc).map (fun d => d.parameters.length) = some 3 := by decide +kernel
set_option maxHeartbeats 4000000 in
set_option maxRecDepth 100000 in
theorem c_X9_chart (l : Launch) (hst : l.stackTraces = false) {D : va_G} {cy : Nat → ClassId} {X : va_W} (S : wPS) (sz : Nat) (o1 : Nat) (h_o1 : isA S o1 9) (x1 : Int32) (x2 : Int32) (x3 : Int32) (hW : wtB S [])  : vx_Met l yX9_chart wsX9_chart ({ frames := 7, cells := 3, slots := 18, locals := 104 }) (va_Pc [.ref o1, .int x1, .int x2, .int x3] (fun U => U.heap.size = sz ∧ WD D cy X (fun _ => True) S U ∧ NW U ∧ TH (va_A (X ++ PL cy S) sz) U)) (va_Qi (fun r (u : wPS) => f_X9_chart S o1 x1 x2 x3 = .ok (r, u) ∧ stp [(1, 2), (25, 100), (26, 100)] [] [] S u) (fun u t => WD D cy X (va_A (X ++ PL cy S) sz) u t) (va_A (X ++ PL cy S) sz)) (vx_X (fun (u : wPS) => stp [(1, 2), (25, 100), (26, 100)] [] [] S u) (fun E u t => f_X9_chart S o1 x1 x2 x3 = .error E ∧ E ∈ ["java/lang/IllegalArgumentException", "java/lang/IndexOutOfBoundsException"] ∧ WD D cy X (va_A (X ++ PL cy S) sz) u t) (va_A (X ++ PL cy S) sz)) 3 18 (va_A (X ++ PL cy S) sz) := by
  refine vx_ofW (cc := cX9_chart) (maxL := 5) (ret := (some .int)) (by decide) rfl ?_
  intro p e s m args below meth c s₁ B hml hno hv
  obtain ⟨rfl, hsz, ⟨hP, hK, hD0⟩, hN, hTH⟩ := hv
  have hx := B.exec
  have hb := B.bytes
  have hr := B.returns
  have hts := atoms_spec (ws := wsX9_chart) B.pre
  have hown : s.vm.findClass RX9 = some m.cls := findClass_of_methodNamed (x := yX9_chart) B.named
  have hlocks := B.notSynchronized
  subst hsz
  have hD := hD0.self (sz := s.heap.size)
  generalize hAe : va_A (X ++ PL cy S) s.heap.size = A at hD hTH ⊢
  have hA : ∀ q : Nat, s.heap.size ≤ q → A q := fun q h => by rw [← hAe]; exact Or.inr h
  have hS : va_S A s.heap s.heap [] := va_S.rf
  have hl := lv_entry ([.ref o1, .int x1, .int x2, .int x3]) (n := 5) (Nat.le_of_ble_eq_true rfl)
  rw [lg_entry_eq]
  generalize (lg_sl ([.ref o1, .int x1, .int x2, .int x3]) ++ List.replicate (5 - (lg_sl ([.ref o1, .int x1, .int x2, .int x3])).length) Slot.unset).toArray = ls at hl ⊢
  have hl : lv_has ls 5 [(0, .ref o1), (1, .int x1), (2, .int x2), (3, .int x3)] := hl
  have t0 : stp [(1, 2), (25, 100), (26, 100)] [] [] S S := stp.rf hW
  refine lv_aload_n hx hb dX9_chart_0 rfl (lv_at hl 0 rfl) ?_
  refine lv_iload_n hx hb dX9_chart_1 rfl (lv_at hl 1 rfl) ?_
  have hFc := free_all hD hS hA
  obtain ⟨k1, gk1, hk1⟩ := wGt (cy := cy) X S h_o1.1 h_o1.2.1
  refine vx_callq (vx_runV (As := [.int x1]) (rest := []) ⟨hx, hb, hml, hown, hts⟩ (c_X9_gearAt l hst (cy := cy) (X := X) (D := D) S _ o1 h_o1 x1 (hW)) (cwV 1 hts gX9_chart_X9_gearAt rfl rfl rfl hd_X9_gearAt ⟨Nat.le_of_ble_eq_true rfl, Nat.le_of_ble_eq_true rfl⟩) (pVt (va_recv hK hP (q := (RX9, TX9, 11)) (ci := 13) (q0 := k1) rfl hk1) hP hK hD hN hTH hS hFc) rfl rfl hl.1 rfl (lv_room (Nat.le_of_ble_eq_true rfl)) dX9_chart_2 ⟨Nat.le_of_ble_eq_true rfl, Nat.le_of_ble_eq_true rfl⟩) hS (fun q _ h => hFc q h) hFc (fun q _ h => hFc q h) (fun E ce q9 u t H1 locs ht hvm hw hB hz1 hk1 hS hq9 hce hcl => ?_) (fun r2 u t H1 locs ht hvm hw hB hz1 hk1 hS => ?_)
  · obtain ⟨c3, hEc3, hB2⟩ := hB
    obtain ⟨hP, hD⟩ := wd_post hFc ht hB2
    exact vx_out (fun x h => (hno x h).elim) hlocks hq9 hce hcl (fun t2 ht2 hA2 => ⟨S, t0, ⟨(by show f_X9_chart S o1 x1 x2 x3 = .error E; unfold f_X9_chart; rw [eB_er c3]), (el_in (by decide) hEc3), wd_end hP hK hD ht2 hA2⟩, hS.F ht2⟩) hS.2.2 (Nat.le_of_ble_eq_true rfl) (Nat.le_of_ble_eq_true rfl)
  · obtain ⟨r2, rfl, c4, o5⟩ := hw
    obtain ⟨hP, hD⟩ := wd_post hFc ht hB
    generalize H1 = H at hP hS ⊢
    refine W.eq (g2 := F0 m 5 ls [.ref r2]) rfl ?_
    refine lv_astore (lv' := [(4, .ref r2), (0, .ref o1), (1, .int x1), (2, .int x2), (3, .int x3)]) hx hb dX9_chart_5 hl (by decide) rfl (fun ls hl => ?_)
    refine lv_iload_n hx hb dX9_chart_7 rfl (lv_at hl 3 rfl) ?_
    refine lv_iconst (v := 0) hx hb dX9_chart_8 (by decide) ?_
    refine lv_aload hx hb dX9_chart_9 (lv_at hl 0 rfl) ?_
    obtain ⟨k6, gk6, hk6⟩ := wGt (cy := cy) X S o5.1 o5.2.1
    have i7 := ((hW.at o5 List.not_mem_nil).to_2 o5.2.1).R1
    refine va_get (D := D) (ci := 6) (v := .int (S.I r2 1)) (C := RX2) (T := TX2) (N := 20) hx hb hts hi_X9_chart_X2 hown hK hP k6 hk6 rfl 1 (by decide) (hts (.fieldLink RX9 100 "Hobhouse$Gear" "teeth" "I") (by decide +kernel)) (fun _ h9 => h9) rfl dX9_chart_11 ?_
    refine lv_iconst (v := 1) hx hb dX9_chart_14 (by decide) ?_
    refine lv_isub hx hb dX9_chart_15 ?_
    have l32_0 : (0 : Int32).toInt = 0 := rfl
    have l32_1 : (1 : Int32).toInt = 1 := rfl
    have hFc := free_all hD hS hA
    refine vx_callv (vx_runS (As := [.int x2, .int (0 : Int32), .int ((S.I r2 1) - (1 : Int32))]) (rest := []) ⟨hx, hb, hml, hown, hts⟩ (c_X9_needRange l hst (cy := cy) (X := X) (D := D) S _ x2 (0 : Int32) ((S.I r2 1) - (1 : Int32))) (cwS 3 hts gX9_chart_X9_needRange rfl rfl rfl hd_X9_needRange ⟨Nat.le_of_ble_eq_true rfl, Nat.le_of_ble_eq_true rfl⟩) (pSt hP hK hD hN hTH hS hFc) rfl rfl hl.1 rfl (lv_room (Nat.le_of_ble_eq_true rfl)) dX9_chart_16 ⟨Nat.le_of_ble_eq_true rfl, Nat.le_of_ble_eq_true rfl⟩) hS (fun q _ h => hFc q h) hFc (fun q _ h => hFc q h) (fun E ce q9 u t H1 locs ht hvm hw hB hz1 hk1 hS hq9 hce hcl => ?_) (fun u t H1 locs ht hvm hw hB hz1 hk1 hS => ?_)
    · obtain ⟨c9, hEc9, hB2⟩ := hB
      obtain ⟨hP, hD⟩ := wd_post hFc ht hB2
      exact vx_out (fun x h => (hno x h).elim) hlocks hq9 hce hcl (fun t2 ht2 hA2 => ⟨S, t0, ⟨(by show f_X9_chart S o1 x1 x2 x3 = .error E; unfold f_X9_chart; rw [eB_ok c4, eB_er c9]), (el_in (by decide) hEc9), wd_end hP hK hD ht2 hA2⟩, hS.F ht2⟩) hS.2.2 (Nat.le_of_ble_eq_true rfl) (Nat.le_of_ble_eq_true rfl)
    · have c10 := hw
      obtain ⟨hP, hD⟩ := wd_post hFc ht hB
      generalize H1 = H at hP hS ⊢
      have i11 := nr_i c10
      have i11l := i11.1
      have i11h := i11.2
      have l12 : (0 : Int32).toInt = 0 := rfl
      refine lv_iload_n hx hb dX9_chart_19 rfl (lv_at hl 4 rfl) ?_
      refine lv_sipush (v := -500) hx hb dX9_chart_20 (by decide +kernel) ?_
      refine lv_sipush (v := 500) hx hb dX9_chart_23 (by decide +kernel) ?_
      have l32_500 : (500 : Int32).toInt = 500 := rfl
      have hFc := free_all hD hS hA
      refine vx_callv (vx_runS (As := [.int x3, .int (-500 : Int32), .int (500 : Int32)]) (rest := []) ⟨hx, hb, hml, hown, hts⟩ (c_X9_needRange l hst (cy := cy) (X := X) (D := D) S _ x3 (-500 : Int32) (500 : Int32)) (cwS 3 hts gX9_chart_X9_needRange rfl rfl rfl hd_X9_needRange ⟨Nat.le_of_ble_eq_true rfl, Nat.le_of_ble_eq_true rfl⟩) (pSt hP hK hD hN hTH hS hFc) rfl rfl hl.1 rfl (lv_room (Nat.le_of_ble_eq_true rfl)) dX9_chart_26 ⟨Nat.le_of_ble_eq_true rfl, Nat.le_of_ble_eq_true rfl⟩) hS (fun q _ h => hFc q h) hFc (fun q _ h => hFc q h) (fun E ce q9 u t H1 locs ht hvm hw hB hz1 hk1 hS hq9 hce hcl => ?_) (fun u t H1 locs ht hvm hw hB hz1 hk1 hS => ?_)
      · obtain ⟨c14, hEc14, hB2⟩ := hB
        obtain ⟨hP, hD⟩ := wd_post hFc ht hB2
        exact vx_out (fun x h => (hno x h).elim) hlocks hq9 hce hcl (fun t2 ht2 hA2 => ⟨S, t0, ⟨(by show f_X9_chart S o1 x1 x2 x3 = .error E; unfold f_X9_chart; rw [eB_ok c4, eB_ok c10, eB_er c14]), (el_in (by decide) hEc14), wd_end hP hK hD ht2 hA2⟩, hS.F ht2⟩) hS.2.2 (Nat.le_of_ble_eq_true rfl) (Nat.le_of_ble_eq_true rfl)
      · have c15 := hw
        obtain ⟨hP, hD⟩ := wd_post hFc ht hB
        generalize H1 = H at hP hS ⊢
        have i16 := nr_i c15
        have i16l := i16.1
        have i16h := i16.2
        have l17 : (-500 : Int32).toInt = -500 := rfl
        have l18 : (500 : Int32).toInt = 500 := rfl
        refine lv_aload hx hb dX9_chart_29 (lv_at hl 0 rfl) ?_
        have F19 := ((hW.at o5 List.not_mem_nil).to_2 o5.2.1).F5
        obtain ⟨k20, gk20, hk20⟩ := wGt (cy := cy) X S o5.1 o5.2.1
        simp only [kE, F19.1] at hk20
        refine va_get (D := D) (ci := 6) (v := .ref (S.f r2 5)) (C := RX2) (T := TX2) (N := 20) hx hb hts hi_X9_chart_X2 hown hK hP k20 hk20 rfl 5 (by decide) (hts (.fieldLink RX9 339 "Hobhouse$Gear" "chart" "LHobhouse$Chart;") (by decide +kernel)) (fun _ h9 => h9) rfl dX9_chart_31 ?_
        refine lv_iload_n hx hb dX9_chart_34 rfl (lv_at hl 3 rfl) ?_
        refine lv_iload_n hx hb dX9_chart_35 rfl (lv_at hl 4 rfl) ?_
        have hFc := free_all hD hS hA
        obtain ⟨k21, gk21, hk21⟩ := wGt (cy := cy) X S F19.2.1 F19.2.2.1
        refine va_calli (va_runV (As := [.int x2, .int x3]) (rest := []) ⟨hx, hb, hml, hown, hts⟩ (c_X1_tell l (cy := cy) (X := X) (D := D) S _ (S.f r2 5) F19.2 x2 x3 (hW)) (cwV 2 hts gX9_chart_X1_tell rfl rfl rfl hd_X1_tell ⟨Nat.le_of_ble_eq_true rfl, Nat.le_of_ble_eq_true rfl⟩) (pV (va_recv hK hP (q := (RX1, TX1, 3)) (ci := 5) (q0 := k21) rfl hk21) hP hK hD hN) rfl rfl hl.1 rfl (lv_room (Nat.le_of_ble_eq_true rfl)) dX9_chart_36 ⟨Nat.le_of_ble_eq_true rfl, Nat.le_of_ble_eq_true rfl⟩) hS (fun q _ h => hFc q h) hFc (fun r22 u t H1 locs ht hvm hw hB hz1 hk1 hS => ?_)
        obtain ⟨c23, w24⟩ := hw
        obtain ⟨hP, hD⟩ := wd_post hFc ht hB
        generalize H1 = H at hP hS ⊢
        obtain ⟨S25, rfl⟩ : ∃ z, z = u := ⟨_, rfl⟩
        have t26 : stp [(1, 2), (25, 100), (26, 100)] [] [] S S25 := t0.tr w24 (by decide) (fun _ q => absurd q List.not_mem_nil)
        have xe27 : ext S S25 := w24.x
        refine vx_ret ?_
        refine W.widen (k := 3) (n := 18) (Nat.le_of_ble_eq_true rfl) (Nat.le_of_ble_eq_true rfl) ?_
        exact W.iret (v := r22) hx hb hr (fun t ht hW9 => ⟨⟨r22, S25, rfl, ⟨(by show f_X9_chart S o1 x1 x2 x3 = .ok (r22, S25); unfold f_X9_chart; rw [eB_ok c4, eB_ok c10, eB_ok c15, l2_eq c23.symm]), t26⟩, wd_end hP hK hD ht hW9.alike⟩, hS.F ht⟩) hS.2.2 dX9_chart_39 hlocks
def f_X9_harden (S : wPS) (o1 : Nat) (x1 : Int32) (x2 : Int32) (x3 : Int32) : Except String (Int32 × wPS) := eB (f_X9_gearAt S o1 x1) (fun r2 => eB (f_X9_needRange x2 (1 : Int32) (99 : Int32)) (fun _ => if (f_X2_isWhole S r2) = (0 : Int32) then eB (f_X9_allowOnly (0 : Int32)) (fun _ => .error "") else if (S.I r2 13) = (0 : Int32) then eB (f_X9_allowOnly (1 : Int32)) (fun _ => l2 (f_X2_heat S r2 x2 x3) (fun r30 S33 => .ok (r30, S33))) else eB (f_X9_allowOnly (0 : Int32)) (fun _ => .error "")))
theorem hi_X9_harden_X2 : ∀ w ∈ u_ws RX2 TX2 20, w ∈ wsX9_harden := by decide +kernel
theorem hd_X9_harden : yX9_harden.cls = RX9 ∧ yX9_harden.cls ≠ "java/lang/invoke/MethodHandle" ∧ yX9_harden.cls ≠ "java/lang/invoke/VarHandle" ∧ (parseMethodDescriptor yX9_harden.desc).map (fun d => d.parameters.length) = some 3 := by decide +kernel
set_option maxHeartbeats 4000000 in
set_option maxRecDepth 100000 in
theorem c_X9_harden (l : Launch) (hst : l.stackTraces = false) {D : va_G} {cy : Nat → ClassId} {X : va_W} (S : wPS) (sz : Nat) (o1 : Nat) (h_o1 : isA S o1 9) (x1 : Int32) (x2 : Int32) (x3 : Int32) (hW : wtB S [])  : vx_Met l yX9_harden wsX9_harden ({ frames := 7, cells := 3, slots := 18, locals := 104 }) (va_Pc [.ref o1, .int x1, .int x2, .int x3] (fun U => U.heap.size = sz ∧ WD D cy X (fun _ => True) S U ∧ NW U ∧ TH (va_A (X ++ PL cy S) sz) U)) (va_Qi (fun r (u : wPS) => f_X9_harden S o1 x1 x2 x3 = .ok (r, u) ∧ stp [(2, 13), (2, 14), (2, 15)] [] [] S u) (fun u t => WD D cy X (va_A (X ++ PL cy S) sz) u t) (va_A (X ++ PL cy S) sz)) (vx_X (fun (u : wPS) => stp [(2, 13), (2, 14), (2, 15)] [] [] S u) (fun E u t => f_X9_harden S o1 x1 x2 x3 = .error E ∧ E ∈ ["java/lang/IllegalArgumentException", "java/lang/IndexOutOfBoundsException", "java/lang/UnsupportedOperationException"] ∧ WD D cy X (va_A (X ++ PL cy S) sz) u t) (va_A (X ++ PL cy S) sz)) 3 18 (va_A (X ++ PL cy S) sz) := by
  refine vx_ofW (cc := cX9_harden) (maxL := 5) (ret := (some .int)) (by decide) rfl ?_
  intro p e s m args below meth c s₁ B hml hno hv
  obtain ⟨rfl, hsz, ⟨hP, hK, hD0⟩, hN, hTH⟩ := hv
  have hx := B.exec
  have hb := B.bytes
  have hr := B.returns
  have hts := atoms_spec (ws := wsX9_harden) B.pre
  have hown : s.vm.findClass RX9 = some m.cls := findClass_of_methodNamed (x := yX9_harden) B.named
  have hlocks := B.notSynchronized
  subst hsz
  have hD := hD0.self (sz := s.heap.size)
  generalize hAe : va_A (X ++ PL cy S) s.heap.size = A at hD hTH ⊢
  have hA : ∀ q : Nat, s.heap.size ≤ q → A q := fun q h => by rw [← hAe]; exact Or.inr h
  have hS : va_S A s.heap s.heap [] := va_S.rf
  have hl := lv_entry ([.ref o1, .int x1, .int x2, .int x3]) (n := 5) (Nat.le_of_ble_eq_true rfl)
  rw [lg_entry_eq]
  generalize (lg_sl ([.ref o1, .int x1, .int x2, .int x3]) ++ List.replicate (5 - (lg_sl ([.ref o1, .int x1, .int x2, .int x3])).length) Slot.unset).toArray = ls at hl ⊢
  have hl : lv_has ls 5 [(0, .ref o1), (1, .int x1), (2, .int x2), (3, .int x3)] := hl
  have t0 : stp [(2, 13), (2, 14), (2, 15)] [] [] S S := stp.rf hW
  refine lv_aload_n hx hb dX9_harden_0 rfl (lv_at hl 0 rfl) ?_
  refine lv_iload_n hx hb dX9_harden_1 rfl (lv_at hl 1 rfl) ?_
  have hFc := free_all hD hS hA
  obtain ⟨k1, gk1, hk1⟩ := wGt (cy := cy) X S h_o1.1 h_o1.2.1
  refine vx_callq (vx_runV (As := [.int x1]) (rest := []) ⟨hx, hb, hml, hown, hts⟩ (c_X9_gearAt l hst (cy := cy) (X := X) (D := D) S _ o1 h_o1 x1 (hW)) (cwV 1 hts gX9_harden_X9_gearAt rfl rfl rfl hd_X9_gearAt ⟨Nat.le_of_ble_eq_true rfl, Nat.le_of_ble_eq_true rfl⟩) (pVt (va_recv hK hP (q := (RX9, TX9, 11)) (ci := 13) (q0 := k1) rfl hk1) hP hK hD hN hTH hS hFc) rfl rfl hl.1 rfl (lv_room (Nat.le_of_ble_eq_true rfl)) dX9_harden_2 ⟨Nat.le_of_ble_eq_true rfl, Nat.le_of_ble_eq_true rfl⟩) hS (fun q _ h => hFc q h) hFc (fun q _ h => hFc q h) (fun E ce q9 u t H1 locs ht hvm hw hB hz1 hk1 hS hq9 hce hcl => ?_) (fun r2 u t H1 locs ht hvm hw hB hz1 hk1 hS => ?_)
  · obtain ⟨c3, hEc3, hB2⟩ := hB
    obtain ⟨hP, hD⟩ := wd_post hFc ht hB2
    exact vx_out (fun x h => (hno x h).elim) hlocks hq9 hce hcl (fun t2 ht2 hA2 => ⟨S, t0, ⟨(by show f_X9_harden S o1 x1 x2 x3 = .error E; unfold f_X9_harden; rw [eB_er c3]), (el_in (by decide) hEc3), wd_end hP hK hD ht2 hA2⟩, hS.F ht2⟩) hS.2.2 (Nat.le_of_ble_eq_true rfl) (Nat.le_of_ble_eq_true rfl)
  · obtain ⟨r2, rfl, c4, o5⟩ := hw
    obtain ⟨hP, hD⟩ := wd_post hFc ht hB
    generalize H1 = H at hP hS ⊢
    refine W.eq (g2 := F0 m 5 ls [.ref r2]) rfl ?_
    refine lv_astore (lv' := [(4, .ref r2), (0, .ref o1), (1, .int x1), (2, .int x2), (3, .int x3)]) hx hb dX9_harden_5 hl (by decide) rfl (fun ls hl => ?_)
    refine lv_iload_n hx hb dX9_harden_7 rfl (lv_at hl 3 rfl) ?_
    refine lv_iconst (v := 1) hx hb dX9_harden_8 (by decide) ?_
    refine lv_bipush (v := 99) hx hb dX9_harden_9 (by decide +kernel) ?_
    have l32_1 : (1 : Int32).toInt = 1 := rfl
    have l32_99 : (99 : Int32).toInt = 99 := rfl
    have hFc := free_all hD hS hA
    refine vx_callv (vx_runS (As := [.int x2, .int (1 : Int32), .int (99 : Int32)]) (rest := []) ⟨hx, hb, hml, hown, hts⟩ (c_X9_needRange l hst (cy := cy) (X := X) (D := D) S _ x2 (1 : Int32) (99 : Int32)) (cwS 3 hts gX9_harden_X9_needRange rfl rfl rfl hd_X9_needRange ⟨Nat.le_of_ble_eq_true rfl, Nat.le_of_ble_eq_true rfl⟩) (pSt hP hK hD hN hTH hS hFc) rfl rfl hl.1 rfl (lv_room (Nat.le_of_ble_eq_true rfl)) dX9_harden_11 ⟨Nat.le_of_ble_eq_true rfl, Nat.le_of_ble_eq_true rfl⟩) hS (fun q _ h => hFc q h) hFc (fun q _ h => hFc q h) (fun E ce q9 u t H1 locs ht hvm hw hB hz1 hk1 hS hq9 hce hcl => ?_) (fun u t H1 locs ht hvm hw hB hz1 hk1 hS => ?_)
    · obtain ⟨c7, hEc7, hB2⟩ := hB
      obtain ⟨hP, hD⟩ := wd_post hFc ht hB2
      exact vx_out (fun x h => (hno x h).elim) hlocks hq9 hce hcl (fun t2 ht2 hA2 => ⟨S, t0, ⟨(by show f_X9_harden S o1 x1 x2 x3 = .error E; unfold f_X9_harden; rw [eB_ok c4, eB_er c7]), (el_in (by decide) hEc7), wd_end hP hK hD ht2 hA2⟩, hS.F ht2⟩) hS.2.2 (Nat.le_of_ble_eq_true rfl) (Nat.le_of_ble_eq_true rfl)
    · have c8 := hw
      obtain ⟨hP, hD⟩ := wd_post hFc ht hB
      generalize H1 = H at hP hS ⊢
      have i9 := nr_i c8
      have i9l := i9.1
      have i9h := i9.2
      have l10 : (1 : Int32).toInt = 1 := rfl
      have l11 : (99 : Int32).toInt = 99 := rfl
      refine lv_aload hx hb dX9_harden_14 (lv_at hl 0 rfl) ?_
      have hFc := free_all hD hS hA
      obtain ⟨k12, gk12, hk12⟩ := wGt (cy := cy) X S o5.1 o5.2.1
      refine va_calli (va_runV (As := []) (rest := []) ⟨hx, hb, hml, hown, hts⟩ (c_X2_isWhole l (cy := cy) (X := X) (D := D) S _ r2 o5) (cwV 0 hts gX9_harden_X2_isWhole rfl rfl rfl hd_X2_isWhole ⟨Nat.le_of_ble_eq_true rfl, Nat.le_of_ble_eq_true rfl⟩) (pV (va_recv hK hP (q := (RX2, TX2, 20)) (ci := 6) (q0 := k12) rfl hk12) hP hK hD hN) rfl rfl hl.1 rfl (lv_room (Nat.le_of_ble_eq_true rfl)) dX9_harden_16 ⟨Nat.le_of_ble_eq_true rfl, Nat.le_of_ble_eq_true rfl⟩) hS (fun q _ h => hFc q h) hFc (fun r13 u t H1 locs ht hvm hw hB hz1 hk1 hS => ?_)
      have c14 := hw
      obtain ⟨hP, hD⟩ := wd_post hFc ht hB
      generalize H1 = H at hP hS ⊢
      obtain rfl : f_X2_isWhole S r2 = r13 := c14.symm
      refine lv_if_eq (tgt := 34) hx hb dX9_harden_19 (by decide) (fun c15 => ?_) (fun c15 => ?_)
      · have c15i : (f_X2_isWhole S r2).toInt = 0 := eq_v rfl rfl c15
        refine lv_iconst (v := 0) hx hb dX9_harden_34 (by decide) ?_
        have l32_0 : (0 : Int32).toInt = 0 := rfl
        have hFc := free_all hD hS hA
        refine vx_callv (vx_runS (As := [.int (0 : Int32)]) (rest := []) ⟨hx, hb, hml, hown, hts⟩ (c_X9_allowOnly l hst (cy := cy) (X := X) (D := D) S _ (0 : Int32)) (cwS 1 hts gX9_harden_X9_allowOnly rfl rfl rfl hd_X9_allowOnly ⟨Nat.le_of_ble_eq_true rfl, Nat.le_of_ble_eq_true rfl⟩) (pSt hP hK hD hN hTH hS hFc) rfl rfl hl.1 rfl (lv_room (Nat.le_of_ble_eq_true rfl)) dX9_harden_35 ⟨Nat.le_of_ble_eq_true rfl, Nat.le_of_ble_eq_true rfl⟩) hS (fun q _ h => hFc q h) hFc (fun q _ h => hFc q h) (fun E ce q9 u t H1 locs ht hvm hw hB hz1 hk1 hS hq9 hce hcl => ?_) (fun u t H1 locs ht hvm hw hB hz1 hk1 hS => ?_)
        · obtain ⟨c17, hEc17, hB2⟩ := hB
          obtain ⟨hP, hD⟩ := wd_post hFc ht hB2
          exact vx_out (fun x h => (hno x h).elim) hlocks hq9 hce hcl (fun t2 ht2 hA2 => ⟨S, t0, ⟨(by show f_X9_harden S o1 x1 x2 x3 = .error E; unfold f_X9_harden; rw [eB_ok c4, eB_ok c8, if_pos c15, eB_er c17]), (el_in (by decide) hEc17), wd_end hP hK hD ht2 hA2⟩, hS.F ht2⟩) hS.2.2 (Nat.le_of_ble_eq_true rfl) (Nat.le_of_ble_eq_true rfl)
        · have c18 := hw
          obtain ⟨hP, hD⟩ := wd_post hFc ht hB
          generalize H1 = H at hP hS ⊢
          exact absurd rfl (ao_i c18)
      · have c15i : ¬ (f_X2_isWhole S r2).toInt = 0 := neq_v rfl rfl c15
        refine lv_aload hx hb dX9_harden_22 (lv_at hl 0 rfl) ?_
        obtain ⟨k19, gk19, hk19⟩ := wGt (cy := cy) X S o5.1 o5.2.1
        have i20 := ((hW.at o5 List.not_mem_nil).to_2 o5.2.1).R13
        refine va_get (D := D) (ci := 6) (v := .int (S.I r2 13)) (C := RX2) (T := TX2) (N := 20) hx hb hts hi_X9_harden_X2 hown hK hP k19 hk19 rfl 13 (by decide) (hts (.fieldLink RX9 314 "Hobhouse$Gear" "isHardened" "Z") (by decide +kernel)) (fun _ h9 => h9) rfl dX9_harden_24 ?_
        refine lv_if_ne (tgt := 34) hx hb dX9_harden_27 (by decide) (fun c21 => ?_) (fun c21 => ?_)
        · have c21i : ¬ (S.I r2 13).toInt = 0 := neq_v rfl rfl c21
          refine lv_iconst (v := 0) hx hb dX9_harden_34 (by decide) ?_
          have l32_0 : (0 : Int32).toInt = 0 := rfl
          have hFc := free_all hD hS hA
          refine vx_callv (vx_runS (As := [.int (0 : Int32)]) (rest := []) ⟨hx, hb, hml, hown, hts⟩ (c_X9_allowOnly l hst (cy := cy) (X := X) (D := D) S _ (0 : Int32)) (cwS 1 hts gX9_harden_X9_allowOnly rfl rfl rfl hd_X9_allowOnly ⟨Nat.le_of_ble_eq_true rfl, Nat.le_of_ble_eq_true rfl⟩) (pSt hP hK hD hN hTH hS hFc) rfl rfl hl.1 rfl (lv_room (Nat.le_of_ble_eq_true rfl)) dX9_harden_35 ⟨Nat.le_of_ble_eq_true rfl, Nat.le_of_ble_eq_true rfl⟩) hS (fun q _ h => hFc q h) hFc (fun q _ h => hFc q h) (fun E ce q9 u t H1 locs ht hvm hw hB hz1 hk1 hS hq9 hce hcl => ?_) (fun u t H1 locs ht hvm hw hB hz1 hk1 hS => ?_)
          · obtain ⟨c23, hEc23, hB2⟩ := hB
            obtain ⟨hP, hD⟩ := wd_post hFc ht hB2
            exact vx_out (fun x h => (hno x h).elim) hlocks hq9 hce hcl (fun t2 ht2 hA2 => ⟨S, t0, ⟨(by show f_X9_harden S o1 x1 x2 x3 = .error E; unfold f_X9_harden; rw [eB_ok c4, eB_ok c8, if_neg c15, if_neg c21, eB_er c23]), (el_in (by decide) hEc23), wd_end hP hK hD ht2 hA2⟩, hS.F ht2⟩) hS.2.2 (Nat.le_of_ble_eq_true rfl) (Nat.le_of_ble_eq_true rfl)
          · have c24 := hw
            obtain ⟨hP, hD⟩ := wd_post hFc ht hB
            generalize H1 = H at hP hS ⊢
            exact absurd rfl (ao_i c24)
        · have c21i : (S.I r2 13).toInt = 0 := eq_v rfl rfl c21
          refine lv_iconst (v := 1) hx hb dX9_harden_30 (by decide) ?_
          refine lv_goto (tgt := 35) hx hb dX9_harden_31 (by decide) ?_
          have hFc := free_all hD hS hA
          refine vx_callv (vx_runS (As := [.int (1 : Int32)]) (rest := []) ⟨hx, hb, hml, hown, hts⟩ (c_X9_allowOnly l hst (cy := cy) (X := X) (D := D) S _ (1 : Int32)) (cwS 1 hts gX9_harden_X9_allowOnly rfl rfl rfl hd_X9_allowOnly ⟨Nat.le_of_ble_eq_true rfl, Nat.le_of_ble_eq_true rfl⟩) (pSt hP hK hD hN hTH hS hFc) rfl rfl hl.1 rfl (lv_room (Nat.le_of_ble_eq_true rfl)) dX9_harden_35 ⟨Nat.le_of_ble_eq_true rfl, Nat.le_of_ble_eq_true rfl⟩) hS (fun q _ h => hFc q h) hFc (fun q _ h => hFc q h) (fun E ce q9 u t H1 locs ht hvm hw hB hz1 hk1 hS hq9 hce hcl => ?_) (fun u t H1 locs ht hvm hw hB hz1 hk1 hS => ?_)
          · obtain ⟨c26, hEc26, hB2⟩ := hB
            obtain ⟨hP, hD⟩ := wd_post hFc ht hB2
            exact vx_out (fun x h => (hno x h).elim) hlocks hq9 hce hcl (fun t2 ht2 hA2 => ⟨S, t0, ⟨(by show f_X9_harden S o1 x1 x2 x3 = .error E; unfold f_X9_harden; rw [eB_ok c4, eB_ok c8, if_neg c15, if_pos c21, eB_er c26]), (el_in (by decide) hEc26), wd_end hP hK hD ht2 hA2⟩, hS.F ht2⟩) hS.2.2 (Nat.le_of_ble_eq_true rfl) (Nat.le_of_ble_eq_true rfl)
          · have c27 := hw
            obtain ⟨hP, hD⟩ := wd_post hFc ht hB
            generalize H1 = H at hP hS ⊢
            have i28 := ao_i c27
            refine lv_aload hx hb dX9_harden_38 (lv_at hl 0 rfl) ?_
            refine lv_iload_n hx hb dX9_harden_40 rfl (lv_at hl 3 rfl) ?_
            refine lv_iload_n hx hb dX9_harden_41 rfl (lv_at hl 4 rfl) ?_
            have hFc := free_all hD hS hA
            obtain ⟨k29, gk29, hk29⟩ := wGt (cy := cy) X S o5.1 o5.2.1
            refine va_calli (va_runV (As := [.int x2, .int x3]) (rest := []) ⟨hx, hb, hml, hown, hts⟩ (c_X2_heat l (cy := cy) (X := X) (D := D) S _ r2 o5 x2 x3 (hW)) (cwV 2 hts gX9_harden_X2_heat rfl rfl rfl hd_X2_heat ⟨Nat.le_of_ble_eq_true rfl, Nat.le_of_ble_eq_true rfl⟩) (pV (va_recv hK hP (q := (RX2, TX2, 20)) (ci := 6) (q0 := k29) rfl hk29) hP hK hD hN) rfl rfl hl.1 rfl (lv_room (Nat.le_of_ble_eq_true rfl)) dX9_harden_42 ⟨Nat.le_of_ble_eq_true rfl, Nat.le_of_ble_eq_true rfl⟩) hS (fun q _ h => hFc q h) hFc (fun r30 u t H1 locs ht hvm hw hB hz1 hk1 hS => ?_)
            obtain ⟨c31, w32⟩ := hw
            obtain ⟨hP, hD⟩ := wd_post hFc ht hB
            generalize H1 = H at hP hS ⊢
            obtain ⟨S33, rfl⟩ : ∃ z, z = u := ⟨_, rfl⟩
            have t34 : stp [(2, 13), (2, 14), (2, 15)] [] [] S S33 := t0.tr w32 (by decide) (fun _ q => absurd q List.not_mem_nil)
            have xe35 : ext S S33 := w32.x
            refine vx_ret ?_
            refine W.widen (k := 3) (n := 18) (Nat.le_of_ble_eq_true rfl) (Nat.le_of_ble_eq_true rfl) ?_
            exact W.iret (v := r30) hx hb hr (fun t ht hW9 => ⟨⟨r30, S33, rfl, ⟨(by show f_X9_harden S o1 x1 x2 x3 = .ok (r30, S33); unfold f_X9_harden; rw [eB_ok c4, eB_ok c8, if_neg c15, if_pos c21, eB_ok c27, l2_eq c31.symm]), t34⟩, wd_end hP hK hD ht hW9.alike⟩, hS.F ht⟩) hS.2.2 dX9_harden_45 hlocks
def f_X9_note (S : wPS) (o1 : Nat) (x1 : Int32) (x2 : Int32) (x3 : Int32) : Except String Int32 := eB (f_X9_gearAt S o1 x1) (fun r2 => eB (f_X9_gearAt S o1 x2) (fun r7 => eB (f_X9_needRange x3 (1 : Int32) (200 : Int32)) (fun _ => eB (f_X9_needPair S r2 r7) (fun _ => .ok (if 0 ≤ ((f_X1_partOf S (S.f r2 5) x3) - (f_X1_partOf S (S.f r7 5) x3)) then ((f_X1_partOf S (S.f r2 5) x3) - (f_X1_partOf S (S.f r7 5) x3)) else 0 - ((f_X1_partOf S (S.f r2 5) x3) - (f_X1_partOf S (S.f r7 5) x3)))))))
theorem hi_X9_note_X2 : ∀ w ∈ u_ws RX2 TX2 20, w ∈ wsX9_note := by decide +kernel
theorem hd_X9_note : yX9_note.cls = RX9 ∧ yX9_note.cls ≠ "java/lang/invoke/MethodHandle" ∧ yX9_note.cls ≠ "java/lang/invoke/VarHandle" ∧ (parseMethodDescriptor yX9_note.desc).map (fun d => d.parameters.length) = some 3 := by decide +kernel
set_option maxHeartbeats 4000000 in
set_option maxRecDepth 100000 in
theorem c_X9_note (l : Launch) (hst : l.stackTraces = false) {D : va_G} {cy : Nat → ClassId} {X : va_W} (S : wPS) (sz : Nat) (o1 : Nat) (h_o1 : isA S o1 9) (x1 : Int32) (x2 : Int32) (x3 : Int32) (hW : wtB S [])  : vx_Met l yX9_note wsX9_note ({ frames := 8, cells := 4, slots := 24, locals := 123 }) (va_Pc [.ref o1, .int x1, .int x2, .int x3] (fun U => U.heap.size = sz ∧ WD D cy X (fun _ => True) S U ∧ NW U ∧ TH (va_A (X ++ PL cy S) sz) U)) (va_Qi (fun r (_ : Unit) => f_X9_note S o1 x1 x2 x3 = .ok r) (fun _ t => WD D cy X (va_A (X ++ PL cy S) sz) S t) (va_A (X ++ PL cy S) sz)) (vx_X (fun (_ : Unit) => True) (fun E _ t => f_X9_note S o1 x1 x2 x3 = .error E ∧ E ∈ ["java/lang/IllegalArgumentException", "java/lang/IndexOutOfBoundsException", "java/lang/UnsupportedOperationException"] ∧ WD D cy X (va_A (X ++ PL cy S) sz) S t) (va_A (X ++ PL cy S) sz)) 4 24 (va_A (X ++ PL cy S) sz) := by
  refine vx_ofW (cc := cX9_note) (maxL := 6) (ret := (some .int)) (by decide) rfl ?_
  intro p e s m args below meth c s₁ B hml hno hv
  obtain ⟨rfl, hsz, ⟨hP, hK, hD0⟩, hN, hTH⟩ := hv
  have hx := B.exec
  have hb := B.bytes
  have hr := B.returns
  have hts := atoms_spec (ws := wsX9_note) B.pre
  have hown : s.vm.findClass RX9 = some m.cls := findClass_of_methodNamed (x := yX9_note) B.named
  have hlocks := B.notSynchronized
  subst hsz
  have hD := hD0.self (sz := s.heap.size)
  generalize hAe : va_A (X ++ PL cy S) s.heap.size = A at hD hTH ⊢
  have hA : ∀ q : Nat, s.heap.size ≤ q → A q := fun q h => by rw [← hAe]; exact Or.inr h
  have hS : va_S A s.heap s.heap [] := va_S.rf
  have hl := lv_entry ([.ref o1, .int x1, .int x2, .int x3]) (n := 6) (Nat.le_of_ble_eq_true rfl)
  rw [lg_entry_eq]
  generalize (lg_sl ([.ref o1, .int x1, .int x2, .int x3]) ++ List.replicate (6 - (lg_sl ([.ref o1, .int x1, .int x2, .int x3])).length) Slot.unset).toArray = ls at hl ⊢
  have hl : lv_has ls 6 [(0, .ref o1), (1, .int x1), (2, .int x2), (3, .int x3)] := hl
  refine lv_aload_n hx hb dX9_note_0 rfl (lv_at hl 0 rfl) ?_
  refine lv_iload_n hx hb dX9_note_1 rfl (lv_at hl 1 rfl) ?_
  have hFc := free_all hD hS hA
  obtain ⟨k1, gk1, hk1⟩ := wGt (cy := cy) X S h_o1.1 h_o1.2.1
  refine vx_callq (vx_runV (As := [.int x1]) (rest := []) ⟨hx, hb, hml, hown, hts⟩ (c_X9_gearAt l hst (cy := cy) (X := X) (D := D) S _ o1 h_o1 x1 (hW)) (cwV 1 hts gX9_note_X9_gearAt rfl rfl rfl hd_X9_gearAt ⟨Nat.le_of_ble_eq_true rfl, Nat.le_of_ble_eq_true rfl⟩) (pVt (va_recv hK hP (q := (RX9, TX9, 11)) (ci := 13) (q0 := k1) rfl hk1) hP hK hD hN hTH hS hFc) rfl rfl hl.1 rfl (lv_room (Nat.le_of_ble_eq_true rfl)) dX9_note_2 ⟨Nat.le_of_ble_eq_true rfl, Nat.le_of_ble_eq_true rfl⟩) hS (fun q _ h => hFc q h) hFc (fun q _ h => hFc q h) (fun E ce q9 u t H1 locs ht hvm hw hB hz1 hk1 hS hq9 hce hcl => ?_) (fun r2 u t H1 locs ht hvm hw hB hz1 hk1 hS => ?_)
  · obtain ⟨c3, hEc3, hB2⟩ := hB
    obtain ⟨hP, hD⟩ := wd_post hFc ht hB2
    exact vx_out (fun x h => (hno x h).elim) hlocks hq9 hce hcl (fun t2 ht2 hA2 => ⟨(), trivial, ⟨(by show f_X9_note S o1 x1 x2 x3 = .error E; unfold f_X9_note; rw [eB_er c3]), (el_in (by decide) hEc3), wd_end hP hK hD ht2 hA2⟩, hS.F ht2⟩) hS.2.2 (Nat.le_of_ble_eq_true rfl) (Nat.le_of_ble_eq_true rfl)
  · obtain ⟨r2, rfl, c4, o5⟩ := hw
    obtain ⟨hP, hD⟩ := wd_post hFc ht hB
    generalize H1 = H at hP hS ⊢
    refine W.eq (g2 := F0 m 5 ls [.ref r2]) rfl ?_
    refine lv_astore (lv' := [(4, .ref r2), (0, .ref o1), (1, .int x1), (2, .int x2), (3, .int x3)]) hx hb dX9_note_5 hl (by decide) rfl (fun ls hl => ?_)
    refine lv_aload_n hx hb dX9_note_7 rfl (lv_at hl 1 rfl) ?_
    refine lv_iload_n hx hb dX9_note_8 rfl (lv_at hl 3 rfl) ?_
    have hFc := free_all hD hS hA
    obtain ⟨k6, gk6, hk6⟩ := wGt (cy := cy) X S h_o1.1 h_o1.2.1
    refine vx_callq (vx_runV (As := [.int x2]) (rest := []) ⟨hx, hb, hml, hown, hts⟩ (c_X9_gearAt l hst (cy := cy) (X := X) (D := D) S _ o1 h_o1 x2 (hW)) (cwV 1 hts gX9_note_X9_gearAt rfl rfl rfl hd_X9_gearAt ⟨Nat.le_of_ble_eq_true rfl, Nat.le_of_ble_eq_true rfl⟩) (pVt (va_recv hK hP (q := (RX9, TX9, 11)) (ci := 13) (q0 := k6) rfl hk6) hP hK hD hN hTH hS hFc) rfl rfl hl.1 rfl (lv_room (Nat.le_of_ble_eq_true rfl)) dX9_note_9 ⟨Nat.le_of_ble_eq_true rfl, Nat.le_of_ble_eq_true rfl⟩) hS (fun q _ h => hFc q h) hFc (fun q _ h => hFc q h) (fun E ce q9 u t H1 locs ht hvm hw hB hz1 hk1 hS hq9 hce hcl => ?_) (fun r7 u t H1 locs ht hvm hw hB hz1 hk1 hS => ?_)
    · obtain ⟨c8, hEc8, hB2⟩ := hB
      obtain ⟨hP, hD⟩ := wd_post hFc ht hB2
      exact vx_out (fun x h => (hno x h).elim) hlocks hq9 hce hcl (fun t2 ht2 hA2 => ⟨(), trivial, ⟨(by show f_X9_note S o1 x1 x2 x3 = .error E; unfold f_X9_note; rw [eB_ok c4, eB_er c8]), (el_in (by decide) hEc8), wd_end hP hK hD ht2 hA2⟩, hS.F ht2⟩) hS.2.2 (Nat.le_of_ble_eq_true rfl) (Nat.le_of_ble_eq_true rfl)
    · obtain ⟨r7, rfl, c9, o10⟩ := hw
      obtain ⟨hP, hD⟩ := wd_post hFc ht hB
      generalize H1 = H at hP hS ⊢
      refine W.eq (g2 := F0 m 12 ls [.ref r7]) rfl ?_
      refine lv_astore (lv' := [(5, .ref r7), (4, .ref r2), (0, .ref o1), (1, .int x1), (2, .int x2), (3, .int x3)]) hx hb dX9_note_12 hl (by decide) rfl (fun ls hl => ?_)
      refine lv_iload_n hx hb dX9_note_14 rfl (lv_at hl 5 rfl) ?_
      refine lv_iconst (v := 1) hx hb dX9_note_15 (by decide) ?_
      refine lv_sipush (v := 200) hx hb dX9_note_16 (by decide +kernel) ?_
      have l32_1 : (1 : Int32).toInt = 1 := rfl
      have l32_200 : (200 : Int32).toInt = 200 := rfl
      have hFc := free_all hD hS hA
      refine vx_callv (vx_runS (As := [.int x3, .int (1 : Int32), .int (200 : Int32)]) (rest := []) ⟨hx, hb, hml, hown, hts⟩ (c_X9_needRange l hst (cy := cy) (X := X) (D := D) S _ x3 (1 : Int32) (200 : Int32)) (cwS 3 hts gX9_note_X9_needRange rfl rfl rfl hd_X9_needRange ⟨Nat.le_of_ble_eq_true rfl, Nat.le_of_ble_eq_true rfl⟩) (pSt hP hK hD hN hTH hS hFc) rfl rfl hl.1 rfl (lv_room (Nat.le_of_ble_eq_true rfl)) dX9_note_19 ⟨Nat.le_of_ble_eq_true rfl, Nat.le_of_ble_eq_true rfl⟩) hS (fun q _ h => hFc q h) hFc (fun q _ h => hFc q h) (fun E ce q9 u t H1 locs ht hvm hw hB hz1 hk1 hS hq9 hce hcl => ?_) (fun u t H1 locs ht hvm hw hB hz1 hk1 hS => ?_)
      · obtain ⟨c12, hEc12, hB2⟩ := hB
        obtain ⟨hP, hD⟩ := wd_post hFc ht hB2
        exact vx_out (fun x h => (hno x h).elim) hlocks hq9 hce hcl (fun t2 ht2 hA2 => ⟨(), trivial, ⟨(by show f_X9_note S o1 x1 x2 x3 = .error E; unfold f_X9_note; rw [eB_ok c4, eB_ok c9, eB_er c12]), (el_in (by decide) hEc12), wd_end hP hK hD ht2 hA2⟩, hS.F ht2⟩) hS.2.2 (Nat.le_of_ble_eq_true rfl) (Nat.le_of_ble_eq_true rfl)
      · have c13 := hw
        obtain ⟨hP, hD⟩ := wd_post hFc ht hB
        generalize H1 = H at hP hS ⊢
        have i14 := nr_i c13
        have i14l := i14.1
        have i14h := i14.2
        have l15 : (1 : Int32).toInt = 1 := rfl
        have l16 : (200 : Int32).toInt = 200 := rfl
        refine lv_aload hx hb dX9_note_22 (lv_at hl 1 rfl) ?_
        refine lv_aload hx hb dX9_note_24 (lv_at hl 0 rfl) ?_
        have hFc := free_all hD hS hA
        refine vx_callv (vx_runS (As := [.ref r2, .ref r7]) (rest := []) ⟨hx, hb, hml, hown, hts⟩ (c_X9_needPair l hst (cy := cy) (X := X) (D := D) S _ r2 o5 r7 o10) (cwS 2 hts gX9_note_X9_needPair rfl rfl rfl hd_X9_needPair ⟨Nat.le_of_ble_eq_true rfl, Nat.le_of_ble_eq_true rfl⟩) (pSt hP hK hD hN hTH hS hFc) rfl rfl hl.1 rfl (lv_room (Nat.le_of_ble_eq_true rfl)) dX9_note_26 ⟨Nat.le_of_ble_eq_true rfl, Nat.le_of_ble_eq_true rfl⟩) hS (fun q _ h => hFc q h) hFc (fun q _ h => hFc q h) (fun E ce q9 u t H1 locs ht hvm hw hB hz1 hk1 hS hq9 hce hcl => ?_) (fun u t H1 locs ht hvm hw hB hz1 hk1 hS => ?_)
        · obtain ⟨c18, hEc18, hB2⟩ := hB
          obtain ⟨hP, hD⟩ := wd_post hFc ht hB2
          exact vx_out (fun x h => (hno x h).elim) hlocks hq9 hce hcl (fun t2 ht2 hA2 => ⟨(), trivial, ⟨(by show f_X9_note S o1 x1 x2 x3 = .error E; unfold f_X9_note; rw [eB_ok c4, eB_ok c9, eB_ok c13, eB_er c18]), (el_in (by decide) hEc18), wd_end hP hK hD ht2 hA2⟩, hS.F ht2⟩) hS.2.2 (Nat.le_of_ble_eq_true rfl) (Nat.le_of_ble_eq_true rfl)
        · have c19 := hw
          obtain ⟨hP, hD⟩ := wd_post hFc ht hB
          generalize H1 = H at hP hS ⊢
          refine lv_aload hx hb dX9_note_29 (lv_at hl 1 rfl) ?_
          have F20 := ((hW.at o5 List.not_mem_nil).to_2 o5.2.1).F5
          obtain ⟨k21, gk21, hk21⟩ := wGt (cy := cy) X S o5.1 o5.2.1
          simp only [kE, F20.1] at hk21
          refine va_get (D := D) (ci := 6) (v := .ref (S.f r2 5)) (C := RX2) (T := TX2) (N := 20) hx hb hts hi_X9_note_X2 hown hK hP k21 hk21 rfl 5 (by decide) (hts (.fieldLink RX9 339 "Hobhouse$Gear" "chart" "LHobhouse$Chart;") (by decide +kernel)) (fun _ h9 => h9) rfl dX9_note_31 ?_
          refine lv_iload_n hx hb dX9_note_34 rfl (lv_at hl 5 rfl) ?_
          have hFc := free_all hD hS hA
          obtain ⟨k22, gk22, hk22⟩ := wGt (cy := cy) X S F20.2.1 F20.2.2.1
          refine va_calli (va_runV (As := [.int x3]) (rest := []) ⟨hx, hb, hml, hown, hts⟩ (c_X1_partOf l (cy := cy) (X := X) (D := D) S _ (S.f r2 5) F20.2 x3 (hW)) (cwV 1 hts gX9_note_X1_partOf rfl rfl rfl hd_X1_partOf ⟨Nat.le_of_ble_eq_true rfl, Nat.le_of_ble_eq_true rfl⟩) (pV (va_recv hK hP (q := (RX1, TX1, 3)) (ci := 5) (q0 := k22) rfl hk22) hP hK hD hN) rfl rfl hl.1 rfl (lv_room (Nat.le_of_ble_eq_true rfl)) dX9_note_35 ⟨Nat.le_of_ble_eq_true rfl, Nat.le_of_ble_eq_true rfl⟩) hS (fun q _ h => hFc q h) hFc (fun r23 u t H1 locs ht hvm hw hB hz1 hk1 hS => ?_)
          have c24 := hw
          obtain ⟨hP, hD⟩ := wd_post hFc ht hB
          generalize H1 = H at hP hS ⊢
          obtain rfl : f_X1_partOf S (S.f r2 5) x3 = r23 := c24.symm
          refine lv_aload hx hb dX9_note_38 (lv_at hl 0 rfl) ?_
          have F25 := ((hW.at o10 List.not_mem_nil).to_2 o10.2.1).F5
          obtain ⟨k26, gk26, hk26⟩ := wGt (cy := cy) X S o10.1 o10.2.1
          simp only [kE, F25.1] at hk26
          refine va_get (D := D) (ci := 6) (v := .ref (S.f r7 5)) (C := RX2) (T := TX2) (N := 20) hx hb hts hi_X9_note_X2 hown hK hP k26 hk26 rfl 5 (by decide) (hts (.fieldLink RX9 339 "Hobhouse$Gear" "chart" "LHobhouse$Chart;") (by decide +kernel)) (fun _ h9 => h9) rfl dX9_note_40 ?_
          refine lv_iload_n hx hb dX9_note_43 rfl (lv_at hl 5 rfl) ?_
          have hFc := free_all hD hS hA
          obtain ⟨k27, gk27, hk27⟩ := wGt (cy := cy) X S F25.2.1 F25.2.2.1
          refine va_calli (va_runV (As := [.int x3]) (rest := [.int (f_X1_partOf S (S.f r2 5) x3)]) ⟨hx, hb, hml, hown, hts⟩ (c_X1_partOf l (cy := cy) (X := X) (D := D) S _ (S.f r7 5) F25.2 x3 (hW)) (cwV 1 hts gX9_note_X1_partOf rfl rfl rfl hd_X1_partOf ⟨Nat.le_of_ble_eq_true rfl, Nat.le_of_ble_eq_true rfl⟩) (pV (va_recv hK hP (q := (RX1, TX1, 3)) (ci := 5) (q0 := k27) rfl hk27) hP hK hD hN) rfl rfl hl.1 rfl (lv_room (Nat.le_of_ble_eq_true rfl)) dX9_note_44 ⟨Nat.le_of_ble_eq_true rfl, Nat.le_of_ble_eq_true rfl⟩) hS (fun q _ h => hFc q h) hFc (fun r28 u t H1 locs ht hvm hw hB hz1 hk1 hS => ?_)
          have c29 := hw
          obtain ⟨hP, hD⟩ := wd_post hFc ht hB
          generalize H1 = H at hP hS ⊢
          obtain rfl : f_X1_partOf S (S.f r7 5) x3 = r28 := c29.symm
          refine lv_isub hx hb dX9_note_47 ?_
          refine va_mabs hx hb (hml.trans hl.1.symm) hown (hts (.methodLink RX9 188 Lib.Math.abs.name) (by decide +kernel)) (hts (.static Lib.Math.abs.name) (by decide +kernel)) (hts (.initialized "java/lang/Math") (by decide +kernel)) (hts (.code Lib.Math.abs.name Lib.Math.abs.code 1 (some .int)) (by decide +kernel)) (Nat.le_of_ble_eq_true rfl) (Nat.le_of_ble_eq_true rfl) (Nat.le_of_ble_eq_true rfl) (Nat.le_of_ble_eq_true rfl) dX9_note_48 ?_
          refine vx_ret ?_
          refine W.widen (k := 4) (n := 24) (Nat.le_of_ble_eq_true rfl) (Nat.le_of_ble_eq_true rfl) ?_
          exact W.iret (v := (if 0 ≤ ((f_X1_partOf S (S.f r2 5) x3) - (f_X1_partOf S (S.f r7 5) x3)) then ((f_X1_partOf S (S.f r2 5) x3) - (f_X1_partOf S (S.f r7 5) x3)) else 0 - ((f_X1_partOf S (S.f r2 5) x3) - (f_X1_partOf S (S.f r7 5) x3)))) hx hb hr (fun t ht hW9 => ⟨⟨(if 0 ≤ ((f_X1_partOf S (S.f r2 5) x3) - (f_X1_partOf S (S.f r7 5) x3)) then ((f_X1_partOf S (S.f r2 5) x3) - (f_X1_partOf S (S.f r7 5) x3)) else 0 - ((f_X1_partOf S (S.f r2 5) x3) - (f_X1_partOf S (S.f r7 5) x3))), (), rfl, (by show f_X9_note S o1 x1 x2 x3 = .ok (if 0 ≤ ((f_X1_partOf S (S.f r2 5) x3) - (f_X1_partOf S (S.f r7 5) x3)) then ((f_X1_partOf S (S.f r2 5) x3) - (f_X1_partOf S (S.f r7 5) x3)) else 0 - ((f_X1_partOf S (S.f r2 5) x3) - (f_X1_partOf S (S.f r7 5) x3))); unfold f_X9_note; rw [eB_ok c4, eB_ok c9, eB_ok c13, eB_ok c19]), wd_end hP hK hD ht hW9.alike⟩, hS.F ht⟩) hS.2.2 dX9_note_51 hlocks
def f_X9_balance (S : wPS) (o1 : Nat) (x1 : Int32) (x2 : Int32) : Except String (Int32 × wPS) := eB (f_X9_gearAt S o1 x1) (fun r2 => eB (f_X9_gearAt S o1 x2) (fun r7 => eB (f_X9_needPair S r2 r7) (fun _ => if (S.I r2 9) = (0 : Int32) then if (S.I r7 9) = (0 : Int32) then eB (f_X9_allowOnly (1 : Int32)) (fun _ => if (f_X9_balancedShift S r2 r7) ≤ (50 : Int32) then l1 (S.sI r2 7 (f_X9_balancedShift S r2 r7)) (fun S34 => l1 (S34.sI r7 7 (-(f_X9_balancedShift S r2 r7))) (fun S38 => .ok (f_X9_balancedShift S r2 r7, S38))) else .error "java/util/NoSuchElementException") else eB (f_X9_allowOnly (0 : Int32)) (fun _ => .error "") else eB (f_X9_allowOnly (0 : Int32)) (fun _ => .error ""))))
set_option maxRecDepth 20000 in
theorem s_X9_balance_NSEE : ∀ w ∈ (vx_atI RX9 154 "java/util/NoSuchElementException" ["java/lang/RuntimeException", "java/lang/Exception"]).filter goodWord, w ∈ wsX9_balance := fun w h => List.mem_cons_of_mem _ (List.mem_append_left _ (List.mem_append_left _ (List.mem_append_right _ h)))
theorem hi_X9_balance_X2 : ∀ w ∈ u_ws RX2 TX2 20, w ∈ wsX9_balance := by decide +kernel
theorem hd_X9_balance : yX9_balance.cls = RX9 ∧ yX9_balance.cls ≠ "java/lang/invoke/MethodHandle" ∧ yX9_balance.cls ≠ "java/lang/invoke/VarHandle" ∧ (parseMethodDescriptor yX9_balance.desc).map (fun d => d.parameters.length) = some 2 := by decide +kernel
set_option maxHeartbeats 4000000 in
set_option maxRecDepth 100000 in
theorem c_X9_balance (l : Launch) (hst : l.stackTraces = false) {D : va_G} {cy : Nat → ClassId} {X : va_W} (S : wPS) (sz : Nat) (o1 : Nat) (h_o1 : isA S o1 9) (x1 : Int32) (x2 : Int32) (hW : wtB S [])  : vx_Met l yX9_balance wsX9_balance ({ frames := 8, cells := 5, slots := 30, locals := 123 }) (va_Pc [.ref o1, .int x1, .int x2] (fun U => U.heap.size = sz ∧ WD D cy X (fun _ => True) S U ∧ NW U ∧ TH (va_A (X ++ PL cy S) sz) U)) (va_Qi (fun r (u : wPS) => f_X9_balance S o1 x1 x2 = .ok (r, u) ∧ stp [(2, 7)] [] [] S u) (fun u t => WD D cy X (va_A (X ++ PL cy S) sz) u t) (va_A (X ++ PL cy S) sz)) (vx_X (fun (u : wPS) => stp [(2, 7)] [] [] S u) (fun E u t => f_X9_balance S o1 x1 x2 = .error E ∧ E ∈ ["java/lang/IndexOutOfBoundsException", "java/lang/UnsupportedOperationException", "java/util/NoSuchElementException"] ∧ WD D cy X (va_A (X ++ PL cy S) sz) u t) (va_A (X ++ PL cy S) sz)) 5 30 (va_A (X ++ PL cy S) sz) := by
  refine vx_ofW (cc := cX9_balance) (maxL := 6) (ret := (some .int)) (by decide) rfl ?_
  intro p e s m args below meth c s₁ B hml hno hv
  obtain ⟨rfl, hsz, ⟨hP, hK, hD0⟩, hN, hTH⟩ := hv
  have hx := B.exec
  have hb := B.bytes
  have hr := B.returns
  have hts := atoms_spec (ws := wsX9_balance) B.pre
  have hown : s.vm.findClass RX9 = some m.cls := findClass_of_methodNamed (x := yX9_balance) B.named
  have hlocks := B.notSynchronized
  subst hsz
  have hD := hD0.self (sz := s.heap.size)
  generalize hAe : va_A (X ++ PL cy S) s.heap.size = A at hD hTH ⊢
  have hA : ∀ q : Nat, s.heap.size ≤ q → A q := fun q h => by rw [← hAe]; exact Or.inr h
  have hS : va_S A s.heap s.heap [] := va_S.rf
  have hl := lv_entry ([.ref o1, .int x1, .int x2]) (n := 6) (Nat.le_of_ble_eq_true rfl)
  rw [lg_entry_eq]
  generalize (lg_sl ([.ref o1, .int x1, .int x2]) ++ List.replicate (6 - (lg_sl ([.ref o1, .int x1, .int x2])).length) Slot.unset).toArray = ls at hl ⊢
  have hl : lv_has ls 6 [(0, .ref o1), (1, .int x1), (2, .int x2)] := hl
  have t0 : stp [(2, 7)] [] [] S S := stp.rf hW
  refine lv_aload_n hx hb dX9_balance_0 rfl (lv_at hl 0 rfl) ?_
  refine lv_iload_n hx hb dX9_balance_1 rfl (lv_at hl 1 rfl) ?_
  have hFc := free_all hD hS hA
  obtain ⟨k1, gk1, hk1⟩ := wGt (cy := cy) X S h_o1.1 h_o1.2.1
  refine vx_callq (vx_runV (As := [.int x1]) (rest := []) ⟨hx, hb, hml, hown, hts⟩ (c_X9_gearAt l hst (cy := cy) (X := X) (D := D) S _ o1 h_o1 x1 (hW)) (cwV 1 hts gX9_balance_X9_gearAt rfl rfl rfl hd_X9_gearAt ⟨Nat.le_of_ble_eq_true rfl, Nat.le_of_ble_eq_true rfl⟩) (pVt (va_recv hK hP (q := (RX9, TX9, 11)) (ci := 13) (q0 := k1) rfl hk1) hP hK hD hN hTH hS hFc) rfl rfl hl.1 rfl (lv_room (Nat.le_of_ble_eq_true rfl)) dX9_balance_2 ⟨Nat.le_of_ble_eq_true rfl, Nat.le_of_ble_eq_true rfl⟩) hS (fun q _ h => hFc q h) hFc (fun q _ h => hFc q h) (fun E ce q9 u t H1 locs ht hvm hw hB hz1 hk1 hS hq9 hce hcl => ?_) (fun r2 u t H1 locs ht hvm hw hB hz1 hk1 hS => ?_)
  · obtain ⟨c3, hEc3, hB2⟩ := hB
    obtain ⟨hP, hD⟩ := wd_post hFc ht hB2
    exact vx_out (fun x h => (hno x h).elim) hlocks hq9 hce hcl (fun t2 ht2 hA2 => ⟨S, t0, ⟨(by show f_X9_balance S o1 x1 x2 = .error E; unfold f_X9_balance; rw [eB_er c3]), (el_in (by decide) hEc3), wd_end hP hK hD ht2 hA2⟩, hS.F ht2⟩) hS.2.2 (Nat.le_of_ble_eq_true rfl) (Nat.le_of_ble_eq_true rfl)
  · obtain ⟨r2, rfl, c4, o5⟩ := hw
    obtain ⟨hP, hD⟩ := wd_post hFc ht hB
    generalize H1 = H at hP hS ⊢
    refine W.eq (g2 := F0 m 5 ls [.ref r2]) rfl ?_
    refine lv_astore_n (lv' := [(3, .ref r2), (0, .ref o1), (1, .int x1), (2, .int x2)]) hx hb dX9_balance_5 rfl hl (by decide) rfl (fun ls hl => ?_)
    refine lv_aload_n hx hb dX9_balance_6 rfl (lv_at hl 1 rfl) ?_
    refine lv_iload_n hx hb dX9_balance_7 rfl (lv_at hl 3 rfl) ?_
    have hFc := free_all hD hS hA
    obtain ⟨k6, gk6, hk6⟩ := wGt (cy := cy) X S h_o1.1 h_o1.2.1
    refine vx_callq (vx_runV (As := [.int x2]) (rest := []) ⟨hx, hb, hml, hown, hts⟩ (c_X9_gearAt l hst (cy := cy) (X := X) (D := D) S _ o1 h_o1 x2 (hW)) (cwV 1 hts gX9_balance_X9_gearAt rfl rfl rfl hd_X9_gearAt ⟨Nat.le_of_ble_eq_true rfl, Nat.le_of_ble_eq_true rfl⟩) (pVt (va_recv hK hP (q := (RX9, TX9, 11)) (ci := 13) (q0 := k6) rfl hk6) hP hK hD hN hTH hS hFc) rfl rfl hl.1 rfl (lv_room (Nat.le_of_ble_eq_true rfl)) dX9_balance_8 ⟨Nat.le_of_ble_eq_true rfl, Nat.le_of_ble_eq_true rfl⟩) hS (fun q _ h => hFc q h) hFc (fun q _ h => hFc q h) (fun E ce q9 u t H1 locs ht hvm hw hB hz1 hk1 hS hq9 hce hcl => ?_) (fun r7 u t H1 locs ht hvm hw hB hz1 hk1 hS => ?_)
    · obtain ⟨c8, hEc8, hB2⟩ := hB
      obtain ⟨hP, hD⟩ := wd_post hFc ht hB2
      exact vx_out (fun x h => (hno x h).elim) hlocks hq9 hce hcl (fun t2 ht2 hA2 => ⟨S, t0, ⟨(by show f_X9_balance S o1 x1 x2 = .error E; unfold f_X9_balance; rw [eB_ok c4, eB_er c8]), (el_in (by decide) hEc8), wd_end hP hK hD ht2 hA2⟩, hS.F ht2⟩) hS.2.2 (Nat.le_of_ble_eq_true rfl) (Nat.le_of_ble_eq_true rfl)
    · obtain ⟨r7, rfl, c9, o10⟩ := hw
      obtain ⟨hP, hD⟩ := wd_post hFc ht hB
      generalize H1 = H at hP hS ⊢
      refine W.eq (g2 := F0 m 11 ls [.ref r7]) rfl ?_
      refine lv_astore (lv' := [(4, .ref r7), (3, .ref r2), (0, .ref o1), (1, .int x1), (2, .int x2)]) hx hb dX9_balance_11 hl (by decide) rfl (fun ls hl => ?_)
      refine lv_aload_n hx hb dX9_balance_13 rfl (lv_at hl 1 rfl) ?_
      refine lv_aload hx hb dX9_balance_14 (lv_at hl 0 rfl) ?_
      have hFc := free_all hD hS hA
      refine vx_callv (vx_runS (As := [.ref r2, .ref r7]) (rest := []) ⟨hx, hb, hml, hown, hts⟩ (c_X9_needPair l hst (cy := cy) (X := X) (D := D) S _ r2 o5 r7 o10) (cwS 2 hts gX9_balance_X9_needPair rfl rfl rfl hd_X9_needPair ⟨Nat.le_of_ble_eq_true rfl, Nat.le_of_ble_eq_true rfl⟩) (pSt hP hK hD hN hTH hS hFc) rfl rfl hl.1 rfl (lv_room (Nat.le_of_ble_eq_true rfl)) dX9_balance_16 ⟨Nat.le_of_ble_eq_true rfl, Nat.le_of_ble_eq_true rfl⟩) hS (fun q _ h => hFc q h) hFc (fun q _ h => hFc q h) (fun E ce q9 u t H1 locs ht hvm hw hB hz1 hk1 hS hq9 hce hcl => ?_) (fun u t H1 locs ht hvm hw hB hz1 hk1 hS => ?_)
      · obtain ⟨c12, hEc12, hB2⟩ := hB
        obtain ⟨hP, hD⟩ := wd_post hFc ht hB2
        exact vx_out (fun x h => (hno x h).elim) hlocks hq9 hce hcl (fun t2 ht2 hA2 => ⟨S, t0, ⟨(by show f_X9_balance S o1 x1 x2 = .error E; unfold f_X9_balance; rw [eB_ok c4, eB_ok c9, eB_er c12]), (el_in (by decide) hEc12), wd_end hP hK hD ht2 hA2⟩, hS.F ht2⟩) hS.2.2 (Nat.le_of_ble_eq_true rfl) (Nat.le_of_ble_eq_true rfl)
      · have c13 := hw
        obtain ⟨hP, hD⟩ := wd_post hFc ht hB
        generalize H1 = H at hP hS ⊢
        refine lv_aload_n hx hb dX9_balance_19 rfl (lv_at hl 1 rfl) ?_
        obtain ⟨k14, gk14, hk14⟩ := wGt (cy := cy) X S o5.1 o5.2.1
        have i15 := ((hW.at o5 List.not_mem_nil).to_2 o5.2.1).R9
        refine va_get (D := D) (ci := 6) (v := .int (S.I r2 9)) (C := RX2) (T := TX2) (N := 20) hx hb hts hi_X9_balance_X2 hown hK hP k14 hk14 rfl 9 (by decide) (hts (.fieldLink RX9 81 "Hobhouse$Gear" "isCut" "Z") (by decide +kernel)) (fun _ h9 => h9) rfl dX9_balance_20 ?_
        refine lv_if_ne (tgt := 38) hx hb dX9_balance_23 (by decide) (fun c16 => ?_) (fun c16 => ?_)
        · have c16i : ¬ (S.I r2 9).toInt = 0 := neq_v rfl rfl c16
          refine lv_iconst (v := 0) hx hb dX9_balance_38 (by decide) ?_
          have l32_0 : (0 : Int32).toInt = 0 := rfl
          have hFc := free_all hD hS hA
          refine vx_callv (vx_runS (As := [.int (0 : Int32)]) (rest := []) ⟨hx, hb, hml, hown, hts⟩ (c_X9_allowOnly l hst (cy := cy) (X := X) (D := D) S _ (0 : Int32)) (cwS 1 hts gX9_balance_X9_allowOnly rfl rfl rfl hd_X9_allowOnly ⟨Nat.le_of_ble_eq_true rfl, Nat.le_of_ble_eq_true rfl⟩) (pSt hP hK hD hN hTH hS hFc) rfl rfl hl.1 rfl (lv_room (Nat.le_of_ble_eq_true rfl)) dX9_balance_39 ⟨Nat.le_of_ble_eq_true rfl, Nat.le_of_ble_eq_true rfl⟩) hS (fun q _ h => hFc q h) hFc (fun q _ h => hFc q h) (fun E ce q9 u t H1 locs ht hvm hw hB hz1 hk1 hS hq9 hce hcl => ?_) (fun u t H1 locs ht hvm hw hB hz1 hk1 hS => ?_)
          · obtain ⟨c18, hEc18, hB2⟩ := hB
            obtain ⟨hP, hD⟩ := wd_post hFc ht hB2
            exact vx_out (fun x h => (hno x h).elim) hlocks hq9 hce hcl (fun t2 ht2 hA2 => ⟨S, t0, ⟨(by show f_X9_balance S o1 x1 x2 = .error E; unfold f_X9_balance; rw [eB_ok c4, eB_ok c9, eB_ok c13, if_neg c16, eB_er c18]), (el_in (by decide) hEc18), wd_end hP hK hD ht2 hA2⟩, hS.F ht2⟩) hS.2.2 (Nat.le_of_ble_eq_true rfl) (Nat.le_of_ble_eq_true rfl)
          · have c19 := hw
            obtain ⟨hP, hD⟩ := wd_post hFc ht hB
            generalize H1 = H at hP hS ⊢
            exact absurd rfl (ao_i c19)
        · have c16i : (S.I r2 9).toInt = 0 := eq_v rfl rfl c16
          refine lv_aload hx hb dX9_balance_26 (lv_at hl 0 rfl) ?_
          obtain ⟨k20, gk20, hk20⟩ := wGt (cy := cy) X S o10.1 o10.2.1
          have i21 := ((hW.at o10 List.not_mem_nil).to_2 o10.2.1).R9
          refine va_get (D := D) (ci := 6) (v := .int (S.I r7 9)) (C := RX2) (T := TX2) (N := 20) hx hb hts hi_X9_balance_X2 hown hK hP k20 hk20 rfl 9 (by decide) (hts (.fieldLink RX9 81 "Hobhouse$Gear" "isCut" "Z") (by decide +kernel)) (fun _ h9 => h9) rfl dX9_balance_28 ?_
          refine lv_if_ne (tgt := 38) hx hb dX9_balance_31 (by decide) (fun c22 => ?_) (fun c22 => ?_)
          · have c22i : ¬ (S.I r7 9).toInt = 0 := neq_v rfl rfl c22
            refine lv_iconst (v := 0) hx hb dX9_balance_38 (by decide) ?_
            have l32_0 : (0 : Int32).toInt = 0 := rfl
            have hFc := free_all hD hS hA
            refine vx_callv (vx_runS (As := [.int (0 : Int32)]) (rest := []) ⟨hx, hb, hml, hown, hts⟩ (c_X9_allowOnly l hst (cy := cy) (X := X) (D := D) S _ (0 : Int32)) (cwS 1 hts gX9_balance_X9_allowOnly rfl rfl rfl hd_X9_allowOnly ⟨Nat.le_of_ble_eq_true rfl, Nat.le_of_ble_eq_true rfl⟩) (pSt hP hK hD hN hTH hS hFc) rfl rfl hl.1 rfl (lv_room (Nat.le_of_ble_eq_true rfl)) dX9_balance_39 ⟨Nat.le_of_ble_eq_true rfl, Nat.le_of_ble_eq_true rfl⟩) hS (fun q _ h => hFc q h) hFc (fun q _ h => hFc q h) (fun E ce q9 u t H1 locs ht hvm hw hB hz1 hk1 hS hq9 hce hcl => ?_) (fun u t H1 locs ht hvm hw hB hz1 hk1 hS => ?_)
            · obtain ⟨c24, hEc24, hB2⟩ := hB
              obtain ⟨hP, hD⟩ := wd_post hFc ht hB2
              exact vx_out (fun x h => (hno x h).elim) hlocks hq9 hce hcl (fun t2 ht2 hA2 => ⟨S, t0, ⟨(by show f_X9_balance S o1 x1 x2 = .error E; unfold f_X9_balance; rw [eB_ok c4, eB_ok c9, eB_ok c13, if_pos c16, if_neg c22, eB_er c24]), (el_in (by decide) hEc24), wd_end hP hK hD ht2 hA2⟩, hS.F ht2⟩) hS.2.2 (Nat.le_of_ble_eq_true rfl) (Nat.le_of_ble_eq_true rfl)
            · have c25 := hw
              obtain ⟨hP, hD⟩ := wd_post hFc ht hB
              generalize H1 = H at hP hS ⊢
              exact absurd rfl (ao_i c25)
          · have c22i : (S.I r7 9).toInt = 0 := eq_v rfl rfl c22
            refine lv_iconst (v := 1) hx hb dX9_balance_34 (by decide) ?_
            refine lv_goto (tgt := 39) hx hb dX9_balance_35 (by decide) ?_
            have l32_1 : (1 : Int32).toInt = 1 := rfl
            have hFc := free_all hD hS hA
            refine vx_callv (vx_runS (As := [.int (1 : Int32)]) (rest := []) ⟨hx, hb, hml, hown, hts⟩ (c_X9_allowOnly l hst (cy := cy) (X := X) (D := D) S _ (1 : Int32)) (cwS 1 hts gX9_balance_X9_allowOnly rfl rfl rfl hd_X9_allowOnly ⟨Nat.le_of_ble_eq_true rfl, Nat.le_of_ble_eq_true rfl⟩) (pSt hP hK hD hN hTH hS hFc) rfl rfl hl.1 rfl (lv_room (Nat.le_of_ble_eq_true rfl)) dX9_balance_39 ⟨Nat.le_of_ble_eq_true rfl, Nat.le_of_ble_eq_true rfl⟩) hS (fun q _ h => hFc q h) hFc (fun q _ h => hFc q h) (fun E ce q9 u t H1 locs ht hvm hw hB hz1 hk1 hS hq9 hce hcl => ?_) (fun u t H1 locs ht hvm hw hB hz1 hk1 hS => ?_)
            · obtain ⟨c27, hEc27, hB2⟩ := hB
              obtain ⟨hP, hD⟩ := wd_post hFc ht hB2
              exact vx_out (fun x h => (hno x h).elim) hlocks hq9 hce hcl (fun t2 ht2 hA2 => ⟨S, t0, ⟨(by show f_X9_balance S o1 x1 x2 = .error E; unfold f_X9_balance; rw [eB_ok c4, eB_ok c9, eB_ok c13, if_pos c16, if_pos c22, eB_er c27]), (el_in (by decide) hEc27), wd_end hP hK hD ht2 hA2⟩, hS.F ht2⟩) hS.2.2 (Nat.le_of_ble_eq_true rfl) (Nat.le_of_ble_eq_true rfl)
            · have c28 := hw
              obtain ⟨hP, hD⟩ := wd_post hFc ht hB
              generalize H1 = H at hP hS ⊢
              have i29 := ao_i c28
              refine lv_aload_n hx hb dX9_balance_42 rfl (lv_at hl 1 rfl) ?_
              refine lv_aload hx hb dX9_balance_43 (lv_at hl 0 rfl) ?_
              have hFc := free_all hD hS hA
              refine va_calli (va_runS (As := [.ref r2, .ref r7]) (rest := []) ⟨hx, hb, hml, hown, hts⟩ (c_X9_balancedShift l (cy := cy) (X := X) (D := D) S _ r2 o5 r7 o10) (cwS 2 hts gX9_balance_X9_balancedShift rfl rfl rfl hd_X9_balancedShift ⟨Nat.le_of_ble_eq_true rfl, Nat.le_of_ble_eq_true rfl⟩) (pS hP hK hD hN) rfl rfl hl.1 rfl (lv_room (Nat.le_of_ble_eq_true rfl)) dX9_balance_45 ⟨Nat.le_of_ble_eq_true rfl, Nat.le_of_ble_eq_true rfl⟩) hS (fun q _ h => hFc q h) hFc (fun r30 u t H1 locs ht hvm hw hB hz1 hk1 hS => ?_)
              have c31 := hw
              obtain ⟨hP, hD⟩ := wd_post hFc ht hB
              generalize H1 = H at hP hS ⊢
              obtain rfl : f_X9_balancedShift S r2 r7 = r30 := c31.symm
              refine lv_istore (lv' := [(5, .int (f_X9_balancedShift S r2 r7)), (4, .ref r7), (3, .ref r2), (0, .ref o1), (1, .int x1), (2, .int x2)]) hx hb dX9_balance_48 hl (by decide) rfl (fun ls hl => ?_)
              refine lv_iload hx hb dX9_balance_50 (lv_at hl 0 rfl) ?_
              refine lv_bipush (v := 50) hx hb dX9_balance_52 (by decide +kernel) ?_
              refine lv_icmp_le (tgt := 67) hx hb dX9_balance_54 (by decide) (fun c32 => ?_) (fun c32 => ?_)
              · have c32i : (f_X9_balancedShift S r2 r7).toInt ≤ 50 := le_v rfl rfl c32
                refine lv_aload_n hx hb dX9_balance_67 rfl (lv_at hl 2 rfl) ?_
                refine lv_iload hx hb dX9_balance_68 (lv_at hl 0 rfl) ?_
                obtain ⟨k33, gk33, hk33⟩ := wGt (cy := cy) X S o5.1 o5.2.1
                refine va_put (D := D) (ci := 6) (v := .int (f_X9_balancedShift S r2 r7)) (ty := .int) (C := RX2) (T := TX2) (N := 20) hx hb hts hi_X9_balance_X2 tyX2 tyX2_ok nmX2 hown hK hP hD hS k33 hk33 rfl 7 (by decide) (hts (.fieldLink RX9 89 "Hobhouse$Gear" "shift" "I") (by decide +kernel)) (fun _ h9 => h9) rfl (by decide +kernel) (rfl) (rfl) (Nat.le_of_ble_eq_true rfl) dX9_balance_70 (fun H locs hP2 hD2 hS => ?_)
                have e9 := wPuI (cy := cy) (j := 7) (v := (f_X9_balancedShift S r2 r7)) hD o5.1 o5.2.1 gk33 rfl
                obtain ⟨S34, hS34⟩ : ∃ z, S.sI r2 7 (f_X9_balancedShift S r2 r7) = z := ⟨_, rfl⟩
                have hP : va_P D vwCl (X ++ PL cy S34) H := by rw [← hS34, ← e9]; exact hP2
                have hD : va_D A (X ++ PL cy S34) := by rw [← hS34, ← e9]; exact hD2
                have xe35 : ext S S34 := by rw [← hS34]; exact ext.sI _ _ _ _
                have t36 : stp [(2, 7)] [] [] S S34 := by rw [← hS34]; exact t0.I 7 (f_X9_balancedShift S r2 r7) o5 (by decide) (trivial) (Or.inl (by decide))
                refine lv_aload hx hb dX9_balance_73 (lv_at hl 1 rfl) ?_
                refine lv_iload hx hb dX9_balance_75 (lv_at hl 0 rfl) ?_
                refine lv_ineg hx hb dX9_balance_77 ?_
                obtain ⟨k37, gk37, hk37⟩ := wGt (cy := cy) X S34 (xe35.A o10).1 (xe35.A o10).2.1
                refine va_put (D := D) (ci := 6) (v := .int (-(f_X9_balancedShift S r2 r7))) (ty := .int) (C := RX2) (T := TX2) (N := 20) hx hb hts hi_X9_balance_X2 tyX2 tyX2_ok nmX2 hown hK hP hD hS k37 hk37 rfl 7 (by decide) (hts (.fieldLink RX9 89 "Hobhouse$Gear" "shift" "I") (by decide +kernel)) (fun _ h9 => h9) rfl (by decide +kernel) (rfl) (rfl) (Nat.le_of_ble_eq_true rfl) dX9_balance_78 (fun H locs hP2 hD2 hS => ?_)
                have e9 := wPuI (cy := cy) (j := 7) (v := (-(f_X9_balancedShift S r2 r7))) hD (xe35.A o10).1 (xe35.A o10).2.1 gk37 rfl
                obtain ⟨S38, hS38⟩ : ∃ z, S34.sI r7 7 (-(f_X9_balancedShift S r2 r7)) = z := ⟨_, rfl⟩
                have hP : va_P D vwCl (X ++ PL cy S38) H := by rw [← hS38, ← e9]; exact hP2
                have hD : va_D A (X ++ PL cy S38) := by rw [← hS38, ← e9]; exact hD2
                have xe39 : ext S34 S38 := by rw [← hS38]; exact ext.sI _ _ _ _
                have t40 : stp [(2, 7)] [] [] S S38 := by rw [← hS38]; exact t36.I 7 (-(f_X9_balancedShift S r2 r7)) (xe35.A o10) (by decide) (trivial) (Or.inl (by decide))
                refine lv_iload hx hb dX9_balance_81 (lv_at hl 0 rfl) ?_
                refine vx_ret ?_
                refine W.widen (k := 5) (n := 30) (Nat.le_of_ble_eq_true rfl) (Nat.le_of_ble_eq_true rfl) ?_
                exact W.iret (v := f_X9_balancedShift S r2 r7) hx hb hr (fun t ht hW9 => ⟨⟨f_X9_balancedShift S r2 r7, S38, rfl, ⟨(by show f_X9_balance S o1 x1 x2 = .ok (f_X9_balancedShift S r2 r7, S38); unfold f_X9_balance; rw [eB_ok c4, eB_ok c9, eB_ok c13, if_pos c16, if_pos c22, eB_ok c28, if_pos c32, l1_eq hS34, l1_eq hS38]), t40⟩, wd_end hP hK hD ht hW9.alike⟩, hS.F ht⟩) hS.2.2 dX9_balance_83 hlocks
              · have c32i : 50 < (f_X9_balancedShift S r2 r7).toInt := nle_v rfl rfl c32
                obtain ⟨sa, hsa⟩ := hTH.2.2 (RX9, 152, "there are no such shifts") (by decide +kernel)
                exact vx_throwI hx hb hst hown (by decide +kernel) (by decide +kernel) (hts (.classLink RX9 150 "java/util/NoSuchElementException") (by decide +kernel)) (hts (.initialized "java/util/NoSuchElementException") (by decide +kernel)) hsa (th_at (B := exW_X9_NSEE) (fun w h => hts w (s_X9_balance_NSEE w h)) rfl (by simp only [exW, List.mem_append]; intro w h; simp [h]) hTH.2.1) (List.forall_mem_cons.mpr ⟨by decide +kernel, List.forall_mem_cons.mpr ⟨by decide +kernel, exW_X9_NSEE_ok⟩⟩) hTH.1.1 hTH.1.2 hS (hl.1.trans hml.symm) dX9_balance_57 dX9_balance_60 dX9_balance_61 dX9_balance_63 dX9_balance_66 (fun x h => (hno x h).elim) (Nat.le_of_ble_eq_true rfl) (Nat.le_of_ble_eq_true rfl) (Nat.le_of_ble_eq_true rfl) (Nat.le_of_ble_eq_true rfl) hlocks (fun t hA2 h1 h2 => ⟨S, t0, ⟨(by show f_X9_balance S o1 x1 x2 = .error "java/util/NoSuchElementException"; unfold f_X9_balance; rw [eB_ok c4, eB_ok c9, eB_ok c13, if_pos c16, if_pos c22, eB_ok c28, if_neg c32]), (by decide), wd_exc hP hK hD hA2 h2⟩, exc_F hS h1 h2⟩) hS.2.2 (Nat.le_of_ble_eq_true rfl) (Nat.le_of_ble_eq_true rfl)
def f_X9_separate (S : wPS) (o1 : Nat) (x1 : Int32) : Except String (Int32 × wPS) := eB (f_X9_gearAt S o1 x1) (fun r2 => if (S.I r2 19) = (-1 : Int32) then eB (f_X9_allowOnly (0 : Int32)) (fun _ => .error "") else eB (f_X9_allowOnly (1 : Int32)) (fun _ => eB (f_X9_gearAt S o1 (S.I r2 19)) (fun r17 => l1 (S.sI r2 19 (-1 : Int32)) (fun S22 => l1 (S22.sI r17 19 (-1 : Int32)) (fun S26 => .ok (S26.I r17 0, S26))))))
theorem hi_X9_separate_X2 : ∀ w ∈ u_ws RX2 TX2 20, w ∈ wsX9_separate := by decide +kernel
theorem hd_X9_separate : yX9_separate.cls = RX9 ∧ yX9_separate.cls ≠ "java/lang/invoke/MethodHandle" ∧ yX9_separate.cls ≠ "java/lang/invoke/VarHandle" ∧ (parseMethodDescriptor yX9_separate.desc).map (fun d => d.parameters.length) = some 1 := by decide +kernel
set_option maxHeartbeats 4000000 in
set_option maxRecDepth 100000 in
theorem c_X9_separate (l : Launch) (hst : l.stackTraces = false) {D : va_G} {cy : Nat → ClassId} {X : va_W} (S : wPS) (sz : Nat) (o1 : Nat) (h_o1 : isA S o1 9) (x1 : Int32) (hW : wtB S [])  : vx_Met l yX9_separate wsX9_separate ({ frames := 7, cells := 3, slots := 18, locals := 103 }) (va_Pc [.ref o1, .int x1] (fun U => U.heap.size = sz ∧ WD D cy X (fun _ => True) S U ∧ NW U ∧ TH (va_A (X ++ PL cy S) sz) U)) (va_Qi (fun r (u : wPS) => f_X9_separate S o1 x1 = .ok (r, u) ∧ stp [(2, 19)] [] [] S u) (fun u t => WD D cy X (va_A (X ++ PL cy S) sz) u t) (va_A (X ++ PL cy S) sz)) (vx_X (fun (u : wPS) => stp [(2, 19)] [] [] S u) (fun E u t => f_X9_separate S o1 x1 = .error E ∧ E ∈ ["java/lang/IndexOutOfBoundsException", "java/lang/UnsupportedOperationException"] ∧ WD D cy X (va_A (X ++ PL cy S) sz) u t) (va_A (X ++ PL cy S) sz)) 3 18 (va_A (X ++ PL cy S) sz) := by
  refine vx_ofW (cc := cX9_separate) (maxL := 4) (ret := (some .int)) (by decide) rfl ?_
  intro p e s m args below meth c s₁ B hml hno hv
  obtain ⟨rfl, hsz, ⟨hP, hK, hD0⟩, hN, hTH⟩ := hv
  have hx := B.exec
  have hb := B.bytes
  have hr := B.returns
  have hts := atoms_spec (ws := wsX9_separate) B.pre
  have hown : s.vm.findClass RX9 = some m.cls := findClass_of_methodNamed (x := yX9_separate) B.named
  have hlocks := B.notSynchronized
  subst hsz
  have hD := hD0.self (sz := s.heap.size)
  generalize hAe : va_A (X ++ PL cy S) s.heap.size = A at hD hTH ⊢
  have hA : ∀ q : Nat, s.heap.size ≤ q → A q := fun q h => by rw [← hAe]; exact Or.inr h
  have hS : va_S A s.heap s.heap [] := va_S.rf
  have hl := lv_entry ([.ref o1, .int x1]) (n := 4) (Nat.le_of_ble_eq_true rfl)
  rw [lg_entry_eq]
  generalize (lg_sl ([.ref o1, .int x1]) ++ List.replicate (4 - (lg_sl ([.ref o1, .int x1])).length) Slot.unset).toArray = ls at hl ⊢
  have hl : lv_has ls 4 [(0, .ref o1), (1, .int x1)] := hl
  have t0 : stp [(2, 19)] [] [] S S := stp.rf hW
  refine lv_aload_n hx hb dX9_separate_0 rfl (lv_at hl 0 rfl) ?_
  refine lv_iload_n hx hb dX9_separate_1 rfl (lv_at hl 1 rfl) ?_
  have hFc := free_all hD hS hA
  obtain ⟨k1, gk1, hk1⟩ := wGt (cy := cy) X S h_o1.1 h_o1.2.1
  refine vx_callq (vx_runV (As := [.int x1]) (rest := []) ⟨hx, hb, hml, hown, hts⟩ (c_X9_gearAt l hst (cy := cy) (X := X) (D := D) S _ o1 h_o1 x1 (hW)) (cwV 1 hts gX9_separate_X9_gearAt rfl rfl rfl hd_X9_gearAt ⟨Nat.le_of_ble_eq_true rfl, Nat.le_of_ble_eq_true rfl⟩) (pVt (va_recv hK hP (q := (RX9, TX9, 11)) (ci := 13) (q0 := k1) rfl hk1) hP hK hD hN hTH hS hFc) rfl rfl hl.1 rfl (lv_room (Nat.le_of_ble_eq_true rfl)) dX9_separate_2 ⟨Nat.le_of_ble_eq_true rfl, Nat.le_of_ble_eq_true rfl⟩) hS (fun q _ h => hFc q h) hFc (fun q _ h => hFc q h) (fun E ce q9 u t H1 locs ht hvm hw hB hz1 hk1 hS hq9 hce hcl => ?_) (fun r2 u t H1 locs ht hvm hw hB hz1 hk1 hS => ?_)
  · obtain ⟨c3, hEc3, hB2⟩ := hB
    obtain ⟨hP, hD⟩ := wd_post hFc ht hB2
    exact vx_out (fun x h => (hno x h).elim) hlocks hq9 hce hcl (fun t2 ht2 hA2 => ⟨S, t0, ⟨(by show f_X9_separate S o1 x1 = .error E; unfold f_X9_separate; rw [eB_er c3]), (el_in (by decide) hEc3), wd_end hP hK hD ht2 hA2⟩, hS.F ht2⟩) hS.2.2 (Nat.le_of_ble_eq_true rfl) (Nat.le_of_ble_eq_true rfl)
  · obtain ⟨r2, rfl, c4, o5⟩ := hw
    obtain ⟨hP, hD⟩ := wd_post hFc ht hB
    generalize H1 = H at hP hS ⊢
    refine W.eq (g2 := F0 m 5 ls [.ref r2]) rfl ?_
    refine lv_astore_n (lv' := [(2, .ref r2), (0, .ref o1), (1, .int x1)]) hx hb dX9_separate_5 rfl hl (by decide) rfl (fun ls hl => ?_)
    refine lv_aload_n hx hb dX9_separate_6 rfl (lv_at hl 0 rfl) ?_
    obtain ⟨k6, gk6, hk6⟩ := wGt (cy := cy) X S o5.1 o5.2.1
    refine va_get (D := D) (ci := 6) (v := .int (S.I r2 19)) (C := RX2) (T := TX2) (N := 20) hx hb hts hi_X9_separate_X2 hown hK hP k6 hk6 rfl 19 (by decide) (hts (.fieldLink RX9 396 "Hobhouse$Gear" "mateNumber" "I") (by decide +kernel)) (fun _ h9 => h9) rfl dX9_separate_7 ?_
    refine lv_iconst (v := -1) hx hb dX9_separate_10 (by decide) ?_
    refine lv_icmp_eq (tgt := 18) hx hb dX9_separate_11 (by decide) (fun c7 => ?_) (fun c7 => ?_)
    · have c7i : (S.I r2 19).toInt = -1 := eq_v rfl rfl c7
      refine lv_iconst (v := 0) hx hb dX9_separate_18 (by decide) ?_
      have l32_0 : (0 : Int32).toInt = 0 := rfl
      have hFc := free_all hD hS hA
      refine vx_callv (vx_runS (As := [.int (0 : Int32)]) (rest := []) ⟨hx, hb, hml, hown, hts⟩ (c_X9_allowOnly l hst (cy := cy) (X := X) (D := D) S _ (0 : Int32)) (cwS 1 hts gX9_separate_X9_allowOnly rfl rfl rfl hd_X9_allowOnly ⟨Nat.le_of_ble_eq_true rfl, Nat.le_of_ble_eq_true rfl⟩) (pSt hP hK hD hN hTH hS hFc) rfl rfl hl.1 rfl (lv_room (Nat.le_of_ble_eq_true rfl)) dX9_separate_19 ⟨Nat.le_of_ble_eq_true rfl, Nat.le_of_ble_eq_true rfl⟩) hS (fun q _ h => hFc q h) hFc (fun q _ h => hFc q h) (fun E ce q9 u t H1 locs ht hvm hw hB hz1 hk1 hS hq9 hce hcl => ?_) (fun u t H1 locs ht hvm hw hB hz1 hk1 hS => ?_)
      · obtain ⟨c9, hEc9, hB2⟩ := hB
        obtain ⟨hP, hD⟩ := wd_post hFc ht hB2
        exact vx_out (fun x h => (hno x h).elim) hlocks hq9 hce hcl (fun t2 ht2 hA2 => ⟨S, t0, ⟨(by show f_X9_separate S o1 x1 = .error E; unfold f_X9_separate; rw [eB_ok c4, if_pos c7, eB_er c9]), (el_in (by decide) hEc9), wd_end hP hK hD ht2 hA2⟩, hS.F ht2⟩) hS.2.2 (Nat.le_of_ble_eq_true rfl) (Nat.le_of_ble_eq_true rfl)
      · have c10 := hw
        obtain ⟨hP, hD⟩ := wd_post hFc ht hB
        generalize H1 = H at hP hS ⊢
        exact absurd rfl (ao_i c10)
    · have c7i : ¬ (S.I r2 19).toInt = -1 := neq_v rfl rfl c7
      refine lv_iconst (v := 1) hx hb dX9_separate_14 (by decide) ?_
      refine lv_goto (tgt := 19) hx hb dX9_separate_15 (by decide) ?_
      have l32_1 : (1 : Int32).toInt = 1 := rfl
      have hFc := free_all hD hS hA
      refine vx_callv (vx_runS (As := [.int (1 : Int32)]) (rest := []) ⟨hx, hb, hml, hown, hts⟩ (c_X9_allowOnly l hst (cy := cy) (X := X) (D := D) S _ (1 : Int32)) (cwS 1 hts gX9_separate_X9_allowOnly rfl rfl rfl hd_X9_allowOnly ⟨Nat.le_of_ble_eq_true rfl, Nat.le_of_ble_eq_true rfl⟩) (pSt hP hK hD hN hTH hS hFc) rfl rfl hl.1 rfl (lv_room (Nat.le_of_ble_eq_true rfl)) dX9_separate_19 ⟨Nat.le_of_ble_eq_true rfl, Nat.le_of_ble_eq_true rfl⟩) hS (fun q _ h => hFc q h) hFc (fun q _ h => hFc q h) (fun E ce q9 u t H1 locs ht hvm hw hB hz1 hk1 hS hq9 hce hcl => ?_) (fun u t H1 locs ht hvm hw hB hz1 hk1 hS => ?_)
      · obtain ⟨c12, hEc12, hB2⟩ := hB
        obtain ⟨hP, hD⟩ := wd_post hFc ht hB2
        exact vx_out (fun x h => (hno x h).elim) hlocks hq9 hce hcl (fun t2 ht2 hA2 => ⟨S, t0, ⟨(by show f_X9_separate S o1 x1 = .error E; unfold f_X9_separate; rw [eB_ok c4, if_neg c7, eB_er c12]), (el_in (by decide) hEc12), wd_end hP hK hD ht2 hA2⟩, hS.F ht2⟩) hS.2.2 (Nat.le_of_ble_eq_true rfl) (Nat.le_of_ble_eq_true rfl)
      · have c13 := hw
        obtain ⟨hP, hD⟩ := wd_post hFc ht hB
        generalize H1 = H at hP hS ⊢
        have i14 := ao_i c13
        refine lv_aload_n hx hb dX9_separate_22 rfl (lv_at hl 1 rfl) ?_
        refine lv_aload_n hx hb dX9_separate_23 rfl (lv_at hl 0 rfl) ?_
        obtain ⟨k15, gk15, hk15⟩ := wGt (cy := cy) X S o5.1 o5.2.1
        refine va_get (D := D) (ci := 6) (v := .int (S.I r2 19)) (C := RX2) (T := TX2) (N := 20) hx hb hts hi_X9_separate_X2 hown hK hP k15 hk15 rfl 19 (by decide) (hts (.fieldLink RX9 396 "Hobhouse$Gear" "mateNumber" "I") (by decide +kernel)) (fun _ h9 => h9) rfl dX9_separate_24 ?_
        have hFc := free_all hD hS hA
        obtain ⟨k16, gk16, hk16⟩ := wGt (cy := cy) X S h_o1.1 h_o1.2.1
        refine vx_callq (vx_runV (As := [.int (S.I r2 19)]) (rest := []) ⟨hx, hb, hml, hown, hts⟩ (c_X9_gearAt l hst (cy := cy) (X := X) (D := D) S _ o1 h_o1 (S.I r2 19) (hW)) (cwV 1 hts gX9_separate_X9_gearAt rfl rfl rfl hd_X9_gearAt ⟨Nat.le_of_ble_eq_true rfl, Nat.le_of_ble_eq_true rfl⟩) (pVt (va_recv hK hP (q := (RX9, TX9, 11)) (ci := 13) (q0 := k16) rfl hk16) hP hK hD hN hTH hS hFc) rfl rfl hl.1 rfl (lv_room (Nat.le_of_ble_eq_true rfl)) dX9_separate_27 ⟨Nat.le_of_ble_eq_true rfl, Nat.le_of_ble_eq_true rfl⟩) hS (fun q _ h => hFc q h) hFc (fun q _ h => hFc q h) (fun E ce q9 u t H1 locs ht hvm hw hB hz1 hk1 hS hq9 hce hcl => ?_) (fun r17 u t H1 locs ht hvm hw hB hz1 hk1 hS => ?_)
        · obtain ⟨c18, hEc18, hB2⟩ := hB
          obtain ⟨hP, hD⟩ := wd_post hFc ht hB2
          exact vx_out (fun x h => (hno x h).elim) hlocks hq9 hce hcl (fun t2 ht2 hA2 => ⟨S, t0, ⟨(by show f_X9_separate S o1 x1 = .error E; unfold f_X9_separate; rw [eB_ok c4, if_neg c7, eB_ok c13, eB_er c18]), (el_in (by decide) hEc18), wd_end hP hK hD ht2 hA2⟩, hS.F ht2⟩) hS.2.2 (Nat.le_of_ble_eq_true rfl) (Nat.le_of_ble_eq_true rfl)
        · obtain ⟨r17, rfl, c19, o20⟩ := hw
          obtain ⟨hP, hD⟩ := wd_post hFc ht hB
          generalize H1 = H at hP hS ⊢
          refine W.eq (g2 := F0 m 30 ls [.ref r17]) rfl ?_
          refine lv_astore_n (lv' := [(3, .ref r17), (2, .ref r2), (0, .ref o1), (1, .int x1)]) hx hb dX9_separate_30 rfl hl (by decide) rfl (fun ls hl => ?_)
          refine lv_aload_n hx hb dX9_separate_31 rfl (lv_at hl 1 rfl) ?_
          refine lv_iconst (v := -1) hx hb dX9_separate_32 (by decide) ?_
          obtain ⟨k21, gk21, hk21⟩ := wGt (cy := cy) X S o5.1 o5.2.1
          refine va_put (D := D) (ci := 6) (v := .int (-1 : Int32)) (ty := .int) (C := RX2) (T := TX2) (N := 20) hx hb hts hi_X9_separate_X2 tyX2 tyX2_ok nmX2 hown hK hP hD hS k21 hk21 rfl 19 (by decide) (hts (.fieldLink RX9 396 "Hobhouse$Gear" "mateNumber" "I") (by decide +kernel)) (fun _ h9 => h9) rfl (by decide +kernel) (rfl) (rfl) (Nat.le_of_ble_eq_true rfl) dX9_separate_33 (fun H locs hP2 hD2 hS => ?_)
          have e9 := wPuI (cy := cy) (j := 19) (v := (-1 : Int32)) hD o5.1 o5.2.1 gk21 rfl
          obtain ⟨S22, hS22⟩ : ∃ z, S.sI r2 19 (-1 : Int32) = z := ⟨_, rfl⟩
          have hP : va_P D vwCl (X ++ PL cy S22) H := by rw [← hS22, ← e9]; exact hP2
          have hD : va_D A (X ++ PL cy S22) := by rw [← hS22, ← e9]; exact hD2
          have xe23 : ext S S22 := by rw [← hS22]; exact ext.sI _ _ _ _
          have t24 : stp [(2, 19)] [] [] S S22 := by rw [← hS22]; exact t0.I 19 (-1 : Int32) o5 (by decide) (trivial) (Or.inl (by decide))
          refine lv_aload_n hx hb dX9_separate_36 rfl (lv_at hl 0 rfl) ?_
          refine lv_iconst (v := -1) hx hb dX9_separate_37 (by decide) ?_
          obtain ⟨k25, gk25, hk25⟩ := wGt (cy := cy) X S22 (xe23.A o20).1 (xe23.A o20).2.1
          refine va_put (D := D) (ci := 6) (v := .int (-1 : Int32)) (ty := .int) (C := RX2) (T := TX2) (N := 20) hx hb hts hi_X9_separate_X2 tyX2 tyX2_ok nmX2 hown hK hP hD hS k25 hk25 rfl 19 (by decide) (hts (.fieldLink RX9 396 "Hobhouse$Gear" "mateNumber" "I") (by decide +kernel)) (fun _ h9 => h9) rfl (by decide +kernel) (rfl) (rfl) (Nat.le_of_ble_eq_true rfl) dX9_separate_38 (fun H locs hP2 hD2 hS => ?_)
          have e9 := wPuI (cy := cy) (j := 19) (v := (-1 : Int32)) hD (xe23.A o20).1 (xe23.A o20).2.1 gk25 rfl
          obtain ⟨S26, hS26⟩ : ∃ z, S22.sI r17 19 (-1 : Int32) = z := ⟨_, rfl⟩
          have hP : va_P D vwCl (X ++ PL cy S26) H := by rw [← hS26, ← e9]; exact hP2
          have hD : va_D A (X ++ PL cy S26) := by rw [← hS26, ← e9]; exact hD2
          have xe27 : ext S22 S26 := by rw [← hS26]; exact ext.sI _ _ _ _
          have t28 : stp [(2, 19)] [] [] S S26 := by rw [← hS26]; exact t24.I 19 (-1 : Int32) (xe23.A o20) (by decide) (trivial) (Or.inl (by decide))
          refine lv_aload_n hx hb dX9_separate_41 rfl (lv_at hl 0 rfl) ?_
          obtain ⟨k29, gk29, hk29⟩ := wGt (cy := cy) X S26 (xe27.A (xe23.A o20)).1 (xe27.A (xe23.A o20)).2.1
          refine va_get (D := D) (ci := 6) (v := .int (S26.I r17 0)) (C := RX2) (T := TX2) (N := 20) hx hb hts hi_X9_separate_X2 hown hK hP k29 hk29 rfl 0 (by decide) (hts (.fieldLink RX9 419 "Hobhouse$Gear" "number" "I") (by decide +kernel)) (fun _ h9 => h9) rfl dX9_separate_42 ?_
          refine vx_ret ?_
          refine W.widen (k := 3) (n := 18) (Nat.le_of_ble_eq_true rfl) (Nat.le_of_ble_eq_true rfl) ?_
          exact W.iret (v := S26.I r17 0) hx hb hr (fun t ht hW9 => ⟨⟨S26.I r17 0, S26, rfl, ⟨(by show f_X9_separate S o1 x1 = .ok (S26.I r17 0, S26); unfold f_X9_separate; rw [eB_ok c4, if_neg c7, eB_ok c13, eB_ok c19, l1_eq hS22, l1_eq hS26]), t28⟩, wd_end hP hK hD ht hW9.alike⟩, hS.F ht⟩) hS.2.2 dX9_separate_45 hlocks
def f_X9_section (S : wPS) (o1 : Nat) (x1 : Int32) (x2 : Int32) (x3 : Int32) (x4 : Int32) : Except String Int32 := eB (f_X9_gearAt S o1 x1) (fun r2 => eB (f_X9_gearAt S o1 x2) (fun r7 => eB (f_X9_needRange x4 (1 : Int32) (50 : Int32)) (fun _ => eB (f_X9_needRange x3 (0 : Int32) (x4 - (1 : Int32))) (fun _ => if (0 : Int32) < (lg_cmp ((S.I r2 4).toInt64) (((f_X9_root ((((f_X2_pitchDiameter S r2).toInt64) * ((f_X2_pitchDiameter S r2).toInt64)) + (((f_X2_pitchDiameter S r7).toInt64) * ((f_X2_pitchDiameter S r7).toInt64)))) / (2 : Int64)) / (3 : Int64))) then eB (f_X9_allowOnly (0 : Int32)) (fun _ => .error "") else if (S.I r2 2) = (S.I r7 2) then if (lg_cmp ((f_X9_root ((((f_X2_pitchDiameter S r2).toInt64) * ((f_X2_pitchDiameter S r2).toInt64)) + (((f_X2_pitchDiameter S r7).toInt64) * ((f_X2_pitchDiameter S r7).toInt64)))) / (2 : Int64)) (0 : Int64)) ≤ (0 : Int32) then eB (f_X9_allowOnly (0 : Int32)) (fun _ => .error "") else eB (f_X9_allowOnly (1 : Int32)) (fun _ => .ok (((((S.I r2 2).toInt64) * (((f_X9_root ((((f_X2_pitchDiameter S r2).toInt64) * ((f_X2_pitchDiameter S r2).toInt64)) + (((f_X2_pitchDiameter S r7).toInt64) * ((f_X2_pitchDiameter S r7).toInt64)))) / (2 : Int64)) - ((((S.I r2 4).toInt64) * x3.toInt64) / x4.toInt64))) / ((f_X9_root ((((f_X2_pitchDiameter S r2).toInt64) * ((f_X2_pitchDiameter S r2).toInt64)) + (((f_X2_pitchDiameter S r7).toInt64) * ((f_X2_pitchDiameter S r7).toInt64)))) / (2 : Int64))).toInt32)) else eB (f_X9_allowOnly (0 : Int32)) (fun _ => .error "")))))
theorem hi_X9_section_X2 : ∀ w ∈ u_ws RX2 TX2 20, w ∈ wsX9_section := by decide +kernel
theorem hd_X9_section : yX9_section.cls = RX9 ∧ yX9_section.cls ≠ "java/lang/invoke/MethodHandle" ∧ yX9_section.cls ≠ "java/lang/invoke/VarHandle" ∧ (parseMethodDescriptor yX9_section.desc).map (fun d => d.parameters.length) = some 4 := by decide +kernel
set_option maxHeartbeats 4000000 in
set_option maxRecDepth 100000 in
theorem c_X9_section (l : Launch) (hst : l.stackTraces = false) {D : va_G} {cy : Nat → ClassId} {X : va_W} (S : wPS) (sz : Nat) (o1 : Nat) (h_o1 : isA S o1 9) (x1 : Int32) (x2 : Int32) (x3 : Int32) (x4 : Int32) (hW : wtB S [])  : vx_Met l yX9_section wsX9_section ({ frames := 7, cells := 5, slots := 30, locals := 104 }) (va_Pc [.ref o1, .int x1, .int x2, .int x3, .int x4] (fun U => U.heap.size = sz ∧ WD D cy X (fun _ => True) S U ∧ NW U ∧ TH (va_A (X ++ PL cy S) sz) U)) (va_Qi (fun r (_ : Unit) => f_X9_section S o1 x1 x2 x3 x4 = .ok r) (fun _ t => WD D cy X (va_A (X ++ PL cy S) sz) S t) (va_A (X ++ PL cy S) sz)) (vx_X (fun (_ : Unit) => True) (fun E _ t => f_X9_section S o1 x1 x2 x3 x4 = .error E ∧ E ∈ ["java/lang/IllegalArgumentException", "java/lang/IndexOutOfBoundsException", "java/lang/UnsupportedOperationException"] ∧ WD D cy X (va_A (X ++ PL cy S) sz) S t) (va_A (X ++ PL cy S) sz)) 5 30 (va_A (X ++ PL cy S) sz) := by
  refine vx_ofW (cc := cX9_section) (maxL := 15) (ret := (some .int)) (by decide) rfl ?_
  intro p e s m args below meth c s₁ B hml hno hv
  obtain ⟨rfl, hsz, ⟨hP, hK, hD0⟩, hN, hTH⟩ := hv
  have hx := B.exec
  have hb := B.bytes
  have hr := B.returns
  have hts := atoms_spec (ws := wsX9_section) B.pre
  have hown : s.vm.findClass RX9 = some m.cls := findClass_of_methodNamed (x := yX9_section) B.named
  have hlocks := B.notSynchronized
  subst hsz
  have hD := hD0.self (sz := s.heap.size)
  generalize hAe : va_A (X ++ PL cy S) s.heap.size = A at hD hTH ⊢
  have hA : ∀ q : Nat, s.heap.size ≤ q → A q := fun q h => by rw [← hAe]; exact Or.inr h
  have hS : va_S A s.heap s.heap [] := va_S.rf
  have hl := lv_entry ([.ref o1, .int x1, .int x2, .int x3, .int x4]) (n := 15) (Nat.le_of_ble_eq_true rfl)
  rw [lg_entry_eq]
  generalize (lg_sl ([.ref o1, .int x1, .int x2, .int x3, .int x4]) ++ List.replicate (15 - (lg_sl ([.ref o1, .int x1, .int x2, .int x3, .int x4])).length) Slot.unset).toArray = ls at hl ⊢
  have hl : lv_has ls 15 [(0, .ref o1), (1, .int x1), (2, .int x2), (3, .int x3), (4, .int x4)] := hl
  refine lv_aload_n hx hb dX9_section_0 rfl (lv_at hl 0 rfl) ?_
  refine lv_iload_n hx hb dX9_section_1 rfl (lv_at hl 1 rfl) ?_
  have hFc := free_all hD hS hA
  obtain ⟨k1, gk1, hk1⟩ := wGt (cy := cy) X S h_o1.1 h_o1.2.1
  refine vx_callq (vx_runV (As := [.int x1]) (rest := []) ⟨hx, hb, hml, hown, hts⟩ (c_X9_gearAt l hst (cy := cy) (X := X) (D := D) S _ o1 h_o1 x1 (hW)) (cwV 1 hts gX9_section_X9_gearAt rfl rfl rfl hd_X9_gearAt ⟨Nat.le_of_ble_eq_true rfl, Nat.le_of_ble_eq_true rfl⟩) (pVt (va_recv hK hP (q := (RX9, TX9, 11)) (ci := 13) (q0 := k1) rfl hk1) hP hK hD hN hTH hS hFc) rfl rfl hl.1 rfl (lv_room (Nat.le_of_ble_eq_true rfl)) dX9_section_2 ⟨Nat.le_of_ble_eq_true rfl, Nat.le_of_ble_eq_true rfl⟩) hS (fun q _ h => hFc q h) hFc (fun q _ h => hFc q h) (fun E ce q9 u t H1 locs ht hvm hw hB hz1 hk1 hS hq9 hce hcl => ?_) (fun r2 u t H1 locs ht hvm hw hB hz1 hk1 hS => ?_)
  · obtain ⟨c3, hEc3, hB2⟩ := hB
    obtain ⟨hP, hD⟩ := wd_post hFc ht hB2
    exact vx_out (fun x h => (hno x h).elim) hlocks hq9 hce hcl (fun t2 ht2 hA2 => ⟨(), trivial, ⟨(by show f_X9_section S o1 x1 x2 x3 x4 = .error E; unfold f_X9_section; rw [eB_er c3]), (el_in (by decide) hEc3), wd_end hP hK hD ht2 hA2⟩, hS.F ht2⟩) hS.2.2 (Nat.le_of_ble_eq_true rfl) (Nat.le_of_ble_eq_true rfl)
  · obtain ⟨r2, rfl, c4, o5⟩ := hw
    obtain ⟨hP, hD⟩ := wd_post hFc ht hB
    generalize H1 = H at hP hS ⊢
    refine W.eq (g2 := F0 m 5 ls [.ref r2]) rfl ?_
    refine lv_astore (lv' := [(5, .ref r2), (0, .ref o1), (1, .int x1), (2, .int x2), (3, .int x3), (4, .int x4)]) hx hb dX9_section_5 hl (by decide) rfl (fun ls hl => ?_)
    refine lv_aload_n hx hb dX9_section_7 rfl (lv_at hl 1 rfl) ?_
    refine lv_iload_n hx hb dX9_section_8 rfl (lv_at hl 3 rfl) ?_
    have hFc := free_all hD hS hA
    obtain ⟨k6, gk6, hk6⟩ := wGt (cy := cy) X S h_o1.1 h_o1.2.1
    refine vx_callq (vx_runV (As := [.int x2]) (rest := []) ⟨hx, hb, hml, hown, hts⟩ (c_X9_gearAt l hst (cy := cy) (X := X) (D := D) S _ o1 h_o1 x2 (hW)) (cwV 1 hts gX9_section_X9_gearAt rfl rfl rfl hd_X9_gearAt ⟨Nat.le_of_ble_eq_true rfl, Nat.le_of_ble_eq_true rfl⟩) (pVt (va_recv hK hP (q := (RX9, TX9, 11)) (ci := 13) (q0 := k6) rfl hk6) hP hK hD hN hTH hS hFc) rfl rfl hl.1 rfl (lv_room (Nat.le_of_ble_eq_true rfl)) dX9_section_9 ⟨Nat.le_of_ble_eq_true rfl, Nat.le_of_ble_eq_true rfl⟩) hS (fun q _ h => hFc q h) hFc (fun q _ h => hFc q h) (fun E ce q9 u t H1 locs ht hvm hw hB hz1 hk1 hS hq9 hce hcl => ?_) (fun r7 u t H1 locs ht hvm hw hB hz1 hk1 hS => ?_)
    · obtain ⟨c8, hEc8, hB2⟩ := hB
      obtain ⟨hP, hD⟩ := wd_post hFc ht hB2
      exact vx_out (fun x h => (hno x h).elim) hlocks hq9 hce hcl (fun t2 ht2 hA2 => ⟨(), trivial, ⟨(by show f_X9_section S o1 x1 x2 x3 x4 = .error E; unfold f_X9_section; rw [eB_ok c4, eB_er c8]), (el_in (by decide) hEc8), wd_end hP hK hD ht2 hA2⟩, hS.F ht2⟩) hS.2.2 (Nat.le_of_ble_eq_true rfl) (Nat.le_of_ble_eq_true rfl)
    · obtain ⟨r7, rfl, c9, o10⟩ := hw
      obtain ⟨hP, hD⟩ := wd_post hFc ht hB
      generalize H1 = H at hP hS ⊢
      refine W.eq (g2 := F0 m 12 ls [.ref r7]) rfl ?_
      refine lv_astore (lv' := [(6, .ref r7), (5, .ref r2), (0, .ref o1), (1, .int x1), (2, .int x2), (3, .int x3), (4, .int x4)]) hx hb dX9_section_12 hl (by decide) rfl (fun ls hl => ?_)
      refine lv_iload hx hb dX9_section_14 (lv_at hl 6 rfl) ?_
      refine lv_iconst (v := 1) hx hb dX9_section_16 (by decide) ?_
      refine lv_bipush (v := 50) hx hb dX9_section_17 (by decide +kernel) ?_
      have l32_1 : (1 : Int32).toInt = 1 := rfl
      have l32_50 : (50 : Int32).toInt = 50 := rfl
      have hFc := free_all hD hS hA
      refine vx_callv (vx_runS (As := [.int x4, .int (1 : Int32), .int (50 : Int32)]) (rest := []) ⟨hx, hb, hml, hown, hts⟩ (c_X9_needRange l hst (cy := cy) (X := X) (D := D) S _ x4 (1 : Int32) (50 : Int32)) (cwS 3 hts gX9_section_X9_needRange rfl rfl rfl hd_X9_needRange ⟨Nat.le_of_ble_eq_true rfl, Nat.le_of_ble_eq_true rfl⟩) (pSt hP hK hD hN hTH hS hFc) rfl rfl hl.1 rfl (lv_room (Nat.le_of_ble_eq_true rfl)) dX9_section_19 ⟨Nat.le_of_ble_eq_true rfl, Nat.le_of_ble_eq_true rfl⟩) hS (fun q _ h => hFc q h) hFc (fun q _ h => hFc q h) (fun E ce q9 u t H1 locs ht hvm hw hB hz1 hk1 hS hq9 hce hcl => ?_) (fun u t H1 locs ht hvm hw hB hz1 hk1 hS => ?_)
      · obtain ⟨c12, hEc12, hB2⟩ := hB
        obtain ⟨hP, hD⟩ := wd_post hFc ht hB2
        exact vx_out (fun x h => (hno x h).elim) hlocks hq9 hce hcl (fun t2 ht2 hA2 => ⟨(), trivial, ⟨(by show f_X9_section S o1 x1 x2 x3 x4 = .error E; unfold f_X9_section; rw [eB_ok c4, eB_ok c9, eB_er c12]), (el_in (by decide) hEc12), wd_end hP hK hD ht2 hA2⟩, hS.F ht2⟩) hS.2.2 (Nat.le_of_ble_eq_true rfl) (Nat.le_of_ble_eq_true rfl)
      · have c13 := hw
        obtain ⟨hP, hD⟩ := wd_post hFc ht hB
        generalize H1 = H at hP hS ⊢
        have i14 := nr_i c13
        have i14l := i14.1
        have i14h := i14.2
        have l15 : (1 : Int32).toInt = 1 := rfl
        have l16 : (50 : Int32).toInt = 50 := rfl
        refine lv_iload_n hx hb dX9_section_22 rfl (lv_at hl 5 rfl) ?_
        refine lv_iconst (v := 0) hx hb dX9_section_23 (by decide) ?_
        refine lv_iload hx hb dX9_section_24 (lv_at hl 6 rfl) ?_
        refine lv_iconst (v := 1) hx hb dX9_section_26 (by decide) ?_
        refine lv_isub hx hb dX9_section_27 ?_
        have l32_0 : (0 : Int32).toInt = 0 := rfl
        have hFc := free_all hD hS hA
        refine vx_callv (vx_runS (As := [.int x3, .int (0 : Int32), .int (x4 - (1 : Int32))]) (rest := []) ⟨hx, hb, hml, hown, hts⟩ (c_X9_needRange l hst (cy := cy) (X := X) (D := D) S _ x3 (0 : Int32) (x4 - (1 : Int32))) (cwS 3 hts gX9_section_X9_needRange rfl rfl rfl hd_X9_needRange ⟨Nat.le_of_ble_eq_true rfl, Nat.le_of_ble_eq_true rfl⟩) (pSt hP hK hD hN hTH hS hFc) rfl rfl hl.1 rfl (lv_room (Nat.le_of_ble_eq_true rfl)) dX9_section_28 ⟨Nat.le_of_ble_eq_true rfl, Nat.le_of_ble_eq_true rfl⟩) hS (fun q _ h => hFc q h) hFc (fun q _ h => hFc q h) (fun E ce q9 u t H1 locs ht hvm hw hB hz1 hk1 hS hq9 hce hcl => ?_) (fun u t H1 locs ht hvm hw hB hz1 hk1 hS => ?_)
        · obtain ⟨c18, hEc18, hB2⟩ := hB
          obtain ⟨hP, hD⟩ := wd_post hFc ht hB2
          exact vx_out (fun x h => (hno x h).elim) hlocks hq9 hce hcl (fun t2 ht2 hA2 => ⟨(), trivial, ⟨(by show f_X9_section S o1 x1 x2 x3 x4 = .error E; unfold f_X9_section; rw [eB_ok c4, eB_ok c9, eB_ok c13, eB_er c18]), (el_in (by decide) hEc18), wd_end hP hK hD ht2 hA2⟩, hS.F ht2⟩) hS.2.2 (Nat.le_of_ble_eq_true rfl) (Nat.le_of_ble_eq_true rfl)
        · have c19 := hw
          obtain ⟨hP, hD⟩ := wd_post hFc ht hB
          generalize H1 = H at hP hS ⊢
          have i20 := nr_i c19
          have i20l := i20.1
          have i20h := i20.2
          have l21 : (0 : Int32).toInt = 0 := rfl
          refine lv_aload hx hb dX9_section_31 (lv_at hl 1 rfl) ?_
          have hFc := free_all hD hS hA
          obtain ⟨k22, gk22, hk22⟩ := wGt (cy := cy) X S o5.1 o5.2.1
          refine va_calli (va_runV (As := []) (rest := []) ⟨hx, hb, hml, hown, hts⟩ (c_X2_pitchDiameter l (cy := cy) (X := X) (D := D) S _ r2 o5) (cwV 0 hts gX9_section_X2_pitchDiameter rfl rfl rfl hd_X2_pitchDiameter ⟨Nat.le_of_ble_eq_true rfl, Nat.le_of_ble_eq_true rfl⟩) (pV (va_recv hK hP (q := (RX2, TX2, 20)) (ci := 6) (q0 := k22) rfl hk22) hP hK hD hN) rfl rfl hl.1 rfl (lv_room (Nat.le_of_ble_eq_true rfl)) dX9_section_33 ⟨Nat.le_of_ble_eq_true rfl, Nat.le_of_ble_eq_true rfl⟩) hS (fun q _ h => hFc q h) hFc (fun r23 u t H1 locs ht hvm hw hB hz1 hk1 hS => ?_)
          have c24 := hw
          obtain ⟨hP, hD⟩ := wd_post hFc ht hB
          generalize H1 = H at hP hS ⊢
          obtain rfl : f_X2_pitchDiameter S r2 = r23 := c24.symm
          have i25 := pd_i ((hW.at o5 List.not_mem_nil).to_2 o5.2.1)
          refine lv_i2l hx hb dX9_section_36 rfl ?_
          refine lv_lstore (lv' := [(7, .long ((f_X2_pitchDiameter S r2).toInt64)), (6, .ref r7), (5, .ref r2), (0, .ref o1), (1, .int x1), (2, .int x2), (3, .int x3), (4, .int x4)]) hx hb dX9_section_37 hl (by decide) rfl (fun ls hl => ?_)
          refine lv_aload hx hb dX9_section_39 (lv_at hl 1 rfl) ?_
          have hFc := free_all hD hS hA
          obtain ⟨k26, gk26, hk26⟩ := wGt (cy := cy) X S o10.1 o10.2.1
          refine va_calli (va_runV (As := []) (rest := []) ⟨hx, hb, hml, hown, hts⟩ (c_X2_pitchDiameter l (cy := cy) (X := X) (D := D) S _ r7 o10) (cwV 0 hts gX9_section_X2_pitchDiameter rfl rfl rfl hd_X2_pitchDiameter ⟨Nat.le_of_ble_eq_true rfl, Nat.le_of_ble_eq_true rfl⟩) (pV (va_recv hK hP (q := (RX2, TX2, 20)) (ci := 6) (q0 := k26) rfl hk26) hP hK hD hN) rfl rfl hl.1 rfl (lv_room (Nat.le_of_ble_eq_true rfl)) dX9_section_41 ⟨Nat.le_of_ble_eq_true rfl, Nat.le_of_ble_eq_true rfl⟩) hS (fun q _ h => hFc q h) hFc (fun r27 u t H1 locs ht hvm hw hB hz1 hk1 hS => ?_)
          have c28 := hw
          obtain ⟨hP, hD⟩ := wd_post hFc ht hB
          generalize H1 = H at hP hS ⊢
          obtain rfl : f_X2_pitchDiameter S r7 = r27 := c28.symm
          have i29 := pd_i ((hW.at o10 List.not_mem_nil).to_2 o10.2.1)
          refine lv_i2l hx hb dX9_section_44 rfl ?_
          refine lv_lstore (lv' := [(9, .long ((f_X2_pitchDiameter S r7).toInt64)), (7, .long ((f_X2_pitchDiameter S r2).toInt64)), (6, .ref r7), (5, .ref r2), (0, .ref o1), (1, .int x1), (2, .int x2), (3, .int x3), (4, .int x4)]) hx hb dX9_section_45 hl (by decide) rfl (fun ls hl => ?_)
          refine lv_lload hx hb dX9_section_47 (lv_at hl 1 rfl) ?_
          refine lv_lload hx hb dX9_section_49 (lv_at hl 1 rfl) ?_
          refine lv_lmul hx hb dX9_section_51 ?_
          refine lv_lload hx hb dX9_section_52 (lv_at hl 0 rfl) ?_
          refine lv_lload hx hb dX9_section_54 (lv_at hl 0 rfl) ?_
          refine lv_lmul hx hb dX9_section_56 ?_
          refine lv_ladd hx hb dX9_section_57 ?_
          have hFc := free_all hD hS hA
          refine va_calll (va_runS (As := [.long ((((f_X2_pitchDiameter S r2).toInt64) * ((f_X2_pitchDiameter S r2).toInt64)) + (((f_X2_pitchDiameter S r7).toInt64) * ((f_X2_pitchDiameter S r7).toInt64)))]) (rest := []) ⟨hx, hb, hml, hown, hts⟩ (c_X9_root l (cy := cy) (X := X) (D := D) S _ ((((f_X2_pitchDiameter S r2).toInt64) * ((f_X2_pitchDiameter S r2).toInt64)) + (((f_X2_pitchDiameter S r7).toInt64) * ((f_X2_pitchDiameter S r7).toInt64)))) (cwS 1 hts gX9_section_X9_root rfl rfl rfl hd_X9_root ⟨Nat.le_of_ble_eq_true rfl, Nat.le_of_ble_eq_true rfl⟩) (pS hP hK hD hN) rfl rfl hl.1 rfl (lv_room (Nat.le_of_ble_eq_true rfl)) dX9_section_58 ⟨Nat.le_of_ble_eq_true rfl, Nat.le_of_ble_eq_true rfl⟩) hS (fun q _ h => hFc q h) hFc (fun r30 u t H1 locs ht hvm hw hB hz1 hk1 hS => ?_)
          have c31 := hw
          obtain ⟨hP, hD⟩ := wd_post hFc ht hB
          generalize H1 = H at hP hS ⊢
          obtain rfl : f_X9_root ((((f_X2_pitchDiameter S r2).toInt64) * ((f_X2_pitchDiameter S r2).toInt64)) + (((f_X2_pitchDiameter S r7).toInt64) * ((f_X2_pitchDiameter S r7).toInt64))) = r30 := c31.symm
          refine lv_ldc2 (own := RX9) (v := 2) hx hb hown (hts (.constantLong RX9 158 (2)) (by decide +kernel)) dX9_section_61 ?_
          refine lv_ldiv hx hb dX9_section_64 (by decide) ?_
          refine lv_lstore (lv' := [(11, .long ((f_X9_root ((((f_X2_pitchDiameter S r2).toInt64) * ((f_X2_pitchDiameter S r2).toInt64)) + (((f_X2_pitchDiameter S r7).toInt64) * ((f_X2_pitchDiameter S r7).toInt64)))) / (2 : Int64))), (9, .long ((f_X2_pitchDiameter S r7).toInt64)), (7, .long ((f_X2_pitchDiameter S r2).toInt64)), (6, .ref r7), (5, .ref r2), (0, .ref o1), (1, .int x1), (2, .int x2), (3, .int x3), (4, .int x4)]) hx hb dX9_section_65 hl (by decide) rfl (fun ls hl => ?_)
          refine lv_aload hx hb dX9_section_67 (lv_at hl 4 rfl) ?_
          obtain ⟨k32, gk32, hk32⟩ := wGt (cy := cy) X S o5.1 o5.2.1
          have i33 := ((hW.at o5 List.not_mem_nil).to_2 o5.2.1).R4
          refine va_get (D := D) (ci := 6) (v := .int (S.I r2 4)) (C := RX2) (T := TX2) (N := 20) hx hb hts hi_X9_section_X2 hown hK hP k32 hk32 rfl 4 (by decide) (hts (.fieldLink RX9 160 "Hobhouse$Gear" "width" "I") (by decide +kernel)) (fun _ h9 => h9) rfl dX9_section_69 ?_
          refine lv_i2l hx hb dX9_section_72 rfl ?_
          refine lv_lload hx hb dX9_section_73 (lv_at hl 0 rfl) ?_
          refine lv_ldc2 (own := RX9) (v := 3) hx hb hown (hts (.constantLong RX9 163 (3)) (by decide +kernel)) dX9_section_75 ?_
          refine lv_ldiv hx hb dX9_section_78 (by decide) ?_
          refine W.lcmp hx hb dX9_section_79 ?_
          refine lv_if_gt (tgt := 107) hx hb dX9_section_80 (by decide) (fun c34 => ?_) (fun c34 => ?_)
          · refine lv_iconst (v := 0) hx hb dX9_section_107 (by decide) ?_
            have hFc := free_all hD hS hA
            refine vx_callv (vx_runS (As := [.int (0 : Int32)]) (rest := []) ⟨hx, hb, hml, hown, hts⟩ (c_X9_allowOnly l hst (cy := cy) (X := X) (D := D) S _ (0 : Int32)) (cwS 1 hts gX9_section_X9_allowOnly rfl rfl rfl hd_X9_allowOnly ⟨Nat.le_of_ble_eq_true rfl, Nat.le_of_ble_eq_true rfl⟩) (pSt hP hK hD hN hTH hS hFc) rfl rfl hl.1 rfl (lv_room (Nat.le_of_ble_eq_true rfl)) dX9_section_108 ⟨Nat.le_of_ble_eq_true rfl, Nat.le_of_ble_eq_true rfl⟩) hS (fun q _ h => hFc q h) hFc (fun q _ h => hFc q h) (fun E ce q9 u t H1 locs ht hvm hw hB hz1 hk1 hS hq9 hce hcl => ?_) (fun u t H1 locs ht hvm hw hB hz1 hk1 hS => ?_)
            · obtain ⟨c36, hEc36, hB2⟩ := hB
              obtain ⟨hP, hD⟩ := wd_post hFc ht hB2
              exact vx_out (fun x h => (hno x h).elim) hlocks hq9 hce hcl (fun t2 ht2 hA2 => ⟨(), trivial, ⟨(by show f_X9_section S o1 x1 x2 x3 x4 = .error E; unfold f_X9_section; rw [eB_ok c4, eB_ok c9, eB_ok c13, eB_ok c19, if_pos c34, eB_er c36]), (el_in (by decide) hEc36), wd_end hP hK hD ht2 hA2⟩, hS.F ht2⟩) hS.2.2 (Nat.le_of_ble_eq_true rfl) (Nat.le_of_ble_eq_true rfl)
            · have c37 := hw
              obtain ⟨hP, hD⟩ := wd_post hFc ht hB
              generalize H1 = H at hP hS ⊢
              exact absurd rfl (ao_i c37)
          · refine lv_aload hx hb dX9_section_83 (lv_at hl 4 rfl) ?_
            obtain ⟨k38, gk38, hk38⟩ := wGt (cy := cy) X S o5.1 o5.2.1
            have i39 := ((hW.at o5 List.not_mem_nil).to_2 o5.2.1).R2
            refine va_get (D := D) (ci := 6) (v := .int (S.I r2 2)) (C := RX2) (T := TX2) (N := 20) hx hb hts hi_X9_section_X2 hown hK hP k38 hk38 rfl 2 (by decide) (hts (.fieldLink RX9 165 "Hobhouse$Gear" "module" "I") (by decide +kernel)) (fun _ h9 => h9) rfl dX9_section_85 ?_
            refine lv_aload hx hb dX9_section_88 (lv_at hl 3 rfl) ?_
            obtain ⟨k40, gk40, hk40⟩ := wGt (cy := cy) X S o10.1 o10.2.1
            have i41 := ((hW.at o10 List.not_mem_nil).to_2 o10.2.1).R2
            refine va_get (D := D) (ci := 6) (v := .int (S.I r7 2)) (C := RX2) (T := TX2) (N := 20) hx hb hts hi_X9_section_X2 hown hK hP k40 hk40 rfl 2 (by decide) (hts (.fieldLink RX9 165 "Hobhouse$Gear" "module" "I") (by decide +kernel)) (fun _ h9 => h9) rfl dX9_section_90 ?_
            refine lv_icmp_ne (tgt := 107) hx hb dX9_section_93 (by decide) (fun c42 => ?_) (fun c42 => ?_)
            · have c42i : ¬ (S.I r2 2).toInt = (S.I r7 2).toInt := neq_v rfl rfl c42
              refine lv_iconst (v := 0) hx hb dX9_section_107 (by decide) ?_
              have hFc := free_all hD hS hA
              refine vx_callv (vx_runS (As := [.int (0 : Int32)]) (rest := []) ⟨hx, hb, hml, hown, hts⟩ (c_X9_allowOnly l hst (cy := cy) (X := X) (D := D) S _ (0 : Int32)) (cwS 1 hts gX9_section_X9_allowOnly rfl rfl rfl hd_X9_allowOnly ⟨Nat.le_of_ble_eq_true rfl, Nat.le_of_ble_eq_true rfl⟩) (pSt hP hK hD hN hTH hS hFc) rfl rfl hl.1 rfl (lv_room (Nat.le_of_ble_eq_true rfl)) dX9_section_108 ⟨Nat.le_of_ble_eq_true rfl, Nat.le_of_ble_eq_true rfl⟩) hS (fun q _ h => hFc q h) hFc (fun q _ h => hFc q h) (fun E ce q9 u t H1 locs ht hvm hw hB hz1 hk1 hS hq9 hce hcl => ?_) (fun u t H1 locs ht hvm hw hB hz1 hk1 hS => ?_)
              · obtain ⟨c44, hEc44, hB2⟩ := hB
                obtain ⟨hP, hD⟩ := wd_post hFc ht hB2
                exact vx_out (fun x h => (hno x h).elim) hlocks hq9 hce hcl (fun t2 ht2 hA2 => ⟨(), trivial, ⟨(by show f_X9_section S o1 x1 x2 x3 x4 = .error E; unfold f_X9_section; rw [eB_ok c4, eB_ok c9, eB_ok c13, eB_ok c19, if_neg c34, if_neg c42, eB_er c44]), (el_in (by decide) hEc44), wd_end hP hK hD ht2 hA2⟩, hS.F ht2⟩) hS.2.2 (Nat.le_of_ble_eq_true rfl) (Nat.le_of_ble_eq_true rfl)
              · have c45 := hw
                obtain ⟨hP, hD⟩ := wd_post hFc ht hB
                generalize H1 = H at hP hS ⊢
                exact absurd rfl (ao_i c45)
            · have c42i : (S.I r2 2).toInt = (S.I r7 2).toInt := eq_v rfl rfl c42
              refine lv_lload hx hb dX9_section_96 (lv_at hl 0 rfl) ?_
              refine lv_lconst (v := 0) hx hb dX9_section_98 (by decide) ?_
              refine W.lcmp hx hb dX9_section_99 ?_
              refine lv_if_le (tgt := 107) hx hb dX9_section_100 (by decide) (fun c46 => ?_) (fun c46 => ?_)
              · refine lv_iconst (v := 0) hx hb dX9_section_107 (by decide) ?_
                have hFc := free_all hD hS hA
                refine vx_callv (vx_runS (As := [.int (0 : Int32)]) (rest := []) ⟨hx, hb, hml, hown, hts⟩ (c_X9_allowOnly l hst (cy := cy) (X := X) (D := D) S _ (0 : Int32)) (cwS 1 hts gX9_section_X9_allowOnly rfl rfl rfl hd_X9_allowOnly ⟨Nat.le_of_ble_eq_true rfl, Nat.le_of_ble_eq_true rfl⟩) (pSt hP hK hD hN hTH hS hFc) rfl rfl hl.1 rfl (lv_room (Nat.le_of_ble_eq_true rfl)) dX9_section_108 ⟨Nat.le_of_ble_eq_true rfl, Nat.le_of_ble_eq_true rfl⟩) hS (fun q _ h => hFc q h) hFc (fun q _ h => hFc q h) (fun E ce q9 u t H1 locs ht hvm hw hB hz1 hk1 hS hq9 hce hcl => ?_) (fun u t H1 locs ht hvm hw hB hz1 hk1 hS => ?_)
                · obtain ⟨c48, hEc48, hB2⟩ := hB
                  obtain ⟨hP, hD⟩ := wd_post hFc ht hB2
                  exact vx_out (fun x h => (hno x h).elim) hlocks hq9 hce hcl (fun t2 ht2 hA2 => ⟨(), trivial, ⟨(by show f_X9_section S o1 x1 x2 x3 x4 = .error E; unfold f_X9_section; rw [eB_ok c4, eB_ok c9, eB_ok c13, eB_ok c19, if_neg c34, if_pos c42, if_pos c46, eB_er c48]), (el_in (by decide) hEc48), wd_end hP hK hD ht2 hA2⟩, hS.F ht2⟩) hS.2.2 (Nat.le_of_ble_eq_true rfl) (Nat.le_of_ble_eq_true rfl)
                · have c49 := hw
                  obtain ⟨hP, hD⟩ := wd_post hFc ht hB
                  generalize H1 = H at hP hS ⊢
                  exact absurd rfl (ao_i c49)
              · refine lv_iconst (v := 1) hx hb dX9_section_103 (by decide) ?_
                refine lv_goto (tgt := 108) hx hb dX9_section_104 (by decide) ?_
                have hFc := free_all hD hS hA
                refine vx_callv (vx_runS (As := [.int (1 : Int32)]) (rest := []) ⟨hx, hb, hml, hown, hts⟩ (c_X9_allowOnly l hst (cy := cy) (X := X) (D := D) S _ (1 : Int32)) (cwS 1 hts gX9_section_X9_allowOnly rfl rfl rfl hd_X9_allowOnly ⟨Nat.le_of_ble_eq_true rfl, Nat.le_of_ble_eq_true rfl⟩) (pSt hP hK hD hN hTH hS hFc) rfl rfl hl.1 rfl (lv_room (Nat.le_of_ble_eq_true rfl)) dX9_section_108 ⟨Nat.le_of_ble_eq_true rfl, Nat.le_of_ble_eq_true rfl⟩) hS (fun q _ h => hFc q h) hFc (fun q _ h => hFc q h) (fun E ce q9 u t H1 locs ht hvm hw hB hz1 hk1 hS hq9 hce hcl => ?_) (fun u t H1 locs ht hvm hw hB hz1 hk1 hS => ?_)
                · obtain ⟨c51, hEc51, hB2⟩ := hB
                  obtain ⟨hP, hD⟩ := wd_post hFc ht hB2
                  exact vx_out (fun x h => (hno x h).elim) hlocks hq9 hce hcl (fun t2 ht2 hA2 => ⟨(), trivial, ⟨(by show f_X9_section S o1 x1 x2 x3 x4 = .error E; unfold f_X9_section; rw [eB_ok c4, eB_ok c9, eB_ok c13, eB_ok c19, if_neg c34, if_pos c42, if_neg c46, eB_er c51]), (el_in (by decide) hEc51), wd_end hP hK hD ht2 hA2⟩, hS.F ht2⟩) hS.2.2 (Nat.le_of_ble_eq_true rfl) (Nat.le_of_ble_eq_true rfl)
                · have c52 := hw
                  obtain ⟨hP, hD⟩ := wd_post hFc ht hB
                  generalize H1 = H at hP hS ⊢
                  have i53 := ao_i c52
                  refine lv_lload hx hb dX9_section_111 (lv_at hl 0 rfl) ?_
                  refine lv_aload hx hb dX9_section_113 (lv_at hl 4 rfl) ?_
                  obtain ⟨k54, gk54, hk54⟩ := wGt (cy := cy) X S o5.1 o5.2.1
                  refine va_get (D := D) (ci := 6) (v := .int (S.I r2 4)) (C := RX2) (T := TX2) (N := 20) hx hb hts hi_X9_section_X2 hown hK hP k54 hk54 rfl 4 (by decide) (hts (.fieldLink RX9 160 "Hobhouse$Gear" "width" "I") (by decide +kernel)) (fun _ h9 => h9) rfl dX9_section_115 ?_
                  refine lv_i2l hx hb dX9_section_118 rfl ?_
                  refine lv_iload_n hx hb dX9_section_119 rfl (lv_at hl 8 rfl) ?_
                  refine lv_i2l hx hb dX9_section_120 rfl ?_
                  refine lv_lmul hx hb dX9_section_121 ?_
                  refine lv_iload hx hb dX9_section_122 (lv_at hl 9 rfl) ?_
                  refine lv_i2l hx hb dX9_section_124 rfl ?_
                  refine lv_ldiv hx hb dX9_section_125 (nz_l (by omega)) ?_
                  refine lv_lsub hx hb dX9_section_126 ?_
                  refine lv_lstore (lv' := [(13, .long (((f_X9_root ((((f_X2_pitchDiameter S r2).toInt64) * ((f_X2_pitchDiameter S r2).toInt64)) + (((f_X2_pitchDiameter S r7).toInt64) * ((f_X2_pitchDiameter S r7).toInt64)))) / (2 : Int64)) - ((((S.I r2 4).toInt64) * x3.toInt64) / x4.toInt64))), (11, .long ((f_X9_root ((((f_X2_pitchDiameter S r2).toInt64) * ((f_X2_pitchDiameter S r2).toInt64)) + (((f_X2_pitchDiameter S r7).toInt64) * ((f_X2_pitchDiameter S r7).toInt64)))) / (2 : Int64))), (9, .long ((f_X2_pitchDiameter S r7).toInt64)), (7, .long ((f_X2_pitchDiameter S r2).toInt64)), (6, .ref r7), (5, .ref r2), (0, .ref o1), (1, .int x1), (2, .int x2), (3, .int x3), (4, .int x4)]) hx hb dX9_section_127 hl (by decide) rfl (fun ls hl => ?_)
                  refine lv_aload hx hb dX9_section_129 (lv_at hl 5 rfl) ?_
                  obtain ⟨k55, gk55, hk55⟩ := wGt (cy := cy) X S o5.1 o5.2.1
                  refine va_get (D := D) (ci := 6) (v := .int (S.I r2 2)) (C := RX2) (T := TX2) (N := 20) hx hb hts hi_X9_section_X2 hown hK hP k55 hk55 rfl 2 (by decide) (hts (.fieldLink RX9 165 "Hobhouse$Gear" "module" "I") (by decide +kernel)) (fun _ h9 => h9) rfl dX9_section_131 ?_
                  refine lv_i2l hx hb dX9_section_134 rfl ?_
                  refine lv_lload hx hb dX9_section_135 (lv_at hl 0 rfl) ?_
                  refine lv_lmul hx hb dX9_section_137 ?_
                  refine lv_lload hx hb dX9_section_138 (lv_at hl 1 rfl) ?_
                  refine lv_ldiv hx hb dX9_section_140 (nz_le c46) ?_
                  refine lv_l2i hx hb dX9_section_141 rfl ?_
                  refine vx_ret ?_
                  refine W.widen (k := 5) (n := 30) (Nat.le_of_ble_eq_true rfl) (Nat.le_of_ble_eq_true rfl) ?_
                  exact W.iret (v := ((((S.I r2 2).toInt64) * (((f_X9_root ((((f_X2_pitchDiameter S r2).toInt64) * ((f_X2_pitchDiameter S r2).toInt64)) + (((f_X2_pitchDiameter S r7).toInt64) * ((f_X2_pitchDiameter S r7).toInt64)))) / (2 : Int64)) - ((((S.I r2 4).toInt64) * x3.toInt64) / x4.toInt64))) / ((f_X9_root ((((f_X2_pitchDiameter S r2).toInt64) * ((f_X2_pitchDiameter S r2).toInt64)) + (((f_X2_pitchDiameter S r7).toInt64) * ((f_X2_pitchDiameter S r7).toInt64)))) / (2 : Int64))).toInt32) hx hb hr (fun t ht hW9 => ⟨⟨((((S.I r2 2).toInt64) * (((f_X9_root ((((f_X2_pitchDiameter S r2).toInt64) * ((f_X2_pitchDiameter S r2).toInt64)) + (((f_X2_pitchDiameter S r7).toInt64) * ((f_X2_pitchDiameter S r7).toInt64)))) / (2 : Int64)) - ((((S.I r2 4).toInt64) * x3.toInt64) / x4.toInt64))) / ((f_X9_root ((((f_X2_pitchDiameter S r2).toInt64) * ((f_X2_pitchDiameter S r2).toInt64)) + (((f_X2_pitchDiameter S r7).toInt64) * ((f_X2_pitchDiameter S r7).toInt64)))) / (2 : Int64))).toInt32, (), rfl, (by show f_X9_section S o1 x1 x2 x3 x4 = .ok (((((S.I r2 2).toInt64) * (((f_X9_root ((((f_X2_pitchDiameter S r2).toInt64) * ((f_X2_pitchDiameter S r2).toInt64)) + (((f_X2_pitchDiameter S r7).toInt64) * ((f_X2_pitchDiameter S r7).toInt64)))) / (2 : Int64)) - ((((S.I r2 4).toInt64) * x3.toInt64) / x4.toInt64))) / ((f_X9_root ((((f_X2_pitchDiameter S r2).toInt64) * ((f_X2_pitchDiameter S r2).toInt64)) + (((f_X2_pitchDiameter S r7).toInt64) * ((f_X2_pitchDiameter S r7).toInt64)))) / (2 : Int64))).toInt32); unfold f_X9_section; rw [eB_ok c4, eB_ok c9, eB_ok c13, eB_ok c19, if_neg c34, if_pos c42, if_neg c46, eB_ok c52]), wd_end hP hK hD ht hW9.alike⟩, hS.F ht⟩) hS.2.2 dX9_section_142 hlocks
