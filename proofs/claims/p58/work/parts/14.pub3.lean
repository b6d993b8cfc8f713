def f_X9_hobAt (S : wPS) (o1 : Nat) (x1 : Int32) : Except String Nat := if x1 < (0 : Int32) then .error "java/lang/IndexOutOfBoundsException" else if x1 < (S.I o1 3) then .ok (S.q (S.f o1 2) x1.toNatClampNeg) else .error "java/lang/IndexOutOfBoundsException"
set_option maxRecDepth 20000 in
theorem s_X9_hobAt_IOOBE : ∀ w ∈ (vx_atS RX9 297 "java/lang/IndexOutOfBoundsException" ["java/lang/RuntimeException", "java/lang/Exception"]).filter goodWord, w ∈ wsX9_hobAt := fun w h => List.mem_cons_of_mem _ (List.mem_append_right _ h)
theorem hi_X9_hobAt_X9 : ∀ w ∈ u_ws RX9 TX9 11, w ∈ wsX9_hobAt := by decide +kernel
theorem hd_X9_hobAt : yX9_hobAt.cls = RX9 ∧ yX9_hobAt.cls ≠ "java/lang/invoke/MethodHandle" ∧ yX9_hobAt.cls ≠ "java/lang/invoke/VarHandle" ∧ (parseMethodDescriptor yX9_hobAt.desc).map (fun d => d.parameters.length) = some 1 := by decide +kernel
set_option maxHeartbeats 4000000 in
set_option maxRecDepth 100000 in
theorem c_X9_hobAt (l : Launch) (hst : l.stackTraces = false) {D : va_G} {cy : Nat → ClassId} {X : va_W} (S : wPS) (sz : Nat) (o1 : Nat) (h_o1 : isA S o1 9) (x1 : Int32) (hW : wtB S [])  : vx_Met l yX9_hobAt wsX9_hobAt ({ frames := 6, cells := 1, slots := 6, locals := 82 }) (va_Pc [.ref o1, .int x1] (fun U => U.heap.size = sz ∧ WD D cy X (fun _ => True) S U ∧ NW U ∧ TH (va_A (X ++ PL cy S) sz) U)) (va_Qq (fun r (_ : Unit) => ∃ a : Nat, r = some a ∧ f_X9_hobAt S o1 x1 = .ok a ∧ isA S a 3) (fun _ t => WD D cy X (va_A (X ++ PL cy S) sz) S t) (va_A (X ++ PL cy S) sz)) (vx_X (fun (_ : Unit) => True) (fun E _ t => f_X9_hobAt S o1 x1 = .error E ∧ E ∈ ["java/lang/IndexOutOfBoundsException"] ∧ WD D cy X (va_A (X ++ PL cy S) sz) S t) (va_A (X ++ PL cy S) sz)) 1 6 (va_A (X ++ PL cy S) sz) := by
  refine vx_ofW (cc := cX9_hobAt) (maxL := 2) (ret := (some (.object "Hobhouse$Hob"))) (by decide) rfl ?_
  intro p e s m args below meth c s₁ B hml hno hv
  obtain ⟨rfl, hsz, ⟨hP, hK, hD0⟩, hN, hTH⟩ := hv
  have hx := B.exec
  have hb := B.bytes
  have hr := B.returns
  have hts := atoms_spec (ws := wsX9_hobAt) B.pre
  have hown : s.vm.findClass RX9 = some m.cls := findClass_of_methodNamed (x := yX9_hobAt) B.named
  have hlocks := B.notSynchronized
  subst hsz
  have hD := hD0.self (sz := s.heap.size)
  generalize hAe : va_A (X ++ PL cy S) s.heap.size = A at hD hTH ⊢
  have hA : ∀ q : Nat, s.heap.size ≤ q → A q := fun q h => by rw [← hAe]; exact Or.inr h
  have hS : va_S A s.heap s.heap [] := va_S.rf
  have hl := lv_entry ([.ref o1, .int x1]) (n := 2) (Nat.le_of_ble_eq_true rfl)
  rw [lg_entry_eq]
  generalize (lg_sl ([.ref o1, .int x1]) ++ List.replicate (2 - (lg_sl ([.ref o1, .int x1])).length) Slot.unset).toArray = ls at hl ⊢
  have hl : lv_has ls 2 [(0, .ref o1), (1, .int x1)] := hl
  refine lv_iload_n hx hb dX9_hobAt_0 rfl (lv_at hl 1 rfl) ?_
  refine lv_if_lt (tgt := 12) hx hb dX9_hobAt_1 (by decide) (fun c1 => ?_) (fun c1 => ?_)
  · have c1i : x1.toInt < 0 := lt_v rfl rfl c1
    obtain ⟨sa, hsa⟩ := hTH.2.2 (RX9, 523, "there is no such hob") (by decide +kernel)
    exact vx_throwSW hx hb hst (names := ["java/lang/RuntimeException", "java/lang/Exception"]) hown (by decide +kernel) (by decide +kernel) (hts (.classLink RX9 293 "java/lang/IndexOutOfBoundsException") (by decide +kernel)) (hts (.initialized "java/lang/IndexOutOfBoundsException") (by decide +kernel)) hsa (th_at (B := exW_X9_IOOBE) (fun w h => hts w (s_X9_hobAt_IOOBE w h)) rfl (by simp only [exW, List.mem_append]; intro w h; simp [h]) hTH.2.1) (List.forall_mem_cons.mpr ⟨by decide +kernel, List.forall_mem_cons.mpr ⟨by decide +kernel, exW_X9_IOOBE_ok⟩⟩) hTH.1.1 hTH.1.2 hS (hl.1.trans hml.symm) dX9_hobAt_12 dX9_hobAt_15 dX9_hobAt_16 dX9_hobAt_19 dX9_hobAt_22 (fun x h => (hno x h).elim) (Nat.le_of_ble_eq_true rfl) (Nat.le_of_ble_eq_true rfl) (Nat.le_of_ble_eq_true rfl) (Nat.le_of_ble_eq_true rfl) hlocks (fun t hA2 h1 h2 => ⟨(), trivial, ⟨(by show f_X9_hobAt S o1 x1 = .error "java/lang/IndexOutOfBoundsException"; unfold f_X9_hobAt; rw [if_pos c1]), (by decide), wd_exc hP hK hD hA2 h2⟩, exc_F hS h1 h2⟩) hS.2.2 (Nat.le_of_ble_eq_true rfl) (Nat.le_of_ble_eq_true rfl)
  · have c1i : 0 ≤ x1.toInt := nlt_v rfl rfl c1
    refine lv_iload_n hx hb dX9_hobAt_4 rfl (lv_at hl 1 rfl) ?_
    refine lv_aload_n hx hb dX9_hobAt_5 rfl (lv_at hl 0 rfl) ?_
    obtain ⟨k2, gk2, hk2⟩ := wGt (cy := cy) X S h_o1.1 h_o1.2.1
    have i3 := ((hW.at h_o1 List.not_mem_nil).to_9 h_o1.2.1).R3
    refine va_get (D := D) (ci := 13) (v := .int (S.I o1 3)) (C := RX9) (T := TX9) (N := 11) hx hb hts hi_X9_hobAt_X9 hown hK hP k2 hk2 rfl 3 (by decide) (hts (.fieldLink RX9 249 "Hobhouse" "hobCount" "I") (by decide +kernel)) (fun _ h9 => h9) rfl dX9_hobAt_6 ?_
    refine lv_icmp_lt (tgt := 23) hx hb dX9_hobAt_9 (by decide) (fun c4 => ?_) (fun c4 => ?_)
    · have c4i : x1.toInt < (S.I o1 3).toInt := lt_v rfl rfl c4
      refine lv_aload_n hx hb dX9_hobAt_23 rfl (lv_at hl 0 rfl) ?_
      have F5 := ((hW.at h_o1 List.not_mem_nil).to_9 h_o1.2.1).F2
      obtain ⟨k6, gk6, hk6⟩ := wGt (cy := cy) X S h_o1.1 h_o1.2.1
      simp only [kE, F5.1] at hk6
      refine va_get (D := D) (ci := 13) (v := .ref (S.f o1 2)) (C := RX9) (T := TX9) (N := 11) hx hb hts hi_X9_hobAt_X9 hown hK hP k6 hk6 rfl 2 (by decide) (hts (.fieldLink RX9 17 "Hobhouse" "hobs" "[LHobhouse$Hob;") (by decide +kernel)) (fun _ h9 => h9) rfl dX9_hobAt_24 ?_
      refine lv_iload_n hx hb dX9_hobAt_27 rfl (lv_at hl 1 rfl) ?_
      obtain ⟨k7, gk7, hk7⟩ := wGt (cy := cy) X S F5.2.1.1 F5.2.1.2.1
      have i9 := cl_int (i := x1) (by omega)
      have g8 := elq (by have h9 := ((hW.at h_o1 List.not_mem_nil).to_9 h_o1.2.1).E2 x1.toNatClampNeg (by omega); rw [f_of F5.1] at h9; exact h9)
      refine va_aldq hx hb hK hP k7 5 hk7 rfl (inb (m := 8) F5.2.2 (by omega) (by omega)) dX9_hobAt_28 ?_
      rw [g8.1]
      refine W.eq (g2 := F0 m 29 ls [.ref (S.q (S.f o1 2) x1.toNatClampNeg)]) rfl ?_
      refine vx_ret ?_
      refine W.widen (k := 1) (n := 6) (Nat.le_of_ble_eq_true rfl) (Nat.le_of_ble_eq_true rfl) ?_
      exact W.aret (v := .ref (S.q (S.f o1 2) x1.toNatClampNeg)) hx hb hr (Or.inl ⟨_, rfl⟩) (Or.inr ⟨_, rfl⟩) (fun t ht hW9 => ⟨⟨some (S.q (S.f o1 2) x1.toNatClampNeg), (), rfl, ⟨(S.q (S.f o1 2) x1.toNatClampNeg), rfl, (by show f_X9_hobAt S o1 x1 = .ok (S.q (S.f o1 2) x1.toNatClampNeg); unfold f_X9_hobAt; rw [if_neg c1, if_pos c4]), g8.2⟩, wd_end hP hK hD ht hW9.alike⟩, hS.F ht⟩) hS.2.2 dX9_hobAt_29 hlocks
    · have c4i : (S.I o1 3).toInt ≤ x1.toInt := nlt_v rfl rfl c4
      obtain ⟨sa, hsa⟩ := hTH.2.2 (RX9, 523, "there is no such hob") (by decide +kernel)
      exact vx_throwSW hx hb hst (names := ["java/lang/RuntimeException", "java/lang/Exception"]) hown (by decide +kernel) (by decide +kernel) (hts (.classLink RX9 293 "java/lang/IndexOutOfBoundsException") (by decide +kernel)) (hts (.initialized "java/lang/IndexOutOfBoundsException") (by decide +kernel)) hsa (th_at (B := exW_X9_IOOBE) (fun w h => hts w (s_X9_hobAt_IOOBE w h)) rfl (by simp only [exW, List.mem_append]; intro w h; simp [h]) hTH.2.1) (List.forall_mem_cons.mpr ⟨by decide +kernel, List.forall_mem_cons.mpr ⟨by decide +kernel, exW_X9_IOOBE_ok⟩⟩) hTH.1.1 hTH.1.2 hS (hl.1.trans hml.symm) dX9_hobAt_12 dX9_hobAt_15 dX9_hobAt_16 dX9_hobAt_19 dX9_hobAt_22 (fun x h => (hno x h).elim) (Nat.le_of_ble_eq_true rfl) (Nat.le_of_ble_eq_true rfl) (Nat.le_of_ble_eq_true rfl) (Nat.le_of_ble_eq_true rfl) hlocks (fun t hA2 h1 h2 => ⟨(), trivial, ⟨(by show f_X9_hobAt S o1 x1 = .error "java/lang/IndexOutOfBoundsException"; unfold f_X9_hobAt; rw [if_neg c1, if_neg c4]), (by decide), wd_exc hP hK hD hA2 h2⟩, exc_F hS h1 h2⟩) hS.2.2 (Nat.le_of_ble_eq_true rfl) (Nat.le_of_ble_eq_true rfl)
def f_X9_approach (S : wPS) (o1 : Nat) (x1 : Int32) : Except String Int32 := eB (f_X9_hobAt S o1 x1) (fun r2 => .ok ((f_X3_wayIn S r2).toInt32))
theorem hd_X9_approach : yX9_approach.cls = RX9 ∧ yX9_approach.cls ≠ "java/lang/invoke/MethodHandle" ∧ yX9_approach.cls ≠ "java/lang/invoke/VarHandle" ∧ (parseMethodDescriptor yX9_approach.desc).map (fun d => d.parameters.length) = some 1 := by decide +kernel
set_option maxHeartbeats 4000000 in
set_option maxRecDepth 100000 in
theorem c_X9_approach (l : Launch) (hst : l.stackTraces = false) {D : va_G} {cy : Nat → ClassId} {X : va_W} (S : wPS) (sz : Nat) (o1 : Nat) (h_o1 : isA S o1 9) (x1 : Int32) (hW : wtB S [])  : vx_Met l yX9_approach wsX9_approach ({ frames := 7, cells := 1, slots := 6, locals := 103 }) (va_Pc [.ref o1, .int x1] (fun U => U.heap.size = sz ∧ WD D cy X (fun _ => True) S U ∧ NW U ∧ TH (va_A (X ++ PL cy S) sz) U)) (va_Qi (fun r (_ : Unit) => f_X9_approach S o1 x1 = .ok r) (fun _ t => WD D cy X (va_A (X ++ PL cy S) sz) S t) (va_A (X ++ PL cy S) sz)) (vx_X (fun (_ : Unit) => True) (fun E _ t => f_X9_approach S o1 x1 = .error E ∧ E ∈ ["java/lang/IndexOutOfBoundsException"] ∧ WD D cy X (va_A (X ++ PL cy S) sz) S t) (va_A (X ++ PL cy S) sz)) 1 6 (va_A (X ++ PL cy S) sz) := by
  refine vx_ofW (cc := cX9_approach) (maxL := 2) (ret := (some .int)) (by decide) rfl ?_
  intro p e s m args below meth c s₁ B hml hno hv
  obtain ⟨rfl, hsz, ⟨hP, hK, hD0⟩, hN, hTH⟩ := hv
  have hx := B.exec
  have hb := B.bytes
  have hr := B.returns
  have hts := atoms_spec (ws := wsX9_approach) B.pre
  have hown : s.vm.findClass RX9 = some m.cls := findClass_of_methodNamed (x := yX9_approach) B.named
  have hlocks := B.notSynchronized
  subst hsz
  have hD := hD0.self (sz := s.heap.size)
  generalize hAe : va_A (X ++ PL cy S) s.heap.size = A at hD hTH ⊢
  have hA : ∀ q : Nat, s.heap.size ≤ q → A q := fun q h => by rw [← hAe]; exact Or.inr h
  have hS : va_S A s.heap s.heap [] := va_S.rf
  have hl := lv_entry ([.ref o1, .int x1]) (n := 2) (Nat.le_of_ble_eq_true rfl)
  rw [lg_entry_eq]
  generalize (lg_sl ([.ref o1, .int x1]) ++ List.replicate (2 - (lg_sl ([.ref o1, .int x1])).length) Slot.unset).toArray = ls at hl ⊢
  have hl : lv_has ls 2 [(0, .ref o1), (1, .int x1)] := hl
  refine lv_aload_n hx hb dX9_approach_0 rfl (lv_at hl 0 rfl) ?_
  refine lv_iload_n hx hb dX9_approach_1 rfl (lv_at hl 1 rfl) ?_
  have hFc := free_all hD hS hA
  obtain ⟨k1, gk1, hk1⟩ := wGt (cy := cy) X S h_o1.1 h_o1.2.1
  refine vx_callq (vx_runV (As := [.int x1]) (rest := []) ⟨hx, hb, hml, hown, hts⟩ (c_X9_hobAt l hst (cy := cy) (X := X) (D := D) S _ o1 h_o1 x1 (hW)) (cwV 1 hts gX9_approach_X9_hobAt rfl rfl rfl hd_X9_hobAt ⟨Nat.le_of_ble_eq_true rfl, Nat.le_of_ble_eq_true rfl⟩) (pVt (va_recv hK hP (q := (RX9, TX9, 11)) (ci := 13) (q0 := k1) rfl hk1) hP hK hD hN hTH hS hFc) rfl rfl hl.1 rfl (lv_room (Nat.le_of_ble_eq_true rfl)) dX9_approach_2 ⟨Nat.le_of_ble_eq_true rfl, Nat.le_of_ble_eq_true rfl⟩) hS (fun q _ h => hFc q h) hFc (fun q _ h => hFc q h) (fun E ce q9 u t H1 locs ht hvm hw hB hz1 hk1 hS hq9 hce hcl => ?_) (fun r2 u t H1 locs ht hvm hw hB hz1 hk1 hS => ?_)
  · obtain ⟨c3, hEc3, hB2⟩ := hB
    obtain ⟨hP, hD⟩ := wd_post hFc ht hB2
    exact vx_out (fun x h => (hno x h).elim) hlocks hq9 hce hcl (fun t2 ht2 hA2 => ⟨(), trivial, ⟨(by show f_X9_approach S o1 x1 = .error E; unfold f_X9_approach; rw [eB_er c3]), (el_in (by decide) hEc3), wd_end hP hK hD ht2 hA2⟩, hS.F ht2⟩) hS.2.2 (Nat.le_of_ble_eq_true rfl) (Nat.le_of_ble_eq_true rfl)
  · obtain ⟨r2, rfl, c4, o5⟩ := hw
    obtain ⟨hP, hD⟩ := wd_post hFc ht hB
    generalize H1 = H at hP hS ⊢
    refine W.eq (g2 := F0 m 5 ls [.ref r2]) rfl ?_
    have hFc := free_all hD hS hA
    obtain ⟨k6, gk6, hk6⟩ := wGt (cy := cy) X S o5.1 o5.2.1
    refine va_calll (va_runV (As := []) (rest := []) ⟨hx, hb, hml, hown, hts⟩ (c_X3_wayIn l (cy := cy) (X := X) (D := D) S _ r2 o5) (cwV 0 hts gX9_approach_X3_wayIn rfl rfl rfl hd_X3_wayIn ⟨Nat.le_of_ble_eq_true rfl, Nat.le_of_ble_eq_true rfl⟩) (pV (va_recv hK hP (q := (RX3, TX3, 6)) (ci := 7) (q0 := k6) rfl hk6) hP hK hD hN) rfl rfl hl.1 rfl (lv_room (Nat.le_of_ble_eq_true rfl)) dX9_approach_5 ⟨Nat.le_of_ble_eq_true rfl, Nat.le_of_ble_eq_true rfl⟩) hS (fun q _ h => hFc q h) hFc (fun r7 u t H1 locs ht hvm hw hB hz1 hk1 hS => ?_)
    have c8 := hw
    obtain ⟨hP, hD⟩ := wd_post hFc ht hB
    generalize H1 = H at hP hS ⊢
    obtain rfl : f_X3_wayIn S r2 = r7 := c8.symm
    refine lv_l2i hx hb dX9_approach_8 rfl ?_
    refine vx_ret ?_
    refine W.widen (k := 1) (n := 6) (Nat.le_of_ble_eq_true rfl) (Nat.le_of_ble_eq_true rfl) ?_
    exact W.iret (v := (f_X3_wayIn S r2).toInt32) hx hb hr (fun t ht hW9 => ⟨⟨(f_X3_wayIn S r2).toInt32, (), rfl, (by show f_X9_approach S o1 x1 = .ok ((f_X3_wayIn S r2).toInt32); unfold f_X9_approach; rw [eB_ok c4]), wd_end hP hK hD ht hW9.alike⟩, hS.F ht⟩) hS.2.2 dX9_approach_9 hlocks
def f_X9_wear (S : wPS) (o1 : Nat) (x1 : Int32) (x2 : Int32) : Except String Int32 := eB (f_X9_hobAt S o1 x1) (fun r2 => if x2 < (0 : Int32) then .error "java/lang/IndexOutOfBoundsException" else if x2 < (nI (S.n (S.f r2 2))) then .ok (S.i (S.f r2 2) x2.toNatClampNeg) else .error "java/lang/IndexOutOfBoundsException")
set_option maxRecDepth 20000 in
theorem s_X9_wear_IOOBE : ∀ w ∈ (vx_atS RX9 297 "java/lang/IndexOutOfBoundsException" ["java/lang/RuntimeException", "java/lang/Exception"]).filter goodWord, w ∈ wsX9_wear := fun w h => List.mem_cons_of_mem _ (List.mem_append_left _ (List.mem_append_right _ h))
theorem hi_X9_wear_X3 : ∀ w ∈ u_ws RX3 TX3 6, w ∈ wsX9_wear := by decide +kernel
theorem hd_X9_wear : yX9_wear.cls = RX9 ∧ yX9_wear.cls ≠ "java/lang/invoke/MethodHandle" ∧ yX9_wear.cls ≠ "java/lang/invoke/VarHandle" ∧ (parseMethodDescriptor yX9_wear.desc).map (fun d => d.parameters.length) = some 2 := by decide +kernel
set_option maxHeartbeats 4000000 in
set_option maxRecDepth 100000 in
theorem c_X9_wear (l : Launch) (hst : l.stackTraces = false) {D : va_G} {cy : Nat → ClassId} {X : va_W} (S : wPS) (sz : Nat) (o1 : Nat) (h_o1 : isA S o1 9) (x1 : Int32) (x2 : Int32) (hW : wtB S [])  : vx_Met l yX9_wear wsX9_wear ({ frames := 7, cells := 2, slots := 12, locals := 103 }) (va_Pc [.ref o1, .int x1, .int x2] (fun U => U.heap.size = sz ∧ WD D cy X (fun _ => True) S U ∧ NW U ∧ TH (va_A (X ++ PL cy S) sz) U)) (va_Qi (fun r (_ : Unit) => f_X9_wear S o1 x1 x2 = .ok r) (fun _ t => WD D cy X (va_A (X ++ PL cy S) sz) S t) (va_A (X ++ PL cy S) sz)) (vx_X (fun (_ : Unit) => True) (fun E _ t => f_X9_wear S o1 x1 x2 = .error E ∧ E ∈ ["java/lang/IndexOutOfBoundsException"] ∧ WD D cy X (va_A (X ++ PL cy S) sz) S t) (va_A (X ++ PL cy S) sz)) 2 12 (va_A (X ++ PL cy S) sz) := by
  refine vx_ofW (cc := cX9_wear) (maxL := 4) (ret := (some .int)) (by decide) rfl ?_
  intro p e s m args below meth c s₁ B hml hno hv
  obtain ⟨rfl, hsz, ⟨hP, hK, hD0⟩, hN, hTH⟩ := hv
  have hx := B.exec
  have hb := B.bytes
  have hr := B.returns
  have hts := atoms_spec (ws := wsX9_wear) B.pre
  have hown : s.vm.findClass RX9 = some m.cls := findClass_of_methodNamed (x := yX9_wear) B.named
  have hlocks := B.notSynchronized
  subst hsz
  have hD := hD0.self (sz := s.heap.size)
  generalize hAe : va_A (X ++ PL cy S) s.heap.size = A at hD hTH ⊢
  have hA : ∀ q : Nat, s.heap.size ≤ q → A q := fun q h => by rw [← hAe]; exact Or.inr h
  have hS : va_S A s.heap s.heap [] := va_S.rf
  have hl := lv_entry ([.ref o1, .int x1, .int x2]) (n := 4) (Nat.le_of_ble_eq_true rfl)
  rw [lg_entry_eq]
  generalize (lg_sl ([.ref o1, .int x1, .int x2]) ++ List.replicate (4 - (lg_sl ([.ref o1, .int x1, .int x2])).length) Slot.unset).toArray = ls at hl ⊢
  have hl : lv_has ls 4 [(0, .ref o1), (1, .int x1), (2, .int x2)] := hl
  refine lv_aload_n hx hb dX9_wear_0 rfl (lv_at hl 0 rfl) ?_
  refine lv_iload_n hx hb dX9_wear_1 rfl (lv_at hl 1 rfl) ?_
  have hFc := free_all hD hS hA
  obtain ⟨k1, gk1, hk1⟩ := wGt (cy := cy) X S h_o1.1 h_o1.2.1
  refine vx_callq (vx_runV (As := [.int x1]) (rest := []) ⟨hx, hb, hml, hown, hts⟩ (c_X9_hobAt l hst (cy := cy) (X := X) (D := D) S _ o1 h_o1 x1 (hW)) (cwV 1 hts gX9_wear_X9_hobAt rfl rfl rfl hd_X9_hobAt ⟨Nat.le_of_ble_eq_true rfl, Nat.le_of_ble_eq_true rfl⟩) (pVt (va_recv hK hP (q := (RX9, TX9, 11)) (ci := 13) (q0 := k1) rfl hk1) hP hK hD hN hTH hS hFc) rfl rfl hl.1 rfl (lv_room (Nat.le_of_ble_eq_true rfl)) dX9_wear_2 ⟨Nat.le_of_ble_eq_true rfl, Nat.le_of_ble_eq_true rfl⟩) hS (fun q _ h => hFc q h) hFc (fun q _ h => hFc q h) (fun E ce q9 u t H1 locs ht hvm hw hB hz1 hk1 hS hq9 hce hcl => ?_) (fun r2 u t H1 locs ht hvm hw hB hz1 hk1 hS => ?_)
  · obtain ⟨c3, hEc3, hB2⟩ := hB
    obtain ⟨hP, hD⟩ := wd_post hFc ht hB2
    exact vx_out (fun x h => (hno x h).elim) hlocks hq9 hce hcl (fun t2 ht2 hA2 => ⟨(), trivial, ⟨(by show f_X9_wear S o1 x1 x2 = .error E; unfold f_X9_wear; rw [eB_er c3]), (el_in (by decide) hEc3), wd_end hP hK hD ht2 hA2⟩, hS.F ht2⟩) hS.2.2 (Nat.le_of_ble_eq_true rfl) (Nat.le_of_ble_eq_true rfl)
  · obtain ⟨r2, rfl, c4, o5⟩ := hw
    obtain ⟨hP, hD⟩ := wd_post hFc ht hB
    generalize H1 = H at hP hS ⊢
    refine W.eq (g2 := F0 m 5 ls [.ref r2]) rfl ?_
    refine lv_astore_n (lv' := [(3, .ref r2), (0, .ref o1), (1, .int x1), (2, .int x2)]) hx hb dX9_wear_5 rfl hl (by decide) rfl (fun ls hl => ?_)
    refine lv_iload_n hx hb dX9_wear_6 rfl (lv_at hl 3 rfl) ?_
    refine lv_if_lt (tgt := 19) hx hb dX9_wear_7 (by decide) (fun c6 => ?_) (fun c6 => ?_)
    · have c6i : x2.toInt < 0 := lt_v rfl rfl c6
      obtain ⟨sa, hsa⟩ := hTH.2.2 (RX9, 295, "there is no such place") (by decide +kernel)
      exact vx_throwSW hx hb hst (names := ["java/lang/RuntimeException", "java/lang/Exception"]) hown (by decide +kernel) (by decide +kernel) (hts (.classLink RX9 293 "java/lang/IndexOutOfBoundsException") (by decide +kernel)) (hts (.initialized "java/lang/IndexOutOfBoundsException") (by decide +kernel)) hsa (th_at (B := exW_X9_IOOBE) (fun w h => hts w (s_X9_wear_IOOBE w h)) rfl (by simp only [exW, List.mem_append]; intro w h; simp [h]) hTH.2.1) (List.forall_mem_cons.mpr ⟨by decide +kernel, List.forall_mem_cons.mpr ⟨by decide +kernel, exW_X9_IOOBE_ok⟩⟩) hTH.1.1 hTH.1.2 hS (hl.1.trans hml.symm) dX9_wear_19 dX9_wear_22 dX9_wear_23 dX9_wear_26 dX9_wear_29 (fun x h => (hno x h).elim) (Nat.le_of_ble_eq_true rfl) (Nat.le_of_ble_eq_true rfl) (Nat.le_of_ble_eq_true rfl) (Nat.le_of_ble_eq_true rfl) hlocks (fun t hA2 h1 h2 => ⟨(), trivial, ⟨(by show f_X9_wear S o1 x1 x2 = .error "java/lang/IndexOutOfBoundsException"; unfold f_X9_wear; rw [eB_ok c4, if_pos c6]), (by decide), wd_exc hP hK hD hA2 h2⟩, exc_F hS h1 h2⟩) hS.2.2 (Nat.le_of_ble_eq_true rfl) (Nat.le_of_ble_eq_true rfl)
    · have c6i : 0 ≤ x2.toInt := nlt_v rfl rfl c6
      refine lv_iload_n hx hb dX9_wear_10 rfl (lv_at hl 3 rfl) ?_
      refine lv_aload_n hx hb dX9_wear_11 rfl (lv_at hl 0 rfl) ?_
      have F7 := ((hW.at o5 List.not_mem_nil).to_3 o5.2.1).F2
      obtain ⟨k8, gk8, hk8⟩ := wGt (cy := cy) X S o5.1 o5.2.1
      simp only [kE, F7.1] at hk8
      refine va_get (D := D) (ci := 7) (v := .ref (S.f r2 2)) (C := RX3) (T := TX3) (N := 6) hx hb hts hi_X9_wear_X3 hown hK hP k8 hk8 rfl 2 (by decide) (hts (.fieldLink RX9 290 "Hobhouse$Hob" "worn" "[I") (by decide +kernel)) (fun _ h9 => h9) rfl dX9_wear_12 ?_
      obtain ⟨k9, gk9, hk9⟩ := wGt (cy := cy) X S F7.2.1.1 F7.2.1.2.1
      have i10 : (nI (S.n (S.f r2 2))).toInt = ((S.n (S.f r2 2) : Nat) : Int) := nI_toInt F7.2.1.2.2
      have i11 := F7.2.1.2.2
      have i12 := F7.2.2
      refine va_alen (D := D) (cl := vwCl) (tys := tyL cy) hx hb hK hP k9 2 hk9 rfl (v := nI (S.n (S.f r2 2))) rfl dX9_wear_15 ?_
      refine lv_icmp_lt (tgt := 30) hx hb dX9_wear_16 (by decide) (fun c13 => ?_) (fun c13 => ?_)
      · have c13i : x2.toInt < (nI (S.n (S.f r2 2))).toInt := lt_v rfl rfl c13
        refine lv_aload_n hx hb dX9_wear_30 rfl (lv_at hl 0 rfl) ?_
        obtain ⟨k14, gk14, hk14⟩ := wGt (cy := cy) X S o5.1 o5.2.1
        simp only [kE, F7.1] at hk14
        refine va_get (D := D) (ci := 7) (v := .ref (S.f r2 2)) (C := RX3) (T := TX3) (N := 6) hx hb hts hi_X9_wear_X3 hown hK hP k14 hk14 rfl 2 (by decide) (hts (.fieldLink RX9 290 "Hobhouse$Hob" "worn" "[I") (by decide +kernel)) (fun _ h9 => h9) rfl dX9_wear_31 ?_
        refine lv_iload_n hx hb dX9_wear_34 rfl (lv_at hl 3 rfl) ?_
        have i15 := F7.2.2
        obtain ⟨k16, gk16, hk16⟩ := wGt (cy := cy) X S F7.2.1.1 F7.2.1.2.1
        refine va_iald hx hb hK hP k16 2 hk16 rfl (inb (m := S.n (S.f r2 2)) rfl (by omega) (by omega)) dX9_wear_35 ?_
        refine vx_ret ?_
        refine W.widen (k := 2) (n := 12) (Nat.le_of_ble_eq_true rfl) (Nat.le_of_ble_eq_true rfl) ?_
        exact W.iret (v := S.i (S.f r2 2) x2.toNatClampNeg) hx hb hr (fun t ht hW9 => ⟨⟨S.i (S.f r2 2) x2.toNatClampNeg, (), rfl, (by show f_X9_wear S o1 x1 x2 = .ok (S.i (S.f r2 2) x2.toNatClampNeg); unfold f_X9_wear; rw [eB_ok c4, if_neg c6, if_pos c13]), wd_end hP hK hD ht hW9.alike⟩, hS.F ht⟩) hS.2.2 dX9_wear_36 hlocks
      · have c13i : (nI (S.n (S.f r2 2))).toInt ≤ x2.toInt := nlt_v rfl rfl c13
        obtain ⟨sa, hsa⟩ := hTH.2.2 (RX9, 295, "there is no such place") (by decide +kernel)
        exact vx_throwSW hx hb hst (names := ["java/lang/RuntimeException", "java/lang/Exception"]) hown (by decide +kernel) (by decide +kernel) (hts (.classLink RX9 293 "java/lang/IndexOutOfBoundsException") (by decide +kernel)) (hts (.initialized "java/lang/IndexOutOfBoundsException") (by decide +kernel)) hsa (th_at (B := exW_X9_IOOBE) (fun w h => hts w (s_X9_wear_IOOBE w h)) rfl (by simp only [exW, List.mem_append]; intro w h; simp [h]) hTH.2.1) (List.forall_mem_cons.mpr ⟨by decide +kernel, List.forall_mem_cons.mpr ⟨by decide +kernel, exW_X9_IOOBE_ok⟩⟩) hTH.1.1 hTH.1.2 hS (hl.1.trans hml.symm) dX9_wear_19 dX9_wear_22 dX9_wear_23 dX9_wear_26 dX9_wear_29 (fun x h => (hno x h).elim) (Nat.le_of_ble_eq_true rfl) (Nat.le_of_ble_eq_true rfl) (Nat.le_of_ble_eq_true rfl) (Nat.le_of_ble_eq_true rfl) hlocks (fun t hA2 h1 h2 => ⟨(), trivial, ⟨(by show f_X9_wear S o1 x1 x2 = .error "java/lang/IndexOutOfBoundsException"; unfold f_X9_wear; rw [eB_ok c4, if_neg c6, if_neg c13]), (by decide), wd_exc hP hK hD hA2 h2⟩, exc_F hS h1 h2⟩) hS.2.2 (Nat.le_of_ble_eq_true rfl) (Nat.le_of_ble_eq_true rfl)
theorem hi_X9_regrind_X3 : ∀ w ∈ u_ws RX3 TX3 6, w ∈ wsX9_regrind := by decide +kernel
theorem hd_X9_regrind : yX9_regrind.cls = RX9 ∧ yX9_regrind.cls ≠ "java/lang/invoke/MethodHandle" ∧ yX9_regrind.cls ≠ "java/lang/invoke/VarHandle" ∧ (parseMethodDescriptor yX9_regrind.desc).map (fun d => d.parameters.length) = some 1 := by decide +kernel
set_option maxHeartbeats 4000000 in
set_option maxRecDepth 100000 in
theorem c_X9_regrind (l : Launch) (hst : l.stackTraces = false) {D : va_G} {cy : Nat → ClassId} {X : va_W} (S : wPS) (sz : Nat) (o1 : Nat) (h_o1 : isA S o1 9) (x1 : Int32) (hW : wtB S [])  : vx_Met l yX9_regrind wsX9_regrind ({ frames := 7, cells := 2, slots := 12, locals := 103 }) (va_Pc [.ref o1, .int x1] (fun U => U.heap.size = sz ∧ WD D cy X (fun _ => True) S U ∧ NW U ∧ TH (va_A (X ++ PL cy S) sz) U)) (va_Qi (fun r (u : wPS) => stp [(3, 3), (3, 4), (28, 100)] [] [] S u) (fun u t => WD D cy X (va_A (X ++ PL cy S) sz) u t) (va_A (X ++ PL cy S) sz)) (vx_X (fun (u : wPS) => stp [(3, 3), (3, 4), (28, 100)] [] [] S u) (fun E u t => E ∈ ["java/lang/IndexOutOfBoundsException", "java/lang/UnsupportedOperationException"] ∧ WD D cy X (va_A (X ++ PL cy S) sz) u t) (va_A (X ++ PL cy S) sz)) 2 12 (va_A (X ++ PL cy S) sz) := by
  refine vx_ofW (cc := cX9_regrind) (maxL := 3) (ret := (some .int)) (by decide) rfl ?_
  intro p e s m args below meth c s₁ B hml hno hv
  obtain ⟨rfl, hsz, ⟨hP, hK, hD0⟩, hN, hTH⟩ := hv
  have hx := B.exec
  have hb := B.bytes
  have hr := B.returns
  have hts := atoms_spec (ws := wsX9_regrind) B.pre
  have hown : s.vm.findClass RX9 = some m.cls := findClass_of_methodNamed (x := yX9_regrind) B.named
  have hlocks := B.notSynchronized
  subst hsz
  have hD := hD0.self (sz := s.heap.size)
  generalize hAe : va_A (X ++ PL cy S) s.heap.size = A at hD hTH ⊢
  have hA : ∀ q : Nat, s.heap.size ≤ q → A q := fun q h => by rw [← hAe]; exact Or.inr h
  have hS : va_S A s.heap s.heap [] := va_S.rf
  have hl := lv_entry ([.ref o1, .int x1]) (n := 3) (Nat.le_of_ble_eq_true rfl)
  rw [lg_entry_eq]
  generalize (lg_sl ([.ref o1, .int x1]) ++ List.replicate (3 - (lg_sl ([.ref o1, .int x1])).length) Slot.unset).toArray = ls at hl ⊢
  have hl : lv_has ls 3 [(0, .ref o1), (1, .int x1)] := hl
  have t0 : stp [(3, 3), (3, 4), (28, 100)] [] [] S S := stp.rf hW
  refine lv_aload_n hx hb dX9_regrind_0 rfl (lv_at hl 0 rfl) ?_
  refine lv_iload_n hx hb dX9_regrind_1 rfl (lv_at hl 1 rfl) ?_
  have hFc := free_all hD hS hA
  obtain ⟨k1, gk1, hk1⟩ := wGt (cy := cy) X S h_o1.1 h_o1.2.1
  refine vx_callq (vx_runV (As := [.int x1]) (rest := []) ⟨hx, hb, hml, hown, hts⟩ (c_X9_hobAt l hst (cy := cy) (X := X) (D := D) S _ o1 h_o1 x1 (hW)) (cwV 1 hts gX9_regrind_X9_hobAt rfl rfl rfl hd_X9_hobAt ⟨Nat.le_of_ble_eq_true rfl, Nat.le_of_ble_eq_true rfl⟩) (pVt (va_recv hK hP (q := (RX9, TX9, 11)) (ci := 13) (q0 := k1) rfl hk1) hP hK hD hN hTH hS hFc) rfl rfl hl.1 rfl (lv_room (Nat.le_of_ble_eq_true rfl)) dX9_regrind_2 ⟨Nat.le_of_ble_eq_true rfl, Nat.le_of_ble_eq_true rfl⟩) hS (fun q _ h => hFc q h) hFc (fun q _ h => hFc q h) (fun E ce q9 u t H1 locs ht hvm hw hB hz1 hk1 hS hq9 hce hcl => ?_) (fun r2 u t H1 locs ht hvm hw hB hz1 hk1 hS => ?_)
  · obtain ⟨c3, hEc3, hB2⟩ := hB
    obtain ⟨hP, hD⟩ := wd_post hFc ht hB2
    exact vx_out (fun x h => (hno x h).elim) hlocks hq9 hce hcl (fun t2 ht2 hA2 => ⟨S, t0, ⟨(el_in (by decide) hEc3), wd_end hP hK hD ht2 hA2⟩, hS.F ht2⟩) hS.2.2 (Nat.le_of_ble_eq_true rfl) (Nat.le_of_ble_eq_true rfl)
  · obtain ⟨r2, rfl, c4, o5⟩ := hw
    obtain ⟨hP, hD⟩ := wd_post hFc ht hB
    generalize H1 = H at hP hS ⊢
    refine W.eq (g2 := F0 m 5 ls [.ref r2]) rfl ?_
    refine lv_astore_n (lv' := [(2, .ref r2), (0, .ref o1), (1, .int x1)]) hx hb dX9_regrind_5 rfl hl (by decide) rfl (fun ls hl => ?_)
    refine lv_aload_n hx hb dX9_regrind_6 rfl (lv_at hl 0 rfl) ?_
    obtain ⟨k6, gk6, hk6⟩ := wGt (cy := cy) X S o5.1 o5.2.1
    refine va_get (D := D) (ci := 7) (v := .int (S.I r2 4)) (C := RX3) (T := TX3) (N := 6) hx hb hts hi_X9_regrind_X3 hown hK hP k6 hk6 rfl 4 (by decide) (hts (.fieldLink RX9 280 "Hobhouse$Hob" "profileError" "I") (by decide +kernel)) (fun _ h9 => h9) rfl dX9_regrind_7 ?_
    refine lv_bipush (v := 8) hx hb dX9_regrind_10 (by decide +kernel) ?_
    refine lv_icmp_ge (tgt := 29) hx hb dX9_regrind_12 (by decide) (fun c7 => ?_) (fun c7 => ?_)
    · have c7i : 8 ≤ (S.I r2 4).toInt := le_v rfl rfl c7
      refine lv_iconst (v := 0) hx hb dX9_regrind_29 (by decide) ?_
      have l32_0 : (0 : Int32).toInt = 0 := rfl
      have hFc := free_all hD hS hA
      refine vx_callv (vx_runS (As := [.int (0 : Int32)]) (rest := []) ⟨hx, hb, hml, hown, hts⟩ (c_X9_allowOnly l hst (cy := cy) (X := X) (D := D) S _ (0 : Int32)) (cwS 1 hts gX9_regrind_X9_allowOnly rfl rfl rfl hd_X9_allowOnly ⟨Nat.le_of_ble_eq_true rfl, Nat.le_of_ble_eq_true rfl⟩) (pSt hP hK hD hN hTH hS hFc) rfl rfl hl.1 rfl (lv_room (Nat.le_of_ble_eq_true rfl)) dX9_regrind_30 ⟨Nat.le_of_ble_eq_true rfl, Nat.le_of_ble_eq_true rfl⟩) hS (fun q _ h => hFc q h) hFc (fun q _ h => hFc q h) (fun E ce q9 u t H1 locs ht hvm hw hB hz1 hk1 hS hq9 hce hcl => ?_) (fun u t H1 locs ht hvm hw hB hz1 hk1 hS => ?_)
      · obtain ⟨c9, hEc9, hB2⟩ := hB
        obtain ⟨hP, hD⟩ := wd_post hFc ht hB2
        exact vx_out (fun x h => (hno x h).elim) hlocks hq9 hce hcl (fun t2 ht2 hA2 => ⟨S, t0, ⟨(el_in (by decide) hEc9), wd_end hP hK hD ht2 hA2⟩, hS.F ht2⟩) hS.2.2 (Nat.le_of_ble_eq_true rfl) (Nat.le_of_ble_eq_true rfl)
      · have c10 := hw
        obtain ⟨hP, hD⟩ := wd_post hFc ht hB
        generalize H1 = H at hP hS ⊢
        exact absurd rfl (ao_i c10)
    · have c7i : (S.I r2 4).toInt < 8 := nle_v rfl rfl c7
      refine lv_aload_n hx hb dX9_regrind_15 rfl (lv_at hl 0 rfl) ?_
      obtain ⟨k11, gk11, hk11⟩ := wGt (cy := cy) X S o5.1 o5.2.1
      refine va_get (D := D) (ci := 7) (v := .int (S.I r2 3)) (C := RX3) (T := TX3) (N := 6) hx hb hts hi_X9_regrind_X3 hown hK hP k11 hk11 rfl 3 (by decide) (hts (.fieldLink RX9 298 "Hobhouse$Hob" "diameter" "I") (by decide +kernel)) (fun _ h9 => h9) rfl dX9_regrind_16 ?_
      refine lv_sipush (v := 20100) hx hb dX9_regrind_19 (by decide +kernel) ?_
      refine lv_icmp_lt (tgt := 29) hx hb dX9_regrind_22 (by decide) (fun c12 => ?_) (fun c12 => ?_)
      · have c12i : (S.I r2 3).toInt < 20100 := lt_v rfl rfl c12
        refine lv_iconst (v := 0) hx hb dX9_regrind_29 (by decide) ?_
        have l32_0 : (0 : Int32).toInt = 0 := rfl
        have hFc := free_all hD hS hA
        refine vx_callv (vx_runS (As := [.int (0 : Int32)]) (rest := []) ⟨hx, hb, hml, hown, hts⟩ (c_X9_allowOnly l hst (cy := cy) (X := X) (D := D) S _ (0 : Int32)) (cwS 1 hts gX9_regrind_X9_allowOnly rfl rfl rfl hd_X9_allowOnly ⟨Nat.le_of_ble_eq_true rfl, Nat.le_of_ble_eq_true rfl⟩) (pSt hP hK hD hN hTH hS hFc) rfl rfl hl.1 rfl (lv_room (Nat.le_of_ble_eq_true rfl)) dX9_regrind_30 ⟨Nat.le_of_ble_eq_true rfl, Nat.le_of_ble_eq_true rfl⟩) hS (fun q _ h => hFc q h) hFc (fun q _ h => hFc q h) (fun E ce q9 u t H1 locs ht hvm hw hB hz1 hk1 hS hq9 hce hcl => ?_) (fun u t H1 locs ht hvm hw hB hz1 hk1 hS => ?_)
        · obtain ⟨c14, hEc14, hB2⟩ := hB
          obtain ⟨hP, hD⟩ := wd_post hFc ht hB2
          exact vx_out (fun x h => (hno x h).elim) hlocks hq9 hce hcl (fun t2 ht2 hA2 => ⟨S, t0, ⟨(el_in (by decide) hEc14), wd_end hP hK hD ht2 hA2⟩, hS.F ht2⟩) hS.2.2 (Nat.le_of_ble_eq_true rfl) (Nat.le_of_ble_eq_true rfl)
        · have c15 := hw
          obtain ⟨hP, hD⟩ := wd_post hFc ht hB
          generalize H1 = H at hP hS ⊢
          exact absurd rfl (ao_i c15)
      · have c12i : 20100 ≤ (S.I r2 3).toInt := nlt_v rfl rfl c12
        refine lv_iconst (v := 1) hx hb dX9_regrind_25 (by decide) ?_
        refine lv_goto (tgt := 30) hx hb dX9_regrind_26 (by decide) ?_
        have l32_1 : (1 : Int32).toInt = 1 := rfl
        have hFc := free_all hD hS hA
        refine vx_callv (vx_runS (As := [.int (1 : Int32)]) (rest := []) ⟨hx, hb, hml, hown, hts⟩ (c_X9_allowOnly l hst (cy := cy) (X := X) (D := D) S _ (1 : Int32)) (cwS 1 hts gX9_regrind_X9_allowOnly rfl rfl rfl hd_X9_allowOnly ⟨Nat.le_of_ble_eq_true rfl, Nat.le_of_ble_eq_true rfl⟩) (pSt hP hK hD hN hTH hS hFc) rfl rfl hl.1 rfl (lv_room (Nat.le_of_ble_eq_true rfl)) dX9_regrind_30 ⟨Nat.le_of_ble_eq_true rfl, Nat.le_of_ble_eq_true rfl⟩) hS (fun q _ h => hFc q h) hFc (fun q _ h => hFc q h) (fun E ce q9 u t H1 locs ht hvm hw hB hz1 hk1 hS hq9 hce hcl => ?_) (fun u t H1 locs ht hvm hw hB hz1 hk1 hS => ?_)
        · obtain ⟨c17, hEc17, hB2⟩ := hB
          obtain ⟨hP, hD⟩ := wd_post hFc ht hB2
          exact vx_out (fun x h => (hno x h).elim) hlocks hq9 hce hcl (fun t2 ht2 hA2 => ⟨S, t0, ⟨(el_in (by decide) hEc17), wd_end hP hK hD ht2 hA2⟩, hS.F ht2⟩) hS.2.2 (Nat.le_of_ble_eq_true rfl) (Nat.le_of_ble_eq_true rfl)
        · have c18 := hw
          obtain ⟨hP, hD⟩ := wd_post hFc ht hB
          generalize H1 = H at hP hS ⊢
          have i19 := ao_i c18
          refine lv_aload_n hx hb dX9_regrind_33 rfl (lv_at hl 0 rfl) ?_
          have hFc := free_all hD hS hA
          obtain ⟨k20, gk20, hk20⟩ := wGt (cy := cy) X S o5.1 o5.2.1
          refine va_callv (va_runV (As := []) (rest := []) ⟨hx, hb, hml, hown, hts⟩ (c_X3_sharpen l (cy := cy) (X := X) (D := D) S _ r2 o5 (hW)) (cwV 0 hts gX9_regrind_X3_sharpen rfl rfl rfl hd_X3_sharpen ⟨Nat.le_of_ble_eq_true rfl, Nat.le_of_ble_eq_true rfl⟩) (pV (va_recv hK hP (q := (RX3, TX3, 6)) (ci := 7) (q0 := k20) rfl hk20) hP hK hD hN) rfl rfl hl.1 rfl (lv_room (Nat.le_of_ble_eq_true rfl)) dX9_regrind_34 ⟨Nat.le_of_ble_eq_true rfl, Nat.le_of_ble_eq_true rfl⟩) hS (fun q _ h => hFc q h) hFc (fun u t H1 locs ht hvm hw hB hz1 hk1 hS => ?_)
          have w22 := hw
          obtain ⟨hP, hD⟩ := wd_post hFc ht hB
          generalize H1 = H at hP hS ⊢
          obtain ⟨S23, rfl⟩ : ∃ z, z = u := ⟨_, rfl⟩
          have t24 : stp [(3, 3), (3, 4), (28, 100)] [] [] S S23 := t0.tr w22 (by decide) (fun _ q => absurd q List.not_mem_nil)
          have xe25 : ext S S23 := w22.x
          refine lv_aload_n hx hb dX9_regrind_37 rfl (lv_at hl 0 rfl) ?_
          obtain ⟨k26, gk26, hk26⟩ := wGt (cy := cy) X S23 (xe25.A o5).1 (xe25.A o5).2.1
          refine va_get (D := D) (ci := 7) (v := .int (S23.I r2 4)) (C := RX3) (T := TX3) (N := 6) hx hb hts hi_X9_regrind_X3 hown hK hP k26 hk26 rfl 4 (by decide) (hts (.fieldLink RX9 280 "Hobhouse$Hob" "profileError" "I") (by decide +kernel)) (fun _ h9 => h9) rfl dX9_regrind_38 ?_
          refine vx_ret ?_
          refine W.widen (k := 2) (n := 12) (Nat.le_of_ble_eq_true rfl) (Nat.le_of_ble_eq_true rfl) ?_
          exact W.iret (v := S23.I r2 4) hx hb hr (fun t ht hW9 => ⟨⟨S23.I r2 4, S23, rfl, t24, wd_end hP hK hD ht hW9.alike⟩, hS.F ht⟩) hS.2.2 dX9_regrind_41 hlocks
def f_X9_cut (S : wPS) (o1 : Nat) (x1 : Int32) (x2 : Int32) (x3 : Int32) : Except String (Int32 × wPS) := eB (f_X9_gearAt S o1 x1) (fun r2 => eB (f_X9_hobAt S o1 x2) (fun r7 => eB (f_X9_needRange x3 (0 : Int32) (500 : Int32)) (fun _ => if (S.I r2 9) = (0 : Int32) then if (f_X3_fits S r7 r2) = (0 : Int32) then eB (f_X9_allowOnly (0 : Int32)) (fun _ => .error "") else if (f_X3_isBlunt S r7) = (0 : Int32) then eB (f_X9_allowOnly (1 : Int32)) (fun _ => l1 (S.sI r2 9 (1 : Int32)) (fun S42 => l1 (S42.sI r2 10 (S42.I r7 1)) (fun S47 => l1 (S47.sI r2 11 (S47.I r7 4)) (fun S52 => l1 (S52.sI r2 12 x3) (fun S56 => l2 (f_X3_turnToNext S56 r7 (S56.I r2 1)) (fun r62 S65 => .ok (r62, S65))))))) else eB (f_X9_allowOnly (0 : Int32)) (fun _ => .error "") else eB (f_X9_allowOnly (0 : Int32)) (fun _ => .error ""))))
theorem hi_X9_cut_X2 : ∀ w ∈ u_ws RX2 TX2 20, w ∈ wsX9_cut := by decide +kernel
theorem hi_X9_cut_X3 : ∀ w ∈ u_ws RX3 TX3 6, w ∈ wsX9_cut := by decide +kernel
theorem hd_X9_cut : yX9_cut.cls = RX9 ∧ yX9_cut.cls ≠ "java/lang/invoke/MethodHandle" ∧ yX9_cut.cls ≠ "java/lang/invoke/VarHandle" ∧ (parseMethodDescriptor yX9_cut.desc).map (fun d => d.parameters.length) = some 3 := by decide +kernel
set_option maxHeartbeats 4000000 in
set_option maxRecDepth 100000 in
theorem c_X9_cut (l : Launch) (hst : l.stackTraces = false) {D : va_G} {cy : Nat → ClassId} {X : va_W} (S : wPS) (sz : Nat) (o1 : Nat) (h_o1 : isA S o1 9) (x1 : Int32) (x2 : Int32) (x3 : Int32) (hW : wtB S [])  : vx_Met l yX9_cut wsX9_cut ({ frames := 7, cells := 4, slots := 24, locals := 104 }) (va_Pc [.ref o1, .int x1, .int x2, .int x3] (fun U => U.heap.size = sz ∧ WD D cy X (fun _ => True) S U ∧ NW U ∧ TH (va_A (X ++ PL cy S) sz) U)) (va_Qi (fun r (u : wPS) => f_X9_cut S o1 x1 x2 x3 = .ok (r, u) ∧ stp [(2, 9), (2, 10), (2, 11), (2, 12), (3, 5), (28, 100)] [] [] S u) (fun u t => WD D cy X (va_A (X ++ PL cy S) sz) u t) (va_A (X ++ PL cy S) sz)) (vx_X (fun (u : wPS) => stp [(2, 9), (2, 10), (2, 11), (2, 12), (3, 5), (28, 100)] [] [] S u) (fun E u t => f_X9_cut S o1 x1 x2 x3 = .error E ∧ E ∈ ["java/lang/IllegalArgumentException", "java/lang/IndexOutOfBoundsException", "java/lang/UnsupportedOperationException"] ∧ WD D cy X (va_A (X ++ PL cy S) sz) u t) (va_A (X ++ PL cy S) sz)) 4 24 (va_A (X ++ PL cy S) sz) := by
  refine vx_ofW (cc := cX9_cut) (maxL := 6) (ret := (some .int)) (by decide) rfl ?_
  intro p e s m args below meth c s₁ B hml hno hv
  obtain ⟨rfl, hsz, ⟨hP, hK, hD0⟩, hN, hTH⟩ := hv
  have hx := B.exec
  have hb := B.bytes
  have hr := B.returns
  have hts := atoms_spec (ws := wsX9_cut) B.pre
  have hown : s.vm.findClass RX9 = some m.cls := findClass_of_methodNamed (x := yX9_cut) B.named
  have hlocks := B.notSynchronized
  subst hsz
  have hD := hD0.self (sz := s.heap.size)
  generalize hAe : va_A (X ++ PL cy S) s.heap.size = A at hD hTH ⊢
  have hA : ∀ q : Nat, s.heap.size ≤ q → A q := fun q h => by rw [← hAe]; exact Or.inr h
  have hS : va_S A s.heap s.heap [] := va_S.rf
  have hl := lv_entry ([.ref o1, .int x1, .int x2, .int x3]) (n := 6) (Nat.le_of_ble_eq_true rfl)
  rw [lg_entry_eq]
  generalize (lg_sl ([.ref o1, .int x1, .int x2, .int x3]) ++ List.replicate (6 - (lg_sl ([.ref o1, .int x1, .int x2, .int x3])).length) Slot.unset).toArray = ls at hl ⊢
  have hl : lv_has ls 6 [(0, .ref o1), (1, .int x1), (2, .int x2), (3, .int x3)] := hl
  have t0 : stp [(2, 9), (2, 10), (2, 11), (2, 12), (3, 5), (28, 100)] [] [] S S := stp.rf hW
  refine lv_aload_n hx hb dX9_cut_0 rfl (lv_at hl 0 rfl) ?_
  refine lv_iload_n hx hb dX9_cut_1 rfl (lv_at hl 1 rfl) ?_
  have hFc := free_all hD hS hA
  obtain ⟨k1, gk1, hk1⟩ := wGt (cy := cy) X S h_o1.1 h_o1.2.1
  refine vx_callq (vx_runV (As := [.int x1]) (rest := []) ⟨hx, hb, hml, hown, hts⟩ (c_X9_gearAt l hst (cy := cy) (X := X) (D := D) S _ o1 h_o1 x1 (hW)) (cwV 1 hts gX9_cut_X9_gearAt rfl rfl rfl hd_X9_gearAt ⟨Nat.le_of_ble_eq_true rfl, Nat.le_of_ble_eq_true rfl⟩) (pVt (va_recv hK hP (q := (RX9, TX9, 11)) (ci := 13) (q0 := k1) rfl hk1) hP hK hD hN hTH hS hFc) rfl rfl hl.1 rfl (lv_room (Nat.le_of_ble_eq_true rfl)) dX9_cut_2 ⟨Nat.le_of_ble_eq_true rfl, Nat.le_of_ble_eq_true rfl⟩) hS (fun q _ h => hFc q h) hFc (fun q _ h => hFc q h) (fun E ce q9 u t H1 locs ht hvm hw hB hz1 hk1 hS hq9 hce hcl => ?_) (fun r2 u t H1 locs ht hvm hw hB hz1 hk1 hS => ?_)
  · obtain ⟨c3, hEc3, hB2⟩ := hB
    obtain ⟨hP, hD⟩ := wd_post hFc ht hB2
    exact vx_out (fun x h => (hno x h).elim) hlocks hq9 hce hcl (fun t2 ht2 hA2 => ⟨S, t0, ⟨(by show f_X9_cut S o1 x1 x2 x3 = .error E; unfold f_X9_cut; rw [eB_er c3]), (el_in (by decide) hEc3), wd_end hP hK hD ht2 hA2⟩, hS.F ht2⟩) hS.2.2 (Nat.le_of_ble_eq_true rfl) (Nat.le_of_ble_eq_true rfl)
  · obtain ⟨r2, rfl, c4, o5⟩ := hw
    obtain ⟨hP, hD⟩ := wd_post hFc ht hB
    generalize H1 = H at hP hS ⊢
    refine W.eq (g2 := F0 m 5 ls [.ref r2]) rfl ?_
    refine lv_astore (lv' := [(4, .ref r2), (0, .ref o1), (1, .int x1), (2, .int x2), (3, .int x3)]) hx hb dX9_cut_5 hl (by decide) rfl (fun ls hl => ?_)
    refine lv_aload_n hx hb dX9_cut_7 rfl (lv_at hl 1 rfl) ?_
    refine lv_iload_n hx hb dX9_cut_8 rfl (lv_at hl 3 rfl) ?_
    have hFc := free_all hD hS hA
    obtain ⟨k6, gk6, hk6⟩ := wGt (cy := cy) X S h_o1.1 h_o1.2.1
    refine vx_callq (vx_runV (As := [.int x2]) (rest := []) ⟨hx, hb, hml, hown, hts⟩ (c_X9_hobAt l hst (cy := cy) (X := X) (D := D) S _ o1 h_o1 x2 (hW)) (cwV 1 hts gX9_cut_X9_hobAt rfl rfl rfl hd_X9_hobAt ⟨Nat.le_of_ble_eq_true rfl, Nat.le_of_ble_eq_true rfl⟩) (pVt (va_recv hK hP (q := (RX9, TX9, 11)) (ci := 13) (q0 := k6) rfl hk6) hP hK hD hN hTH hS hFc) rfl rfl hl.1 rfl (lv_room (Nat.le_of_ble_eq_true rfl)) dX9_cut_9 ⟨Nat.le_of_ble_eq_true rfl, Nat.le_of_ble_eq_true rfl⟩) hS (fun q _ h => hFc q h) hFc (fun q _ h => hFc q h) (fun E ce q9 u t H1 locs ht hvm hw hB hz1 hk1 hS hq9 hce hcl => ?_) (fun r7 u t H1 locs ht hvm hw hB hz1 hk1 hS => ?_)
    · obtain ⟨c8, hEc8, hB2⟩ := hB
      obtain ⟨hP, hD⟩ := wd_post hFc ht hB2
      exact vx_out (fun x h => (hno x h).elim) hlocks hq9 hce hcl (fun t2 ht2 hA2 => ⟨S, t0, ⟨(by show f_X9_cut S o1 x1 x2 x3 = .error E; unfold f_X9_cut; rw [eB_ok c4, eB_er c8]), (el_in (by decide) hEc8), wd_end hP hK hD ht2 hA2⟩, hS.F ht2⟩) hS.2.2 (Nat.le_of_ble_eq_true rfl) (Nat.le_of_ble_eq_true rfl)
    · obtain ⟨r7, rfl, c9, o10⟩ := hw
      obtain ⟨hP, hD⟩ := wd_post hFc ht hB
      generalize H1 = H at hP hS ⊢
      refine W.eq (g2 := F0 m 12 ls [.ref r7]) rfl ?_
      refine lv_astore (lv' := [(5, .ref r7), (4, .ref r2), (0, .ref o1), (1, .int x1), (2, .int x2), (3, .int x3)]) hx hb dX9_cut_12 hl (by decide) rfl (fun ls hl => ?_)
      refine lv_iload_n hx hb dX9_cut_14 rfl (lv_at hl 5 rfl) ?_
      refine lv_iconst (v := 0) hx hb dX9_cut_15 (by decide) ?_
      refine lv_sipush (v := 500) hx hb dX9_cut_16 (by decide +kernel) ?_
      have l32_0 : (0 : Int32).toInt = 0 := rfl
      have l32_500 : (500 : Int32).toInt = 500 := rfl
      have hFc := free_all hD hS hA
      refine vx_callv (vx_runS (As := [.int x3, .int (0 : Int32), .int (500 : Int32)]) (rest := []) ⟨hx, hb, hml, hown, hts⟩ (c_X9_needRange l hst (cy := cy) (X := X) (D := D) S _ x3 (0 : Int32) (500 : Int32)) (cwS 3 hts gX9_cut_X9_needRange rfl rfl rfl hd_X9_needRange ⟨Nat.le_of_ble_eq_true rfl, Nat.le_of_ble_eq_true rfl⟩) (pSt hP hK hD hN hTH hS hFc) rfl rfl hl.1 rfl (lv_room (Nat.le_of_ble_eq_true rfl)) dX9_cut_19 ⟨Nat.le_of_ble_eq_true rfl, Nat.le_of_ble_eq_true rfl⟩) hS (fun q _ h => hFc q h) hFc (fun q _ h => hFc q h) (fun E ce q9 u t H1 locs ht hvm hw hB hz1 hk1 hS hq9 hce hcl => ?_) (fun u t H1 locs ht hvm hw hB hz1 hk1 hS => ?_)
      · obtain ⟨c12, hEc12, hB2⟩ := hB
        obtain ⟨hP, hD⟩ := wd_post hFc ht hB2
        exact vx_out (fun x h => (hno x h).elim) hlocks hq9 hce hcl (fun t2 ht2 hA2 => ⟨S, t0, ⟨(by show f_X9_cut S o1 x1 x2 x3 = .error E; unfold f_X9_cut; rw [eB_ok c4, eB_ok c9, eB_er c12]), (el_in (by decide) hEc12), wd_end hP hK hD ht2 hA2⟩, hS.F ht2⟩) hS.2.2 (Nat.le_of_ble_eq_true rfl) (Nat.le_of_ble_eq_true rfl)
      · have c13 := hw
        obtain ⟨hP, hD⟩ := wd_post hFc ht hB
        generalize H1 = H at hP hS ⊢
        have i14 := nr_i c13
        have i14l := i14.1
        have i14h := i14.2
        have l15 : (0 : Int32).toInt = 0 := rfl
        have l16 : (500 : Int32).toInt = 500 := rfl
        refine lv_aload hx hb dX9_cut_22 (lv_at hl 1 rfl) ?_
        obtain ⟨k17, gk17, hk17⟩ := wGt (cy := cy) X S o5.1 o5.2.1
        have i18 := ((hW.at o5 List.not_mem_nil).to_2 o5.2.1).R9
        refine va_get (D := D) (ci := 6) (v := .int (S.I r2 9)) (C := RX2) (T := TX2) (N := 20) hx hb hts hi_X9_cut_X2 hown hK hP k17 hk17 rfl 9 (by decide) (hts (.fieldLink RX9 81 "Hobhouse$Gear" "isCut" "Z") (by decide +kernel)) (fun _ h9 => h9) rfl dX9_cut_24 ?_
        refine lv_if_ne (tgt := 52) hx hb dX9_cut_27 (by decide) (fun c19 => ?_) (fun c19 => ?_)
        · have c19i : ¬ (S.I r2 9).toInt = 0 := neq_v rfl rfl c19
          refine lv_iconst (v := 0) hx hb dX9_cut_52 (by decide) ?_
          have hFc := free_all hD hS hA
          refine vx_callv (vx_runS (As := [.int (0 : Int32)]) (rest := []) ⟨hx, hb, hml, hown, hts⟩ (c_X9_allowOnly l hst (cy := cy) (X := X) (D := D) S _ (0 : Int32)) (cwS 1 hts gX9_cut_X9_allowOnly rfl rfl rfl hd_X9_allowOnly ⟨Nat.le_of_ble_eq_true rfl, Nat.le_of_ble_eq_true rfl⟩) (pSt hP hK hD hN hTH hS hFc) rfl rfl hl.1 rfl (lv_room (Nat.le_of_ble_eq_true rfl)) dX9_cut_53 ⟨Nat.le_of_ble_eq_true rfl, Nat.le_of_ble_eq_true rfl⟩) hS (fun q _ h => hFc q h) hFc (fun q _ h => hFc q h) (fun E ce q9 u t H1 locs ht hvm hw hB hz1 hk1 hS hq9 hce hcl => ?_) (fun u t H1 locs ht hvm hw hB hz1 hk1 hS => ?_)
          · obtain ⟨c21, hEc21, hB2⟩ := hB
            obtain ⟨hP, hD⟩ := wd_post hFc ht hB2
            exact vx_out (fun x h => (hno x h).elim) hlocks hq9 hce hcl (fun t2 ht2 hA2 => ⟨S, t0, ⟨(by show f_X9_cut S o1 x1 x2 x3 = .error E; unfold f_X9_cut; rw [eB_ok c4, eB_ok c9, eB_ok c13, if_neg c19, eB_er c21]), (el_in (by decide) hEc21), wd_end hP hK hD ht2 hA2⟩, hS.F ht2⟩) hS.2.2 (Nat.le_of_ble_eq_true rfl) (Nat.le_of_ble_eq_true rfl)
          · have c22 := hw
            obtain ⟨hP, hD⟩ := wd_post hFc ht hB
            generalize H1 = H at hP hS ⊢
            exact absurd rfl (ao_i c22)
        · have c19i : (S.I r2 9).toInt = 0 := eq_v rfl rfl c19
          refine lv_aload hx hb dX9_cut_30 (lv_at hl 0 rfl) ?_
          refine lv_aload hx hb dX9_cut_32 (lv_at hl 1 rfl) ?_
          have hFc := free_all hD hS hA
          obtain ⟨k23, gk23, hk23⟩ := wGt (cy := cy) X S o10.1 o10.2.1
          refine va_calli (va_runV (As := [.ref r2]) (rest := []) ⟨hx, hb, hml, hown, hts⟩ (c_X3_fits l (cy := cy) (X := X) (D := D) S _ r7 o10 r2 o5) (cwV 1 hts gX9_cut_X3_fits rfl rfl rfl hd_X3_fits ⟨Nat.le_of_ble_eq_true rfl, Nat.le_of_ble_eq_true rfl⟩) (pV (va_recv hK hP (q := (RX3, TX3, 6)) (ci := 7) (q0 := k23) rfl hk23) hP hK hD hN) rfl rfl hl.1 rfl (lv_room (Nat.le_of_ble_eq_true rfl)) dX9_cut_34 ⟨Nat.le_of_ble_eq_true rfl, Nat.le_of_ble_eq_true rfl⟩) hS (fun q _ h => hFc q h) hFc (fun r24 u t H1 locs ht hvm hw hB hz1 hk1 hS => ?_)
          have c25 := hw
          obtain ⟨hP, hD⟩ := wd_post hFc ht hB
          generalize H1 = H at hP hS ⊢
          obtain rfl : f_X3_fits S r7 r2 = r24 := c25.symm
          refine lv_if_eq (tgt := 52) hx hb dX9_cut_37 (by decide) (fun c26 => ?_) (fun c26 => ?_)
          · have c26i : (f_X3_fits S r7 r2).toInt = 0 := eq_v rfl rfl c26
            refine lv_iconst (v := 0) hx hb dX9_cut_52 (by decide) ?_
            have hFc := free_all hD hS hA
            refine vx_callv (vx_runS (As := [.int (0 : Int32)]) (rest := []) ⟨hx, hb, hml, hown, hts⟩ (c_X9_allowOnly l hst (cy := cy) (X := X) (D := D) S _ (0 : Int32)) (cwS 1 hts gX9_cut_X9_allowOnly rfl rfl rfl hd_X9_allowOnly ⟨Nat.le_of_ble_eq_true rfl, Nat.le_of_ble_eq_true rfl⟩) (pSt hP hK hD hN hTH hS hFc) rfl rfl hl.1 rfl (lv_room (Nat.le_of_ble_eq_true rfl)) dX9_cut_53 ⟨Nat.le_of_ble_eq_true rfl, Nat.le_of_ble_eq_true rfl⟩) hS (fun q _ h => hFc q h) hFc (fun q _ h => hFc q h) (fun E ce q9 u t H1 locs ht hvm hw hB hz1 hk1 hS hq9 hce hcl => ?_) (fun u t H1 locs ht hvm hw hB hz1 hk1 hS => ?_)
            · obtain ⟨c28, hEc28, hB2⟩ := hB
              obtain ⟨hP, hD⟩ := wd_post hFc ht hB2
              exact vx_out (fun x h => (hno x h).elim) hlocks hq9 hce hcl (fun t2 ht2 hA2 => ⟨S, t0, ⟨(by show f_X9_cut S o1 x1 x2 x3 = .error E; unfold f_X9_cut; rw [eB_ok c4, eB_ok c9, eB_ok c13, if_pos c19, if_pos c26, eB_er c28]), (el_in (by decide) hEc28), wd_end hP hK hD ht2 hA2⟩, hS.F ht2⟩) hS.2.2 (Nat.le_of_ble_eq_true rfl) (Nat.le_of_ble_eq_true rfl)
            · have c29 := hw
              obtain ⟨hP, hD⟩ := wd_post hFc ht hB
              generalize H1 = H at hP hS ⊢
              exact absurd rfl (ao_i c29)
          · have c26i : ¬ (f_X3_fits S r7 r2).toInt = 0 := neq_v rfl rfl c26
            refine lv_aload hx hb dX9_cut_40 (lv_at hl 0 rfl) ?_
            have hFc := free_all hD hS hA
            obtain ⟨k30, gk30, hk30⟩ := wGt (cy := cy) X S o10.1 o10.2.1
            refine va_calli (va_runV (As := []) (rest := []) ⟨hx, hb, hml, hown, hts⟩ (c_X3_isBlunt l (cy := cy) (X := X) (D := D) S _ r7 o10 (hW)) (cwV 0 hts gX9_cut_X3_isBlunt rfl rfl rfl hd_X3_isBlunt ⟨Nat.le_of_ble_eq_true rfl, Nat.le_of_ble_eq_true rfl⟩) (pV (va_recv hK hP (q := (RX3, TX3, 6)) (ci := 7) (q0 := k30) rfl hk30) hP hK hD hN) rfl rfl hl.1 rfl (lv_room (Nat.le_of_ble_eq_true rfl)) dX9_cut_42 ⟨Nat.le_of_ble_eq_true rfl, Nat.le_of_ble_eq_true rfl⟩) hS (fun q _ h => hFc q h) hFc (fun r31 u t H1 locs ht hvm hw hB hz1 hk1 hS => ?_)
            have c32 := hw
            obtain ⟨hP, hD⟩ := wd_post hFc ht hB
            generalize H1 = H at hP hS ⊢
            obtain rfl : f_X3_isBlunt S r7 = r31 := c32.symm
            refine lv_if_ne (tgt := 52) hx hb dX9_cut_45 (by decide) (fun c33 => ?_) (fun c33 => ?_)
            · have c33i : ¬ (f_X3_isBlunt S r7).toInt = 0 := neq_v rfl rfl c33
              refine lv_iconst (v := 0) hx hb dX9_cut_52 (by decide) ?_
              have hFc := free_all hD hS hA
              refine vx_callv (vx_runS (As := [.int (0 : Int32)]) (rest := []) ⟨hx, hb, hml, hown, hts⟩ (c_X9_allowOnly l hst (cy := cy) (X := X) (D := D) S _ (0 : Int32)) (cwS 1 hts gX9_cut_X9_allowOnly rfl rfl rfl hd_X9_allowOnly ⟨Nat.le_of_ble_eq_true rfl, Nat.le_of_ble_eq_true rfl⟩) (pSt hP hK hD hN hTH hS hFc) rfl rfl hl.1 rfl (lv_room (Nat.le_of_ble_eq_true rfl)) dX9_cut_53 ⟨Nat.le_of_ble_eq_true rfl, Nat.le_of_ble_eq_true rfl⟩) hS (fun q _ h => hFc q h) hFc (fun q _ h => hFc q h) (fun E ce q9 u t H1 locs ht hvm hw hB hz1 hk1 hS hq9 hce hcl => ?_) (fun u t H1 locs ht hvm hw hB hz1 hk1 hS => ?_)
              · obtain ⟨c35, hEc35, hB2⟩ := hB
                obtain ⟨hP, hD⟩ := wd_post hFc ht hB2
                exact vx_out (fun x h => (hno x h).elim) hlocks hq9 hce hcl (fun t2 ht2 hA2 => ⟨S, t0, ⟨(by show f_X9_cut S o1 x1 x2 x3 = .error E; unfold f_X9_cut; rw [eB_ok c4, eB_ok c9, eB_ok c13, if_pos c19, if_neg c26, if_neg c33, eB_er c35]), (el_in (by decide) hEc35), wd_end hP hK hD ht2 hA2⟩, hS.F ht2⟩) hS.2.2 (Nat.le_of_ble_eq_true rfl) (Nat.le_of_ble_eq_true rfl)
              · have c36 := hw
                obtain ⟨hP, hD⟩ := wd_post hFc ht hB
                generalize H1 = H at hP hS ⊢
                exact absurd rfl (ao_i c36)
            · have c33i : (f_X3_isBlunt S r7).toInt = 0 := eq_v rfl rfl c33
              refine lv_iconst (v := 1) hx hb dX9_cut_48 (by decide) ?_
              refine lv_goto (tgt := 53) hx hb dX9_cut_49 (by decide) ?_
              have l32_1 : (1 : Int32).toInt = 1 := rfl
              have hFc := free_all hD hS hA
              refine vx_callv (vx_runS (As := [.int (1 : Int32)]) (rest := []) ⟨hx, hb, hml, hown, hts⟩ (c_X9_allowOnly l hst (cy := cy) (X := X) (D := D) S _ (1 : Int32)) (cwS 1 hts gX9_cut_X9_allowOnly rfl rfl rfl hd_X9_allowOnly ⟨Nat.le_of_ble_eq_true rfl, Nat.le_of_ble_eq_true rfl⟩) (pSt hP hK hD hN hTH hS hFc) rfl rfl hl.1 rfl (lv_room (Nat.le_of_ble_eq_true rfl)) dX9_cut_53 ⟨Nat.le_of_ble_eq_true rfl, Nat.le_of_ble_eq_true rfl⟩) hS (fun q _ h => hFc q h) hFc (fun q _ h => hFc q h) (fun E ce q9 u t H1 locs ht hvm hw hB hz1 hk1 hS hq9 hce hcl => ?_) (fun u t H1 locs ht hvm hw hB hz1 hk1 hS => ?_)
              · obtain ⟨c38, hEc38, hB2⟩ := hB
                obtain ⟨hP, hD⟩ := wd_post hFc ht hB2
                exact vx_out (fun x h => (hno x h).elim) hlocks hq9 hce hcl (fun t2 ht2 hA2 => ⟨S, t0, ⟨(by show f_X9_cut S o1 x1 x2 x3 = .error E; unfold f_X9_cut; rw [eB_ok c4, eB_ok c9, eB_ok c13, if_pos c19, if_neg c26, if_pos c33, eB_er c38]), (el_in (by decide) hEc38), wd_end hP hK hD ht2 hA2⟩, hS.F ht2⟩) hS.2.2 (Nat.le_of_ble_eq_true rfl) (Nat.le_of_ble_eq_true rfl)
              · have c39 := hw
                obtain ⟨hP, hD⟩ := wd_post hFc ht hB
                generalize H1 = H at hP hS ⊢
                have i40 := ao_i c39
                refine lv_aload hx hb dX9_cut_56 (lv_at hl 1 rfl) ?_
                refine lv_iconst (v := 1) hx hb dX9_cut_58 (by decide) ?_
                obtain ⟨k41, gk41, hk41⟩ := wGt (cy := cy) X S o5.1 o5.2.1
                refine va_put (D := D) (ci := 6) (v := .int (1 : Int32)) (ty := .boolean) (C := RX2) (T := TX2) (N := 20) hx hb hts hi_X9_cut_X2 tyX2 tyX2_ok nmX2 hown hK hP hD hS k41 hk41 rfl 9 (by decide) (hts (.fieldLink RX9 81 "Hobhouse$Gear" "isCut" "Z") (by decide +kernel)) (fun _ h9 => h9) rfl (by decide +kernel) (by rfl) (by rfl) (Nat.le_of_ble_eq_true rfl) dX9_cut_59 (fun H locs hP2 hD2 hS => ?_)
                have e9 := wPuI (cy := cy) (j := 9) (v := (1 : Int32)) hD o5.1 o5.2.1 gk41 rfl
                obtain ⟨S42, hS42⟩ : ∃ z, S.sI r2 9 (1 : Int32) = z := ⟨_, rfl⟩
                have hP : va_P D vwCl (X ++ PL cy S42) H := by rw [← hS42, ← e9]; exact hP2
                have hD : va_D A (X ++ PL cy S42) := by rw [← hS42, ← e9]; exact hD2
                have xe43 : ext S S42 := by rw [← hS42]; exact ext.sI _ _ _ _
                have t44 : stp [(2, 9), (2, 10), (2, 11), (2, 12), (3, 5), (28, 100)] [] [] S S42 := by rw [← hS42]; exact t0.I 9 (1 : Int32) o5 (by decide) (⟨by decide, by decide⟩) (Or.inl (by decide))
                refine lv_aload hx hb dX9_cut_62 (lv_at hl 1 rfl) ?_
                refine lv_aload hx hb dX9_cut_64 (lv_at hl 0 rfl) ?_
                obtain ⟨k45, gk45, hk45⟩ := wGt (cy := cy) X S42 (xe43.A o10).1 (xe43.A o10).2.1
                refine va_get (D := D) (ci := 7) (v := .int (S42.I r7 1)) (C := RX3) (T := TX3) (N := 6) hx hb hts hi_X9_cut_X3 hown hK hP k45 hk45 rfl 1 (by decide) (hts (.fieldLink RX9 261 "Hobhouse$Hob" "starts" "I") (by decide +kernel)) (fun _ h9 => h9) rfl dX9_cut_66 ?_
                obtain ⟨k46, gk46, hk46⟩ := wGt (cy := cy) X S42 (xe43.A o5).1 (xe43.A o5).2.1
                refine va_put (D := D) (ci := 6) (v := .int (S42.I r7 1)) (ty := .int) (C := RX2) (T := TX2) (N := 20) hx hb hts hi_X9_cut_X2 tyX2 tyX2_ok nmX2 hown hK hP hD hS k46 hk46 rfl 10 (by decide) (hts (.fieldLink RX9 277 "Hobhouse$Gear" "hobStarts" "I") (by decide +kernel)) (fun _ h9 => h9) rfl (by decide +kernel) (rfl) (rfl) (Nat.le_of_ble_eq_true rfl) dX9_cut_69 (fun H locs hP2 hD2 hS => ?_)
                have e9 := wPuI (cy := cy) (j := 10) (v := (S42.I r7 1)) hD (xe43.A o5).1 (xe43.A o5).2.1 gk46 rfl
                obtain ⟨S47, hS47⟩ : ∃ z, S42.sI r2 10 (S42.I r7 1) = z := ⟨_, rfl⟩
                have hP : va_P D vwCl (X ++ PL cy S47) H := by rw [← hS47, ← e9]; exact hP2
                have hD : va_D A (X ++ PL cy S47) := by rw [← hS47, ← e9]; exact hD2
                have xe48 : ext S42 S47 := by rw [← hS47]; exact ext.sI _ _ _ _
                have t49 : stp [(2, 9), (2, 10), (2, 11), (2, 12), (3, 5), (28, 100)] [] [] S S47 := by rw [← hS47]; exact t44.I 10 (S42.I r7 1) (xe43.A o5) (by decide) (trivial) (Or.inl (by decide))
                refine lv_aload hx hb dX9_cut_72 (lv_at hl 1 rfl) ?_
                refine lv_aload hx hb dX9_cut_74 (lv_at hl 0 rfl) ?_
                obtain ⟨k50, gk50, hk50⟩ := wGt (cy := cy) X S47 (xe48.A (xe43.A o10)).1 (xe48.A (xe43.A o10)).2.1
                refine va_get (D := D) (ci := 7) (v := .int (S47.I r7 4)) (C := RX3) (T := TX3) (N := 6) hx hb hts hi_X9_cut_X3 hown hK hP k50 hk50 rfl 4 (by decide) (hts (.fieldLink RX9 280 "Hobhouse$Hob" "profileError" "I") (by decide +kernel)) (fun _ h9 => h9) rfl dX9_cut_76 ?_
                obtain ⟨k51, gk51, hk51⟩ := wGt (cy := cy) X S47 (xe48.A (xe43.A o5)).1 (xe48.A (xe43.A o5)).2.1
                refine va_put (D := D) (ci := 6) (v := .int (S47.I r7 4)) (ty := .int) (C := RX2) (T := TX2) (N := 20) hx hb hts hi_X9_cut_X2 tyX2 tyX2_ok nmX2 hown hK hP hD hS k51 hk51 rfl 11 (by decide) (hts (.fieldLink RX9 283 "Hobhouse$Gear" "profileError" "I") (by decide +kernel)) (fun _ h9 => h9) rfl (by decide +kernel) (rfl) (rfl) (Nat.le_of_ble_eq_true rfl) dX9_cut_79 (fun H locs hP2 hD2 hS => ?_)
                have e9 := wPuI (cy := cy) (j := 11) (v := (S47.I r7 4)) hD (xe48.A (xe43.A o5)).1 (xe48.A (xe43.A o5)).2.1 gk51 rfl
                obtain ⟨S52, hS52⟩ : ∃ z, S47.sI r2 11 (S47.I r7 4) = z := ⟨_, rfl⟩
                have hP : va_P D vwCl (X ++ PL cy S52) H := by rw [← hS52, ← e9]; exact hP2
                have hD : va_D A (X ++ PL cy S52) := by rw [← hS52, ← e9]; exact hD2
                have xe53 : ext S47 S52 := by rw [← hS52]; exact ext.sI _ _ _ _
                have t54 : stp [(2, 9), (2, 10), (2, 11), (2, 12), (3, 5), (28, 100)] [] [] S S52 := by rw [← hS52]; exact t49.I 11 (S47.I r7 4) (xe48.A (xe43.A o5)) (by decide) (trivial) (Or.inl (by decide))
                refine lv_aload hx hb dX9_cut_82 (lv_at hl 1 rfl) ?_
                refine lv_iload_n hx hb dX9_cut_84 rfl (lv_at hl 5 rfl) ?_
                obtain ⟨k55, gk55, hk55⟩ := wGt (cy := cy) X S52 (xe53.A (xe48.A (xe43.A o5))).1 (xe53.A (xe48.A (xe43.A o5))).2.1
                refine va_put (D := D) (ci := 6) (v := .int x3) (ty := .int) (C := RX2) (T := TX2) (N := 20) hx hb hts hi_X9_cut_X2 tyX2 tyX2_ok nmX2 hown hK hP hD hS k55 hk55 rfl 12 (by decide) (hts (.fieldLink RX9 284 "Hobhouse$Gear" "stock" "I") (by decide +kernel)) (fun _ h9 => h9) rfl (by decide +kernel) (rfl) (rfl) (Nat.le_of_ble_eq_true rfl) dX9_cut_85 (fun H locs hP2 hD2 hS => ?_)
                have e9 := wPuI (cy := cy) (j := 12) (v := x3) hD (xe53.A (xe48.A (xe43.A o5))).1 (xe53.A (xe48.A (xe43.A o5))).2.1 gk55 rfl
                obtain ⟨S56, hS56⟩ : ∃ z, S52.sI r2 12 x3 = z := ⟨_, rfl⟩
                have hP : va_P D vwCl (X ++ PL cy S56) H := by rw [← hS56, ← e9]; exact hP2
                have hD : va_D A (X ++ PL cy S56) := by rw [← hS56, ← e9]; exact hD2
                have xe57 : ext S52 S56 := by rw [← hS56]; exact ext.sI _ _ _ _
                have t58 : stp [(2, 9), (2, 10), (2, 11), (2, 12), (3, 5), (28, 100)] [] [] S S56 := by rw [← hS56]; exact t54.I 12 x3 (xe53.A (xe48.A (xe43.A o5))) (by decide) (trivial) (Or.inl (by decide))
                refine lv_aload hx hb dX9_cut_88 (lv_at hl 0 rfl) ?_
                refine lv_aload hx hb dX9_cut_90 (lv_at hl 1 rfl) ?_
                obtain ⟨k59, gk59, hk59⟩ := wGt (cy := cy) X S56 (xe57.A (xe53.A (xe48.A (xe43.A o5)))).1 (xe57.A (xe53.A (xe48.A (xe43.A o5)))).2.1
                have i60 := ((t58.w.at (xe57.A (xe53.A (xe48.A (xe43.A o5)))) List.not_mem_nil).to_2 (xe57.A (xe53.A (xe48.A (xe43.A o5)))).2.1).R1
                refine va_get (D := D) (ci := 6) (v := .int (S56.I r2 1)) (C := RX2) (T := TX2) (N := 20) hx hb hts hi_X9_cut_X2 hown hK hP k59 hk59 rfl 1 (by decide) (hts (.fieldLink RX9 100 "Hobhouse$Gear" "teeth" "I") (by decide +kernel)) (fun _ h9 => h9) rfl dX9_cut_92 ?_
                have hFc := free_all hD hS hA
                obtain ⟨k61, gk61, hk61⟩ := wGt (cy := cy) X S56 ((xe53.tr xe57).A (xe48.A (xe43.A o10))).1 ((xe53.tr xe57).A (xe48.A (xe43.A o10))).2.1
                refine va_calli (va_runV (As := [.int (S56.I r2 1)]) (rest := []) ⟨hx, hb, hml, hown, hts⟩ (c_X3_turnToNext l (cy := cy) (X := X) (D := D) S56 _ r7 ((xe53.tr xe57).A (xe48.A (xe43.A o10))) (S56.I r2 1) (t58.w)) (cwV 1 hts gX9_cut_X3_turnToNext rfl rfl rfl hd_X3_turnToNext ⟨Nat.le_of_ble_eq_true rfl, Nat.le_of_ble_eq_true rfl⟩) (pV (va_recv hK hP (q := (RX3, TX3, 6)) (ci := 7) (q0 := k61) rfl hk61) hP hK hD hN) rfl rfl hl.1 rfl (lv_room (Nat.le_of_ble_eq_true rfl)) dX9_cut_95 ⟨Nat.le_of_ble_eq_true rfl, Nat.le_of_ble_eq_true rfl⟩) hS (fun q _ h => hFc q h) hFc (fun r62 u t H1 locs ht hvm hw hB hz1 hk1 hS => ?_)
                obtain ⟨c63, w64⟩ := hw
                obtain ⟨hP, hD⟩ := wd_post hFc ht hB
                generalize H1 = H at hP hS ⊢
                obtain ⟨S65, rfl⟩ : ∃ z, z = u := ⟨_, rfl⟩
                have t66 : stp [(2, 9), (2, 10), (2, 11), (2, 12), (3, 5), (28, 100)] [] [] S S65 := t58.tr w64 (by decide) (fun _ q => absurd q List.not_mem_nil)
                have xe67 : ext S56 S65 := w64.x
                refine vx_ret ?_
                refine W.widen (k := 4) (n := 24) (Nat.le_of_ble_eq_true rfl) (Nat.le_of_ble_eq_true rfl) ?_
                exact W.iret (v := r62) hx hb hr (fun t ht hW9 => ⟨⟨r62, S65, rfl, ⟨(by show f_X9_cut S o1 x1 x2 x3 = .ok (r62, S65); unfold f_X9_cut; rw [eB_ok c4, eB_ok c9, eB_ok c13, if_pos c19, if_neg c26, if_pos c33, eB_ok c39, l1_eq hS42, l1_eq hS47, l1_eq hS52, l1_eq hS56, l2_eq c63.symm]), t66⟩, wd_end hP hK hD ht hW9.alike⟩, hS.F ht⟩) hS.2.2 dX9_cut_98 hlocks
def f_X9_hob (S : wPS) (o1 : Nat) (x1 : Int32) (x2 : Int32) (x3 : Int32) (x4 : Int32) : Except String Int32 := eB (f_X9_needRange x1 (500 : Int32) (10000 : Int32)) (fun _ => eB (f_X9_needRange x2 (1 : Int32) (4 : Int32)) (fun _ => eB (f_X9_needRange x3 (20000 : Int32) (200000 : Int32)) (fun _ => eB (f_X9_needRange x4 (1 : Int32) (20 : Int32)) (fun _ => if (S.I o1 3) < (8 : Int32) then .ok (S.I o1 3) else .error "java/lang/IllegalStateException"))))
set_option maxRecDepth 20000 in
theorem s_X9_hob_ISE : ∀ w ∈ (vx_atS RX9 71 "java/lang/IllegalStateException" ["java/lang/RuntimeException", "java/lang/Exception"]).filter goodWord, w ∈ wsX9_hob := fun w h => List.mem_cons_of_mem _ (List.mem_append_left _ (List.mem_append_right _ h))
theorem hi_X9_hob_X3 : ∀ w ∈ u_ws RX3 TX3 6, w ∈ wsX9_hob := by decide +kernel
theorem hi_X9_hob_X9 : ∀ w ∈ u_ws RX9 TX9 11, w ∈ wsX9_hob := by decide +kernel
theorem hd_X9_hob : yX9_hob.cls = RX9 ∧ yX9_hob.cls ≠ "java/lang/invoke/MethodHandle" ∧ yX9_hob.cls ≠ "java/lang/invoke/VarHandle" ∧ (parseMethodDescriptor yX9_hob.desc).map (fun d => d.parameters.length) = some 4 := by decide +kernel
set_option maxHeartbeats 4000000 in
set_option maxRecDepth 100000 in
theorem c_X9_hob (l : Launch) (hst : l.stackTraces = false) {D : va_G} {cy : Nat → ClassId} {X : va_W} (S : wPS) (sz : Nat) (o1 : Nat) (h_o1 : isA S o1 9) (x1 : Int32) (x2 : Int32) (x3 : Int32) (x4 : Int32) (hW : wtB S [])  : vx_Met l yX9_hob wsX9_hob ({ frames := 7, cells := 6, slots := 50, locals := 104 }) (va_Pc [.ref o1, .int x1, .int x2, .int x3, .int x4] (fun U => U.heap.size = sz ∧ WD D cy X (fun _ => True) S U ∧ NW U ∧ TH (va_A (X ++ PL cy S) sz) U)) (va_Qi (fun r (u : wPS) => f_X9_hob S o1 x1 x2 x3 x4 = .ok r ∧ stp [(9, 3), (20, 101)] [] [] S u ∧ (u.I o1 3).toInt = (S.I o1 3).toInt + 1 ∧ (∃ g : Nat, g ∉ S.L ∧ isA u g 3 ∧ u.r (S.f o1 2) (S.I o1 3).toNatClampNeg = some g ∧ (∀ i : Nat, i ≠ (S.I o1 3).toNatClampNeg → u.r (S.f o1 2) i = S.r (S.f o1 2) i) ∧ u.I g 0 = x1 ∧ u.I g 1 = x2 ∧ u.I g 3 = x3 ∧ u.I g 4 = (0 : Int32) ∧ u.I g 5 = (0 : Int32))) (fun u t => WD D cy X (va_A (X ++ PL cy S) sz) u t) (va_A (X ++ PL cy S) sz)) (vx_X (fun (u : wPS) => stp [(9, 3), (20, 101)] [] [] S u) (fun E u t => f_X9_hob S o1 x1 x2 x3 x4 = .error E ∧ E ∈ ["java/lang/IllegalArgumentException", "java/lang/IllegalStateException"] ∧ u = S ∧ WD D cy X (va_A (X ++ PL cy S) sz) u t) (va_A (X ++ PL cy S) sz)) 6 50 (va_A (X ++ PL cy S) sz) := by
  refine vx_ofW (cc := cX9_hob) (maxL := 6) (ret := (some .int)) (by decide) rfl ?_
  intro p e s m args below meth c s₁ B hml hno hv
  obtain ⟨rfl, hsz, ⟨hP, hK, hD0⟩, hN, hTH⟩ := hv
  have hx := B.exec
  have hb := B.bytes
  have hr := B.returns
  have hts := atoms_spec (ws := wsX9_hob) B.pre
  have hown : s.vm.findClass RX9 = some m.cls := findClass_of_methodNamed (x := yX9_hob) B.named
  have hlocks := B.notSynchronized
  subst hsz
  have hD := hD0.self (sz := s.heap.size)
  generalize hAe : va_A (X ++ PL cy S) s.heap.size = A at hD hTH ⊢
  have hA : ∀ q : Nat, s.heap.size ≤ q → A q := fun q h => by rw [← hAe]; exact Or.inr h
  have hS : va_S A s.heap s.heap [] := va_S.rf
  have hl := lv_entry ([.ref o1, .int x1, .int x2, .int x3, .int x4]) (n := 6) (Nat.le_of_ble_eq_true rfl)
  rw [lg_entry_eq]
  generalize (lg_sl ([.ref o1, .int x1, .int x2, .int x3, .int x4]) ++ List.replicate (6 - (lg_sl ([.ref o1, .int x1, .int x2, .int x3, .int x4])).length) Slot.unset).toArray = ls at hl ⊢
  have hl : lv_has ls 6 [(0, .ref o1), (1, .int x1), (2, .int x2), (3, .int x3), (4, .int x4)] := hl
  have t0 : stp [(9, 3), (20, 101)] [] [] S S := stp.rf hW
  refine lv_iload_n hx hb dX9_hob_0 rfl (lv_at hl 1 rfl) ?_
  refine lv_sipush (v := 500) hx hb dX9_hob_1 (by decide +kernel) ?_
  refine lv_sipush (v := 10000) hx hb dX9_hob_4 (by decide +kernel) ?_
  have l32_500 : (500 : Int32).toInt = 500 := rfl
  have l32_10000 : (10000 : Int32).toInt = 10000 := rfl
  have hFc := free_all hD hS hA
  refine vx_callv (vx_runS (As := [.int x1, .int (500 : Int32), .int (10000 : Int32)]) (rest := []) ⟨hx, hb, hml, hown, hts⟩ (c_X9_needRange l hst (cy := cy) (X := X) (D := D) S _ x1 (500 : Int32) (10000 : Int32)) (cwS 3 hts gX9_hob_X9_needRange rfl rfl rfl hd_X9_needRange ⟨Nat.le_of_ble_eq_true rfl, Nat.le_of_ble_eq_true rfl⟩) (pSt hP hK hD hN hTH hS hFc) rfl rfl hl.1 rfl (lv_room (Nat.le_of_ble_eq_true rfl)) dX9_hob_7 ⟨Nat.le_of_ble_eq_true rfl, Nat.le_of_ble_eq_true rfl⟩) hS (fun q _ h => hFc q h) hFc (fun q _ h => hFc q h) (fun E ce q9 u t H1 locs ht hvm hw hB hz1 hk1 hS hq9 hce hcl => ?_) (fun u t H1 locs ht hvm hw hB hz1 hk1 hS => ?_)
  · obtain ⟨c2, hEc2, hB2⟩ := hB
    obtain ⟨hP, hD⟩ := wd_post hFc ht hB2
    exact vx_out (fun x h => (hno x h).elim) hlocks hq9 hce hcl (fun t2 ht2 hA2 => ⟨S, t0, ⟨(by show f_X9_hob S o1 x1 x2 x3 x4 = .error E; unfold f_X9_hob; rw [eB_er c2]), (el_in (by decide) hEc2), rfl, wd_end hP hK hD ht2 hA2⟩, hS.F ht2⟩) hS.2.2 (Nat.le_of_ble_eq_true rfl) (Nat.le_of_ble_eq_true rfl)
  · have c3 := hw
    obtain ⟨hP, hD⟩ := wd_post hFc ht hB
    generalize H1 = H at hP hS ⊢
    have i4 := nr_i c3
    have i4l := i4.1
    have i4h := i4.2
    have l5 : (500 : Int32).toInt = 500 := rfl
    have l6 : (10000 : Int32).toInt = 10000 := rfl
    refine lv_iload_n hx hb dX9_hob_10 rfl (lv_at hl 2 rfl) ?_
    refine lv_iconst (v := 1) hx hb dX9_hob_11 (by decide) ?_
    refine lv_iconst (v := 4) hx hb dX9_hob_12 (by decide) ?_
    have l32_1 : (1 : Int32).toInt = 1 := rfl
    have l32_4 : (4 : Int32).toInt = 4 := rfl
    have hFc := free_all hD hS hA
    refine vx_callv (vx_runS (As := [.int x2, .int (1 : Int32), .int (4 : Int32)]) (rest := []) ⟨hx, hb, hml, hown, hts⟩ (c_X9_needRange l hst (cy := cy) (X := X) (D := D) S _ x2 (1 : Int32) (4 : Int32)) (cwS 3 hts gX9_hob_X9_needRange rfl rfl rfl hd_X9_needRange ⟨Nat.le_of_ble_eq_true rfl, Nat.le_of_ble_eq_true rfl⟩) (pSt hP hK hD hN hTH hS hFc) rfl rfl hl.1 rfl (lv_room (Nat.le_of_ble_eq_true rfl)) dX9_hob_13 ⟨Nat.le_of_ble_eq_true rfl, Nat.le_of_ble_eq_true rfl⟩) hS (fun q _ h => hFc q h) hFc (fun q _ h => hFc q h) (fun E ce q9 u t H1 locs ht hvm hw hB hz1 hk1 hS hq9 hce hcl => ?_) (fun u t H1 locs ht hvm hw hB hz1 hk1 hS => ?_)
    · obtain ⟨c8, hEc8, hB2⟩ := hB
      obtain ⟨hP, hD⟩ := wd_post hFc ht hB2
      exact vx_out (fun x h => (hno x h).elim) hlocks hq9 hce hcl (fun t2 ht2 hA2 => ⟨S, t0, ⟨(by show f_X9_hob S o1 x1 x2 x3 x4 = .error E; unfold f_X9_hob; rw [eB_ok c3, eB_er c8]), (el_in (by decide) hEc8), rfl, wd_end hP hK hD ht2 hA2⟩, hS.F ht2⟩) hS.2.2 (Nat.le_of_ble_eq_true rfl) (Nat.le_of_ble_eq_true rfl)
    · have c9 := hw
      obtain ⟨hP, hD⟩ := wd_post hFc ht hB
      generalize H1 = H at hP hS ⊢
      have i10 := nr_i c9
      have i10l := i10.1
      have i10h := i10.2
      have l11 : (1 : Int32).toInt = 1 := rfl
      have l12 : (4 : Int32).toInt = 4 := rfl
      refine lv_iload_n hx hb dX9_hob_16 rfl (lv_at hl 3 rfl) ?_
      refine lv_sipush (v := 20000) hx hb dX9_hob_17 (by decide +kernel) ?_
      refine lv_ldc (own := RX9) (v := 200000) hx hb hown (hts (.constant RX9 248 (200000)) (by decide +kernel)) dX9_hob_20 ?_
      have l32_20000 : (20000 : Int32).toInt = 20000 := rfl
      have l32_200000 : (200000 : Int32).toInt = 200000 := rfl
      have hFc := free_all hD hS hA
      refine vx_callv (vx_runS (As := [.int x3, .int (20000 : Int32), .int (200000 : Int32)]) (rest := []) ⟨hx, hb, hml, hown, hts⟩ (c_X9_needRange l hst (cy := cy) (X := X) (D := D) S _ x3 (20000 : Int32) (200000 : Int32)) (cwS 3 hts gX9_hob_X9_needRange rfl rfl rfl hd_X9_needRange ⟨Nat.le_of_ble_eq_true rfl, Nat.le_of_ble_eq_true rfl⟩) (pSt hP hK hD hN hTH hS hFc) rfl rfl hl.1 rfl (lv_room (Nat.le_of_ble_eq_true rfl)) dX9_hob_22 ⟨Nat.le_of_ble_eq_true rfl, Nat.le_of_ble_eq_true rfl⟩) hS (fun q _ h => hFc q h) hFc (fun q _ h => hFc q h) (fun E ce q9 u t H1 locs ht hvm hw hB hz1 hk1 hS hq9 hce hcl => ?_) (fun u t H1 locs ht hvm hw hB hz1 hk1 hS => ?_)
      · obtain ⟨c14, hEc14, hB2⟩ := hB
        obtain ⟨hP, hD⟩ := wd_post hFc ht hB2
        exact vx_out (fun x h => (hno x h).elim) hlocks hq9 hce hcl (fun t2 ht2 hA2 => ⟨S, t0, ⟨(by show f_X9_hob S o1 x1 x2 x3 x4 = .error E; unfold f_X9_hob; rw [eB_ok c3, eB_ok c9, eB_er c14]), (el_in (by decide) hEc14), rfl, wd_end hP hK hD ht2 hA2⟩, hS.F ht2⟩) hS.2.2 (Nat.le_of_ble_eq_true rfl) (Nat.le_of_ble_eq_true rfl)
      · have c15 := hw
        obtain ⟨hP, hD⟩ := wd_post hFc ht hB
        generalize H1 = H at hP hS ⊢
        have i16 := nr_i c15
        have i16l := i16.1
        have i16h := i16.2
        have l17 : (20000 : Int32).toInt = 20000 := rfl
        have l18 : (200000 : Int32).toInt = 200000 := rfl
        refine lv_iload hx hb dX9_hob_25 (lv_at hl 4 rfl) ?_
        refine lv_iconst (v := 1) hx hb dX9_hob_27 (by decide) ?_
        refine lv_bipush (v := 20) hx hb dX9_hob_28 (by decide +kernel) ?_
        have l32_20 : (20 : Int32).toInt = 20 := rfl
        have hFc := free_all hD hS hA
        refine vx_callv (vx_runS (As := [.int x4, .int (1 : Int32), .int (20 : Int32)]) (rest := []) ⟨hx, hb, hml, hown, hts⟩ (c_X9_needRange l hst (cy := cy) (X := X) (D := D) S _ x4 (1 : Int32) (20 : Int32)) (cwS 3 hts gX9_hob_X9_needRange rfl rfl rfl hd_X9_needRange ⟨Nat.le_of_ble_eq_true rfl, Nat.le_of_ble_eq_true rfl⟩) (pSt hP hK hD hN hTH hS hFc) rfl rfl hl.1 rfl (lv_room (Nat.le_of_ble_eq_true rfl)) dX9_hob_30 ⟨Nat.le_of_ble_eq_true rfl, Nat.le_of_ble_eq_true rfl⟩) hS (fun q _ h => hFc q h) hFc (fun q _ h => hFc q h) (fun E ce q9 u t H1 locs ht hvm hw hB hz1 hk1 hS hq9 hce hcl => ?_) (fun u t H1 locs ht hvm hw hB hz1 hk1 hS => ?_)
        · obtain ⟨c20, hEc20, hB2⟩ := hB
          obtain ⟨hP, hD⟩ := wd_post hFc ht hB2
          exact vx_out (fun x h => (hno x h).elim) hlocks hq9 hce hcl (fun t2 ht2 hA2 => ⟨S, t0, ⟨(by show f_X9_hob S o1 x1 x2 x3 x4 = .error E; unfold f_X9_hob; rw [eB_ok c3, eB_ok c9, eB_ok c15, eB_er c20]), (el_in (by decide) hEc20), rfl, wd_end hP hK hD ht2 hA2⟩, hS.F ht2⟩) hS.2.2 (Nat.le_of_ble_eq_true rfl) (Nat.le_of_ble_eq_true rfl)
        · have c21 := hw
          obtain ⟨hP, hD⟩ := wd_post hFc ht hB
          generalize H1 = H at hP hS ⊢
          have i22 := nr_i c21
          have i22l := i22.1
          have i22h := i22.2
          have l23 : (1 : Int32).toInt = 1 := rfl
          have l24 : (20 : Int32).toInt = 20 := rfl
          refine lv_aload_n hx hb dX9_hob_33 rfl (lv_at hl 0 rfl) ?_
          obtain ⟨k25, gk25, hk25⟩ := wGt (cy := cy) X S h_o1.1 h_o1.2.1
          have i26 := ((hW.at h_o1 List.not_mem_nil).to_9 h_o1.2.1).R3
          refine va_get (D := D) (ci := 13) (v := .int (S.I o1 3)) (C := RX9) (T := TX9) (N := 11) hx hb hts hi_X9_hob_X9 hown hK hP k25 hk25 rfl 3 (by decide) (hts (.fieldLink RX9 249 "Hobhouse" "hobCount" "I") (by decide +kernel)) (fun _ h9 => h9) rfl dX9_hob_34 ?_
          refine lv_aload_n hx hb dX9_hob_37 rfl (lv_at hl 0 rfl) ?_
          have F27 := ((hW.at h_o1 List.not_mem_nil).to_9 h_o1.2.1).F2
          obtain ⟨k28, gk28, hk28⟩ := wGt (cy := cy) X S h_o1.1 h_o1.2.1
          simp only [kE, F27.1] at hk28
          refine va_get (D := D) (ci := 13) (v := .ref (S.f o1 2)) (C := RX9) (T := TX9) (N := 11) hx hb hts hi_X9_hob_X9 hown hK hP k28 hk28 rfl 2 (by decide) (hts (.fieldLink RX9 17 "Hobhouse" "hobs" "[LHobhouse$Hob;") (by decide +kernel)) (fun _ h9 => h9) rfl dX9_hob_38 ?_
          obtain ⟨k29, gk29, hk29⟩ := wGt (cy := cy) X S F27.2.1.1 F27.2.1.2.1
          refine va_alen (D := D) (cl := vwCl) (tys := tyL cy) hx hb hK hP k29 5 hk29 rfl (v := (8 : Int32)) (by rw [F27.2.2]; rfl) dX9_hob_41 ?_
          refine lv_icmp_lt (tgt := 55) hx hb dX9_hob_42 (by decide) (fun c30 => ?_) (fun c30 => ?_)
          · have c30i : (S.I o1 3).toInt < 8 := lt_v rfl rfl c30
            refine lv_aload_n hx hb dX9_hob_55 rfl (lv_at hl 0 rfl) ?_
            obtain ⟨k31, gk31, hk31⟩ := wGt (cy := cy) X S h_o1.1 h_o1.2.1
            refine va_get (D := D) (ci := 13) (v := .int (S.I o1 3)) (C := RX9) (T := TX9) (N := 11) hx hb hts hi_X9_hob_X9 hown hK hP k31 hk31 rfl 3 (by decide) (hts (.fieldLink RX9 249 "Hobhouse" "hobCount" "I") (by decide +kernel)) (fun _ h9 => h9) rfl dX9_hob_56 ?_
            refine lv_istore (lv' := [(5, .int (S.I o1 3)), (0, .ref o1), (1, .int x1), (2, .int x2), (3, .int x3), (4, .int x4)]) hx hb dX9_hob_59 hl (by decide) rfl (fun ls hl => ?_)
            refine lv_aload_n hx hb dX9_hob_61 rfl (lv_at hl 1 rfl) ?_
            obtain ⟨k32, gk32, hk32⟩ := wGt (cy := cy) X S h_o1.1 h_o1.2.1
            simp only [kE, F27.1] at hk32
            refine va_get (D := D) (ci := 13) (v := .ref (S.f o1 2)) (C := RX9) (T := TX9) (N := 11) hx hb hts hi_X9_hob_X9 hown hK hP k32 hk32 rfl 2 (by decide) (hts (.fieldLink RX9 17 "Hobhouse" "hobs" "[LHobhouse$Hob;") (by decide +kernel)) (fun _ h9 => h9) rfl dX9_hob_62 ?_
            refine lv_iload hx hb dX9_hob_65 (lv_at hl 0 rfl) ?_
            refine va_new (ci := 7) (fs := [.int 0, .int 0, .null, .int 0, .int 0, .int 0]) (C := RX3) (T := TX3) (N := 6) hx hb hts hi_X9_hob_X3 tyX3 tyX3_ok hown (hts (.classLink RX9 15 RX3) (by decide +kernel)) (hts (.instantiable RX3 6) (by decide +kernel)) (hts (.initialized RX3) (by decide +kernel)) hK hP hD hS hA rfl (fun j hj => by rcases (show j = 0 ∨ j = 1 ∨ j = 2 ∨ j = 3 ∨ j = 4 ∨ j = 5 by omega) with rfl | rfl | rfl | rfl | rfl | rfl <;> rfl) (Nat.le_of_ble_eq_true rfl) (Nat.le_of_ble_eq_true rfl) dX9_hob_67 (fun qa33 H hP2 hD2 hS => ?_)
            have hqa33 : qa33 ∉ S.L := nw_q hD2
            have e9 := wNw (cy := cy) (X := X) (S := S) (a := qa33) (k := 3) (z := 0) (f := fun _ => 0) (g := fun _ => none) hqa33 rfl
            obtain ⟨S34, hS34⟩ : ∃ z, S.nw qa33 3 0 (fun _ => 0) (fun _ => none) = z := ⟨_, rfl⟩
            have hP : va_P D vwCl (X ++ PL cy S34) H := by rw [← hS34, ← e9]; exact hP2
            have hD : va_D A (X ++ PL cy S34) := by rw [← hS34, ← e9]; exact hD2
            have xe35 : ext S S34 := by rw [← hS34]; exact ext.nw hqa33
            have t36 : stp [(9, 3), (20, 101)] [] (qa33 :: []) S S34 := by rw [← hS34]; exact t0.nw hqa33 (Or.inl (by decide))
            have k37 : (S34.I o1 3).toInt = (S.I o1 3).toInt := by rw [← hS34]; exact congrArg Int32.toInt (nw_Io hqa33 h_o1.1)
            refine W.widen (k := 5) (n := 30) (Nat.le_of_ble_eq_true rfl) (Nat.le_of_ble_eq_true rfl) ?_
            have aqa33 : isA S34 qa33 3 := by rw [← hS34]; exact nw_A (by decide)
            have fqa33 : ∀ j, S34.F qa33 j = none := by rw [← hS34]; exact nw_F
            have iqa33 : ∀ j, S34.I qa33 j = 0 := by rw [← hS34]; exact nw_I
            have bqa33 : qa33 ∉ S.L := fun e => hqa33 e
            refine lv_dup hx hb dX9_hob_70 rfl ?_
            refine lv_iload_n hx hb dX9_hob_71 rfl (lv_at hl 2 rfl) ?_
            refine lv_iload_n hx hb dX9_hob_72 rfl (lv_at hl 3 rfl) ?_
            refine lv_iload_n hx hb dX9_hob_73 rfl (lv_at hl 4 rfl) ?_
            refine lv_iload hx hb dX9_hob_74 (lv_at hl 5 rfl) ?_
            have hFc := free_all hD hS hA
            refine va_callv (va_runI (As := [.int x1, .int x2, .int x3, .int x4]) (rest := [.ref qa33, .int (S.I o1 3), .ref (S.f o1 2)]) ⟨hx, hb, hml, hown, hts⟩ (c_X3_init l (cy := cy) (X := X) (D := D) S34 _ qa33 aqa33 x1 x2 x3 x4 [] (t36.w) fqa33 iqa33 (by omega)) (cwI 4 hts gX9_hob_X3_init rfl rfl rfl (hts (.initialized RX3) (by decide +kernel)) (hts (.methodLink RX9 254 yX3_init) (by decide +kernel)) (hts (.instanceMethod yX3_init) (by decide +kernel)) rfl (by decide +kernel) ⟨Nat.le_of_ble_eq_true rfl, Nat.le_of_ble_eq_true rfl⟩) (pS hP hK hD hN) rfl rfl hl.1 rfl (lv_room (Nat.le_of_ble_eq_true rfl)) dX9_hob_76 ⟨Nat.le_of_ble_eq_true rfl, Nat.le_of_ble_eq_true rfl⟩) hS (fun q _ h => hFc q h) hFc (fun u t H1 locs ht hvm hw hB hz1 hk1 hS => ?_)
            obtain ⟨w39, y40, y41, y42, y43, y44, y45⟩ := hw
            obtain ⟨hP, hD⟩ := wd_post hFc ht hB
            generalize H1 = H at hP hS ⊢
            obtain ⟨S46, rfl⟩ : ∃ z, z = u := ⟨_, rfl⟩
            have t47 : stp [(9, 3), (20, 101)] [] [] S S46 := t36.tr w39 (by decide) (fun z q => by rw [List.mem_singleton.mp q]; exact (Or.inr bqa33))
            have xe48 : ext S34 S46 := w39.x
            have k49 : (S46.I o1 3).toInt = (S34.I o1 3).toInt := by rw [(w39.fR o1 (xe35.A h_o1).1 (by rw [List.mem_singleton]; exact fun e => hqa33 (e ▸ h_o1.1))).1 3 (by rw [(xe35.A h_o1).2.1]; decide) |>.1]
            obtain ⟨k50, gk50, hk50⟩ := wGt (cy := cy) X S46 (xe48.A aqa33).1 (xe48.A aqa33).2.1
            obtain ⟨k51, gk51, hk51⟩ := wGt (cy := cy) X S46 ((xe35.tr xe48).A F27.2.1).1 ((xe35.tr xe48).A F27.2.1).2.1
            refine va_astq hx hb hK hP hD hS k51 5 k50 7 hk51 rfl hk50 rfl (inb (m := 8) (((xe35.tr xe48).n F27.2.1).trans F27.2.2) (by omega) (by omega)) dX9_hob_79 (fun H locs hP2 hD2 hS => ?_)
            have e9 := wPur (cy := cy) (f := (va_up (S46.r (S.f o1 2)) (S.I o1 3).toNatClampNeg (some qa33))) hD ((xe35.tr xe48).A F27.2.1).1 ((xe35.tr xe48).A F27.2.1).2.1 gk51 rfl
            obtain ⟨S52, hS52⟩ : ∃ z, S46.sr (S.f o1 2) (va_up (S46.r (S.f o1 2)) (S.I o1 3).toNatClampNeg (some qa33)) = z := ⟨_, rfl⟩
            have hP : va_P D vwCl (X ++ PL cy S52) H := by rw [← hS52, ← e9]; exact hP2
            have hD : va_D A (X ++ PL cy S52) := by rw [← hS52, ← e9]; exact hD2
            have xe53 : ext S46 S52 := by rw [← hS52]; exact ext.sr _ _ _
            have t54 : stp [(9, 3), (20, 101)] [] [] S S52 := by rw [← hS52]; exact t47.r ((xe35.tr xe48).A F27.2.1) (by decide) (xe48.A aqa33) (Or.inr (Or.inl ⟨rfl, rfl⟩)) List.not_mem_nil (by decide)
            have k55 : (S52.I o1 3).toInt = (S46.I o1 3).toInt := by rw [← hS52]; rfl
            have g56 : S52.r (S.f o1 2) (S.I o1 3).toNatClampNeg = some qa33 := by rw [← hS52]; exact sr_eq
            refine lv_aload_n hx hb dX9_hob_80 rfl (lv_at hl 1 rfl) ?_
            refine lv_dup hx hb dX9_hob_81 rfl ?_
            obtain ⟨k57, gk57, hk57⟩ := wGt (cy := cy) X S52 ((xe35.tr (xe48.tr xe53)).A h_o1).1 ((xe35.tr (xe48.tr xe53)).A h_o1).2.1
            have i58 := ((t54.w.at ((xe35.tr (xe48.tr xe53)).A h_o1) List.not_mem_nil).to_9 ((xe35.tr (xe48.tr xe53)).A h_o1).2.1).R3
            refine va_get (D := D) (ci := 13) (v := .int (S52.I o1 3)) (C := RX9) (T := TX9) (N := 11) hx hb hts hi_X9_hob_X9 hown hK hP k57 hk57 rfl 3 (by decide) (hts (.fieldLink RX9 249 "Hobhouse" "hobCount" "I") (by decide +kernel)) (fun _ h9 => h9) rfl dX9_hob_82 ?_
            refine lv_iconst (v := 1) hx hb dX9_hob_85 (by decide) ?_
            refine lv_iadd hx hb dX9_hob_86 ?_
            have i59 : ((S52.I o1 3) + (1 : Int32)).toInt = (S52.I o1 3).toInt + 1 := t_addr (n := 1) rfl (by omega)
            obtain ⟨k60, gk60, hk60⟩ := wGt (cy := cy) X S52 ((xe35.tr (xe48.tr xe53)).A h_o1).1 ((xe35.tr (xe48.tr xe53)).A h_o1).2.1
            refine va_put (D := D) (ci := 13) (v := .int ((S52.I o1 3) + (1 : Int32))) (ty := .int) (C := RX9) (T := TX9) (N := 11) hx hb hts hi_X9_hob_X9 tyX9 tyX9_ok nmX9 hown hK hP hD hS k60 hk60 rfl 3 (by decide) (hts (.fieldLink RX9 249 "Hobhouse" "hobCount" "I") (by decide +kernel)) (fun _ h9 => h9) rfl (by decide +kernel) (rfl) (rfl) (Nat.le_of_ble_eq_true rfl) dX9_hob_87 (fun H locs hP2 hD2 hS => ?_)
            have e9 := wPuI (cy := cy) (j := 3) (v := ((S52.I o1 3) + (1 : Int32))) hD ((xe35.tr (xe48.tr xe53)).A h_o1).1 ((xe35.tr (xe48.tr xe53)).A h_o1).2.1 gk60 rfl
            have i61 := cl_int (i := S.I o1 3) (by omega)
            obtain ⟨S62, hS62⟩ : ∃ z, S52.sI o1 3 ((S52.I o1 3) + (1 : Int32)) = z := ⟨_, rfl⟩
            have hP : va_P D vwCl (X ++ PL cy S62) H := by rw [← hS62, ← e9]; exact hP2
            have hD : va_D A (X ++ PL cy S62) := by rw [← hS62, ← e9]; exact hD2
            have xe63 : ext S52 S62 := by rw [← hS62]; exact ext.sI _ _ _ _
            have t64 : stp [(9, 3), (20, 101)] [] [] S S62 := by rw [← hS62]; exact t54.I 3 ((S52.I o1 3) + (1 : Int32)) ((xe35.tr (xe48.tr xe53)).A h_o1) (by decide) (⟨⟨by omega, by omega⟩, by rw [f_of ((xe35.tr (xe48.tr xe53)).F h_o1 (by decide) F27.1)]; exact E_push (by have h9 := ((t54.w.at ((xe35.tr (xe48.tr xe53)).A h_o1) List.not_mem_nil).to_9 ((xe35.tr (xe48.tr xe53)).A h_o1).2.1).E2; rw [f_of ((xe35.tr (xe48.tr xe53)).F h_o1 (by decide) F27.1)] at h9; exact h9) (by omega) g56 (by omega) (xe53.A (xe48.A aqa33))⟩) (Or.inl (by decide))
            have k65 : (S62.I o1 3).toInt = ((S52.I o1 3) + (1 : Int32)).toInt := by rw [← hS62, sI_eq]
            refine lv_iload hx hb dX9_hob_90 (lv_at hl 0 rfl) ?_
            refine vx_ret ?_
            refine W.widen (k := 6) (n := 50) (Nat.le_of_ble_eq_true rfl) (Nat.le_of_ble_eq_true rfl) ?_
            exact W.iret (v := S.I o1 3) hx hb hr (fun t ht hW9 => ⟨⟨S.I o1 3, S62, rfl, ⟨(by show f_X9_hob S o1 x1 x2 x3 x4 = .ok (S.I o1 3); unfold f_X9_hob; rw [eB_ok c3, eB_ok c9, eB_ok c15, eB_ok c21, if_pos c30]), t64, (by omega), (⟨qa33, bqa33, (xe63.A (xe53.A (xe48.A aqa33))), (by rw [← hS62]; exact g56), (fun i hi => ((show S62.r (S.f o1 2) i = S52.r (S.f o1 2) i from by rw [← hS62]; rfl).trans ((show S52.r (S.f o1 2) i = S46.r (S.f o1 2) i from by rw [← hS52]; exact sr_up_ne hi).trans ((show S46.r (S.f o1 2) i = S34.r (S.f o1 2) i from congrFun ((w39.fR (S.f o1 2) (xe35.A F27.2.1).1 (by rw [List.mem_singleton]; exact fun e => hqa33 (e ▸ F27.2.1.1))).2.2.1 (by rw [(xe35.A F27.2.1).2.1]; decide)) i).trans (show S34.r (S.f o1 2) i = S.r (S.f o1 2) i from by rw [← hS34]; exact congrFun (up_nq (f := S.r) (fun e : (S.f o1 2) = qa33 => hqa33 (by rw [← e]; exact F27.2.1.1))) i))))), (by rw [← hS62, sI_no (fun e1 : qa33 = o1 => hqa33 (by rw [e1]; exact h_o1.1))]; rw [← hS52]; show S46.I qa33 0 = _; exact y41), (by rw [← hS62, sI_no (fun e1 : qa33 = o1 => hqa33 (by rw [e1]; exact h_o1.1))]; rw [← hS52]; show S46.I qa33 1 = _; exact y42), (by rw [← hS62, sI_no (fun e1 : qa33 = o1 => hqa33 (by rw [e1]; exact h_o1.1))]; rw [← hS52]; show S46.I qa33 3 = _; exact y43), (by rw [← hS62, sI_no (fun e1 : qa33 = o1 => hqa33 (by rw [e1]; exact h_o1.1))]; rw [← hS52]; show S46.I qa33 4 = _; exact y44), (by rw [← hS62, sI_no (fun e1 : qa33 = o1 => hqa33 (by rw [e1]; exact h_o1.1))]; rw [← hS52]; show S46.I qa33 5 = _; exact y45)⟩)⟩, wd_end hP hK hD ht hW9.alike⟩, hS.F ht⟩) hS.2.2 dX9_hob_92 hlocks
          · have c30i : 8 ≤ (S.I o1 3).toInt := nlt_v rfl rfl c30
            obtain ⟨sa, hsa⟩ := hTH.2.2 (RX9, 252, "there are 8 hobs") (by decide +kernel)
            exact vx_throwS hx hb hst (names := ["java/lang/RuntimeException", "java/lang/Exception"]) hown (by decide +kernel) (by decide +kernel) (hts (.classLink RX9 67 "java/lang/IllegalStateException") (by decide +kernel)) (hts (.initialized "java/lang/IllegalStateException") (by decide +kernel)) hsa (th_at (B := exW_X9_ISE) (fun w h => hts w (s_X9_hob_ISE w h)) rfl (by simp only [exW, List.mem_append]; intro w h; simp [h]) hTH.2.1) (List.forall_mem_cons.mpr ⟨by decide +kernel, List.forall_mem_cons.mpr ⟨by decide +kernel, exW_X9_ISE_ok⟩⟩) hTH.1.1 hTH.1.2 hS (hl.1.trans hml.symm) dX9_hob_45 dX9_hob_48 dX9_hob_49 dX9_hob_51 dX9_hob_54 (fun x h => (hno x h).elim) (Nat.le_of_ble_eq_true rfl) (Nat.le_of_ble_eq_true rfl) (Nat.le_of_ble_eq_true rfl) (Nat.le_of_ble_eq_true rfl) hlocks (fun t hA2 h1 h2 => ⟨S, t0, ⟨(by show f_X9_hob S o1 x1 x2 x3 x4 = .error "java/lang/IllegalStateException"; unfold f_X9_hob; rw [eB_ok c3, eB_ok c9, eB_ok c15, eB_ok c21, if_neg c30]), (by decide), rfl, wd_exc hP hK hD hA2 h2⟩, exc_F hS h1 h2⟩) hS.2.2 (Nat.le_of_ble_eq_true rfl) (Nat.le_of_ble_eq_true rfl)
theorem nk_i {a : Int32} (h : f_X9_needKind a = .ok ()) : a = 104 ∨ a = 102 ∨ a = 103 ∨ a = 99 := by
  unfold f_X9_needKind at h
  (repeat' split at h) <;> first | (cases h; done) | (rename_i h1; subst h1; decide) | skip
  all_goals first | (exact Or.inl (by assumption)) | (exact Or.inr (Or.inl (by assumption))) | (exact Or.inr (Or.inr (Or.inl (by assumption)))) | (exact Or.inr (Or.inr (Or.inr (by assumption))))
theorem nk_nar {a : Int32} (h : f_X9_needKind a = .ok ()) : narrow .char (.int a) = .int a := by
  rcases nk_i h with h | h | h | h <;> subst h <;> rfl
theorem nk_fit {a : Int32} (h : f_X9_needKind a = .ok ()) : fits .char (.int a) = true := by
  rcases nk_i h with h | h | h | h <;> subst h <;> rfl
theorem full_i {S : wPS} {o : Nat} (h : f_X0_isFull S o = 0) : (S.I o 2).toInt < 16 := by
  unfold f_X0_isFull at h
  split at h
  · rename_i h1; exact lt_v rfl rfl h1
  · cases h
def f_X9_machine (S : wPS) (o1 : Nat) (x1 : Int32) (x2 : Int32) : Except String Int32 := eB (f_X9_needKind x1) (fun _ => eB (f_X9_needRange x2 (1 : Int32) (99 : Int32)) (fun _ => if (S.I o1 5) < (6 : Int32) then .ok (S.I o1 5) else .error "java/lang/IllegalStateException"))
set_option maxRecDepth 20000 in
theorem s_X9_machine_ISE : ∀ w ∈ (vx_atS RX9 71 "java/lang/IllegalStateException" ["java/lang/RuntimeException", "java/lang/Exception"]).filter goodWord, w ∈ wsX9_machine := fun w h => List.mem_cons_of_mem _ (List.mem_append_left _ (List.mem_append_right _ h))
theorem hi_X9_machine_X7 : ∀ w ∈ u_ws RX7 TX7 4, w ∈ wsX9_machine := by decide +kernel
theorem hi_X9_machine_X9 : ∀ w ∈ u_ws RX9 TX9 11, w ∈ wsX9_machine := by decide +kernel
theorem hd_X9_machine : yX9_machine.cls = RX9 ∧ yX9_machine.cls ≠ "java/lang/invoke/MethodHandle" ∧ yX9_machine.cls ≠ "java/lang/invoke/VarHandle" ∧ (parseMethodDescriptor yX9_machine.desc).map (fun d => d.parameters.length) = some 2 := by decide +kernel
set_option maxHeartbeats 4000000 in
set_option maxRecDepth 100000 in
theorem c_X9_machine (l : Launch) (hst : l.stackTraces = false) {D : va_G} {cy : Nat → ClassId} {X : va_W} (S : wPS) (sz : Nat) (o1 : Nat) (h_o1 : isA S o1 9) (x1 : Int32) (x2 : Int32) (hW : wtB S [])  : vx_Met l yX9_machine wsX9_machine ({ frames := 7, cells := 3, slots := 18, locals := 104 }) (va_Pc [.ref o1, .int x1, .int x2] (fun U => U.heap.size = sz ∧ WD D cy X (fun _ => True) S U ∧ NW U ∧ TH (va_A (X ++ PL cy S) sz) U)) (va_Qi (fun r (u : wPS) => f_X9_machine S o1 x1 x2 = .ok r ∧ stp [(9, 5), (21, 101)] [] [] S u ∧ (u.I o1 5).toInt = (S.I o1 5).toInt + 1 ∧ (∃ g : Nat, g ∉ S.L ∧ isA u g 7 ∧ u.r (S.f o1 4) (S.I o1 5).toNatClampNeg = some g ∧ (∀ i : Nat, i ≠ (S.I o1 5).toNatClampNeg → u.r (S.f o1 4) i = S.r (S.f o1 4) i) ∧ u.I g 0 = x1 ∧ u.I g 1 = x2 ∧ u.I g 2 = (0 : Int32) ∧ u.I g 3 = (0 : Int32))) (fun u t => WD D cy X (va_A (X ++ PL cy S) sz) u t) (va_A (X ++ PL cy S) sz)) (vx_X (fun (u : wPS) => stp [(9, 5), (21, 101)] [] [] S u) (fun E u t => f_X9_machine S o1 x1 x2 = .error E ∧ E ∈ ["java/lang/IllegalArgumentException", "java/lang/IllegalStateException"] ∧ u = S ∧ WD D cy X (va_A (X ++ PL cy S) sz) u t) (va_A (X ++ PL cy S) sz)) 3 18 (va_A (X ++ PL cy S) sz) := by
  refine vx_ofW (cc := cX9_machine) (maxL := 4) (ret := (some .int)) (by decide) rfl ?_
  intro p e s m args below meth c s₁ B hml hno hv
  obtain ⟨rfl, hsz, ⟨hP, hK, hD0⟩, hN, hTH⟩ := hv
  have hx := B.exec
  have hb := B.bytes
  have hr := B.returns
  have hts := atoms_spec (ws := wsX9_machine) B.pre
  have hown : s.vm.findClass RX9 = some m.cls := findClass_of_methodNamed (x := yX9_machine) B.named
  have hlocks := B.notSynchronized
  subst hsz
  have hD := hD0.self (sz := s.heap.size)
  generalize hAe : va_A (X ++ PL cy S) s.heap.size = A at hD hTH ⊢
  have hA : ∀ q : Nat, s.heap.size ≤ q → A q := fun q h => by rw [← hAe]; exact Or.inr h
  have hS : va_S A s.heap s.heap [] := va_S.rf
  have hl := lv_entry ([.ref o1, .int x1, .int x2]) (n := 4) (Nat.le_of_ble_eq_true rfl)
  rw [lg_entry_eq]
  generalize (lg_sl ([.ref o1, .int x1, .int x2]) ++ List.replicate (4 - (lg_sl ([.ref o1, .int x1, .int x2])).length) Slot.unset).toArray = ls at hl ⊢
  have hl : lv_has ls 4 [(0, .ref o1), (1, .int x1), (2, .int x2)] := hl
  have t0 : stp [(9, 5), (21, 101)] [] [] S S := stp.rf hW
  refine lv_iload_n hx hb dX9_machine_0 rfl (lv_at hl 1 rfl) ?_
  have hFc := free_all hD hS hA
  refine vx_callv (vx_runS (As := [.int x1]) (rest := []) ⟨hx, hb, hml, hown, hts⟩ (c_X9_needKind l hst (cy := cy) (X := X) (D := D) S _ x1) (cwS 1 hts gX9_machine_X9_needKind rfl rfl rfl hd_X9_needKind ⟨Nat.le_of_ble_eq_true rfl, Nat.le_of_ble_eq_true rfl⟩) (pSt hP hK hD hN hTH hS hFc) rfl rfl hl.1 rfl (lv_room (Nat.le_of_ble_eq_true rfl)) dX9_machine_1 ⟨Nat.le_of_ble_eq_true rfl, Nat.le_of_ble_eq_true rfl⟩) hS (fun q _ h => hFc q h) hFc (fun q _ h => hFc q h) (fun E ce q9 u t H1 locs ht hvm hw hB hz1 hk1 hS hq9 hce hcl => ?_) (fun u t H1 locs ht hvm hw hB hz1 hk1 hS => ?_)
  · obtain ⟨c2, hEc2, hB2⟩ := hB
    obtain ⟨hP, hD⟩ := wd_post hFc ht hB2
    exact vx_out (fun x h => (hno x h).elim) hlocks hq9 hce hcl (fun t2 ht2 hA2 => ⟨S, t0, ⟨(by show f_X9_machine S o1 x1 x2 = .error E; unfold f_X9_machine; rw [eB_er c2]), (el_in (by decide) hEc2), rfl, wd_end hP hK hD ht2 hA2⟩, hS.F ht2⟩) hS.2.2 (Nat.le_of_ble_eq_true rfl) (Nat.le_of_ble_eq_true rfl)
  · have c3 := hw
    obtain ⟨hP, hD⟩ := wd_post hFc ht hB
    generalize H1 = H at hP hS ⊢
    refine lv_iload_n hx hb dX9_machine_4 rfl (lv_at hl 2 rfl) ?_
    refine lv_iconst (v := 1) hx hb dX9_machine_5 (by decide) ?_
    refine lv_bipush (v := 99) hx hb dX9_machine_6 (by decide +kernel) ?_
    have l32_1 : (1 : Int32).toInt = 1 := rfl
    have l32_99 : (99 : Int32).toInt = 99 := rfl
    have hFc := free_all hD hS hA
    refine vx_callv (vx_runS (As := [.int x2, .int (1 : Int32), .int (99 : Int32)]) (rest := []) ⟨hx, hb, hml, hown, hts⟩ (c_X9_needRange l hst (cy := cy) (X := X) (D := D) S _ x2 (1 : Int32) (99 : Int32)) (cwS 3 hts gX9_machine_X9_needRange rfl rfl rfl hd_X9_needRange ⟨Nat.le_of_ble_eq_true rfl, Nat.le_of_ble_eq_true rfl⟩) (pSt hP hK hD hN hTH hS hFc) rfl rfl hl.1 rfl (lv_room (Nat.le_of_ble_eq_true rfl)) dX9_machine_8 ⟨Nat.le_of_ble_eq_true rfl, Nat.le_of_ble_eq_true rfl⟩) hS (fun q _ h => hFc q h) hFc (fun q _ h => hFc q h) (fun E ce q9 u t H1 locs ht hvm hw hB hz1 hk1 hS hq9 hce hcl => ?_) (fun u t H1 locs ht hvm hw hB hz1 hk1 hS => ?_)
    · obtain ⟨c5, hEc5, hB2⟩ := hB
      obtain ⟨hP, hD⟩ := wd_post hFc ht hB2
      exact vx_out (fun x h => (hno x h).elim) hlocks hq9 hce hcl (fun t2 ht2 hA2 => ⟨S, t0, ⟨(by show f_X9_machine S o1 x1 x2 = .error E; unfold f_X9_machine; rw [eB_ok c3, eB_er c5]), (el_in (by decide) hEc5), rfl, wd_end hP hK hD ht2 hA2⟩, hS.F ht2⟩) hS.2.2 (Nat.le_of_ble_eq_true rfl) (Nat.le_of_ble_eq_true rfl)
    · have c6 := hw
      obtain ⟨hP, hD⟩ := wd_post hFc ht hB
      generalize H1 = H at hP hS ⊢
      have i7 := nr_i c6
      have i7l := i7.1
      have i7h := i7.2
      have l8 : (1 : Int32).toInt = 1 := rfl
      have l9 : (99 : Int32).toInt = 99 := rfl
      refine lv_aload_n hx hb dX9_machine_11 rfl (lv_at hl 0 rfl) ?_
      obtain ⟨k10, gk10, hk10⟩ := wGt (cy := cy) X S h_o1.1 h_o1.2.1
      have i11 := ((hW.at h_o1 List.not_mem_nil).to_9 h_o1.2.1).R5
      refine va_get (D := D) (ci := 13) (v := .int (S.I o1 5)) (C := RX9) (T := TX9) (N := 11) hx hb hts hi_X9_machine_X9 hown hK hP k10 hk10 rfl 5 (by decide) (hts (.fieldLink RX9 426 "Hobhouse" "stationCount" "I") (by decide +kernel)) (fun _ h9 => h9) rfl dX9_machine_12 ?_
      refine lv_aload_n hx hb dX9_machine_15 rfl (lv_at hl 0 rfl) ?_
      have F12 := ((hW.at h_o1 List.not_mem_nil).to_9 h_o1.2.1).F4
      obtain ⟨k13, gk13, hk13⟩ := wGt (cy := cy) X S h_o1.1 h_o1.2.1
      simp only [kE, F12.1] at hk13
      refine va_get (D := D) (ci := 13) (v := .ref (S.f o1 4)) (C := RX9) (T := TX9) (N := 11) hx hb hts hi_X9_machine_X9 hown hK hP k13 hk13 rfl 4 (by decide) (hts (.fieldLink RX9 23 "Hobhouse" "stations" "[LHobhouse$Station;") (by decide +kernel)) (fun _ h9 => h9) rfl dX9_machine_16 ?_
      obtain ⟨k14, gk14, hk14⟩ := wGt (cy := cy) X S F12.2.1.1 F12.2.1.2.1
      refine va_alen (D := D) (cl := vwCl) (tys := tyL cy) hx hb hK hP k14 6 hk14 rfl (v := (6 : Int32)) (by rw [F12.2.2]; rfl) dX9_machine_19 ?_
      refine lv_icmp_lt (tgt := 34) hx hb dX9_machine_20 (by decide) (fun c15 => ?_) (fun c15 => ?_)
      · have c15i : (S.I o1 5).toInt < 6 := lt_v rfl rfl c15
        refine lv_aload_n hx hb dX9_machine_34 rfl (lv_at hl 0 rfl) ?_
        obtain ⟨k16, gk16, hk16⟩ := wGt (cy := cy) X S h_o1.1 h_o1.2.1
        refine va_get (D := D) (ci := 13) (v := .int (S.I o1 5)) (C := RX9) (T := TX9) (N := 11) hx hb hts hi_X9_machine_X9 hown hK hP k16 hk16 rfl 5 (by decide) (hts (.fieldLink RX9 426 "Hobhouse" "stationCount" "I") (by decide +kernel)) (fun _ h9 => h9) rfl dX9_machine_35 ?_
        refine lv_istore_n (lv' := [(3, .int (S.I o1 5)), (0, .ref o1), (1, .int x1), (2, .int x2)]) hx hb dX9_machine_38 rfl hl (by decide) rfl (fun ls hl => ?_)
        refine lv_aload_n hx hb dX9_machine_39 rfl (lv_at hl 1 rfl) ?_
        obtain ⟨k17, gk17, hk17⟩ := wGt (cy := cy) X S h_o1.1 h_o1.2.1
        simp only [kE, F12.1] at hk17
        refine va_get (D := D) (ci := 13) (v := .ref (S.f o1 4)) (C := RX9) (T := TX9) (N := 11) hx hb hts hi_X9_machine_X9 hown hK hP k17 hk17 rfl 4 (by decide) (hts (.fieldLink RX9 23 "Hobhouse" "stations" "[LHobhouse$Station;") (by decide +kernel)) (fun _ h9 => h9) rfl dX9_machine_40 ?_
        refine lv_iload_n hx hb dX9_machine_43 rfl (lv_at hl 0 rfl) ?_
        refine va_new (ci := 11) (fs := [.int 0, .int 0, .int 0, .int 0]) (C := RX7) (T := TX7) (N := 4) hx hb hts hi_X9_machine_X7 tyX7 tyX7_ok hown (hts (.classLink RX9 21 RX7) (by decide +kernel)) (hts (.instantiable RX7 4) (by decide +kernel)) (hts (.initialized RX7) (by decide +kernel)) hK hP hD hS hA rfl (fun j hj => by rcases (show j = 0 ∨ j = 1 ∨ j = 2 ∨ j = 3 by omega) with rfl | rfl | rfl | rfl <;> rfl) (Nat.le_of_ble_eq_true rfl) (Nat.le_of_ble_eq_true rfl) dX9_machine_44 (fun qa18 H hP2 hD2 hS => ?_)
        have hqa18 : qa18 ∉ S.L := nw_q hD2
        have e9 := wNw (cy := cy) (X := X) (S := S) (a := qa18) (k := 7) (z := 0) (f := fun _ => 0) (g := fun _ => none) hqa18 rfl
        obtain ⟨S19, hS19⟩ : ∃ z, S.nw qa18 7 0 (fun _ => 0) (fun _ => none) = z := ⟨_, rfl⟩
        have hP : va_P D vwCl (X ++ PL cy S19) H := by rw [← hS19, ← e9]; exact hP2
        have hD : va_D A (X ++ PL cy S19) := by rw [← hS19, ← e9]; exact hD2
        have xe20 : ext S S19 := by rw [← hS19]; exact ext.nw hqa18
        have t21 : stp [(9, 5), (21, 101)] [] (qa18 :: []) S S19 := by rw [← hS19]; exact t0.nw hqa18 (Or.inl (by decide))
        have k22 : (S19.I o1 5).toInt = (S.I o1 5).toInt := by rw [← hS19]; exact congrArg Int32.toInt (nw_Io hqa18 h_o1.1)
        refine W.widen (k := 3) (n := 16) (Nat.le_of_ble_eq_true rfl) (Nat.le_of_ble_eq_true rfl) ?_
        have aqa18 : isA S19 qa18 7 := by rw [← hS19]; exact nw_A (by decide)
        have fqa18 : ∀ j, S19.F qa18 j = none := by rw [← hS19]; exact nw_F
        have iqa18 : ∀ j, S19.I qa18 j = 0 := by rw [← hS19]; exact nw_I
        have bqa18 : qa18 ∉ S.L := fun e => hqa18 e
        refine lv_dup hx hb dX9_machine_47 rfl ?_
        refine lv_iload_n hx hb dX9_machine_48 rfl (lv_at hl 2 rfl) ?_
        refine lv_iload_n hx hb dX9_machine_49 rfl (lv_at hl 3 rfl) ?_
        have hFc := free_all hD hS hA
        refine va_callv (va_runI (As := [.int x1, .int x2]) (rest := [.ref qa18, .int (S.I o1 5), .ref (S.f o1 4)]) ⟨hx, hb, hml, hown, hts⟩ (c_X7_init l (cy := cy) (X := X) (D := D) S19 _ qa18 aqa18 x1 x2 [] (t21.w) fqa18 iqa18 (nk_nar c3) (nk_fit c3)) (cwI 2 hts gX9_machine_X7_init rfl rfl rfl (hts (.initialized RX7) (by decide +kernel)) (hts (.methodLink RX9 431 yX7_init) (by decide +kernel)) (hts (.instanceMethod yX7_init) (by decide +kernel)) rfl (by decide +kernel) ⟨Nat.le_of_ble_eq_true rfl, Nat.le_of_ble_eq_true rfl⟩) (pS hP hK hD hN) rfl rfl hl.1 rfl (lv_room (Nat.le_of_ble_eq_true rfl)) dX9_machine_50 ⟨Nat.le_of_ble_eq_true rfl, Nat.le_of_ble_eq_true rfl⟩) hS (fun q _ h => hFc q h) hFc (fun u t H1 locs ht hvm hw hB hz1 hk1 hS => ?_)
        obtain ⟨w24, y25, y26, y27, y28, y29⟩ := hw
        obtain ⟨hP, hD⟩ := wd_post hFc ht hB
        generalize H1 = H at hP hS ⊢
        obtain ⟨S30, rfl⟩ : ∃ z, z = u := ⟨_, rfl⟩
        have t31 : stp [(9, 5), (21, 101)] [] [] S S30 := t21.tr w24 (by decide) (fun z q => by rw [List.mem_singleton.mp q]; exact (Or.inr bqa18))
        have xe32 : ext S19 S30 := w24.x
        have k33 : (S30.I o1 5).toInt = (S19.I o1 5).toInt := by rw [(w24.fR o1 (xe20.A h_o1).1 (by rw [List.mem_singleton]; exact fun e => hqa18 (e ▸ h_o1.1))).1 5 (by rw [(xe20.A h_o1).2.1]; decide) |>.1]
        obtain ⟨k34, gk34, hk34⟩ := wGt (cy := cy) X S30 (xe32.A aqa18).1 (xe32.A aqa18).2.1
        obtain ⟨k35, gk35, hk35⟩ := wGt (cy := cy) X S30 ((xe20.tr xe32).A F12.2.1).1 ((xe20.tr xe32).A F12.2.1).2.1
        refine va_astq hx hb hK hP hD hS k35 6 k34 11 hk35 rfl hk34 rfl (inb (m := 6) (((xe20.tr xe32).n F12.2.1).trans F12.2.2) (by omega) (by omega)) dX9_machine_53 (fun H locs hP2 hD2 hS => ?_)
        have e9 := wPur (cy := cy) (f := (va_up (S30.r (S.f o1 4)) (S.I o1 5).toNatClampNeg (some qa18))) hD ((xe20.tr xe32).A F12.2.1).1 ((xe20.tr xe32).A F12.2.1).2.1 gk35 rfl
        obtain ⟨S36, hS36⟩ : ∃ z, S30.sr (S.f o1 4) (va_up (S30.r (S.f o1 4)) (S.I o1 5).toNatClampNeg (some qa18)) = z := ⟨_, rfl⟩
        have hP : va_P D vwCl (X ++ PL cy S36) H := by rw [← hS36, ← e9]; exact hP2
        have hD : va_D A (X ++ PL cy S36) := by rw [← hS36, ← e9]; exact hD2
        have xe37 : ext S30 S36 := by rw [← hS36]; exact ext.sr _ _ _
        have t38 : stp [(9, 5), (21, 101)] [] [] S S36 := by rw [← hS36]; exact t31.r ((xe20.tr xe32).A F12.2.1) (by decide) (xe32.A aqa18) (Or.inr (Or.inr (Or.inl ⟨rfl, rfl⟩))) List.not_mem_nil (by decide)
        have k39 : (S36.I o1 5).toInt = (S30.I o1 5).toInt := by rw [← hS36]; rfl
        have g40 : S36.r (S.f o1 4) (S.I o1 5).toNatClampNeg = some qa18 := by rw [← hS36]; exact sr_eq
        refine lv_aload_n hx hb dX9_machine_54 rfl (lv_at hl 1 rfl) ?_
        refine lv_dup hx hb dX9_machine_55 rfl ?_
        obtain ⟨k41, gk41, hk41⟩ := wGt (cy := cy) X S36 ((xe20.tr (xe32.tr xe37)).A h_o1).1 ((xe20.tr (xe32.tr xe37)).A h_o1).2.1
        have i42 := ((t38.w.at ((xe20.tr (xe32.tr xe37)).A h_o1) List.not_mem_nil).to_9 ((xe20.tr (xe32.tr xe37)).A h_o1).2.1).R5
        refine va_get (D := D) (ci := 13) (v := .int (S36.I o1 5)) (C := RX9) (T := TX9) (N := 11) hx hb hts hi_X9_machine_X9 hown hK hP k41 hk41 rfl 5 (by decide) (hts (.fieldLink RX9 426 "Hobhouse" "stationCount" "I") (by decide +kernel)) (fun _ h9 => h9) rfl dX9_machine_56 ?_
        refine lv_iconst (v := 1) hx hb dX9_machine_59 (by decide) ?_
        refine lv_iadd hx hb dX9_machine_60 ?_
        have i43 : ((S36.I o1 5) + (1 : Int32)).toInt = (S36.I o1 5).toInt + 1 := t_addr (n := 1) rfl (by omega)
        obtain ⟨k44, gk44, hk44⟩ := wGt (cy := cy) X S36 ((xe20.tr (xe32.tr xe37)).A h_o1).1 ((xe20.tr (xe32.tr xe37)).A h_o1).2.1
        refine va_put (D := D) (ci := 13) (v := .int ((S36.I o1 5) + (1 : Int32))) (ty := .int) (C := RX9) (T := TX9) (N := 11) hx hb hts hi_X9_machine_X9 tyX9 tyX9_ok nmX9 hown hK hP hD hS k44 hk44 rfl 5 (by decide) (hts (.fieldLink RX9 426 "Hobhouse" "stationCount" "I") (by decide +kernel)) (fun _ h9 => h9) rfl (by decide +kernel) (rfl) (rfl) (Nat.le_of_ble_eq_true rfl) dX9_machine_61 (fun H locs hP2 hD2 hS => ?_)
        have e9 := wPuI (cy := cy) (j := 5) (v := ((S36.I o1 5) + (1 : Int32))) hD ((xe20.tr (xe32.tr xe37)).A h_o1).1 ((xe20.tr (xe32.tr xe37)).A h_o1).2.1 gk44 rfl
        have i45 := cl_int (i := S.I o1 5) (by omega)
        obtain ⟨S46, hS46⟩ : ∃ z, S36.sI o1 5 ((S36.I o1 5) + (1 : Int32)) = z := ⟨_, rfl⟩
        have hP : va_P D vwCl (X ++ PL cy S46) H := by rw [← hS46, ← e9]; exact hP2
        have hD : va_D A (X ++ PL cy S46) := by rw [← hS46, ← e9]; exact hD2
        have xe47 : ext S36 S46 := by rw [← hS46]; exact ext.sI _ _ _ _
        have t48 : stp [(9, 5), (21, 101)] [] [] S S46 := by rw [← hS46]; exact t38.I 5 ((S36.I o1 5) + (1 : Int32)) ((xe20.tr (xe32.tr xe37)).A h_o1) (by decide) (⟨⟨by omega, by omega⟩, by rw [f_of ((xe20.tr (xe32.tr xe37)).F h_o1 (by decide) F12.1)]; exact E_push (by have h9 := ((t38.w.at ((xe20.tr (xe32.tr xe37)).A h_o1) List.not_mem_nil).to_9 ((xe20.tr (xe32.tr xe37)).A h_o1).2.1).E4; rw [f_of ((xe20.tr (xe32.tr xe37)).F h_o1 (by decide) F12.1)] at h9; exact h9) (by omega) g40 (by omega) (xe37.A (xe32.A aqa18))⟩) (Or.inl (by decide))
        have k49 : (S46.I o1 5).toInt = ((S36.I o1 5) + (1 : Int32)).toInt := by rw [← hS46, sI_eq]
        refine lv_iload_n hx hb dX9_machine_64 rfl (lv_at hl 0 rfl) ?_
        refine vx_ret ?_
        refine W.widen (k := 3) (n := 18) (Nat.le_of_ble_eq_true rfl) (Nat.le_of_ble_eq_true rfl) ?_
        exact W.iret (v := S.I o1 5) hx hb hr (fun t ht hW9 => ⟨⟨S.I o1 5, S46, rfl, ⟨(by show f_X9_machine S o1 x1 x2 = .ok (S.I o1 5); unfold f_X9_machine; rw [eB_ok c3, eB_ok c6, if_pos c15]), t48, (by omega), (⟨qa18, bqa18, (xe47.A (xe37.A (xe32.A aqa18))), (by rw [← hS46]; exact g40), (fun i hi => ((show S46.r (S.f o1 4) i = S36.r (S.f o1 4) i from by rw [← hS46]; rfl).trans ((show S36.r (S.f o1 4) i = S30.r (S.f o1 4) i from by rw [← hS36]; exact sr_up_ne hi).trans ((show S30.r (S.f o1 4) i = S19.r (S.f o1 4) i from congrFun ((w24.fR (S.f o1 4) (xe20.A F12.2.1).1 (by rw [List.mem_singleton]; exact fun e => hqa18 (e ▸ F12.2.1.1))).2.2.1 (by rw [(xe20.A F12.2.1).2.1]; decide)) i).trans (show S19.r (S.f o1 4) i = S.r (S.f o1 4) i from by rw [← hS19]; exact congrFun (up_nq (f := S.r) (fun e : (S.f o1 4) = qa18 => hqa18 (by rw [← e]; exact F12.2.1.1))) i))))), (by rw [← hS46, sI_no (fun e1 : qa18 = o1 => hqa18 (by rw [e1]; exact h_o1.1))]; rw [← hS36]; show S30.I qa18 0 = _; exact y26), (by rw [← hS46, sI_no (fun e1 : qa18 = o1 => hqa18 (by rw [e1]; exact h_o1.1))]; rw [← hS36]; show S30.I qa18 1 = _; exact y27), (by rw [← hS46, sI_no (fun e1 : qa18 = o1 => hqa18 (by rw [e1]; exact h_o1.1))]; rw [← hS36]; show S30.I qa18 2 = _; exact y28), (by rw [← hS46, sI_no (fun e1 : qa18 = o1 => hqa18 (by rw [e1]; exact h_o1.1))]; rw [← hS36]; show S30.I qa18 3 = _; exact y29)⟩)⟩, wd_end hP hK hD ht hW9.alike⟩, hS.F ht⟩) hS.2.2 dX9_machine_65 hlocks
      · have c15i : 6 ≤ (S.I o1 5).toInt := nlt_v rfl rfl c15
        obtain ⟨sa, hsa⟩ := hTH.2.2 (RX9, 429, "there are 6 machines") (by decide +kernel)
        exact vx_throwSW hx hb hst (names := ["java/lang/RuntimeException", "java/lang/Exception"]) hown (by decide +kernel) (by decide +kernel) (hts (.classLink RX9 67 "java/lang/IllegalStateException") (by decide +kernel)) (hts (.initialized "java/lang/IllegalStateException") (by decide +kernel)) hsa (th_at (B := exW_X9_ISE) (fun w h => hts w (s_X9_machine_ISE w h)) rfl (by simp only [exW, List.mem_append]; intro w h; simp [h]) hTH.2.1) (List.forall_mem_cons.mpr ⟨by decide +kernel, List.forall_mem_cons.mpr ⟨by decide +kernel, exW_X9_ISE_ok⟩⟩) hTH.1.1 hTH.1.2 hS (hl.1.trans hml.symm) dX9_machine_23 dX9_machine_26 dX9_machine_27 dX9_machine_30 dX9_machine_33 (fun x h => (hno x h).elim) (Nat.le_of_ble_eq_true rfl) (Nat.le_of_ble_eq_true rfl) (Nat.le_of_ble_eq_true rfl) (Nat.le_of_ble_eq_true rfl) hlocks (fun t hA2 h1 h2 => ⟨S, t0, ⟨(by show f_X9_machine S o1 x1 x2 = .error "java/lang/IllegalStateException"; unfold f_X9_machine; rw [eB_ok c3, eB_ok c6, if_neg c15]), (by decide), rfl, wd_exc hP hK hD hA2 h2⟩, exc_F hS h1 h2⟩) hS.2.2 (Nat.le_of_ble_eq_true rfl) (Nat.le_of_ble_eq_true rfl)
def f_X9_toolsAt (S : wPS) (o1 : Nat) (x1 : Int32) (x2 : Int32) : Except String (Int32 × wPS) := if x1 < (0 : Int32) then .error "java/lang/IndexOutOfBoundsException" else if x1 < (S.I o1 5) then eB (f_X9_needRange x2 (0 : Int32) (9999 : Int32)) (fun _ => l1 (S.sI (S.q (S.f o1 4) x1.toNatClampNeg) 2 x2) (fun S22 => .ok (S.I (S.q (S.f o1 4) x1.toNatClampNeg) 2, S22))) else .error "java/lang/IndexOutOfBoundsException"
set_option maxRecDepth 20000 in
theorem s_X9_toolsAt_IOOBE : ∀ w ∈ (vx_atS RX9 297 "java/lang/IndexOutOfBoundsException" ["java/lang/RuntimeException", "java/lang/Exception"]).filter goodWord, w ∈ wsX9_toolsAt := fun w h => List.mem_cons_of_mem _ (List.mem_append_left _ (List.mem_append_right _ h))
theorem hi_X9_toolsAt_X7 : ∀ w ∈ u_ws RX7 TX7 4, w ∈ wsX9_toolsAt := by decide +kernel
theorem hi_X9_toolsAt_X9 : ∀ w ∈ u_ws RX9 TX9 11, w ∈ wsX9_toolsAt := by decide +kernel
theorem hd_X9_toolsAt : yX9_toolsAt.cls = RX9 ∧ yX9_toolsAt.cls ≠ "java/lang/invoke/MethodHandle" ∧ yX9_toolsAt.cls ≠ "java/lang/invoke/VarHandle" ∧ (parseMethodDescriptor yX9_toolsAt.desc).map (fun d => d.parameters.length) = some 2 := by decide +kernel
set_option maxHeartbeats 4000000 in
set_option maxRecDepth 100000 in
theorem c_X9_toolsAt (l : Launch) (hst : l.stackTraces = false) {D : va_G} {cy : Nat → ClassId} {X : va_W} (S : wPS) (sz : Nat) (o1 : Nat) (h_o1 : isA S o1 9) (x1 : Int32) (x2 : Int32) (hW : wtB S [])  : vx_Met l yX9_toolsAt wsX9_toolsAt ({ frames := 7, cells := 1, slots := 6, locals := 104 }) (va_Pc [.ref o1, .int x1, .int x2] (fun U => U.heap.size = sz ∧ WD D cy X (fun _ => True) S U ∧ NW U ∧ TH (va_A (X ++ PL cy S) sz) U)) (va_Qi (fun r (u : wPS) => f_X9_toolsAt S o1 x1 x2 = .ok (r, u) ∧ stp [(7, 2)] [] [] S u) (fun u t => WD D cy X (va_A (X ++ PL cy S) sz) u t) (va_A (X ++ PL cy S) sz)) (vx_X (fun (u : wPS) => stp [(7, 2)] [] [] S u) (fun E u t => f_X9_toolsAt S o1 x1 x2 = .error E ∧ E ∈ ["java/lang/IllegalArgumentException", "java/lang/IndexOutOfBoundsException"] ∧ u = S ∧ WD D cy X (va_A (X ++ PL cy S) sz) u t) (va_A (X ++ PL cy S) sz)) 1 6 (va_A (X ++ PL cy S) sz) := by
  refine vx_ofW (cc := cX9_toolsAt) (maxL := 4) (ret := (some .int)) (by decide) rfl ?_
  intro p e s m args below meth c s₁ B hml hno hv
  obtain ⟨rfl, hsz, ⟨hP, hK, hD0⟩, hN, hTH⟩ := hv
  have hx := B.exec
  have hb := B.bytes
  have hr := B.returns
  have hts := atoms_spec (ws := wsX9_toolsAt) B.pre
  have hown : s.vm.findClass RX9 = some m.cls := findClass_of_methodNamed (x := yX9_toolsAt) B.named
  have hlocks := B.notSynchronized
  subst hsz
  have hD := hD0.self (sz := s.heap.size)
  generalize hAe : va_A (X ++ PL cy S) s.heap.size = A at hD hTH ⊢
  have hA : ∀ q : Nat, s.heap.size ≤ q → A q := fun q h => by rw [← hAe]; exact Or.inr h
  have hS : va_S A s.heap s.heap [] := va_S.rf
  have hl := lv_entry ([.ref o1, .int x1, .int x2]) (n := 4) (Nat.le_of_ble_eq_true rfl)
  rw [lg_entry_eq]
  generalize (lg_sl ([.ref o1, .int x1, .int x2]) ++ List.replicate (4 - (lg_sl ([.ref o1, .int x1, .int x2])).length) Slot.unset).toArray = ls at hl ⊢
  have hl : lv_has ls 4 [(0, .ref o1), (1, .int x1), (2, .int x2)] := hl
  have t0 : stp [(7, 2)] [] [] S S := stp.rf hW
  refine lv_iload_n hx hb dX9_toolsAt_0 rfl (lv_at hl 1 rfl) ?_
  refine lv_if_lt (tgt := 12) hx hb dX9_toolsAt_1 (by decide) (fun c1 => ?_) (fun c1 => ?_)
  · have c1i : x1.toInt < 0 := lt_v rfl rfl c1
    obtain ⟨sa, hsa⟩ := hTH.2.2 (RX9, 434, "there is no such machine") (by decide +kernel)
    exact vx_throwSW hx hb hst (names := ["java/lang/RuntimeException", "java/lang/Exception"]) hown (by decide +kernel) (by decide +kernel) (hts (.classLink RX9 293 "java/lang/IndexOutOfBoundsException") (by decide +kernel)) (hts (.initialized "java/lang/IndexOutOfBoundsException") (by decide +kernel)) hsa (th_at (B := exW_X9_IOOBE) (fun w h => hts w (s_X9_toolsAt_IOOBE w h)) rfl (by simp only [exW, List.mem_append]; intro w h; simp [h]) hTH.2.1) (List.forall_mem_cons.mpr ⟨by decide +kernel, List.forall_mem_cons.mpr ⟨by decide +kernel, exW_X9_IOOBE_ok⟩⟩) hTH.1.1 hTH.1.2 hS (hl.1.trans hml.symm) dX9_toolsAt_12 dX9_toolsAt_15 dX9_toolsAt_16 dX9_toolsAt_19 dX9_toolsAt_22 (fun x h => (hno x h).elim) (Nat.le_of_ble_eq_true rfl) (Nat.le_of_ble_eq_true rfl) (Nat.le_of_ble_eq_true rfl) (Nat.le_of_ble_eq_true rfl) hlocks (fun t hA2 h1 h2 => ⟨S, t0, ⟨(by show f_X9_toolsAt S o1 x1 x2 = .error "java/lang/IndexOutOfBoundsException"; unfold f_X9_toolsAt; rw [if_pos c1]), (by decide), rfl, wd_exc hP hK hD hA2 h2⟩, exc_F hS h1 h2⟩) hS.2.2 (Nat.le_of_ble_eq_true rfl) (Nat.le_of_ble_eq_true rfl)
  · have c1i : 0 ≤ x1.toInt := nlt_v rfl rfl c1
    refine lv_iload_n hx hb dX9_toolsAt_4 rfl (lv_at hl 1 rfl) ?_
    refine lv_aload_n hx hb dX9_toolsAt_5 rfl (lv_at hl 0 rfl) ?_
    obtain ⟨k2, gk2, hk2⟩ := wGt (cy := cy) X S h_o1.1 h_o1.2.1
    have i3 := ((hW.at h_o1 List.not_mem_nil).to_9 h_o1.2.1).R5
    refine va_get (D := D) (ci := 13) (v := .int (S.I o1 5)) (C := RX9) (T := TX9) (N := 11) hx hb hts hi_X9_toolsAt_X9 hown hK hP k2 hk2 rfl 5 (by decide) (hts (.fieldLink RX9 426 "Hobhouse" "stationCount" "I") (by decide +kernel)) (fun _ h9 => h9) rfl dX9_toolsAt_6 ?_
    refine lv_icmp_lt (tgt := 23) hx hb dX9_toolsAt_9 (by decide) (fun c4 => ?_) (fun c4 => ?_)
    · have c4i : x1.toInt < (S.I o1 5).toInt := lt_v rfl rfl c4
      refine lv_iload_n hx hb dX9_toolsAt_23 rfl (lv_at hl 2 rfl) ?_
      refine lv_iconst (v := 0) hx hb dX9_toolsAt_24 (by decide) ?_
      refine lv_sipush (v := 9999) hx hb dX9_toolsAt_25 (by decide +kernel) ?_
      have l32_0 : (0 : Int32).toInt = 0 := rfl
      have l32_9999 : (9999 : Int32).toInt = 9999 := rfl
      have hFc := free_all hD hS hA
      refine vx_callv (vx_runS (As := [.int x2, .int (0 : Int32), .int (9999 : Int32)]) (rest := []) ⟨hx, hb, hml, hown, hts⟩ (c_X9_needRange l hst (cy := cy) (X := X) (D := D) S _ x2 (0 : Int32) (9999 : Int32)) (cwS 3 hts gX9_toolsAt_X9_needRange rfl rfl rfl hd_X9_needRange ⟨Nat.le_of_ble_eq_true rfl, Nat.le_of_ble_eq_true rfl⟩) (pSt hP hK hD hN hTH hS hFc) rfl rfl hl.1 rfl (lv_room (Nat.le_of_ble_eq_true rfl)) dX9_toolsAt_28 ⟨Nat.le_of_ble_eq_true rfl, Nat.le_of_ble_eq_true rfl⟩) hS (fun q _ h => hFc q h) hFc (fun q _ h => hFc q h) (fun E ce q9 u t H1 locs ht hvm hw hB hz1 hk1 hS hq9 hce hcl => ?_) (fun u t H1 locs ht hvm hw hB hz1 hk1 hS => ?_)
      · obtain ⟨c6, hEc6, hB2⟩ := hB
        obtain ⟨hP, hD⟩ := wd_post hFc ht hB2
        exact vx_out (fun x h => (hno x h).elim) hlocks hq9 hce hcl (fun t2 ht2 hA2 => ⟨S, t0, ⟨(by show f_X9_toolsAt S o1 x1 x2 = .error E; unfold f_X9_toolsAt; rw [if_neg c1, if_pos c4, eB_er c6]), (el_in (by decide) hEc6), rfl, wd_end hP hK hD ht2 hA2⟩, hS.F ht2⟩) hS.2.2 (Nat.le_of_ble_eq_true rfl) (Nat.le_of_ble_eq_true rfl)
      · have c7 := hw
        obtain ⟨hP, hD⟩ := wd_post hFc ht hB
        generalize H1 = H at hP hS ⊢
        have i8 := nr_i c7
        have i8l := i8.1
        have i8h := i8.2
        have l9 : (0 : Int32).toInt = 0 := rfl
        have l10 : (9999 : Int32).toInt = 9999 := rfl
        refine lv_aload_n hx hb dX9_toolsAt_31 rfl (lv_at hl 0 rfl) ?_
        have F11 := ((hW.at h_o1 List.not_mem_nil).to_9 h_o1.2.1).F4
        obtain ⟨k12, gk12, hk12⟩ := wGt (cy := cy) X S h_o1.1 h_o1.2.1
        simp only [kE, F11.1] at hk12
        refine va_get (D := D) (ci := 13) (v := .ref (S.f o1 4)) (C := RX9) (T := TX9) (N := 11) hx hb hts hi_X9_toolsAt_X9 hown hK hP k12 hk12 rfl 4 (by decide) (hts (.fieldLink RX9 23 "Hobhouse" "stations" "[LHobhouse$Station;") (by decide +kernel)) (fun _ h9 => h9) rfl dX9_toolsAt_32 ?_
        refine lv_iload_n hx hb dX9_toolsAt_35 rfl (lv_at hl 1 rfl) ?_
        obtain ⟨k13, gk13, hk13⟩ := wGt (cy := cy) X S F11.2.1.1 F11.2.1.2.1
        have i15 := cl_int (i := x1) (by omega)
        have g14 := elq (by have h9 := ((hW.at h_o1 List.not_mem_nil).to_9 h_o1.2.1).E4 x1.toNatClampNeg (by omega); rw [f_of F11.1] at h9; exact h9)
        refine va_aldq hx hb hK hP k13 6 hk13 rfl (inb (m := 6) F11.2.2 (by omega) (by omega)) dX9_toolsAt_36 ?_
        rw [g14.1]
        refine W.eq (g2 := F0 m 37 ls [.ref (S.q (S.f o1 4) x1.toNatClampNeg)]) rfl ?_
        obtain ⟨k16, gk16, hk16⟩ := wGt (cy := cy) X S g14.2.1 g14.2.2.1
        refine va_get (D := D) (ci := 11) (v := .int (S.I (S.q (S.f o1 4) x1.toNatClampNeg) 2)) (C := RX7) (T := TX7) (N := 4) hx hb hts hi_X9_toolsAt_X7 hown hK hP k16 hk16 rfl 2 (by decide) (hts (.fieldLink RX9 436 "Hobhouse$Station" "toolsFrom" "I") (by decide +kernel)) (fun _ h9 => h9) rfl dX9_toolsAt_37 ?_
        refine lv_istore_n (lv' := [(3, .int (S.I (S.q (S.f o1 4) x1.toNatClampNeg) 2)), (0, .ref o1), (1, .int x1), (2, .int x2)]) hx hb dX9_toolsAt_40 rfl hl (by decide) rfl (fun ls hl => ?_)
        refine lv_aload_n hx hb dX9_toolsAt_41 rfl (lv_at hl 1 rfl) ?_
        obtain ⟨k17, gk17, hk17⟩ := wGt (cy := cy) X S h_o1.1 h_o1.2.1
        simp only [kE, F11.1] at hk17
        refine va_get (D := D) (ci := 13) (v := .ref (S.f o1 4)) (C := RX9) (T := TX9) (N := 11) hx hb hts hi_X9_toolsAt_X9 hown hK hP k17 hk17 rfl 4 (by decide) (hts (.fieldLink RX9 23 "Hobhouse" "stations" "[LHobhouse$Station;") (by decide +kernel)) (fun _ h9 => h9) rfl dX9_toolsAt_42 ?_
        refine lv_iload_n hx hb dX9_toolsAt_45 rfl (lv_at hl 2 rfl) ?_
        obtain ⟨k18, gk18, hk18⟩ := wGt (cy := cy) X S F11.2.1.1 F11.2.1.2.1
        have i20 := cl_int (i := x1) (by omega)
        have g19 := elq (by have h9 := ((hW.at h_o1 List.not_mem_nil).to_9 h_o1.2.1).E4 x1.toNatClampNeg (by omega); rw [f_of F11.1] at h9; exact h9)
        refine va_aldq hx hb hK hP k18 6 hk18 rfl (inb (m := 6) F11.2.2 (by omega) (by omega)) dX9_toolsAt_46 ?_
        rw [g19.1]
        refine W.eq (g2 := F0 m 47 ls [.ref (S.q (S.f o1 4) x1.toNatClampNeg)]) rfl ?_
        refine lv_iload_n hx hb dX9_toolsAt_47 rfl (lv_at hl 3 rfl) ?_
        obtain ⟨k21, gk21, hk21⟩ := wGt (cy := cy) X S g19.2.1 g19.2.2.1
        refine va_put (D := D) (ci := 11) (v := .int x2) (ty := .int) (C := RX7) (T := TX7) (N := 4) hx hb hts hi_X9_toolsAt_X7 tyX7 tyX7_ok nmX7 hown hK hP hD hS k21 hk21 rfl 2 (by decide) (hts (.fieldLink RX9 436 "Hobhouse$Station" "toolsFrom" "I") (by decide +kernel)) (fun _ h9 => h9) rfl (by decide +kernel) (rfl) (rfl) (Nat.le_of_ble_eq_true rfl) dX9_toolsAt_48 (fun H locs hP2 hD2 hS => ?_)
        have e9 := wPuI (cy := cy) (j := 2) (v := x2) hD g19.2.1 g19.2.2.1 gk21 rfl
        obtain ⟨S22, hS22⟩ : ∃ z, S.sI (S.q (S.f o1 4) x1.toNatClampNeg) 2 x2 = z := ⟨_, rfl⟩
        have hP : va_P D vwCl (X ++ PL cy S22) H := by rw [← hS22, ← e9]; exact hP2
        have hD : va_D A (X ++ PL cy S22) := by rw [← hS22, ← e9]; exact hD2
        have xe23 : ext S S22 := by rw [← hS22]; exact ext.sI _ _ _ _
        have t24 : stp [(7, 2)] [] [] S S22 := by rw [← hS22]; exact t0.I 2 x2 g19.2 (by decide) (trivial) (Or.inl (by decide))
        refine lv_iload_n hx hb dX9_toolsAt_51 rfl (lv_at hl 0 rfl) ?_
        refine vx_ret ?_
        refine W.widen (k := 1) (n := 6) (Nat.le_of_ble_eq_true rfl) (Nat.le_of_ble_eq_true rfl) ?_
        exact W.iret (v := S.I (S.q (S.f o1 4) x1.toNatClampNeg) 2) hx hb hr (fun t ht hW9 => ⟨⟨S.I (S.q (S.f o1 4) x1.toNatClampNeg) 2, S22, rfl, ⟨(by show f_X9_toolsAt S o1 x1 x2 = .ok (S.I (S.q (S.f o1 4) x1.toNatClampNeg) 2, S22); unfold f_X9_toolsAt; rw [if_neg c1, if_pos c4, eB_ok c7, l1_eq hS22]), t24⟩, wd_end hP hK hD ht hW9.alike⟩, hS.F ht⟩) hS.2.2 dX9_toolsAt_52 hlocks
    · have c4i : (S.I o1 5).toInt ≤ x1.toInt := nlt_v rfl rfl c4
      obtain ⟨sa, hsa⟩ := hTH.2.2 (RX9, 434, "there is no such machine") (by decide +kernel)
      exact vx_throwSW hx hb hst (names := ["java/lang/RuntimeException", "java/lang/Exception"]) hown (by decide +kernel) (by decide +kernel) (hts (.classLink RX9 293 "java/lang/IndexOutOfBoundsException") (by decide +kernel)) (hts (.initialized "java/lang/IndexOutOfBoundsException") (by decide +kernel)) hsa (th_at (B := exW_X9_IOOBE) (fun w h => hts w (s_X9_toolsAt_IOOBE w h)) rfl (by simp only [exW, List.mem_append]; intro w h; simp [h]) hTH.2.1) (List.forall_mem_cons.mpr ⟨by decide +kernel, List.forall_mem_cons.mpr ⟨by decide +kernel, exW_X9_IOOBE_ok⟩⟩) hTH.1.1 hTH.1.2 hS (hl.1.trans hml.symm) dX9_toolsAt_12 dX9_toolsAt_15 dX9_toolsAt_16 dX9_toolsAt_19 dX9_toolsAt_22 (fun x h => (hno x h).elim) (Nat.le_of_ble_eq_true rfl) (Nat.le_of_ble_eq_true rfl) (Nat.le_of_ble_eq_true rfl) (Nat.le_of_ble_eq_true rfl) hlocks (fun t hA2 h1 h2 => ⟨S, t0, ⟨(by show f_X9_toolsAt S o1 x1 x2 = .error "java/lang/IndexOutOfBoundsException"; unfold f_X9_toolsAt; rw [if_neg c1, if_neg c4]), (by decide), rfl, wd_exc hP hK hD hA2 h2⟩, exc_F hS h1 h2⟩) hS.2.2 (Nat.le_of_ble_eq_true rfl) (Nat.le_of_ble_eq_true rfl)
def f_X9_soonest_L10 (S : wPS) (o1 : Nat) (x1 : Int32) (x2 : Int32) : Nat → Int32 → Int32 → Int32 → Int32 × Int32 × Int32
  | 0, w10_3, w10_4, w10_5 => (w10_3, w10_4, w10_5)
  | n + 1, w10_3, w10_4, w10_5 => if (S.I o1 5) ≤ w10_5 then (w10_3, w10_4, w10_5) else if (S.I (S.q (S.f o1 4) w10_5.toNatClampNeg) 0) = x1 then if w10_4 ≤ (f_X7_endFrom S (S.q (S.f o1 4) w10_5.toNatClampNeg) x2) then f_X9_soonest_L10 S o1 x1 x2 n w10_3 w10_4 (w10_5 + (1 : Int32)) else f_X9_soonest_L10 S o1 x1 x2 n w10_5 (f_X7_endFrom S (S.q (S.f o1 4) w10_5.toNatClampNeg) x2) (w10_5 + (1 : Int32)) else f_X9_soonest_L10 S o1 x1 x2 n w10_3 w10_4 (w10_5 + (1 : Int32))
theorem f_X9_soonest_L10_s (S : wPS) (o1 : Nat) (x1 : Int32) (x2 : Int32) (n : Nat) (w10_3 : Int32) (w10_4 : Int32) (w10_5 : Int32) : f_X9_soonest_L10 S o1 x1 x2 (n + 1) w10_3 w10_4 w10_5 = if (S.I o1 5) ≤ w10_5 then (w10_3, w10_4, w10_5) else if (S.I (S.q (S.f o1 4) w10_5.toNatClampNeg) 0) = x1 then if w10_4 ≤ (f_X7_endFrom S (S.q (S.f o1 4) w10_5.toNatClampNeg) x2) then f_X9_soonest_L10 S o1 x1 x2 n w10_3 w10_4 (w10_5 + (1 : Int32)) else f_X9_soonest_L10 S o1 x1 x2 n w10_5 (f_X7_endFrom S (S.q (S.f o1 4) w10_5.toNatClampNeg) x2) (w10_5 + (1 : Int32)) else f_X9_soonest_L10 S o1 x1 x2 n w10_3 w10_4 (w10_5 + (1 : Int32)) := rfl
def f_X9_soonest (S : wPS) (o1 : Nat) (x1 : Int32) (x2 : Int32) : Int32 := l3 (f_X9_soonest_L10 S o1 x1 x2 21 (-1 : Int32) (2147483647 : Int32) (0 : Int32)) (fun z30 z31 z32 => z30)
theorem hi_X9_soonest_X7 : ∀ w ∈ u_ws RX7 TX7 4, w ∈ wsX9_soonest := by decide +kernel
theorem hi_X9_soonest_X9 : ∀ w ∈ u_ws RX9 TX9 11, w ∈ wsX9_soonest := by decide +kernel
theorem hd_X9_soonest : yX9_soonest.cls = RX9 ∧ yX9_soonest.cls ≠ "java/lang/invoke/MethodHandle" ∧ yX9_soonest.cls ≠ "java/lang/invoke/VarHandle" ∧ (parseMethodDescriptor yX9_soonest.desc).map (fun d => d.parameters.length) = some 2 := by decide +kernel
set_option maxHeartbeats 4000000 in
set_option maxRecDepth 100000 in
theorem c_X9_soonest (l : Launch) {D : va_G} {cy : Nat → ClassId} {X : va_W} (S : wPS) (sz : Nat) (o1 : Nat) (h_o1 : isA S o1 9) (x1 : Int32) (x2 : Int32) (hW : wtB S [])  : Met l yX9_soonest wsX9_soonest ({ frames := 2, cells := 0, slots := 0, locals := 34 }) (va_Pc [.ref o1, .int x1, .int x2] (fun U => U.heap.size = sz ∧ WD D cy X (fun _ => True) S U ∧ NW U)) (va_Qi (fun r (_ : Unit) => r = f_X9_soonest S o1 x1 x2) (fun _ t => WD D cy X (va_A (X ++ PL cy S) sz) S t) (va_A (X ++ PL cy S) sz)) 0 0 (va_A (X ++ PL cy S) sz) := by
  refine Met.ofW (cc := cX9_soonest) (maxL := 6) (ret := (some .int)) (by decide) rfl ?_
  intro p e s m args below meth c s₁ B hml hv
  obtain ⟨rfl, hsz, ⟨hP, hK, hD0⟩, hN⟩ := hv
  have hx := B.exec
  have hb := B.bytes
  have hr := B.returns
  have hts := atoms_spec (ws := wsX9_soonest) B.pre
  have hown : s.vm.findClass RX9 = some m.cls := findClass_of_methodNamed (x := yX9_soonest) B.named
  have hlocks := B.notSynchronized
  subst hsz
  have hD := hD0.self (sz := s.heap.size)
  generalize hAe : va_A (X ++ PL cy S) s.heap.size = A at hD ⊢
  have hA : ∀ q : Nat, s.heap.size ≤ q → A q := fun q h => by rw [← hAe]; exact Or.inr h
  have hS : va_S A s.heap s.heap [] := va_S.rf
  have hl := lv_entry ([.ref o1, .int x1, .int x2]) (n := 6) (Nat.le_of_ble_eq_true rfl)
  rw [lg_entry_eq]
  generalize (lg_sl ([.ref o1, .int x1, .int x2]) ++ List.replicate (6 - (lg_sl ([.ref o1, .int x1, .int x2])).length) Slot.unset).toArray = ls at hl ⊢
  have hl : lv_has ls 6 [(0, .ref o1), (1, .int x1), (2, .int x2)] := hl
  refine lv_iconst (v := -1) hx hb dX9_soonest_0 (by decide) ?_
  refine lv_istore_n (lv' := [(3, .int (-1 : Int32)), (0, .ref o1), (1, .int x1), (2, .int x2)]) hx hb dX9_soonest_1 rfl hl (by decide) rfl (fun ls hl => ?_)
  refine lv_ldcw (own := RX9) (v := 2147483647) hx hb hown (hts (.constant RX9 304 (2147483647)) (by decide +kernel)) dX9_soonest_2 ?_
  refine lv_istore (lv' := [(4, .int (2147483647 : Int32)), (3, .int (-1 : Int32)), (0, .ref o1), (1, .int x1), (2, .int x2)]) hx hb dX9_soonest_5 hl (by decide) rfl (fun ls hl => ?_)
  refine lv_iconst (v := 0) hx hb dX9_soonest_7 (by decide) ?_
  refine lv_istore (lv' := [(5, .int (0 : Int32)), (4, .int (2147483647 : Int32)), (3, .int (-1 : Int32)), (0, .ref o1), (1, .int x1), (2, .int x2)]) hx hb dX9_soonest_8 hl (by decide) rfl (fun ls hl => ?_)
  have l32_0 : (0 : Int32).toInt = 0 := rfl
  have loop10 : ∀ (n : Nat) (w10_3 : Int32) (w10_4 : Int32) (w10_5 : Int32) (H : Heap) (locs : List Loc) (ls : Array Slot), (20 - w10_5.toInt).toNat < n → 0 ≤ w10_5.toInt ∧ w10_5.toInt ≤ 20 → va_P D vwCl (X ++ PL cy S) H → va_S A s.heap H locs → lv_has ls 6 [(5, .int w10_5), (4, .int w10_4), (3, .int w10_3), (0, .ref o1), (1, .int x1), (2, .int x2)] → (∀ (w10_3x : Int32) (w10_4x : Int32) (w10_5x : Int32) (H : Heap) (locs : List Loc) (ls : Array Slot), 0 ≤ w10_5x.toInt ∧ w10_5x.toInt ≤ 20 → va_P D vwCl (X ++ PL cy S) H → va_S A s.heap H locs → lv_has ls 6 [(5, .int w10_5x), (4, .int w10_4x), (3, .int w10_3x), (0, .ref o1), (1, .int x1), (2, .int x2)] → f_X9_soonest_L10 S o1 x1 x2 n w10_3 w10_4 w10_5 = (w10_3x, w10_4x, w10_5x) → W p l e (headSpec wsX9_soonest ({ frames := 2, cells := 0, slots := 0, locals := 34 } : Room)).room s m [.ref o1, .int x1, .int x2].toArray below meth c H locs 0 0 (MQ below (va_Qi (fun r (_ : Unit) => r = f_X9_soonest S o1 x1 x2) (fun _ t => WD D cy X A S t) A) [.ref o1, .int x1, .int x2].toArray s 0 0 A) (F0 m 71 ls [])) → W p l e (headSpec wsX9_soonest ({ frames := 2, cells := 0, slots := 0, locals := 34 } : Room)).room s m [.ref o1, .int x1, .int x2].toArray below meth c H locs 0 0 (MQ below (va_Qi (fun r (_ : Unit) => r = f_X9_soonest S o1 x1 x2) (fun _ t => WD D cy X A S t) A) [.ref o1, .int x1, .int x2].toArray s 0 0 A) (F0 m 10 ls []) := by
    intro n10
    induction n10 with
    | zero => intro w10_3 w10_4 w10_5 H locs ls hm; exact absurd hm (Nat.not_lt_zero _)
    | succ n10 ih10 =>
      intro w10_3 w10_4 w10_5 H locs ls hm10 hi10 hP hS hl ko10
      refine lv_iload hx hb dX9_soonest_10 (lv_at hl 0 rfl) ?_
      refine lv_aload_n hx hb dX9_soonest_12 rfl (lv_at hl 3 rfl) ?_
      obtain ⟨k1, gk1, hk1⟩ := wGt (cy := cy) X S h_o1.1 h_o1.2.1
      have i2 := ((hW.at h_o1 List.not_mem_nil).to_9 h_o1.2.1).R5
      refine va_get (D := D) (ci := 13) (v := .int (S.I o1 5)) (C := RX9) (T := TX9) (N := 11) hx hb hts hi_X9_soonest_X9 hown hK hP k1 hk1 rfl 5 (by decide) (hts (.fieldLink RX9 426 "Hobhouse" "stationCount" "I") (by decide +kernel)) (fun _ h9 => h9) rfl dX9_soonest_13 ?_
      refine lv_icmp_ge (tgt := 71) hx hb dX9_soonest_16 (by decide) (fun c3 => ?_) (fun c3 => ?_)
      · have c3i : (S.I o1 5).toInt ≤ w10_5.toInt := le_v rfl rfl c3
        exact ko10 w10_3 w10_4 w10_5 _ _ _ (by omega) hP hS (lv_sub hl [0, 1, 2, 3, 4, 5] rfl) (by rw [f_X9_soonest_L10_s, if_pos c3])
      · have c3i : w10_5.toInt < (S.I o1 5).toInt := nle_v rfl rfl c3
        refine lv_aload_n hx hb dX9_soonest_19 rfl (lv_at hl 3 rfl) ?_
        have F4 := ((hW.at h_o1 List.not_mem_nil).to_9 h_o1.2.1).F4
        obtain ⟨k5, gk5, hk5⟩ := wGt (cy := cy) X S h_o1.1 h_o1.2.1
        simp only [kE, F4.1] at hk5
        refine va_get (D := D) (ci := 13) (v := .ref (S.f o1 4)) (C := RX9) (T := TX9) (N := 11) hx hb hts hi_X9_soonest_X9 hown hK hP k5 hk5 rfl 4 (by decide) (hts (.fieldLink RX9 23 "Hobhouse" "stations" "[LHobhouse$Station;") (by decide +kernel)) (fun _ h9 => h9) rfl dX9_soonest_20 ?_
        refine lv_iload hx hb dX9_soonest_23 (lv_at hl 0 rfl) ?_
        obtain ⟨k6, gk6, hk6⟩ := wGt (cy := cy) X S F4.2.1.1 F4.2.1.2.1
        have i8 := cl_int (i := w10_5) (by omega)
        have g7 := elq (by have h9 := ((hW.at h_o1 List.not_mem_nil).to_9 h_o1.2.1).E4 w10_5.toNatClampNeg (by omega); rw [f_of F4.1] at h9; exact h9)
        refine va_aldq hx hb hK hP k6 6 hk6 rfl (inb (m := 6) F4.2.2 (by omega) (by omega)) dX9_soonest_25 ?_
        rw [g7.1]
        refine W.eq (g2 := F0 m 26 ls [.ref (S.q (S.f o1 4) w10_5.toNatClampNeg)]) rfl ?_
        obtain ⟨k9, gk9, hk9⟩ := wGt (cy := cy) X S g7.2.1 g7.2.2.1
        refine va_get (D := D) (ci := 11) (v := .int (S.I (S.q (S.f o1 4) w10_5.toNatClampNeg) 0)) (C := RX7) (T := TX7) (N := 4) hx hb hts hi_X9_soonest_X7 hown hK hP k9 hk9 rfl 0 (by decide) (hts (.fieldLink RX9 477 "Hobhouse$Station" "kind" "C") (by decide +kernel)) (fun _ h9 => h9) rfl dX9_soonest_26 ?_
        refine lv_iload_n hx hb dX9_soonest_29 rfl (lv_at hl 4 rfl) ?_
        refine lv_icmp_ne (tgt := 65) hx hb dX9_soonest_30 (by decide) (fun c10 => ?_) (fun c10 => ?_)
        · have c10i : ¬ (S.I (S.q (S.f o1 4) w10_5.toNatClampNeg) 0).toInt = x1.toInt := neq_v rfl rfl c10
          refine lv_iinc (v := w10_5 + (1 : Int32)) (lv' := [(5, .int (w10_5 + (1 : Int32))), (4, .int w10_4), (3, .int w10_3), (0, .ref o1), (1, .int x1), (2, .int x2)]) hx hb dX9_soonest_65 hl (k := 0) rfl (by rfl) (by decide) rfl (fun ls hl => ?_)
          refine lv_goto (tgt := 10) hx hb dX9_soonest_68 (by decide) ?_
          have l32_1 : (1 : Int32).toInt = 1 := rfl
          have i11 : (w10_5 + (1 : Int32)).toInt = w10_5.toInt + 1 := t_addr (n := 1) rfl (by omega)
          exact ih10 w10_3 w10_4 (w10_5 + (1 : Int32)) _ _ _ (Nat.lt_of_lt_of_le (by omega) (Nat.le_of_lt_succ hm10)) (by omega) hP hS (lv_sub hl [0, 1, 2, 3, 4, 5] rfl) (fun w10_3y w10_4y w10_5y H9 locs9 ls9 i9 P9 S9 l9 hfe => ko10 w10_3y w10_4y w10_5y H9 locs9 ls9 i9 P9 S9 l9 (Eq.trans (by rw [f_X9_soonest_L10_s, if_neg c3, if_neg c10]) hfe))
        · have c10i : (S.I (S.q (S.f o1 4) w10_5.toNatClampNeg) 0).toInt = x1.toInt := eq_v rfl rfl c10
          refine lv_aload_n hx hb dX9_soonest_33 rfl (lv_at hl 3 rfl) ?_
          obtain ⟨k12, gk12, hk12⟩ := wGt (cy := cy) X S h_o1.1 h_o1.2.1
          simp only [kE, F4.1] at hk12
          refine va_get (D := D) (ci := 13) (v := .ref (S.f o1 4)) (C := RX9) (T := TX9) (N := 11) hx hb hts hi_X9_soonest_X9 hown hK hP k12 hk12 rfl 4 (by decide) (hts (.fieldLink RX9 23 "Hobhouse" "stations" "[LHobhouse$Station;") (by decide +kernel)) (fun _ h9 => h9) rfl dX9_soonest_34 ?_
          refine lv_iload hx hb dX9_soonest_37 (lv_at hl 0 rfl) ?_
          obtain ⟨k13, gk13, hk13⟩ := wGt (cy := cy) X S F4.2.1.1 F4.2.1.2.1
          have i15 := cl_int (i := w10_5) (by omega)
          have g14 := elq (by have h9 := ((hW.at h_o1 List.not_mem_nil).to_9 h_o1.2.1).E4 w10_5.toNatClampNeg (by omega); rw [f_of F4.1] at h9; exact h9)
          refine va_aldq hx hb hK hP k13 6 hk13 rfl (inb (m := 6) F4.2.2 (by omega) (by omega)) dX9_soonest_39 ?_
          rw [g14.1]
          refine W.eq (g2 := F0 m 40 ls [.ref (S.q (S.f o1 4) w10_5.toNatClampNeg)]) rfl ?_
          refine lv_iload_n hx hb dX9_soonest_40 rfl (lv_at hl 5 rfl) ?_
          have hFc := free_all hD hS hA
          obtain ⟨k16, gk16, hk16⟩ := wGt (cy := cy) X S g14.2.1 g14.2.2.1
          refine va_calli (va_runV (As := [.int x2]) (rest := []) ⟨hx, hb, hml, hown, hts⟩ (c_X7_endFrom l (cy := cy) (X := X) (D := D) S _ (S.q (S.f o1 4) w10_5.toNatClampNeg) g14.2 x2) (cwV 1 hts gX9_soonest_X7_endFrom rfl rfl rfl hd_X7_endFrom ⟨Nat.le_of_ble_eq_true rfl, Nat.le_of_ble_eq_true rfl⟩) (pV (va_recv hK hP (q := (RX7, TX7, 4)) (ci := 11) (q0 := k16) rfl hk16) hP hK hD hN) rfl rfl hl.1 rfl (lv_room (Nat.le_of_ble_eq_true rfl)) dX9_soonest_41 ⟨(Nat.zero_le _), (Nat.zero_le _)⟩) hS (fun q _ h => hFc q h) hFc (fun r17 u t H1 locs ht hvm hw hB hz1 hk1 hS => ?_)
          have c18 := hw
          obtain ⟨hP, hD⟩ := wd_post hFc ht hB
          generalize H1 = H at hP hS ⊢
          obtain rfl : f_X7_endFrom S (S.q (S.f o1 4) w10_5.toNatClampNeg) x2 = r17 := c18.symm
          refine lv_iload hx hb dX9_soonest_44 (lv_at hl 1 rfl) ?_
          refine lv_icmp_ge (tgt := 65) hx hb dX9_soonest_46 (by decide) (fun c19 => ?_) (fun c19 => ?_)
          · have c19i : w10_4.toInt ≤ (f_X7_endFrom S (S.q (S.f o1 4) w10_5.toNatClampNeg) x2).toInt := le_v rfl rfl c19
            refine lv_iinc (v := w10_5 + (1 : Int32)) (lv' := [(5, .int (w10_5 + (1 : Int32))), (4, .int w10_4), (3, .int w10_3), (0, .ref o1), (1, .int x1), (2, .int x2)]) hx hb dX9_soonest_65 hl (k := 0) rfl (by rfl) (by decide) rfl (fun ls hl => ?_)
            refine lv_goto (tgt := 10) hx hb dX9_soonest_68 (by decide) ?_
            have l32_1 : (1 : Int32).toInt = 1 := rfl
            have i20 : (w10_5 + (1 : Int32)).toInt = w10_5.toInt + 1 := t_addr (n := 1) rfl (by omega)
            exact ih10 w10_3 w10_4 (w10_5 + (1 : Int32)) _ _ _ (Nat.lt_of_lt_of_le (by omega) (Nat.le_of_lt_succ hm10)) (by omega) hP hS (lv_sub hl [0, 1, 2, 3, 4, 5] rfl) (fun w10_3y w10_4y w10_5y H9 locs9 ls9 i9 P9 S9 l9 hfe => ko10 w10_3y w10_4y w10_5y H9 locs9 ls9 i9 P9 S9 l9 (Eq.trans (by rw [f_X9_soonest_L10_s, if_neg c3, if_pos c10, if_pos c19]) hfe))
          · have c19i : (f_X7_endFrom S (S.q (S.f o1 4) w10_5.toNatClampNeg) x2).toInt < w10_4.toInt := nle_v rfl rfl c19
            refine lv_iload hx hb dX9_soonest_49 (lv_at hl 0 rfl) ?_
            refine lv_istore_n (lv' := [(3, .int w10_5), (5, .int w10_5), (4, .int w10_4), (0, .ref o1), (1, .int x1), (2, .int x2)]) hx hb dX9_soonest_51 rfl hl (by decide) rfl (fun ls hl => ?_)
            refine lv_aload_n hx hb dX9_soonest_52 rfl (lv_at hl 3 rfl) ?_
            obtain ⟨k21, gk21, hk21⟩ := wGt (cy := cy) X S h_o1.1 h_o1.2.1
            simp only [kE, F4.1] at hk21
            refine va_get (D := D) (ci := 13) (v := .ref (S.f o1 4)) (C := RX9) (T := TX9) (N := 11) hx hb hts hi_X9_soonest_X9 hown hK hP k21 hk21 rfl 4 (by decide) (hts (.fieldLink RX9 23 "Hobhouse" "stations" "[LHobhouse$Station;") (by decide +kernel)) (fun _ h9 => h9) rfl dX9_soonest_53 ?_
            refine lv_iload hx hb dX9_soonest_56 (lv_at hl 1 rfl) ?_
            obtain ⟨k22, gk22, hk22⟩ := wGt (cy := cy) X S F4.2.1.1 F4.2.1.2.1
            have i24 := cl_int (i := w10_5) (by omega)
            have g23 := elq (by have h9 := ((hW.at h_o1 List.not_mem_nil).to_9 h_o1.2.1).E4 w10_5.toNatClampNeg (by omega); rw [f_of F4.1] at h9; exact h9)
            refine va_aldq hx hb hK hP k22 6 hk22 rfl (inb (m := 6) F4.2.2 (by omega) (by omega)) dX9_soonest_58 ?_
            rw [g23.1]
            refine W.eq (g2 := F0 m 59 ls [.ref (S.q (S.f o1 4) w10_5.toNatClampNeg)]) rfl ?_
            refine lv_iload_n hx hb dX9_soonest_59 rfl (lv_at hl 5 rfl) ?_
            have hFc := free_all hD hS hA
            obtain ⟨k25, gk25, hk25⟩ := wGt (cy := cy) X S g23.2.1 g23.2.2.1
            refine va_calli (va_runV (As := [.int x2]) (rest := []) ⟨hx, hb, hml, hown, hts⟩ (c_X7_endFrom l (cy := cy) (X := X) (D := D) S _ (S.q (S.f o1 4) w10_5.toNatClampNeg) g23.2 x2) (cwV 1 hts gX9_soonest_X7_endFrom rfl rfl rfl hd_X7_endFrom ⟨Nat.le_of_ble_eq_true rfl, Nat.le_of_ble_eq_true rfl⟩) (pV (va_recv hK hP (q := (RX7, TX7, 4)) (ci := 11) (q0 := k25) rfl hk25) hP hK hD hN) rfl rfl hl.1 rfl (lv_room (Nat.le_of_ble_eq_true rfl)) dX9_soonest_60 ⟨(Nat.zero_le _), (Nat.zero_le _)⟩) hS (fun q _ h => hFc q h) hFc (fun r26 u t H1 locs ht hvm hw hB hz1 hk1 hS => ?_)
            have c27 := hw
            obtain ⟨hP, hD⟩ := wd_post hFc ht hB
            generalize H1 = H at hP hS ⊢
            obtain rfl : f_X7_endFrom S (S.q (S.f o1 4) w10_5.toNatClampNeg) x2 = r26 := c27.symm
            refine lv_istore (lv' := [(4, .int (f_X7_endFrom S (S.q (S.f o1 4) w10_5.toNatClampNeg) x2)), (3, .int w10_5), (5, .int w10_5), (0, .ref o1), (1, .int x1), (2, .int x2)]) hx hb dX9_soonest_63 hl (by decide) rfl (fun ls hl => ?_)
            refine lv_iinc (v := w10_5 + (1 : Int32)) (lv' := [(5, .int (w10_5 + (1 : Int32))), (4, .int (f_X7_endFrom S (S.q (S.f o1 4) w10_5.toNatClampNeg) x2)), (3, .int w10_5), (0, .ref o1), (1, .int x1), (2, .int x2)]) hx hb dX9_soonest_65 hl (k := 2) rfl (by rfl) (by decide) rfl (fun ls hl => ?_)
            refine lv_goto (tgt := 10) hx hb dX9_soonest_68 (by decide) ?_
            have l32_1 : (1 : Int32).toInt = 1 := rfl
            have i28 : (w10_5 + (1 : Int32)).toInt = w10_5.toInt + 1 := t_addr (n := 1) rfl (by omega)
            exact ih10 w10_5 (f_X7_endFrom S (S.q (S.f o1 4) w10_5.toNatClampNeg) x2) (w10_5 + (1 : Int32)) _ _ _ (Nat.lt_of_lt_of_le (by omega) (Nat.le_of_lt_succ hm10)) (by omega) hP hS (lv_sub hl [0, 1, 2, 3, 4, 5] rfl) (fun w10_3y w10_4y w10_5y H9 locs9 ls9 i9 P9 S9 l9 hfe => ko10 w10_3y w10_4y w10_5y H9 locs9 ls9 i9 P9 S9 l9 (Eq.trans (by rw [f_X9_soonest_L10_s, if_neg c3, if_pos c10, if_neg c19]) hfe))
  refine loop10 21 (-1 : Int32) (2147483647 : Int32) (0 : Int32) _ _ _ (by omega) (by omega) hP hS (lv_sub hl [0, 1, 2, 3, 4, 5] rfl) (fun z30 z31 z32 H locs ls hi10 hP hS hl c29 => ?_)
  refine lv_iload_n hx hb dX9_soonest_71 rfl (lv_at hl 2 rfl) ?_
  refine W.widen (k := 0) (n := 0) (Nat.le_of_ble_eq_true rfl) (Nat.le_of_ble_eq_true rfl) ?_
  exact W.iret (v := z30) hx hb hr (fun t ht hW9 => ⟨⟨z30, (), rfl, (by show z30 = f_X9_soonest S o1 x1 x2; unfold f_X9_soonest; rw [l3_eq c29]), wd_end hP hK hD ht hW9.alike⟩, hS.F ht⟩) hS.2.2 dX9_soonest_72 hlocks
def f_X9_allDamage_L4 (S : wPS) (o1 : Nat) : Nat → Int64 → Int32 → Int64 × Int32
  | 0, w4_1, w4_3 => (w4_1, w4_3)
  | n + 1, w4_1, w4_3 => if (S.I o1 1) ≤ w4_3 then (w4_1, w4_3) else f_X9_allDamage_L4 S o1 n (w4_1 + (S.J (S.q (S.f o1 0) w4_3.toNatClampNeg) 18)) (w4_3 + (1 : Int32))
theorem f_X9_allDamage_L4_s (S : wPS) (o1 : Nat) (n : Nat) (w4_1 : Int64) (w4_3 : Int32) : f_X9_allDamage_L4 S o1 (n + 1) w4_1 w4_3 = if (S.I o1 1) ≤ w4_3 then (w4_1, w4_3) else f_X9_allDamage_L4 S o1 n (w4_1 + (S.J (S.q (S.f o1 0) w4_3.toNatClampNeg) 18)) (w4_3 + (1 : Int32)) := rfl
def f_X9_allDamage (S : wPS) (o1 : Nat) : Int64 := l2 (f_X9_allDamage_L4 S o1 31 (0 : Int64) (0 : Int32)) (fun z12 z13 => z12)
theorem hi_X9_allDamage_X2 : ∀ w ∈ u_ws RX2 TX2 20, w ∈ wsX9_allDamage := by decide +kernel
theorem hi_X9_allDamage_X9 : ∀ w ∈ u_ws RX9 TX9 11, w ∈ wsX9_allDamage := by decide +kernel
theorem hd_X9_allDamage : yX9_allDamage.cls = RX9 ∧ yX9_allDamage.cls ≠ "java/lang/invoke/MethodHandle" ∧ yX9_allDamage.cls ≠ "java/lang/invoke/VarHandle" ∧ (parseMethodDescriptor yX9_allDamage.desc).map (fun d => d.parameters.length) = some 0 := by decide +kernel
set_option maxHeartbeats 4000000 in
set_option maxRecDepth 100000 in
theorem c_X9_allDamage (l : Launch) {D : va_G} {cy : Nat → ClassId} {X : va_W} (S : wPS) (sz : Nat) (o1 : Nat) (h_o1 : isA S o1 9) (hW : wtB S [])  : Met l yX9_allDamage wsX9_allDamage ({ frames := 0, cells := 0, slots := 0, locals := 0 }) (va_Pc [.ref o1] (fun U => U.heap.size = sz ∧ WD D cy X (fun _ => True) S U ∧ NW U)) (va_Ql (fun r (_ : Unit) => r = f_X9_allDamage S o1) (fun _ t => WD D cy X (va_A (X ++ PL cy S) sz) S t) (va_A (X ++ PL cy S) sz)) 0 0 (va_A (X ++ PL cy S) sz) := by
  refine Met.ofW (cc := cX9_allDamage) (maxL := 4) (ret := (some .long)) (by decide) rfl ?_
  intro p e s m args below meth c s₁ B hml hv
  obtain ⟨rfl, hsz, ⟨hP, hK, hD0⟩, hN⟩ := hv
  have hx := B.exec
  have hb := B.bytes
  have hr := B.returns
  have hts := atoms_spec (ws := wsX9_allDamage) B.pre
  have hown : s.vm.findClass RX9 = some m.cls := findClass_of_methodNamed (x := yX9_allDamage) B.named
  have hlocks := B.notSynchronized
  subst hsz
  have hD := hD0.self (sz := s.heap.size)
  generalize hAe : va_A (X ++ PL cy S) s.heap.size = A at hD ⊢
  have hA : ∀ q : Nat, s.heap.size ≤ q → A q := fun q h => by rw [← hAe]; exact Or.inr h
  have hS : va_S A s.heap s.heap [] := va_S.rf
  have hl := lv_entry ([.ref o1]) (n := 4) (Nat.le_of_ble_eq_true rfl)
  rw [lg_entry_eq]
  generalize (lg_sl ([.ref o1]) ++ List.replicate (4 - (lg_sl ([.ref o1])).length) Slot.unset).toArray = ls at hl ⊢
  have hl : lv_has ls 4 [(0, .ref o1)] := hl
  refine lv_lconst (v := 0) hx hb dX9_allDamage_0 (by decide) ?_
  refine lv_lstore_n (lv' := [(1, .long (0 : Int64)), (0, .ref o1)]) hx hb dX9_allDamage_1 rfl hl (by decide) rfl (fun ls hl => ?_)
  refine lv_iconst (v := 0) hx hb dX9_allDamage_2 (by decide) ?_
  refine lv_istore_n (lv' := [(3, .int (0 : Int32)), (1, .long (0 : Int64)), (0, .ref o1)]) hx hb dX9_allDamage_3 rfl hl (by decide) rfl (fun ls hl => ?_)
  have l32_0 : (0 : Int32).toInt = 0 := rfl
  have loop4 : ∀ (n : Nat) (w4_1 : Int64) (w4_3 : Int32) (H : Heap) (locs : List Loc) (ls : Array Slot), (30 - w4_3.toInt).toNat < n → 0 ≤ w4_3.toInt ∧ w4_3.toInt ≤ 20 → va_P D vwCl (X ++ PL cy S) H → va_S A s.heap H locs → lv_has ls 4 [(3, .int w4_3), (1, .long w4_1), (0, .ref o1)] → (∀ (w4_1x : Int64) (w4_3x : Int32) (H : Heap) (locs : List Loc) (ls : Array Slot), 0 ≤ w4_3x.toInt ∧ w4_3x.toInt ≤ 20 → va_P D vwCl (X ++ PL cy S) H → va_S A s.heap H locs → lv_has ls 4 [(3, .int w4_3x), (1, .long w4_1x), (0, .ref o1)] → f_X9_allDamage_L4 S o1 n w4_1 w4_3 = (w4_1x, w4_3x) → W p l e (headSpec wsX9_allDamage ({ frames := 0, cells := 0, slots := 0, locals := 0 } : Room)).room s m [.ref o1].toArray below meth c H locs 0 0 (MQ below (va_Ql (fun r (_ : Unit) => r = f_X9_allDamage S o1) (fun _ t => WD D cy X A S t) A) [.ref o1].toArray s 0 0 A) (F0 m 30 ls [])) → W p l e (headSpec wsX9_allDamage ({ frames := 0, cells := 0, slots := 0, locals := 0 } : Room)).room s m [.ref o1].toArray below meth c H locs 0 0 (MQ below (va_Ql (fun r (_ : Unit) => r = f_X9_allDamage S o1) (fun _ t => WD D cy X A S t) A) [.ref o1].toArray s 0 0 A) (F0 m 4 ls []) := by
    intro n4
    induction n4 with
    | zero => intro w4_1 w4_3 H locs ls hm; exact absurd hm (Nat.not_lt_zero _)
    | succ n4 ih4 =>
      intro w4_1 w4_3 H locs ls hm4 hi4 hP hS hl ko4
      refine lv_iload_n hx hb dX9_allDamage_4 rfl (lv_at hl 0 rfl) ?_
      refine lv_aload_n hx hb dX9_allDamage_5 rfl (lv_at hl 2 rfl) ?_
      obtain ⟨k1, gk1, hk1⟩ := wGt (cy := cy) X S h_o1.1 h_o1.2.1
      have i2 := ((hW.at h_o1 List.not_mem_nil).to_9 h_o1.2.1).R1
      refine va_get (D := D) (ci := 13) (v := .int (S.I o1 1)) (C := RX9) (T := TX9) (N := 11) hx hb hts hi_X9_allDamage_X9 hown hK hP k1 hk1 rfl 1 (by decide) (hts (.fieldLink RX9 64 "Hobhouse" "gearCount" "I") (by decide +kernel)) (fun _ h9 => h9) rfl dX9_allDamage_6 ?_
      refine lv_icmp_ge (tgt := 30) hx hb dX9_allDamage_9 (by decide) (fun c3 => ?_) (fun c3 => ?_)
      · have c3i : (S.I o1 1).toInt ≤ w4_3.toInt := le_v rfl rfl c3
        exact ko4 w4_1 w4_3 _ _ _ (by omega) hP hS (lv_sub hl [0, 1, 2] rfl) (by rw [f_X9_allDamage_L4_s, if_pos c3])
      · have c3i : w4_3.toInt < (S.I o1 1).toInt := nle_v rfl rfl c3
        refine lv_lload_n hx hb dX9_allDamage_12 rfl (lv_at hl 1 rfl) ?_
        refine lv_aload_n hx hb dX9_allDamage_13 rfl (lv_at hl 2 rfl) ?_
        have F4 := ((hW.at h_o1 List.not_mem_nil).to_9 h_o1.2.1).F0
        obtain ⟨k5, gk5, hk5⟩ := wGt (cy := cy) X S h_o1.1 h_o1.2.1
        simp only [kE, F4.1] at hk5
        refine va_get (D := D) (ci := 13) (v := .ref (S.f o1 0)) (C := RX9) (T := TX9) (N := 11) hx hb hts hi_X9_allDamage_X9 hown hK hP k5 hk5 rfl 0 (by decide) (hts (.fieldLink RX9 11 "Hobhouse" "gears" "[LHobhouse$Gear;") (by decide +kernel)) (fun _ h9 => h9) rfl dX9_allDamage_14 ?_
        refine lv_iload_n hx hb dX9_allDamage_17 rfl (lv_at hl 0 rfl) ?_
        obtain ⟨k6, gk6, hk6⟩ := wGt (cy := cy) X S F4.2.1.1 F4.2.1.2.1
        have i8 := cl_int (i := w4_3) (by omega)
        have g7 := elq (by have h9 := ((hW.at h_o1 List.not_mem_nil).to_9 h_o1.2.1).E0 w4_3.toNatClampNeg (by omega); rw [f_of F4.1] at h9; exact h9)
        refine va_aldq hx hb hK hP k6 4 hk6 rfl (inb (m := 20) F4.2.2 (by omega) (by omega)) dX9_allDamage_18 ?_
        rw [g7.1]
        refine W.eq (g2 := F0 m 19 ls [.ref (S.q (S.f o1 0) w4_3.toNatClampNeg), .long w4_1]) rfl ?_
        obtain ⟨k9, gk9, hk9⟩ := wGt (cy := cy) X S g7.2.1 g7.2.2.1
        refine va_get (D := D) (ci := 6) (v := .long (S.J (S.q (S.f o1 0) w4_3.toNatClampNeg) 18)) (C := RX2) (T := TX2) (N := 20) hx hb hts hi_X9_allDamage_X2 hown hK hP k9 hk9 rfl 18 (by decide) (hts (.fieldLink RX9 387 "Hobhouse$Gear" "hurt" "J") (by decide +kernel)) (fun _ h9 => h9) rfl dX9_allDamage_19 ?_
        refine lv_ladd hx hb dX9_allDamage_22 ?_
        refine lv_lstore_n (lv' := [(1, .long (w4_1 + (S.J (S.q (S.f o1 0) w4_3.toNatClampNeg) 18))), (3, .int w4_3), (0, .ref o1)]) hx hb dX9_allDamage_23 rfl hl (by decide) rfl (fun ls hl => ?_)
        refine lv_iinc (v := w4_3 + (1 : Int32)) (lv' := [(3, .int (w4_3 + (1 : Int32))), (1, .long (w4_1 + (S.J (S.q (S.f o1 0) w4_3.toNatClampNeg) 18))), (0, .ref o1)]) hx hb dX9_allDamage_24 hl (k := 1) rfl (by rfl) (by decide) rfl (fun ls hl => ?_)
        refine lv_goto (tgt := 4) hx hb dX9_allDamage_27 (by decide) ?_
        have l32_1 : (1 : Int32).toInt = 1 := rfl
        have i10 : (w4_3 + (1 : Int32)).toInt = w4_3.toInt + 1 := t_addr (n := 1) rfl (by omega)
        exact ih4 (w4_1 + (S.J (S.q (S.f o1 0) w4_3.toNatClampNeg) 18)) (w4_3 + (1 : Int32)) _ _ _ (Nat.lt_of_lt_of_le (by omega) (Nat.le_of_lt_succ hm4)) (by omega) hP hS (lv_sub hl [0, 1, 2] rfl) (fun w4_1y w4_3y H9 locs9 ls9 i9 P9 S9 l9 hfe => ko4 w4_1y w4_3y H9 locs9 ls9 i9 P9 S9 l9 (Eq.trans (by rw [f_X9_allDamage_L4_s, if_neg c3]) hfe))
  refine loop4 31 (0 : Int64) (0 : Int32) _ _ _ (by omega) (by omega) hP hS (lv_sub hl [0, 1, 2] rfl) (fun z12 z13 H locs ls hi4 hP hS hl c11 => ?_)
  refine lv_lload_n hx hb dX9_allDamage_30 rfl (lv_at hl 1 rfl) ?_
  refine W.widen (k := 0) (n := 0) (Nat.le_of_ble_eq_true rfl) (Nat.le_of_ble_eq_true rfl) ?_
  exact W.lret (v := z12) hx hb hr (fun t ht hW9 => ⟨⟨z12, (), rfl, (by show z12 = f_X9_allDamage S o1; unfold f_X9_allDamage; rw [l2_eq c11]), wd_end hP hK hD ht hW9.alike⟩, hS.F ht⟩) hS.2.2 dX9_allDamage_31 hlocks
def f_X9_run (S : wPS) (o1 : Nat) (x1 : Int32) (x2 : Int32) (x3 : Int32) (x4 : Int32) : Except String (Int32 × wPS) := eB (f_X9_gearAt S o1 x1) (fun r2 => eB (f_X9_gearAt S o1 x2) (fun r7 => eB (f_X9_needRange x3 (1 : Int32) (99999 : Int32)) (fun _ => eB (f_X9_needRange x4 (1 : Int32) (999999 : Int32)) (fun _ => eB (f_X9_needPair S r2 r7) (fun _ => if (f_X2_isWhole S r2) = (0 : Int32) then eB (f_X9_allowOnly (0 : Int32)) (fun _ => .error "") else if (f_X2_isWhole S r7) = (0 : Int32) then eB (f_X9_allowOnly (0 : Int32)) (fun _ => .error "") else if (f_X2_isFreeFor S r2 r7) = (0 : Int32) then eB (f_X9_allowOnly (0 : Int32)) (fun _ => .error "") else if (f_X2_isFreeFor S r7 r2) = (0 : Int32) then eB (f_X9_allowOnly (0 : Int32)) (fun _ => .error "") else eB (f_X9_allowOnly (1 : Int32)) (fun _ => l1 (f_X2_turn S r2 x3.toInt64 x4.toInt64) (fun S62 => l1 (f_X2_turn S62 r7 ((x3.toInt64 * ((S62.I r7 1).toInt64)) / ((S62.I r2 1).toInt64)) ((x4.toInt64 * ((S62.I r2 1).toInt64)) / ((S62.I r7 1).toInt64))) (fun S75 => if (f_X2_isBroken S75 r2) = (0 : Int32) then if (f_X2_isBroken S75 r7) = (0 : Int32) then .ok ((0 : Int32) + (0 : Int32), S75) else .ok ((0 : Int32) + (1 : Int32), S75) else if (f_X2_isBroken S75 r7) = (0 : Int32) then .ok ((1 : Int32) + (0 : Int32), S75) else .ok ((1 : Int32) + (1 : Int32), S75)))))))))
theorem hi_X9_run_X2 : ∀ w ∈ u_ws RX2 TX2 20, w ∈ wsX9_run := by decide +kernel
theorem hd_X9_run : yX9_run.cls = RX9 ∧ yX9_run.cls ≠ "java/lang/invoke/MethodHandle" ∧ yX9_run.cls ≠ "java/lang/invoke/VarHandle" ∧ (parseMethodDescriptor yX9_run.desc).map (fun d => d.parameters.length) = some 4 := by decide +kernel
set_option maxHeartbeats 4000000 in
set_option maxRecDepth 100000 in
theorem c_X9_run (l : Launch) (hst : l.stackTraces = false) {D : va_G} {cy : Nat → ClassId} {X : va_W} (S : wPS) (sz : Nat) (o1 : Nat) (h_o1 : isA S o1 9) (x1 : Int32) (x2 : Int32) (x3 : Int32) (x4 : Int32) (hW : wtB S [])  : vx_Met l yX9_run wsX9_run ({ frames := 8, cells := 6, slots := 36, locals := 132 }) (va_Pc [.ref o1, .int x1, .int x2, .int x3, .int x4] (fun U => U.heap.size = sz ∧ WD D cy X (fun _ => True) S U ∧ NW U ∧ TH (va_A (X ++ PL cy S) sz) U)) (va_Qi (fun r (u : wPS) => f_X9_run S o1 x1 x2 x3 x4 = .ok (r, u) ∧ stp [(2, 18)] [] [] S u) (fun u t => WD D cy X (va_A (X ++ PL cy S) sz) u t) (va_A (X ++ PL cy S) sz)) (vx_X (fun (u : wPS) => stp [(2, 18)] [] [] S u) (fun E u t => f_X9_run S o1 x1 x2 x3 x4 = .error E ∧ E ∈ ["java/lang/IllegalArgumentException", "java/lang/IndexOutOfBoundsException", "java/lang/UnsupportedOperationException"] ∧ WD D cy X (va_A (X ++ PL cy S) sz) u t) (va_A (X ++ PL cy S) sz)) 6 36 (va_A (X ++ PL cy S) sz) := by
  refine vx_ofW (cc := cX9_run) (maxL := 7) (ret := (some .int)) (by decide) rfl ?_
  intro p e s m args below meth c s₁ B hml hno hv
  obtain ⟨rfl, hsz, ⟨hP, hK, hD0⟩, hN, hTH⟩ := hv
  have hx := B.exec
  have hb := B.bytes
  have hr := B.returns
  have hts := atoms_spec (ws := wsX9_run) B.pre
  have hown : s.vm.findClass RX9 = some m.cls := findClass_of_methodNamed (x := yX9_run) B.named
  have hlocks := B.notSynchronized
  subst hsz
  have hD := hD0.self (sz := s.heap.size)
  generalize hAe : va_A (X ++ PL cy S) s.heap.size = A at hD hTH ⊢
  have hA : ∀ q : Nat, s.heap.size ≤ q → A q := fun q h => by rw [← hAe]; exact Or.inr h
  have hS : va_S A s.heap s.heap [] := va_S.rf
  have hl := lv_entry ([.ref o1, .int x1, .int x2, .int x3, .int x4]) (n := 7) (Nat.le_of_ble_eq_true rfl)
  rw [lg_entry_eq]
  generalize (lg_sl ([.ref o1, .int x1, .int x2, .int x3, .int x4]) ++ List.replicate (7 - (lg_sl ([.ref o1, .int x1, .int x2, .int x3, .int x4])).length) Slot.unset).toArray = ls at hl ⊢
  have hl : lv_has ls 7 [(0, .ref o1), (1, .int x1), (2, .int x2), (3, .int x3), (4, .int x4)] := hl
  have t0 : stp [(2, 18)] [] [] S S := stp.rf hW
  refine lv_aload_n hx hb dX9_run_0 rfl (lv_at hl 0 rfl) ?_
  refine lv_iload_n hx hb dX9_run_1 rfl (lv_at hl 1 rfl) ?_
  have hFc := free_all hD hS hA
  obtain ⟨k1, gk1, hk1⟩ := wGt (cy := cy) X S h_o1.1 h_o1.2.1
  refine vx_callq (vx_runV (As := [.int x1]) (rest := []) ⟨hx, hb, hml, hown, hts⟩ (c_X9_gearAt l hst (cy := cy) (X := X) (D := D) S _ o1 h_o1 x1 (hW)) (cwV 1 hts gX9_run_X9_gearAt rfl rfl rfl hd_X9_gearAt ⟨Nat.le_of_ble_eq_true rfl, Nat.le_of_ble_eq_true rfl⟩) (pVt (va_recv hK hP (q := (RX9, TX9, 11)) (ci := 13) (q0 := k1) rfl hk1) hP hK hD hN hTH hS hFc) rfl rfl hl.1 rfl (lv_room (Nat.le_of_ble_eq_true rfl)) dX9_run_2 ⟨Nat.le_of_ble_eq_true rfl, Nat.le_of_ble_eq_true rfl⟩) hS (fun q _ h => hFc q h) hFc (fun q _ h => hFc q h) (fun E ce q9 u t H1 locs ht hvm hw hB hz1 hk1 hS hq9 hce hcl => ?_) (fun r2 u t H1 locs ht hvm hw hB hz1 hk1 hS => ?_)
  · obtain ⟨c3, hEc3, hB2⟩ := hB
    obtain ⟨hP, hD⟩ := wd_post hFc ht hB2
    exact vx_out (fun x h => (hno x h).elim) hlocks hq9 hce hcl (fun t2 ht2 hA2 => ⟨S, t0, ⟨(by show f_X9_run S o1 x1 x2 x3 x4 = .error E; unfold f_X9_run; rw [eB_er c3]), (el_in (by decide) hEc3), wd_end hP hK hD ht2 hA2⟩, hS.F ht2⟩) hS.2.2 (Nat.le_of_ble_eq_true rfl) (Nat.le_of_ble_eq_true rfl)
  · obtain ⟨r2, rfl, c4, o5⟩ := hw
    obtain ⟨hP, hD⟩ := wd_post hFc ht hB
    generalize H1 = H at hP hS ⊢
    refine W.eq (g2 := F0 m 5 ls [.ref r2]) rfl ?_
    refine lv_astore (lv' := [(5, .ref r2), (0, .ref o1), (1, .int x1), (2, .int x2), (3, .int x3), (4, .int x4)]) hx hb dX9_run_5 hl (by decide) rfl (fun ls hl => ?_)
    refine lv_aload_n hx hb dX9_run_7 rfl (lv_at hl 1 rfl) ?_
    refine lv_iload_n hx hb dX9_run_8 rfl (lv_at hl 3 rfl) ?_
    have hFc := free_all hD hS hA
    obtain ⟨k6, gk6, hk6⟩ := wGt (cy := cy) X S h_o1.1 h_o1.2.1
    refine vx_callq (vx_runV (As := [.int x2]) (rest := []) ⟨hx, hb, hml, hown, hts⟩ (c_X9_gearAt l hst (cy := cy) (X := X) (D := D) S _ o1 h_o1 x2 (hW)) (cwV 1 hts gX9_run_X9_gearAt rfl rfl rfl hd_X9_gearAt ⟨Nat.le_of_ble_eq_true rfl, Nat.le_of_ble_eq_true rfl⟩) (pVt (va_recv hK hP (q := (RX9, TX9, 11)) (ci := 13) (q0 := k6) rfl hk6) hP hK hD hN hTH hS hFc) rfl rfl hl.1 rfl (lv_room (Nat.le_of_ble_eq_true rfl)) dX9_run_9 ⟨Nat.le_of_ble_eq_true rfl, Nat.le_of_ble_eq_true rfl⟩) hS (fun q _ h => hFc q h) hFc (fun q _ h => hFc q h) (fun E ce q9 u t H1 locs ht hvm hw hB hz1 hk1 hS hq9 hce hcl => ?_) (fun r7 u t H1 locs ht hvm hw hB hz1 hk1 hS => ?_)
    · obtain ⟨c8, hEc8, hB2⟩ := hB
      obtain ⟨hP, hD⟩ := wd_post hFc ht hB2
      exact vx_out (fun x h => (hno x h).elim) hlocks hq9 hce hcl (fun t2 ht2 hA2 => ⟨S, t0, ⟨(by show f_X9_run S o1 x1 x2 x3 x4 = .error E; unfold f_X9_run; rw [eB_ok c4, eB_er c8]), (el_in (by decide) hEc8), wd_end hP hK hD ht2 hA2⟩, hS.F ht2⟩) hS.2.2 (Nat.le_of_ble_eq_true rfl) (Nat.le_of_ble_eq_true rfl)
    · obtain ⟨r7, rfl, c9, o10⟩ := hw
      obtain ⟨hP, hD⟩ := wd_post hFc ht hB
      generalize H1 = H at hP hS ⊢
      refine W.eq (g2 := F0 m 12 ls [.ref r7]) rfl ?_
      refine lv_astore (lv' := [(6, .ref r7), (5, .ref r2), (0, .ref o1), (1, .int x1), (2, .int x2), (3, .int x3), (4, .int x4)]) hx hb dX9_run_12 hl (by decide) rfl (fun ls hl => ?_)
      refine lv_iload_n hx hb dX9_run_14 rfl (lv_at hl 5 rfl) ?_
      refine lv_iconst (v := 1) hx hb dX9_run_15 (by decide) ?_
      refine lv_ldc (own := RX9) (v := 99999) hx hb hown (hts (.constant RX9 63 (99999)) (by decide +kernel)) dX9_run_16 ?_
      have l32_1 : (1 : Int32).toInt = 1 := rfl
      have l32_99999 : (99999 : Int32).toInt = 99999 := rfl
      have hFc := free_all hD hS hA
      refine vx_callv (vx_runS (As := [.int x3, .int (1 : Int32), .int (99999 : Int32)]) (rest := []) ⟨hx, hb, hml, hown, hts⟩ (c_X9_needRange l hst (cy := cy) (X := X) (D := D) S _ x3 (1 : Int32) (99999 : Int32)) (cwS 3 hts gX9_run_X9_needRange rfl rfl rfl hd_X9_needRange ⟨Nat.le_of_ble_eq_true rfl, Nat.le_of_ble_eq_true rfl⟩) (pSt hP hK hD hN hTH hS hFc) rfl rfl hl.1 rfl (lv_room (Nat.le_of_ble_eq_true rfl)) dX9_run_18 ⟨Nat.le_of_ble_eq_true rfl, Nat.le_of_ble_eq_true rfl⟩) hS (fun q _ h => hFc q h) hFc (fun q _ h => hFc q h) (fun E ce q9 u t H1 locs ht hvm hw hB hz1 hk1 hS hq9 hce hcl => ?_) (fun u t H1 locs ht hvm hw hB hz1 hk1 hS => ?_)
      · obtain ⟨c12, hEc12, hB2⟩ := hB
        obtain ⟨hP, hD⟩ := wd_post hFc ht hB2
        exact vx_out (fun x h => (hno x h).elim) hlocks hq9 hce hcl (fun t2 ht2 hA2 => ⟨S, t0, ⟨(by show f_X9_run S o1 x1 x2 x3 x4 = .error E; unfold f_X9_run; rw [eB_ok c4, eB_ok c9, eB_er c12]), (el_in (by decide) hEc12), wd_end hP hK hD ht2 hA2⟩, hS.F ht2⟩) hS.2.2 (Nat.le_of_ble_eq_true rfl) (Nat.le_of_ble_eq_true rfl)
      · have c13 := hw
        obtain ⟨hP, hD⟩ := wd_post hFc ht hB
        generalize H1 = H at hP hS ⊢
        have i14 := nr_i c13
        have i14l := i14.1
        have i14h := i14.2
        have l15 : (1 : Int32).toInt = 1 := rfl
        have l16 : (99999 : Int32).toInt = 99999 := rfl
        refine lv_iload hx hb dX9_run_21 (lv_at hl 6 rfl) ?_
        refine lv_iconst (v := 1) hx hb dX9_run_23 (by decide) ?_
        refine lv_ldc (own := RX9) (v := 999999) hx hb hown (hts (.constant RX9 244 (999999)) (by decide +kernel)) dX9_run_24 ?_
        have l32_999999 : (999999 : Int32).toInt = 999999 := rfl
        have hFc := free_all hD hS hA
        refine vx_callv (vx_runS (As := [.int x4, .int (1 : Int32), .int (999999 : Int32)]) (rest := []) ⟨hx, hb, hml, hown, hts⟩ (c_X9_needRange l hst (cy := cy) (X := X) (D := D) S _ x4 (1 : Int32) (999999 : Int32)) (cwS 3 hts gX9_run_X9_needRange rfl rfl rfl hd_X9_needRange ⟨Nat.le_of_ble_eq_true rfl, Nat.le_of_ble_eq_true rfl⟩) (pSt hP hK hD hN hTH hS hFc) rfl rfl hl.1 rfl (lv_room (Nat.le_of_ble_eq_true rfl)) dX9_run_26 ⟨Nat.le_of_ble_eq_true rfl, Nat.le_of_ble_eq_true rfl⟩) hS (fun q _ h => hFc q h) hFc (fun q _ h => hFc q h) (fun E ce q9 u t H1 locs ht hvm hw hB hz1 hk1 hS hq9 hce hcl => ?_) (fun u t H1 locs ht hvm hw hB hz1 hk1 hS => ?_)
        · obtain ⟨c18, hEc18, hB2⟩ := hB
          obtain ⟨hP, hD⟩ := wd_post hFc ht hB2
          exact vx_out (fun x h => (hno x h).elim) hlocks hq9 hce hcl (fun t2 ht2 hA2 => ⟨S, t0, ⟨(by show f_X9_run S o1 x1 x2 x3 x4 = .error E; unfold f_X9_run; rw [eB_ok c4, eB_ok c9, eB_ok c13, eB_er c18]), (el_in (by decide) hEc18), wd_end hP hK hD ht2 hA2⟩, hS.F ht2⟩) hS.2.2 (Nat.le_of_ble_eq_true rfl) (Nat.le_of_ble_eq_true rfl)
        · have c19 := hw
          obtain ⟨hP, hD⟩ := wd_post hFc ht hB
          generalize H1 = H at hP hS ⊢
          have i20 := nr_i c19
          have i20l := i20.1
          have i20h := i20.2
          have l21 : (1 : Int32).toInt = 1 := rfl
          have l22 : (999999 : Int32).toInt = 999999 := rfl
          refine lv_aload hx hb dX9_run_29 (lv_at hl 1 rfl) ?_
          refine lv_aload hx hb dX9_run_31 (lv_at hl 0 rfl) ?_
          have hFc := free_all hD hS hA
          refine vx_callv (vx_runS (As := [.ref r2, .ref r7]) (rest := []) ⟨hx, hb, hml, hown, hts⟩ (c_X9_needPair l hst (cy := cy) (X := X) (D := D) S _ r2 o5 r7 o10) (cwS 2 hts gX9_run_X9_needPair rfl rfl rfl hd_X9_needPair ⟨Nat.le_of_ble_eq_true rfl, Nat.le_of_ble_eq_true rfl⟩) (pSt hP hK hD hN hTH hS hFc) rfl rfl hl.1 rfl (lv_room (Nat.le_of_ble_eq_true rfl)) dX9_run_33 ⟨Nat.le_of_ble_eq_true rfl, Nat.le_of_ble_eq_true rfl⟩) hS (fun q _ h => hFc q h) hFc (fun q _ h => hFc q h) (fun E ce q9 u t H1 locs ht hvm hw hB hz1 hk1 hS hq9 hce hcl => ?_) (fun u t H1 locs ht hvm hw hB hz1 hk1 hS => ?_)
          · obtain ⟨c24, hEc24, hB2⟩ := hB
            obtain ⟨hP, hD⟩ := wd_post hFc ht hB2
            exact vx_out (fun x h => (hno x h).elim) hlocks hq9 hce hcl (fun t2 ht2 hA2 => ⟨S, t0, ⟨(by show f_X9_run S o1 x1 x2 x3 x4 = .error E; unfold f_X9_run; rw [eB_ok c4, eB_ok c9, eB_ok c13, eB_ok c19, eB_er c24]), (el_in (by decide) hEc24), wd_end hP hK hD ht2 hA2⟩, hS.F ht2⟩) hS.2.2 (Nat.le_of_ble_eq_true rfl) (Nat.le_of_ble_eq_true rfl)
          · have c25 := hw
            obtain ⟨hP, hD⟩ := wd_post hFc ht hB
            generalize H1 = H at hP hS ⊢
            refine lv_aload hx hb dX9_run_36 (lv_at hl 1 rfl) ?_
            have hFc := free_all hD hS hA
            obtain ⟨k26, gk26, hk26⟩ := wGt (cy := cy) X S o5.1 o5.2.1
            refine va_calli (va_runV (As := []) (rest := []) ⟨hx, hb, hml, hown, hts⟩ (c_X2_isWhole l (cy := cy) (X := X) (D := D) S _ r2 o5) (cwV 0 hts gX9_run_X2_isWhole rfl rfl rfl hd_X2_isWhole ⟨Nat.le_of_ble_eq_true rfl, Nat.le_of_ble_eq_true rfl⟩) (pV (va_recv hK hP (q := (RX2, TX2, 20)) (ci := 6) (q0 := k26) rfl hk26) hP hK hD hN) rfl rfl hl.1 rfl (lv_room (Nat.le_of_ble_eq_true rfl)) dX9_run_38 ⟨Nat.le_of_ble_eq_true rfl, Nat.le_of_ble_eq_true rfl⟩) hS (fun q _ h => hFc q h) hFc (fun r27 u t H1 locs ht hvm hw hB hz1 hk1 hS => ?_)
            have c28 := hw
            obtain ⟨hP, hD⟩ := wd_post hFc ht hB
            generalize H1 = H at hP hS ⊢
            obtain rfl : f_X2_isWhole S r2 = r27 := c28.symm
            refine lv_if_eq (tgt := 76) hx hb dX9_run_41 (by decide) (fun c29 => ?_) (fun c29 => ?_)
            · have c29i : (f_X2_isWhole S r2).toInt = 0 := eq_v rfl rfl c29
              refine lv_iconst (v := 0) hx hb dX9_run_76 (by decide) ?_
              have l32_0 : (0 : Int32).toInt = 0 := rfl
              have hFc := free_all hD hS hA
              refine vx_callv (vx_runS (As := [.int (0 : Int32)]) (rest := []) ⟨hx, hb, hml, hown, hts⟩ (c_X9_allowOnly l hst (cy := cy) (X := X) (D := D) S _ (0 : Int32)) (cwS 1 hts gX9_run_X9_allowOnly rfl rfl rfl hd_X9_allowOnly ⟨Nat.le_of_ble_eq_true rfl, Nat.le_of_ble_eq_true rfl⟩) (pSt hP hK hD hN hTH hS hFc) rfl rfl hl.1 rfl (lv_room (Nat.le_of_ble_eq_true rfl)) dX9_run_77 ⟨Nat.le_of_ble_eq_true rfl, Nat.le_of_ble_eq_true rfl⟩) hS (fun q _ h => hFc q h) hFc (fun q _ h => hFc q h) (fun E ce q9 u t H1 locs ht hvm hw hB hz1 hk1 hS hq9 hce hcl => ?_) (fun u t H1 locs ht hvm hw hB hz1 hk1 hS => ?_)
              · obtain ⟨c31, hEc31, hB2⟩ := hB
                obtain ⟨hP, hD⟩ := wd_post hFc ht hB2
                exact vx_out (fun x h => (hno x h).elim) hlocks hq9 hce hcl (fun t2 ht2 hA2 => ⟨S, t0, ⟨(by show f_X9_run S o1 x1 x2 x3 x4 = .error E; unfold f_X9_run; rw [eB_ok c4, eB_ok c9, eB_ok c13, eB_ok c19, eB_ok c25, if_pos c29, eB_er c31]), (el_in (by decide) hEc31), wd_end hP hK hD ht2 hA2⟩, hS.F ht2⟩) hS.2.2 (Nat.le_of_ble_eq_true rfl) (Nat.le_of_ble_eq_true rfl)
              · have c32 := hw
                obtain ⟨hP, hD⟩ := wd_post hFc ht hB
                generalize H1 = H at hP hS ⊢
                exact absurd rfl (ao_i c32)
            · have c29i : ¬ (f_X2_isWhole S r2).toInt = 0 := neq_v rfl rfl c29
              refine lv_aload hx hb dX9_run_44 (lv_at hl 0 rfl) ?_
              have hFc := free_all hD hS hA
              obtain ⟨k33, gk33, hk33⟩ := wGt (cy := cy) X S o10.1 o10.2.1
              refine va_calli (va_runV (As := []) (rest := []) ⟨hx, hb, hml, hown, hts⟩ (c_X2_isWhole l (cy := cy) (X := X) (D := D) S _ r7 o10) (cwV 0 hts gX9_run_X2_isWhole rfl rfl rfl hd_X2_isWhole ⟨Nat.le_of_ble_eq_true rfl, Nat.le_of_ble_eq_true rfl⟩) (pV (va_recv hK hP (q := (RX2, TX2, 20)) (ci := 6) (q0 := k33) rfl hk33) hP hK hD hN) rfl rfl hl.1 rfl (lv_room (Nat.le_of_ble_eq_true rfl)) dX9_run_46 ⟨Nat.le_of_ble_eq_true rfl, Nat.le_of_ble_eq_true rfl⟩) hS (fun q _ h => hFc q h) hFc (fun r34 u t H1 locs ht hvm hw hB hz1 hk1 hS => ?_)
              have c35 := hw
              obtain ⟨hP, hD⟩ := wd_post hFc ht hB
              generalize H1 = H at hP hS ⊢
              obtain rfl : f_X2_isWhole S r7 = r34 := c35.symm
              refine lv_if_eq (tgt := 76) hx hb dX9_run_49 (by decide) (fun c36 => ?_) (fun c36 => ?_)
              · have c36i : (f_X2_isWhole S r7).toInt = 0 := eq_v rfl rfl c36
                refine lv_iconst (v := 0) hx hb dX9_run_76 (by decide) ?_
                have l32_0 : (0 : Int32).toInt = 0 := rfl
                have hFc := free_all hD hS hA
                refine vx_callv (vx_runS (As := [.int (0 : Int32)]) (rest := []) ⟨hx, hb, hml, hown, hts⟩ (c_X9_allowOnly l hst (cy := cy) (X := X) (D := D) S _ (0 : Int32)) (cwS 1 hts gX9_run_X9_allowOnly rfl rfl rfl hd_X9_allowOnly ⟨Nat.le_of_ble_eq_true rfl, Nat.le_of_ble_eq_true rfl⟩) (pSt hP hK hD hN hTH hS hFc) rfl rfl hl.1 rfl (lv_room (Nat.le_of_ble_eq_true rfl)) dX9_run_77 ⟨Nat.le_of_ble_eq_true rfl, Nat.le_of_ble_eq_true rfl⟩) hS (fun q _ h => hFc q h) hFc (fun q _ h => hFc q h) (fun E ce q9 u t H1 locs ht hvm hw hB hz1 hk1 hS hq9 hce hcl => ?_) (fun u t H1 locs ht hvm hw hB hz1 hk1 hS => ?_)
                · obtain ⟨c38, hEc38, hB2⟩ := hB
                  obtain ⟨hP, hD⟩ := wd_post hFc ht hB2
                  exact vx_out (fun x h => (hno x h).elim) hlocks hq9 hce hcl (fun t2 ht2 hA2 => ⟨S, t0, ⟨(by show f_X9_run S o1 x1 x2 x3 x4 = .error E; unfold f_X9_run; rw [eB_ok c4, eB_ok c9, eB_ok c13, eB_ok c19, eB_ok c25, if_neg c29, if_pos c36, eB_er c38]), (el_in (by decide) hEc38), wd_end hP hK hD ht2 hA2⟩, hS.F ht2⟩) hS.2.2 (Nat.le_of_ble_eq_true rfl) (Nat.le_of_ble_eq_true rfl)
                · have c39 := hw
                  obtain ⟨hP, hD⟩ := wd_post hFc ht hB
                  generalize H1 = H at hP hS ⊢
                  exact absurd rfl (ao_i c39)
              · have c36i : ¬ (f_X2_isWhole S r7).toInt = 0 := neq_v rfl rfl c36
                refine lv_aload hx hb dX9_run_52 (lv_at hl 1 rfl) ?_
                refine lv_aload hx hb dX9_run_54 (lv_at hl 0 rfl) ?_
                have hFc := free_all hD hS hA
                obtain ⟨k40, gk40, hk40⟩ := wGt (cy := cy) X S o5.1 o5.2.1
                refine va_calli (va_runV (As := [.ref r7]) (rest := []) ⟨hx, hb, hml, hown, hts⟩ (c_X2_isFreeFor l (cy := cy) (X := X) (D := D) S _ r2 o5 r7 o10) (cwV 1 hts gX9_run_X2_isFreeFor rfl rfl rfl hd_X2_isFreeFor ⟨Nat.le_of_ble_eq_true rfl, Nat.le_of_ble_eq_true rfl⟩) (pV (va_recv hK hP (q := (RX2, TX2, 20)) (ci := 6) (q0 := k40) rfl hk40) hP hK hD hN) rfl rfl hl.1 rfl (lv_room (Nat.le_of_ble_eq_true rfl)) dX9_run_56 ⟨Nat.le_of_ble_eq_true rfl, Nat.le_of_ble_eq_true rfl⟩) hS (fun q _ h => hFc q h) hFc (fun r41 u t H1 locs ht hvm hw hB hz1 hk1 hS => ?_)
                have c42 := hw
                obtain ⟨hP, hD⟩ := wd_post hFc ht hB
                generalize H1 = H at hP hS ⊢
                obtain rfl : f_X2_isFreeFor S r2 r7 = r41 := c42.symm
                refine lv_if_eq (tgt := 76) hx hb dX9_run_59 (by decide) (fun c43 => ?_) (fun c43 => ?_)
                · have c43i : (f_X2_isFreeFor S r2 r7).toInt = 0 := eq_v rfl rfl c43
                  refine lv_iconst (v := 0) hx hb dX9_run_76 (by decide) ?_
                  have l32_0 : (0 : Int32).toInt = 0 := rfl
                  have hFc := free_all hD hS hA
                  refine vx_callv (vx_runS (As := [.int (0 : Int32)]) (rest := []) ⟨hx, hb, hml, hown, hts⟩ (c_X9_allowOnly l hst (cy := cy) (X := X) (D := D) S _ (0 : Int32)) (cwS 1 hts gX9_run_X9_allowOnly rfl rfl rfl hd_X9_allowOnly ⟨Nat.le_of_ble_eq_true rfl, Nat.le_of_ble_eq_true rfl⟩) (pSt hP hK hD hN hTH hS hFc) rfl rfl hl.1 rfl (lv_room (Nat.le_of_ble_eq_true rfl)) dX9_run_77 ⟨Nat.le_of_ble_eq_true rfl, Nat.le_of_ble_eq_true rfl⟩) hS (fun q _ h => hFc q h) hFc (fun q _ h => hFc q h) (fun E ce q9 u t H1 locs ht hvm hw hB hz1 hk1 hS hq9 hce hcl => ?_) (fun u t H1 locs ht hvm hw hB hz1 hk1 hS => ?_)
                  · obtain ⟨c45, hEc45, hB2⟩ := hB
                    obtain ⟨hP, hD⟩ := wd_post hFc ht hB2
                    exact vx_out (fun x h => (hno x h).elim) hlocks hq9 hce hcl (fun t2 ht2 hA2 => ⟨S, t0, ⟨(by show f_X9_run S o1 x1 x2 x3 x4 = .error E; unfold f_X9_run; rw [eB_ok c4, eB_ok c9, eB_ok c13, eB_ok c19, eB_ok c25, if_neg c29, if_neg c36, if_pos c43, eB_er c45]), (el_in (by decide) hEc45), wd_end hP hK hD ht2 hA2⟩, hS.F ht2⟩) hS.2.2 (Nat.le_of_ble_eq_true rfl) (Nat.le_of_ble_eq_true rfl)
                  · have c46 := hw
                    obtain ⟨hP, hD⟩ := wd_post hFc ht hB
                    generalize H1 = H at hP hS ⊢
                    exact absurd rfl (ao_i c46)
                · have c43i : ¬ (f_X2_isFreeFor S r2 r7).toInt = 0 := neq_v rfl rfl c43
                  refine lv_aload hx hb dX9_run_62 (lv_at hl 0 rfl) ?_
                  refine lv_aload hx hb dX9_run_64 (lv_at hl 1 rfl) ?_
                  have hFc := free_all hD hS hA
                  obtain ⟨k47, gk47, hk47⟩ := wGt (cy := cy) X S o10.1 o10.2.1
                  refine va_calli (va_runV (As := [.ref r2]) (rest := []) ⟨hx, hb, hml, hown, hts⟩ (c_X2_isFreeFor l (cy := cy) (X := X) (D := D) S _ r7 o10 r2 o5) (cwV 1 hts gX9_run_X2_isFreeFor rfl rfl rfl hd_X2_isFreeFor ⟨Nat.le_of_ble_eq_true rfl, Nat.le_of_ble_eq_true rfl⟩) (pV (va_recv hK hP (q := (RX2, TX2, 20)) (ci := 6) (q0 := k47) rfl hk47) hP hK hD hN) rfl rfl hl.1 rfl (lv_room (Nat.le_of_ble_eq_true rfl)) dX9_run_66 ⟨Nat.le_of_ble_eq_true rfl, Nat.le_of_ble_eq_true rfl⟩) hS (fun q _ h => hFc q h) hFc (fun r48 u t H1 locs ht hvm hw hB hz1 hk1 hS => ?_)
                  have c49 := hw
                  obtain ⟨hP, hD⟩ := wd_post hFc ht hB
                  generalize H1 = H at hP hS ⊢
                  obtain rfl : f_X2_isFreeFor S r7 r2 = r48 := c49.symm
                  refine lv_if_eq (tgt := 76) hx hb dX9_run_69 (by decide) (fun c50 => ?_) (fun c50 => ?_)
                  · have c50i : (f_X2_isFreeFor S r7 r2).toInt = 0 := eq_v rfl rfl c50
                    refine lv_iconst (v := 0) hx hb dX9_run_76 (by decide) ?_
                    have l32_0 : (0 : Int32).toInt = 0 := rfl
                    have hFc := free_all hD hS hA
                    refine vx_callv (vx_runS (As := [.int (0 : Int32)]) (rest := []) ⟨hx, hb, hml, hown, hts⟩ (c_X9_allowOnly l hst (cy := cy) (X := X) (D := D) S _ (0 : Int32)) (cwS 1 hts gX9_run_X9_allowOnly rfl rfl rfl hd_X9_allowOnly ⟨Nat.le_of_ble_eq_true rfl, Nat.le_of_ble_eq_true rfl⟩) (pSt hP hK hD hN hTH hS hFc) rfl rfl hl.1 rfl (lv_room (Nat.le_of_ble_eq_true rfl)) dX9_run_77 ⟨Nat.le_of_ble_eq_true rfl, Nat.le_of_ble_eq_true rfl⟩) hS (fun q _ h => hFc q h) hFc (fun q _ h => hFc q h) (fun E ce q9 u t H1 locs ht hvm hw hB hz1 hk1 hS hq9 hce hcl => ?_) (fun u t H1 locs ht hvm hw hB hz1 hk1 hS => ?_)
                    · obtain ⟨c52, hEc52, hB2⟩ := hB
                      obtain ⟨hP, hD⟩ := wd_post hFc ht hB2
                      exact vx_out (fun x h => (hno x h).elim) hlocks hq9 hce hcl (fun t2 ht2 hA2 => ⟨S, t0, ⟨(by show f_X9_run S o1 x1 x2 x3 x4 = .error E; unfold f_X9_run; rw [eB_ok c4, eB_ok c9, eB_ok c13, eB_ok c19, eB_ok c25, if_neg c29, if_neg c36, if_neg c43, if_pos c50, eB_er c52]), (el_in (by decide) hEc52), wd_end hP hK hD ht2 hA2⟩, hS.F ht2⟩) hS.2.2 (Nat.le_of_ble_eq_true rfl) (Nat.le_of_ble_eq_true rfl)
                    · have c53 := hw
                      obtain ⟨hP, hD⟩ := wd_post hFc ht hB
                      generalize H1 = H at hP hS ⊢
                      exact absurd rfl (ao_i c53)
                  · have c50i : ¬ (f_X2_isFreeFor S r7 r2).toInt = 0 := neq_v rfl rfl c50
                    refine lv_iconst (v := 1) hx hb dX9_run_72 (by decide) ?_
                    refine lv_goto (tgt := 77) hx hb dX9_run_73 (by decide) ?_
                    have hFc := free_all hD hS hA
                    refine vx_callv (vx_runS (As := [.int (1 : Int32)]) (rest := []) ⟨hx, hb, hml, hown, hts⟩ (c_X9_allowOnly l hst (cy := cy) (X := X) (D := D) S _ (1 : Int32)) (cwS 1 hts gX9_run_X9_allowOnly rfl rfl rfl hd_X9_allowOnly ⟨Nat.le_of_ble_eq_true rfl, Nat.le_of_ble_eq_true rfl⟩) (pSt hP hK hD hN hTH hS hFc) rfl rfl hl.1 rfl (lv_room (Nat.le_of_ble_eq_true rfl)) dX9_run_77 ⟨Nat.le_of_ble_eq_true rfl, Nat.le_of_ble_eq_true rfl⟩) hS (fun q _ h => hFc q h) hFc (fun q _ h => hFc q h) (fun E ce q9 u t H1 locs ht hvm hw hB hz1 hk1 hS hq9 hce hcl => ?_) (fun u t H1 locs ht hvm hw hB hz1 hk1 hS => ?_)
                    · obtain ⟨c55, hEc55, hB2⟩ := hB
                      obtain ⟨hP, hD⟩ := wd_post hFc ht hB2
                      exact vx_out (fun x h => (hno x h).elim) hlocks hq9 hce hcl (fun t2 ht2 hA2 => ⟨S, t0, ⟨(by show f_X9_run S o1 x1 x2 x3 x4 = .error E; unfold f_X9_run; rw [eB_ok c4, eB_ok c9, eB_ok c13, eB_ok c19, eB_ok c25, if_neg c29, if_neg c36, if_neg c43, if_neg c50, eB_er c55]), (el_in (by decide) hEc55), wd_end hP hK hD ht2 hA2⟩, hS.F ht2⟩) hS.2.2 (Nat.le_of_ble_eq_true rfl) (Nat.le_of_ble_eq_true rfl)
                    · have c56 := hw
                      obtain ⟨hP, hD⟩ := wd_post hFc ht hB
                      generalize H1 = H at hP hS ⊢
                      have i57 := ao_i c56
                      refine lv_aload hx hb dX9_run_80 (lv_at hl 1 rfl) ?_
                      refine lv_iload_n hx hb dX9_run_82 rfl (lv_at hl 5 rfl) ?_
                      refine lv_i2l hx hb dX9_run_83 rfl ?_
                      refine lv_iload hx hb dX9_run_84 (lv_at hl 6 rfl) ?_
                      refine lv_i2l hx hb dX9_run_86 rfl ?_
                      have hFc := free_all hD hS hA
                      obtain ⟨k58, gk58, hk58⟩ := wGt (cy := cy) X S o5.1 o5.2.1
                      refine va_callv (va_runV (As := [.long x3.toInt64, .long x4.toInt64]) (rest := []) ⟨hx, hb, hml, hown, hts⟩ (c_X2_turn l (cy := cy) (X := X) (D := D) S _ r2 o5 x3.toInt64 x4.toInt64 (hW)) (cwV 2 hts gX9_run_X2_turn rfl rfl rfl hd_X2_turn ⟨Nat.le_of_ble_eq_true rfl, Nat.le_of_ble_eq_true rfl⟩) (pV (va_recv hK hP (q := (RX2, TX2, 20)) (ci := 6) (q0 := k58) rfl hk58) hP hK hD hN) rfl rfl hl.1 rfl (lv_room (Nat.le_of_ble_eq_true rfl)) dX9_run_87 ⟨Nat.le_of_ble_eq_true rfl, Nat.le_of_ble_eq_true rfl⟩) hS (fun q _ h => hFc q h) hFc (fun u t H1 locs ht hvm hw hB hz1 hk1 hS => ?_)
                      obtain ⟨c60, w61⟩ := hw
                      obtain ⟨hP, hD⟩ := wd_post hFc ht hB
                      generalize H1 = H at hP hS ⊢
                      obtain ⟨S62, rfl⟩ : ∃ z, z = u := ⟨_, rfl⟩
                      have t63 : stp [(2, 18)] [] [] S S62 := t0.tr w61 (by decide) (fun _ q => absurd q List.not_mem_nil)
                      have xe64 : ext S S62 := w61.x
                      refine lv_aload hx hb dX9_run_90 (lv_at hl 0 rfl) ?_
                      refine lv_iload_n hx hb dX9_run_92 rfl (lv_at hl 5 rfl) ?_
                      refine lv_i2l hx hb dX9_run_93 rfl ?_
                      refine lv_aload hx hb dX9_run_94 (lv_at hl 0 rfl) ?_
                      obtain ⟨k65, gk65, hk65⟩ := wGt (cy := cy) X S62 (xe64.A o10).1 (xe64.A o10).2.1
                      have i66 := ((t63.w.at (xe64.A o10) List.not_mem_nil).to_2 (xe64.A o10).2.1).R1
                      refine va_get (D := D) (ci := 6) (v := .int (S62.I r7 1)) (C := RX2) (T := TX2) (N := 20) hx hb hts hi_X9_run_X2 hown hK hP k65 hk65 rfl 1 (by decide) (hts (.fieldLink RX9 100 "Hobhouse$Gear" "teeth" "I") (by decide +kernel)) (fun _ h9 => h9) rfl dX9_run_96 ?_
                      refine lv_i2l hx hb dX9_run_99 rfl ?_
                      refine lv_lmul hx hb dX9_run_100 ?_
                      refine lv_aload hx hb dX9_run_101 (lv_at hl 1 rfl) ?_
                      obtain ⟨k67, gk67, hk67⟩ := wGt (cy := cy) X S62 (xe64.A o5).1 (xe64.A o5).2.1
                      have i68 := ((t63.w.at (xe64.A o5) List.not_mem_nil).to_2 (xe64.A o5).2.1).R1
                      refine va_get (D := D) (ci := 6) (v := .int (S62.I r2 1)) (C := RX2) (T := TX2) (N := 20) hx hb hts hi_X9_run_X2 hown hK hP k67 hk67 rfl 1 (by decide) (hts (.fieldLink RX9 100 "Hobhouse$Gear" "teeth" "I") (by decide +kernel)) (fun _ h9 => h9) rfl dX9_run_103 ?_
                      refine lv_i2l hx hb dX9_run_106 rfl ?_
                      refine lv_ldiv hx hb dX9_run_107 (nz_l (by omega)) ?_
                      refine lv_iload hx hb dX9_run_108 (lv_at hl 6 rfl) ?_
                      refine lv_i2l hx hb dX9_run_110 rfl ?_
                      refine lv_aload hx hb dX9_run_111 (lv_at hl 1 rfl) ?_
                      obtain ⟨k69, gk69, hk69⟩ := wGt (cy := cy) X S62 (xe64.A o5).1 (xe64.A o5).2.1
                      refine va_get (D := D) (ci := 6) (v := .int (S62.I r2 1)) (C := RX2) (T := TX2) (N := 20) hx hb hts hi_X9_run_X2 hown hK hP k69 hk69 rfl 1 (by decide) (hts (.fieldLink RX9 100 "Hobhouse$Gear" "teeth" "I") (by decide +kernel)) (fun _ h9 => h9) rfl dX9_run_113 ?_
                      refine lv_i2l hx hb dX9_run_116 rfl ?_
                      refine lv_lmul hx hb dX9_run_117 ?_
                      refine lv_aload hx hb dX9_run_118 (lv_at hl 0 rfl) ?_
                      obtain ⟨k70, gk70, hk70⟩ := wGt (cy := cy) X S62 (xe64.A o10).1 (xe64.A o10).2.1
                      refine va_get (D := D) (ci := 6) (v := .int (S62.I r7 1)) (C := RX2) (T := TX2) (N := 20) hx hb hts hi_X9_run_X2 hown hK hP k70 hk70 rfl 1 (by decide) (hts (.fieldLink RX9 100 "Hobhouse$Gear" "teeth" "I") (by decide +kernel)) (fun _ h9 => h9) rfl dX9_run_120 ?_
                      refine lv_i2l hx hb dX9_run_123 rfl ?_
                      refine lv_ldiv hx hb dX9_run_124 (nz_l (by omega)) ?_
                      have hFc := free_all hD hS hA
                      obtain ⟨k71, gk71, hk71⟩ := wGt (cy := cy) X S62 (xe64.A o10).1 (xe64.A o10).2.1
                      refine va_callv (va_runV (As := [.long ((x3.toInt64 * ((S62.I r7 1).toInt64)) / ((S62.I r2 1).toInt64)), .long ((x4.toInt64 * ((S62.I r2 1).toInt64)) / ((S62.I r7 1).toInt64))]) (rest := []) ⟨hx, hb, hml, hown, hts⟩ (c_X2_turn l (cy := cy) (X := X) (D := D) S62 _ r7 (xe64.A o10) ((x3.toInt64 * ((S62.I r7 1).toInt64)) / ((S62.I r2 1).toInt64)) ((x4.toInt64 * ((S62.I r2 1).toInt64)) / ((S62.I r7 1).toInt64)) (t63.w)) (cwV 2 hts gX9_run_X2_turn rfl rfl rfl hd_X2_turn ⟨Nat.le_of_ble_eq_true rfl, Nat.le_of_ble_eq_true rfl⟩) (pV (va_recv hK hP (q := (RX2, TX2, 20)) (ci := 6) (q0 := k71) rfl hk71) hP hK hD hN) rfl rfl hl.1 rfl (lv_room (Nat.le_of_ble_eq_true rfl)) dX9_run_125 ⟨Nat.le_of_ble_eq_true rfl, Nat.le_of_ble_eq_true rfl⟩) hS (fun q _ h => hFc q h) hFc (fun u t H1 locs ht hvm hw hB hz1 hk1 hS => ?_)
                      obtain ⟨c73, w74⟩ := hw
                      obtain ⟨hP, hD⟩ := wd_post hFc ht hB
                      generalize H1 = H at hP hS ⊢
                      obtain ⟨S75, rfl⟩ : ∃ z, z = u := ⟨_, rfl⟩
                      have t76 : stp [(2, 18)] [] [] S S75 := t63.tr w74 (by decide) (fun _ q => absurd q List.not_mem_nil)
                      have xe77 : ext S62 S75 := w74.x
                      refine lv_aload hx hb dX9_run_128 (lv_at hl 1 rfl) ?_
                      have hFc := free_all hD hS hA
                      obtain ⟨k78, gk78, hk78⟩ := wGt (cy := cy) X S75 (xe77.A (xe64.A o5)).1 (xe77.A (xe64.A o5)).2.1
                      refine va_calli (va_runV (As := []) (rest := []) ⟨hx, hb, hml, hown, hts⟩ (c_X2_isBroken l (cy := cy) (X := X) (D := D) S75 _ r2 (xe77.A (xe64.A o5))) (cwV 0 hts gX9_run_X2_isBroken rfl rfl rfl hd_X2_isBroken ⟨Nat.le_of_ble_eq_true rfl, Nat.le_of_ble_eq_true rfl⟩) (pV (va_recv hK hP (q := (RX2, TX2, 20)) (ci := 6) (q0 := k78) rfl hk78) hP hK hD hN) rfl rfl hl.1 rfl (lv_room (Nat.le_of_ble_eq_true rfl)) dX9_run_130 ⟨Nat.le_of_ble_eq_true rfl, Nat.le_of_ble_eq_true rfl⟩) hS (fun q _ h => hFc q h) hFc (fun r79 u t H1 locs ht hvm hw hB hz1 hk1 hS => ?_)
                      have c80 := hw
                      obtain ⟨hP, hD⟩ := wd_post hFc ht hB
                      generalize H1 = H at hP hS ⊢
                      obtain rfl : f_X2_isBroken S75 r2 = r79 := c80.symm
                      refine lv_if_eq (tgt := 140) hx hb dX9_run_133 (by decide) (fun c81 => ?_) (fun c81 => ?_)
                      · have c81i : (f_X2_isBroken S75 r2).toInt = 0 := eq_v rfl rfl c81
                        refine lv_iconst (v := 0) hx hb dX9_run_140 (by decide) ?_
                        refine lv_aload hx hb dX9_run_141 (lv_at hl 0 rfl) ?_
                        have hFc := free_all hD hS hA
                        obtain ⟨k82, gk82, hk82⟩ := wGt (cy := cy) X S75 (xe77.A (xe64.A o10)).1 (xe77.A (xe64.A o10)).2.1
                        refine va_calli (va_runV (As := []) (rest := [.int (0 : Int32)]) ⟨hx, hb, hml, hown, hts⟩ (c_X2_isBroken l (cy := cy) (X := X) (D := D) S75 _ r7 (xe77.A (xe64.A o10))) (cwV 0 hts gX9_run_X2_isBroken rfl rfl rfl hd_X2_isBroken ⟨Nat.le_of_ble_eq_true rfl, Nat.le_of_ble_eq_true rfl⟩) (pV (va_recv hK hP (q := (RX2, TX2, 20)) (ci := 6) (q0 := k82) rfl hk82) hP hK hD hN) rfl rfl hl.1 rfl (lv_room (Nat.le_of_ble_eq_true rfl)) dX9_run_143 ⟨Nat.le_of_ble_eq_true rfl, Nat.le_of_ble_eq_true rfl⟩) hS (fun q _ h => hFc q h) hFc (fun r83 u t H1 locs ht hvm hw hB hz1 hk1 hS => ?_)
                        have c84 := hw
                        obtain ⟨hP, hD⟩ := wd_post hFc ht hB
                        generalize H1 = H at hP hS ⊢
                        obtain rfl : f_X2_isBroken S75 r7 = r83 := c84.symm
                        refine lv_if_eq (tgt := 153) hx hb dX9_run_146 (by decide) (fun c85 => ?_) (fun c85 => ?_)
                        · have c85i : (f_X2_isBroken S75 r7).toInt = 0 := eq_v rfl rfl c85
                          refine lv_iconst (v := 0) hx hb dX9_run_153 (by decide) ?_
                          refine lv_iadd hx hb dX9_run_154 ?_
                          refine vx_ret ?_
                          refine W.widen (k := 6) (n := 36) (Nat.le_of_ble_eq_true rfl) (Nat.le_of_ble_eq_true rfl) ?_
                          exact W.iret (v := (0 : Int32) + (0 : Int32)) hx hb hr (fun t ht hW9 => ⟨⟨(0 : Int32) + (0 : Int32), S75, rfl, ⟨(by show f_X9_run S o1 x1 x2 x3 x4 = .ok ((0 : Int32) + (0 : Int32), S75); unfold f_X9_run; rw [eB_ok c4, eB_ok c9, eB_ok c13, eB_ok c19, eB_ok c25, if_neg c29, if_neg c36, if_neg c43, if_neg c50, eB_ok c56, l1_eq c60.symm, l1_eq c73.symm, if_pos c81, if_pos c85]), t76⟩, wd_end hP hK hD ht hW9.alike⟩, hS.F ht⟩) hS.2.2 dX9_run_155 hlocks
                        · have c85i : ¬ (f_X2_isBroken S75 r7).toInt = 0 := neq_v rfl rfl c85
                          refine lv_iconst (v := 1) hx hb dX9_run_149 (by decide) ?_
                          refine lv_goto (tgt := 154) hx hb dX9_run_150 (by decide) ?_
                          refine lv_iadd hx hb dX9_run_154 ?_
                          refine vx_ret ?_
                          refine W.widen (k := 6) (n := 36) (Nat.le_of_ble_eq_true rfl) (Nat.le_of_ble_eq_true rfl) ?_
                          exact W.iret (v := (0 : Int32) + (1 : Int32)) hx hb hr (fun t ht hW9 => ⟨⟨(0 : Int32) + (1 : Int32), S75, rfl, ⟨(by show f_X9_run S o1 x1 x2 x3 x4 = .ok ((0 : Int32) + (1 : Int32), S75); unfold f_X9_run; rw [eB_ok c4, eB_ok c9, eB_ok c13, eB_ok c19, eB_ok c25, if_neg c29, if_neg c36, if_neg c43, if_neg c50, eB_ok c56, l1_eq c60.symm, l1_eq c73.symm, if_pos c81, if_neg c85]), t76⟩, wd_end hP hK hD ht hW9.alike⟩, hS.F ht⟩) hS.2.2 dX9_run_155 hlocks
                      · have c81i : ¬ (f_X2_isBroken S75 r2).toInt = 0 := neq_v rfl rfl c81
                        refine lv_iconst (v := 1) hx hb dX9_run_136 (by decide) ?_
                        refine lv_goto (tgt := 141) hx hb dX9_run_137 (by decide) ?_
                        refine lv_aload hx hb dX9_run_141 (lv_at hl 0 rfl) ?_
                        have hFc := free_all hD hS hA
                        obtain ⟨k86, gk86, hk86⟩ := wGt (cy := cy) X S75 (xe77.A (xe64.A o10)).1 (xe77.A (xe64.A o10)).2.1
                        refine va_calli (va_runV (As := []) (rest := [.int (1 : Int32)]) ⟨hx, hb, hml, hown, hts⟩ (c_X2_isBroken l (cy := cy) (X := X) (D := D) S75 _ r7 (xe77.A (xe64.A o10))) (cwV 0 hts gX9_run_X2_isBroken rfl rfl rfl hd_X2_isBroken ⟨Nat.le_of_ble_eq_true rfl, Nat.le_of_ble_eq_true rfl⟩) (pV (va_recv hK hP (q := (RX2, TX2, 20)) (ci := 6) (q0 := k86) rfl hk86) hP hK hD hN) rfl rfl hl.1 rfl (lv_room (Nat.le_of_ble_eq_true rfl)) dX9_run_143 ⟨Nat.le_of_ble_eq_true rfl, Nat.le_of_ble_eq_true rfl⟩) hS (fun q _ h => hFc q h) hFc (fun r87 u t H1 locs ht hvm hw hB hz1 hk1 hS => ?_)
                        have c88 := hw
                        obtain ⟨hP, hD⟩ := wd_post hFc ht hB
                        generalize H1 = H at hP hS ⊢
                        obtain rfl : f_X2_isBroken S75 r7 = r87 := c88.symm
                        refine lv_if_eq (tgt := 153) hx hb dX9_run_146 (by decide) (fun c89 => ?_) (fun c89 => ?_)
                        · have c89i : (f_X2_isBroken S75 r7).toInt = 0 := eq_v rfl rfl c89
                          refine lv_iconst (v := 0) hx hb dX9_run_153 (by decide) ?_
                          refine lv_iadd hx hb dX9_run_154 ?_
                          refine vx_ret ?_
                          refine W.widen (k := 6) (n := 36) (Nat.le_of_ble_eq_true rfl) (Nat.le_of_ble_eq_true rfl) ?_
                          exact W.iret (v := (1 : Int32) + (0 : Int32)) hx hb hr (fun t ht hW9 => ⟨⟨(1 : Int32) + (0 : Int32), S75, rfl, ⟨(by show f_X9_run S o1 x1 x2 x3 x4 = .ok ((1 : Int32) + (0 : Int32), S75); unfold f_X9_run; rw [eB_ok c4, eB_ok c9, eB_ok c13, eB_ok c19, eB_ok c25, if_neg c29, if_neg c36, if_neg c43, if_neg c50, eB_ok c56, l1_eq c60.symm, l1_eq c73.symm, if_neg c81, if_pos c89]), t76⟩, wd_end hP hK hD ht hW9.alike⟩, hS.F ht⟩) hS.2.2 dX9_run_155 hlocks
                        · have c89i : ¬ (f_X2_isBroken S75 r7).toInt = 0 := neq_v rfl rfl c89
                          refine lv_iconst (v := 1) hx hb dX9_run_149 (by decide) ?_
                          refine lv_goto (tgt := 154) hx hb dX9_run_150 (by decide) ?_
                          refine lv_iadd hx hb dX9_run_154 ?_
                          refine vx_ret ?_
                          refine W.widen (k := 6) (n := 36) (Nat.le_of_ble_eq_true rfl) (Nat.le_of_ble_eq_true rfl) ?_
                          exact W.iret (v := (1 : Int32) + (1 : Int32)) hx hb hr (fun t ht hW9 => ⟨⟨(1 : Int32) + (1 : Int32), S75, rfl, ⟨(by show f_X9_run S o1 x1 x2 x3 x4 = .ok ((1 : Int32) + (1 : Int32), S75); unfold f_X9_run; rw [eB_ok c4, eB_ok c9, eB_ok c13, eB_ok c19, eB_ok c25, if_neg c29, if_neg c36, if_neg c43, if_neg c50, eB_ok c56, l1_eq c60.symm, l1_eq c73.symm, if_neg c81, if_neg c89]), t76⟩, wd_end hP hK hD ht hW9.alike⟩, hS.F ht⟩) hS.2.2 dX9_run_155 hlocks
def f_X9_isMatedRightly (S : wPS) (o1 : Nat) (o2 : Nat) : Int32 := if (S.I o2 19) = (-1 : Int32) then (1 : Int32) else if (S.I o2 19) < (0 : Int32) then (0 : Int32) else if (S.I o2 19) < (S.I o1 1) then if (some o2 : Option Nat) = some (S.q (S.f o1 0) (S.I o2 19).toNatClampNeg) then (0 : Int32) else if (S.I (S.q (S.f o1 0) (S.I o2 19).toNatClampNeg) 19) = (S.I o2 0) then if (S.I o2 9) = (0 : Int32) then (0 : Int32) else if (f_X2_pairsWith S o2 (S.q (S.f o1 0) (S.I o2 19).toNatClampNeg)) = (0 : Int32) then (0 : Int32) else (1 : Int32) else (0 : Int32) else (0 : Int32)
theorem f_X9_isMatedRightly_b (S : wPS) (o1 : Nat) (o2 : Nat) : narrow .boolean (.int (f_X9_isMatedRightly S o1 o2)) = .int (f_X9_isMatedRightly S o1 o2) := by
  unfold f_X9_isMatedRightly; (repeat' split) <;> rfl
theorem hi_X9_isMatedRightly_X2 : ∀ w ∈ u_ws RX2 TX2 20, w ∈ wsX9_isMatedRightly := by decide +kernel
theorem hi_X9_isMatedRightly_X9 : ∀ w ∈ u_ws RX9 TX9 11, w ∈ wsX9_isMatedRightly := by decide +kernel
theorem hd_X9_isMatedRightly : yX9_isMatedRightly.cls = RX9 ∧ yX9_isMatedRightly.cls ≠ "java/lang/invoke/MethodHandle" ∧ yX9_isMatedRightly.cls ≠ "java/lang/invoke/VarHandle" ∧ (parseMethodDescriptor yX9_isMatedRightly.desc).map (fun d => d.parameters.length) = some 1 := by decide +kernel
set_option maxHeartbeats 4000000 in
set_option maxRecDepth 100000 in
theorem c_X9_isMatedRightly (l : Launch) {D : va_G} {cy : Nat → ClassId} {X : va_W} (S : wPS) (sz : Nat) (o1 : Nat) (h_o1 : isA S o1 9) (o2 : Nat) (h_o2 : isA S o2 2) (hW : wtB S [])  : Met l yX9_isMatedRightly wsX9_isMatedRightly ({ frames := 1, cells := 0, slots := 0, locals := 21 }) (va_Pc [.ref o1, .ref o2] (fun U => U.heap.size = sz ∧ WD D cy X (fun _ => True) S U ∧ NW U)) (va_Qi (fun r (_ : Unit) => r = f_X9_isMatedRightly S o1 o2) (fun _ t => WD D cy X (va_A (X ++ PL cy S) sz) S t) (va_A (X ++ PL cy S) sz)) 0 0 (va_A (X ++ PL cy S) sz) := by
  refine Met.ofW (cc := cX9_isMatedRightly) (maxL := 3) (ret := (some .boolean)) (by decide) rfl ?_
  intro p e s m args below meth c s₁ B hml hv
  obtain ⟨rfl, hsz, ⟨hP, hK, hD0⟩, hN⟩ := hv
  have hx := B.exec
  have hb := B.bytes
  have hr := B.returns
  have hts := atoms_spec (ws := wsX9_isMatedRightly) B.pre
  have hown : s.vm.findClass RX9 = some m.cls := findClass_of_methodNamed (x := yX9_isMatedRightly) B.named
  have hlocks := B.notSynchronized
  subst hsz
  have hD := hD0.self (sz := s.heap.size)
  generalize hAe : va_A (X ++ PL cy S) s.heap.size = A at hD ⊢
  have hA : ∀ q : Nat, s.heap.size ≤ q → A q := fun q h => by rw [← hAe]; exact Or.inr h
  have hS : va_S A s.heap s.heap [] := va_S.rf
  have hl := lv_entry ([.ref o1, .ref o2]) (n := 3) (Nat.le_of_ble_eq_true rfl)
  rw [lg_entry_eq]
  generalize (lg_sl ([.ref o1, .ref o2]) ++ List.replicate (3 - (lg_sl ([.ref o1, .ref o2])).length) Slot.unset).toArray = ls at hl ⊢
  have hl : lv_has ls 3 [(0, .ref o1), (1, .ref o2)] := hl
  refine lv_aload_n hx hb dX9_isMatedRightly_0 rfl (lv_at hl 1 rfl) ?_
  obtain ⟨k1, gk1, hk1⟩ := wGt (cy := cy) X S h_o2.1 h_o2.2.1
  refine va_get (D := D) (ci := 6) (v := .int (S.I o2 19)) (C := RX2) (T := TX2) (N := 20) hx hb hts hi_X9_isMatedRightly_X2 hown hK hP k1 hk1 rfl 19 (by decide) (hts (.fieldLink RX9 396 "Hobhouse$Gear" "mateNumber" "I") (by decide +kernel)) (fun _ h9 => h9) rfl dX9_isMatedRightly_1 ?_
  refine lv_iconst (v := -1) hx hb dX9_isMatedRightly_4 (by decide) ?_
  refine lv_icmp_ne (tgt := 10) hx hb dX9_isMatedRightly_5 (by decide) (fun c2 => ?_) (fun c2 => ?_)
  · have c2i : ¬ (S.I o2 19).toInt = -1 := neq_v rfl rfl c2
    refine lv_aload_n hx hb dX9_isMatedRightly_10 rfl (lv_at hl 1 rfl) ?_
    obtain ⟨k3, gk3, hk3⟩ := wGt (cy := cy) X S h_o2.1 h_o2.2.1
    refine va_get (D := D) (ci := 6) (v := .int (S.I o2 19)) (C := RX2) (T := TX2) (N := 20) hx hb hts hi_X9_isMatedRightly_X2 hown hK hP k3 hk3 rfl 19 (by decide) (hts (.fieldLink RX9 396 "Hobhouse$Gear" "mateNumber" "I") (by decide +kernel)) (fun _ h9 => h9) rfl dX9_isMatedRightly_11 ?_
    refine lv_if_lt (tgt := 28) hx hb dX9_isMatedRightly_14 (by decide) (fun c4 => ?_) (fun c4 => ?_)
    · have c4i : (S.I o2 19).toInt < 0 := lt_v rfl rfl c4
      refine lv_iconst (v := 0) hx hb dX9_isMatedRightly_28 (by decide) ?_
      refine W.widen (k := 0) (n := 0) (Nat.le_of_ble_eq_true rfl) (Nat.le_of_ble_eq_true rfl) ?_
      exact W.zret (v := (0 : Int32)) hx hb hr (by rfl) (fun t ht hW9 => ⟨⟨(0 : Int32), (), rfl, (by show (0 : Int32) = f_X9_isMatedRightly S o1 o2; unfold f_X9_isMatedRightly; rw [if_neg c2, if_pos c4]), wd_end hP hK hD ht hW9.alike⟩, hS.F ht⟩) hS.2.2 dX9_isMatedRightly_29 hlocks
    · have c4i : 0 ≤ (S.I o2 19).toInt := nlt_v rfl rfl c4
      refine lv_aload_n hx hb dX9_isMatedRightly_17 rfl (lv_at hl 1 rfl) ?_
      obtain ⟨k5, gk5, hk5⟩ := wGt (cy := cy) X S h_o2.1 h_o2.2.1
      refine va_get (D := D) (ci := 6) (v := .int (S.I o2 19)) (C := RX2) (T := TX2) (N := 20) hx hb hts hi_X9_isMatedRightly_X2 hown hK hP k5 hk5 rfl 19 (by decide) (hts (.fieldLink RX9 396 "Hobhouse$Gear" "mateNumber" "I") (by decide +kernel)) (fun _ h9 => h9) rfl dX9_isMatedRightly_18 ?_
      refine lv_aload_n hx hb dX9_isMatedRightly_21 rfl (lv_at hl 0 rfl) ?_
      obtain ⟨k6, gk6, hk6⟩ := wGt (cy := cy) X S h_o1.1 h_o1.2.1
      have i7 := ((hW.at h_o1 List.not_mem_nil).to_9 h_o1.2.1).R1
      refine va_get (D := D) (ci := 13) (v := .int (S.I o1 1)) (C := RX9) (T := TX9) (N := 11) hx hb hts hi_X9_isMatedRightly_X9 hown hK hP k6 hk6 rfl 1 (by decide) (hts (.fieldLink RX9 64 "Hobhouse" "gearCount" "I") (by decide +kernel)) (fun _ h9 => h9) rfl dX9_isMatedRightly_22 ?_
      refine lv_icmp_lt (tgt := 30) hx hb dX9_isMatedRightly_25 (by decide) (fun c8 => ?_) (fun c8 => ?_)
      · have c8i : (S.I o2 19).toInt < (S.I o1 1).toInt := lt_v rfl rfl c8
        refine lv_aload_n hx hb dX9_isMatedRightly_30 rfl (lv_at hl 0 rfl) ?_
        have F9 := ((hW.at h_o1 List.not_mem_nil).to_9 h_o1.2.1).F0
        obtain ⟨k10, gk10, hk10⟩ := wGt (cy := cy) X S h_o1.1 h_o1.2.1
        simp only [kE, F9.1] at hk10
        refine va_get (D := D) (ci := 13) (v := .ref (S.f o1 0)) (C := RX9) (T := TX9) (N := 11) hx hb hts hi_X9_isMatedRightly_X9 hown hK hP k10 hk10 rfl 0 (by decide) (hts (.fieldLink RX9 11 "Hobhouse" "gears" "[LHobhouse$Gear;") (by decide +kernel)) (fun _ h9 => h9) rfl dX9_isMatedRightly_31 ?_
        refine lv_aload_n hx hb dX9_isMatedRightly_34 rfl (lv_at hl 1 rfl) ?_
        obtain ⟨k11, gk11, hk11⟩ := wGt (cy := cy) X S h_o2.1 h_o2.2.1
        refine va_get (D := D) (ci := 6) (v := .int (S.I o2 19)) (C := RX2) (T := TX2) (N := 20) hx hb hts hi_X9_isMatedRightly_X2 hown hK hP k11 hk11 rfl 19 (by decide) (hts (.fieldLink RX9 396 "Hobhouse$Gear" "mateNumber" "I") (by decide +kernel)) (fun _ h9 => h9) rfl dX9_isMatedRightly_35 ?_
        obtain ⟨k12, gk12, hk12⟩ := wGt (cy := cy) X S F9.2.1.1 F9.2.1.2.1
        have i14 := cl_int (i := S.I o2 19) (by omega)
        have g13 := elq (by have h9 := ((hW.at h_o1 List.not_mem_nil).to_9 h_o1.2.1).E0 (S.I o2 19).toNatClampNeg (by omega); rw [f_of F9.1] at h9; exact h9)
        refine va_aldq hx hb hK hP k12 4 hk12 rfl (inb (m := 20) F9.2.2 (by omega) (by omega)) dX9_isMatedRightly_38 ?_
        rw [g13.1]
        refine W.eq (g2 := F0 m 39 ls [.ref (S.q (S.f o1 0) (S.I o2 19).toNatClampNeg)]) rfl ?_
        refine lv_astore_n (lv' := [(2, .ref (S.q (S.f o1 0) (S.I o2 19).toNatClampNeg)), (0, .ref o1), (1, .ref o2)]) hx hb dX9_isMatedRightly_39 rfl hl (by decide) rfl (fun ls hl => ?_)
        refine lv_aload_n hx hb dX9_isMatedRightly_40 rfl (lv_at hl 2 rfl) ?_
        refine lv_aload_n hx hb dX9_isMatedRightly_41 rfl (lv_at hl 0 rfl) ?_
        refine lv_acmp_eq (rx := some o2) (ry := some (S.q (S.f o1 0) (S.I o2 19).toNatClampNeg)) (tgt := 75) hx hb dX9_isMatedRightly_42 (by decide) (fun c15 => ?_) (fun c15 => ?_)
        · refine lv_iconst (v := 0) hx hb dX9_isMatedRightly_75 (by decide) ?_
          refine W.widen (k := 0) (n := 0) (Nat.le_of_ble_eq_true rfl) (Nat.le_of_ble_eq_true rfl) ?_
          exact W.zret (v := (0 : Int32)) hx hb hr (by rfl) (fun t ht hW9 => ⟨⟨(0 : Int32), (), rfl, (by show (0 : Int32) = f_X9_isMatedRightly S o1 o2; unfold f_X9_isMatedRightly; rw [if_neg c2, if_neg c4, if_pos c8, if_pos c15]), wd_end hP hK hD ht hW9.alike⟩, hS.F ht⟩) hS.2.2 dX9_isMatedRightly_76 hlocks
        · refine lv_aload_n hx hb dX9_isMatedRightly_45 rfl (lv_at hl 0 rfl) ?_
          obtain ⟨k16, gk16, hk16⟩ := wGt (cy := cy) X S g13.2.1 g13.2.2.1
          refine va_get (D := D) (ci := 6) (v := .int (S.I (S.q (S.f o1 0) (S.I o2 19).toNatClampNeg) 19)) (C := RX2) (T := TX2) (N := 20) hx hb hts hi_X9_isMatedRightly_X2 hown hK hP k16 hk16 rfl 19 (by decide) (hts (.fieldLink RX9 396 "Hobhouse$Gear" "mateNumber" "I") (by decide +kernel)) (fun _ h9 => h9) rfl dX9_isMatedRightly_46 ?_
          refine lv_aload_n hx hb dX9_isMatedRightly_49 rfl (lv_at hl 2 rfl) ?_
          obtain ⟨k17, gk17, hk17⟩ := wGt (cy := cy) X S h_o2.1 h_o2.2.1
          refine va_get (D := D) (ci := 6) (v := .int (S.I o2 0)) (C := RX2) (T := TX2) (N := 20) hx hb hts hi_X9_isMatedRightly_X2 hown hK hP k17 hk17 rfl 0 (by decide) (hts (.fieldLink RX9 419 "Hobhouse$Gear" "number" "I") (by decide +kernel)) (fun _ h9 => h9) rfl dX9_isMatedRightly_50 ?_
          refine lv_icmp_ne (tgt := 75) hx hb dX9_isMatedRightly_53 (by decide) (fun c18 => ?_) (fun c18 => ?_)
          · have c18i : ¬ (S.I (S.q (S.f o1 0) (S.I o2 19).toNatClampNeg) 19).toInt = (S.I o2 0).toInt := neq_v rfl rfl c18
            refine lv_iconst (v := 0) hx hb dX9_isMatedRightly_75 (by decide) ?_
            refine W.widen (k := 0) (n := 0) (Nat.le_of_ble_eq_true rfl) (Nat.le_of_ble_eq_true rfl) ?_
            exact W.zret (v := (0 : Int32)) hx hb hr (by rfl) (fun t ht hW9 => ⟨⟨(0 : Int32), (), rfl, (by show (0 : Int32) = f_X9_isMatedRightly S o1 o2; unfold f_X9_isMatedRightly; rw [if_neg c2, if_neg c4, if_pos c8, if_neg c15, if_neg c18]), wd_end hP hK hD ht hW9.alike⟩, hS.F ht⟩) hS.2.2 dX9_isMatedRightly_76 hlocks
          · have c18i : (S.I (S.q (S.f o1 0) (S.I o2 19).toNatClampNeg) 19).toInt = (S.I o2 0).toInt := eq_v rfl rfl c18
            refine lv_aload_n hx hb dX9_isMatedRightly_56 rfl (lv_at hl 2 rfl) ?_
            obtain ⟨k19, gk19, hk19⟩ := wGt (cy := cy) X S h_o2.1 h_o2.2.1
            have i20 := ((hW.at h_o2 List.not_mem_nil).to_2 h_o2.2.1).R9
            refine va_get (D := D) (ci := 6) (v := .int (S.I o2 9)) (C := RX2) (T := TX2) (N := 20) hx hb hts hi_X9_isMatedRightly_X2 hown hK hP k19 hk19 rfl 9 (by decide) (hts (.fieldLink RX9 81 "Hobhouse$Gear" "isCut" "Z") (by decide +kernel)) (fun _ h9 => h9) rfl dX9_isMatedRightly_57 ?_
            refine lv_if_eq (tgt := 75) hx hb dX9_isMatedRightly_60 (by decide) (fun c21 => ?_) (fun c21 => ?_)
            · have c21i : (S.I o2 9).toInt = 0 := eq_v rfl rfl c21
              refine lv_iconst (v := 0) hx hb dX9_isMatedRightly_75 (by decide) ?_
              refine W.widen (k := 0) (n := 0) (Nat.le_of_ble_eq_true rfl) (Nat.le_of_ble_eq_true rfl) ?_
              exact W.zret (v := (0 : Int32)) hx hb hr (by rfl) (fun t ht hW9 => ⟨⟨(0 : Int32), (), rfl, (by show (0 : Int32) = f_X9_isMatedRightly S o1 o2; unfold f_X9_isMatedRightly; rw [if_neg c2, if_neg c4, if_pos c8, if_neg c15, if_pos c18, if_pos c21]), wd_end hP hK hD ht hW9.alike⟩, hS.F ht⟩) hS.2.2 dX9_isMatedRightly_76 hlocks
            · have c21i : ¬ (S.I o2 9).toInt = 0 := neq_v rfl rfl c21
              refine lv_aload_n hx hb dX9_isMatedRightly_63 rfl (lv_at hl 2 rfl) ?_
              refine lv_aload_n hx hb dX9_isMatedRightly_64 rfl (lv_at hl 0 rfl) ?_
              have hFc := free_all hD hS hA
              obtain ⟨k22, gk22, hk22⟩ := wGt (cy := cy) X S h_o2.1 h_o2.2.1
              refine va_calli (va_runV (As := [.ref (S.q (S.f o1 0) (S.I o2 19).toNatClampNeg)]) (rest := []) ⟨hx, hb, hml, hown, hts⟩ (c_X2_pairsWith l (cy := cy) (X := X) (D := D) S _ o2 h_o2 (S.q (S.f o1 0) (S.I o2 19).toNatClampNeg) g13.2) (cwV 1 hts gX9_isMatedRightly_X2_pairsWith rfl rfl rfl hd_X2_pairsWith ⟨Nat.le_of_ble_eq_true rfl, Nat.le_of_ble_eq_true rfl⟩) (pV (va_recv hK hP (q := (RX2, TX2, 20)) (ci := 6) (q0 := k22) rfl hk22) hP hK hD hN) rfl rfl hl.1 rfl (lv_room (Nat.le_of_ble_eq_true rfl)) dX9_isMatedRightly_65 ⟨(Nat.zero_le _), (Nat.zero_le _)⟩) hS (fun q _ h => hFc q h) hFc (fun r23 u t H1 locs ht hvm hw hB hz1 hk1 hS => ?_)
              have c24 := hw
              obtain ⟨hP, hD⟩ := wd_post hFc ht hB
              generalize H1 = H at hP hS ⊢
              obtain rfl : f_X2_pairsWith S o2 (S.q (S.f o1 0) (S.I o2 19).toNatClampNeg) = r23 := c24.symm
              refine lv_if_eq (tgt := 75) hx hb dX9_isMatedRightly_68 (by decide) (fun c25 => ?_) (fun c25 => ?_)
              · have c25i : (f_X2_pairsWith S o2 (S.q (S.f o1 0) (S.I o2 19).toNatClampNeg)).toInt = 0 := eq_v rfl rfl c25
                refine lv_iconst (v := 0) hx hb dX9_isMatedRightly_75 (by decide) ?_
                refine W.widen (k := 0) (n := 0) (Nat.le_of_ble_eq_true rfl) (Nat.le_of_ble_eq_true rfl) ?_
                exact W.zret (v := (0 : Int32)) hx hb hr (by rfl) (fun t ht hW9 => ⟨⟨(0 : Int32), (), rfl, (by show (0 : Int32) = f_X9_isMatedRightly S o1 o2; unfold f_X9_isMatedRightly; rw [if_neg c2, if_neg c4, if_pos c8, if_neg c15, if_pos c18, if_neg c21, if_pos c25]), wd_end hP hK hD ht hW9.alike⟩, hS.F ht⟩) hS.2.2 dX9_isMatedRightly_76 hlocks
              · have c25i : ¬ (f_X2_pairsWith S o2 (S.q (S.f o1 0) (S.I o2 19).toNatClampNeg)).toInt = 0 := neq_v rfl rfl c25
                refine lv_iconst (v := 1) hx hb dX9_isMatedRightly_71 (by decide) ?_
                refine lv_goto (tgt := 76) hx hb dX9_isMatedRightly_72 (by decide) ?_
                refine W.widen (k := 0) (n := 0) (Nat.le_of_ble_eq_true rfl) (Nat.le_of_ble_eq_true rfl) ?_
                exact W.zret (v := (1 : Int32)) hx hb hr (by rfl) (fun t ht hW9 => ⟨⟨(1 : Int32), (), rfl, (by show (1 : Int32) = f_X9_isMatedRightly S o1 o2; unfold f_X9_isMatedRightly; rw [if_neg c2, if_neg c4, if_pos c8, if_neg c15, if_pos c18, if_neg c21, if_neg c25]), wd_end hP hK hD ht hW9.alike⟩, hS.F ht⟩) hS.2.2 dX9_isMatedRightly_76 hlocks
      · have c8i : (S.I o1 1).toInt ≤ (S.I o2 19).toInt := nlt_v rfl rfl c8
        refine lv_iconst (v := 0) hx hb dX9_isMatedRightly_28 (by decide) ?_
        refine W.widen (k := 0) (n := 0) (Nat.le_of_ble_eq_true rfl) (Nat.le_of_ble_eq_true rfl) ?_
        exact W.zret (v := (0 : Int32)) hx hb hr (by rfl) (fun t ht hW9 => ⟨⟨(0 : Int32), (), rfl, (by show (0 : Int32) = f_X9_isMatedRightly S o1 o2; unfold f_X9_isMatedRightly; rw [if_neg c2, if_neg c4, if_neg c8]), wd_end hP hK hD ht hW9.alike⟩, hS.F ht⟩) hS.2.2 dX9_isMatedRightly_29 hlocks
  · have c2i : (S.I o2 19).toInt = -1 := eq_v rfl rfl c2
    refine lv_iconst (v := 1) hx hb dX9_isMatedRightly_8 (by decide) ?_
    refine W.widen (k := 0) (n := 0) (Nat.le_of_ble_eq_true rfl) (Nat.le_of_ble_eq_true rfl) ?_
    exact W.zret (v := (1 : Int32)) hx hb hr (by rfl) (fun t ht hW9 => ⟨⟨(1 : Int32), (), rfl, (by show (1 : Int32) = f_X9_isMatedRightly S o1 o2; unfold f_X9_isMatedRightly; rw [if_pos c2]), wd_end hP hK hD ht hW9.alike⟩, hS.F ht⟩) hS.2.2 dX9_isMatedRightly_9 hlocks
def f_X9_needAnyGear (S : wPS) (o1 : Nat) : Except String Unit := if (S.I o1 1) = (0 : Int32) then .error "java/lang/ArithmeticException" else .ok ()
set_option maxRecDepth 20000 in
theorem s_X9_needAnyGear_AE : ∀ w ∈ (vx_atS RX9 543 "java/lang/ArithmeticException" ["java/lang/RuntimeException", "java/lang/Exception"]).filter goodWord, w ∈ wsX9_needAnyGear := fun w h => List.mem_cons_of_mem _ (List.mem_append_right _ h)
theorem hi_X9_needAnyGear_X9 : ∀ w ∈ u_ws RX9 TX9 11, w ∈ wsX9_needAnyGear := by decide +kernel
theorem hd_X9_needAnyGear : yX9_needAnyGear.cls = RX9 ∧ yX9_needAnyGear.cls ≠ "java/lang/invoke/MethodHandle" ∧ yX9_needAnyGear.cls ≠ "java/lang/invoke/VarHandle" ∧ (parseMethodDescriptor yX9_needAnyGear.desc).map (fun d => d.parameters.length) = some 0 := by decide +kernel
set_option maxHeartbeats 4000000 in
set_option maxRecDepth 100000 in
theorem c_X9_needAnyGear (l : Launch) (hst : l.stackTraces = false) {D : va_G} {cy : Nat → ClassId} {X : va_W} (S : wPS) (sz : Nat) (o1 : Nat) (h_o1 : isA S o1 9)  : vx_Met l yX9_needAnyGear wsX9_needAnyGear ({ frames := 6, cells := 1, slots := 6, locals := 82 }) (va_Pc [.ref o1] (fun U => U.heap.size = sz ∧ WD D cy X (fun _ => True) S U ∧ NW U ∧ TH (va_A (X ++ PL cy S) sz) U)) (va_Qv (fun (_ : Unit) => f_X9_needAnyGear S o1 = .ok ()) (fun _ t => WD D cy X (va_A (X ++ PL cy S) sz) S t) (va_A (X ++ PL cy S) sz)) (vx_X (fun (_ : Unit) => True) (fun E _ t => f_X9_needAnyGear S o1 = .error E ∧ E ∈ ["java/lang/ArithmeticException"] ∧ WD D cy X (va_A (X ++ PL cy S) sz) S t) (va_A (X ++ PL cy S) sz)) 1 6 (va_A (X ++ PL cy S) sz) := by
  refine vx_ofW (cc := cX9_needAnyGear) (maxL := 1) (ret := none) (by decide) rfl ?_
  intro p e s m args below meth c s₁ B hml hno hv
  obtain ⟨rfl, hsz, ⟨hP, hK, hD0⟩, hN, hTH⟩ := hv
  have hx := B.exec
  have hb := B.bytes
  have hr := B.returns
  have hts := atoms_spec (ws := wsX9_needAnyGear) B.pre
  have hown : s.vm.findClass RX9 = some m.cls := findClass_of_methodNamed (x := yX9_needAnyGear) B.named
  have hlocks := B.notSynchronized
  subst hsz
  have hD := hD0.self (sz := s.heap.size)
  generalize hAe : va_A (X ++ PL cy S) s.heap.size = A at hD hTH ⊢
  have hA : ∀ q : Nat, s.heap.size ≤ q → A q := fun q h => by rw [← hAe]; exact Or.inr h
  have hS : va_S A s.heap s.heap [] := va_S.rf
  have hl := lv_entry ([.ref o1]) (n := 1) (Nat.le_of_ble_eq_true rfl)
  rw [lg_entry_eq]
  generalize (lg_sl ([.ref o1]) ++ List.replicate (1 - (lg_sl ([.ref o1])).length) Slot.unset).toArray = ls at hl ⊢
  have hl : lv_has ls 1 [(0, .ref o1)] := hl
  refine lv_aload_n hx hb dX9_needAnyGear_0 rfl (lv_at hl 0 rfl) ?_
  obtain ⟨k1, gk1, hk1⟩ := wGt (cy := cy) X S h_o1.1 h_o1.2.1
  refine va_get (D := D) (ci := 13) (v := .int (S.I o1 1)) (C := RX9) (T := TX9) (N := 11) hx hb hts hi_X9_needAnyGear_X9 hown hK hP k1 hk1 rfl 1 (by decide) (hts (.fieldLink RX9 64 "Hobhouse" "gearCount" "I") (by decide +kernel)) (fun _ h9 => h9) rfl dX9_needAnyGear_1 ?_
  refine lv_if_ne (tgt := 18) hx hb dX9_needAnyGear_4 (by decide) (fun c2 => ?_) (fun c2 => ?_)
  · have c2i : ¬ (S.I o1 1).toInt = 0 := neq_v rfl rfl c2
    refine vx_ret ?_
    refine W.widen (k := 1) (n := 6) (Nat.le_of_ble_eq_true rfl) (Nat.le_of_ble_eq_true rfl) ?_
    exact W.vret hx hb hr (fun t ht hW9 => ⟨⟨(), rfl, (by show f_X9_needAnyGear S o1 = .ok (); unfold f_X9_needAnyGear; rw [if_neg c2]), wd_end hP hK hD ht hW9.alike⟩, hS.F ht⟩) hS.2.2 dX9_needAnyGear_18 hlocks
  · have c2i : (S.I o1 1).toInt = 0 := eq_v rfl rfl c2
    obtain ⟨sa, hsa⟩ := hTH.2.2 (RX9, 541, "there are no gears") (by decide +kernel)
    exact vx_throwSW hx hb hst (names := ["java/lang/RuntimeException", "java/lang/Exception"]) hown (by decide +kernel) (by decide +kernel) (hts (.classLink RX9 539 "java/lang/ArithmeticException") (by decide +kernel)) (hts (.initialized "java/lang/ArithmeticException") (by decide +kernel)) hsa (th_at (B := exW_X9_AE) (fun w h => hts w (s_X9_needAnyGear_AE w h)) rfl (by simp only [exW, List.mem_append]; intro w h; simp [h]) hTH.2.1) (List.forall_mem_cons.mpr ⟨by decide +kernel, List.forall_mem_cons.mpr ⟨by decide +kernel, exW_X9_AE_ok⟩⟩) hTH.1.1 hTH.1.2 hS (hl.1.trans hml.symm) dX9_needAnyGear_7 dX9_needAnyGear_10 dX9_needAnyGear_11 dX9_needAnyGear_14 dX9_needAnyGear_17 (fun x h => (hno x h).elim) (Nat.le_of_ble_eq_true rfl) (Nat.le_of_ble_eq_true rfl) (Nat.le_of_ble_eq_true rfl) (Nat.le_of_ble_eq_true rfl) hlocks (fun t hA2 h1 h2 => ⟨(), trivial, ⟨(by show f_X9_needAnyGear S o1 = .error "java/lang/ArithmeticException"; unfold f_X9_needAnyGear; rw [if_pos c2]), (by decide), wd_exc hP hK hD hA2 h2⟩, exc_F hS h1 h2⟩) hS.2.2 (Nat.le_of_ble_eq_true rfl) (Nat.le_of_ble_eq_true rfl)
