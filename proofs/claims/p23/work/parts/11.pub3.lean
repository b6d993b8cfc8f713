def f_X9_hobAt (S : wPS) (o1 : Nat) (x1 : Int32) : Except String Nat := if x1 < (0 : Int32) then .error "java/lang/IndexOutOfBoundsException" else if x1 < (S.I o1 3) then .ok (S.q (S.f o1 2) x1.toNatClampNeg) else .error "java/lang/IndexOutOfBoundsException"
set_option maxRecDepth 20000 in
theorem s_X9_hobAt_IOOBE : ∀ w ∈ (vx_atS RX9 297 "java/lang/IndexOutOfBoundsException" ["java/lang/RuntimeException", "java/lang/Exception"]).filter goodWord, w ∈ wsX9_hobAt := fun w h => List.mem_cons_of_mem _ (List.mem_append_right _ h)
set_option maxHeartbeats 4000000 in
set_option maxRecDepth 100000 in
theorem c_X9_hobAt (l : Launch) (hst : l.stackTraces = false) {D : va_G} {cy : Nat → ClassId} {X : va_W} (S : wPS) (sz : Nat) (o1 : Nat) (h_o1 : ok9 S o1) (x1 : Int32) (hHs : hobsOk S o1) : vx_Met l yX9_hobAt wsX9_hobAt ({ frames := 6, cells := 1, slots := 6, locals := 82 }) (va_Pc [.ref o1, .int x1] (fun U => U.heap.size = sz ∧ WD D cy X (fun _ => True) S U ∧ NW U ∧ TH (va_A (X ++ PL cy S) sz) U)) (va_Qq (fun r (_ : Unit) => ∃ a : Nat, r = some a ∧ f_X9_hobAt S o1 x1 = .ok a ∧ ok3 S a) (fun _ t => WD D cy X (va_A (X ++ PL cy S) sz) S t) (va_A (X ++ PL cy S) sz)) (vx_X (fun (_ : Unit) => True) (fun E _ t => f_X9_hobAt S o1 x1 = .error E ∧ WD D cy X (va_A (X ++ PL cy S) sz) S t) (va_A (X ++ PL cy S) sz)) 1 6 (va_A (X ++ PL cy S) sz) := by
  refine vx_ofW (cc := cX9_hobAt) (maxL := 2) (ret := (some (.object "Hobhouse$Hob"))) (by decide) rfl ?_
  intro p e s m args below meth c s₁ B hml hno hv
  obtain ⟨rfl, hsz, ⟨hP, hK, hD0⟩, hN, hTH⟩ := hv
  have hx := B.exec
  have hb := B.bytes
  have hr := B.returns
  have hts := atoms_spec (ws := wsX9_hobAt) B.pre
  have hown : s.vm.findClass RX9 = some m.cls := findClass_of_methodNamed B.named
  have hlocks := B.notSynchronized
  subst hsz
  have hD := hD0.self (sz := s.heap.size)
  generalize hAe : va_A (X ++ PL cy S) s.heap.size = A at hD hTH ⊢
  have hA : ∀ q : Nat, s.heap.size ≤ q → A q := fun q h => by rw [← hAe]; exact Or.inr h
  have hS : va_S A s.heap s.heap [] := va_S.rf
  have hl := lv_entry ([.ref o1, .int x1]) (n := 2) (Nat.le_of_ble_eq_true rfl)
  rw [lg_entry_eq]
  generalize (lg_sl ([.ref o1, .int x1]) ++ List.replicate (2 - (lg_sl ([.ref o1, .int x1])).length) Slot.unset).toArray = ls at hl ⊢
  have hl : lv_has ls 2 [(0, .ref o1), (1, .int x1)] := hl
  refine lv_iload_n hx hb dX9_hobAt_0 rfl (lv_at hl 1 rfl) ?_
  refine lv_if_lt (tgt := 12) hx hb dX9_hobAt_1 (by decide) (fun c1 => ?_) (fun c1 => ?_)
  · obtain ⟨sa, hsa⟩ := hTH.2.2 (RX9, 523, "there is no such hob") (by decide +kernel)
    exact vx_throwSW hx hb hst (names := ["java/lang/RuntimeException", "java/lang/Exception"]) hown (by decide +kernel) (by decide +kernel) (hts (.classLink RX9 293 "java/lang/IndexOutOfBoundsException") (by decide +kernel)) (hts (.initialized "java/lang/IndexOutOfBoundsException") (by decide +kernel)) hsa (th_at (B := exW_X9_IOOBE) (fun w h => hts w (s_X9_hobAt_IOOBE w h)) rfl (by simp only [exW, List.mem_append]; intro w h; simp [h]) hTH.2.1) (List.forall_mem_cons.mpr ⟨by decide +kernel, List.forall_mem_cons.mpr ⟨by decide +kernel, exW_X9_IOOBE_ok⟩⟩) hTH.1.1 hTH.1.2 hS (hl.1.trans hml.symm) dX9_hobAt_12 dX9_hobAt_15 dX9_hobAt_16 dX9_hobAt_19 dX9_hobAt_22 (fun x h => (hno x h).elim) (Nat.le_of_ble_eq_true rfl) (Nat.le_of_ble_eq_true rfl) (Nat.le_of_ble_eq_true rfl) (Nat.le_of_ble_eq_true rfl) hlocks (fun t hA2 h1 h2 => ⟨(), trivial, ⟨(by show f_X9_hobAt S o1 x1 = .error "java/lang/IndexOutOfBoundsException"; unfold f_X9_hobAt; rw [if_pos c1]), wd_exc hP hK hD hA2 h2⟩, exc_F hS h1 h2⟩) hS.2.2 (Nat.le_of_ble_eq_true rfl) (Nat.le_of_ble_eq_true rfl)
  · refine lv_iload_n hx hb dX9_hobAt_4 rfl (lv_at hl 1 rfl) ?_
    refine lv_aload_n hx hb dX9_hobAt_5 rfl (lv_at hl 0 rfl) ?_
    obtain ⟨k2, gk2, hk2⟩ := wGt (cy := cy) X S h_o1.1.1 h_o1.1.2.1
    refine va_get (D := D) (ci := 13) (v := .int (S.I o1 3)) (C := RX9) (T := TX9) (N := 11) hx hb hts (by decide +kernel) hown hK hP k2 hk2 rfl 3 (by decide) (hts (.fieldLink RX9 249 "Hobhouse" "hobCount" "I") (by decide +kernel)) (fun _ h9 => h9) rfl dX9_hobAt_6 ?_
    refine lv_icmp_lt (tgt := 23) hx hb dX9_hobAt_9 (by decide) (fun c3 => ?_) (fun c3 => ?_)
    · refine lv_aload_n hx hb dX9_hobAt_23 rfl (lv_at hl 0 rfl) ?_
      obtain ⟨k4, gk4, hk4⟩ := wGt (cy := cy) X S h_o1.1.1 h_o1.1.2.1
      simp only [kE, h_o1.2.2.1.1] at hk4
      refine va_get (D := D) (ci := 13) (v := .ref (S.f o1 2)) (C := RX9) (T := TX9) (N := 11) hx hb hts (by decide +kernel) hown hK hP k4 hk4 rfl 2 (by decide) (hts (.fieldLink RX9 17 "Hobhouse" "hobs" "[LHobhouse$Hob;") (by decide +kernel)) (fun _ h9 => h9) rfl dX9_hobAt_24 ?_
      refine lv_iload_n hx hb dX9_hobAt_27 rfl (lv_at hl 1 rfl) ?_
      obtain ⟨k5, gk5, hk5⟩ := wGt (cy := cy) X S h_o1.2.2.1.2.1 h_o1.2.2.1.2.2.1
      obtain ⟨e6, e6o⟩ := hHs.2.2.2 _ (by rw [cl_of c1]; exact lt_of32 c3)
      refine va_aldq hx hb hK hP k5 5 hk5 rfl (in_of (z_nlt c1) (by have h8 := lt_of32 c3; have := hHs.2.2.1; rw [hHs.1]; omega)) dX9_hobAt_28 ?_
      rw [show S.r (S.f o1 2) x1.toNatClampNeg = some (S.q (S.f o1 2) x1.toNatClampNeg) from e6]
      refine W.eq (g2 := F0 m 29 ls [.ref (S.q (S.f o1 2) x1.toNatClampNeg)]) rfl ?_
      refine vx_ret ?_
      refine W.widen (k := 1) (n := 6) (Nat.le_of_ble_eq_true rfl) (Nat.le_of_ble_eq_true rfl) ?_
      exact W.aret (v := .ref (S.q (S.f o1 2) x1.toNatClampNeg)) hx hb hr (Or.inl ⟨_, rfl⟩) (Or.inr ⟨_, rfl⟩) (fun t ht hW => ⟨⟨some (S.q (S.f o1 2) x1.toNatClampNeg), (), rfl, ⟨(S.q (S.f o1 2) x1.toNatClampNeg), rfl, (by show f_X9_hobAt S o1 x1 = .ok (S.q (S.f o1 2) x1.toNatClampNeg); unfold f_X9_hobAt; rw [if_neg c1, if_pos c3]), e6o⟩, wd_end hP hK hD ht hW.alike⟩, hS.F ht⟩) hS.2.2 dX9_hobAt_29 hlocks
    · obtain ⟨sa, hsa⟩ := hTH.2.2 (RX9, 523, "there is no such hob") (by decide +kernel)
      exact vx_throwSW hx hb hst (names := ["java/lang/RuntimeException", "java/lang/Exception"]) hown (by decide +kernel) (by decide +kernel) (hts (.classLink RX9 293 "java/lang/IndexOutOfBoundsException") (by decide +kernel)) (hts (.initialized "java/lang/IndexOutOfBoundsException") (by decide +kernel)) hsa (th_at (B := exW_X9_IOOBE) (fun w h => hts w (s_X9_hobAt_IOOBE w h)) rfl (by simp only [exW, List.mem_append]; intro w h; simp [h]) hTH.2.1) (List.forall_mem_cons.mpr ⟨by decide +kernel, List.forall_mem_cons.mpr ⟨by decide +kernel, exW_X9_IOOBE_ok⟩⟩) hTH.1.1 hTH.1.2 hS (hl.1.trans hml.symm) dX9_hobAt_12 dX9_hobAt_15 dX9_hobAt_16 dX9_hobAt_19 dX9_hobAt_22 (fun x h => (hno x h).elim) (Nat.le_of_ble_eq_true rfl) (Nat.le_of_ble_eq_true rfl) (Nat.le_of_ble_eq_true rfl) (Nat.le_of_ble_eq_true rfl) hlocks (fun t hA2 h1 h2 => ⟨(), trivial, ⟨(by show f_X9_hobAt S o1 x1 = .error "java/lang/IndexOutOfBoundsException"; unfold f_X9_hobAt; rw [if_neg c1, if_neg c3]), wd_exc hP hK hD hA2 h2⟩, exc_F hS h1 h2⟩) hS.2.2 (Nat.le_of_ble_eq_true rfl) (Nat.le_of_ble_eq_true rfl)
def f_X9_approach (S : wPS) (o1 : Nat) (x1 : Int32) : Except String Int32 := eB (f_X9_hobAt S o1 x1) (fun r2 => .ok ((f_X3_wayIn S r2).toInt32))
set_option maxHeartbeats 4000000 in
set_option maxRecDepth 100000 in
theorem c_X9_approach (l : Launch) (hst : l.stackTraces = false) {D : va_G} {cy : Nat → ClassId} {X : va_W} (S : wPS) (sz : Nat) (o1 : Nat) (h_o1 : ok9 S o1) (x1 : Int32) (hHs : hobsOk S o1) : vx_Met l yX9_approach wsX9_approach ({ frames := 7, cells := 1, slots := 6, locals := 103 }) (va_Pc [.ref o1, .int x1] (fun U => U.heap.size = sz ∧ WD D cy X (fun _ => True) S U ∧ NW U ∧ TH (va_A (X ++ PL cy S) sz) U)) (va_Qi (fun r (_ : Unit) => f_X9_approach S o1 x1 = .ok r) (fun _ t => WD D cy X (va_A (X ++ PL cy S) sz) S t) (va_A (X ++ PL cy S) sz)) (vx_X (fun (_ : Unit) => True) (fun E _ t => f_X9_approach S o1 x1 = .error E ∧ WD D cy X (va_A (X ++ PL cy S) sz) S t) (va_A (X ++ PL cy S) sz)) 1 6 (va_A (X ++ PL cy S) sz) := by
  refine vx_ofW (cc := cX9_approach) (maxL := 2) (ret := (some .int)) (by decide) rfl ?_
  intro p e s m args below meth c s₁ B hml hno hv
  obtain ⟨rfl, hsz, ⟨hP, hK, hD0⟩, hN, hTH⟩ := hv
  have hx := B.exec
  have hb := B.bytes
  have hr := B.returns
  have hts := atoms_spec (ws := wsX9_approach) B.pre
  have hown : s.vm.findClass RX9 = some m.cls := findClass_of_methodNamed B.named
  have hlocks := B.notSynchronized
  subst hsz
  have hD := hD0.self (sz := s.heap.size)
  generalize hAe : va_A (X ++ PL cy S) s.heap.size = A at hD hTH ⊢
  have hA : ∀ q : Nat, s.heap.size ≤ q → A q := fun q h => by rw [← hAe]; exact Or.inr h
  have hS : va_S A s.heap s.heap [] := va_S.rf
  have hl := lv_entry ([.ref o1, .int x1]) (n := 2) (Nat.le_of_ble_eq_true rfl)
  rw [lg_entry_eq]
  generalize (lg_sl ([.ref o1, .int x1]) ++ List.replicate (2 - (lg_sl ([.ref o1, .int x1])).length) Slot.unset).toArray = ls at hl ⊢
  have hl : lv_has ls 2 [(0, .ref o1), (1, .int x1)] := hl
  refine lv_aload_n hx hb dX9_approach_0 rfl (lv_at hl 0 rfl) ?_
  refine lv_iload_n hx hb dX9_approach_1 rfl (lv_at hl 1 rfl) ?_
  have hFc := free_all hD hS hA
  obtain ⟨k1, gk1, hk1⟩ := wGt (cy := cy) X S h_o1.1.1 h_o1.1.2.1
  refine vx_callq (vx_runV (As := [.int x1]) (rest := []) ⟨hx, hb, hml, hown, hts⟩ (c_X9_hobAt l hst (cy := cy) (X := X) (D := D) S _ o1 h_o1 x1 hHs) (cwV 1 hts gX9_approach_X9_hobAt rfl rfl rfl (by decide +kernel) ⟨Nat.le_of_ble_eq_true rfl, Nat.le_of_ble_eq_true rfl⟩) ⟨fun a U g mk q => ⟨q.1, q.2.1, q.2.2.1.calling, NW.same (u := U) (U := U.calling g mk a) rfl q.2.2.2.1, q.2.2.2.2.calling⟩, va_recv hK hP (ci := 13) (q0 := k1) rfl hk1, fun U hU hW => ⟨rfl, by rw [hU], wd_pre hP hK hD hU hW, hN.warm hW, th_pre hTH hS hFc hU hW⟩⟩ rfl rfl hl.1 rfl (lv_room (Nat.le_of_ble_eq_true rfl)) dX9_approach_2 ⟨Nat.le_of_ble_eq_true rfl, Nat.le_of_ble_eq_true rfl⟩) hS (fun q _ h => hFc q h) hFc (fun q _ h => hFc q h) (fun E ce q9 u t H1 locs ht hvm hw hB hz1 hk1 hS hq9 hce hcl => ?_) (fun r2 u t H1 locs ht hvm hw hB hz1 hk1 hS => ?_)
  · obtain ⟨c3, hB2⟩ := hB
    obtain ⟨hP, hD⟩ := wd_post hFc ht hB2
    exact vx_out (fun x h => (hno x h).elim) hlocks hq9 hce hcl (fun t2 ht2 hA2 => ⟨(), trivial, ⟨(by show f_X9_approach S o1 x1 = .error E; unfold f_X9_approach; rw [eB_er c3]), wd_end hP hK hD ht2 hA2⟩, hS.F ht2⟩) hS.2.2 (Nat.le_of_ble_eq_true rfl) (Nat.le_of_ble_eq_true rfl)
  · obtain ⟨r2, rfl, c4, o5⟩ := hw
    obtain ⟨hP, hD⟩ := wd_post hFc ht hB
    generalize H1 = H at hP hS ⊢
    refine W.eq (g2 := F0 m 5 ls [.ref r2]) rfl ?_
    have hFc := free_all hD hS hA
    obtain ⟨k6, gk6, hk6⟩ := wGt (cy := cy) X S o5.1.1 o5.1.2.1
    refine va_calll (va_runV (As := []) (rest := []) ⟨hx, hb, hml, hown, hts⟩ (c_X3_wayIn l (cy := cy) (X := X) (D := D) S _ r2 o5) (cwV 0 hts gX9_approach_X3_wayIn rfl rfl rfl (by decide +kernel) ⟨Nat.le_of_ble_eq_true rfl, Nat.le_of_ble_eq_true rfl⟩) ⟨fun a U g mk q => ⟨q.1, q.2.1, q.2.2.1.calling, NW.same (u := U) (U := U.calling g mk a) rfl q.2.2.2⟩, va_recv hK hP (ci := 7) (q0 := k6) rfl hk6, fun U hU hW => ⟨rfl, by rw [hU], wd_pre hP hK hD hU hW, hN.warm hW⟩⟩ rfl rfl hl.1 rfl (lv_room (Nat.le_of_ble_eq_true rfl)) dX9_approach_5 ⟨Nat.le_of_ble_eq_true rfl, Nat.le_of_ble_eq_true rfl⟩) hS (fun q _ h => hFc q h) hFc (fun r7 u t H1 locs ht hvm hw hB hz1 hk1 hS => ?_)
    obtain ⟨hP, hD⟩ := wd_post hFc ht hB
    generalize H1 = H at hP hS ⊢
    obtain rfl : r7 = f_X3_wayIn S r2 := hw
    refine lv_l2i hx hb dX9_approach_8 rfl ?_
    refine vx_ret ?_
    refine W.widen (k := 1) (n := 6) (Nat.le_of_ble_eq_true rfl) (Nat.le_of_ble_eq_true rfl) ?_
    exact W.iret (v := (f_X3_wayIn S r2).toInt32) hx hb hr (fun t ht hW => ⟨⟨(f_X3_wayIn S r2).toInt32, (), rfl, (by show f_X9_approach S o1 x1 = .ok ((f_X3_wayIn S r2).toInt32); unfold f_X9_approach; rw [eB_ok c4]), wd_end hP hK hD ht hW.alike⟩, hS.F ht⟩) hS.2.2 dX9_approach_9 hlocks
def f_X9_wear (S : wPS) (o1 : Nat) (x1 : Int32) (x2 : Int32) : Except String Int32 := eB (f_X9_hobAt S o1 x1) (fun r2 => if x2 < (0 : Int32) then .error "java/lang/IndexOutOfBoundsException" else if x2 < (nI (S.n (S.f r2 2))) then .ok (S.i (S.f r2 2) x2.toNatClampNeg) else .error "java/lang/IndexOutOfBoundsException")
set_option maxRecDepth 20000 in
theorem s_X9_wear_IOOBE : ∀ w ∈ (vx_atS RX9 297 "java/lang/IndexOutOfBoundsException" ["java/lang/RuntimeException", "java/lang/Exception"]).filter goodWord, w ∈ wsX9_wear := fun w h => List.mem_cons_of_mem _ (List.mem_append_left _ (List.mem_append_right _ h))
set_option maxHeartbeats 4000000 in
set_option maxRecDepth 100000 in
theorem c_X9_wear (l : Launch) (hst : l.stackTraces = false) {D : va_G} {cy : Nat → ClassId} {X : va_W} (S : wPS) (sz : Nat) (o1 : Nat) (h_o1 : ok9 S o1) (x1 : Int32) (x2 : Int32) (hHs : hobsOk S o1) : vx_Met l yX9_wear wsX9_wear ({ frames := 7, cells := 2, slots := 12, locals := 103 }) (va_Pc [.ref o1, .int x1, .int x2] (fun U => U.heap.size = sz ∧ WD D cy X (fun _ => True) S U ∧ NW U ∧ TH (va_A (X ++ PL cy S) sz) U)) (va_Qi (fun r (_ : Unit) => f_X9_wear S o1 x1 x2 = .ok r) (fun _ t => WD D cy X (va_A (X ++ PL cy S) sz) S t) (va_A (X ++ PL cy S) sz)) (vx_X (fun (_ : Unit) => True) (fun E _ t => f_X9_wear S o1 x1 x2 = .error E ∧ WD D cy X (va_A (X ++ PL cy S) sz) S t) (va_A (X ++ PL cy S) sz)) 2 12 (va_A (X ++ PL cy S) sz) := by
  refine vx_ofW (cc := cX9_wear) (maxL := 4) (ret := (some .int)) (by decide) rfl ?_
  intro p e s m args below meth c s₁ B hml hno hv
  obtain ⟨rfl, hsz, ⟨hP, hK, hD0⟩, hN, hTH⟩ := hv
  have hx := B.exec
  have hb := B.bytes
  have hr := B.returns
  have hts := atoms_spec (ws := wsX9_wear) B.pre
  have hown : s.vm.findClass RX9 = some m.cls := findClass_of_methodNamed B.named
  have hlocks := B.notSynchronized
  subst hsz
  have hD := hD0.self (sz := s.heap.size)
  generalize hAe : va_A (X ++ PL cy S) s.heap.size = A at hD hTH ⊢
  have hA : ∀ q : Nat, s.heap.size ≤ q → A q := fun q h => by rw [← hAe]; exact Or.inr h
  have hS : va_S A s.heap s.heap [] := va_S.rf
  have hl := lv_entry ([.ref o1, .int x1, .int x2]) (n := 4) (Nat.le_of_ble_eq_true rfl)
  rw [lg_entry_eq]
  generalize (lg_sl ([.ref o1, .int x1, .int x2]) ++ List.replicate (4 - (lg_sl ([.ref o1, .int x1, .int x2])).length) Slot.unset).toArray = ls at hl ⊢
  have hl : lv_has ls 4 [(0, .ref o1), (1, .int x1), (2, .int x2)] := hl
  refine lv_aload_n hx hb dX9_wear_0 rfl (lv_at hl 0 rfl) ?_
  refine lv_iload_n hx hb dX9_wear_1 rfl (lv_at hl 1 rfl) ?_
  have hFc := free_all hD hS hA
  obtain ⟨k1, gk1, hk1⟩ := wGt (cy := cy) X S h_o1.1.1 h_o1.1.2.1
  refine vx_callq (vx_runV (As := [.int x1]) (rest := []) ⟨hx, hb, hml, hown, hts⟩ (c_X9_hobAt l hst (cy := cy) (X := X) (D := D) S _ o1 h_o1 x1 hHs) (cwV 1 hts gX9_wear_X9_hobAt rfl rfl rfl (by decide +kernel) ⟨Nat.le_of_ble_eq_true rfl, Nat.le_of_ble_eq_true rfl⟩) ⟨fun a U g mk q => ⟨q.1, q.2.1, q.2.2.1.calling, NW.same (u := U) (U := U.calling g mk a) rfl q.2.2.2.1, q.2.2.2.2.calling⟩, va_recv hK hP (ci := 13) (q0 := k1) rfl hk1, fun U hU hW => ⟨rfl, by rw [hU], wd_pre hP hK hD hU hW, hN.warm hW, th_pre hTH hS hFc hU hW⟩⟩ rfl rfl hl.1 rfl (lv_room (Nat.le_of_ble_eq_true rfl)) dX9_wear_2 ⟨Nat.le_of_ble_eq_true rfl, Nat.le_of_ble_eq_true rfl⟩) hS (fun q _ h => hFc q h) hFc (fun q _ h => hFc q h) (fun E ce q9 u t H1 locs ht hvm hw hB hz1 hk1 hS hq9 hce hcl => ?_) (fun r2 u t H1 locs ht hvm hw hB hz1 hk1 hS => ?_)
  · obtain ⟨c3, hB2⟩ := hB
    obtain ⟨hP, hD⟩ := wd_post hFc ht hB2
    exact vx_out (fun x h => (hno x h).elim) hlocks hq9 hce hcl (fun t2 ht2 hA2 => ⟨(), trivial, ⟨(by show f_X9_wear S o1 x1 x2 = .error E; unfold f_X9_wear; rw [eB_er c3]), wd_end hP hK hD ht2 hA2⟩, hS.F ht2⟩) hS.2.2 (Nat.le_of_ble_eq_true rfl) (Nat.le_of_ble_eq_true rfl)
  · obtain ⟨r2, rfl, c4, o5⟩ := hw
    obtain ⟨hP, hD⟩ := wd_post hFc ht hB
    generalize H1 = H at hP hS ⊢
    refine W.eq (g2 := F0 m 5 ls [.ref r2]) rfl ?_
    refine lv_astore_n (lv' := [(3, .ref r2), (0, .ref o1), (1, .int x1), (2, .int x2)]) hx hb dX9_wear_5 rfl hl (by decide) rfl (fun ls hl => ?_)
    refine lv_iload_n hx hb dX9_wear_6 rfl (lv_at hl 3 rfl) ?_
    refine lv_if_lt (tgt := 19) hx hb dX9_wear_7 (by decide) (fun c6 => ?_) (fun c6 => ?_)
    · obtain ⟨sa, hsa⟩ := hTH.2.2 (RX9, 295, "there is no such place") (by decide +kernel)
      exact vx_throwSW hx hb hst (names := ["java/lang/RuntimeException", "java/lang/Exception"]) hown (by decide +kernel) (by decide +kernel) (hts (.classLink RX9 293 "java/lang/IndexOutOfBoundsException") (by decide +kernel)) (hts (.initialized "java/lang/IndexOutOfBoundsException") (by decide +kernel)) hsa (th_at (B := exW_X9_IOOBE) (fun w h => hts w (s_X9_wear_IOOBE w h)) rfl (by simp only [exW, List.mem_append]; intro w h; simp [h]) hTH.2.1) (List.forall_mem_cons.mpr ⟨by decide +kernel, List.forall_mem_cons.mpr ⟨by decide +kernel, exW_X9_IOOBE_ok⟩⟩) hTH.1.1 hTH.1.2 hS (hl.1.trans hml.symm) dX9_wear_19 dX9_wear_22 dX9_wear_23 dX9_wear_26 dX9_wear_29 (fun x h => (hno x h).elim) (Nat.le_of_ble_eq_true rfl) (Nat.le_of_ble_eq_true rfl) (Nat.le_of_ble_eq_true rfl) (Nat.le_of_ble_eq_true rfl) hlocks (fun t hA2 h1 h2 => ⟨(), trivial, ⟨(by show f_X9_wear S o1 x1 x2 = .error "java/lang/IndexOutOfBoundsException"; unfold f_X9_wear; rw [eB_ok c4, if_pos c6]), wd_exc hP hK hD hA2 h2⟩, exc_F hS h1 h2⟩) hS.2.2 (Nat.le_of_ble_eq_true rfl) (Nat.le_of_ble_eq_true rfl)
    · refine lv_iload_n hx hb dX9_wear_10 rfl (lv_at hl 3 rfl) ?_
      refine lv_aload_n hx hb dX9_wear_11 rfl (lv_at hl 0 rfl) ?_
      obtain ⟨k7, gk7, hk7⟩ := wGt (cy := cy) X S o5.1.1 o5.1.2.1
      simp only [kE, o5.2.1.1] at hk7
      refine va_get (D := D) (ci := 7) (v := .ref (S.f r2 2)) (C := RX3) (T := TX3) (N := 6) hx hb hts (by decide +kernel) hown hK hP k7 hk7 rfl 2 (by decide) (hts (.fieldLink RX9 290 "Hobhouse$Hob" "worn" "[I") (by decide +kernel)) (fun _ h9 => h9) rfl dX9_wear_12 ?_
      obtain ⟨k8, gk8, hk8⟩ := wGt (cy := cy) X S o5.2.1.2.1 o5.2.1.2.2.1
      refine va_alen (D := D) (cl := vwCl) (tys := tyL cy) hx hb hK hP k8 2 hk8 rfl (v := nI (S.n (S.f r2 2))) rfl dX9_wear_15 ?_
      refine lv_icmp_lt (tgt := 30) hx hb dX9_wear_16 (by decide) (fun c9 => ?_) (fun c9 => ?_)
      · refine lv_aload_n hx hb dX9_wear_30 rfl (lv_at hl 0 rfl) ?_
        obtain ⟨k10, gk10, hk10⟩ := wGt (cy := cy) X S o5.1.1 o5.1.2.1
        simp only [kE, o5.2.1.1] at hk10
        refine va_get (D := D) (ci := 7) (v := .ref (S.f r2 2)) (C := RX3) (T := TX3) (N := 6) hx hb hts (by decide +kernel) hown hK hP k10 hk10 rfl 2 (by decide) (hts (.fieldLink RX9 290 "Hobhouse$Hob" "worn" "[I") (by decide +kernel)) (fun _ h9 => h9) rfl dX9_wear_31 ?_
        refine lv_iload_n hx hb dX9_wear_34 rfl (lv_at hl 3 rfl) ?_
        obtain ⟨k11, gk11, hk11⟩ := wGt (cy := cy) X S o5.2.1.2.1 o5.2.1.2.2.1
        refine va_iald hx hb hK hP k11 2 hk11 rfl (in_len2 (by assumption) (by assumption) o5.2.1.2.2.2) dX9_wear_35 ?_
        refine vx_ret ?_
        refine W.widen (k := 2) (n := 12) (Nat.le_of_ble_eq_true rfl) (Nat.le_of_ble_eq_true rfl) ?_
        exact W.iret (v := S.i (S.f r2 2) x2.toNatClampNeg) hx hb hr (fun t ht hW => ⟨⟨S.i (S.f r2 2) x2.toNatClampNeg, (), rfl, (by show f_X9_wear S o1 x1 x2 = .ok (S.i (S.f r2 2) x2.toNatClampNeg); unfold f_X9_wear; rw [eB_ok c4, if_neg c6, if_pos c9]), wd_end hP hK hD ht hW.alike⟩, hS.F ht⟩) hS.2.2 dX9_wear_36 hlocks
      · obtain ⟨sa, hsa⟩ := hTH.2.2 (RX9, 295, "there is no such place") (by decide +kernel)
        exact vx_throwSW hx hb hst (names := ["java/lang/RuntimeException", "java/lang/Exception"]) hown (by decide +kernel) (by decide +kernel) (hts (.classLink RX9 293 "java/lang/IndexOutOfBoundsException") (by decide +kernel)) (hts (.initialized "java/lang/IndexOutOfBoundsException") (by decide +kernel)) hsa (th_at (B := exW_X9_IOOBE) (fun w h => hts w (s_X9_wear_IOOBE w h)) rfl (by simp only [exW, List.mem_append]; intro w h; simp [h]) hTH.2.1) (List.forall_mem_cons.mpr ⟨by decide +kernel, List.forall_mem_cons.mpr ⟨by decide +kernel, exW_X9_IOOBE_ok⟩⟩) hTH.1.1 hTH.1.2 hS (hl.1.trans hml.symm) dX9_wear_19 dX9_wear_22 dX9_wear_23 dX9_wear_26 dX9_wear_29 (fun x h => (hno x h).elim) (Nat.le_of_ble_eq_true rfl) (Nat.le_of_ble_eq_true rfl) (Nat.le_of_ble_eq_true rfl) (Nat.le_of_ble_eq_true rfl) hlocks (fun t hA2 h1 h2 => ⟨(), trivial, ⟨(by show f_X9_wear S o1 x1 x2 = .error "java/lang/IndexOutOfBoundsException"; unfold f_X9_wear; rw [eB_ok c4, if_neg c6, if_neg c9]), wd_exc hP hK hD hA2 h2⟩, exc_F hS h1 h2⟩) hS.2.2 (Nat.le_of_ble_eq_true rfl) (Nat.le_of_ble_eq_true rfl)
def f_X9_toolsAt (S : wPS) (o1 : Nat) (x1 : Int32) (x2 : Int32) : Except String (Int32 × wPS) := if x1 < (0 : Int32) then .error "java/lang/IndexOutOfBoundsException" else if x1 < (S.I o1 5) then eB (f_X9_needRange x2 (0 : Int32) (9999 : Int32)) (fun _ => .ok (S.I (S.q (S.f o1 4) x1.toNatClampNeg) 2, S.sI (S.q (S.f o1 4) x1.toNatClampNeg) 2 x2)) else .error "java/lang/IndexOutOfBoundsException"
set_option maxRecDepth 20000 in
theorem s_X9_toolsAt_IOOBE : ∀ w ∈ (vx_atS RX9 297 "java/lang/IndexOutOfBoundsException" ["java/lang/RuntimeException", "java/lang/Exception"]).filter goodWord, w ∈ wsX9_toolsAt := fun w h => List.mem_cons_of_mem _ (List.mem_append_left _ (List.mem_append_right _ h))
set_option maxHeartbeats 4000000 in
set_option maxRecDepth 100000 in
theorem c_X9_toolsAt (l : Launch) (hst : l.stackTraces = false) {D : va_G} {cy : Nat → ClassId} {X : va_W} (S : wPS) (sz : Nat) (o1 : Nat) (h_o1 : ok9 S o1) (x1 : Int32) (x2 : Int32) (hSs : stationsOk S o1) : vx_Met l yX9_toolsAt wsX9_toolsAt ({ frames := 7, cells := 1, slots := 6, locals := 104 }) (va_Pc [.ref o1, .int x1, .int x2] (fun U => U.heap.size = sz ∧ WD D cy X (fun _ => True) S U ∧ NW U ∧ TH (va_A (X ++ PL cy S) sz) U)) (va_Qi (fun r (u : wPS) => f_X9_toolsAt S o1 x1 x2 = .ok (r, u) ∧ sh S u) (fun u t => WD D cy X (va_A (X ++ PL cy S) sz) u t) (va_A (X ++ PL cy S) sz)) (vx_X (fun (_ : Unit) => True) (fun E _ t => f_X9_toolsAt S o1 x1 x2 = .error E ∧ WD D cy X (va_A (X ++ PL cy S) sz) S t) (va_A (X ++ PL cy S) sz)) 1 6 (va_A (X ++ PL cy S) sz) := by
  refine vx_ofW (cc := cX9_toolsAt) (maxL := 4) (ret := (some .int)) (by decide) rfl ?_
  intro p e s m args below meth c s₁ B hml hno hv
  obtain ⟨rfl, hsz, ⟨hP, hK, hD0⟩, hN, hTH⟩ := hv
  have hx := B.exec
  have hb := B.bytes
  have hr := B.returns
  have hts := atoms_spec (ws := wsX9_toolsAt) B.pre
  have hown : s.vm.findClass RX9 = some m.cls := findClass_of_methodNamed B.named
  have hlocks := B.notSynchronized
  subst hsz
  have hD := hD0.self (sz := s.heap.size)
  generalize hAe : va_A (X ++ PL cy S) s.heap.size = A at hD hTH ⊢
  have hA : ∀ q : Nat, s.heap.size ≤ q → A q := fun q h => by rw [← hAe]; exact Or.inr h
  have hS : va_S A s.heap s.heap [] := va_S.rf
  have hl := lv_entry ([.ref o1, .int x1, .int x2]) (n := 4) (Nat.le_of_ble_eq_true rfl)
  rw [lg_entry_eq]
  generalize (lg_sl ([.ref o1, .int x1, .int x2]) ++ List.replicate (4 - (lg_sl ([.ref o1, .int x1, .int x2])).length) Slot.unset).toArray = ls at hl ⊢
  have hl : lv_has ls 4 [(0, .ref o1), (1, .int x1), (2, .int x2)] := hl
  refine lv_iload_n hx hb dX9_toolsAt_0 rfl (lv_at hl 1 rfl) ?_
  refine lv_if_lt (tgt := 12) hx hb dX9_toolsAt_1 (by decide) (fun c1 => ?_) (fun c1 => ?_)
  · obtain ⟨sa, hsa⟩ := hTH.2.2 (RX9, 434, "there is no such machine") (by decide +kernel)
    exact vx_throwSW hx hb hst (names := ["java/lang/RuntimeException", "java/lang/Exception"]) hown (by decide +kernel) (by decide +kernel) (hts (.classLink RX9 293 "java/lang/IndexOutOfBoundsException") (by decide +kernel)) (hts (.initialized "java/lang/IndexOutOfBoundsException") (by decide +kernel)) hsa (th_at (B := exW_X9_IOOBE) (fun w h => hts w (s_X9_toolsAt_IOOBE w h)) rfl (by simp only [exW, List.mem_append]; intro w h; simp [h]) hTH.2.1) (List.forall_mem_cons.mpr ⟨by decide +kernel, List.forall_mem_cons.mpr ⟨by decide +kernel, exW_X9_IOOBE_ok⟩⟩) hTH.1.1 hTH.1.2 hS (hl.1.trans hml.symm) dX9_toolsAt_12 dX9_toolsAt_15 dX9_toolsAt_16 dX9_toolsAt_19 dX9_toolsAt_22 (fun x h => (hno x h).elim) (Nat.le_of_ble_eq_true rfl) (Nat.le_of_ble_eq_true rfl) (Nat.le_of_ble_eq_true rfl) (Nat.le_of_ble_eq_true rfl) hlocks (fun t hA2 h1 h2 => ⟨(), trivial, ⟨(by show f_X9_toolsAt S o1 x1 x2 = .error "java/lang/IndexOutOfBoundsException"; unfold f_X9_toolsAt; rw [if_pos c1]), wd_exc hP hK hD hA2 h2⟩, exc_F hS h1 h2⟩) hS.2.2 (Nat.le_of_ble_eq_true rfl) (Nat.le_of_ble_eq_true rfl)
  · refine lv_iload_n hx hb dX9_toolsAt_4 rfl (lv_at hl 1 rfl) ?_
    refine lv_aload_n hx hb dX9_toolsAt_5 rfl (lv_at hl 0 rfl) ?_
    obtain ⟨k2, gk2, hk2⟩ := wGt (cy := cy) X S h_o1.1.1 h_o1.1.2.1
    refine va_get (D := D) (ci := 13) (v := .int (S.I o1 5)) (C := RX9) (T := TX9) (N := 11) hx hb hts (by decide +kernel) hown hK hP k2 hk2 rfl 5 (by decide) (hts (.fieldLink RX9 426 "Hobhouse" "stationCount" "I") (by decide +kernel)) (fun _ h9 => h9) rfl dX9_toolsAt_6 ?_
    refine lv_icmp_lt (tgt := 23) hx hb dX9_toolsAt_9 (by decide) (fun c3 => ?_) (fun c3 => ?_)
    · refine lv_iload_n hx hb dX9_toolsAt_23 rfl (lv_at hl 2 rfl) ?_
      refine lv_iconst (v := 0) hx hb dX9_toolsAt_24 (by decide) ?_
      refine lv_sipush (v := 9999) hx hb dX9_toolsAt_25 (by decide +kernel) ?_
      have hFc := free_all hD hS hA
      refine vx_callv (vx_runS (As := [.int x2, .int (0 : Int32), .int (9999 : Int32)]) (rest := []) ⟨hx, hb, hml, hown, hts⟩ (c_X9_needRange l hst (cy := cy) (X := X) (D := D) S _ x2 (0 : Int32) (9999 : Int32)) (cwS 3 hts gX9_toolsAt_X9_needRange rfl rfl rfl (by decide +kernel) ⟨Nat.le_of_ble_eq_true rfl, Nat.le_of_ble_eq_true rfl⟩) ⟨fun a U g mk q => ⟨q.1, q.2.1, q.2.2.1.calling, NW.same (u := U) (U := U.calling g mk a) rfl q.2.2.2.1, q.2.2.2.2.calling⟩, fun U hU hW => ⟨rfl, by rw [hU], wd_pre hP hK hD hU hW, hN.warm hW, th_pre hTH hS hFc hU hW⟩⟩ rfl rfl hl.1 rfl (lv_room (Nat.le_of_ble_eq_true rfl)) dX9_toolsAt_28 ⟨Nat.le_of_ble_eq_true rfl, Nat.le_of_ble_eq_true rfl⟩) hS (fun q _ h => hFc q h) hFc (fun q _ h => hFc q h) (fun E ce q9 u t H1 locs ht hvm hw hB hz1 hk1 hS hq9 hce hcl => ?_) (fun u t H1 locs ht hvm hw hB hz1 hk1 hS => ?_)
      · obtain ⟨c5, hB2⟩ := hB
        obtain ⟨hP, hD⟩ := wd_post hFc ht hB2
        exact vx_out (fun x h => (hno x h).elim) hlocks hq9 hce hcl (fun t2 ht2 hA2 => ⟨(), trivial, ⟨(by show f_X9_toolsAt S o1 x1 x2 = .error E; unfold f_X9_toolsAt; rw [if_neg c1, if_pos c3, eB_er c5]), wd_end hP hK hD ht2 hA2⟩, hS.F ht2⟩) hS.2.2 (Nat.le_of_ble_eq_true rfl) (Nat.le_of_ble_eq_true rfl)
      · have c6 := hw
        obtain ⟨hP, hD⟩ := wd_post hFc ht hB
        generalize H1 = H at hP hS ⊢
        refine lv_aload_n hx hb dX9_toolsAt_31 rfl (lv_at hl 0 rfl) ?_
        obtain ⟨k7, gk7, hk7⟩ := wGt (cy := cy) X S h_o1.1.1 h_o1.1.2.1
        simp only [kE, h_o1.2.2.2.1.1] at hk7
        refine va_get (D := D) (ci := 13) (v := .ref (S.f o1 4)) (C := RX9) (T := TX9) (N := 11) hx hb hts (by decide +kernel) hown hK hP k7 hk7 rfl 4 (by decide) (hts (.fieldLink RX9 23 "Hobhouse" "stations" "[LHobhouse$Station;") (by decide +kernel)) (fun _ h9 => h9) rfl dX9_toolsAt_32 ?_
        refine lv_iload_n hx hb dX9_toolsAt_35 rfl (lv_at hl 1 rfl) ?_
        obtain ⟨k8, gk8, hk8⟩ := wGt (cy := cy) X S h_o1.2.2.2.1.2.1 h_o1.2.2.2.1.2.2.1
        obtain ⟨e9, e9o⟩ := hSs.2.2.2 _ (by rw [cl_of c1]; exact lt_of32 c3)
        refine va_aldq hx hb hK hP k8 6 hk8 rfl (in_of (z_nlt c1) (by have h8 := lt_of32 c3; have := hSs.2.2.1; rw [hSs.1]; omega)) dX9_toolsAt_36 ?_
        rw [show S.r (S.f o1 4) x1.toNatClampNeg = some (S.q (S.f o1 4) x1.toNatClampNeg) from e9]
        refine W.eq (g2 := F0 m 37 ls [.ref (S.q (S.f o1 4) x1.toNatClampNeg)]) rfl ?_
        obtain ⟨k10, gk10, hk10⟩ := wGt (cy := cy) X S e9o.1.1 e9o.1.2.1
        refine va_get (D := D) (ci := 11) (v := .int (S.I (S.q (S.f o1 4) x1.toNatClampNeg) 2)) (C := RX7) (T := TX7) (N := 4) hx hb hts (by decide +kernel) hown hK hP k10 hk10 rfl 2 (by decide) (hts (.fieldLink RX9 436 "Hobhouse$Station" "toolsFrom" "I") (by decide +kernel)) (fun _ h9 => h9) rfl dX9_toolsAt_37 ?_
        refine lv_istore_n (lv' := [(3, .int (S.I (S.q (S.f o1 4) x1.toNatClampNeg) 2)), (0, .ref o1), (1, .int x1), (2, .int x2)]) hx hb dX9_toolsAt_40 rfl hl (by decide) rfl (fun ls hl => ?_)
        refine lv_aload_n hx hb dX9_toolsAt_41 rfl (lv_at hl 1 rfl) ?_
        obtain ⟨k11, gk11, hk11⟩ := wGt (cy := cy) X S h_o1.1.1 h_o1.1.2.1
        simp only [kE, h_o1.2.2.2.1.1] at hk11
        refine va_get (D := D) (ci := 13) (v := .ref (S.f o1 4)) (C := RX9) (T := TX9) (N := 11) hx hb hts (by decide +kernel) hown hK hP k11 hk11 rfl 4 (by decide) (hts (.fieldLink RX9 23 "Hobhouse" "stations" "[LHobhouse$Station;") (by decide +kernel)) (fun _ h9 => h9) rfl dX9_toolsAt_42 ?_
        refine lv_iload_n hx hb dX9_toolsAt_45 rfl (lv_at hl 2 rfl) ?_
        obtain ⟨k12, gk12, hk12⟩ := wGt (cy := cy) X S h_o1.2.2.2.1.2.1 h_o1.2.2.2.1.2.2.1
        obtain ⟨e13, e13o⟩ := hSs.2.2.2 _ (by rw [cl_of c1]; exact lt_of32 c3)
        refine va_aldq hx hb hK hP k12 6 hk12 rfl (in_of (z_nlt c1) (by have h8 := lt_of32 c3; have := hSs.2.2.1; rw [hSs.1]; omega)) dX9_toolsAt_46 ?_
        rw [show S.r (S.f o1 4) x1.toNatClampNeg = some (S.q (S.f o1 4) x1.toNatClampNeg) from e13]
        refine W.eq (g2 := F0 m 47 ls [.ref (S.q (S.f o1 4) x1.toNatClampNeg)]) rfl ?_
        refine lv_iload_n hx hb dX9_toolsAt_47 rfl (lv_at hl 3 rfl) ?_
        obtain ⟨k14, gk14, hk14⟩ := wGt (cy := cy) X S e13o.1.1 e13o.1.2.1
        refine va_put (D := D) (ci := 11) (v := .int x2) (ty := .int) (C := RX7) (T := TX7) (N := 4) hx hb hts (by decide +kernel) tyX7 tyX7_ok nmX7 hown hK hP hD hS k14 hk14 rfl 2 (by decide) (hts (.fieldLink RX9 436 "Hobhouse$Station" "toolsFrom" "I") (by decide +kernel)) (fun _ h9 => h9) rfl (by decide +kernel) (rfl) (rfl) (Nat.le_of_ble_eq_true rfl) dX9_toolsAt_48 (fun H locs hP2 hD2 hS => ?_)
        have e9 := wPuI (cy := cy) (j := 2) (v := x2) hD e13o.1.1 e13o.1.2.1 gk14 rfl
        have hP : va_P D vwCl (X ++ PL cy (S.sI (S.q (S.f o1 4) x1.toNatClampNeg) 2 x2)) H := by rw [← e9]; exact hP2
        have hD : va_D A (X ++ PL cy (S.sI (S.q (S.f o1 4) x1.toNatClampNeg) 2 x2)) := by rw [← e9]; exact hD2
        refine lv_iload_n hx hb dX9_toolsAt_51 rfl (lv_at hl 0 rfl) ?_
        refine vx_ret ?_
        refine W.widen (k := 1) (n := 6) (Nat.le_of_ble_eq_true rfl) (Nat.le_of_ble_eq_true rfl) ?_
        exact W.iret (v := S.I (S.q (S.f o1 4) x1.toNatClampNeg) 2) hx hb hr (fun t ht hW => ⟨⟨S.I (S.q (S.f o1 4) x1.toNatClampNeg) 2, S.sI (S.q (S.f o1 4) x1.toNatClampNeg) 2 x2, rfl, (⟨(by show f_X9_toolsAt S o1 x1 x2 = .ok (S.I (S.q (S.f o1 4) x1.toNatClampNeg) 2, S.sI (S.q (S.f o1 4) x1.toNatClampNeg) 2 x2); unfold f_X9_toolsAt; rw [if_neg c1, if_pos c3, eB_ok c6]), ((sh.rf S).I (S.q (S.f o1 4) x1.toNatClampNeg) 2 x2)⟩), wd_end hP hK hD ht hW.alike⟩, hS.F ht⟩) hS.2.2 dX9_toolsAt_52 hlocks
    · obtain ⟨sa, hsa⟩ := hTH.2.2 (RX9, 434, "there is no such machine") (by decide +kernel)
      exact vx_throwSW hx hb hst (names := ["java/lang/RuntimeException", "java/lang/Exception"]) hown (by decide +kernel) (by decide +kernel) (hts (.classLink RX9 293 "java/lang/IndexOutOfBoundsException") (by decide +kernel)) (hts (.initialized "java/lang/IndexOutOfBoundsException") (by decide +kernel)) hsa (th_at (B := exW_X9_IOOBE) (fun w h => hts w (s_X9_toolsAt_IOOBE w h)) rfl (by simp only [exW, List.mem_append]; intro w h; simp [h]) hTH.2.1) (List.forall_mem_cons.mpr ⟨by decide +kernel, List.forall_mem_cons.mpr ⟨by decide +kernel, exW_X9_IOOBE_ok⟩⟩) hTH.1.1 hTH.1.2 hS (hl.1.trans hml.symm) dX9_toolsAt_12 dX9_toolsAt_15 dX9_toolsAt_16 dX9_toolsAt_19 dX9_toolsAt_22 (fun x h => (hno x h).elim) (Nat.le_of_ble_eq_true rfl) (Nat.le_of_ble_eq_true rfl) (Nat.le_of_ble_eq_true rfl) (Nat.le_of_ble_eq_true rfl) hlocks (fun t hA2 h1 h2 => ⟨(), trivial, ⟨(by show f_X9_toolsAt S o1 x1 x2 = .error "java/lang/IndexOutOfBoundsException"; unfold f_X9_toolsAt; rw [if_neg c1, if_neg c3]), wd_exc hP hK hD hA2 h2⟩, exc_F hS h1 h2⟩) hS.2.2 (Nat.le_of_ble_eq_true rfl) (Nat.le_of_ble_eq_true rfl)
def f_X9_soonest_L10 (S : wPS) (o1 : Nat) (x1 : Int32) (x2 : Int32) : Nat → Int32 → Int32 → Int32 → Int32 × Int32 × Int32
  | 0, w10_3, w10_4, w10_5 => (w10_3, w10_4, w10_5)
  | n + 1, w10_3, w10_4, w10_5 => if (S.I o1 5) ≤ w10_5 then (w10_3, w10_4, w10_5) else if (S.I (S.q (S.f o1 4) w10_5.toNatClampNeg) 0) = x1 then if w10_4 ≤ (f_X7_endFrom S (S.q (S.f o1 4) w10_5.toNatClampNeg) x2) then f_X9_soonest_L10 S o1 x1 x2 n w10_3 w10_4 (w10_5 + (1 : Int32)) else f_X9_soonest_L10 S o1 x1 x2 n w10_5 (f_X7_endFrom S (S.q (S.f o1 4) w10_5.toNatClampNeg) x2) (w10_5 + (1 : Int32)) else f_X9_soonest_L10 S o1 x1 x2 n w10_3 w10_4 (w10_5 + (1 : Int32))
theorem f_X9_soonest_L10_s (S : wPS) (o1 : Nat) (x1 : Int32) (x2 : Int32) (n : Nat) (w10_3 : Int32) (w10_4 : Int32) (w10_5 : Int32) : f_X9_soonest_L10 S o1 x1 x2 (n + 1) w10_3 w10_4 w10_5 = if (S.I o1 5) ≤ w10_5 then (w10_3, w10_4, w10_5) else if (S.I (S.q (S.f o1 4) w10_5.toNatClampNeg) 0) = x1 then if w10_4 ≤ (f_X7_endFrom S (S.q (S.f o1 4) w10_5.toNatClampNeg) x2) then f_X9_soonest_L10 S o1 x1 x2 n w10_3 w10_4 (w10_5 + (1 : Int32)) else f_X9_soonest_L10 S o1 x1 x2 n w10_5 (f_X7_endFrom S (S.q (S.f o1 4) w10_5.toNatClampNeg) x2) (w10_5 + (1 : Int32)) else f_X9_soonest_L10 S o1 x1 x2 n w10_3 w10_4 (w10_5 + (1 : Int32)) := rfl
def f_X9_soonest (S : wPS) (o1 : Nat) (x1 : Int32) (x2 : Int32) : Int32 := l3 (f_X9_soonest_L10 S o1 x1 x2 64 (-1 : Int32) (2147483647 : Int32) (0 : Int32)) (fun z20 z21 z22 => z20)
set_option maxHeartbeats 4000000 in
set_option maxRecDepth 100000 in
theorem c_X9_soonest (l : Launch) {D : va_G} {cy : Nat → ClassId} {X : va_W} (S : wPS) (sz : Nat) (o1 : Nat) (h_o1 : ok9 S o1) (x1 : Int32) (x2 : Int32) (hSs : stationsOk S o1) : Met l yX9_soonest wsX9_soonest ({ frames := 2, cells := 0, slots := 0, locals := 34 }) (va_Pc [.ref o1, .int x1, .int x2] (fun U => U.heap.size = sz ∧ WD D cy X (fun _ => True) S U ∧ NW U)) (va_Qi (fun r (_ : Unit) => r = f_X9_soonest S o1 x1 x2) (fun _ t => WD D cy X (va_A (X ++ PL cy S) sz) S t) (va_A (X ++ PL cy S) sz)) 0 0 (va_A (X ++ PL cy S) sz) := by
  refine Met.ofW (cc := cX9_soonest) (maxL := 6) (ret := (some .int)) (by decide) rfl ?_
  intro p e s m args below meth c s₁ B hml hv
  obtain ⟨rfl, hsz, ⟨hP, hK, hD0⟩, hN⟩ := hv
  have hx := B.exec
  have hb := B.bytes
  have hr := B.returns
  have hts := atoms_spec (ws := wsX9_soonest) B.pre
  have hown : s.vm.findClass RX9 = some m.cls := findClass_of_methodNamed B.named
  have hlocks := B.notSynchronized
  subst hsz
  have hD := hD0.self (sz := s.heap.size)
  generalize hAe : va_A (X ++ PL cy S) s.heap.size = A at hD ⊢
  have hA : ∀ q : Nat, s.heap.size ≤ q → A q := fun q h => by rw [← hAe]; exact Or.inr h
  have hS : va_S A s.heap s.heap [] := va_S.rf
  have hl := lv_entry ([.ref o1, .int x1, .int x2]) (n := 6) (Nat.le_of_ble_eq_true rfl)
  rw [lg_entry_eq]
  generalize (lg_sl ([.ref o1, .int x1, .int x2]) ++ List.replicate (6 - (lg_sl ([.ref o1, .int x1, .int x2])).length) Slot.unset).toArray = ls at hl ⊢
  have hl : lv_has ls 6 [(0, .ref o1), (1, .int x1), (2, .int x2)] := hl
  refine lv_iconst (v := -1) hx hb dX9_soonest_0 (by decide) ?_
  refine lv_istore_n (lv' := [(3, .int (-1 : Int32)), (0, .ref o1), (1, .int x1), (2, .int x2)]) hx hb dX9_soonest_1 rfl hl (by decide) rfl (fun ls hl => ?_)
  refine lv_ldcw (own := RX9) (v := 2147483647) hx hb hown (hts (.constant RX9 304 (2147483647)) (by decide +kernel)) dX9_soonest_2 ?_
  refine lv_istore (lv' := [(4, .int (2147483647 : Int32)), (3, .int (-1 : Int32)), (0, .ref o1), (1, .int x1), (2, .int x2)]) hx hb dX9_soonest_5 hl (by decide) rfl (fun ls hl => ?_)
  refine lv_iconst (v := 0) hx hb dX9_soonest_7 (by decide) ?_
  refine lv_istore (lv' := [(5, .int (0 : Int32)), (4, .int (2147483647 : Int32)), (3, .int (-1 : Int32)), (0, .ref o1), (1, .int x1), (2, .int x2)]) hx hb dX9_soonest_8 hl (by decide) rfl (fun ls hl => ?_)
  have loop10 : ∀ (n : Nat) (w10_3 : Int32) (w10_4 : Int32) (w10_5 : Int32) (H : Heap) (locs : List Loc) (ls : Array Slot), ((S.I o1 5).toInt - w10_5.toInt).toNat < n → 0 ≤ w10_5 → va_P D vwCl (X ++ PL cy S) H → va_S A s.heap H locs → lv_has ls 6 [(5, .int w10_5), (4, .int w10_4), (3, .int w10_3), (0, .ref o1), (1, .int x1), (2, .int x2)] → (∀ (w10_3x : Int32) (w10_4x : Int32) (w10_5x : Int32) (H : Heap) (locs : List Loc) (ls : Array Slot), 0 ≤ w10_5x → va_P D vwCl (X ++ PL cy S) H → va_S A s.heap H locs → lv_has ls 6 [(5, .int w10_5x), (4, .int w10_4x), (3, .int w10_3x), (0, .ref o1), (1, .int x1), (2, .int x2)] → f_X9_soonest_L10 S o1 x1 x2 n w10_3 w10_4 w10_5 = (w10_3x, w10_4x, w10_5x) → W p l e (headSpec wsX9_soonest ({ frames := 2, cells := 0, slots := 0, locals := 34 } : Room)).room s m [.ref o1, .int x1, .int x2].toArray below meth c H locs 0 0 (MQ below (va_Qi (fun r (_ : Unit) => r = f_X9_soonest S o1 x1 x2) (fun _ t => WD D cy X A S t) A) [.ref o1, .int x1, .int x2].toArray s 0 0 A) (F0 m 71 ls [])) → W p l e (headSpec wsX9_soonest ({ frames := 2, cells := 0, slots := 0, locals := 34 } : Room)).room s m [.ref o1, .int x1, .int x2].toArray below meth c H locs 0 0 (MQ below (va_Qi (fun r (_ : Unit) => r = f_X9_soonest S o1 x1 x2) (fun _ t => WD D cy X A S t) A) [.ref o1, .int x1, .int x2].toArray s 0 0 A) (F0 m 10 ls []) := by
    intro n
    induction n with
    | zero => intro w10_3 w10_4 w10_5 H locs ls hm; exact absurd hm (Nat.not_lt_zero _)
    | succ n ih10 =>
      intro w10_3 w10_4 w10_5 H locs ls hm hi hP hS hl ko
      refine lv_iload hx hb dX9_soonest_10 (lv_at hl 0 rfl) ?_
      refine lv_aload_n hx hb dX9_soonest_12 rfl (lv_at hl 3 rfl) ?_
      obtain ⟨k1, gk1, hk1⟩ := wGt (cy := cy) X S h_o1.1.1 h_o1.1.2.1
      refine va_get (D := D) (ci := 13) (v := .int (S.I o1 5)) (C := RX9) (T := TX9) (N := 11) hx hb hts (by decide +kernel) hown hK hP k1 hk1 rfl 5 (by decide) (hts (.fieldLink RX9 426 "Hobhouse" "stationCount" "I") (by decide +kernel)) (fun _ h9 => h9) rfl dX9_soonest_13 ?_
      refine lv_icmp_ge (tgt := 71) hx hb dX9_soonest_16 (by decide) (fun c2 => ?_) (fun c2 => ?_)
      · exact ko w10_3 w10_4 w10_5 _ _ _ (hi) hP hS (lv_sub hl [0, 1, 2, 3, 4, 5] rfl) (by rw [f_X9_soonest_L10_s, if_pos c2])
      · refine lv_aload_n hx hb dX9_soonest_19 rfl (lv_at hl 3 rfl) ?_
        obtain ⟨k3, gk3, hk3⟩ := wGt (cy := cy) X S h_o1.1.1 h_o1.1.2.1
        simp only [kE, h_o1.2.2.2.1.1] at hk3
        refine va_get (D := D) (ci := 13) (v := .ref (S.f o1 4)) (C := RX9) (T := TX9) (N := 11) hx hb hts (by decide +kernel) hown hK hP k3 hk3 rfl 4 (by decide) (hts (.fieldLink RX9 23 "Hobhouse" "stations" "[LHobhouse$Station;") (by decide +kernel)) (fun _ h9 => h9) rfl dX9_soonest_20 ?_
        refine lv_iload hx hb dX9_soonest_23 (lv_at hl 0 rfl) ?_
        obtain ⟨k4, gk4, hk4⟩ := wGt (cy := cy) X S h_o1.2.2.2.1.2.1 h_o1.2.2.2.1.2.2.1
        obtain ⟨e5, e5o⟩ := hSs.2.2.2 _ (by rw [cl_of (nlt_of_le hi)]; exact nlt_of c2)
        refine va_aldq hx hb hK hP k4 6 hk4 rfl (in_of (z_le hi) (by have := nlt_of c2; have := hSs.2.2.1; rw [hSs.1]; omega)) dX9_soonest_25 ?_
        rw [show S.r (S.f o1 4) w10_5.toNatClampNeg = some (S.q (S.f o1 4) w10_5.toNatClampNeg) from e5]
        refine W.eq (g2 := F0 m 26 ls [.ref (S.q (S.f o1 4) w10_5.toNatClampNeg)]) rfl ?_
        obtain ⟨k6, gk6, hk6⟩ := wGt (cy := cy) X S e5o.1.1 e5o.1.2.1
        refine va_get (D := D) (ci := 11) (v := .int (S.I (S.q (S.f o1 4) w10_5.toNatClampNeg) 0)) (C := RX7) (T := TX7) (N := 4) hx hb hts (by decide +kernel) hown hK hP k6 hk6 rfl 0 (by decide) (hts (.fieldLink RX9 477 "Hobhouse$Station" "kind" "C") (by decide +kernel)) (fun _ h9 => h9) rfl dX9_soonest_26 ?_
        refine lv_iload_n hx hb dX9_soonest_29 rfl (lv_at hl 4 rfl) ?_
        refine lv_icmp_ne (tgt := 65) hx hb dX9_soonest_30 (by decide) (fun c7 => ?_) (fun c7 => ?_)
        · refine lv_iinc (v := w10_5 + (1 : Int32)) (lv' := [(5, .int (w10_5 + (1 : Int32))), (4, .int w10_4), (3, .int w10_3), (0, .ref o1), (1, .int x1), (2, .int x2)]) hx hb dX9_soonest_65 hl (k := 0) rfl (by rfl) (by decide) rfl (fun ls hl => ?_)
          refine lv_goto (tgt := 10) hx hb dX9_soonest_68 (by decide) ?_
          exact ih10 w10_3 w10_4 (w10_5 + (1 : Int32)) _ _ _ (Nat.lt_of_lt_of_le (up_lt c2) (Nat.le_of_lt_succ hm)) (up_in c2 hi) hP hS (lv_sub hl [0, 1, 2, 3, 4, 5] rfl) (fun w10_3y w10_4y w10_5y H9 locs9 ls9 i9 P9 S9 l9 hfe => ko w10_3y w10_4y w10_5y H9 locs9 ls9 i9 P9 S9 l9 (Eq.trans (by rw [f_X9_soonest_L10_s, if_neg c2, if_neg c7]) hfe))
        · refine lv_aload_n hx hb dX9_soonest_33 rfl (lv_at hl 3 rfl) ?_
          obtain ⟨k8, gk8, hk8⟩ := wGt (cy := cy) X S h_o1.1.1 h_o1.1.2.1
          simp only [kE, h_o1.2.2.2.1.1] at hk8
          refine va_get (D := D) (ci := 13) (v := .ref (S.f o1 4)) (C := RX9) (T := TX9) (N := 11) hx hb hts (by decide +kernel) hown hK hP k8 hk8 rfl 4 (by decide) (hts (.fieldLink RX9 23 "Hobhouse" "stations" "[LHobhouse$Station;") (by decide +kernel)) (fun _ h9 => h9) rfl dX9_soonest_34 ?_
          refine lv_iload hx hb dX9_soonest_37 (lv_at hl 0 rfl) ?_
          obtain ⟨k9, gk9, hk9⟩ := wGt (cy := cy) X S h_o1.2.2.2.1.2.1 h_o1.2.2.2.1.2.2.1
          obtain ⟨e10, e10o⟩ := hSs.2.2.2 _ (by rw [cl_of (nlt_of_le hi)]; exact nlt_of c2)
          refine va_aldq hx hb hK hP k9 6 hk9 rfl (in_of (z_le hi) (by have := nlt_of c2; have := hSs.2.2.1; rw [hSs.1]; omega)) dX9_soonest_39 ?_
          rw [show S.r (S.f o1 4) w10_5.toNatClampNeg = some (S.q (S.f o1 4) w10_5.toNatClampNeg) from e10]
          refine W.eq (g2 := F0 m 40 ls [.ref (S.q (S.f o1 4) w10_5.toNatClampNeg)]) rfl ?_
          refine lv_iload_n hx hb dX9_soonest_40 rfl (lv_at hl 5 rfl) ?_
          have hFc := free_all hD hS hA
          obtain ⟨k11, gk11, hk11⟩ := wGt (cy := cy) X S e10o.1.1 e10o.1.2.1
          refine va_calli (va_runV (As := [.int x2]) (rest := []) ⟨hx, hb, hml, hown, hts⟩ (c_X7_endFrom l (cy := cy) (X := X) (D := D) S _ (S.q (S.f o1 4) w10_5.toNatClampNeg) e10o x2) (cwV 1 hts gX9_soonest_X7_endFrom rfl rfl rfl (by decide +kernel) ⟨Nat.le_of_ble_eq_true rfl, Nat.le_of_ble_eq_true rfl⟩) ⟨fun a U g mk q => ⟨q.1, q.2.1, q.2.2.1.calling, NW.same (u := U) (U := U.calling g mk a) rfl q.2.2.2⟩, va_recv hK hP (ci := 11) (q0 := k11) rfl hk11, fun U hU hW => ⟨rfl, by rw [hU], wd_pre hP hK hD hU hW, hN.warm hW⟩⟩ rfl rfl hl.1 rfl (lv_room (Nat.le_of_ble_eq_true rfl)) dX9_soonest_41 ⟨(Nat.zero_le _), (Nat.zero_le _)⟩) hS (fun q _ h => hFc q h) hFc (fun r12 u t H1 locs ht hvm hw hB hz1 hk1 hS => ?_)
          obtain ⟨hP, hD⟩ := wd_post hFc ht hB
          generalize H1 = H at hP hS ⊢
          obtain rfl : r12 = f_X7_endFrom S (S.q (S.f o1 4) w10_5.toNatClampNeg) x2 := hw
          refine lv_iload hx hb dX9_soonest_44 (lv_at hl 1 rfl) ?_
          refine lv_icmp_ge (tgt := 65) hx hb dX9_soonest_46 (by decide) (fun c13 => ?_) (fun c13 => ?_)
          · refine lv_iinc (v := w10_5 + (1 : Int32)) (lv' := [(5, .int (w10_5 + (1 : Int32))), (4, .int w10_4), (3, .int w10_3), (0, .ref o1), (1, .int x1), (2, .int x2)]) hx hb dX9_soonest_65 hl (k := 0) rfl (by rfl) (by decide) rfl (fun ls hl => ?_)
            refine lv_goto (tgt := 10) hx hb dX9_soonest_68 (by decide) ?_
            exact ih10 w10_3 w10_4 (w10_5 + (1 : Int32)) _ _ _ (Nat.lt_of_lt_of_le (up_lt c2) (Nat.le_of_lt_succ hm)) (up_in c2 hi) hP hS (lv_sub hl [0, 1, 2, 3, 4, 5] rfl) (fun w10_3y w10_4y w10_5y H9 locs9 ls9 i9 P9 S9 l9 hfe => ko w10_3y w10_4y w10_5y H9 locs9 ls9 i9 P9 S9 l9 (Eq.trans (by rw [f_X9_soonest_L10_s, if_neg c2, if_pos c7, if_pos c13]) hfe))
          · refine lv_iload hx hb dX9_soonest_49 (lv_at hl 0 rfl) ?_
            refine lv_istore_n (lv' := [(3, .int w10_5), (5, .int w10_5), (4, .int w10_4), (0, .ref o1), (1, .int x1), (2, .int x2)]) hx hb dX9_soonest_51 rfl hl (by decide) rfl (fun ls hl => ?_)
            refine lv_aload_n hx hb dX9_soonest_52 rfl (lv_at hl 3 rfl) ?_
            obtain ⟨k14, gk14, hk14⟩ := wGt (cy := cy) X S h_o1.1.1 h_o1.1.2.1
            simp only [kE, h_o1.2.2.2.1.1] at hk14
            refine va_get (D := D) (ci := 13) (v := .ref (S.f o1 4)) (C := RX9) (T := TX9) (N := 11) hx hb hts (by decide +kernel) hown hK hP k14 hk14 rfl 4 (by decide) (hts (.fieldLink RX9 23 "Hobhouse" "stations" "[LHobhouse$Station;") (by decide +kernel)) (fun _ h9 => h9) rfl dX9_soonest_53 ?_
            refine lv_iload hx hb dX9_soonest_56 (lv_at hl 1 rfl) ?_
            obtain ⟨k15, gk15, hk15⟩ := wGt (cy := cy) X S h_o1.2.2.2.1.2.1 h_o1.2.2.2.1.2.2.1
            obtain ⟨e16, e16o⟩ := hSs.2.2.2 _ (by rw [cl_of (nlt_of_le hi)]; exact nlt_of c2)
            refine va_aldq hx hb hK hP k15 6 hk15 rfl (in_of (z_le hi) (by have := nlt_of c2; have := hSs.2.2.1; rw [hSs.1]; omega)) dX9_soonest_58 ?_
            rw [show S.r (S.f o1 4) w10_5.toNatClampNeg = some (S.q (S.f o1 4) w10_5.toNatClampNeg) from e16]
            refine W.eq (g2 := F0 m 59 ls [.ref (S.q (S.f o1 4) w10_5.toNatClampNeg)]) rfl ?_
            refine lv_iload_n hx hb dX9_soonest_59 rfl (lv_at hl 5 rfl) ?_
            have hFc := free_all hD hS hA
            obtain ⟨k17, gk17, hk17⟩ := wGt (cy := cy) X S e16o.1.1 e16o.1.2.1
            refine va_calli (va_runV (As := [.int x2]) (rest := []) ⟨hx, hb, hml, hown, hts⟩ (c_X7_endFrom l (cy := cy) (X := X) (D := D) S _ (S.q (S.f o1 4) w10_5.toNatClampNeg) e16o x2) (cwV 1 hts gX9_soonest_X7_endFrom rfl rfl rfl (by decide +kernel) ⟨Nat.le_of_ble_eq_true rfl, Nat.le_of_ble_eq_true rfl⟩) ⟨fun a U g mk q => ⟨q.1, q.2.1, q.2.2.1.calling, NW.same (u := U) (U := U.calling g mk a) rfl q.2.2.2⟩, va_recv hK hP (ci := 11) (q0 := k17) rfl hk17, fun U hU hW => ⟨rfl, by rw [hU], wd_pre hP hK hD hU hW, hN.warm hW⟩⟩ rfl rfl hl.1 rfl (lv_room (Nat.le_of_ble_eq_true rfl)) dX9_soonest_60 ⟨(Nat.zero_le _), (Nat.zero_le _)⟩) hS (fun q _ h => hFc q h) hFc (fun r18 u t H1 locs ht hvm hw hB hz1 hk1 hS => ?_)
            obtain ⟨hP, hD⟩ := wd_post hFc ht hB
            generalize H1 = H at hP hS ⊢
            obtain rfl : r18 = f_X7_endFrom S (S.q (S.f o1 4) w10_5.toNatClampNeg) x2 := hw
            refine lv_istore (lv' := [(4, .int (f_X7_endFrom S (S.q (S.f o1 4) w10_5.toNatClampNeg) x2)), (3, .int w10_5), (5, .int w10_5), (0, .ref o1), (1, .int x1), (2, .int x2)]) hx hb dX9_soonest_63 hl (by decide) rfl (fun ls hl => ?_)
            refine lv_iinc (v := w10_5 + (1 : Int32)) (lv' := [(5, .int (w10_5 + (1 : Int32))), (4, .int (f_X7_endFrom S (S.q (S.f o1 4) w10_5.toNatClampNeg) x2)), (3, .int w10_5), (0, .ref o1), (1, .int x1), (2, .int x2)]) hx hb dX9_soonest_65 hl (k := 2) rfl (by rfl) (by decide) rfl (fun ls hl => ?_)
            refine lv_goto (tgt := 10) hx hb dX9_soonest_68 (by decide) ?_
            exact ih10 w10_5 (f_X7_endFrom S (S.q (S.f o1 4) w10_5.toNatClampNeg) x2) (w10_5 + (1 : Int32)) _ _ _ (Nat.lt_of_lt_of_le (up_lt c2) (Nat.le_of_lt_succ hm)) (up_in c2 hi) hP hS (lv_sub hl [0, 1, 2, 3, 4, 5] rfl) (fun w10_3y w10_4y w10_5y H9 locs9 ls9 i9 P9 S9 l9 hfe => ko w10_3y w10_4y w10_5y H9 locs9 ls9 i9 P9 S9 l9 (Eq.trans (by rw [f_X9_soonest_L10_s, if_neg c2, if_pos c7, if_neg c13]) hfe))
  refine loop10 64 (-1 : Int32) (2147483647 : Int32) (0 : Int32) _ _ _ (by have := hSs.2.2.1; have h0 : (0 : Int32).toInt = 0 := rfl; rw [h0]; omega) (by decide) hP hS (lv_sub hl [0, 1, 2, 3, 4, 5] rfl) (fun z20 z21 z22 H locs ls hi10 hP hS hl c19 => ?_)
  refine lv_iload_n hx hb dX9_soonest_71 rfl (lv_at hl 2 rfl) ?_
  exact W.iret (v := z20) hx hb hr (fun t ht hW => ⟨⟨z20, (), rfl, (by show z20 = f_X9_soonest S o1 x1 x2; unfold f_X9_soonest; rw [l3_eq c19]), wd_end hP hK hD ht hW.alike⟩, hS.F ht⟩) hS.2.2 dX9_soonest_72 hlocks
def f_X9_allDamage_L4 (S : wPS) (o1 : Nat) : Nat → Int64 → Int32 → Int64 × Int32
  | 0, w4_1, w4_3 => (w4_1, w4_3)
  | n + 1, w4_1, w4_3 => if (S.I o1 1) ≤ w4_3 then (w4_1, w4_3) else f_X9_allDamage_L4 S o1 n (w4_1 + (S.J (S.q (S.f o1 0) w4_3.toNatClampNeg) 18)) (w4_3 + (1 : Int32))
theorem f_X9_allDamage_L4_s (S : wPS) (o1 : Nat) (n : Nat) (w4_1 : Int64) (w4_3 : Int32) : f_X9_allDamage_L4 S o1 (n + 1) w4_1 w4_3 = if (S.I o1 1) ≤ w4_3 then (w4_1, w4_3) else f_X9_allDamage_L4 S o1 n (w4_1 + (S.J (S.q (S.f o1 0) w4_3.toNatClampNeg) 18)) (w4_3 + (1 : Int32)) := rfl
def f_X9_allDamage (S : wPS) (o1 : Nat) : Int64 := l2 (f_X9_allDamage_L4 S o1 64 (0 : Int64) (0 : Int32)) (fun z8 z9 => z8)
set_option maxHeartbeats 4000000 in
set_option maxRecDepth 100000 in
theorem c_X9_allDamage (l : Launch) {D : va_G} {cy : Nat → ClassId} {X : va_W} (S : wPS) (sz : Nat) (o1 : Nat) (h_o1 : ok9 S o1) (hGs : gearsOk S o1) : Met l yX9_allDamage wsX9_allDamage ({ frames := 0, cells := 0, slots := 0, locals := 0 }) (va_Pc [.ref o1] (fun U => U.heap.size = sz ∧ WD D cy X (fun _ => True) S U ∧ NW U)) (va_Ql (fun r (_ : Unit) => r = f_X9_allDamage S o1) (fun _ t => WD D cy X (va_A (X ++ PL cy S) sz) S t) (va_A (X ++ PL cy S) sz)) 0 0 (va_A (X ++ PL cy S) sz) := by
  refine Met.ofW (cc := cX9_allDamage) (maxL := 4) (ret := (some .long)) (by decide) rfl ?_
  intro p e s m args below meth c s₁ B hml hv
  obtain ⟨rfl, hsz, ⟨hP, hK, hD0⟩, hN⟩ := hv
  have hx := B.exec
  have hb := B.bytes
  have hr := B.returns
  have hts := atoms_spec (ws := wsX9_allDamage) B.pre
  have hown : s.vm.findClass RX9 = some m.cls := findClass_of_methodNamed B.named
  have hlocks := B.notSynchronized
  subst hsz
  have hD := hD0.self (sz := s.heap.size)
  generalize hAe : va_A (X ++ PL cy S) s.heap.size = A at hD ⊢
  have hA : ∀ q : Nat, s.heap.size ≤ q → A q := fun q h => by rw [← hAe]; exact Or.inr h
  have hS : va_S A s.heap s.heap [] := va_S.rf
  have hl := lv_entry ([.ref o1]) (n := 4) (Nat.le_of_ble_eq_true rfl)
  rw [lg_entry_eq]
  generalize (lg_sl ([.ref o1]) ++ List.replicate (4 - (lg_sl ([.ref o1])).length) Slot.unset).toArray = ls at hl ⊢
  have hl : lv_has ls 4 [(0, .ref o1)] := hl
  refine lv_lconst (v := 0) hx hb dX9_allDamage_0 (by decide) ?_
  refine lv_lstore_n (lv' := [(1, .long (0 : Int64)), (0, .ref o1)]) hx hb dX9_allDamage_1 rfl hl (by decide) rfl (fun ls hl => ?_)
  refine lv_iconst (v := 0) hx hb dX9_allDamage_2 (by decide) ?_
  refine lv_istore_n (lv' := [(3, .int (0 : Int32)), (1, .long (0 : Int64)), (0, .ref o1)]) hx hb dX9_allDamage_3 rfl hl (by decide) rfl (fun ls hl => ?_)
  have loop4 : ∀ (n : Nat) (w4_1 : Int64) (w4_3 : Int32) (H : Heap) (locs : List Loc) (ls : Array Slot), ((S.I o1 1).toInt - w4_3.toInt).toNat < n → 0 ≤ w4_3 → va_P D vwCl (X ++ PL cy S) H → va_S A s.heap H locs → lv_has ls 4 [(3, .int w4_3), (1, .long w4_1), (0, .ref o1)] → (∀ (w4_1x : Int64) (w4_3x : Int32) (H : Heap) (locs : List Loc) (ls : Array Slot), 0 ≤ w4_3x → va_P D vwCl (X ++ PL cy S) H → va_S A s.heap H locs → lv_has ls 4 [(3, .int w4_3x), (1, .long w4_1x), (0, .ref o1)] → f_X9_allDamage_L4 S o1 n w4_1 w4_3 = (w4_1x, w4_3x) → W p l e (headSpec wsX9_allDamage ({ frames := 0, cells := 0, slots := 0, locals := 0 } : Room)).room s m [.ref o1].toArray below meth c H locs 0 0 (MQ below (va_Ql (fun r (_ : Unit) => r = f_X9_allDamage S o1) (fun _ t => WD D cy X A S t) A) [.ref o1].toArray s 0 0 A) (F0 m 30 ls [])) → W p l e (headSpec wsX9_allDamage ({ frames := 0, cells := 0, slots := 0, locals := 0 } : Room)).room s m [.ref o1].toArray below meth c H locs 0 0 (MQ below (va_Ql (fun r (_ : Unit) => r = f_X9_allDamage S o1) (fun _ t => WD D cy X A S t) A) [.ref o1].toArray s 0 0 A) (F0 m 4 ls []) := by
    intro n
    induction n with
    | zero => intro w4_1 w4_3 H locs ls hm; exact absurd hm (Nat.not_lt_zero _)
    | succ n ih4 =>
      intro w4_1 w4_3 H locs ls hm hi hP hS hl ko
      refine lv_iload_n hx hb dX9_allDamage_4 rfl (lv_at hl 0 rfl) ?_
      refine lv_aload_n hx hb dX9_allDamage_5 rfl (lv_at hl 2 rfl) ?_
      obtain ⟨k1, gk1, hk1⟩ := wGt (cy := cy) X S h_o1.1.1 h_o1.1.2.1
      refine va_get (D := D) (ci := 13) (v := .int (S.I o1 1)) (C := RX9) (T := TX9) (N := 11) hx hb hts (by decide +kernel) hown hK hP k1 hk1 rfl 1 (by decide) (hts (.fieldLink RX9 64 "Hobhouse" "gearCount" "I") (by decide +kernel)) (fun _ h9 => h9) rfl dX9_allDamage_6 ?_
      refine lv_icmp_ge (tgt := 30) hx hb dX9_allDamage_9 (by decide) (fun c2 => ?_) (fun c2 => ?_)
      · exact ko w4_1 w4_3 _ _ _ (hi) hP hS (lv_sub hl [0, 1, 2] rfl) (by rw [f_X9_allDamage_L4_s, if_pos c2])
      · refine lv_lload_n hx hb dX9_allDamage_12 rfl (lv_at hl 1 rfl) ?_
        refine lv_aload_n hx hb dX9_allDamage_13 rfl (lv_at hl 2 rfl) ?_
        obtain ⟨k3, gk3, hk3⟩ := wGt (cy := cy) X S h_o1.1.1 h_o1.1.2.1
        simp only [kE, h_o1.2.1.1] at hk3
        refine va_get (D := D) (ci := 13) (v := .ref (S.f o1 0)) (C := RX9) (T := TX9) (N := 11) hx hb hts (by decide +kernel) hown hK hP k3 hk3 rfl 0 (by decide) (hts (.fieldLink RX9 11 "Hobhouse" "gears" "[LHobhouse$Gear;") (by decide +kernel)) (fun _ h9 => h9) rfl dX9_allDamage_14 ?_
        refine lv_iload_n hx hb dX9_allDamage_17 rfl (lv_at hl 0 rfl) ?_
        obtain ⟨k4, gk4, hk4⟩ := wGt (cy := cy) X S h_o1.2.1.2.1 h_o1.2.1.2.2.1
        obtain ⟨e5, e5o⟩ := hGs.2.2.2 _ (by rw [cl_of (nlt_of_le hi)]; exact nlt_of c2)
        refine va_aldq hx hb hK hP k4 4 hk4 rfl (in_of (z_le hi) (by have := nlt_of c2; have := hGs.2.2.1; rw [hGs.1]; omega)) dX9_allDamage_18 ?_
        rw [show S.r (S.f o1 0) w4_3.toNatClampNeg = some (S.q (S.f o1 0) w4_3.toNatClampNeg) from e5]
        refine W.eq (g2 := F0 m 19 ls [.ref (S.q (S.f o1 0) w4_3.toNatClampNeg), .long w4_1]) rfl ?_
        obtain ⟨k6, gk6, hk6⟩ := wGt (cy := cy) X S e5o.1.1 e5o.1.2.1
        refine va_get (D := D) (ci := 6) (v := .long (S.J (S.q (S.f o1 0) w4_3.toNatClampNeg) 18)) (C := RX2) (T := TX2) (N := 20) hx hb hts (by decide +kernel) hown hK hP k6 hk6 rfl 18 (by decide) (hts (.fieldLink RX9 387 "Hobhouse$Gear" "hurt" "J") (by decide +kernel)) (fun _ h9 => h9) rfl dX9_allDamage_19 ?_
        refine lv_ladd hx hb dX9_allDamage_22 ?_
        refine lv_lstore_n (lv' := [(1, .long (w4_1 + (S.J (S.q (S.f o1 0) w4_3.toNatClampNeg) 18))), (3, .int w4_3), (0, .ref o1)]) hx hb dX9_allDamage_23 rfl hl (by decide) rfl (fun ls hl => ?_)
        refine lv_iinc (v := w4_3 + (1 : Int32)) (lv' := [(3, .int (w4_3 + (1 : Int32))), (1, .long (w4_1 + (S.J (S.q (S.f o1 0) w4_3.toNatClampNeg) 18))), (0, .ref o1)]) hx hb dX9_allDamage_24 hl (k := 1) rfl (by rfl) (by decide) rfl (fun ls hl => ?_)
        refine lv_goto (tgt := 4) hx hb dX9_allDamage_27 (by decide) ?_
        exact ih4 (w4_1 + (S.J (S.q (S.f o1 0) w4_3.toNatClampNeg) 18)) (w4_3 + (1 : Int32)) _ _ _ (Nat.lt_of_lt_of_le (up_lt c2) (Nat.le_of_lt_succ hm)) (up_in c2 hi) hP hS (lv_sub hl [0, 1, 2] rfl) (fun w4_1y w4_3y H9 locs9 ls9 i9 P9 S9 l9 hfe => ko w4_1y w4_3y H9 locs9 ls9 i9 P9 S9 l9 (Eq.trans (by rw [f_X9_allDamage_L4_s, if_neg c2]) hfe))
  refine loop4 64 (0 : Int64) (0 : Int32) _ _ _ (by have := hGs.2.2.1; have h0 : (0 : Int32).toInt = 0 := rfl; rw [h0]; omega) (by decide) hP hS (lv_sub hl [0, 1, 2] rfl) (fun z8 z9 H locs ls hi4 hP hS hl c7 => ?_)
  refine lv_lload_n hx hb dX9_allDamage_30 rfl (lv_at hl 1 rfl) ?_
  exact W.lret (v := z8) hx hb hr (fun t ht hW => ⟨⟨z8, (), rfl, (by show z8 = f_X9_allDamage S o1; unfold f_X9_allDamage; rw [l2_eq c7]), wd_end hP hK hD ht hW.alike⟩, hS.F ht⟩) hS.2.2 dX9_allDamage_31 hlocks
def f_X9_separate (S : wPS) (o1 : Nat) (x1 : Int32) : Except String (Int32 × wPS) := eB (f_X9_gearAt S o1 x1) (fun r2 => if (S.I r2 19) = (-1 : Int32) then eB (f_X9_allowOnly (0 : Int32)) (fun _ => eB (f_X9_gearAt S o1 (S.I r2 19)) (fun r13 => .ok (((S.sI r2 19 (-1 : Int32)).sI r13 19 (-1 : Int32)).I r13 0, (S.sI r2 19 (-1 : Int32)).sI r13 19 (-1 : Int32)))) else eB (f_X9_allowOnly (1 : Int32)) (fun _ => eB (f_X9_gearAt S o1 (S.I r2 19)) (fun r25 => .ok (((S.sI r2 19 (-1 : Int32)).sI r25 19 (-1 : Int32)).I r25 0, (S.sI r2 19 (-1 : Int32)).sI r25 19 (-1 : Int32)))))
set_option maxHeartbeats 4000000 in
set_option maxRecDepth 100000 in
theorem c_X9_separate (l : Launch) (hst : l.stackTraces = false) {D : va_G} {cy : Nat → ClassId} {X : va_W} (S : wPS) (sz : Nat) (o1 : Nat) (h_o1 : ok9 S o1) (x1 : Int32) (hGs : gearsOk S o1) : vx_Met l yX9_separate wsX9_separate ({ frames := 7, cells := 3, slots := 18, locals := 103 }) (va_Pc [.ref o1, .int x1] (fun U => U.heap.size = sz ∧ WD D cy X (fun _ => True) S U ∧ NW U ∧ TH (va_A (X ++ PL cy S) sz) U)) (va_Qi (fun r (u : wPS) => f_X9_separate S o1 x1 = .ok (r, u) ∧ sh S u) (fun u t => WD D cy X (va_A (X ++ PL cy S) sz) u t) (va_A (X ++ PL cy S) sz)) (vx_X (fun (_ : Unit) => True) (fun E _ t => f_X9_separate S o1 x1 = .error E ∧ WD D cy X (va_A (X ++ PL cy S) sz) S t) (va_A (X ++ PL cy S) sz)) 3 18 (va_A (X ++ PL cy S) sz) := by
  refine vx_ofW (cc := cX9_separate) (maxL := 4) (ret := (some .int)) (by decide) rfl ?_
  intro p e s m args below meth c s₁ B hml hno hv
  obtain ⟨rfl, hsz, ⟨hP, hK, hD0⟩, hN, hTH⟩ := hv
  have hx := B.exec
  have hb := B.bytes
  have hr := B.returns
  have hts := atoms_spec (ws := wsX9_separate) B.pre
  have hown : s.vm.findClass RX9 = some m.cls := findClass_of_methodNamed B.named
  have hlocks := B.notSynchronized
  subst hsz
  have hD := hD0.self (sz := s.heap.size)
  generalize hAe : va_A (X ++ PL cy S) s.heap.size = A at hD hTH ⊢
  have hA : ∀ q : Nat, s.heap.size ≤ q → A q := fun q h => by rw [← hAe]; exact Or.inr h
  have hS : va_S A s.heap s.heap [] := va_S.rf
  have hl := lv_entry ([.ref o1, .int x1]) (n := 4) (Nat.le_of_ble_eq_true rfl)
  rw [lg_entry_eq]
  generalize (lg_sl ([.ref o1, .int x1]) ++ List.replicate (4 - (lg_sl ([.ref o1, .int x1])).length) Slot.unset).toArray = ls at hl ⊢
  have hl : lv_has ls 4 [(0, .ref o1), (1, .int x1)] := hl
  refine lv_aload_n hx hb dX9_separate_0 rfl (lv_at hl 0 rfl) ?_
  refine lv_iload_n hx hb dX9_separate_1 rfl (lv_at hl 1 rfl) ?_
  have hFc := free_all hD hS hA
  obtain ⟨k1, gk1, hk1⟩ := wGt (cy := cy) X S h_o1.1.1 h_o1.1.2.1
  refine vx_callq (vx_runV (As := [.int x1]) (rest := []) ⟨hx, hb, hml, hown, hts⟩ (c_X9_gearAt l hst (cy := cy) (X := X) (D := D) S _ o1 h_o1 x1 hGs) (cwV 1 hts gX9_separate_X9_gearAt rfl rfl rfl (by decide +kernel) ⟨Nat.le_of_ble_eq_true rfl, Nat.le_of_ble_eq_true rfl⟩) ⟨fun a U g mk q => ⟨q.1, q.2.1, q.2.2.1.calling, NW.same (u := U) (U := U.calling g mk a) rfl q.2.2.2.1, q.2.2.2.2.calling⟩, va_recv hK hP (ci := 13) (q0 := k1) rfl hk1, fun U hU hW => ⟨rfl, by rw [hU], wd_pre hP hK hD hU hW, hN.warm hW, th_pre hTH hS hFc hU hW⟩⟩ rfl rfl hl.1 rfl (lv_room (Nat.le_of_ble_eq_true rfl)) dX9_separate_2 ⟨Nat.le_of_ble_eq_true rfl, Nat.le_of_ble_eq_true rfl⟩) hS (fun q _ h => hFc q h) hFc (fun q _ h => hFc q h) (fun E ce q9 u t H1 locs ht hvm hw hB hz1 hk1 hS hq9 hce hcl => ?_) (fun r2 u t H1 locs ht hvm hw hB hz1 hk1 hS => ?_)
  · obtain ⟨c3, hB2⟩ := hB
    obtain ⟨hP, hD⟩ := wd_post hFc ht hB2
    exact vx_out (fun x h => (hno x h).elim) hlocks hq9 hce hcl (fun t2 ht2 hA2 => ⟨(), trivial, ⟨(by show f_X9_separate S o1 x1 = .error E; unfold f_X9_separate; rw [eB_er c3]), wd_end hP hK hD ht2 hA2⟩, hS.F ht2⟩) hS.2.2 (Nat.le_of_ble_eq_true rfl) (Nat.le_of_ble_eq_true rfl)
  · obtain ⟨r2, rfl, c4, o5⟩ := hw
    obtain ⟨hP, hD⟩ := wd_post hFc ht hB
    generalize H1 = H at hP hS ⊢
    refine W.eq (g2 := F0 m 5 ls [.ref r2]) rfl ?_
    refine lv_astore_n (lv' := [(2, .ref r2), (0, .ref o1), (1, .int x1)]) hx hb dX9_separate_5 rfl hl (by decide) rfl (fun ls hl => ?_)
    refine lv_aload_n hx hb dX9_separate_6 rfl (lv_at hl 0 rfl) ?_
    obtain ⟨k6, gk6, hk6⟩ := wGt (cy := cy) X S o5.1.1 o5.1.2.1
    refine va_get (D := D) (ci := 6) (v := .int (S.I r2 19)) (C := RX2) (T := TX2) (N := 20) hx hb hts (by decide +kernel) hown hK hP k6 hk6 rfl 19 (by decide) (hts (.fieldLink RX9 396 "Hobhouse$Gear" "mateNumber" "I") (by decide +kernel)) (fun _ h9 => h9) rfl dX9_separate_7 ?_
    refine lv_iconst (v := -1) hx hb dX9_separate_10 (by decide) ?_
    refine lv_icmp_eq (tgt := 18) hx hb dX9_separate_11 (by decide) (fun c7 => ?_) (fun c7 => ?_)
    · refine lv_iconst (v := 0) hx hb dX9_separate_18 (by decide) ?_
      have hFc := free_all hD hS hA
      refine vx_callv (vx_runS (As := [.int (0 : Int32)]) (rest := []) ⟨hx, hb, hml, hown, hts⟩ (c_X9_allowOnly l hst (cy := cy) (X := X) (D := D) S _ (0 : Int32)) (cwS 1 hts gX9_separate_X9_allowOnly rfl rfl rfl (by decide +kernel) ⟨Nat.le_of_ble_eq_true rfl, Nat.le_of_ble_eq_true rfl⟩) ⟨fun a U g mk q => ⟨q.1, q.2.1, q.2.2.1.calling, NW.same (u := U) (U := U.calling g mk a) rfl q.2.2.2.1, q.2.2.2.2.calling⟩, fun U hU hW => ⟨rfl, by rw [hU], wd_pre hP hK hD hU hW, hN.warm hW, th_pre hTH hS hFc hU hW⟩⟩ rfl rfl hl.1 rfl (lv_room (Nat.le_of_ble_eq_true rfl)) dX9_separate_19 ⟨Nat.le_of_ble_eq_true rfl, Nat.le_of_ble_eq_true rfl⟩) hS (fun q _ h => hFc q h) hFc (fun q _ h => hFc q h) (fun E ce q9 u t H1 locs ht hvm hw hB hz1 hk1 hS hq9 hce hcl => ?_) (fun u t H1 locs ht hvm hw hB hz1 hk1 hS => ?_)
      · obtain ⟨c9, hB2⟩ := hB
        obtain ⟨hP, hD⟩ := wd_post hFc ht hB2
        exact vx_out (fun x h => (hno x h).elim) hlocks hq9 hce hcl (fun t2 ht2 hA2 => ⟨(), trivial, ⟨(by show f_X9_separate S o1 x1 = .error E; unfold f_X9_separate; rw [eB_ok c4, if_pos c7, eB_er c9]), wd_end hP hK hD ht2 hA2⟩, hS.F ht2⟩) hS.2.2 (Nat.le_of_ble_eq_true rfl) (Nat.le_of_ble_eq_true rfl)
      · have c10 := hw
        obtain ⟨hP, hD⟩ := wd_post hFc ht hB
        generalize H1 = H at hP hS ⊢
        refine lv_aload_n hx hb dX9_separate_22 rfl (lv_at hl 1 rfl) ?_
        refine lv_aload_n hx hb dX9_separate_23 rfl (lv_at hl 0 rfl) ?_
        obtain ⟨k11, gk11, hk11⟩ := wGt (cy := cy) X S o5.1.1 o5.1.2.1
        refine va_get (D := D) (ci := 6) (v := .int (S.I r2 19)) (C := RX2) (T := TX2) (N := 20) hx hb hts (by decide +kernel) hown hK hP k11 hk11 rfl 19 (by decide) (hts (.fieldLink RX9 396 "Hobhouse$Gear" "mateNumber" "I") (by decide +kernel)) (fun _ h9 => h9) rfl dX9_separate_24 ?_
        have hFc := free_all hD hS hA
        obtain ⟨k12, gk12, hk12⟩ := wGt (cy := cy) X S h_o1.1.1 h_o1.1.2.1
        refine vx_callq (vx_runV (As := [.int (S.I r2 19)]) (rest := []) ⟨hx, hb, hml, hown, hts⟩ (c_X9_gearAt l hst (cy := cy) (X := X) (D := D) S _ o1 h_o1 (S.I r2 19) hGs) (cwV 1 hts gX9_separate_X9_gearAt rfl rfl rfl (by decide +kernel) ⟨Nat.le_of_ble_eq_true rfl, Nat.le_of_ble_eq_true rfl⟩) ⟨fun a U g mk q => ⟨q.1, q.2.1, q.2.2.1.calling, NW.same (u := U) (U := U.calling g mk a) rfl q.2.2.2.1, q.2.2.2.2.calling⟩, va_recv hK hP (ci := 13) (q0 := k12) rfl hk12, fun U hU hW => ⟨rfl, by rw [hU], wd_pre hP hK hD hU hW, hN.warm hW, th_pre hTH hS hFc hU hW⟩⟩ rfl rfl hl.1 rfl (lv_room (Nat.le_of_ble_eq_true rfl)) dX9_separate_27 ⟨Nat.le_of_ble_eq_true rfl, Nat.le_of_ble_eq_true rfl⟩) hS (fun q _ h => hFc q h) hFc (fun q _ h => hFc q h) (fun E ce q9 u t H1 locs ht hvm hw hB hz1 hk1 hS hq9 hce hcl => ?_) (fun r13 u t H1 locs ht hvm hw hB hz1 hk1 hS => ?_)
        · obtain ⟨c14, hB2⟩ := hB
          obtain ⟨hP, hD⟩ := wd_post hFc ht hB2
          exact vx_out (fun x h => (hno x h).elim) hlocks hq9 hce hcl (fun t2 ht2 hA2 => ⟨(), trivial, ⟨(by show f_X9_separate S o1 x1 = .error E; unfold f_X9_separate; rw [eB_ok c4, if_pos c7, eB_ok c10, eB_er c14]), wd_end hP hK hD ht2 hA2⟩, hS.F ht2⟩) hS.2.2 (Nat.le_of_ble_eq_true rfl) (Nat.le_of_ble_eq_true rfl)
        · obtain ⟨r13, rfl, c15, o16⟩ := hw
          obtain ⟨hP, hD⟩ := wd_post hFc ht hB
          generalize H1 = H at hP hS ⊢
          refine W.eq (g2 := F0 m 30 ls [.ref r13]) rfl ?_
          refine lv_astore_n (lv' := [(3, .ref r13), (2, .ref r2), (0, .ref o1), (1, .int x1)]) hx hb dX9_separate_30 rfl hl (by decide) rfl (fun ls hl => ?_)
          refine lv_aload_n hx hb dX9_separate_31 rfl (lv_at hl 1 rfl) ?_
          refine lv_iconst (v := -1) hx hb dX9_separate_32 (by decide) ?_
          obtain ⟨k17, gk17, hk17⟩ := wGt (cy := cy) X S o5.1.1 o5.1.2.1
          refine va_put (D := D) (ci := 6) (v := .int (-1 : Int32)) (ty := .int) (C := RX2) (T := TX2) (N := 20) hx hb hts (by decide +kernel) tyX2 tyX2_ok nmX2 hown hK hP hD hS k17 hk17 rfl 19 (by decide) (hts (.fieldLink RX9 396 "Hobhouse$Gear" "mateNumber" "I") (by decide +kernel)) (fun _ h9 => h9) rfl (by decide +kernel) (rfl) (rfl) (Nat.le_of_ble_eq_true rfl) dX9_separate_33 (fun H locs hP2 hD2 hS => ?_)
          have e9 := wPuI (cy := cy) (j := 19) (v := (-1 : Int32)) hD o5.1.1 o5.1.2.1 gk17 rfl
          have hP : va_P D vwCl (X ++ PL cy (S.sI r2 19 (-1 : Int32))) H := by rw [← e9]; exact hP2
          have hD : va_D A (X ++ PL cy (S.sI r2 19 (-1 : Int32))) := by rw [← e9]; exact hD2
          refine lv_aload_n hx hb dX9_separate_36 rfl (lv_at hl 0 rfl) ?_
          refine lv_iconst (v := -1) hx hb dX9_separate_37 (by decide) ?_
          obtain ⟨k18, gk18, hk18⟩ := wGt (cy := cy) X (S.sI r2 19 (-1 : Int32)) (((sh.rf S).I r2 19 (-1 : Int32)).L o16.1.1) (((sh.rf S).I r2 19 (-1 : Int32)).K o16.1.2.1)
          refine va_put (D := D) (ci := 6) (v := .int (-1 : Int32)) (ty := .int) (C := RX2) (T := TX2) (N := 20) hx hb hts (by decide +kernel) tyX2 tyX2_ok nmX2 hown hK hP hD hS k18 hk18 rfl 19 (by decide) (hts (.fieldLink RX9 396 "Hobhouse$Gear" "mateNumber" "I") (by decide +kernel)) (fun _ h9 => h9) rfl (by decide +kernel) (rfl) (rfl) (Nat.le_of_ble_eq_true rfl) dX9_separate_38 (fun H locs hP2 hD2 hS => ?_)
          have e9 := wPuI (cy := cy) (j := 19) (v := (-1 : Int32)) hD (((sh.rf S).I r2 19 (-1 : Int32)).L o16.1.1) (((sh.rf S).I r2 19 (-1 : Int32)).K o16.1.2.1) gk18 rfl
          have hP : va_P D vwCl (X ++ PL cy ((S.sI r2 19 (-1 : Int32)).sI r13 19 (-1 : Int32))) H := by rw [← e9]; exact hP2
          have hD : va_D A (X ++ PL cy ((S.sI r2 19 (-1 : Int32)).sI r13 19 (-1 : Int32))) := by rw [← e9]; exact hD2
          refine lv_aload_n hx hb dX9_separate_41 rfl (lv_at hl 0 rfl) ?_
          obtain ⟨k19, gk19, hk19⟩ := wGt (cy := cy) X ((S.sI r2 19 (-1 : Int32)).sI r13 19 (-1 : Int32)) ((((sh.rf S).I r2 19 (-1 : Int32)).I r13 19 (-1 : Int32)).L o16.1.1) ((((sh.rf S).I r2 19 (-1 : Int32)).I r13 19 (-1 : Int32)).K o16.1.2.1)
          refine va_get (D := D) (ci := 6) (v := .int (((S.sI r2 19 (-1 : Int32)).sI r13 19 (-1 : Int32)).I r13 0)) (C := RX2) (T := TX2) (N := 20) hx hb hts (by decide +kernel) hown hK hP k19 hk19 rfl 0 (by decide) (hts (.fieldLink RX9 419 "Hobhouse$Gear" "number" "I") (by decide +kernel)) (fun _ h9 => h9) rfl dX9_separate_42 ?_
          refine vx_ret ?_
          refine W.widen (k := 3) (n := 18) (Nat.le_of_ble_eq_true rfl) (Nat.le_of_ble_eq_true rfl) ?_
          exact W.iret (v := ((S.sI r2 19 (-1 : Int32)).sI r13 19 (-1 : Int32)).I r13 0) hx hb hr (fun t ht hW => ⟨⟨((S.sI r2 19 (-1 : Int32)).sI r13 19 (-1 : Int32)).I r13 0, (S.sI r2 19 (-1 : Int32)).sI r13 19 (-1 : Int32), rfl, (⟨(by show f_X9_separate S o1 x1 = .ok (((S.sI r2 19 (-1 : Int32)).sI r13 19 (-1 : Int32)).I r13 0, (S.sI r2 19 (-1 : Int32)).sI r13 19 (-1 : Int32)); unfold f_X9_separate; rw [eB_ok c4, if_pos c7, eB_ok c10, eB_ok c15]), (((sh.rf S).I r2 19 (-1 : Int32)).I r13 19 (-1 : Int32))⟩), wd_end hP hK hD ht hW.alike⟩, hS.F ht⟩) hS.2.2 dX9_separate_45 hlocks
    · refine lv_iconst (v := 1) hx hb dX9_separate_14 (by decide) ?_
      refine lv_goto (tgt := 19) hx hb dX9_separate_15 (by decide) ?_
      have hFc := free_all hD hS hA
      refine vx_callv (vx_runS (As := [.int (1 : Int32)]) (rest := []) ⟨hx, hb, hml, hown, hts⟩ (c_X9_allowOnly l hst (cy := cy) (X := X) (D := D) S _ (1 : Int32)) (cwS 1 hts gX9_separate_X9_allowOnly rfl rfl rfl (by decide +kernel) ⟨Nat.le_of_ble_eq_true rfl, Nat.le_of_ble_eq_true rfl⟩) ⟨fun a U g mk q => ⟨q.1, q.2.1, q.2.2.1.calling, NW.same (u := U) (U := U.calling g mk a) rfl q.2.2.2.1, q.2.2.2.2.calling⟩, fun U hU hW => ⟨rfl, by rw [hU], wd_pre hP hK hD hU hW, hN.warm hW, th_pre hTH hS hFc hU hW⟩⟩ rfl rfl hl.1 rfl (lv_room (Nat.le_of_ble_eq_true rfl)) dX9_separate_19 ⟨Nat.le_of_ble_eq_true rfl, Nat.le_of_ble_eq_true rfl⟩) hS (fun q _ h => hFc q h) hFc (fun q _ h => hFc q h) (fun E ce q9 u t H1 locs ht hvm hw hB hz1 hk1 hS hq9 hce hcl => ?_) (fun u t H1 locs ht hvm hw hB hz1 hk1 hS => ?_)
      · obtain ⟨c21, hB2⟩ := hB
        obtain ⟨hP, hD⟩ := wd_post hFc ht hB2
        exact vx_out (fun x h => (hno x h).elim) hlocks hq9 hce hcl (fun t2 ht2 hA2 => ⟨(), trivial, ⟨(by show f_X9_separate S o1 x1 = .error E; unfold f_X9_separate; rw [eB_ok c4, if_neg c7, eB_er c21]), wd_end hP hK hD ht2 hA2⟩, hS.F ht2⟩) hS.2.2 (Nat.le_of_ble_eq_true rfl) (Nat.le_of_ble_eq_true rfl)
      · have c22 := hw
        obtain ⟨hP, hD⟩ := wd_post hFc ht hB
        generalize H1 = H at hP hS ⊢
        refine lv_aload_n hx hb dX9_separate_22 rfl (lv_at hl 1 rfl) ?_
        refine lv_aload_n hx hb dX9_separate_23 rfl (lv_at hl 0 rfl) ?_
        obtain ⟨k23, gk23, hk23⟩ := wGt (cy := cy) X S o5.1.1 o5.1.2.1
        refine va_get (D := D) (ci := 6) (v := .int (S.I r2 19)) (C := RX2) (T := TX2) (N := 20) hx hb hts (by decide +kernel) hown hK hP k23 hk23 rfl 19 (by decide) (hts (.fieldLink RX9 396 "Hobhouse$Gear" "mateNumber" "I") (by decide +kernel)) (fun _ h9 => h9) rfl dX9_separate_24 ?_
        have hFc := free_all hD hS hA
        obtain ⟨k24, gk24, hk24⟩ := wGt (cy := cy) X S h_o1.1.1 h_o1.1.2.1
        refine vx_callq (vx_runV (As := [.int (S.I r2 19)]) (rest := []) ⟨hx, hb, hml, hown, hts⟩ (c_X9_gearAt l hst (cy := cy) (X := X) (D := D) S _ o1 h_o1 (S.I r2 19) hGs) (cwV 1 hts gX9_separate_X9_gearAt rfl rfl rfl (by decide +kernel) ⟨Nat.le_of_ble_eq_true rfl, Nat.le_of_ble_eq_true rfl⟩) ⟨fun a U g mk q => ⟨q.1, q.2.1, q.2.2.1.calling, NW.same (u := U) (U := U.calling g mk a) rfl q.2.2.2.1, q.2.2.2.2.calling⟩, va_recv hK hP (ci := 13) (q0 := k24) rfl hk24, fun U hU hW => ⟨rfl, by rw [hU], wd_pre hP hK hD hU hW, hN.warm hW, th_pre hTH hS hFc hU hW⟩⟩ rfl rfl hl.1 rfl (lv_room (Nat.le_of_ble_eq_true rfl)) dX9_separate_27 ⟨Nat.le_of_ble_eq_true rfl, Nat.le_of_ble_eq_true rfl⟩) hS (fun q _ h => hFc q h) hFc (fun q _ h => hFc q h) (fun E ce q9 u t H1 locs ht hvm hw hB hz1 hk1 hS hq9 hce hcl => ?_) (fun r25 u t H1 locs ht hvm hw hB hz1 hk1 hS => ?_)
        · obtain ⟨c26, hB2⟩ := hB
          obtain ⟨hP, hD⟩ := wd_post hFc ht hB2
          exact vx_out (fun x h => (hno x h).elim) hlocks hq9 hce hcl (fun t2 ht2 hA2 => ⟨(), trivial, ⟨(by show f_X9_separate S o1 x1 = .error E; unfold f_X9_separate; rw [eB_ok c4, if_neg c7, eB_ok c22, eB_er c26]), wd_end hP hK hD ht2 hA2⟩, hS.F ht2⟩) hS.2.2 (Nat.le_of_ble_eq_true rfl) (Nat.le_of_ble_eq_true rfl)
        · obtain ⟨r25, rfl, c27, o28⟩ := hw
          obtain ⟨hP, hD⟩ := wd_post hFc ht hB
          generalize H1 = H at hP hS ⊢
          refine W.eq (g2 := F0 m 30 ls [.ref r25]) rfl ?_
          refine lv_astore_n (lv' := [(3, .ref r25), (2, .ref r2), (0, .ref o1), (1, .int x1)]) hx hb dX9_separate_30 rfl hl (by decide) rfl (fun ls hl => ?_)
          refine lv_aload_n hx hb dX9_separate_31 rfl (lv_at hl 1 rfl) ?_
          refine lv_iconst (v := -1) hx hb dX9_separate_32 (by decide) ?_
          obtain ⟨k29, gk29, hk29⟩ := wGt (cy := cy) X S o5.1.1 o5.1.2.1
          refine va_put (D := D) (ci := 6) (v := .int (-1 : Int32)) (ty := .int) (C := RX2) (T := TX2) (N := 20) hx hb hts (by decide +kernel) tyX2 tyX2_ok nmX2 hown hK hP hD hS k29 hk29 rfl 19 (by decide) (hts (.fieldLink RX9 396 "Hobhouse$Gear" "mateNumber" "I") (by decide +kernel)) (fun _ h9 => h9) rfl (by decide +kernel) (rfl) (rfl) (Nat.le_of_ble_eq_true rfl) dX9_separate_33 (fun H locs hP2 hD2 hS => ?_)
          have e9 := wPuI (cy := cy) (j := 19) (v := (-1 : Int32)) hD o5.1.1 o5.1.2.1 gk29 rfl
          have hP : va_P D vwCl (X ++ PL cy (S.sI r2 19 (-1 : Int32))) H := by rw [← e9]; exact hP2
          have hD : va_D A (X ++ PL cy (S.sI r2 19 (-1 : Int32))) := by rw [← e9]; exact hD2
          refine lv_aload_n hx hb dX9_separate_36 rfl (lv_at hl 0 rfl) ?_
          refine lv_iconst (v := -1) hx hb dX9_separate_37 (by decide) ?_
          obtain ⟨k30, gk30, hk30⟩ := wGt (cy := cy) X (S.sI r2 19 (-1 : Int32)) (((sh.rf S).I r2 19 (-1 : Int32)).L o28.1.1) (((sh.rf S).I r2 19 (-1 : Int32)).K o28.1.2.1)
          refine va_put (D := D) (ci := 6) (v := .int (-1 : Int32)) (ty := .int) (C := RX2) (T := TX2) (N := 20) hx hb hts (by decide +kernel) tyX2 tyX2_ok nmX2 hown hK hP hD hS k30 hk30 rfl 19 (by decide) (hts (.fieldLink RX9 396 "Hobhouse$Gear" "mateNumber" "I") (by decide +kernel)) (fun _ h9 => h9) rfl (by decide +kernel) (rfl) (rfl) (Nat.le_of_ble_eq_true rfl) dX9_separate_38 (fun H locs hP2 hD2 hS => ?_)
          have e9 := wPuI (cy := cy) (j := 19) (v := (-1 : Int32)) hD (((sh.rf S).I r2 19 (-1 : Int32)).L o28.1.1) (((sh.rf S).I r2 19 (-1 : Int32)).K o28.1.2.1) gk30 rfl
          have hP : va_P D vwCl (X ++ PL cy ((S.sI r2 19 (-1 : Int32)).sI r25 19 (-1 : Int32))) H := by rw [← e9]; exact hP2
          have hD : va_D A (X ++ PL cy ((S.sI r2 19 (-1 : Int32)).sI r25 19 (-1 : Int32))) := by rw [← e9]; exact hD2
          refine lv_aload_n hx hb dX9_separate_41 rfl (lv_at hl 0 rfl) ?_
          obtain ⟨k31, gk31, hk31⟩ := wGt (cy := cy) X ((S.sI r2 19 (-1 : Int32)).sI r25 19 (-1 : Int32)) ((((sh.rf S).I r2 19 (-1 : Int32)).I r25 19 (-1 : Int32)).L o28.1.1) ((((sh.rf S).I r2 19 (-1 : Int32)).I r25 19 (-1 : Int32)).K o28.1.2.1)
          refine va_get (D := D) (ci := 6) (v := .int (((S.sI r2 19 (-1 : Int32)).sI r25 19 (-1 : Int32)).I r25 0)) (C := RX2) (T := TX2) (N := 20) hx hb hts (by decide +kernel) hown hK hP k31 hk31 rfl 0 (by decide) (hts (.fieldLink RX9 419 "Hobhouse$Gear" "number" "I") (by decide +kernel)) (fun _ h9 => h9) rfl dX9_separate_42 ?_
          refine vx_ret ?_
          refine W.widen (k := 3) (n := 18) (Nat.le_of_ble_eq_true rfl) (Nat.le_of_ble_eq_true rfl) ?_
          exact W.iret (v := ((S.sI r2 19 (-1 : Int32)).sI r25 19 (-1 : Int32)).I r25 0) hx hb hr (fun t ht hW => ⟨⟨((S.sI r2 19 (-1 : Int32)).sI r25 19 (-1 : Int32)).I r25 0, (S.sI r2 19 (-1 : Int32)).sI r25 19 (-1 : Int32), rfl, (⟨(by show f_X9_separate S o1 x1 = .ok (((S.sI r2 19 (-1 : Int32)).sI r25 19 (-1 : Int32)).I r25 0, (S.sI r2 19 (-1 : Int32)).sI r25 19 (-1 : Int32)); unfold f_X9_separate; rw [eB_ok c4, if_neg c7, eB_ok c22, eB_ok c27]), (((sh.rf S).I r2 19 (-1 : Int32)).I r25 19 (-1 : Int32))⟩), wd_end hP hK hD ht hW.alike⟩, hS.F ht⟩) hS.2.2 dX9_separate_45 hlocks
def f_X9_balance (S : wPS) (o1 : Nat) (x1 : Int32) (x2 : Int32) : Except String (Int32 × wPS) := eB (f_X9_gearAt S o1 x1) (fun r2 => eB (f_X9_gearAt S o1 x2) (fun r7 => eB (f_X9_needPair S r2 r7) (fun _ => if (S.I r2 9) = (0 : Int32) then if (S.I r7 9) = (0 : Int32) then eB (f_X9_allowOnly (1 : Int32)) (fun _ => if (f_X9_balancedShift S r2 r7) ≤ (50 : Int32) then .ok (f_X9_balancedShift S r2 r7, (S.sI r2 7 (f_X9_balancedShift S r2 r7)).sI r7 7 (-(f_X9_balancedShift S r2 r7))) else .error "java/util/NoSuchElementException") else eB (f_X9_allowOnly (0 : Int32)) (fun _ => if (f_X9_balancedShift S r2 r7) ≤ (50 : Int32) then .ok (f_X9_balancedShift S r2 r7, (S.sI r2 7 (f_X9_balancedShift S r2 r7)).sI r7 7 (-(f_X9_balancedShift S r2 r7))) else .error "java/util/NoSuchElementException") else eB (f_X9_allowOnly (0 : Int32)) (fun _ => if (f_X9_balancedShift S r2 r7) ≤ (50 : Int32) then .ok (f_X9_balancedShift S r2 r7, (S.sI r2 7 (f_X9_balancedShift S r2 r7)).sI r7 7 (-(f_X9_balancedShift S r2 r7))) else .error "java/util/NoSuchElementException"))))
set_option maxRecDepth 20000 in
theorem s_X9_balance_NSEE : ∀ w ∈ (vx_atS RX9 154 "java/util/NoSuchElementException" ["java/lang/RuntimeException", "java/lang/Exception"]).filter goodWord, w ∈ wsX9_balance := fun w h => List.mem_cons_of_mem _ (List.mem_append_left _ (List.mem_append_left _ (List.mem_append_right _ h)))
set_option maxHeartbeats 4000000 in
set_option maxRecDepth 100000 in
theorem c_X9_balance (l : Launch) (hst : l.stackTraces = false) {D : va_G} {cy : Nat → ClassId} {X : va_W} (S : wPS) (sz : Nat) (o1 : Nat) (h_o1 : ok9 S o1) (x1 : Int32) (x2 : Int32) (hGs : gearsOk S o1) : vx_Met l yX9_balance wsX9_balance ({ frames := 8, cells := 5, slots := 30, locals := 123 }) (va_Pc [.ref o1, .int x1, .int x2] (fun U => U.heap.size = sz ∧ WD D cy X (fun _ => True) S U ∧ NW U ∧ TH (va_A (X ++ PL cy S) sz) U)) (va_Qi (fun r (u : wPS) => f_X9_balance S o1 x1 x2 = .ok (r, u) ∧ sh S u) (fun u t => WD D cy X (va_A (X ++ PL cy S) sz) u t) (va_A (X ++ PL cy S) sz)) (vx_X (fun (_ : Unit) => True) (fun E _ t => f_X9_balance S o1 x1 x2 = .error E ∧ WD D cy X (va_A (X ++ PL cy S) sz) S t) (va_A (X ++ PL cy S) sz)) 5 30 (va_A (X ++ PL cy S) sz) := by
  refine vx_ofW (cc := cX9_balance) (maxL := 6) (ret := (some .int)) (by decide) rfl ?_
  intro p e s m args below meth c s₁ B hml hno hv
  obtain ⟨rfl, hsz, ⟨hP, hK, hD0⟩, hN, hTH⟩ := hv
  have hx := B.exec
  have hb := B.bytes
  have hr := B.returns
  have hts := atoms_spec (ws := wsX9_balance) B.pre
  have hown : s.vm.findClass RX9 = some m.cls := findClass_of_methodNamed B.named
  have hlocks := B.notSynchronized
  subst hsz
  have hD := hD0.self (sz := s.heap.size)
  generalize hAe : va_A (X ++ PL cy S) s.heap.size = A at hD hTH ⊢
  have hA : ∀ q : Nat, s.heap.size ≤ q → A q := fun q h => by rw [← hAe]; exact Or.inr h
  have hS : va_S A s.heap s.heap [] := va_S.rf
  have hl := lv_entry ([.ref o1, .int x1, .int x2]) (n := 6) (Nat.le_of_ble_eq_true rfl)
  rw [lg_entry_eq]
  generalize (lg_sl ([.ref o1, .int x1, .int x2]) ++ List.replicate (6 - (lg_sl ([.ref o1, .int x1, .int x2])).length) Slot.unset).toArray = ls at hl ⊢
  have hl : lv_has ls 6 [(0, .ref o1), (1, .int x1), (2, .int x2)] := hl
  refine lv_aload_n hx hb dX9_balance_0 rfl (lv_at hl 0 rfl) ?_
  refine lv_iload_n hx hb dX9_balance_1 rfl (lv_at hl 1 rfl) ?_
  have hFc := free_all hD hS hA
  obtain ⟨k1, gk1, hk1⟩ := wGt (cy := cy) X S h_o1.1.1 h_o1.1.2.1
  refine vx_callq (vx_runV (As := [.int x1]) (rest := []) ⟨hx, hb, hml, hown, hts⟩ (c_X9_gearAt l hst (cy := cy) (X := X) (D := D) S _ o1 h_o1 x1 hGs) (cwV 1 hts gX9_balance_X9_gearAt rfl rfl rfl (by decide +kernel) ⟨Nat.le_of_ble_eq_true rfl, Nat.le_of_ble_eq_true rfl⟩) ⟨fun a U g mk q => ⟨q.1, q.2.1, q.2.2.1.calling, NW.same (u := U) (U := U.calling g mk a) rfl q.2.2.2.1, q.2.2.2.2.calling⟩, va_recv hK hP (ci := 13) (q0 := k1) rfl hk1, fun U hU hW => ⟨rfl, by rw [hU], wd_pre hP hK hD hU hW, hN.warm hW, th_pre hTH hS hFc hU hW⟩⟩ rfl rfl hl.1 rfl (lv_room (Nat.le_of_ble_eq_true rfl)) dX9_balance_2 ⟨Nat.le_of_ble_eq_true rfl, Nat.le_of_ble_eq_true rfl⟩) hS (fun q _ h => hFc q h) hFc (fun q _ h => hFc q h) (fun E ce q9 u t H1 locs ht hvm hw hB hz1 hk1 hS hq9 hce hcl => ?_) (fun r2 u t H1 locs ht hvm hw hB hz1 hk1 hS => ?_)
  · obtain ⟨c3, hB2⟩ := hB
    obtain ⟨hP, hD⟩ := wd_post hFc ht hB2
    exact vx_out (fun x h => (hno x h).elim) hlocks hq9 hce hcl (fun t2 ht2 hA2 => ⟨(), trivial, ⟨(by show f_X9_balance S o1 x1 x2 = .error E; unfold f_X9_balance; rw [eB_er c3]), wd_end hP hK hD ht2 hA2⟩, hS.F ht2⟩) hS.2.2 (Nat.le_of_ble_eq_true rfl) (Nat.le_of_ble_eq_true rfl)
  · obtain ⟨r2, rfl, c4, o5⟩ := hw
    obtain ⟨hP, hD⟩ := wd_post hFc ht hB
    generalize H1 = H at hP hS ⊢
    refine W.eq (g2 := F0 m 5 ls [.ref r2]) rfl ?_
    refine lv_astore_n (lv' := [(3, .ref r2), (0, .ref o1), (1, .int x1), (2, .int x2)]) hx hb dX9_balance_5 rfl hl (by decide) rfl (fun ls hl => ?_)
    refine lv_aload_n hx hb dX9_balance_6 rfl (lv_at hl 1 rfl) ?_
    refine lv_iload_n hx hb dX9_balance_7 rfl (lv_at hl 3 rfl) ?_
    have hFc := free_all hD hS hA
    obtain ⟨k6, gk6, hk6⟩ := wGt (cy := cy) X S h_o1.1.1 h_o1.1.2.1
    refine vx_callq (vx_runV (As := [.int x2]) (rest := []) ⟨hx, hb, hml, hown, hts⟩ (c_X9_gearAt l hst (cy := cy) (X := X) (D := D) S _ o1 h_o1 x2 hGs) (cwV 1 hts gX9_balance_X9_gearAt rfl rfl rfl (by decide +kernel) ⟨Nat.le_of_ble_eq_true rfl, Nat.le_of_ble_eq_true rfl⟩) ⟨fun a U g mk q => ⟨q.1, q.2.1, q.2.2.1.calling, NW.same (u := U) (U := U.calling g mk a) rfl q.2.2.2.1, q.2.2.2.2.calling⟩, va_recv hK hP (ci := 13) (q0 := k6) rfl hk6, fun U hU hW => ⟨rfl, by rw [hU], wd_pre hP hK hD hU hW, hN.warm hW, th_pre hTH hS hFc hU hW⟩⟩ rfl rfl hl.1 rfl (lv_room (Nat.le_of_ble_eq_true rfl)) dX9_balance_8 ⟨Nat.le_of_ble_eq_true rfl, Nat.le_of_ble_eq_true rfl⟩) hS (fun q _ h => hFc q h) hFc (fun q _ h => hFc q h) (fun E ce q9 u t H1 locs ht hvm hw hB hz1 hk1 hS hq9 hce hcl => ?_) (fun r7 u t H1 locs ht hvm hw hB hz1 hk1 hS => ?_)
    · obtain ⟨c8, hB2⟩ := hB
      obtain ⟨hP, hD⟩ := wd_post hFc ht hB2
      exact vx_out (fun x h => (hno x h).elim) hlocks hq9 hce hcl (fun t2 ht2 hA2 => ⟨(), trivial, ⟨(by show f_X9_balance S o1 x1 x2 = .error E; unfold f_X9_balance; rw [eB_ok c4, eB_er c8]), wd_end hP hK hD ht2 hA2⟩, hS.F ht2⟩) hS.2.2 (Nat.le_of_ble_eq_true rfl) (Nat.le_of_ble_eq_true rfl)
    · obtain ⟨r7, rfl, c9, o10⟩ := hw
      obtain ⟨hP, hD⟩ := wd_post hFc ht hB
      generalize H1 = H at hP hS ⊢
      refine W.eq (g2 := F0 m 11 ls [.ref r7]) rfl ?_
      refine lv_astore (lv' := [(4, .ref r7), (3, .ref r2), (0, .ref o1), (1, .int x1), (2, .int x2)]) hx hb dX9_balance_11 hl (by decide) rfl (fun ls hl => ?_)
      refine lv_aload_n hx hb dX9_balance_13 rfl (lv_at hl 1 rfl) ?_
      refine lv_aload hx hb dX9_balance_14 (lv_at hl 0 rfl) ?_
      have hFc := free_all hD hS hA
      refine vx_callv (vx_runS (As := [.ref r2, .ref r7]) (rest := []) ⟨hx, hb, hml, hown, hts⟩ (c_X9_needPair l hst (cy := cy) (X := X) (D := D) S _ r2 o5 r7 o10) (cwS 2 hts gX9_balance_X9_needPair rfl rfl rfl (by decide +kernel) ⟨Nat.le_of_ble_eq_true rfl, Nat.le_of_ble_eq_true rfl⟩) ⟨fun a U g mk q => ⟨q.1, q.2.1, q.2.2.1.calling, NW.same (u := U) (U := U.calling g mk a) rfl q.2.2.2.1, q.2.2.2.2.calling⟩, fun U hU hW => ⟨rfl, by rw [hU], wd_pre hP hK hD hU hW, hN.warm hW, th_pre hTH hS hFc hU hW⟩⟩ rfl rfl hl.1 rfl (lv_room (Nat.le_of_ble_eq_true rfl)) dX9_balance_16 ⟨Nat.le_of_ble_eq_true rfl, Nat.le_of_ble_eq_true rfl⟩) hS (fun q _ h => hFc q h) hFc (fun q _ h => hFc q h) (fun E ce q9 u t H1 locs ht hvm hw hB hz1 hk1 hS hq9 hce hcl => ?_) (fun u t H1 locs ht hvm hw hB hz1 hk1 hS => ?_)
      · obtain ⟨c12, hB2⟩ := hB
        obtain ⟨hP, hD⟩ := wd_post hFc ht hB2
        exact vx_out (fun x h => (hno x h).elim) hlocks hq9 hce hcl (fun t2 ht2 hA2 => ⟨(), trivial, ⟨(by show f_X9_balance S o1 x1 x2 = .error E; unfold f_X9_balance; rw [eB_ok c4, eB_ok c9, eB_er c12]), wd_end hP hK hD ht2 hA2⟩, hS.F ht2⟩) hS.2.2 (Nat.le_of_ble_eq_true rfl) (Nat.le_of_ble_eq_true rfl)
      · have c13 := hw
        obtain ⟨hP, hD⟩ := wd_post hFc ht hB
        generalize H1 = H at hP hS ⊢
        refine lv_aload_n hx hb dX9_balance_19 rfl (lv_at hl 1 rfl) ?_
        obtain ⟨k14, gk14, hk14⟩ := wGt (cy := cy) X S o5.1.1 o5.1.2.1
        refine va_get (D := D) (ci := 6) (v := .int (S.I r2 9)) (C := RX2) (T := TX2) (N := 20) hx hb hts (by decide +kernel) hown hK hP k14 hk14 rfl 9 (by decide) (hts (.fieldLink RX9 81 "Hobhouse$Gear" "isCut" "Z") (by decide +kernel)) (fun _ h9 => h9) rfl dX9_balance_20 ?_
        refine lv_if_ne (tgt := 38) hx hb dX9_balance_23 (by decide) (fun c15 => ?_) (fun c15 => ?_)
        · refine lv_iconst (v := 0) hx hb dX9_balance_38 (by decide) ?_
          have hFc := free_all hD hS hA
          refine vx_callv (vx_runS (As := [.int (0 : Int32)]) (rest := []) ⟨hx, hb, hml, hown, hts⟩ (c_X9_allowOnly l hst (cy := cy) (X := X) (D := D) S _ (0 : Int32)) (cwS 1 hts gX9_balance_X9_allowOnly rfl rfl rfl (by decide +kernel) ⟨Nat.le_of_ble_eq_true rfl, Nat.le_of_ble_eq_true rfl⟩) ⟨fun a U g mk q => ⟨q.1, q.2.1, q.2.2.1.calling, NW.same (u := U) (U := U.calling g mk a) rfl q.2.2.2.1, q.2.2.2.2.calling⟩, fun U hU hW => ⟨rfl, by rw [hU], wd_pre hP hK hD hU hW, hN.warm hW, th_pre hTH hS hFc hU hW⟩⟩ rfl rfl hl.1 rfl (lv_room (Nat.le_of_ble_eq_true rfl)) dX9_balance_39 ⟨Nat.le_of_ble_eq_true rfl, Nat.le_of_ble_eq_true rfl⟩) hS (fun q _ h => hFc q h) hFc (fun q _ h => hFc q h) (fun E ce q9 u t H1 locs ht hvm hw hB hz1 hk1 hS hq9 hce hcl => ?_) (fun u t H1 locs ht hvm hw hB hz1 hk1 hS => ?_)
          · obtain ⟨c17, hB2⟩ := hB
            obtain ⟨hP, hD⟩ := wd_post hFc ht hB2
            exact vx_out (fun x h => (hno x h).elim) hlocks hq9 hce hcl (fun t2 ht2 hA2 => ⟨(), trivial, ⟨(by show f_X9_balance S o1 x1 x2 = .error E; unfold f_X9_balance; rw [eB_ok c4, eB_ok c9, eB_ok c13, if_neg c15, eB_er c17]), wd_end hP hK hD ht2 hA2⟩, hS.F ht2⟩) hS.2.2 (Nat.le_of_ble_eq_true rfl) (Nat.le_of_ble_eq_true rfl)
          · have c18 := hw
            obtain ⟨hP, hD⟩ := wd_post hFc ht hB
            generalize H1 = H at hP hS ⊢
            refine lv_aload_n hx hb dX9_balance_42 rfl (lv_at hl 1 rfl) ?_
            refine lv_aload hx hb dX9_balance_43 (lv_at hl 0 rfl) ?_
            have hFc := free_all hD hS hA
            refine va_calli (va_runS (As := [.ref r2, .ref r7]) (rest := []) ⟨hx, hb, hml, hown, hts⟩ (c_X9_balancedShift l (cy := cy) (X := X) (D := D) S _ r2 o5 r7 o10) (cwS 2 hts gX9_balance_X9_balancedShift rfl rfl rfl (by decide +kernel) ⟨Nat.le_of_ble_eq_true rfl, Nat.le_of_ble_eq_true rfl⟩) ⟨fun a U g mk q => ⟨q.1, q.2.1, q.2.2.1.calling, NW.same (u := U) (U := U.calling g mk a) rfl q.2.2.2⟩, fun U hU hW => ⟨rfl, by rw [hU], wd_pre hP hK hD hU hW, hN.warm hW⟩⟩ rfl rfl hl.1 rfl (lv_room (Nat.le_of_ble_eq_true rfl)) dX9_balance_45 ⟨Nat.le_of_ble_eq_true rfl, Nat.le_of_ble_eq_true rfl⟩) hS (fun q _ h => hFc q h) hFc (fun r19 u t H1 locs ht hvm hw hB hz1 hk1 hS => ?_)
            obtain ⟨hP, hD⟩ := wd_post hFc ht hB
            generalize H1 = H at hP hS ⊢
            obtain rfl : r19 = f_X9_balancedShift S r2 r7 := hw
            refine lv_istore (lv' := [(5, .int (f_X9_balancedShift S r2 r7)), (4, .ref r7), (3, .ref r2), (0, .ref o1), (1, .int x1), (2, .int x2)]) hx hb dX9_balance_48 hl (by decide) rfl (fun ls hl => ?_)
            refine lv_iload hx hb dX9_balance_50 (lv_at hl 0 rfl) ?_
            refine lv_bipush (v := 50) hx hb dX9_balance_52 (by decide +kernel) ?_
            refine lv_icmp_le (tgt := 67) hx hb dX9_balance_54 (by decide) (fun c20 => ?_) (fun c20 => ?_)
            · refine lv_aload_n hx hb dX9_balance_67 rfl (lv_at hl 2 rfl) ?_
              refine lv_iload hx hb dX9_balance_68 (lv_at hl 0 rfl) ?_
              obtain ⟨k21, gk21, hk21⟩ := wGt (cy := cy) X S o5.1.1 o5.1.2.1
              refine va_put (D := D) (ci := 6) (v := .int (f_X9_balancedShift S r2 r7)) (ty := .int) (C := RX2) (T := TX2) (N := 20) hx hb hts (by decide +kernel) tyX2 tyX2_ok nmX2 hown hK hP hD hS k21 hk21 rfl 7 (by decide) (hts (.fieldLink RX9 89 "Hobhouse$Gear" "shift" "I") (by decide +kernel)) (fun _ h9 => h9) rfl (by decide +kernel) (rfl) (rfl) (Nat.le_of_ble_eq_true rfl) dX9_balance_70 (fun H locs hP2 hD2 hS => ?_)
              have e9 := wPuI (cy := cy) (j := 7) (v := f_X9_balancedShift S r2 r7) hD o5.1.1 o5.1.2.1 gk21 rfl
              have hP : va_P D vwCl (X ++ PL cy (S.sI r2 7 (f_X9_balancedShift S r2 r7))) H := by rw [← e9]; exact hP2
              have hD : va_D A (X ++ PL cy (S.sI r2 7 (f_X9_balancedShift S r2 r7))) := by rw [← e9]; exact hD2
              refine lv_aload hx hb dX9_balance_73 (lv_at hl 1 rfl) ?_
              refine lv_iload hx hb dX9_balance_75 (lv_at hl 0 rfl) ?_
              refine lv_ineg hx hb dX9_balance_77 ?_
              obtain ⟨k22, gk22, hk22⟩ := wGt (cy := cy) X (S.sI r2 7 (f_X9_balancedShift S r2 r7)) (((sh.rf S).I r2 7 (f_X9_balancedShift S r2 r7)).L o10.1.1) (((sh.rf S).I r2 7 (f_X9_balancedShift S r2 r7)).K o10.1.2.1)
              refine va_put (D := D) (ci := 6) (v := .int (-(f_X9_balancedShift S r2 r7))) (ty := .int) (C := RX2) (T := TX2) (N := 20) hx hb hts (by decide +kernel) tyX2 tyX2_ok nmX2 hown hK hP hD hS k22 hk22 rfl 7 (by decide) (hts (.fieldLink RX9 89 "Hobhouse$Gear" "shift" "I") (by decide +kernel)) (fun _ h9 => h9) rfl (by decide +kernel) (rfl) (rfl) (Nat.le_of_ble_eq_true rfl) dX9_balance_78 (fun H locs hP2 hD2 hS => ?_)
              have e9 := wPuI (cy := cy) (j := 7) (v := -(f_X9_balancedShift S r2 r7)) hD (((sh.rf S).I r2 7 (f_X9_balancedShift S r2 r7)).L o10.1.1) (((sh.rf S).I r2 7 (f_X9_balancedShift S r2 r7)).K o10.1.2.1) gk22 rfl
              have hP : va_P D vwCl (X ++ PL cy ((S.sI r2 7 (f_X9_balancedShift S r2 r7)).sI r7 7 (-(f_X9_balancedShift S r2 r7)))) H := by rw [← e9]; exact hP2
              have hD : va_D A (X ++ PL cy ((S.sI r2 7 (f_X9_balancedShift S r2 r7)).sI r7 7 (-(f_X9_balancedShift S r2 r7)))) := by rw [← e9]; exact hD2
              refine lv_iload hx hb dX9_balance_81 (lv_at hl 0 rfl) ?_
              refine vx_ret ?_
              refine W.widen (k := 5) (n := 30) (Nat.le_of_ble_eq_true rfl) (Nat.le_of_ble_eq_true rfl) ?_
              exact W.iret (v := f_X9_balancedShift S r2 r7) hx hb hr (fun t ht hW => ⟨⟨f_X9_balancedShift S r2 r7, (S.sI r2 7 (f_X9_balancedShift S r2 r7)).sI r7 7 (-(f_X9_balancedShift S r2 r7)), rfl, (⟨(by show f_X9_balance S o1 x1 x2 = .ok (f_X9_balancedShift S r2 r7, (S.sI r2 7 (f_X9_balancedShift S r2 r7)).sI r7 7 (-(f_X9_balancedShift S r2 r7))); unfold f_X9_balance; rw [eB_ok c4, eB_ok c9, eB_ok c13, if_neg c15, eB_ok c18, if_pos c20]), (((sh.rf S).I r2 7 (f_X9_balancedShift S r2 r7)).I r7 7 (-(f_X9_balancedShift S r2 r7)))⟩), wd_end hP hK hD ht hW.alike⟩, hS.F ht⟩) hS.2.2 dX9_balance_83 hlocks
            · obtain ⟨sa, hsa⟩ := hTH.2.2 (RX9, 152, "there are no such shifts") (by decide +kernel)
              exact vx_throwS hx hb hst (names := ["java/lang/RuntimeException", "java/lang/Exception"]) hown (by decide +kernel) (by decide +kernel) (hts (.classLink RX9 150 "java/util/NoSuchElementException") (by decide +kernel)) (hts (.initialized "java/util/NoSuchElementException") (by decide +kernel)) hsa (th_at (B := exW_X9_NSEE) (fun w h => hts w (s_X9_balance_NSEE w h)) rfl (by simp only [exW, List.mem_append]; intro w h; simp [h]) hTH.2.1) (List.forall_mem_cons.mpr ⟨by decide +kernel, List.forall_mem_cons.mpr ⟨by decide +kernel, exW_X9_NSEE_ok⟩⟩) hTH.1.1 hTH.1.2 hS (hl.1.trans hml.symm) dX9_balance_57 dX9_balance_60 dX9_balance_61 dX9_balance_63 dX9_balance_66 (fun x h => (hno x h).elim) (Nat.le_of_ble_eq_true rfl) (Nat.le_of_ble_eq_true rfl) (Nat.le_of_ble_eq_true rfl) (Nat.le_of_ble_eq_true rfl) hlocks (fun t hA2 h1 h2 => ⟨(), trivial, ⟨(by show f_X9_balance S o1 x1 x2 = .error "java/util/NoSuchElementException"; unfold f_X9_balance; rw [eB_ok c4, eB_ok c9, eB_ok c13, if_neg c15, eB_ok c18, if_neg c20]), wd_exc hP hK hD hA2 h2⟩, exc_F hS h1 h2⟩) hS.2.2 (Nat.le_of_ble_eq_true rfl) (Nat.le_of_ble_eq_true rfl)
        · refine lv_aload hx hb dX9_balance_26 (lv_at hl 0 rfl) ?_
          obtain ⟨k23, gk23, hk23⟩ := wGt (cy := cy) X S o10.1.1 o10.1.2.1
          refine va_get (D := D) (ci := 6) (v := .int (S.I r7 9)) (C := RX2) (T := TX2) (N := 20) hx hb hts (by decide +kernel) hown hK hP k23 hk23 rfl 9 (by decide) (hts (.fieldLink RX9 81 "Hobhouse$Gear" "isCut" "Z") (by decide +kernel)) (fun _ h9 => h9) rfl dX9_balance_28 ?_
          refine lv_if_ne (tgt := 38) hx hb dX9_balance_31 (by decide) (fun c24 => ?_) (fun c24 => ?_)
          · refine lv_iconst (v := 0) hx hb dX9_balance_38 (by decide) ?_
            have hFc := free_all hD hS hA
            refine vx_callv (vx_runS (As := [.int (0 : Int32)]) (rest := []) ⟨hx, hb, hml, hown, hts⟩ (c_X9_allowOnly l hst (cy := cy) (X := X) (D := D) S _ (0 : Int32)) (cwS 1 hts gX9_balance_X9_allowOnly rfl rfl rfl (by decide +kernel) ⟨Nat.le_of_ble_eq_true rfl, Nat.le_of_ble_eq_true rfl⟩) ⟨fun a U g mk q => ⟨q.1, q.2.1, q.2.2.1.calling, NW.same (u := U) (U := U.calling g mk a) rfl q.2.2.2.1, q.2.2.2.2.calling⟩, fun U hU hW => ⟨rfl, by rw [hU], wd_pre hP hK hD hU hW, hN.warm hW, th_pre hTH hS hFc hU hW⟩⟩ rfl rfl hl.1 rfl (lv_room (Nat.le_of_ble_eq_true rfl)) dX9_balance_39 ⟨Nat.le_of_ble_eq_true rfl, Nat.le_of_ble_eq_true rfl⟩) hS (fun q _ h => hFc q h) hFc (fun q _ h => hFc q h) (fun E ce q9 u t H1 locs ht hvm hw hB hz1 hk1 hS hq9 hce hcl => ?_) (fun u t H1 locs ht hvm hw hB hz1 hk1 hS => ?_)
            · obtain ⟨c26, hB2⟩ := hB
              obtain ⟨hP, hD⟩ := wd_post hFc ht hB2
              exact vx_out (fun x h => (hno x h).elim) hlocks hq9 hce hcl (fun t2 ht2 hA2 => ⟨(), trivial, ⟨(by show f_X9_balance S o1 x1 x2 = .error E; unfold f_X9_balance; rw [eB_ok c4, eB_ok c9, eB_ok c13, if_pos c15, if_neg c24, eB_er c26]), wd_end hP hK hD ht2 hA2⟩, hS.F ht2⟩) hS.2.2 (Nat.le_of_ble_eq_true rfl) (Nat.le_of_ble_eq_true rfl)
            · have c27 := hw
              obtain ⟨hP, hD⟩ := wd_post hFc ht hB
              generalize H1 = H at hP hS ⊢
              refine lv_aload_n hx hb dX9_balance_42 rfl (lv_at hl 1 rfl) ?_
              refine lv_aload hx hb dX9_balance_43 (lv_at hl 0 rfl) ?_
              have hFc := free_all hD hS hA
              refine va_calli (va_runS (As := [.ref r2, .ref r7]) (rest := []) ⟨hx, hb, hml, hown, hts⟩ (c_X9_balancedShift l (cy := cy) (X := X) (D := D) S _ r2 o5 r7 o10) (cwS 2 hts gX9_balance_X9_balancedShift rfl rfl rfl (by decide +kernel) ⟨Nat.le_of_ble_eq_true rfl, Nat.le_of_ble_eq_true rfl⟩) ⟨fun a U g mk q => ⟨q.1, q.2.1, q.2.2.1.calling, NW.same (u := U) (U := U.calling g mk a) rfl q.2.2.2⟩, fun U hU hW => ⟨rfl, by rw [hU], wd_pre hP hK hD hU hW, hN.warm hW⟩⟩ rfl rfl hl.1 rfl (lv_room (Nat.le_of_ble_eq_true rfl)) dX9_balance_45 ⟨Nat.le_of_ble_eq_true rfl, Nat.le_of_ble_eq_true rfl⟩) hS (fun q _ h => hFc q h) hFc (fun r28 u t H1 locs ht hvm hw hB hz1 hk1 hS => ?_)
              obtain ⟨hP, hD⟩ := wd_post hFc ht hB
              generalize H1 = H at hP hS ⊢
              obtain rfl : r28 = f_X9_balancedShift S r2 r7 := hw
              refine lv_istore (lv' := [(5, .int (f_X9_balancedShift S r2 r7)), (4, .ref r7), (3, .ref r2), (0, .ref o1), (1, .int x1), (2, .int x2)]) hx hb dX9_balance_48 hl (by decide) rfl (fun ls hl => ?_)
              refine lv_iload hx hb dX9_balance_50 (lv_at hl 0 rfl) ?_
              refine lv_bipush (v := 50) hx hb dX9_balance_52 (by decide +kernel) ?_
              refine lv_icmp_le (tgt := 67) hx hb dX9_balance_54 (by decide) (fun c29 => ?_) (fun c29 => ?_)
              · refine lv_aload_n hx hb dX9_balance_67 rfl (lv_at hl 2 rfl) ?_
                refine lv_iload hx hb dX9_balance_68 (lv_at hl 0 rfl) ?_
                obtain ⟨k30, gk30, hk30⟩ := wGt (cy := cy) X S o5.1.1 o5.1.2.1
                refine va_put (D := D) (ci := 6) (v := .int (f_X9_balancedShift S r2 r7)) (ty := .int) (C := RX2) (T := TX2) (N := 20) hx hb hts (by decide +kernel) tyX2 tyX2_ok nmX2 hown hK hP hD hS k30 hk30 rfl 7 (by decide) (hts (.fieldLink RX9 89 "Hobhouse$Gear" "shift" "I") (by decide +kernel)) (fun _ h9 => h9) rfl (by decide +kernel) (rfl) (rfl) (Nat.le_of_ble_eq_true rfl) dX9_balance_70 (fun H locs hP2 hD2 hS => ?_)
                have e9 := wPuI (cy := cy) (j := 7) (v := f_X9_balancedShift S r2 r7) hD o5.1.1 o5.1.2.1 gk30 rfl
                have hP : va_P D vwCl (X ++ PL cy (S.sI r2 7 (f_X9_balancedShift S r2 r7))) H := by rw [← e9]; exact hP2
                have hD : va_D A (X ++ PL cy (S.sI r2 7 (f_X9_balancedShift S r2 r7))) := by rw [← e9]; exact hD2
                refine lv_aload hx hb dX9_balance_73 (lv_at hl 1 rfl) ?_
                refine lv_iload hx hb dX9_balance_75 (lv_at hl 0 rfl) ?_
                refine lv_ineg hx hb dX9_balance_77 ?_
                obtain ⟨k31, gk31, hk31⟩ := wGt (cy := cy) X (S.sI r2 7 (f_X9_balancedShift S r2 r7)) (((sh.rf S).I r2 7 (f_X9_balancedShift S r2 r7)).L o10.1.1) (((sh.rf S).I r2 7 (f_X9_balancedShift S r2 r7)).K o10.1.2.1)
                refine va_put (D := D) (ci := 6) (v := .int (-(f_X9_balancedShift S r2 r7))) (ty := .int) (C := RX2) (T := TX2) (N := 20) hx hb hts (by decide +kernel) tyX2 tyX2_ok nmX2 hown hK hP hD hS k31 hk31 rfl 7 (by decide) (hts (.fieldLink RX9 89 "Hobhouse$Gear" "shift" "I") (by decide +kernel)) (fun _ h9 => h9) rfl (by decide +kernel) (rfl) (rfl) (Nat.le_of_ble_eq_true rfl) dX9_balance_78 (fun H locs hP2 hD2 hS => ?_)
                have e9 := wPuI (cy := cy) (j := 7) (v := -(f_X9_balancedShift S r2 r7)) hD (((sh.rf S).I r2 7 (f_X9_balancedShift S r2 r7)).L o10.1.1) (((sh.rf S).I r2 7 (f_X9_balancedShift S r2 r7)).K o10.1.2.1) gk31 rfl
                have hP : va_P D vwCl (X ++ PL cy ((S.sI r2 7 (f_X9_balancedShift S r2 r7)).sI r7 7 (-(f_X9_balancedShift S r2 r7)))) H := by rw [← e9]; exact hP2
                have hD : va_D A (X ++ PL cy ((S.sI r2 7 (f_X9_balancedShift S r2 r7)).sI r7 7 (-(f_X9_balancedShift S r2 r7)))) := by rw [← e9]; exact hD2
                refine lv_iload hx hb dX9_balance_81 (lv_at hl 0 rfl) ?_
                refine vx_ret ?_
                refine W.widen (k := 5) (n := 30) (Nat.le_of_ble_eq_true rfl) (Nat.le_of_ble_eq_true rfl) ?_
                exact W.iret (v := f_X9_balancedShift S r2 r7) hx hb hr (fun t ht hW => ⟨⟨f_X9_balancedShift S r2 r7, (S.sI r2 7 (f_X9_balancedShift S r2 r7)).sI r7 7 (-(f_X9_balancedShift S r2 r7)), rfl, (⟨(by show f_X9_balance S o1 x1 x2 = .ok (f_X9_balancedShift S r2 r7, (S.sI r2 7 (f_X9_balancedShift S r2 r7)).sI r7 7 (-(f_X9_balancedShift S r2 r7))); unfold f_X9_balance; rw [eB_ok c4, eB_ok c9, eB_ok c13, if_pos c15, if_neg c24, eB_ok c27, if_pos c29]), (((sh.rf S).I r2 7 (f_X9_balancedShift S r2 r7)).I r7 7 (-(f_X9_balancedShift S r2 r7)))⟩), wd_end hP hK hD ht hW.alike⟩, hS.F ht⟩) hS.2.2 dX9_balance_83 hlocks
              · obtain ⟨sa, hsa⟩ := hTH.2.2 (RX9, 152, "there are no such shifts") (by decide +kernel)
                exact vx_throwS hx hb hst (names := ["java/lang/RuntimeException", "java/lang/Exception"]) hown (by decide +kernel) (by decide +kernel) (hts (.classLink RX9 150 "java/util/NoSuchElementException") (by decide +kernel)) (hts (.initialized "java/util/NoSuchElementException") (by decide +kernel)) hsa (th_at (B := exW_X9_NSEE) (fun w h => hts w (s_X9_balance_NSEE w h)) rfl (by simp only [exW, List.mem_append]; intro w h; simp [h]) hTH.2.1) (List.forall_mem_cons.mpr ⟨by decide +kernel, List.forall_mem_cons.mpr ⟨by decide +kernel, exW_X9_NSEE_ok⟩⟩) hTH.1.1 hTH.1.2 hS (hl.1.trans hml.symm) dX9_balance_57 dX9_balance_60 dX9_balance_61 dX9_balance_63 dX9_balance_66 (fun x h => (hno x h).elim) (Nat.le_of_ble_eq_true rfl) (Nat.le_of_ble_eq_true rfl) (Nat.le_of_ble_eq_true rfl) (Nat.le_of_ble_eq_true rfl) hlocks (fun t hA2 h1 h2 => ⟨(), trivial, ⟨(by show f_X9_balance S o1 x1 x2 = .error "java/util/NoSuchElementException"; unfold f_X9_balance; rw [eB_ok c4, eB_ok c9, eB_ok c13, if_pos c15, if_neg c24, eB_ok c27, if_neg c29]), wd_exc hP hK hD hA2 h2⟩, exc_F hS h1 h2⟩) hS.2.2 (Nat.le_of_ble_eq_true rfl) (Nat.le_of_ble_eq_true rfl)
          · refine lv_iconst (v := 1) hx hb dX9_balance_34 (by decide) ?_
            refine lv_goto (tgt := 39) hx hb dX9_balance_35 (by decide) ?_
            have hFc := free_all hD hS hA
            refine vx_callv (vx_runS (As := [.int (1 : Int32)]) (rest := []) ⟨hx, hb, hml, hown, hts⟩ (c_X9_allowOnly l hst (cy := cy) (X := X) (D := D) S _ (1 : Int32)) (cwS 1 hts gX9_balance_X9_allowOnly rfl rfl rfl (by decide +kernel) ⟨Nat.le_of_ble_eq_true rfl, Nat.le_of_ble_eq_true rfl⟩) ⟨fun a U g mk q => ⟨q.1, q.2.1, q.2.2.1.calling, NW.same (u := U) (U := U.calling g mk a) rfl q.2.2.2.1, q.2.2.2.2.calling⟩, fun U hU hW => ⟨rfl, by rw [hU], wd_pre hP hK hD hU hW, hN.warm hW, th_pre hTH hS hFc hU hW⟩⟩ rfl rfl hl.1 rfl (lv_room (Nat.le_of_ble_eq_true rfl)) dX9_balance_39 ⟨Nat.le_of_ble_eq_true rfl, Nat.le_of_ble_eq_true rfl⟩) hS (fun q _ h => hFc q h) hFc (fun q _ h => hFc q h) (fun E ce q9 u t H1 locs ht hvm hw hB hz1 hk1 hS hq9 hce hcl => ?_) (fun u t H1 locs ht hvm hw hB hz1 hk1 hS => ?_)
            · obtain ⟨c33, hB2⟩ := hB
              obtain ⟨hP, hD⟩ := wd_post hFc ht hB2
              exact vx_out (fun x h => (hno x h).elim) hlocks hq9 hce hcl (fun t2 ht2 hA2 => ⟨(), trivial, ⟨(by show f_X9_balance S o1 x1 x2 = .error E; unfold f_X9_balance; rw [eB_ok c4, eB_ok c9, eB_ok c13, if_pos c15, if_pos c24, eB_er c33]), wd_end hP hK hD ht2 hA2⟩, hS.F ht2⟩) hS.2.2 (Nat.le_of_ble_eq_true rfl) (Nat.le_of_ble_eq_true rfl)
            · have c34 := hw
              obtain ⟨hP, hD⟩ := wd_post hFc ht hB
              generalize H1 = H at hP hS ⊢
              refine lv_aload_n hx hb dX9_balance_42 rfl (lv_at hl 1 rfl) ?_
              refine lv_aload hx hb dX9_balance_43 (lv_at hl 0 rfl) ?_
              have hFc := free_all hD hS hA
              refine va_calli (va_runS (As := [.ref r2, .ref r7]) (rest := []) ⟨hx, hb, hml, hown, hts⟩ (c_X9_balancedShift l (cy := cy) (X := X) (D := D) S _ r2 o5 r7 o10) (cwS 2 hts gX9_balance_X9_balancedShift rfl rfl rfl (by decide +kernel) ⟨Nat.le_of_ble_eq_true rfl, Nat.le_of_ble_eq_true rfl⟩) ⟨fun a U g mk q => ⟨q.1, q.2.1, q.2.2.1.calling, NW.same (u := U) (U := U.calling g mk a) rfl q.2.2.2⟩, fun U hU hW => ⟨rfl, by rw [hU], wd_pre hP hK hD hU hW, hN.warm hW⟩⟩ rfl rfl hl.1 rfl (lv_room (Nat.le_of_ble_eq_true rfl)) dX9_balance_45 ⟨Nat.le_of_ble_eq_true rfl, Nat.le_of_ble_eq_true rfl⟩) hS (fun q _ h => hFc q h) hFc (fun r35 u t H1 locs ht hvm hw hB hz1 hk1 hS => ?_)
              obtain ⟨hP, hD⟩ := wd_post hFc ht hB
              generalize H1 = H at hP hS ⊢
              obtain rfl : r35 = f_X9_balancedShift S r2 r7 := hw
              refine lv_istore (lv' := [(5, .int (f_X9_balancedShift S r2 r7)), (4, .ref r7), (3, .ref r2), (0, .ref o1), (1, .int x1), (2, .int x2)]) hx hb dX9_balance_48 hl (by decide) rfl (fun ls hl => ?_)
              refine lv_iload hx hb dX9_balance_50 (lv_at hl 0 rfl) ?_
              refine lv_bipush (v := 50) hx hb dX9_balance_52 (by decide +kernel) ?_
              refine lv_icmp_le (tgt := 67) hx hb dX9_balance_54 (by decide) (fun c36 => ?_) (fun c36 => ?_)
              · refine lv_aload_n hx hb dX9_balance_67 rfl (lv_at hl 2 rfl) ?_
                refine lv_iload hx hb dX9_balance_68 (lv_at hl 0 rfl) ?_
                obtain ⟨k37, gk37, hk37⟩ := wGt (cy := cy) X S o5.1.1 o5.1.2.1
                refine va_put (D := D) (ci := 6) (v := .int (f_X9_balancedShift S r2 r7)) (ty := .int) (C := RX2) (T := TX2) (N := 20) hx hb hts (by decide +kernel) tyX2 tyX2_ok nmX2 hown hK hP hD hS k37 hk37 rfl 7 (by decide) (hts (.fieldLink RX9 89 "Hobhouse$Gear" "shift" "I") (by decide +kernel)) (fun _ h9 => h9) rfl (by decide +kernel) (rfl) (rfl) (Nat.le_of_ble_eq_true rfl) dX9_balance_70 (fun H locs hP2 hD2 hS => ?_)
                have e9 := wPuI (cy := cy) (j := 7) (v := f_X9_balancedShift S r2 r7) hD o5.1.1 o5.1.2.1 gk37 rfl
                have hP : va_P D vwCl (X ++ PL cy (S.sI r2 7 (f_X9_balancedShift S r2 r7))) H := by rw [← e9]; exact hP2
                have hD : va_D A (X ++ PL cy (S.sI r2 7 (f_X9_balancedShift S r2 r7))) := by rw [← e9]; exact hD2
                refine lv_aload hx hb dX9_balance_73 (lv_at hl 1 rfl) ?_
                refine lv_iload hx hb dX9_balance_75 (lv_at hl 0 rfl) ?_
                refine lv_ineg hx hb dX9_balance_77 ?_
                obtain ⟨k38, gk38, hk38⟩ := wGt (cy := cy) X (S.sI r2 7 (f_X9_balancedShift S r2 r7)) (((sh.rf S).I r2 7 (f_X9_balancedShift S r2 r7)).L o10.1.1) (((sh.rf S).I r2 7 (f_X9_balancedShift S r2 r7)).K o10.1.2.1)
                refine va_put (D := D) (ci := 6) (v := .int (-(f_X9_balancedShift S r2 r7))) (ty := .int) (C := RX2) (T := TX2) (N := 20) hx hb hts (by decide +kernel) tyX2 tyX2_ok nmX2 hown hK hP hD hS k38 hk38 rfl 7 (by decide) (hts (.fieldLink RX9 89 "Hobhouse$Gear" "shift" "I") (by decide +kernel)) (fun _ h9 => h9) rfl (by decide +kernel) (rfl) (rfl) (Nat.le_of_ble_eq_true rfl) dX9_balance_78 (fun H locs hP2 hD2 hS => ?_)
                have e9 := wPuI (cy := cy) (j := 7) (v := -(f_X9_balancedShift S r2 r7)) hD (((sh.rf S).I r2 7 (f_X9_balancedShift S r2 r7)).L o10.1.1) (((sh.rf S).I r2 7 (f_X9_balancedShift S r2 r7)).K o10.1.2.1) gk38 rfl
                have hP : va_P D vwCl (X ++ PL cy ((S.sI r2 7 (f_X9_balancedShift S r2 r7)).sI r7 7 (-(f_X9_balancedShift S r2 r7)))) H := by rw [← e9]; exact hP2
                have hD : va_D A (X ++ PL cy ((S.sI r2 7 (f_X9_balancedShift S r2 r7)).sI r7 7 (-(f_X9_balancedShift S r2 r7)))) := by rw [← e9]; exact hD2
                refine lv_iload hx hb dX9_balance_81 (lv_at hl 0 rfl) ?_
                refine vx_ret ?_
                refine W.widen (k := 5) (n := 30) (Nat.le_of_ble_eq_true rfl) (Nat.le_of_ble_eq_true rfl) ?_
                exact W.iret (v := f_X9_balancedShift S r2 r7) hx hb hr (fun t ht hW => ⟨⟨f_X9_balancedShift S r2 r7, (S.sI r2 7 (f_X9_balancedShift S r2 r7)).sI r7 7 (-(f_X9_balancedShift S r2 r7)), rfl, (⟨(by show f_X9_balance S o1 x1 x2 = .ok (f_X9_balancedShift S r2 r7, (S.sI r2 7 (f_X9_balancedShift S r2 r7)).sI r7 7 (-(f_X9_balancedShift S r2 r7))); unfold f_X9_balance; rw [eB_ok c4, eB_ok c9, eB_ok c13, if_pos c15, if_pos c24, eB_ok c34, if_pos c36]), (((sh.rf S).I r2 7 (f_X9_balancedShift S r2 r7)).I r7 7 (-(f_X9_balancedShift S r2 r7)))⟩), wd_end hP hK hD ht hW.alike⟩, hS.F ht⟩) hS.2.2 dX9_balance_83 hlocks
              · obtain ⟨sa, hsa⟩ := hTH.2.2 (RX9, 152, "there are no such shifts") (by decide +kernel)
                exact vx_throwS hx hb hst (names := ["java/lang/RuntimeException", "java/lang/Exception"]) hown (by decide +kernel) (by decide +kernel) (hts (.classLink RX9 150 "java/util/NoSuchElementException") (by decide +kernel)) (hts (.initialized "java/util/NoSuchElementException") (by decide +kernel)) hsa (th_at (B := exW_X9_NSEE) (fun w h => hts w (s_X9_balance_NSEE w h)) rfl (by simp only [exW, List.mem_append]; intro w h; simp [h]) hTH.2.1) (List.forall_mem_cons.mpr ⟨by decide +kernel, List.forall_mem_cons.mpr ⟨by decide +kernel, exW_X9_NSEE_ok⟩⟩) hTH.1.1 hTH.1.2 hS (hl.1.trans hml.symm) dX9_balance_57 dX9_balance_60 dX9_balance_61 dX9_balance_63 dX9_balance_66 (fun x h => (hno x h).elim) (Nat.le_of_ble_eq_true rfl) (Nat.le_of_ble_eq_true rfl) (Nat.le_of_ble_eq_true rfl) (Nat.le_of_ble_eq_true rfl) hlocks (fun t hA2 h1 h2 => ⟨(), trivial, ⟨(by show f_X9_balance S o1 x1 x2 = .error "java/util/NoSuchElementException"; unfold f_X9_balance; rw [eB_ok c4, eB_ok c9, eB_ok c13, if_pos c15, if_pos c24, eB_ok c34, if_neg c36]), wd_exc hP hK hD hA2 h2⟩, exc_F hS h1 h2⟩) hS.2.2 (Nat.le_of_ble_eq_true rfl) (Nat.le_of_ble_eq_true rfl)
