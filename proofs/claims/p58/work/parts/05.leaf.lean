def f_X9_needRange (x1 : Int32) (x2 : Int32) (x3 : Int32) : Except String Unit := if x1 < x2 then .error "java/lang/IllegalArgumentException" else if x1 ≤ x3 then .ok () else .error "java/lang/IllegalArgumentException"
set_option maxRecDepth 20000 in
theorem s_X9_needRange_IAE : ∀ w ∈ (vx_atS RX9 114 "java/lang/IllegalArgumentException" ["java/lang/RuntimeException", "java/lang/Exception"]).filter goodWord, w ∈ wsX9_needRange := fun w h => List.mem_cons_of_mem _ (List.mem_append_right _ h)
theorem hd_X9_needRange : yX9_needRange.cls = RX9 ∧ yX9_needRange.cls ≠ "java/lang/invoke/MethodHandle" ∧ yX9_needRange.cls ≠ "java/lang/invoke/VarHandle" ∧ (parseMethodDescriptor yX9_needRange.desc).map (fun d => d.parameters.length) = some 3 := by decide +kernel
set_option maxHeartbeats 4000000 in
set_option maxRecDepth 100000 in
theorem c_X9_needRange (l : Launch) (hst : l.stackTraces = false) {D : va_G} {cy : Nat → ClassId} {X : va_W} (S : wPS) (sz : Nat) (x1 : Int32) (x2 : Int32) (x3 : Int32)  : vx_Met l yX9_needRange wsX9_needRange ({ frames := 6, cells := 1, slots := 6, locals := 82 }) (va_Pc [.int x1, .int x2, .int x3] (fun U => U.heap.size = sz ∧ WD D cy X (fun _ => True) S U ∧ NW U ∧ TH (va_A (X ++ PL cy S) sz) U)) (va_Qv (fun (_ : Unit) => f_X9_needRange x1 x2 x3 = .ok ()) (fun _ t => WD D cy X (va_A (X ++ PL cy S) sz) S t) (va_A (X ++ PL cy S) sz)) (vx_X (fun (_ : Unit) => True) (fun E _ t => f_X9_needRange x1 x2 x3 = .error E ∧ E ∈ ["java/lang/IllegalArgumentException"] ∧ WD D cy X (va_A (X ++ PL cy S) sz) S t) (va_A (X ++ PL cy S) sz)) 1 6 (va_A (X ++ PL cy S) sz) := by
  refine vx_ofW (cc := cX9_needRange) (maxL := 3) (ret := none) (by decide) rfl ?_
  intro p e s m args below meth c s₁ B hml hno hv
  obtain ⟨rfl, hsz, ⟨hP, hK, hD0⟩, hN, hTH⟩ := hv
  have hx := B.exec
  have hb := B.bytes
  have hr := B.returns
  have hts := atoms_spec (ws := wsX9_needRange) B.pre
  have hown : s.vm.findClass RX9 = some m.cls := findClass_of_methodNamed (x := yX9_needRange) B.named
  have hlocks := B.notSynchronized
  subst hsz
  have hD := hD0.self (sz := s.heap.size)
  generalize hAe : va_A (X ++ PL cy S) s.heap.size = A at hD hTH ⊢
  have hA : ∀ q : Nat, s.heap.size ≤ q → A q := fun q h => by rw [← hAe]; exact Or.inr h
  have hS : va_S A s.heap s.heap [] := va_S.rf
  have hl := lv_entry ([.int x1, .int x2, .int x3]) (n := 3) (Nat.le_of_ble_eq_true rfl)
  rw [lg_entry_eq]
  generalize (lg_sl ([.int x1, .int x2, .int x3]) ++ List.replicate (3 - (lg_sl ([.int x1, .int x2, .int x3])).length) Slot.unset).toArray = ls at hl ⊢
  have hl : lv_has ls 3 [(0, .int x1), (1, .int x2), (2, .int x3)] := hl
  refine lv_iload_n hx hb dX9_needRange_0 rfl (lv_at hl 0 rfl) ?_
  refine lv_iload_n hx hb dX9_needRange_1 rfl (lv_at hl 1 rfl) ?_
  refine lv_icmp_lt (tgt := 10) hx hb dX9_needRange_2 (by decide) (fun c1 => ?_) (fun c1 => ?_)
  · have c1i : x1.toInt < x2.toInt := lt_v rfl rfl c1
    obtain ⟨sa, hsa⟩ := hTH.2.2 (RX9, 525, "a number is out of range") (by decide +kernel)
    exact vx_throwSW hx hb hst (names := ["java/lang/RuntimeException", "java/lang/Exception"]) hown (by decide +kernel) (by decide +kernel) (hts (.classLink RX9 110 "java/lang/IllegalArgumentException") (by decide +kernel)) (hts (.initialized "java/lang/IllegalArgumentException") (by decide +kernel)) hsa (th_at (B := exW_X9_IAE) (fun w h => hts w (s_X9_needRange_IAE w h)) rfl (by simp only [exW, List.mem_append]; intro w h; simp [h]) hTH.2.1) (List.forall_mem_cons.mpr ⟨by decide +kernel, List.forall_mem_cons.mpr ⟨by decide +kernel, exW_X9_IAE_ok⟩⟩) hTH.1.1 hTH.1.2 hS (hl.1.trans hml.symm) dX9_needRange_10 dX9_needRange_13 dX9_needRange_14 dX9_needRange_17 dX9_needRange_20 (fun x h => (hno x h).elim) (Nat.le_of_ble_eq_true rfl) (Nat.le_of_ble_eq_true rfl) (Nat.le_of_ble_eq_true rfl) (Nat.le_of_ble_eq_true rfl) hlocks (fun t hA2 h1 h2 => ⟨(), trivial, ⟨(by show f_X9_needRange x1 x2 x3 = .error "java/lang/IllegalArgumentException"; unfold f_X9_needRange; rw [if_pos c1]), (by decide), wd_exc hP hK hD hA2 h2⟩, exc_F hS h1 h2⟩) hS.2.2 (Nat.le_of_ble_eq_true rfl) (Nat.le_of_ble_eq_true rfl)
  · have c1i : x2.toInt ≤ x1.toInt := nlt_v rfl rfl c1
    refine lv_iload_n hx hb dX9_needRange_5 rfl (lv_at hl 0 rfl) ?_
    refine lv_iload_n hx hb dX9_needRange_6 rfl (lv_at hl 2 rfl) ?_
    refine lv_icmp_le (tgt := 21) hx hb dX9_needRange_7 (by decide) (fun c2 => ?_) (fun c2 => ?_)
    · have c2i : x1.toInt ≤ x3.toInt := le_v rfl rfl c2
      refine vx_ret ?_
      refine W.widen (k := 1) (n := 6) (Nat.le_of_ble_eq_true rfl) (Nat.le_of_ble_eq_true rfl) ?_
      exact W.vret hx hb hr (fun t ht hW9 => ⟨⟨(), rfl, (by show f_X9_needRange x1 x2 x3 = .ok (); unfold f_X9_needRange; rw [if_neg c1, if_pos c2]), wd_end hP hK hD ht hW9.alike⟩, hS.F ht⟩) hS.2.2 dX9_needRange_21 hlocks
    · have c2i : x3.toInt < x1.toInt := nle_v rfl rfl c2
      obtain ⟨sa, hsa⟩ := hTH.2.2 (RX9, 525, "a number is out of range") (by decide +kernel)
      exact vx_throwSW hx hb hst (names := ["java/lang/RuntimeException", "java/lang/Exception"]) hown (by decide +kernel) (by decide +kernel) (hts (.classLink RX9 110 "java/lang/IllegalArgumentException") (by decide +kernel)) (hts (.initialized "java/lang/IllegalArgumentException") (by decide +kernel)) hsa (th_at (B := exW_X9_IAE) (fun w h => hts w (s_X9_needRange_IAE w h)) rfl (by simp only [exW, List.mem_append]; intro w h; simp [h]) hTH.2.1) (List.forall_mem_cons.mpr ⟨by decide +kernel, List.forall_mem_cons.mpr ⟨by decide +kernel, exW_X9_IAE_ok⟩⟩) hTH.1.1 hTH.1.2 hS (hl.1.trans hml.symm) dX9_needRange_10 dX9_needRange_13 dX9_needRange_14 dX9_needRange_17 dX9_needRange_20 (fun x h => (hno x h).elim) (Nat.le_of_ble_eq_true rfl) (Nat.le_of_ble_eq_true rfl) (Nat.le_of_ble_eq_true rfl) (Nat.le_of_ble_eq_true rfl) hlocks (fun t hA2 h1 h2 => ⟨(), trivial, ⟨(by show f_X9_needRange x1 x2 x3 = .error "java/lang/IllegalArgumentException"; unfold f_X9_needRange; rw [if_neg c1, if_neg c2]), (by decide), wd_exc hP hK hD hA2 h2⟩, exc_F hS h1 h2⟩) hS.2.2 (Nat.le_of_ble_eq_true rfl) (Nat.le_of_ble_eq_true rfl)
theorem nr_i {a lo hi : Int32} (h : f_X9_needRange a lo hi = .ok ()) : lo.toInt ≤ a.toInt ∧ a.toInt ≤ hi.toInt := by
  unfold f_X9_needRange at h
  split at h
  · cases h
  · split at h
    · exact ⟨nlt_i (by assumption), le_i (by assumption)⟩
    · cases h
def f_X9_needTeeth (x1 : Int32) : Except String Unit := eB (f_X9_needRange x1 (6 : Int32) (200 : Int32)) (fun _ => .ok ())
theorem hd_X9_needTeeth : yX9_needTeeth.cls = RX9 ∧ yX9_needTeeth.cls ≠ "java/lang/invoke/MethodHandle" ∧ yX9_needTeeth.cls ≠ "java/lang/invoke/VarHandle" ∧ (parseMethodDescriptor yX9_needTeeth.desc).map (fun d => d.parameters.length) = some 1 := by decide +kernel
set_option maxHeartbeats 4000000 in
set_option maxRecDepth 100000 in
theorem c_X9_needTeeth (l : Launch) (hst : l.stackTraces = false) {D : va_G} {cy : Nat → ClassId} {X : va_W} (S : wPS) (sz : Nat) (x1 : Int32)  : vx_Met l yX9_needTeeth wsX9_needTeeth ({ frames := 7, cells := 1, slots := 6, locals := 104 }) (va_Pc [.int x1] (fun U => U.heap.size = sz ∧ WD D cy X (fun _ => True) S U ∧ NW U ∧ TH (va_A (X ++ PL cy S) sz) U)) (va_Qv (fun (_ : Unit) => f_X9_needTeeth x1 = .ok ()) (fun _ t => WD D cy X (va_A (X ++ PL cy S) sz) S t) (va_A (X ++ PL cy S) sz)) (vx_X (fun (_ : Unit) => True) (fun E _ t => f_X9_needTeeth x1 = .error E ∧ E ∈ ["java/lang/IllegalArgumentException"] ∧ WD D cy X (va_A (X ++ PL cy S) sz) S t) (va_A (X ++ PL cy S) sz)) 1 6 (va_A (X ++ PL cy S) sz) := by
  refine vx_ofW (cc := cX9_needTeeth) (maxL := 1) (ret := none) (by decide) rfl ?_
  intro p e s m args below meth c s₁ B hml hno hv
  obtain ⟨rfl, hsz, ⟨hP, hK, hD0⟩, hN, hTH⟩ := hv
  have hx := B.exec
  have hb := B.bytes
  have hr := B.returns
  have hts := atoms_spec (ws := wsX9_needTeeth) B.pre
  have hown : s.vm.findClass RX9 = some m.cls := findClass_of_methodNamed (x := yX9_needTeeth) B.named
  have hlocks := B.notSynchronized
  subst hsz
  have hD := hD0.self (sz := s.heap.size)
  generalize hAe : va_A (X ++ PL cy S) s.heap.size = A at hD hTH ⊢
  have hA : ∀ q : Nat, s.heap.size ≤ q → A q := fun q h => by rw [← hAe]; exact Or.inr h
  have hS : va_S A s.heap s.heap [] := va_S.rf
  have hl := lv_entry ([.int x1]) (n := 1) (Nat.le_of_ble_eq_true rfl)
  rw [lg_entry_eq]
  generalize (lg_sl ([.int x1]) ++ List.replicate (1 - (lg_sl ([.int x1])).length) Slot.unset).toArray = ls at hl ⊢
  have hl : lv_has ls 1 [(0, .int x1)] := hl
  refine lv_iload_n hx hb dX9_needTeeth_0 rfl (lv_at hl 0 rfl) ?_
  refine lv_bipush (v := 6) hx hb dX9_needTeeth_1 (by decide +kernel) ?_
  refine lv_sipush (v := 200) hx hb dX9_needTeeth_3 (by decide +kernel) ?_
  have l32_6 : (6 : Int32).toInt = 6 := rfl
  have l32_200 : (200 : Int32).toInt = 200 := rfl
  have hFc := free_all hD hS hA
  refine vx_callv (vx_runS (As := [.int x1, .int (6 : Int32), .int (200 : Int32)]) (rest := []) ⟨hx, hb, hml, hown, hts⟩ (c_X9_needRange l hst (cy := cy) (X := X) (D := D) S _ x1 (6 : Int32) (200 : Int32)) (cwS 3 hts gX9_needTeeth_X9_needRange rfl rfl rfl hd_X9_needRange ⟨Nat.le_of_ble_eq_true rfl, Nat.le_of_ble_eq_true rfl⟩) (pSt hP hK hD hN hTH hS hFc) rfl rfl hl.1 rfl (lv_room (Nat.le_of_ble_eq_true rfl)) dX9_needTeeth_6 ⟨Nat.le_of_ble_eq_true rfl, Nat.le_of_ble_eq_true rfl⟩) hS (fun q _ h => hFc q h) hFc (fun q _ h => hFc q h) (fun E ce q9 u t H1 locs ht hvm hw hB hz1 hk1 hS hq9 hce hcl => ?_) (fun u t H1 locs ht hvm hw hB hz1 hk1 hS => ?_)
  · obtain ⟨c2, hEc2, hB2⟩ := hB
    obtain ⟨hP, hD⟩ := wd_post hFc ht hB2
    exact vx_out (fun x h => (hno x h).elim) hlocks hq9 hce hcl (fun t2 ht2 hA2 => ⟨(), trivial, ⟨(by show f_X9_needTeeth x1 = .error E; unfold f_X9_needTeeth; rw [eB_er c2]), (el_in (by decide) hEc2), wd_end hP hK hD ht2 hA2⟩, hS.F ht2⟩) hS.2.2 (Nat.le_of_ble_eq_true rfl) (Nat.le_of_ble_eq_true rfl)
  · have c3 := hw
    obtain ⟨hP, hD⟩ := wd_post hFc ht hB
    generalize H1 = H at hP hS ⊢
    have i4 := nr_i c3
    have i4l := i4.1
    have i4h := i4.2
    have l5 : (6 : Int32).toInt = 6 := rfl
    have l6 : (200 : Int32).toInt = 200 := rfl
    refine vx_ret ?_
    refine W.widen (k := 1) (n := 6) (Nat.le_of_ble_eq_true rfl) (Nat.le_of_ble_eq_true rfl) ?_
    exact W.vret hx hb hr (fun t ht hW9 => ⟨⟨(), rfl, (by show f_X9_needTeeth x1 = .ok (); unfold f_X9_needTeeth; rw [eB_ok c3]), wd_end hP hK hD ht hW9.alike⟩, hS.F ht⟩) hS.2.2 dX9_needTeeth_9 hlocks
def f_X9_needRatio (x1 : Int32) (x2 : Int32) : Except String Unit := eB (f_X9_needRange x1 (1 : Int32) (9999 : Int32)) (fun _ => eB (f_X9_needRange x2 (1 : Int32) (9999 : Int32)) (fun _ => .ok ()))
theorem hd_X9_needRatio : yX9_needRatio.cls = RX9 ∧ yX9_needRatio.cls ≠ "java/lang/invoke/MethodHandle" ∧ yX9_needRatio.cls ≠ "java/lang/invoke/VarHandle" ∧ (parseMethodDescriptor yX9_needRatio.desc).map (fun d => d.parameters.length) = some 2 := by decide +kernel
set_option maxHeartbeats 4000000 in
set_option maxRecDepth 100000 in
theorem c_X9_needRatio (l : Launch) (hst : l.stackTraces = false) {D : va_G} {cy : Nat → ClassId} {X : va_W} (S : wPS) (sz : Nat) (x1 : Int32) (x2 : Int32)  : vx_Met l yX9_needRatio wsX9_needRatio ({ frames := 7, cells := 2, slots := 12, locals := 104 }) (va_Pc [.int x1, .int x2] (fun U => U.heap.size = sz ∧ WD D cy X (fun _ => True) S U ∧ NW U ∧ TH (va_A (X ++ PL cy S) sz) U)) (va_Qv (fun (_ : Unit) => f_X9_needRatio x1 x2 = .ok ()) (fun _ t => WD D cy X (va_A (X ++ PL cy S) sz) S t) (va_A (X ++ PL cy S) sz)) (vx_X (fun (_ : Unit) => True) (fun E _ t => f_X9_needRatio x1 x2 = .error E ∧ E ∈ ["java/lang/IllegalArgumentException"] ∧ WD D cy X (va_A (X ++ PL cy S) sz) S t) (va_A (X ++ PL cy S) sz)) 2 12 (va_A (X ++ PL cy S) sz) := by
  refine vx_ofW (cc := cX9_needRatio) (maxL := 2) (ret := none) (by decide) rfl ?_
  intro p e s m args below meth c s₁ B hml hno hv
  obtain ⟨rfl, hsz, ⟨hP, hK, hD0⟩, hN, hTH⟩ := hv
  have hx := B.exec
  have hb := B.bytes
  have hr := B.returns
  have hts := atoms_spec (ws := wsX9_needRatio) B.pre
  have hown : s.vm.findClass RX9 = some m.cls := findClass_of_methodNamed (x := yX9_needRatio) B.named
  have hlocks := B.notSynchronized
  subst hsz
  have hD := hD0.self (sz := s.heap.size)
  generalize hAe : va_A (X ++ PL cy S) s.heap.size = A at hD hTH ⊢
  have hA : ∀ q : Nat, s.heap.size ≤ q → A q := fun q h => by rw [← hAe]; exact Or.inr h
  have hS : va_S A s.heap s.heap [] := va_S.rf
  have hl := lv_entry ([.int x1, .int x2]) (n := 2) (Nat.le_of_ble_eq_true rfl)
  rw [lg_entry_eq]
  generalize (lg_sl ([.int x1, .int x2]) ++ List.replicate (2 - (lg_sl ([.int x1, .int x2])).length) Slot.unset).toArray = ls at hl ⊢
  have hl : lv_has ls 2 [(0, .int x1), (1, .int x2)] := hl
  refine lv_iload_n hx hb dX9_needRatio_0 rfl (lv_at hl 0 rfl) ?_
  refine lv_iconst (v := 1) hx hb dX9_needRatio_1 (by decide) ?_
  refine lv_sipush (v := 9999) hx hb dX9_needRatio_2 (by decide +kernel) ?_
  have l32_1 : (1 : Int32).toInt = 1 := rfl
  have l32_9999 : (9999 : Int32).toInt = 9999 := rfl
  have hFc := free_all hD hS hA
  refine vx_callv (vx_runS (As := [.int x1, .int (1 : Int32), .int (9999 : Int32)]) (rest := []) ⟨hx, hb, hml, hown, hts⟩ (c_X9_needRange l hst (cy := cy) (X := X) (D := D) S _ x1 (1 : Int32) (9999 : Int32)) (cwS 3 hts gX9_needRatio_X9_needRange rfl rfl rfl hd_X9_needRange ⟨Nat.le_of_ble_eq_true rfl, Nat.le_of_ble_eq_true rfl⟩) (pSt hP hK hD hN hTH hS hFc) rfl rfl hl.1 rfl (lv_room (Nat.le_of_ble_eq_true rfl)) dX9_needRatio_5 ⟨Nat.le_of_ble_eq_true rfl, Nat.le_of_ble_eq_true rfl⟩) hS (fun q _ h => hFc q h) hFc (fun q _ h => hFc q h) (fun E ce q9 u t H1 locs ht hvm hw hB hz1 hk1 hS hq9 hce hcl => ?_) (fun u t H1 locs ht hvm hw hB hz1 hk1 hS => ?_)
  · obtain ⟨c2, hEc2, hB2⟩ := hB
    obtain ⟨hP, hD⟩ := wd_post hFc ht hB2
    exact vx_out (fun x h => (hno x h).elim) hlocks hq9 hce hcl (fun t2 ht2 hA2 => ⟨(), trivial, ⟨(by show f_X9_needRatio x1 x2 = .error E; unfold f_X9_needRatio; rw [eB_er c2]), (el_in (by decide) hEc2), wd_end hP hK hD ht2 hA2⟩, hS.F ht2⟩) hS.2.2 (Nat.le_of_ble_eq_true rfl) (Nat.le_of_ble_eq_true rfl)
  · have c3 := hw
    obtain ⟨hP, hD⟩ := wd_post hFc ht hB
    generalize H1 = H at hP hS ⊢
    have i4 := nr_i c3
    have i4l := i4.1
    have i4h := i4.2
    have l5 : (1 : Int32).toInt = 1 := rfl
    have l6 : (9999 : Int32).toInt = 9999 := rfl
    refine lv_iload_n hx hb dX9_needRatio_8 rfl (lv_at hl 1 rfl) ?_
    refine lv_iconst (v := 1) hx hb dX9_needRatio_9 (by decide) ?_
    refine lv_sipush (v := 9999) hx hb dX9_needRatio_10 (by decide +kernel) ?_
    have hFc := free_all hD hS hA
    refine vx_callv (vx_runS (As := [.int x2, .int (1 : Int32), .int (9999 : Int32)]) (rest := []) ⟨hx, hb, hml, hown, hts⟩ (c_X9_needRange l hst (cy := cy) (X := X) (D := D) S _ x2 (1 : Int32) (9999 : Int32)) (cwS 3 hts gX9_needRatio_X9_needRange rfl rfl rfl hd_X9_needRange ⟨Nat.le_of_ble_eq_true rfl, Nat.le_of_ble_eq_true rfl⟩) (pSt hP hK hD hN hTH hS hFc) rfl rfl hl.1 rfl (lv_room (Nat.le_of_ble_eq_true rfl)) dX9_needRatio_13 ⟨Nat.le_of_ble_eq_true rfl, Nat.le_of_ble_eq_true rfl⟩) hS (fun q _ h => hFc q h) hFc (fun q _ h => hFc q h) (fun E ce q9 u t H1 locs ht hvm hw hB hz1 hk1 hS hq9 hce hcl => ?_) (fun u t H1 locs ht hvm hw hB hz1 hk1 hS => ?_)
    · obtain ⟨c8, hEc8, hB2⟩ := hB
      obtain ⟨hP, hD⟩ := wd_post hFc ht hB2
      exact vx_out (fun x h => (hno x h).elim) hlocks hq9 hce hcl (fun t2 ht2 hA2 => ⟨(), trivial, ⟨(by show f_X9_needRatio x1 x2 = .error E; unfold f_X9_needRatio; rw [eB_ok c3, eB_er c8]), (el_in (by decide) hEc8), wd_end hP hK hD ht2 hA2⟩, hS.F ht2⟩) hS.2.2 (Nat.le_of_ble_eq_true rfl) (Nat.le_of_ble_eq_true rfl)
    · have c9 := hw
      obtain ⟨hP, hD⟩ := wd_post hFc ht hB
      generalize H1 = H at hP hS ⊢
      have i10 := nr_i c9
      have i10l := i10.1
      have i10h := i10.2
      have l11 : (1 : Int32).toInt = 1 := rfl
      have l12 : (9999 : Int32).toInt = 9999 := rfl
      refine vx_ret ?_
      refine W.widen (k := 2) (n := 12) (Nat.le_of_ble_eq_true rfl) (Nat.le_of_ble_eq_true rfl) ?_
      exact W.vret hx hb hr (fun t ht hW9 => ⟨⟨(), rfl, (by show f_X9_needRatio x1 x2 = .ok (); unfold f_X9_needRatio; rw [eB_ok c3, eB_ok c9]), wd_end hP hK hD ht hW9.alike⟩, hS.F ht⟩) hS.2.2 dX9_needRatio_16 hlocks
def f_X9_needKind (x1 : Int32) : Except String Unit := if x1 = (104 : Int32) then .ok () else if x1 = (102 : Int32) then .ok () else if x1 = (103 : Int32) then .ok () else if x1 = (99 : Int32) then .ok () else .error "java/lang/IllegalArgumentException"
set_option maxRecDepth 20000 in
theorem s_X9_needKind_IAE : ∀ w ∈ (vx_atS RX9 114 "java/lang/IllegalArgumentException" ["java/lang/RuntimeException", "java/lang/Exception"]).filter goodWord, w ∈ wsX9_needKind := fun w h => List.mem_cons_of_mem _ (List.mem_append_right _ h)
theorem hd_X9_needKind : yX9_needKind.cls = RX9 ∧ yX9_needKind.cls ≠ "java/lang/invoke/MethodHandle" ∧ yX9_needKind.cls ≠ "java/lang/invoke/VarHandle" ∧ (parseMethodDescriptor yX9_needKind.desc).map (fun d => d.parameters.length) = some 1 := by decide +kernel
set_option maxHeartbeats 4000000 in
set_option maxRecDepth 100000 in
theorem c_X9_needKind (l : Launch) (hst : l.stackTraces = false) {D : va_G} {cy : Nat → ClassId} {X : va_W} (S : wPS) (sz : Nat) (x1 : Int32)  : vx_Met l yX9_needKind wsX9_needKind ({ frames := 6, cells := 1, slots := 6, locals := 82 }) (va_Pc [.int x1] (fun U => U.heap.size = sz ∧ WD D cy X (fun _ => True) S U ∧ NW U ∧ TH (va_A (X ++ PL cy S) sz) U)) (va_Qv (fun (_ : Unit) => f_X9_needKind x1 = .ok ()) (fun _ t => WD D cy X (va_A (X ++ PL cy S) sz) S t) (va_A (X ++ PL cy S) sz)) (vx_X (fun (_ : Unit) => True) (fun E _ t => f_X9_needKind x1 = .error E ∧ E ∈ ["java/lang/IllegalArgumentException"] ∧ WD D cy X (va_A (X ++ PL cy S) sz) S t) (va_A (X ++ PL cy S) sz)) 1 6 (va_A (X ++ PL cy S) sz) := by
  refine vx_ofW (cc := cX9_needKind) (maxL := 1) (ret := none) (by decide) rfl ?_
  intro p e s m args below meth c s₁ B hml hno hv
  obtain ⟨rfl, hsz, ⟨hP, hK, hD0⟩, hN, hTH⟩ := hv
  have hx := B.exec
  have hb := B.bytes
  have hr := B.returns
  have hts := atoms_spec (ws := wsX9_needKind) B.pre
  have hown : s.vm.findClass RX9 = some m.cls := findClass_of_methodNamed (x := yX9_needKind) B.named
  have hlocks := B.notSynchronized
  subst hsz
  have hD := hD0.self (sz := s.heap.size)
  generalize hAe : va_A (X ++ PL cy S) s.heap.size = A at hD hTH ⊢
  have hA : ∀ q : Nat, s.heap.size ≤ q → A q := fun q h => by rw [← hAe]; exact Or.inr h
  have hS : va_S A s.heap s.heap [] := va_S.rf
  have hl := lv_entry ([.int x1]) (n := 1) (Nat.le_of_ble_eq_true rfl)
  rw [lg_entry_eq]
  generalize (lg_sl ([.int x1]) ++ List.replicate (1 - (lg_sl ([.int x1])).length) Slot.unset).toArray = ls at hl ⊢
  have hl : lv_has ls 1 [(0, .int x1)] := hl
  refine lv_iload_n hx hb dX9_needKind_0 rfl (lv_at hl 0 rfl) ?_
  refine lv_bipush (v := 104) hx hb dX9_needKind_1 (by decide +kernel) ?_
  refine lv_icmp_eq (tgt := 35) hx hb dX9_needKind_3 (by decide) (fun c1 => ?_) (fun c1 => ?_)
  · have c1i : x1.toInt = 104 := eq_v rfl rfl c1
    refine vx_ret ?_
    refine W.widen (k := 1) (n := 6) (Nat.le_of_ble_eq_true rfl) (Nat.le_of_ble_eq_true rfl) ?_
    exact W.vret hx hb hr (fun t ht hW9 => ⟨⟨(), rfl, (by show f_X9_needKind x1 = .ok (); unfold f_X9_needKind; rw [if_pos c1]), wd_end hP hK hD ht hW9.alike⟩, hS.F ht⟩) hS.2.2 dX9_needKind_35 hlocks
  · have c1i : ¬ x1.toInt = 104 := neq_v rfl rfl c1
    refine lv_iload_n hx hb dX9_needKind_6 rfl (lv_at hl 0 rfl) ?_
    refine lv_bipush (v := 102) hx hb dX9_needKind_7 (by decide +kernel) ?_
    refine lv_icmp_eq (tgt := 35) hx hb dX9_needKind_9 (by decide) (fun c2 => ?_) (fun c2 => ?_)
    · have c2i : x1.toInt = 102 := eq_v rfl rfl c2
      refine vx_ret ?_
      refine W.widen (k := 1) (n := 6) (Nat.le_of_ble_eq_true rfl) (Nat.le_of_ble_eq_true rfl) ?_
      exact W.vret hx hb hr (fun t ht hW9 => ⟨⟨(), rfl, (by show f_X9_needKind x1 = .ok (); unfold f_X9_needKind; rw [if_neg c1, if_pos c2]), wd_end hP hK hD ht hW9.alike⟩, hS.F ht⟩) hS.2.2 dX9_needKind_35 hlocks
    · have c2i : ¬ x1.toInt = 102 := neq_v rfl rfl c2
      refine lv_iload_n hx hb dX9_needKind_12 rfl (lv_at hl 0 rfl) ?_
      refine lv_bipush (v := 103) hx hb dX9_needKind_13 (by decide +kernel) ?_
      refine lv_icmp_eq (tgt := 35) hx hb dX9_needKind_15 (by decide) (fun c3 => ?_) (fun c3 => ?_)
      · have c3i : x1.toInt = 103 := eq_v rfl rfl c3
        refine vx_ret ?_
        refine W.widen (k := 1) (n := 6) (Nat.le_of_ble_eq_true rfl) (Nat.le_of_ble_eq_true rfl) ?_
        exact W.vret hx hb hr (fun t ht hW9 => ⟨⟨(), rfl, (by show f_X9_needKind x1 = .ok (); unfold f_X9_needKind; rw [if_neg c1, if_neg c2, if_pos c3]), wd_end hP hK hD ht hW9.alike⟩, hS.F ht⟩) hS.2.2 dX9_needKind_35 hlocks
      · have c3i : ¬ x1.toInt = 103 := neq_v rfl rfl c3
        refine lv_iload_n hx hb dX9_needKind_18 rfl (lv_at hl 0 rfl) ?_
        refine lv_bipush (v := 99) hx hb dX9_needKind_19 (by decide +kernel) ?_
        refine lv_icmp_eq (tgt := 35) hx hb dX9_needKind_21 (by decide) (fun c4 => ?_) (fun c4 => ?_)
        · have c4i : x1.toInt = 99 := eq_v rfl rfl c4
          refine vx_ret ?_
          refine W.widen (k := 1) (n := 6) (Nat.le_of_ble_eq_true rfl) (Nat.le_of_ble_eq_true rfl) ?_
          exact W.vret hx hb hr (fun t ht hW9 => ⟨⟨(), rfl, (by show f_X9_needKind x1 = .ok (); unfold f_X9_needKind; rw [if_neg c1, if_neg c2, if_neg c3, if_pos c4]), wd_end hP hK hD ht hW9.alike⟩, hS.F ht⟩) hS.2.2 dX9_needKind_35 hlocks
        · have c4i : ¬ x1.toInt = 99 := neq_v rfl rfl c4
          obtain ⟨sa, hsa⟩ := hTH.2.2 (RX9, 527, "there is no such kind") (by decide +kernel)
          exact vx_throwSW hx hb hst (names := ["java/lang/RuntimeException", "java/lang/Exception"]) hown (by decide +kernel) (by decide +kernel) (hts (.classLink RX9 110 "java/lang/IllegalArgumentException") (by decide +kernel)) (hts (.initialized "java/lang/IllegalArgumentException") (by decide +kernel)) hsa (th_at (B := exW_X9_IAE) (fun w h => hts w (s_X9_needKind_IAE w h)) rfl (by simp only [exW, List.mem_append]; intro w h; simp [h]) hTH.2.1) (List.forall_mem_cons.mpr ⟨by decide +kernel, List.forall_mem_cons.mpr ⟨by decide +kernel, exW_X9_IAE_ok⟩⟩) hTH.1.1 hTH.1.2 hS (hl.1.trans hml.symm) dX9_needKind_24 dX9_needKind_27 dX9_needKind_28 dX9_needKind_31 dX9_needKind_34 (fun x h => (hno x h).elim) (Nat.le_of_ble_eq_true rfl) (Nat.le_of_ble_eq_true rfl) (Nat.le_of_ble_eq_true rfl) (Nat.le_of_ble_eq_true rfl) hlocks (fun t hA2 h1 h2 => ⟨(), trivial, ⟨(by show f_X9_needKind x1 = .error "java/lang/IllegalArgumentException"; unfold f_X9_needKind; rw [if_neg c1, if_neg c2, if_neg c3, if_neg c4]), (by decide), wd_exc hP hK hD hA2 h2⟩, exc_F hS h1 h2⟩) hS.2.2 (Nat.le_of_ble_eq_true rfl) (Nat.le_of_ble_eq_true rfl)
def f_X9_allowOnly (x1 : Int32) : Except String Unit := if x1 = (0 : Int32) then .error "java/lang/UnsupportedOperationException" else .ok ()
set_option maxRecDepth 20000 in
theorem s_X9_allowOnly_UOE : ∀ w ∈ (vx_atS RX9 533 "java/lang/UnsupportedOperationException" ["java/lang/RuntimeException", "java/lang/Exception"]).filter goodWord, w ∈ wsX9_allowOnly := fun w h => List.mem_cons_of_mem _ (List.mem_append_right _ h)
theorem hd_X9_allowOnly : yX9_allowOnly.cls = RX9 ∧ yX9_allowOnly.cls ≠ "java/lang/invoke/MethodHandle" ∧ yX9_allowOnly.cls ≠ "java/lang/invoke/VarHandle" ∧ (parseMethodDescriptor yX9_allowOnly.desc).map (fun d => d.parameters.length) = some 1 := by decide +kernel
set_option maxHeartbeats 4000000 in
set_option maxRecDepth 100000 in
theorem c_X9_allowOnly (l : Launch) (hst : l.stackTraces = false) {D : va_G} {cy : Nat → ClassId} {X : va_W} (S : wPS) (sz : Nat) (x1 : Int32)  : vx_Met l yX9_allowOnly wsX9_allowOnly ({ frames := 6, cells := 1, slots := 6, locals := 82 }) (va_Pc [.int x1] (fun U => U.heap.size = sz ∧ WD D cy X (fun _ => True) S U ∧ NW U ∧ TH (va_A (X ++ PL cy S) sz) U)) (va_Qv (fun (_ : Unit) => f_X9_allowOnly x1 = .ok ()) (fun _ t => WD D cy X (va_A (X ++ PL cy S) sz) S t) (va_A (X ++ PL cy S) sz)) (vx_X (fun (_ : Unit) => True) (fun E _ t => f_X9_allowOnly x1 = .error E ∧ E ∈ ["java/lang/UnsupportedOperationException"] ∧ WD D cy X (va_A (X ++ PL cy S) sz) S t) (va_A (X ++ PL cy S) sz)) 1 6 (va_A (X ++ PL cy S) sz) := by
  refine vx_ofW (cc := cX9_allowOnly) (maxL := 1) (ret := none) (by decide) rfl ?_
  intro p e s m args below meth c s₁ B hml hno hv
  obtain ⟨rfl, hsz, ⟨hP, hK, hD0⟩, hN, hTH⟩ := hv
  have hx := B.exec
  have hb := B.bytes
  have hr := B.returns
  have hts := atoms_spec (ws := wsX9_allowOnly) B.pre
  have hown : s.vm.findClass RX9 = some m.cls := findClass_of_methodNamed (x := yX9_allowOnly) B.named
  have hlocks := B.notSynchronized
  subst hsz
  have hD := hD0.self (sz := s.heap.size)
  generalize hAe : va_A (X ++ PL cy S) s.heap.size = A at hD hTH ⊢
  have hA : ∀ q : Nat, s.heap.size ≤ q → A q := fun q h => by rw [← hAe]; exact Or.inr h
  have hS : va_S A s.heap s.heap [] := va_S.rf
  have hl := lv_entry ([.int x1]) (n := 1) (Nat.le_of_ble_eq_true rfl)
  rw [lg_entry_eq]
  generalize (lg_sl ([.int x1]) ++ List.replicate (1 - (lg_sl ([.int x1])).length) Slot.unset).toArray = ls at hl ⊢
  have hl : lv_has ls 1 [(0, .int x1)] := hl
  refine lv_iload_n hx hb dX9_allowOnly_0 rfl (lv_at hl 0 rfl) ?_
  refine lv_if_ne (tgt := 15) hx hb dX9_allowOnly_1 (by decide) (fun c1 => ?_) (fun c1 => ?_)
  · have c1i : ¬ x1.toInt = 0 := neq_v rfl rfl c1
    refine vx_ret ?_
    refine W.widen (k := 1) (n := 6) (Nat.le_of_ble_eq_true rfl) (Nat.le_of_ble_eq_true rfl) ?_
    exact W.vret hx hb hr (fun t ht hW9 => ⟨⟨(), rfl, (by show f_X9_allowOnly x1 = .ok (); unfold f_X9_allowOnly; rw [if_neg c1]), wd_end hP hK hD ht hW9.alike⟩, hS.F ht⟩) hS.2.2 dX9_allowOnly_15 hlocks
  · have c1i : x1.toInt = 0 := eq_v rfl rfl c1
    obtain ⟨sa, hsa⟩ := hTH.2.2 (RX9, 531, "this cannot be done") (by decide +kernel)
    exact vx_throwSW hx hb hst (names := ["java/lang/RuntimeException", "java/lang/Exception"]) hown (by decide +kernel) (by decide +kernel) (hts (.classLink RX9 529 "java/lang/UnsupportedOperationException") (by decide +kernel)) (hts (.initialized "java/lang/UnsupportedOperationException") (by decide +kernel)) hsa (th_at (B := exW_X9_UOE) (fun w h => hts w (s_X9_allowOnly_UOE w h)) rfl (by simp only [exW, List.mem_append]; intro w h; simp [h]) hTH.2.1) (List.forall_mem_cons.mpr ⟨by decide +kernel, List.forall_mem_cons.mpr ⟨by decide +kernel, exW_X9_UOE_ok⟩⟩) hTH.1.1 hTH.1.2 hS (hl.1.trans hml.symm) dX9_allowOnly_4 dX9_allowOnly_7 dX9_allowOnly_8 dX9_allowOnly_11 dX9_allowOnly_14 (fun x h => (hno x h).elim) (Nat.le_of_ble_eq_true rfl) (Nat.le_of_ble_eq_true rfl) (Nat.le_of_ble_eq_true rfl) (Nat.le_of_ble_eq_true rfl) hlocks (fun t hA2 h1 h2 => ⟨(), trivial, ⟨(by show f_X9_allowOnly x1 = .error "java/lang/UnsupportedOperationException"; unfold f_X9_allowOnly; rw [if_pos c1]), (by decide), wd_exc hP hK hD hA2 h2⟩, exc_F hS h1 h2⟩) hS.2.2 (Nat.le_of_ble_eq_true rfl) (Nat.le_of_ble_eq_true rfl)
theorem nt_i {a : Int32} (h : f_X9_needTeeth a = .ok ()) : 6 ≤ a.toInt ∧ a.toInt ≤ 200 := by
  have h1 : f_X9_needRange a 6 200 = .ok () := by
    unfold f_X9_needTeeth eB at h
    cases e : f_X9_needRange a 6 200 with
    | error z => rw [e] at h; cases h
    | ok u => rfl
  exact nr_i h1
theorem nq_i {a b : Int32} (h : f_X9_needRatio a b = .ok ()) : (1 ≤ a.toInt ∧ a.toInt ≤ 9999) ∧ 1 ≤ b.toInt ∧ b.toInt ≤ 9999 := by
  unfold f_X9_needRatio eB at h
  cases e : f_X9_needRange a 1 9999 with
  | error z => rw [e] at h; cases h
  | ok u =>
    rw [e] at h
    cases e2 : f_X9_needRange b 1 9999 with
    | error z => simp only [e2] at h; cases h
    | ok u2 => exact ⟨nr_i e, nr_i e2⟩
theorem ao_i {a : Int32} (h : f_X9_allowOnly a = .ok ()) : ¬ a = 0 := by
  unfold f_X9_allowOnly at h
  split at h
  · cases h
  · assumption
def f_X9_tipOf (x1 : Int32) (x2 : Int32) (x3 : Int32) : Int32 := ((x1 * x2) + ((2 : Int32) * x2)) + ((((2 : Int32) * x3) * x2) / (100 : Int32))
theorem hd_X9_tipOf : yX9_tipOf.cls = RX9 ∧ yX9_tipOf.cls ≠ "java/lang/invoke/MethodHandle" ∧ yX9_tipOf.cls ≠ "java/lang/invoke/VarHandle" ∧ (parseMethodDescriptor yX9_tipOf.desc).map (fun d => d.parameters.length) = some 3 := by decide +kernel
set_option maxHeartbeats 4000000 in
set_option maxRecDepth 100000 in
theorem c_X9_tipOf (l : Launch) {D : va_G} {cy : Nat → ClassId} {X : va_W} (S : wPS) (sz : Nat) (x1 : Int32) (x2 : Int32) (x3 : Int32)  : Met l yX9_tipOf wsX9_tipOf ({ frames := 0, cells := 0, slots := 0, locals := 0 }) (va_Pc [.int x1, .int x2, .int x3] (fun U => U.heap.size = sz ∧ WD D cy X (fun _ => True) S U ∧ NW U)) (va_Qi (fun r (_ : Unit) => r = f_X9_tipOf x1 x2 x3) (fun _ t => WD D cy X (va_A (X ++ PL cy S) sz) S t) (va_A (X ++ PL cy S) sz)) 0 0 (va_A (X ++ PL cy S) sz) := by
  refine Met.ofW (cc := cX9_tipOf) (maxL := 3) (ret := (some .int)) (by decide) rfl ?_
  intro p e s m args below meth c s₁ B hml hv
  obtain ⟨rfl, hsz, ⟨hP, hK, hD0⟩, hN⟩ := hv
  have hx := B.exec
  have hb := B.bytes
  have hr := B.returns
  have hts := atoms_spec (ws := wsX9_tipOf) B.pre
  have hown : s.vm.findClass RX9 = some m.cls := findClass_of_methodNamed (x := yX9_tipOf) B.named
  have hlocks := B.notSynchronized
  subst hsz
  have hD := hD0.self (sz := s.heap.size)
  generalize hAe : va_A (X ++ PL cy S) s.heap.size = A at hD ⊢
  have hA : ∀ q : Nat, s.heap.size ≤ q → A q := fun q h => by rw [← hAe]; exact Or.inr h
  have hS : va_S A s.heap s.heap [] := va_S.rf
  have hl := lv_entry ([.int x1, .int x2, .int x3]) (n := 3) (Nat.le_of_ble_eq_true rfl)
  rw [lg_entry_eq]
  generalize (lg_sl ([.int x1, .int x2, .int x3]) ++ List.replicate (3 - (lg_sl ([.int x1, .int x2, .int x3])).length) Slot.unset).toArray = ls at hl ⊢
  have hl : lv_has ls 3 [(0, .int x1), (1, .int x2), (2, .int x3)] := hl
  refine lv_iload_n hx hb dX9_tipOf_0 rfl (lv_at hl 0 rfl) ?_
  refine lv_iload_n hx hb dX9_tipOf_1 rfl (lv_at hl 1 rfl) ?_
  refine lv_imul hx hb dX9_tipOf_2 ?_
  refine lv_iconst (v := 2) hx hb dX9_tipOf_3 (by decide) ?_
  refine lv_iload_n hx hb dX9_tipOf_4 rfl (lv_at hl 1 rfl) ?_
  refine lv_imul hx hb dX9_tipOf_5 ?_
  refine lv_iadd hx hb dX9_tipOf_6 ?_
  refine lv_iconst (v := 2) hx hb dX9_tipOf_7 (by decide) ?_
  refine lv_iload_n hx hb dX9_tipOf_8 rfl (lv_at hl 2 rfl) ?_
  refine lv_imul hx hb dX9_tipOf_9 ?_
  refine lv_iload_n hx hb dX9_tipOf_10 rfl (lv_at hl 1 rfl) ?_
  refine lv_imul hx hb dX9_tipOf_11 ?_
  refine lv_bipush (v := 100) hx hb dX9_tipOf_12 (by decide +kernel) ?_
  refine lv_idiv hx hb dX9_tipOf_14 (by decide) ?_
  refine lv_iadd hx hb dX9_tipOf_15 ?_
  refine W.widen (k := 0) (n := 0) (Nat.le_of_ble_eq_true rfl) (Nat.le_of_ble_eq_true rfl) ?_
  exact W.iret (v := ((x1 * x2) + ((2 : Int32) * x2)) + ((((2 : Int32) * x3) * x2) / (100 : Int32))) hx hb hr (fun t ht hW9 => ⟨⟨((x1 * x2) + ((2 : Int32) * x2)) + ((((2 : Int32) * x3) * x2) / (100 : Int32)), (), rfl, (by show (((x1 * x2) + ((2 : Int32) * x2)) + ((((2 : Int32) * x3) * x2) / (100 : Int32))) = f_X9_tipOf x1 x2 x3; unfold f_X9_tipOf; rfl), wd_end hP hK hD ht hW9.alike⟩, hS.F ht⟩) hS.2.2 dX9_tipOf_16 hlocks
def f_X9_undercuts (x1 : Int32) (x2 : Int32) : Int32 := if ((100 : Int32) * ((137 : Int32) - ((8 : Int32) * x1))) ≤ ((137 : Int32) * x2) then (0 : Int32) else (1 : Int32)
theorem f_X9_undercuts_b (x1 : Int32) (x2 : Int32) : narrow .boolean (.int (f_X9_undercuts x1 x2)) = .int (f_X9_undercuts x1 x2) := by
  unfold f_X9_undercuts; (repeat' split) <;> rfl
theorem hd_X9_undercuts : yX9_undercuts.cls = RX9 ∧ yX9_undercuts.cls ≠ "java/lang/invoke/MethodHandle" ∧ yX9_undercuts.cls ≠ "java/lang/invoke/VarHandle" ∧ (parseMethodDescriptor yX9_undercuts.desc).map (fun d => d.parameters.length) = some 2 := by decide +kernel
set_option maxHeartbeats 4000000 in
set_option maxRecDepth 100000 in
theorem c_X9_undercuts (l : Launch) {D : va_G} {cy : Nat → ClassId} {X : va_W} (S : wPS) (sz : Nat) (x1 : Int32) (x2 : Int32)  : Met l yX9_undercuts wsX9_undercuts ({ frames := 0, cells := 0, slots := 0, locals := 0 }) (va_Pc [.int x1, .int x2] (fun U => U.heap.size = sz ∧ WD D cy X (fun _ => True) S U ∧ NW U)) (va_Qi (fun r (_ : Unit) => r = f_X9_undercuts x1 x2) (fun _ t => WD D cy X (va_A (X ++ PL cy S) sz) S t) (va_A (X ++ PL cy S) sz)) 0 0 (va_A (X ++ PL cy S) sz) := by
  refine Met.ofW (cc := cX9_undercuts) (maxL := 2) (ret := (some .boolean)) (by decide) rfl ?_
  intro p e s m args below meth c s₁ B hml hv
  obtain ⟨rfl, hsz, ⟨hP, hK, hD0⟩, hN⟩ := hv
  have hx := B.exec
  have hb := B.bytes
  have hr := B.returns
  have hts := atoms_spec (ws := wsX9_undercuts) B.pre
  have hown : s.vm.findClass RX9 = some m.cls := findClass_of_methodNamed (x := yX9_undercuts) B.named
  have hlocks := B.notSynchronized
  subst hsz
  have hD := hD0.self (sz := s.heap.size)
  generalize hAe : va_A (X ++ PL cy S) s.heap.size = A at hD ⊢
  have hA : ∀ q : Nat, s.heap.size ≤ q → A q := fun q h => by rw [← hAe]; exact Or.inr h
  have hS : va_S A s.heap s.heap [] := va_S.rf
  have hl := lv_entry ([.int x1, .int x2]) (n := 2) (Nat.le_of_ble_eq_true rfl)
  rw [lg_entry_eq]
  generalize (lg_sl ([.int x1, .int x2]) ++ List.replicate (2 - (lg_sl ([.int x1, .int x2])).length) Slot.unset).toArray = ls at hl ⊢
  have hl : lv_has ls 2 [(0, .int x1), (1, .int x2)] := hl
  refine lv_sipush (v := 137) hx hb dX9_undercuts_0 (by decide +kernel) ?_
  refine lv_iload_n hx hb dX9_undercuts_3 rfl (lv_at hl 1 rfl) ?_
  refine lv_imul hx hb dX9_undercuts_4 ?_
  refine lv_bipush (v := 100) hx hb dX9_undercuts_5 (by decide +kernel) ?_
  refine lv_sipush (v := 137) hx hb dX9_undercuts_7 (by decide +kernel) ?_
  refine lv_bipush (v := 8) hx hb dX9_undercuts_10 (by decide +kernel) ?_
  refine lv_iload_n hx hb dX9_undercuts_12 rfl (lv_at hl 0 rfl) ?_
  refine lv_imul hx hb dX9_undercuts_13 ?_
  refine lv_isub hx hb dX9_undercuts_14 ?_
  refine lv_imul hx hb dX9_undercuts_15 ?_
  refine lv_icmp_ge (tgt := 23) hx hb dX9_undercuts_16 (by decide) (fun c1 => ?_) (fun c1 => ?_)
  · have c1i : ((100 : Int32) * ((137 : Int32) - ((8 : Int32) * x1))).toInt ≤ ((137 : Int32) * x2).toInt := le_v rfl rfl c1
    refine lv_iconst (v := 0) hx hb dX9_undercuts_23 (by decide) ?_
    refine W.widen (k := 0) (n := 0) (Nat.le_of_ble_eq_true rfl) (Nat.le_of_ble_eq_true rfl) ?_
    exact W.zret (v := (0 : Int32)) hx hb hr (by rfl) (fun t ht hW9 => ⟨⟨(0 : Int32), (), rfl, (by show (0 : Int32) = f_X9_undercuts x1 x2; unfold f_X9_undercuts; rw [if_pos c1]), wd_end hP hK hD ht hW9.alike⟩, hS.F ht⟩) hS.2.2 dX9_undercuts_24 hlocks
  · have c1i : ((137 : Int32) * x2).toInt < ((100 : Int32) * ((137 : Int32) - ((8 : Int32) * x1))).toInt := nle_v rfl rfl c1
    refine lv_iconst (v := 1) hx hb dX9_undercuts_19 (by decide) ?_
    refine lv_goto (tgt := 24) hx hb dX9_undercuts_20 (by decide) ?_
    refine W.widen (k := 0) (n := 0) (Nat.le_of_ble_eq_true rfl) (Nat.le_of_ble_eq_true rfl) ?_
    exact W.zret (v := (1 : Int32)) hx hb hr (by rfl) (fun t ht hW9 => ⟨⟨(1 : Int32), (), rfl, (by show (1 : Int32) = f_X9_undercuts x1 x2; unfold f_X9_undercuts; rw [if_neg c1]), wd_end hP hK hD ht hW9.alike⟩, hS.F ht⟩) hS.2.2 dX9_undercuts_24 hlocks
def f_X9_sharpens (x1 : Int32) (x2 : Int32) : Int32 := if ((40 : Int32) * x2) ≤ ((100 : Int32) * (x1 + (10 : Int32))) then (0 : Int32) else (1 : Int32)
theorem f_X9_sharpens_b (x1 : Int32) (x2 : Int32) : narrow .boolean (.int (f_X9_sharpens x1 x2)) = .int (f_X9_sharpens x1 x2) := by
  unfold f_X9_sharpens; (repeat' split) <;> rfl
theorem hd_X9_sharpens : yX9_sharpens.cls = RX9 ∧ yX9_sharpens.cls ≠ "java/lang/invoke/MethodHandle" ∧ yX9_sharpens.cls ≠ "java/lang/invoke/VarHandle" ∧ (parseMethodDescriptor yX9_sharpens.desc).map (fun d => d.parameters.length) = some 2 := by decide +kernel
set_option maxHeartbeats 4000000 in
set_option maxRecDepth 100000 in
theorem c_X9_sharpens (l : Launch) {D : va_G} {cy : Nat → ClassId} {X : va_W} (S : wPS) (sz : Nat) (x1 : Int32) (x2 : Int32)  : Met l yX9_sharpens wsX9_sharpens ({ frames := 0, cells := 0, slots := 0, locals := 0 }) (va_Pc [.int x1, .int x2] (fun U => U.heap.size = sz ∧ WD D cy X (fun _ => True) S U ∧ NW U)) (va_Qi (fun r (_ : Unit) => r = f_X9_sharpens x1 x2) (fun _ t => WD D cy X (va_A (X ++ PL cy S) sz) S t) (va_A (X ++ PL cy S) sz)) 0 0 (va_A (X ++ PL cy S) sz) := by
  refine Met.ofW (cc := cX9_sharpens) (maxL := 2) (ret := (some .boolean)) (by decide) rfl ?_
  intro p e s m args below meth c s₁ B hml hv
  obtain ⟨rfl, hsz, ⟨hP, hK, hD0⟩, hN⟩ := hv
  have hx := B.exec
  have hb := B.bytes
  have hr := B.returns
  have hts := atoms_spec (ws := wsX9_sharpens) B.pre
  have hown : s.vm.findClass RX9 = some m.cls := findClass_of_methodNamed (x := yX9_sharpens) B.named
  have hlocks := B.notSynchronized
  subst hsz
  have hD := hD0.self (sz := s.heap.size)
  generalize hAe : va_A (X ++ PL cy S) s.heap.size = A at hD ⊢
  have hA : ∀ q : Nat, s.heap.size ≤ q → A q := fun q h => by rw [← hAe]; exact Or.inr h
  have hS : va_S A s.heap s.heap [] := va_S.rf
  have hl := lv_entry ([.int x1, .int x2]) (n := 2) (Nat.le_of_ble_eq_true rfl)
  rw [lg_entry_eq]
  generalize (lg_sl ([.int x1, .int x2]) ++ List.replicate (2 - (lg_sl ([.int x1, .int x2])).length) Slot.unset).toArray = ls at hl ⊢
  have hl : lv_has ls 2 [(0, .int x1), (1, .int x2)] := hl
  refine lv_bipush (v := 40) hx hb dX9_sharpens_0 (by decide +kernel) ?_
  refine lv_iload_n hx hb dX9_sharpens_2 rfl (lv_at hl 1 rfl) ?_
  refine lv_imul hx hb dX9_sharpens_3 ?_
  refine lv_bipush (v := 100) hx hb dX9_sharpens_4 (by decide +kernel) ?_
  refine lv_iload_n hx hb dX9_sharpens_6 rfl (lv_at hl 0 rfl) ?_
  refine lv_bipush (v := 10) hx hb dX9_sharpens_7 (by decide +kernel) ?_
  refine lv_iadd hx hb dX9_sharpens_9 ?_
  refine lv_imul hx hb dX9_sharpens_10 ?_
  refine lv_icmp_le (tgt := 18) hx hb dX9_sharpens_11 (by decide) (fun c1 => ?_) (fun c1 => ?_)
  · have c1i : ((40 : Int32) * x2).toInt ≤ ((100 : Int32) * (x1 + (10 : Int32))).toInt := le_v rfl rfl c1
    refine lv_iconst (v := 0) hx hb dX9_sharpens_18 (by decide) ?_
    refine W.widen (k := 0) (n := 0) (Nat.le_of_ble_eq_true rfl) (Nat.le_of_ble_eq_true rfl) ?_
    exact W.zret (v := (0 : Int32)) hx hb hr (by rfl) (fun t ht hW9 => ⟨⟨(0 : Int32), (), rfl, (by show (0 : Int32) = f_X9_sharpens x1 x2; unfold f_X9_sharpens; rw [if_pos c1]), wd_end hP hK hD ht hW9.alike⟩, hS.F ht⟩) hS.2.2 dX9_sharpens_19 hlocks
  · have c1i : ((100 : Int32) * (x1 + (10 : Int32))).toInt < ((40 : Int32) * x2).toInt := nle_v rfl rfl c1
    refine lv_iconst (v := 1) hx hb dX9_sharpens_14 (by decide) ?_
    refine lv_goto (tgt := 19) hx hb dX9_sharpens_15 (by decide) ?_
    refine W.widen (k := 0) (n := 0) (Nat.le_of_ble_eq_true rfl) (Nat.le_of_ble_eq_true rfl) ?_
    exact W.zret (v := (1 : Int32)) hx hb hr (by rfl) (fun t ht hW9 => ⟨⟨(1 : Int32), (), rfl, (by show (1 : Int32) = f_X9_sharpens x1 x2; unfold f_X9_sharpens; rw [if_neg c1]), wd_end hP hK hD ht hW9.alike⟩, hS.F ht⟩) hS.2.2 dX9_sharpens_19 hlocks
def f_X9_nearestToZero (x1 : Int32) : Int32 := if (x1 - x1 / (2 : Int32) * (2 : Int32)) = (1 : Int32) then (x1 + (1 : Int32)) / (2 : Int32) else -((x1 + (1 : Int32)) / (2 : Int32))
theorem hd_X9_nearestToZero : yX9_nearestToZero.cls = RX9 ∧ yX9_nearestToZero.cls ≠ "java/lang/invoke/MethodHandle" ∧ yX9_nearestToZero.cls ≠ "java/lang/invoke/VarHandle" ∧ (parseMethodDescriptor yX9_nearestToZero.desc).map (fun d => d.parameters.length) = some 1 := by decide +kernel
set_option maxHeartbeats 4000000 in
set_option maxRecDepth 100000 in
theorem c_X9_nearestToZero (l : Launch) {D : va_G} {cy : Nat → ClassId} {X : va_W} (S : wPS) (sz : Nat) (x1 : Int32)  : Met l yX9_nearestToZero wsX9_nearestToZero ({ frames := 0, cells := 0, slots := 0, locals := 0 }) (va_Pc [.int x1] (fun U => U.heap.size = sz ∧ WD D cy X (fun _ => True) S U ∧ NW U)) (va_Qi (fun r (_ : Unit) => r = f_X9_nearestToZero x1) (fun _ t => WD D cy X (va_A (X ++ PL cy S) sz) S t) (va_A (X ++ PL cy S) sz)) 0 0 (va_A (X ++ PL cy S) sz) := by
  refine Met.ofW (cc := cX9_nearestToZero) (maxL := 2) (ret := (some .int)) (by decide) rfl ?_
  intro p e s m args below meth c s₁ B hml hv
  obtain ⟨rfl, hsz, ⟨hP, hK, hD0⟩, hN⟩ := hv
  have hx := B.exec
  have hb := B.bytes
  have hr := B.returns
  have hts := atoms_spec (ws := wsX9_nearestToZero) B.pre
  have hown : s.vm.findClass RX9 = some m.cls := findClass_of_methodNamed (x := yX9_nearestToZero) B.named
  have hlocks := B.notSynchronized
  subst hsz
  have hD := hD0.self (sz := s.heap.size)
  generalize hAe : va_A (X ++ PL cy S) s.heap.size = A at hD ⊢
  have hA : ∀ q : Nat, s.heap.size ≤ q → A q := fun q h => by rw [← hAe]; exact Or.inr h
  have hS : va_S A s.heap s.heap [] := va_S.rf
  have hl := lv_entry ([.int x1]) (n := 2) (Nat.le_of_ble_eq_true rfl)
  rw [lg_entry_eq]
  generalize (lg_sl ([.int x1]) ++ List.replicate (2 - (lg_sl ([.int x1])).length) Slot.unset).toArray = ls at hl ⊢
  have hl : lv_has ls 2 [(0, .int x1)] := hl
  refine lv_iload_n hx hb dX9_nearestToZero_0 rfl (lv_at hl 0 rfl) ?_
  refine lv_iconst (v := 1) hx hb dX9_nearestToZero_1 (by decide) ?_
  refine lv_iadd hx hb dX9_nearestToZero_2 ?_
  refine lv_iconst (v := 2) hx hb dX9_nearestToZero_3 (by decide) ?_
  refine lv_idiv hx hb dX9_nearestToZero_4 (by decide) ?_
  refine lv_istore_n (lv' := [(1, .int ((x1 + (1 : Int32)) / (2 : Int32))), (0, .int x1)]) hx hb dX9_nearestToZero_5 rfl hl (by decide) rfl (fun ls hl => ?_)
  refine lv_iload_n hx hb dX9_nearestToZero_6 rfl (lv_at hl 1 rfl) ?_
  refine lv_iconst (v := 2) hx hb dX9_nearestToZero_7 (by decide) ?_
  refine lv_irem hx hb dX9_nearestToZero_8 (by decide) ?_
  refine lv_iconst (v := 1) hx hb dX9_nearestToZero_9 (by decide) ?_
  refine lv_icmp_ne (tgt := 17) hx hb dX9_nearestToZero_10 (by decide) (fun c1 => ?_) (fun c1 => ?_)
  · have c1i : ¬ (x1 - x1 / (2 : Int32) * (2 : Int32)).toInt = 1 := neq_v rfl rfl c1
    refine lv_iload_n hx hb dX9_nearestToZero_17 rfl (lv_at hl 0 rfl) ?_
    refine lv_ineg hx hb dX9_nearestToZero_18 ?_
    refine W.widen (k := 0) (n := 0) (Nat.le_of_ble_eq_true rfl) (Nat.le_of_ble_eq_true rfl) ?_
    exact W.iret (v := -((x1 + (1 : Int32)) / (2 : Int32))) hx hb hr (fun t ht hW9 => ⟨⟨-((x1 + (1 : Int32)) / (2 : Int32)), (), rfl, (by show (-((x1 + (1 : Int32)) / (2 : Int32))) = f_X9_nearestToZero x1; unfold f_X9_nearestToZero; rw [if_neg c1]), wd_end hP hK hD ht hW9.alike⟩, hS.F ht⟩) hS.2.2 dX9_nearestToZero_19 hlocks
  · have c1i : (x1 - x1 / (2 : Int32) * (2 : Int32)).toInt = 1 := eq_v rfl rfl c1
    refine lv_iload_n hx hb dX9_nearestToZero_13 rfl (lv_at hl 0 rfl) ?_
    refine lv_goto (tgt := 19) hx hb dX9_nearestToZero_14 (by decide) ?_
    refine W.widen (k := 0) (n := 0) (Nat.le_of_ble_eq_true rfl) (Nat.le_of_ble_eq_true rfl) ?_
    exact W.iret (v := (x1 + (1 : Int32)) / (2 : Int32)) hx hb hr (fun t ht hW9 => ⟨⟨(x1 + (1 : Int32)) / (2 : Int32), (), rfl, (by show ((x1 + (1 : Int32)) / (2 : Int32)) = f_X9_nearestToZero x1; unfold f_X9_nearestToZero; rw [if_pos c1]), wd_end hP hK hD ht hW9.alike⟩, hS.F ht⟩) hS.2.2 dX9_nearestToZero_19 hlocks
def f_X2_pitchDiameter (S : wPS) (o1 : Nat) : Int32 := (S.I o1 1) * (S.I o1 2)
theorem hi_X2_pitchDiameter_X2 : ∀ w ∈ u_ws RX2 TX2 20, w ∈ wsX2_pitchDiameter := by decide +kernel
theorem hd_X2_pitchDiameter : yX2_pitchDiameter.cls = RX2 ∧ yX2_pitchDiameter.cls ≠ "java/lang/invoke/MethodHandle" ∧ yX2_pitchDiameter.cls ≠ "java/lang/invoke/VarHandle" ∧ (parseMethodDescriptor yX2_pitchDiameter.desc).map (fun d => d.parameters.length) = some 0 := by decide +kernel
set_option maxHeartbeats 4000000 in
set_option maxRecDepth 100000 in
theorem c_X2_pitchDiameter (l : Launch) {D : va_G} {cy : Nat → ClassId} {X : va_W} (S : wPS) (sz : Nat) (o1 : Nat) (h_o1 : isA S o1 2)  : Met l yX2_pitchDiameter wsX2_pitchDiameter ({ frames := 0, cells := 0, slots := 0, locals := 0 }) (va_Pc [.ref o1] (fun U => U.heap.size = sz ∧ WD D cy X (fun _ => True) S U ∧ NW U)) (va_Qi (fun r (_ : Unit) => r = f_X2_pitchDiameter S o1) (fun _ t => WD D cy X (va_A (X ++ PL cy S) sz) S t) (va_A (X ++ PL cy S) sz)) 0 0 (va_A (X ++ PL cy S) sz) := by
  refine Met.ofW (cc := cX2_pitchDiameter) (maxL := 1) (ret := (some .int)) (by decide) rfl ?_
  intro p e s m args below meth c s₁ B hml hv
  obtain ⟨rfl, hsz, ⟨hP, hK, hD0⟩, hN⟩ := hv
  have hx := B.exec
  have hb := B.bytes
  have hr := B.returns
  have hts := atoms_spec (ws := wsX2_pitchDiameter) B.pre
  have hown : s.vm.findClass RX2 = some m.cls := findClass_of_methodNamed (x := yX2_pitchDiameter) B.named
  have hlocks := B.notSynchronized
  subst hsz
  have hD := hD0.self (sz := s.heap.size)
  generalize hAe : va_A (X ++ PL cy S) s.heap.size = A at hD ⊢
  have hA : ∀ q : Nat, s.heap.size ≤ q → A q := fun q h => by rw [← hAe]; exact Or.inr h
  have hS : va_S A s.heap s.heap [] := va_S.rf
  have hl := lv_entry ([.ref o1]) (n := 1) (Nat.le_of_ble_eq_true rfl)
  rw [lg_entry_eq]
  generalize (lg_sl ([.ref o1]) ++ List.replicate (1 - (lg_sl ([.ref o1])).length) Slot.unset).toArray = ls at hl ⊢
  have hl : lv_has ls 1 [(0, .ref o1)] := hl
  refine lv_aload_n hx hb dX2_pitchDiameter_0 rfl (lv_at hl 0 rfl) ?_
  obtain ⟨k1, gk1, hk1⟩ := wGt (cy := cy) X S h_o1.1 h_o1.2.1
  refine va_get (D := D) (ci := 6) (v := .int (S.I o1 1)) (C := RX2) (T := TX2) (N := 20) hx hb hts hi_X2_pitchDiameter_X2 hown hK hP k1 hk1 rfl 1 (by decide) (hts (.fieldLink RX2 15 "Hobhouse$Gear" "teeth" "I") (by decide +kernel)) (fun _ h9 => h9) rfl dX2_pitchDiameter_1 ?_
  refine lv_aload_n hx hb dX2_pitchDiameter_4 rfl (lv_at hl 0 rfl) ?_
  obtain ⟨k2, gk2, hk2⟩ := wGt (cy := cy) X S h_o1.1 h_o1.2.1
  refine va_get (D := D) (ci := 6) (v := .int (S.I o1 2)) (C := RX2) (T := TX2) (N := 20) hx hb hts hi_X2_pitchDiameter_X2 hown hK hP k2 hk2 rfl 2 (by decide) (hts (.fieldLink RX2 18 "Hobhouse$Gear" "module" "I") (by decide +kernel)) (fun _ h9 => h9) rfl dX2_pitchDiameter_5 ?_
  refine lv_imul hx hb dX2_pitchDiameter_8 ?_
  refine W.widen (k := 0) (n := 0) (Nat.le_of_ble_eq_true rfl) (Nat.le_of_ble_eq_true rfl) ?_
  exact W.iret (v := (S.I o1 1) * (S.I o1 2)) hx hb hr (fun t ht hW9 => ⟨⟨(S.I o1 1) * (S.I o1 2), (), rfl, (by show ((S.I o1 1) * (S.I o1 2)) = f_X2_pitchDiameter S o1; unfold f_X2_pitchDiameter; rfl), wd_end hP hK hD ht hW9.alike⟩, hS.F ht⟩) hS.2.2 dX2_pitchDiameter_9 hlocks
def f_X2_tipAt (S : wPS) (o1 : Nat) (x1 : Int32) : Int32 := f_X9_tipOf (S.I o1 1) (S.I o1 2) x1
theorem hi_X2_tipAt_X2 : ∀ w ∈ u_ws RX2 TX2 20, w ∈ wsX2_tipAt := by decide +kernel
theorem hd_X2_tipAt : yX2_tipAt.cls = RX2 ∧ yX2_tipAt.cls ≠ "java/lang/invoke/MethodHandle" ∧ yX2_tipAt.cls ≠ "java/lang/invoke/VarHandle" ∧ (parseMethodDescriptor yX2_tipAt.desc).map (fun d => d.parameters.length) = some 1 := by decide +kernel
set_option maxHeartbeats 4000000 in
set_option maxRecDepth 100000 in
theorem c_X2_tipAt (l : Launch) {D : va_G} {cy : Nat → ClassId} {X : va_W} (S : wPS) (sz : Nat) (o1 : Nat) (h_o1 : isA S o1 2) (x1 : Int32)  : Met l yX2_tipAt wsX2_tipAt ({ frames := 1, cells := 0, slots := 0, locals := 22 }) (va_Pc [.ref o1, .int x1] (fun U => U.heap.size = sz ∧ WD D cy X (fun _ => True) S U ∧ NW U)) (va_Qi (fun r (_ : Unit) => r = f_X2_tipAt S o1 x1) (fun _ t => WD D cy X (va_A (X ++ PL cy S) sz) S t) (va_A (X ++ PL cy S) sz)) 0 0 (va_A (X ++ PL cy S) sz) := by
  refine Met.ofW (cc := cX2_tipAt) (maxL := 2) (ret := (some .int)) (by decide) rfl ?_
  intro p e s m args below meth c s₁ B hml hv
  obtain ⟨rfl, hsz, ⟨hP, hK, hD0⟩, hN⟩ := hv
  have hx := B.exec
  have hb := B.bytes
  have hr := B.returns
  have hts := atoms_spec (ws := wsX2_tipAt) B.pre
  have hown : s.vm.findClass RX2 = some m.cls := findClass_of_methodNamed (x := yX2_tipAt) B.named
  have hlocks := B.notSynchronized
  subst hsz
  have hD := hD0.self (sz := s.heap.size)
  generalize hAe : va_A (X ++ PL cy S) s.heap.size = A at hD ⊢
  have hA : ∀ q : Nat, s.heap.size ≤ q → A q := fun q h => by rw [← hAe]; exact Or.inr h
  have hS : va_S A s.heap s.heap [] := va_S.rf
  have hl := lv_entry ([.ref o1, .int x1]) (n := 2) (Nat.le_of_ble_eq_true rfl)
  rw [lg_entry_eq]
  generalize (lg_sl ([.ref o1, .int x1]) ++ List.replicate (2 - (lg_sl ([.ref o1, .int x1])).length) Slot.unset).toArray = ls at hl ⊢
  have hl : lv_has ls 2 [(0, .ref o1), (1, .int x1)] := hl
  refine lv_aload_n hx hb dX2_tipAt_0 rfl (lv_at hl 0 rfl) ?_
  obtain ⟨k1, gk1, hk1⟩ := wGt (cy := cy) X S h_o1.1 h_o1.2.1
  refine va_get (D := D) (ci := 6) (v := .int (S.I o1 1)) (C := RX2) (T := TX2) (N := 20) hx hb hts hi_X2_tipAt_X2 hown hK hP k1 hk1 rfl 1 (by decide) (hts (.fieldLink RX2 15 "Hobhouse$Gear" "teeth" "I") (by decide +kernel)) (fun _ h9 => h9) rfl dX2_tipAt_1 ?_
  refine lv_aload_n hx hb dX2_tipAt_4 rfl (lv_at hl 0 rfl) ?_
  obtain ⟨k2, gk2, hk2⟩ := wGt (cy := cy) X S h_o1.1 h_o1.2.1
  refine va_get (D := D) (ci := 6) (v := .int (S.I o1 2)) (C := RX2) (T := TX2) (N := 20) hx hb hts hi_X2_tipAt_X2 hown hK hP k2 hk2 rfl 2 (by decide) (hts (.fieldLink RX2 18 "Hobhouse$Gear" "module" "I") (by decide +kernel)) (fun _ h9 => h9) rfl dX2_tipAt_5 ?_
  refine lv_iload_n hx hb dX2_tipAt_8 rfl (lv_at hl 1 rfl) ?_
  have hFc := free_all hD hS hA
  refine va_calli (va_runSN (As := [.int (S.I o1 1), .int (S.I o1 2), .int x1]) (rest := []) ⟨hx, hb, hml, hown, hts⟩ (c_X9_tipOf l (cy := cy) (X := X) (D := D) S _ (S.I o1 1) (S.I o1 2) x1) ⟨va_cnB 3 hts gX2_tipAt_X9_tipOf_n49 rfl rfl rfl (hN (.methodLinkNest RX2 49 yX9_tipOf RX9) (by decide +kernel)) (hts (.initialized RX9) (by decide +kernel)) (by decide +kernel) ⟨Nat.le_of_ble_eq_true rfl, Nat.le_of_ble_eq_true rfl⟩, hts (.static yX9_tipOf) (by decide +kernel), trivial⟩ (pS hP hK hD hN) rfl rfl hl.1 rfl (lv_room (Nat.le_of_ble_eq_true rfl)) dX2_tipAt_9 ⟨(Nat.zero_le _), (Nat.zero_le _)⟩) hS (fun q _ h => hFc q h) hFc (fun r3 u t H1 locs ht hvm hw hB hz1 hk1 hS => ?_)
  have c4 := hw
  obtain ⟨hP, hD⟩ := wd_post hFc ht hB
  generalize H1 = H at hP hS ⊢
  obtain rfl : f_X9_tipOf (S.I o1 1) (S.I o1 2) x1 = r3 := c4.symm
  refine W.widen (k := 0) (n := 0) (Nat.le_of_ble_eq_true rfl) (Nat.le_of_ble_eq_true rfl) ?_
  exact W.iret (v := f_X9_tipOf (S.I o1 1) (S.I o1 2) x1) hx hb hr (fun t ht hW9 => ⟨⟨f_X9_tipOf (S.I o1 1) (S.I o1 2) x1, (), rfl, (by show (f_X9_tipOf (S.I o1 1) (S.I o1 2) x1) = f_X2_tipAt S o1 x1; unfold f_X2_tipAt; rfl), wd_end hP hK hD ht hW9.alike⟩, hS.F ht⟩) hS.2.2 dX2_tipAt_12 hlocks
def f_X2_isGoodAt (S : wPS) (o1 : Nat) (x1 : Int32) : Int32 := if (f_X9_undercuts (S.I o1 1) x1) = (0 : Int32) then if (f_X9_sharpens (S.I o1 1) x1) = (0 : Int32) then (1 : Int32) else (0 : Int32) else (0 : Int32)
theorem f_X2_isGoodAt_b (S : wPS) (o1 : Nat) (x1 : Int32) : narrow .boolean (.int (f_X2_isGoodAt S o1 x1)) = .int (f_X2_isGoodAt S o1 x1) := by
  unfold f_X2_isGoodAt; (repeat' split) <;> rfl
theorem hi_X2_isGoodAt_X2 : ∀ w ∈ u_ws RX2 TX2 20, w ∈ wsX2_isGoodAt := by decide +kernel
theorem hd_X2_isGoodAt : yX2_isGoodAt.cls = RX2 ∧ yX2_isGoodAt.cls ≠ "java/lang/invoke/MethodHandle" ∧ yX2_isGoodAt.cls ≠ "java/lang/invoke/VarHandle" ∧ (parseMethodDescriptor yX2_isGoodAt.desc).map (fun d => d.parameters.length) = some 1 := by decide +kernel
set_option maxHeartbeats 4000000 in
set_option maxRecDepth 100000 in
theorem c_X2_isGoodAt (l : Launch) {D : va_G} {cy : Nat → ClassId} {X : va_W} (S : wPS) (sz : Nat) (o1 : Nat) (h_o1 : isA S o1 2) (x1 : Int32)  : Met l yX2_isGoodAt wsX2_isGoodAt ({ frames := 1, cells := 0, slots := 0, locals := 21 }) (va_Pc [.ref o1, .int x1] (fun U => U.heap.size = sz ∧ WD D cy X (fun _ => True) S U ∧ NW U)) (va_Qi (fun r (_ : Unit) => r = f_X2_isGoodAt S o1 x1) (fun _ t => WD D cy X (va_A (X ++ PL cy S) sz) S t) (va_A (X ++ PL cy S) sz)) 0 0 (va_A (X ++ PL cy S) sz) := by
  refine Met.ofW (cc := cX2_isGoodAt) (maxL := 2) (ret := (some .boolean)) (by decide) rfl ?_
  intro p e s m args below meth c s₁ B hml hv
  obtain ⟨rfl, hsz, ⟨hP, hK, hD0⟩, hN⟩ := hv
  have hx := B.exec
  have hb := B.bytes
  have hr := B.returns
  have hts := atoms_spec (ws := wsX2_isGoodAt) B.pre
  have hown : s.vm.findClass RX2 = some m.cls := findClass_of_methodNamed (x := yX2_isGoodAt) B.named
  have hlocks := B.notSynchronized
  subst hsz
  have hD := hD0.self (sz := s.heap.size)
  generalize hAe : va_A (X ++ PL cy S) s.heap.size = A at hD ⊢
  have hA : ∀ q : Nat, s.heap.size ≤ q → A q := fun q h => by rw [← hAe]; exact Or.inr h
  have hS : va_S A s.heap s.heap [] := va_S.rf
  have hl := lv_entry ([.ref o1, .int x1]) (n := 2) (Nat.le_of_ble_eq_true rfl)
  rw [lg_entry_eq]
  generalize (lg_sl ([.ref o1, .int x1]) ++ List.replicate (2 - (lg_sl ([.ref o1, .int x1])).length) Slot.unset).toArray = ls at hl ⊢
  have hl : lv_has ls 2 [(0, .ref o1), (1, .int x1)] := hl
  refine lv_aload_n hx hb dX2_isGoodAt_0 rfl (lv_at hl 0 rfl) ?_
  obtain ⟨k1, gk1, hk1⟩ := wGt (cy := cy) X S h_o1.1 h_o1.2.1
  refine va_get (D := D) (ci := 6) (v := .int (S.I o1 1)) (C := RX2) (T := TX2) (N := 20) hx hb hts hi_X2_isGoodAt_X2 hown hK hP k1 hk1 rfl 1 (by decide) (hts (.fieldLink RX2 15 "Hobhouse$Gear" "teeth" "I") (by decide +kernel)) (fun _ h9 => h9) rfl dX2_isGoodAt_1 ?_
  refine lv_iload_n hx hb dX2_isGoodAt_4 rfl (lv_at hl 1 rfl) ?_
  have hFc := free_all hD hS hA
  refine va_calli (va_runSN (As := [.int (S.I o1 1), .int x1]) (rest := []) ⟨hx, hb, hml, hown, hts⟩ (c_X9_undercuts l (cy := cy) (X := X) (D := D) S _ (S.I o1 1) x1) ⟨va_cnB 2 hts gX2_isGoodAt_X9_undercuts_n53 rfl rfl rfl (hN (.methodLinkNest RX2 53 yX9_undercuts RX9) (by decide +kernel)) (hts (.initialized RX9) (by decide +kernel)) (by decide +kernel) ⟨Nat.le_of_ble_eq_true rfl, Nat.le_of_ble_eq_true rfl⟩, hts (.static yX9_undercuts) (by decide +kernel), trivial⟩ (pS hP hK hD hN) rfl rfl hl.1 rfl (lv_room (Nat.le_of_ble_eq_true rfl)) dX2_isGoodAt_5 ⟨(Nat.zero_le _), (Nat.zero_le _)⟩) hS (fun q _ h => hFc q h) hFc (fun r2 u t H1 locs ht hvm hw hB hz1 hk1 hS => ?_)
  have c3 := hw
  obtain ⟨hP, hD⟩ := wd_post hFc ht hB
  generalize H1 = H at hP hS ⊢
  obtain rfl : f_X9_undercuts (S.I o1 1) x1 = r2 := c3.symm
  refine lv_if_ne (tgt := 26) hx hb dX2_isGoodAt_8 (by decide) (fun c4 => ?_) (fun c4 => ?_)
  · have c4i : ¬ (f_X9_undercuts (S.I o1 1) x1).toInt = 0 := neq_v rfl rfl c4
    refine lv_iconst (v := 0) hx hb dX2_isGoodAt_26 (by decide) ?_
    refine W.widen (k := 0) (n := 0) (Nat.le_of_ble_eq_true rfl) (Nat.le_of_ble_eq_true rfl) ?_
    exact W.zret (v := (0 : Int32)) hx hb hr (by rfl) (fun t ht hW9 => ⟨⟨(0 : Int32), (), rfl, (by show (0 : Int32) = f_X2_isGoodAt S o1 x1; unfold f_X2_isGoodAt; rw [if_neg c4]), wd_end hP hK hD ht hW9.alike⟩, hS.F ht⟩) hS.2.2 dX2_isGoodAt_27 hlocks
  · have c4i : (f_X9_undercuts (S.I o1 1) x1).toInt = 0 := eq_v rfl rfl c4
    refine lv_aload_n hx hb dX2_isGoodAt_11 rfl (lv_at hl 0 rfl) ?_
    obtain ⟨k5, gk5, hk5⟩ := wGt (cy := cy) X S h_o1.1 h_o1.2.1
    refine va_get (D := D) (ci := 6) (v := .int (S.I o1 1)) (C := RX2) (T := TX2) (N := 20) hx hb hts hi_X2_isGoodAt_X2 hown hK hP k5 hk5 rfl 1 (by decide) (hts (.fieldLink RX2 15 "Hobhouse$Gear" "teeth" "I") (by decide +kernel)) (fun _ h9 => h9) rfl dX2_isGoodAt_12 ?_
    refine lv_iload_n hx hb dX2_isGoodAt_15 rfl (lv_at hl 1 rfl) ?_
    have hFc := free_all hD hS hA
    refine va_calli (va_runSN (As := [.int (S.I o1 1), .int x1]) (rest := []) ⟨hx, hb, hml, hown, hts⟩ (c_X9_sharpens l (cy := cy) (X := X) (D := D) S _ (S.I o1 1) x1) ⟨va_cnB 2 hts gX2_isGoodAt_X9_sharpens_n57 rfl rfl rfl (hN (.methodLinkNest RX2 57 yX9_sharpens RX9) (by decide +kernel)) (hts (.initialized RX9) (by decide +kernel)) (by decide +kernel) ⟨Nat.le_of_ble_eq_true rfl, Nat.le_of_ble_eq_true rfl⟩, hts (.static yX9_sharpens) (by decide +kernel), trivial⟩ (pS hP hK hD hN) rfl rfl hl.1 rfl (lv_room (Nat.le_of_ble_eq_true rfl)) dX2_isGoodAt_16 ⟨(Nat.zero_le _), (Nat.zero_le _)⟩) hS (fun q _ h => hFc q h) hFc (fun r6 u t H1 locs ht hvm hw hB hz1 hk1 hS => ?_)
    have c7 := hw
    obtain ⟨hP, hD⟩ := wd_post hFc ht hB
    generalize H1 = H at hP hS ⊢
    obtain rfl : f_X9_sharpens (S.I o1 1) x1 = r6 := c7.symm
    refine lv_if_ne (tgt := 26) hx hb dX2_isGoodAt_19 (by decide) (fun c8 => ?_) (fun c8 => ?_)
    · have c8i : ¬ (f_X9_sharpens (S.I o1 1) x1).toInt = 0 := neq_v rfl rfl c8
      refine lv_iconst (v := 0) hx hb dX2_isGoodAt_26 (by decide) ?_
      refine W.widen (k := 0) (n := 0) (Nat.le_of_ble_eq_true rfl) (Nat.le_of_ble_eq_true rfl) ?_
      exact W.zret (v := (0 : Int32)) hx hb hr (by rfl) (fun t ht hW9 => ⟨⟨(0 : Int32), (), rfl, (by show (0 : Int32) = f_X2_isGoodAt S o1 x1; unfold f_X2_isGoodAt; rw [if_pos c4, if_neg c8]), wd_end hP hK hD ht hW9.alike⟩, hS.F ht⟩) hS.2.2 dX2_isGoodAt_27 hlocks
    · have c8i : (f_X9_sharpens (S.I o1 1) x1).toInt = 0 := eq_v rfl rfl c8
      refine lv_iconst (v := 1) hx hb dX2_isGoodAt_22 (by decide) ?_
      refine lv_goto (tgt := 27) hx hb dX2_isGoodAt_23 (by decide) ?_
      refine W.widen (k := 0) (n := 0) (Nat.le_of_ble_eq_true rfl) (Nat.le_of_ble_eq_true rfl) ?_
      exact W.zret (v := (1 : Int32)) hx hb hr (by rfl) (fun t ht hW9 => ⟨⟨(1 : Int32), (), rfl, (by show (1 : Int32) = f_X2_isGoodAt S o1 x1; unfold f_X2_isGoodAt; rw [if_pos c4, if_pos c8]), wd_end hP hK hD ht hW9.alike⟩, hS.F ht⟩) hS.2.2 dX2_isGoodAt_27 hlocks
def f_X2_pairsWith (S : wPS) (o1 : Nat) (o2 : Nat) : Int32 := if (S.I o1 2) = (S.I o2 2) then if (S.I o1 3) = (-(S.I o2 3)) then (1 : Int32) else (0 : Int32) else (0 : Int32)
theorem f_X2_pairsWith_b (S : wPS) (o1 : Nat) (o2 : Nat) : narrow .boolean (.int (f_X2_pairsWith S o1 o2)) = .int (f_X2_pairsWith S o1 o2) := by
  unfold f_X2_pairsWith; (repeat' split) <;> rfl
theorem hi_X2_pairsWith_X2 : ∀ w ∈ u_ws RX2 TX2 20, w ∈ wsX2_pairsWith := by decide +kernel
theorem hd_X2_pairsWith : yX2_pairsWith.cls = RX2 ∧ yX2_pairsWith.cls ≠ "java/lang/invoke/MethodHandle" ∧ yX2_pairsWith.cls ≠ "java/lang/invoke/VarHandle" ∧ (parseMethodDescriptor yX2_pairsWith.desc).map (fun d => d.parameters.length) = some 1 := by decide +kernel
set_option maxHeartbeats 4000000 in
set_option maxRecDepth 100000 in
theorem c_X2_pairsWith (l : Launch) {D : va_G} {cy : Nat → ClassId} {X : va_W} (S : wPS) (sz : Nat) (o1 : Nat) (h_o1 : isA S o1 2) (o2 : Nat) (h_o2 : isA S o2 2)  : Met l yX2_pairsWith wsX2_pairsWith ({ frames := 0, cells := 0, slots := 0, locals := 0 }) (va_Pc [.ref o1, .ref o2] (fun U => U.heap.size = sz ∧ WD D cy X (fun _ => True) S U ∧ NW U)) (va_Qi (fun r (_ : Unit) => r = f_X2_pairsWith S o1 o2) (fun _ t => WD D cy X (va_A (X ++ PL cy S) sz) S t) (va_A (X ++ PL cy S) sz)) 0 0 (va_A (X ++ PL cy S) sz) := by
  refine Met.ofW (cc := cX2_pairsWith) (maxL := 2) (ret := (some .boolean)) (by decide) rfl ?_
  intro p e s m args below meth c s₁ B hml hv
  obtain ⟨rfl, hsz, ⟨hP, hK, hD0⟩, hN⟩ := hv
  have hx := B.exec
  have hb := B.bytes
  have hr := B.returns
  have hts := atoms_spec (ws := wsX2_pairsWith) B.pre
  have hown : s.vm.findClass RX2 = some m.cls := findClass_of_methodNamed (x := yX2_pairsWith) B.named
  have hlocks := B.notSynchronized
  subst hsz
  have hD := hD0.self (sz := s.heap.size)
  generalize hAe : va_A (X ++ PL cy S) s.heap.size = A at hD ⊢
  have hA : ∀ q : Nat, s.heap.size ≤ q → A q := fun q h => by rw [← hAe]; exact Or.inr h
  have hS : va_S A s.heap s.heap [] := va_S.rf
  have hl := lv_entry ([.ref o1, .ref o2]) (n := 2) (Nat.le_of_ble_eq_true rfl)
  rw [lg_entry_eq]
  generalize (lg_sl ([.ref o1, .ref o2]) ++ List.replicate (2 - (lg_sl ([.ref o1, .ref o2])).length) Slot.unset).toArray = ls at hl ⊢
  have hl : lv_has ls 2 [(0, .ref o1), (1, .ref o2)] := hl
  refine lv_aload_n hx hb dX2_pairsWith_0 rfl (lv_at hl 0 rfl) ?_
  obtain ⟨k1, gk1, hk1⟩ := wGt (cy := cy) X S h_o1.1 h_o1.2.1
  refine va_get (D := D) (ci := 6) (v := .int (S.I o1 2)) (C := RX2) (T := TX2) (N := 20) hx hb hts hi_X2_pairsWith_X2 hown hK hP k1 hk1 rfl 2 (by decide) (hts (.fieldLink RX2 18 "Hobhouse$Gear" "module" "I") (by decide +kernel)) (fun _ h9 => h9) rfl dX2_pairsWith_1 ?_
  refine lv_aload_n hx hb dX2_pairsWith_4 rfl (lv_at hl 1 rfl) ?_
  obtain ⟨k2, gk2, hk2⟩ := wGt (cy := cy) X S h_o2.1 h_o2.2.1
  refine va_get (D := D) (ci := 6) (v := .int (S.I o2 2)) (C := RX2) (T := TX2) (N := 20) hx hb hts hi_X2_pairsWith_X2 hown hK hP k2 hk2 rfl 2 (by decide) (hts (.fieldLink RX2 18 "Hobhouse$Gear" "module" "I") (by decide +kernel)) (fun _ h9 => h9) rfl dX2_pairsWith_5 ?_
  refine lv_icmp_ne (tgt := 27) hx hb dX2_pairsWith_8 (by decide) (fun c3 => ?_) (fun c3 => ?_)
  · have c3i : ¬ (S.I o1 2).toInt = (S.I o2 2).toInt := neq_v rfl rfl c3
    refine lv_iconst (v := 0) hx hb dX2_pairsWith_27 (by decide) ?_
    refine W.widen (k := 0) (n := 0) (Nat.le_of_ble_eq_true rfl) (Nat.le_of_ble_eq_true rfl) ?_
    exact W.zret (v := (0 : Int32)) hx hb hr (by rfl) (fun t ht hW9 => ⟨⟨(0 : Int32), (), rfl, (by show (0 : Int32) = f_X2_pairsWith S o1 o2; unfold f_X2_pairsWith; rw [if_neg c3]), wd_end hP hK hD ht hW9.alike⟩, hS.F ht⟩) hS.2.2 dX2_pairsWith_28 hlocks
  · have c3i : (S.I o1 2).toInt = (S.I o2 2).toInt := eq_v rfl rfl c3
    refine lv_aload_n hx hb dX2_pairsWith_11 rfl (lv_at hl 0 rfl) ?_
    obtain ⟨k4, gk4, hk4⟩ := wGt (cy := cy) X S h_o1.1 h_o1.2.1
    refine va_get (D := D) (ci := 6) (v := .int (S.I o1 3)) (C := RX2) (T := TX2) (N := 20) hx hb hts hi_X2_pairsWith_X2 hown hK hP k4 hk4 rfl 3 (by decide) (hts (.fieldLink RX2 21 "Hobhouse$Gear" "helix" "I") (by decide +kernel)) (fun _ h9 => h9) rfl dX2_pairsWith_12 ?_
    refine lv_aload_n hx hb dX2_pairsWith_15 rfl (lv_at hl 1 rfl) ?_
    obtain ⟨k5, gk5, hk5⟩ := wGt (cy := cy) X S h_o2.1 h_o2.2.1
    refine va_get (D := D) (ci := 6) (v := .int (S.I o2 3)) (C := RX2) (T := TX2) (N := 20) hx hb hts hi_X2_pairsWith_X2 hown hK hP k5 hk5 rfl 3 (by decide) (hts (.fieldLink RX2 21 "Hobhouse$Gear" "helix" "I") (by decide +kernel)) (fun _ h9 => h9) rfl dX2_pairsWith_16 ?_
    refine lv_ineg hx hb dX2_pairsWith_19 ?_
    refine lv_icmp_ne (tgt := 27) hx hb dX2_pairsWith_20 (by decide) (fun c6 => ?_) (fun c6 => ?_)
    · have c6i : ¬ (S.I o1 3).toInt = (-(S.I o2 3)).toInt := neq_v rfl rfl c6
      refine lv_iconst (v := 0) hx hb dX2_pairsWith_27 (by decide) ?_
      refine W.widen (k := 0) (n := 0) (Nat.le_of_ble_eq_true rfl) (Nat.le_of_ble_eq_true rfl) ?_
      exact W.zret (v := (0 : Int32)) hx hb hr (by rfl) (fun t ht hW9 => ⟨⟨(0 : Int32), (), rfl, (by show (0 : Int32) = f_X2_pairsWith S o1 o2; unfold f_X2_pairsWith; rw [if_pos c3, if_neg c6]), wd_end hP hK hD ht hW9.alike⟩, hS.F ht⟩) hS.2.2 dX2_pairsWith_28 hlocks
    · have c6i : (S.I o1 3).toInt = (-(S.I o2 3)).toInt := eq_v rfl rfl c6
      refine lv_iconst (v := 1) hx hb dX2_pairsWith_23 (by decide) ?_
      refine lv_goto (tgt := 28) hx hb dX2_pairsWith_24 (by decide) ?_
      refine W.widen (k := 0) (n := 0) (Nat.le_of_ble_eq_true rfl) (Nat.le_of_ble_eq_true rfl) ?_
      exact W.zret (v := (1 : Int32)) hx hb hr (by rfl) (fun t ht hW9 => ⟨⟨(1 : Int32), (), rfl, (by show (1 : Int32) = f_X2_pairsWith S o1 o2; unfold f_X2_pairsWith; rw [if_pos c3, if_pos c6]), wd_end hP hK hD ht hW9.alike⟩, hS.F ht⟩) hS.2.2 dX2_pairsWith_28 hlocks
def f_X2_isFreeFor (S : wPS) (o1 : Nat) (o2 : Nat) : Int32 := if (S.I o1 19) = (-1 : Int32) then (1 : Int32) else if (S.I o1 19) = (S.I o2 0) then (1 : Int32) else (0 : Int32)
theorem f_X2_isFreeFor_b (S : wPS) (o1 : Nat) (o2 : Nat) : narrow .boolean (.int (f_X2_isFreeFor S o1 o2)) = .int (f_X2_isFreeFor S o1 o2) := by
  unfold f_X2_isFreeFor; (repeat' split) <;> rfl
theorem hi_X2_isFreeFor_X2 : ∀ w ∈ u_ws RX2 TX2 20, w ∈ wsX2_isFreeFor := by decide +kernel
theorem hd_X2_isFreeFor : yX2_isFreeFor.cls = RX2 ∧ yX2_isFreeFor.cls ≠ "java/lang/invoke/MethodHandle" ∧ yX2_isFreeFor.cls ≠ "java/lang/invoke/VarHandle" ∧ (parseMethodDescriptor yX2_isFreeFor.desc).map (fun d => d.parameters.length) = some 1 := by decide +kernel
set_option maxHeartbeats 4000000 in
set_option maxRecDepth 100000 in
theorem c_X2_isFreeFor (l : Launch) {D : va_G} {cy : Nat → ClassId} {X : va_W} (S : wPS) (sz : Nat) (o1 : Nat) (h_o1 : isA S o1 2) (o2 : Nat) (h_o2 : isA S o2 2)  : Met l yX2_isFreeFor wsX2_isFreeFor ({ frames := 0, cells := 0, slots := 0, locals := 0 }) (va_Pc [.ref o1, .ref o2] (fun U => U.heap.size = sz ∧ WD D cy X (fun _ => True) S U ∧ NW U)) (va_Qi (fun r (_ : Unit) => r = f_X2_isFreeFor S o1 o2) (fun _ t => WD D cy X (va_A (X ++ PL cy S) sz) S t) (va_A (X ++ PL cy S) sz)) 0 0 (va_A (X ++ PL cy S) sz) := by
  refine Met.ofW (cc := cX2_isFreeFor) (maxL := 2) (ret := (some .boolean)) (by decide) rfl ?_
  intro p e s m args below meth c s₁ B hml hv
  obtain ⟨rfl, hsz, ⟨hP, hK, hD0⟩, hN⟩ := hv
  have hx := B.exec
  have hb := B.bytes
  have hr := B.returns
  have hts := atoms_spec (ws := wsX2_isFreeFor) B.pre
  have hown : s.vm.findClass RX2 = some m.cls := findClass_of_methodNamed (x := yX2_isFreeFor) B.named
  have hlocks := B.notSynchronized
  subst hsz
  have hD := hD0.self (sz := s.heap.size)
  generalize hAe : va_A (X ++ PL cy S) s.heap.size = A at hD ⊢
  have hA : ∀ q : Nat, s.heap.size ≤ q → A q := fun q h => by rw [← hAe]; exact Or.inr h
  have hS : va_S A s.heap s.heap [] := va_S.rf
  have hl := lv_entry ([.ref o1, .ref o2]) (n := 2) (Nat.le_of_ble_eq_true rfl)
  rw [lg_entry_eq]
  generalize (lg_sl ([.ref o1, .ref o2]) ++ List.replicate (2 - (lg_sl ([.ref o1, .ref o2])).length) Slot.unset).toArray = ls at hl ⊢
  have hl : lv_has ls 2 [(0, .ref o1), (1, .ref o2)] := hl
  refine lv_aload_n hx hb dX2_isFreeFor_0 rfl (lv_at hl 0 rfl) ?_
  obtain ⟨k1, gk1, hk1⟩ := wGt (cy := cy) X S h_o1.1 h_o1.2.1
  refine va_get (D := D) (ci := 6) (v := .int (S.I o1 19)) (C := RX2) (T := TX2) (N := 20) hx hb hts hi_X2_isFreeFor_X2 hown hK hP k1 hk1 rfl 19 (by decide) (hts (.fieldLink RX2 46 "Hobhouse$Gear" "mateNumber" "I") (by decide +kernel)) (fun _ h9 => h9) rfl dX2_isFreeFor_1 ?_
  refine lv_iconst (v := -1) hx hb dX2_isFreeFor_4 (by decide) ?_
  refine lv_icmp_eq (tgt := 19) hx hb dX2_isFreeFor_5 (by decide) (fun c2 => ?_) (fun c2 => ?_)
  · have c2i : (S.I o1 19).toInt = -1 := eq_v rfl rfl c2
    refine lv_iconst (v := 1) hx hb dX2_isFreeFor_19 (by decide) ?_
    refine lv_goto (tgt := 24) hx hb dX2_isFreeFor_20 (by decide) ?_
    refine W.widen (k := 0) (n := 0) (Nat.le_of_ble_eq_true rfl) (Nat.le_of_ble_eq_true rfl) ?_
    exact W.zret (v := (1 : Int32)) hx hb hr (by rfl) (fun t ht hW9 => ⟨⟨(1 : Int32), (), rfl, (by show (1 : Int32) = f_X2_isFreeFor S o1 o2; unfold f_X2_isFreeFor; rw [if_pos c2]), wd_end hP hK hD ht hW9.alike⟩, hS.F ht⟩) hS.2.2 dX2_isFreeFor_24 hlocks
  · have c2i : ¬ (S.I o1 19).toInt = -1 := neq_v rfl rfl c2
    refine lv_aload_n hx hb dX2_isFreeFor_8 rfl (lv_at hl 0 rfl) ?_
    obtain ⟨k3, gk3, hk3⟩ := wGt (cy := cy) X S h_o1.1 h_o1.2.1
    refine va_get (D := D) (ci := 6) (v := .int (S.I o1 19)) (C := RX2) (T := TX2) (N := 20) hx hb hts hi_X2_isFreeFor_X2 hown hK hP k3 hk3 rfl 19 (by decide) (hts (.fieldLink RX2 46 "Hobhouse$Gear" "mateNumber" "I") (by decide +kernel)) (fun _ h9 => h9) rfl dX2_isFreeFor_9 ?_
    refine lv_aload_n hx hb dX2_isFreeFor_12 rfl (lv_at hl 1 rfl) ?_
    obtain ⟨k4, gk4, hk4⟩ := wGt (cy := cy) X S h_o2.1 h_o2.2.1
    refine va_get (D := D) (ci := 6) (v := .int (S.I o2 0)) (C := RX2) (T := TX2) (N := 20) hx hb hts hi_X2_isFreeFor_X2 hown hK hP k4 hk4 rfl 0 (by decide) (hts (.fieldLink RX2 9 "Hobhouse$Gear" "number" "I") (by decide +kernel)) (fun _ h9 => h9) rfl dX2_isFreeFor_13 ?_
    refine lv_icmp_ne (tgt := 23) hx hb dX2_isFreeFor_16 (by decide) (fun c5 => ?_) (fun c5 => ?_)
    · have c5i : ¬ (S.I o1 19).toInt = (S.I o2 0).toInt := neq_v rfl rfl c5
      refine lv_iconst (v := 0) hx hb dX2_isFreeFor_23 (by decide) ?_
      refine W.widen (k := 0) (n := 0) (Nat.le_of_ble_eq_true rfl) (Nat.le_of_ble_eq_true rfl) ?_
      exact W.zret (v := (0 : Int32)) hx hb hr (by rfl) (fun t ht hW9 => ⟨⟨(0 : Int32), (), rfl, (by show (0 : Int32) = f_X2_isFreeFor S o1 o2; unfold f_X2_isFreeFor; rw [if_neg c2, if_neg c5]), wd_end hP hK hD ht hW9.alike⟩, hS.F ht⟩) hS.2.2 dX2_isFreeFor_24 hlocks
    · have c5i : (S.I o1 19).toInt = (S.I o2 0).toInt := eq_v rfl rfl c5
      refine lv_iconst (v := 1) hx hb dX2_isFreeFor_19 (by decide) ?_
      refine lv_goto (tgt := 24) hx hb dX2_isFreeFor_20 (by decide) ?_
      refine W.widen (k := 0) (n := 0) (Nat.le_of_ble_eq_true rfl) (Nat.le_of_ble_eq_true rfl) ?_
      exact W.zret (v := (1 : Int32)) hx hb hr (by rfl) (fun t ht hW9 => ⟨⟨(1 : Int32), (), rfl, (by show (1 : Int32) = f_X2_isFreeFor S o1 o2; unfold f_X2_isFreeFor; rw [if_neg c2, if_pos c5]), wd_end hP hK hD ht hW9.alike⟩, hS.F ht⟩) hS.2.2 dX2_isFreeFor_24 hlocks
def f_X2_isBroken (S : wPS) (o1 : Nat) : Int32 := if (lg_cmp (S.J o1 18) (1000000 : Int64)) < (0 : Int32) then (0 : Int32) else (1 : Int32)
theorem f_X2_isBroken_b (S : wPS) (o1 : Nat) : narrow .boolean (.int (f_X2_isBroken S o1)) = .int (f_X2_isBroken S o1) := by
  unfold f_X2_isBroken; (repeat' split) <;> rfl
theorem hi_X2_isBroken_X2 : ∀ w ∈ u_ws RX2 TX2 20, w ∈ wsX2_isBroken := by decide +kernel
theorem hd_X2_isBroken : yX2_isBroken.cls = RX2 ∧ yX2_isBroken.cls ≠ "java/lang/invoke/MethodHandle" ∧ yX2_isBroken.cls ≠ "java/lang/invoke/VarHandle" ∧ (parseMethodDescriptor yX2_isBroken.desc).map (fun d => d.parameters.length) = some 0 := by decide +kernel
set_option maxHeartbeats 4000000 in
set_option maxRecDepth 100000 in
theorem c_X2_isBroken (l : Launch) {D : va_G} {cy : Nat → ClassId} {X : va_W} (S : wPS) (sz : Nat) (o1 : Nat) (h_o1 : isA S o1 2)  : Met l yX2_isBroken wsX2_isBroken ({ frames := 0, cells := 0, slots := 0, locals := 0 }) (va_Pc [.ref o1] (fun U => U.heap.size = sz ∧ WD D cy X (fun _ => True) S U ∧ NW U)) (va_Qi (fun r (_ : Unit) => r = f_X2_isBroken S o1) (fun _ t => WD D cy X (va_A (X ++ PL cy S) sz) S t) (va_A (X ++ PL cy S) sz)) 0 0 (va_A (X ++ PL cy S) sz) := by
  refine Met.ofW (cc := cX2_isBroken) (maxL := 1) (ret := (some .boolean)) (by decide) rfl ?_
  intro p e s m args below meth c s₁ B hml hv
  obtain ⟨rfl, hsz, ⟨hP, hK, hD0⟩, hN⟩ := hv
  have hx := B.exec
  have hb := B.bytes
  have hr := B.returns
  have hts := atoms_spec (ws := wsX2_isBroken) B.pre
  have hown : s.vm.findClass RX2 = some m.cls := findClass_of_methodNamed (x := yX2_isBroken) B.named
  have hlocks := B.notSynchronized
  subst hsz
  have hD := hD0.self (sz := s.heap.size)
  generalize hAe : va_A (X ++ PL cy S) s.heap.size = A at hD ⊢
  have hA : ∀ q : Nat, s.heap.size ≤ q → A q := fun q h => by rw [← hAe]; exact Or.inr h
  have hS : va_S A s.heap s.heap [] := va_S.rf
  have hl := lv_entry ([.ref o1]) (n := 1) (Nat.le_of_ble_eq_true rfl)
  rw [lg_entry_eq]
  generalize (lg_sl ([.ref o1]) ++ List.replicate (1 - (lg_sl ([.ref o1])).length) Slot.unset).toArray = ls at hl ⊢
  have hl : lv_has ls 1 [(0, .ref o1)] := hl
  refine lv_aload_n hx hb dX2_isBroken_0 rfl (lv_at hl 0 rfl) ?_
  obtain ⟨k1, gk1, hk1⟩ := wGt (cy := cy) X S h_o1.1 h_o1.2.1
  refine va_get (D := D) (ci := 6) (v := .long (S.J o1 18)) (C := RX2) (T := TX2) (N := 20) hx hb hts hi_X2_isBroken_X2 hown hK hP k1 hk1 rfl 18 (by decide) (hts (.fieldLink RX2 82 "Hobhouse$Gear" "hurt" "J") (by decide +kernel)) (fun _ h9 => h9) rfl dX2_isBroken_1 ?_
  refine lv_ldc2 (own := RX2) (v := 1000000) hx hb hown (hts (.constantLong RX2 86 (1000000)) (by decide +kernel)) dX2_isBroken_4 ?_
  refine W.lcmp hx hb dX2_isBroken_7 ?_
  refine lv_if_lt (tgt := 15) hx hb dX2_isBroken_8 (by decide) (fun c2 => ?_) (fun c2 => ?_)
  · have c2i := lc_lt c2
    refine lv_iconst (v := 0) hx hb dX2_isBroken_15 (by decide) ?_
    refine W.widen (k := 0) (n := 0) (Nat.le_of_ble_eq_true rfl) (Nat.le_of_ble_eq_true rfl) ?_
    exact W.zret (v := (0 : Int32)) hx hb hr (by rfl) (fun t ht hW9 => ⟨⟨(0 : Int32), (), rfl, (by show (0 : Int32) = f_X2_isBroken S o1; unfold f_X2_isBroken; rw [if_pos c2]), wd_end hP hK hD ht hW9.alike⟩, hS.F ht⟩) hS.2.2 dX2_isBroken_16 hlocks
  · have c2i := lc_nlt c2
    refine lv_iconst (v := 1) hx hb dX2_isBroken_11 (by decide) ?_
    refine lv_goto (tgt := 16) hx hb dX2_isBroken_12 (by decide) ?_
    refine W.widen (k := 0) (n := 0) (Nat.le_of_ble_eq_true rfl) (Nat.le_of_ble_eq_true rfl) ?_
    exact W.zret (v := (1 : Int32)) hx hb hr (by rfl) (fun t ht hW9 => ⟨⟨(1 : Int32), (), rfl, (by show (1 : Int32) = f_X2_isBroken S o1; unfold f_X2_isBroken; rw [if_neg c2]), wd_end hP hK hD ht hW9.alike⟩, hS.F ht⟩) hS.2.2 dX2_isBroken_16 hlocks
def f_X2_isWhole (S : wPS) (o1 : Nat) : Int32 := if (S.I o1 9) = (0 : Int32) then (0 : Int32) else if (S.I o1 17) = (0 : Int32) then if (f_X2_isBroken S o1) = (0 : Int32) then (1 : Int32) else (0 : Int32) else (0 : Int32)
theorem f_X2_isWhole_b (S : wPS) (o1 : Nat) : narrow .boolean (.int (f_X2_isWhole S o1)) = .int (f_X2_isWhole S o1) := by
  unfold f_X2_isWhole; (repeat' split) <;> rfl
theorem hi_X2_isWhole_X2 : ∀ w ∈ u_ws RX2 TX2 20, w ∈ wsX2_isWhole := by decide +kernel
theorem hd_X2_isWhole : yX2_isWhole.cls = RX2 ∧ yX2_isWhole.cls ≠ "java/lang/invoke/MethodHandle" ∧ yX2_isWhole.cls ≠ "java/lang/invoke/VarHandle" ∧ (parseMethodDescriptor yX2_isWhole.desc).map (fun d => d.parameters.length) = some 0 := by decide +kernel
set_option maxHeartbeats 4000000 in
set_option maxRecDepth 100000 in
theorem c_X2_isWhole (l : Launch) {D : va_G} {cy : Nat → ClassId} {X : va_W} (S : wPS) (sz : Nat) (o1 : Nat) (h_o1 : isA S o1 2)  : Met l yX2_isWhole wsX2_isWhole ({ frames := 1, cells := 0, slots := 0, locals := 20 }) (va_Pc [.ref o1] (fun U => U.heap.size = sz ∧ WD D cy X (fun _ => True) S U ∧ NW U)) (va_Qi (fun r (_ : Unit) => r = f_X2_isWhole S o1) (fun _ t => WD D cy X (va_A (X ++ PL cy S) sz) S t) (va_A (X ++ PL cy S) sz)) 0 0 (va_A (X ++ PL cy S) sz) := by
  refine Met.ofW (cc := cX2_isWhole) (maxL := 1) (ret := (some .boolean)) (by decide) rfl ?_
  intro p e s m args below meth c s₁ B hml hv
  obtain ⟨rfl, hsz, ⟨hP, hK, hD0⟩, hN⟩ := hv
  have hx := B.exec
  have hb := B.bytes
  have hr := B.returns
  have hts := atoms_spec (ws := wsX2_isWhole) B.pre
  have hown : s.vm.findClass RX2 = some m.cls := findClass_of_methodNamed (x := yX2_isWhole) B.named
  have hlocks := B.notSynchronized
  subst hsz
  have hD := hD0.self (sz := s.heap.size)
  generalize hAe : va_A (X ++ PL cy S) s.heap.size = A at hD ⊢
  have hA : ∀ q : Nat, s.heap.size ≤ q → A q := fun q h => by rw [← hAe]; exact Or.inr h
  have hS : va_S A s.heap s.heap [] := va_S.rf
  have hl := lv_entry ([.ref o1]) (n := 1) (Nat.le_of_ble_eq_true rfl)
  rw [lg_entry_eq]
  generalize (lg_sl ([.ref o1]) ++ List.replicate (1 - (lg_sl ([.ref o1])).length) Slot.unset).toArray = ls at hl ⊢
  have hl : lv_has ls 1 [(0, .ref o1)] := hl
  refine lv_aload_n hx hb dX2_isWhole_0 rfl (lv_at hl 0 rfl) ?_
  obtain ⟨k1, gk1, hk1⟩ := wGt (cy := cy) X S h_o1.1 h_o1.2.1
  refine va_get (D := D) (ci := 6) (v := .int (S.I o1 9)) (C := RX2) (T := TX2) (N := 20) hx hb hts hi_X2_isWhole_X2 hown hK hP k1 hk1 rfl 9 (by decide) (hts (.fieldLink RX2 88 "Hobhouse$Gear" "isCut" "Z") (by decide +kernel)) (fun _ h9 => h9) rfl dX2_isWhole_1 ?_
  refine lv_if_eq (tgt := 25) hx hb dX2_isWhole_4 (by decide) (fun c2 => ?_) (fun c2 => ?_)
  · have c2i : (S.I o1 9).toInt = 0 := eq_v rfl rfl c2
    refine lv_iconst (v := 0) hx hb dX2_isWhole_25 (by decide) ?_
    refine W.widen (k := 0) (n := 0) (Nat.le_of_ble_eq_true rfl) (Nat.le_of_ble_eq_true rfl) ?_
    exact W.zret (v := (0 : Int32)) hx hb hr (by rfl) (fun t ht hW9 => ⟨⟨(0 : Int32), (), rfl, (by show (0 : Int32) = f_X2_isWhole S o1; unfold f_X2_isWhole; rw [if_pos c2]), wd_end hP hK hD ht hW9.alike⟩, hS.F ht⟩) hS.2.2 dX2_isWhole_26 hlocks
  · have c2i : ¬ (S.I o1 9).toInt = 0 := neq_v rfl rfl c2
    refine lv_aload_n hx hb dX2_isWhole_7 rfl (lv_at hl 0 rfl) ?_
    obtain ⟨k3, gk3, hk3⟩ := wGt (cy := cy) X S h_o1.1 h_o1.2.1
    refine va_get (D := D) (ci := 6) (v := .int (S.I o1 17)) (C := RX2) (T := TX2) (N := 20) hx hb hts hi_X2_isWhole_X2 hown hK hP k3 hk3 rfl 17 (by decide) (hts (.fieldLink RX2 92 "Hobhouse$Gear" "isScrap" "Z") (by decide +kernel)) (fun _ h9 => h9) rfl dX2_isWhole_8 ?_
    refine lv_if_ne (tgt := 25) hx hb dX2_isWhole_11 (by decide) (fun c4 => ?_) (fun c4 => ?_)
    · have c4i : ¬ (S.I o1 17).toInt = 0 := neq_v rfl rfl c4
      refine lv_iconst (v := 0) hx hb dX2_isWhole_25 (by decide) ?_
      refine W.widen (k := 0) (n := 0) (Nat.le_of_ble_eq_true rfl) (Nat.le_of_ble_eq_true rfl) ?_
      exact W.zret (v := (0 : Int32)) hx hb hr (by rfl) (fun t ht hW9 => ⟨⟨(0 : Int32), (), rfl, (by show (0 : Int32) = f_X2_isWhole S o1; unfold f_X2_isWhole; rw [if_neg c2, if_neg c4]), wd_end hP hK hD ht hW9.alike⟩, hS.F ht⟩) hS.2.2 dX2_isWhole_26 hlocks
    · have c4i : (S.I o1 17).toInt = 0 := eq_v rfl rfl c4
      refine lv_aload_n hx hb dX2_isWhole_14 rfl (lv_at hl 0 rfl) ?_
      have hFc := free_all hD hS hA
      obtain ⟨k5, gk5, hk5⟩ := wGt (cy := cy) X S h_o1.1 h_o1.2.1
      refine va_calli (va_runV (As := []) (rest := []) ⟨hx, hb, hml, hown, hts⟩ (c_X2_isBroken l (cy := cy) (X := X) (D := D) S _ o1 h_o1) (cwV 0 hts gX2_isWhole_X2_isBroken rfl rfl rfl hd_X2_isBroken ⟨Nat.le_of_ble_eq_true rfl, Nat.le_of_ble_eq_true rfl⟩) (pV (va_recv hK hP (q := (RX2, TX2, 20)) (ci := 6) (q0 := k5) rfl hk5) hP hK hD hN) rfl rfl hl.1 rfl (lv_room (Nat.le_of_ble_eq_true rfl)) dX2_isWhole_15 ⟨(Nat.zero_le _), (Nat.zero_le _)⟩) hS (fun q _ h => hFc q h) hFc (fun r6 u t H1 locs ht hvm hw hB hz1 hk1 hS => ?_)
      have c7 := hw
      obtain ⟨hP, hD⟩ := wd_post hFc ht hB
      generalize H1 = H at hP hS ⊢
      obtain rfl : f_X2_isBroken S o1 = r6 := c7.symm
      refine lv_if_ne (tgt := 25) hx hb dX2_isWhole_18 (by decide) (fun c8 => ?_) (fun c8 => ?_)
      · have c8i : ¬ (f_X2_isBroken S o1).toInt = 0 := neq_v rfl rfl c8
        refine lv_iconst (v := 0) hx hb dX2_isWhole_25 (by decide) ?_
        refine W.widen (k := 0) (n := 0) (Nat.le_of_ble_eq_true rfl) (Nat.le_of_ble_eq_true rfl) ?_
        exact W.zret (v := (0 : Int32)) hx hb hr (by rfl) (fun t ht hW9 => ⟨⟨(0 : Int32), (), rfl, (by show (0 : Int32) = f_X2_isWhole S o1; unfold f_X2_isWhole; rw [if_neg c2, if_pos c4, if_neg c8]), wd_end hP hK hD ht hW9.alike⟩, hS.F ht⟩) hS.2.2 dX2_isWhole_26 hlocks
      · have c8i : (f_X2_isBroken S o1).toInt = 0 := eq_v rfl rfl c8
        refine lv_iconst (v := 1) hx hb dX2_isWhole_21 (by decide) ?_
        refine lv_goto (tgt := 26) hx hb dX2_isWhole_22 (by decide) ?_
        refine W.widen (k := 0) (n := 0) (Nat.le_of_ble_eq_true rfl) (Nat.le_of_ble_eq_true rfl) ?_
        exact W.zret (v := (1 : Int32)) hx hb hr (by rfl) (fun t ht hW9 => ⟨⟨(1 : Int32), (), rfl, (by show (1 : Int32) = f_X2_isWhole S o1; unfold f_X2_isWhole; rw [if_neg c2, if_pos c4, if_pos c8]), wd_end hP hK hD ht hW9.alike⟩, hS.F ht⟩) hS.2.2 dX2_isWhole_26 hlocks
def f_X9_root_L6 (x1 : Int64) : Nat → Int64 → Int32 → Int64 × Int32
  | 0, w6_2, w6_4 => (w6_2, w6_4)
  | n + 1, w6_2, w6_4 => if w6_4 < (0 : Int32) then (w6_2, w6_4) else if (0 : Int32) < (lg_cmp ((w6_2 + ((1 : Int64) <<< (w6_4.toInt64 &&& 63))) * (w6_2 + ((1 : Int64) <<< (w6_4.toInt64 &&& 63)))) x1) then l1 (w6_4 + (-1 : Int32)) (fun v3 => f_X9_root_L6 x1 n w6_2 v3) else l1 (w6_4 + (-1 : Int32)) (fun v4 => f_X9_root_L6 x1 n (w6_2 + ((1 : Int64) <<< (w6_4.toInt64 &&& 63))) v4)
theorem f_X9_root_L6_s (x1 : Int64) (n : Nat) (w6_2 : Int64) (w6_4 : Int32) : f_X9_root_L6 x1 (n + 1) w6_2 w6_4 = if w6_4 < (0 : Int32) then (w6_2, w6_4) else if (0 : Int32) < (lg_cmp ((w6_2 + ((1 : Int64) <<< (w6_4.toInt64 &&& 63))) * (w6_2 + ((1 : Int64) <<< (w6_4.toInt64 &&& 63)))) x1) then l1 (w6_4 + (-1 : Int32)) (fun v3 => f_X9_root_L6 x1 n w6_2 v3) else l1 (w6_4 + (-1 : Int32)) (fun v4 => f_X9_root_L6 x1 n (w6_2 + ((1 : Int64) <<< (w6_4.toInt64 &&& 63))) v4) := rfl
def f_X9_root (x1 : Int64) : Int64 := l2 (f_X9_root_L6 x1 64 (0 : Int64) (30 : Int32)) (fun z6 z7 => z6)
theorem hd_X9_root : yX9_root.cls = RX9 ∧ yX9_root.cls ≠ "java/lang/invoke/MethodHandle" ∧ yX9_root.cls ≠ "java/lang/invoke/VarHandle" ∧ (parseMethodDescriptor yX9_root.desc).map (fun d => d.parameters.length) = some 1 := by decide +kernel
set_option maxHeartbeats 4000000 in
set_option maxRecDepth 100000 in
theorem c_X9_root (l : Launch) {D : va_G} {cy : Nat → ClassId} {X : va_W} (S : wPS) (sz : Nat) (x1 : Int64)  : Met l yX9_root wsX9_root ({ frames := 0, cells := 0, slots := 0, locals := 0 }) (va_Pc [.long x1] (fun U => U.heap.size = sz ∧ WD D cy X (fun _ => True) S U ∧ NW U)) (va_Ql (fun r (_ : Unit) => r = f_X9_root x1) (fun _ t => WD D cy X (va_A (X ++ PL cy S) sz) S t) (va_A (X ++ PL cy S) sz)) 0 0 (va_A (X ++ PL cy S) sz) := by
  refine Met.ofW (cc := cX9_root) (maxL := 7) (ret := (some .long)) (by decide) rfl ?_
  intro p e s m args below meth c s₁ B hml hv
  obtain ⟨rfl, hsz, ⟨hP, hK, hD0⟩, hN⟩ := hv
  have hx := B.exec
  have hb := B.bytes
  have hr := B.returns
  have hts := atoms_spec (ws := wsX9_root) B.pre
  have hown : s.vm.findClass RX9 = some m.cls := findClass_of_methodNamed (x := yX9_root) B.named
  have hlocks := B.notSynchronized
  subst hsz
  have hD := hD0.self (sz := s.heap.size)
  generalize hAe : va_A (X ++ PL cy S) s.heap.size = A at hD ⊢
  have hA : ∀ q : Nat, s.heap.size ≤ q → A q := fun q h => by rw [← hAe]; exact Or.inr h
  have hS : va_S A s.heap s.heap [] := va_S.rf
  have hl := lv_entry ([.long x1]) (n := 7) (Nat.le_of_ble_eq_true rfl)
  rw [lg_entry_eq]
  generalize (lg_sl ([.long x1]) ++ List.replicate (7 - (lg_sl ([.long x1])).length) Slot.unset).toArray = ls at hl ⊢
  have hl : lv_has ls 7 [(0, .long x1)] := hl
  refine lv_lconst (v := 0) hx hb dX9_root_0 (by decide) ?_
  refine lv_lstore_n (lv' := [(2, .long (0 : Int64)), (0, .long x1)]) hx hb dX9_root_1 rfl hl (by decide) rfl (fun ls hl => ?_)
  refine lv_bipush (v := 30) hx hb dX9_root_2 (by decide +kernel) ?_
  refine lv_istore (lv' := [(4, .int (30 : Int32)), (2, .long (0 : Int64)), (0, .long x1)]) hx hb dX9_root_4 hl (by decide) rfl (fun ls hl => ?_)
  have l32_30 : (30 : Int32).toInt = 30 := rfl
  have loop6 : ∀ (n : Nat) (w6_2 : Int64) (w6_4 : Int32) (H : Heap) (locs : List Loc) (ls : Array Slot), (w6_4.toInt + 1).toNat < n → w6_4.toInt ≤ 30 ∧ -1 ≤ w6_4.toInt → va_P D vwCl (X ++ PL cy S) H → va_S A s.heap H locs → lv_has ls 7 [(4, .int w6_4), (2, .long w6_2), (0, .long x1)] → (∀ (w6_2x : Int64) (w6_4x : Int32) (H : Heap) (locs : List Loc) (ls : Array Slot), w6_4x.toInt ≤ 30 ∧ -1 ≤ w6_4x.toInt → va_P D vwCl (X ++ PL cy S) H → va_S A s.heap H locs → lv_has ls 7 [(4, .int w6_4x), (2, .long w6_2x), (0, .long x1)] → f_X9_root_L6 x1 n w6_2 w6_4 = (w6_2x, w6_4x) → W p l e (headSpec wsX9_root ({ frames := 0, cells := 0, slots := 0, locals := 0 } : Room)).room s m [.long x1].toArray below meth c H locs 0 0 (MQ below (va_Ql (fun r (_ : Unit) => r = f_X9_root x1) (fun _ t => WD D cy X A S t) A) [.long x1].toArray s 0 0 A) (F0 m 38 ls [])) → W p l e (headSpec wsX9_root ({ frames := 0, cells := 0, slots := 0, locals := 0 } : Room)).room s m [.long x1].toArray below meth c H locs 0 0 (MQ below (va_Ql (fun r (_ : Unit) => r = f_X9_root x1) (fun _ t => WD D cy X A S t) A) [.long x1].toArray s 0 0 A) (F0 m 6 ls []) := by
    intro n6
    induction n6 with
    | zero => intro w6_2 w6_4 H locs ls hm; exact absurd hm (Nat.not_lt_zero _)
    | succ n6 ih6 =>
      intro w6_2 w6_4 H locs ls hm6 hi6 hP hS hl ko6
      refine lv_iload hx hb dX9_root_6 (lv_at hl 0 rfl) ?_
      refine lv_if_lt (tgt := 38) hx hb dX9_root_8 (by decide) (fun c1 => ?_) (fun c1 => ?_)
      · have c1i : w6_4.toInt < 0 := lt_v rfl rfl c1
        exact ko6 w6_2 w6_4 _ _ _ (by omega) hP hS (lv_sub hl [0, 1, 2] rfl) (by rw [f_X9_root_L6_s, if_pos c1])
      · have c1i : 0 ≤ w6_4.toInt := nlt_v rfl rfl c1
        refine lv_lload_n hx hb dX9_root_11 rfl (lv_at hl 1 rfl) ?_
        refine lv_lconst (v := 1) hx hb dX9_root_12 (by decide) ?_
        refine lv_iload hx hb dX9_root_13 (lv_at hl 0 rfl) ?_
        refine lv_lshl hx hb dX9_root_15 rfl ?_
        refine lv_ladd hx hb dX9_root_16 ?_
        refine lv_lstore (lv' := [(5, .long (w6_2 + ((1 : Int64) <<< (w6_4.toInt64 &&& 63)))), (4, .int w6_4), (2, .long w6_2), (0, .long x1)]) hx hb dX9_root_17 hl (by decide) rfl (fun ls hl => ?_)
        refine lv_lload hx hb dX9_root_19 (lv_at hl 0 rfl) ?_
        refine lv_lload hx hb dX9_root_21 (lv_at hl 0 rfl) ?_
        refine lv_lmul hx hb dX9_root_23 ?_
        refine lv_lload_n hx hb dX9_root_24 rfl (lv_at hl 3 rfl) ?_
        refine W.lcmp hx hb dX9_root_25 ?_
        refine lv_if_gt (tgt := 32) hx hb dX9_root_26 (by decide) (fun c2 => ?_) (fun c2 => ?_)
        · obtain ⟨v3, hv3⟩ : ∃ z : Int32, w6_4 + (-1 : Int32) = z := ⟨_, rfl⟩
          have iv3 : v3.toInt = w6_4.toInt - 1 := by rw [← hv3]; exact t_addr (n := -1) rfl (by omega)
          refine lv_iinc (v := v3) (lv' := [(4, .int v3), (5, .long (w6_2 + ((1 : Int64) <<< (w6_4.toInt64 &&& 63)))), (2, .long w6_2), (0, .long x1)]) hx hb dX9_root_32 hl (k := 1) rfl (by rw [← hv3]; rfl) (by decide) rfl (fun ls hl => ?_)
          refine lv_goto (tgt := 6) hx hb dX9_root_35 (by decide) ?_
          exact ih6 w6_2 v3 _ _ _ (Nat.lt_of_lt_of_le (by omega) (Nat.le_of_lt_succ hm6)) (by omega) hP hS (lv_sub hl [0, 2, 3] rfl) (fun w6_2y w6_4y H9 locs9 ls9 i9 P9 S9 l9 hfe => ko6 w6_2y w6_4y H9 locs9 ls9 i9 P9 S9 l9 (Eq.trans (by rw [f_X9_root_L6_s, if_neg c1, if_pos c2, l1_eq hv3]) hfe))
        · refine lv_lload hx hb dX9_root_29 (lv_at hl 0 rfl) ?_
          refine lv_lstore_n (lv' := [(2, .long (w6_2 + ((1 : Int64) <<< (w6_4.toInt64 &&& 63)))), (5, .long (w6_2 + ((1 : Int64) <<< (w6_4.toInt64 &&& 63)))), (4, .int w6_4), (0, .long x1)]) hx hb dX9_root_31 rfl hl (by decide) rfl (fun ls hl => ?_)
          obtain ⟨v4, hv4⟩ : ∃ z : Int32, w6_4 + (-1 : Int32) = z := ⟨_, rfl⟩
          have iv4 : v4.toInt = w6_4.toInt - 1 := by rw [← hv4]; exact t_addr (n := -1) rfl (by omega)
          refine lv_iinc (v := v4) (lv' := [(4, .int v4), (2, .long (w6_2 + ((1 : Int64) <<< (w6_4.toInt64 &&& 63)))), (5, .long (w6_2 + ((1 : Int64) <<< (w6_4.toInt64 &&& 63)))), (0, .long x1)]) hx hb dX9_root_32 hl (k := 2) rfl (by rw [← hv4]; rfl) (by decide) rfl (fun ls hl => ?_)
          refine lv_goto (tgt := 6) hx hb dX9_root_35 (by decide) ?_
          exact ih6 (w6_2 + ((1 : Int64) <<< (w6_4.toInt64 &&& 63))) v4 _ _ _ (Nat.lt_of_lt_of_le (by omega) (Nat.le_of_lt_succ hm6)) (by omega) hP hS (lv_sub hl [0, 1, 3] rfl) (fun w6_2y w6_4y H9 locs9 ls9 i9 P9 S9 l9 hfe => ko6 w6_2y w6_4y H9 locs9 ls9 i9 P9 S9 l9 (Eq.trans (by rw [f_X9_root_L6_s, if_neg c1, if_neg c2, l1_eq hv4]) hfe))
  refine loop6 64 (0 : Int64) (30 : Int32) _ _ _ (by omega) (by omega) hP hS (lv_sub hl [0, 1, 2] rfl) (fun z6 z7 H locs ls hi6 hP hS hl c5 => ?_)
  refine lv_lload_n hx hb dX9_root_38 rfl (lv_at hl 1 rfl) ?_
  refine W.widen (k := 0) (n := 0) (Nat.le_of_ble_eq_true rfl) (Nat.le_of_ble_eq_true rfl) ?_
  exact W.lret (v := z6) hx hb hr (fun t ht hW9 => ⟨⟨z6, (), rfl, (by show z6 = f_X9_root x1; unfold f_X9_root; rw [l2_eq c5]), wd_end hP hK hD ht hW9.alike⟩, hS.F ht⟩) hS.2.2 dX9_root_39 hlocks
def f_X9_commonDivisor_L7 (x1 : Int32) (x2 : Int32) : Nat → Int32 → Int32 → Int32 → Int32 × Int32 × Int32
  | 0, w7_2, w7_3, w7_4 => (w7_2, w7_3, w7_4)
  | n + 1, w7_2, w7_3, w7_4 => if (64 : Int32) ≤ w7_4 then (w7_2, w7_3, w7_4) else if w7_3 = (0 : Int32) then (w7_2, w7_3, w7_4) else f_X9_commonDivisor_L7 x1 x2 n w7_3 (w7_2 - w7_2 / w7_3 * w7_3) (w7_4 + (1 : Int32))
theorem f_X9_commonDivisor_L7_s (x1 : Int32) (x2 : Int32) (n : Nat) (w7_2 : Int32) (w7_3 : Int32) (w7_4 : Int32) : f_X9_commonDivisor_L7 x1 x2 (n + 1) w7_2 w7_3 w7_4 = if (64 : Int32) ≤ w7_4 then (w7_2, w7_3, w7_4) else if w7_3 = (0 : Int32) then (w7_2, w7_3, w7_4) else f_X9_commonDivisor_L7 x1 x2 n w7_3 (w7_2 - w7_2 / w7_3 * w7_3) (w7_4 + (1 : Int32)) := rfl
def f_X9_commonDivisor (x1 : Int32) (x2 : Int32) : Int32 := l3 (f_X9_commonDivisor_L7 x1 x2 65 x1 x2 (0 : Int32)) (fun z5 z6 z7 => (if z5 < (1 : Int32) then (1 : Int32) else z5))
theorem hd_X9_commonDivisor : yX9_commonDivisor.cls = RX9 ∧ yX9_commonDivisor.cls ≠ "java/lang/invoke/MethodHandle" ∧ yX9_commonDivisor.cls ≠ "java/lang/invoke/VarHandle" ∧ (parseMethodDescriptor yX9_commonDivisor.desc).map (fun d => d.parameters.length) = some 2 := by decide +kernel
set_option maxHeartbeats 4000000 in
set_option maxRecDepth 100000 in
theorem c_X9_commonDivisor (l : Launch) {D : va_G} {cy : Nat → ClassId} {X : va_W} (S : wPS) (sz : Nat) (x1 : Int32) (x2 : Int32)  : Met l yX9_commonDivisor wsX9_commonDivisor ({ frames := 1, cells := 0, slots := 0, locals := 13 }) (va_Pc [.int x1, .int x2] (fun U => U.heap.size = sz ∧ WD D cy X (fun _ => True) S U ∧ NW U)) (va_Qi (fun r (_ : Unit) => r = f_X9_commonDivisor x1 x2) (fun _ t => WD D cy X (va_A (X ++ PL cy S) sz) S t) (va_A (X ++ PL cy S) sz)) 0 0 (va_A (X ++ PL cy S) sz) := by
  refine Met.ofW (cc := cX9_commonDivisor) (maxL := 6) (ret := (some .int)) (by decide) rfl ?_
  intro p e s m args below meth c s₁ B hml hv
  obtain ⟨rfl, hsz, ⟨hP, hK, hD0⟩, hN⟩ := hv
  have hx := B.exec
  have hb := B.bytes
  have hr := B.returns
  have hts := atoms_spec (ws := wsX9_commonDivisor) B.pre
  have hown : s.vm.findClass RX9 = some m.cls := findClass_of_methodNamed (x := yX9_commonDivisor) B.named
  have hlocks := B.notSynchronized
  subst hsz
  have hD := hD0.self (sz := s.heap.size)
  generalize hAe : va_A (X ++ PL cy S) s.heap.size = A at hD ⊢
  have hA : ∀ q : Nat, s.heap.size ≤ q → A q := fun q h => by rw [← hAe]; exact Or.inr h
  have hS : va_S A s.heap s.heap [] := va_S.rf
  have hl := lv_entry ([.int x1, .int x2]) (n := 6) (Nat.le_of_ble_eq_true rfl)
  rw [lg_entry_eq]
  generalize (lg_sl ([.int x1, .int x2]) ++ List.replicate (6 - (lg_sl ([.int x1, .int x2])).length) Slot.unset).toArray = ls at hl ⊢
  have hl : lv_has ls 6 [(0, .int x1), (1, .int x2)] := hl
  refine lv_iload_n hx hb dX9_commonDivisor_0 rfl (lv_at hl 0 rfl) ?_
  refine lv_istore_n (lv' := [(2, .int x1), (0, .int x1), (1, .int x2)]) hx hb dX9_commonDivisor_1 rfl hl (by decide) rfl (fun ls hl => ?_)
  refine lv_iload_n hx hb dX9_commonDivisor_2 rfl (lv_at hl 2 rfl) ?_
  refine lv_istore_n (lv' := [(3, .int x2), (2, .int x1), (0, .int x1), (1, .int x2)]) hx hb dX9_commonDivisor_3 rfl hl (by decide) rfl (fun ls hl => ?_)
  refine lv_iconst (v := 0) hx hb dX9_commonDivisor_4 (by decide) ?_
  refine lv_istore (lv' := [(4, .int (0 : Int32)), (3, .int x2), (2, .int x1), (0, .int x1), (1, .int x2)]) hx hb dX9_commonDivisor_5 hl (by decide) rfl (fun ls hl => ?_)
  have l32_0 : (0 : Int32).toInt = 0 := rfl
  have loop7 : ∀ (n : Nat) (w7_2 : Int32) (w7_3 : Int32) (w7_4 : Int32) (H : Heap) (locs : List Loc) (ls : Array Slot), (64 - w7_4.toInt).toNat < n → 0 ≤ w7_4.toInt → va_P D vwCl (X ++ PL cy S) H → va_S A s.heap H locs → lv_has ls 6 [(4, .int w7_4), (3, .int w7_3), (2, .int w7_2), (0, .int x1), (1, .int x2)] → (∀ (w7_2x : Int32) (w7_3x : Int32) (w7_4x : Int32) (H : Heap) (locs : List Loc) (ls : Array Slot), 0 ≤ w7_4x.toInt → va_P D vwCl (X ++ PL cy S) H → va_S A s.heap H locs → lv_has ls 6 [(4, .int w7_4x), (3, .int w7_3x), (2, .int w7_2x), (0, .int x1), (1, .int x2)] → f_X9_commonDivisor_L7 x1 x2 n w7_2 w7_3 w7_4 = (w7_2x, w7_3x, w7_4x) → W p l e (headSpec wsX9_commonDivisor ({ frames := 1, cells := 0, slots := 0, locals := 13 } : Room)).room s m [.int x1, .int x2].toArray below meth c H locs 0 0 (MQ below (va_Qi (fun r (_ : Unit) => r = f_X9_commonDivisor x1 x2) (fun _ t => WD D cy X A S t) A) [.int x1, .int x2].toArray s 0 0 A) (F0 m 34 ls [])) → W p l e (headSpec wsX9_commonDivisor ({ frames := 1, cells := 0, slots := 0, locals := 13 } : Room)).room s m [.int x1, .int x2].toArray below meth c H locs 0 0 (MQ below (va_Qi (fun r (_ : Unit) => r = f_X9_commonDivisor x1 x2) (fun _ t => WD D cy X A S t) A) [.int x1, .int x2].toArray s 0 0 A) (F0 m 7 ls []) := by
    intro n7
    induction n7 with
    | zero => intro w7_2 w7_3 w7_4 H locs ls hm; exact absurd hm (Nat.not_lt_zero _)
    | succ n7 ih7 =>
      intro w7_2 w7_3 w7_4 H locs ls hm7 hi7 hP hS hl ko7
      refine lv_iload hx hb dX9_commonDivisor_7 (lv_at hl 0 rfl) ?_
      refine lv_bipush (v := 64) hx hb dX9_commonDivisor_9 (by decide +kernel) ?_
      refine lv_icmp_ge (tgt := 34) hx hb dX9_commonDivisor_11 (by decide) (fun c1 => ?_) (fun c1 => ?_)
      · have c1i : 64 ≤ w7_4.toInt := le_v rfl rfl c1
        exact ko7 w7_2 w7_3 w7_4 _ _ _ (by omega) hP hS (lv_sub hl [0, 1, 2, 3, 4] rfl) (by rw [f_X9_commonDivisor_L7_s, if_pos c1])
      · have c1i : w7_4.toInt < 64 := nle_v rfl rfl c1
        refine lv_iload_n hx hb dX9_commonDivisor_14 rfl (lv_at hl 1 rfl) ?_
        refine lv_if_eq (tgt := 34) hx hb dX9_commonDivisor_15 (by decide) (fun c2 => ?_) (fun c2 => ?_)
        · have c2i : w7_3.toInt = 0 := eq_v rfl rfl c2
          exact ko7 w7_2 w7_3 w7_4 _ _ _ (by omega) hP hS (lv_sub hl [0, 1, 2, 3, 4] rfl) (by rw [f_X9_commonDivisor_L7_s, if_neg c1, if_pos c2])
        · have c2i : ¬ w7_3.toInt = 0 := neq_v rfl rfl c2
          refine lv_iload_n hx hb dX9_commonDivisor_18 rfl (lv_at hl 2 rfl) ?_
          refine lv_iload_n hx hb dX9_commonDivisor_19 rfl (lv_at hl 1 rfl) ?_
          refine lv_irem hx hb dX9_commonDivisor_20 (nz_i (by omega)) ?_
          refine lv_istore (lv' := [(5, .int (w7_2 - w7_2 / w7_3 * w7_3)), (4, .int w7_4), (3, .int w7_3), (2, .int w7_2), (0, .int x1), (1, .int x2)]) hx hb dX9_commonDivisor_21 hl (by decide) rfl (fun ls hl => ?_)
          refine lv_iload_n hx hb dX9_commonDivisor_23 rfl (lv_at hl 2 rfl) ?_
          refine lv_istore_n (lv' := [(2, .int w7_3), (5, .int (w7_2 - w7_2 / w7_3 * w7_3)), (4, .int w7_4), (3, .int w7_3), (0, .int x1), (1, .int x2)]) hx hb dX9_commonDivisor_24 rfl hl (by decide) rfl (fun ls hl => ?_)
          refine lv_iload hx hb dX9_commonDivisor_25 (lv_at hl 1 rfl) ?_
          refine lv_istore_n (lv' := [(3, .int (w7_2 - w7_2 / w7_3 * w7_3)), (2, .int w7_3), (5, .int (w7_2 - w7_2 / w7_3 * w7_3)), (4, .int w7_4), (0, .int x1), (1, .int x2)]) hx hb dX9_commonDivisor_27 rfl hl (by decide) rfl (fun ls hl => ?_)
          refine lv_iinc (v := w7_4 + (1 : Int32)) (lv' := [(4, .int (w7_4 + (1 : Int32))), (3, .int (w7_2 - w7_2 / w7_3 * w7_3)), (2, .int w7_3), (5, .int (w7_2 - w7_2 / w7_3 * w7_3)), (0, .int x1), (1, .int x2)]) hx hb dX9_commonDivisor_28 hl (k := 3) rfl (by rfl) (by decide) rfl (fun ls hl => ?_)
          refine lv_goto (tgt := 7) hx hb dX9_commonDivisor_31 (by decide) ?_
          have l32_1 : (1 : Int32).toInt = 1 := rfl
          have i3 : (w7_4 + (1 : Int32)).toInt = w7_4.toInt + 1 := t_addr (n := 1) rfl (by omega)
          exact ih7 w7_3 (w7_2 - w7_2 / w7_3 * w7_3) (w7_4 + (1 : Int32)) _ _ _ (Nat.lt_of_lt_of_le (by omega) (Nat.le_of_lt_succ hm7)) (by omega) hP hS (lv_sub hl [0, 1, 2, 4, 5] rfl) (fun w7_2y w7_3y w7_4y H9 locs9 ls9 i9 P9 S9 l9 hfe => ko7 w7_2y w7_3y w7_4y H9 locs9 ls9 i9 P9 S9 l9 (Eq.trans (by rw [f_X9_commonDivisor_L7_s, if_neg c1, if_neg c2]) hfe))
  refine loop7 65 x1 x2 (0 : Int32) _ _ _ (by omega) (by omega) hP hS (lv_sub hl [0, 1, 2, 3, 4] rfl) (fun z5 z6 z7 H locs ls hi7 hP hS hl c4 => ?_)
  refine lv_iload_n hx hb dX9_commonDivisor_34 rfl (lv_at hl 2 rfl) ?_
  refine lv_iconst (v := 1) hx hb dX9_commonDivisor_35 (by decide) ?_
  refine va_mmax hx hb (hml.trans hl.1.symm) hown (hts (.methodLink RX9 362 Lib.Math.max.name) (by decide +kernel)) (hts (.static Lib.Math.max.name) (by decide +kernel)) (hts (.initialized "java/lang/Math") (by decide +kernel)) (hts (.code Lib.Math.max.name Lib.Math.max.code 2 (some .int)) (by decide +kernel)) (Nat.le_of_ble_eq_true rfl) (Nat.le_of_ble_eq_true rfl) (Nat.zero_le _) (Nat.zero_le _) dX9_commonDivisor_36 ?_
  refine W.widen (k := 0) (n := 0) (Nat.le_of_ble_eq_true rfl) (Nat.le_of_ble_eq_true rfl) ?_
  exact W.iret (v := (if z5 < (1 : Int32) then (1 : Int32) else z5)) hx hb hr (fun t ht hW9 => ⟨⟨(if z5 < (1 : Int32) then (1 : Int32) else z5), (), rfl, (by show (if z5 < (1 : Int32) then (1 : Int32) else z5) = f_X9_commonDivisor x1 x2; unfold f_X9_commonDivisor; rw [l3_eq c4]), wd_end hP hK hD ht hW9.alike⟩, hS.F ht⟩) hS.2.2 dX9_commonDivisor_39 hlocks
theorem cd_i (a b : Int32) : 1 ≤ (f_X9_commonDivisor a b).toInt := by
  unfold f_X9_commonDivisor
  have h := (mmax_i (f_X9_commonDivisor_L7 a b 65 a b 0).1 1).2.1
  exact h
def f_X2_lineAt (S : wPS) (o1 : Nat) (x1 : Int32) : Int64 := f_X9_root (((((137 : Int64) * ((f_X2_tipAt S o1 x1).toInt64)) * ((f_X2_tipAt S o1 x1).toInt64)) - (((121 : Int64) * ((f_X2_pitchDiameter S o1).toInt64)) * ((f_X2_pitchDiameter S o1).toInt64))) / (137 : Int64))
theorem hd_X2_lineAt : yX2_lineAt.cls = RX2 ∧ yX2_lineAt.cls ≠ "java/lang/invoke/MethodHandle" ∧ yX2_lineAt.cls ≠ "java/lang/invoke/VarHandle" ∧ (parseMethodDescriptor yX2_lineAt.desc).map (fun d => d.parameters.length) = some 1 := by decide +kernel
set_option maxHeartbeats 4000000 in
set_option maxRecDepth 100000 in
theorem c_X2_lineAt (l : Launch) {D : va_G} {cy : Nat → ClassId} {X : va_W} (S : wPS) (sz : Nat) (o1 : Nat) (h_o1 : isA S o1 2) (x1 : Int32)  : Met l yX2_lineAt wsX2_lineAt ({ frames := 2, cells := 0, slots := 0, locals := 43 }) (va_Pc [.ref o1, .int x1] (fun U => U.heap.size = sz ∧ WD D cy X (fun _ => True) S U ∧ NW U)) (va_Ql (fun r (_ : Unit) => r = f_X2_lineAt S o1 x1) (fun _ t => WD D cy X (va_A (X ++ PL cy S) sz) S t) (va_A (X ++ PL cy S) sz)) 0 0 (va_A (X ++ PL cy S) sz) := by
  refine Met.ofW (cc := cX2_lineAt) (maxL := 6) (ret := (some .long)) (by decide) rfl ?_
  intro p e s m args below meth c s₁ B hml hv
  obtain ⟨rfl, hsz, ⟨hP, hK, hD0⟩, hN⟩ := hv
  have hx := B.exec
  have hb := B.bytes
  have hr := B.returns
  have hts := atoms_spec (ws := wsX2_lineAt) B.pre
  have hown : s.vm.findClass RX2 = some m.cls := findClass_of_methodNamed (x := yX2_lineAt) B.named
  have hlocks := B.notSynchronized
  subst hsz
  have hD := hD0.self (sz := s.heap.size)
  generalize hAe : va_A (X ++ PL cy S) s.heap.size = A at hD ⊢
  have hA : ∀ q : Nat, s.heap.size ≤ q → A q := fun q h => by rw [← hAe]; exact Or.inr h
  have hS : va_S A s.heap s.heap [] := va_S.rf
  have hl := lv_entry ([.ref o1, .int x1]) (n := 6) (Nat.le_of_ble_eq_true rfl)
  rw [lg_entry_eq]
  generalize (lg_sl ([.ref o1, .int x1]) ++ List.replicate (6 - (lg_sl ([.ref o1, .int x1])).length) Slot.unset).toArray = ls at hl ⊢
  have hl : lv_has ls 6 [(0, .ref o1), (1, .int x1)] := hl
  refine lv_aload_n hx hb dX2_lineAt_0 rfl (lv_at hl 0 rfl) ?_
  refine lv_iload_n hx hb dX2_lineAt_1 rfl (lv_at hl 1 rfl) ?_
  have hFc := free_all hD hS hA
  obtain ⟨k1, gk1, hk1⟩ := wGt (cy := cy) X S h_o1.1 h_o1.2.1
  refine va_calli (va_runV (As := [.int x1]) (rest := []) ⟨hx, hb, hml, hown, hts⟩ (c_X2_tipAt l (cy := cy) (X := X) (D := D) S _ o1 h_o1 x1) (cwV 1 hts gX2_lineAt_X2_tipAt rfl rfl rfl hd_X2_tipAt ⟨Nat.le_of_ble_eq_true rfl, Nat.le_of_ble_eq_true rfl⟩) (pV (va_recv hK hP (q := (RX2, TX2, 20)) (ci := 6) (q0 := k1) rfl hk1) hP hK hD hN) rfl rfl hl.1 rfl (lv_room (Nat.le_of_ble_eq_true rfl)) dX2_lineAt_2 ⟨(Nat.zero_le _), (Nat.zero_le _)⟩) hS (fun q _ h => hFc q h) hFc (fun r2 u t H1 locs ht hvm hw hB hz1 hk1 hS => ?_)
  have c3 := hw
  obtain ⟨hP, hD⟩ := wd_post hFc ht hB
  generalize H1 = H at hP hS ⊢
  obtain rfl : f_X2_tipAt S o1 x1 = r2 := c3.symm
  refine lv_i2l hx hb dX2_lineAt_5 rfl ?_
  refine lv_lstore_n (lv' := [(2, .long ((f_X2_tipAt S o1 x1).toInt64)), (0, .ref o1), (1, .int x1)]) hx hb dX2_lineAt_6 rfl hl (by decide) rfl (fun ls hl => ?_)
  refine lv_aload_n hx hb dX2_lineAt_7 rfl (lv_at hl 1 rfl) ?_
  have hFc := free_all hD hS hA
  obtain ⟨k4, gk4, hk4⟩ := wGt (cy := cy) X S h_o1.1 h_o1.2.1
  refine va_calli (va_runV (As := []) (rest := []) ⟨hx, hb, hml, hown, hts⟩ (c_X2_pitchDiameter l (cy := cy) (X := X) (D := D) S _ o1 h_o1) (cwV 0 hts gX2_lineAt_X2_pitchDiameter rfl rfl rfl hd_X2_pitchDiameter ⟨Nat.le_of_ble_eq_true rfl, Nat.le_of_ble_eq_true rfl⟩) (pV (va_recv hK hP (q := (RX2, TX2, 20)) (ci := 6) (q0 := k4) rfl hk4) hP hK hD hN) rfl rfl hl.1 rfl (lv_room (Nat.le_of_ble_eq_true rfl)) dX2_lineAt_8 ⟨(Nat.zero_le _), (Nat.zero_le _)⟩) hS (fun q _ h => hFc q h) hFc (fun r5 u t H1 locs ht hvm hw hB hz1 hk1 hS => ?_)
  have c6 := hw
  obtain ⟨hP, hD⟩ := wd_post hFc ht hB
  generalize H1 = H at hP hS ⊢
  obtain rfl : f_X2_pitchDiameter S o1 = r5 := c6.symm
  refine lv_i2l hx hb dX2_lineAt_11 rfl ?_
  refine lv_lstore (lv' := [(4, .long ((f_X2_pitchDiameter S o1).toInt64)), (2, .long ((f_X2_tipAt S o1 x1).toInt64)), (0, .ref o1), (1, .int x1)]) hx hb dX2_lineAt_12 hl (by decide) rfl (fun ls hl => ?_)
  refine lv_ldc2 (own := RX2) (v := 137) hx hb hown (hts (.constantLong RX2 68 (137)) (by decide +kernel)) dX2_lineAt_14 ?_
  refine lv_lload_n hx hb dX2_lineAt_17 rfl (lv_at hl 1 rfl) ?_
  refine lv_lmul hx hb dX2_lineAt_18 ?_
  refine lv_lload_n hx hb dX2_lineAt_19 rfl (lv_at hl 1 rfl) ?_
  refine lv_lmul hx hb dX2_lineAt_20 ?_
  refine lv_ldc2 (own := RX2) (v := 121) hx hb hown (hts (.constantLong RX2 70 (121)) (by decide +kernel)) dX2_lineAt_21 ?_
  refine lv_lload hx hb dX2_lineAt_24 (lv_at hl 0 rfl) ?_
  refine lv_lmul hx hb dX2_lineAt_26 ?_
  refine lv_lload hx hb dX2_lineAt_27 (lv_at hl 0 rfl) ?_
  refine lv_lmul hx hb dX2_lineAt_29 ?_
  refine lv_lsub hx hb dX2_lineAt_30 ?_
  refine lv_ldc2 (own := RX2) (v := 137) hx hb hown (hts (.constantLong RX2 68 (137)) (by decide +kernel)) dX2_lineAt_31 ?_
  refine lv_ldiv hx hb dX2_lineAt_34 (by decide) ?_
  have hFc := free_all hD hS hA
  refine va_calll (va_runSN (As := [.long (((((137 : Int64) * ((f_X2_tipAt S o1 x1).toInt64)) * ((f_X2_tipAt S o1 x1).toInt64)) - (((121 : Int64) * ((f_X2_pitchDiameter S o1).toInt64)) * ((f_X2_pitchDiameter S o1).toInt64))) / (137 : Int64))]) (rest := []) ⟨hx, hb, hml, hown, hts⟩ (c_X9_root l (cy := cy) (X := X) (D := D) S _ (((((137 : Int64) * ((f_X2_tipAt S o1 x1).toInt64)) * ((f_X2_tipAt S o1 x1).toInt64)) - (((121 : Int64) * ((f_X2_pitchDiameter S o1).toInt64)) * ((f_X2_pitchDiameter S o1).toInt64))) / (137 : Int64))) ⟨va_cnB 1 hts gX2_lineAt_X9_root_n72 rfl rfl rfl (hN (.methodLinkNest RX2 72 yX9_root RX9) (by decide +kernel)) (hts (.initialized RX9) (by decide +kernel)) (by decide +kernel) ⟨Nat.le_of_ble_eq_true rfl, Nat.le_of_ble_eq_true rfl⟩, hts (.static yX9_root) (by decide +kernel), trivial⟩ (pS hP hK hD hN) rfl rfl hl.1 rfl (lv_room (Nat.le_of_ble_eq_true rfl)) dX2_lineAt_35 ⟨(Nat.zero_le _), (Nat.zero_le _)⟩) hS (fun q _ h => hFc q h) hFc (fun r7 u t H1 locs ht hvm hw hB hz1 hk1 hS => ?_)
  have c8 := hw
  obtain ⟨hP, hD⟩ := wd_post hFc ht hB
  generalize H1 = H at hP hS ⊢
  obtain rfl : f_X9_root (((((137 : Int64) * ((f_X2_tipAt S o1 x1).toInt64)) * ((f_X2_tipAt S o1 x1).toInt64)) - (((121 : Int64) * ((f_X2_pitchDiameter S o1).toInt64)) * ((f_X2_pitchDiameter S o1).toInt64))) / (137 : Int64)) = r7 := c8.symm
  refine W.widen (k := 0) (n := 0) (Nat.le_of_ble_eq_true rfl) (Nat.le_of_ble_eq_true rfl) ?_
  exact W.lret (v := f_X9_root (((((137 : Int64) * ((f_X2_tipAt S o1 x1).toInt64)) * ((f_X2_tipAt S o1 x1).toInt64)) - (((121 : Int64) * ((f_X2_pitchDiameter S o1).toInt64)) * ((f_X2_pitchDiameter S o1).toInt64))) / (137 : Int64))) hx hb hr (fun t ht hW9 => ⟨⟨f_X9_root (((((137 : Int64) * ((f_X2_tipAt S o1 x1).toInt64)) * ((f_X2_tipAt S o1 x1).toInt64)) - (((121 : Int64) * ((f_X2_pitchDiameter S o1).toInt64)) * ((f_X2_pitchDiameter S o1).toInt64))) / (137 : Int64)), (), rfl, (by show (f_X9_root (((((137 : Int64) * ((f_X2_tipAt S o1 x1).toInt64)) * ((f_X2_tipAt S o1 x1).toInt64)) - (((121 : Int64) * ((f_X2_pitchDiameter S o1).toInt64)) * ((f_X2_pitchDiameter S o1).toInt64))) / (137 : Int64))) = f_X2_lineAt S o1 x1; unfold f_X2_lineAt; rfl), wd_end hP hK hD ht hW9.alike⟩, hS.F ht⟩) hS.2.2 dX2_lineAt_38 hlocks
def f_X2_wayAt (S : wPS) (o1 : Nat) (x1 : Int32) : Int64 := (f_X2_lineAt S o1 x1) - (f_X9_root ((((16 : Int64) * ((f_X2_pitchDiameter S o1).toInt64)) * ((f_X2_pitchDiameter S o1).toInt64)) / (137 : Int64)))
theorem hd_X2_wayAt : yX2_wayAt.cls = RX2 ∧ yX2_wayAt.cls ≠ "java/lang/invoke/MethodHandle" ∧ yX2_wayAt.cls ≠ "java/lang/invoke/VarHandle" ∧ (parseMethodDescriptor yX2_wayAt.desc).map (fun d => d.parameters.length) = some 1 := by decide +kernel
set_option maxHeartbeats 4000000 in
set_option maxRecDepth 100000 in
theorem c_X2_wayAt (l : Launch) {D : va_G} {cy : Nat → ClassId} {X : va_W} (S : wPS) (sz : Nat) (o1 : Nat) (h_o1 : isA S o1 2) (x1 : Int32)  : Met l yX2_wayAt wsX2_wayAt ({ frames := 3, cells := 0, slots := 0, locals := 68 }) (va_Pc [.ref o1, .int x1] (fun U => U.heap.size = sz ∧ WD D cy X (fun _ => True) S U ∧ NW U)) (va_Ql (fun r (_ : Unit) => r = f_X2_wayAt S o1 x1) (fun _ t => WD D cy X (va_A (X ++ PL cy S) sz) S t) (va_A (X ++ PL cy S) sz)) 0 0 (va_A (X ++ PL cy S) sz) := by
  refine Met.ofW (cc := cX2_wayAt) (maxL := 4) (ret := (some .long)) (by decide) rfl ?_
  intro p e s m args below meth c s₁ B hml hv
  obtain ⟨rfl, hsz, ⟨hP, hK, hD0⟩, hN⟩ := hv
  have hx := B.exec
  have hb := B.bytes
  have hr := B.returns
  have hts := atoms_spec (ws := wsX2_wayAt) B.pre
  have hown : s.vm.findClass RX2 = some m.cls := findClass_of_methodNamed (x := yX2_wayAt) B.named
  have hlocks := B.notSynchronized
  subst hsz
  have hD := hD0.self (sz := s.heap.size)
  generalize hAe : va_A (X ++ PL cy S) s.heap.size = A at hD ⊢
  have hA : ∀ q : Nat, s.heap.size ≤ q → A q := fun q h => by rw [← hAe]; exact Or.inr h
  have hS : va_S A s.heap s.heap [] := va_S.rf
  have hl := lv_entry ([.ref o1, .int x1]) (n := 4) (Nat.le_of_ble_eq_true rfl)
  rw [lg_entry_eq]
  generalize (lg_sl ([.ref o1, .int x1]) ++ List.replicate (4 - (lg_sl ([.ref o1, .int x1])).length) Slot.unset).toArray = ls at hl ⊢
  have hl : lv_has ls 4 [(0, .ref o1), (1, .int x1)] := hl
  refine lv_aload_n hx hb dX2_wayAt_0 rfl (lv_at hl 0 rfl) ?_
  have hFc := free_all hD hS hA
  obtain ⟨k1, gk1, hk1⟩ := wGt (cy := cy) X S h_o1.1 h_o1.2.1
  refine va_calli (va_runV (As := []) (rest := []) ⟨hx, hb, hml, hown, hts⟩ (c_X2_pitchDiameter l (cy := cy) (X := X) (D := D) S _ o1 h_o1) (cwV 0 hts gX2_wayAt_X2_pitchDiameter rfl rfl rfl hd_X2_pitchDiameter ⟨Nat.le_of_ble_eq_true rfl, Nat.le_of_ble_eq_true rfl⟩) (pV (va_recv hK hP (q := (RX2, TX2, 20)) (ci := 6) (q0 := k1) rfl hk1) hP hK hD hN) rfl rfl hl.1 rfl (lv_room (Nat.le_of_ble_eq_true rfl)) dX2_wayAt_1 ⟨(Nat.zero_le _), (Nat.zero_le _)⟩) hS (fun q _ h => hFc q h) hFc (fun r2 u t H1 locs ht hvm hw hB hz1 hk1 hS => ?_)
  have c3 := hw
  obtain ⟨hP, hD⟩ := wd_post hFc ht hB
  generalize H1 = H at hP hS ⊢
  obtain rfl : f_X2_pitchDiameter S o1 = r2 := c3.symm
  refine lv_i2l hx hb dX2_wayAt_4 rfl ?_
  refine lv_lstore_n (lv' := [(2, .long ((f_X2_pitchDiameter S o1).toInt64)), (0, .ref o1), (1, .int x1)]) hx hb dX2_wayAt_5 rfl hl (by decide) rfl (fun ls hl => ?_)
  refine lv_aload_n hx hb dX2_wayAt_6 rfl (lv_at hl 1 rfl) ?_
  refine lv_iload_n hx hb dX2_wayAt_7 rfl (lv_at hl 2 rfl) ?_
  have hFc := free_all hD hS hA
  obtain ⟨k4, gk4, hk4⟩ := wGt (cy := cy) X S h_o1.1 h_o1.2.1
  refine va_calll (va_runV (As := [.int x1]) (rest := []) ⟨hx, hb, hml, hown, hts⟩ (c_X2_lineAt l (cy := cy) (X := X) (D := D) S _ o1 h_o1 x1) (cwV 1 hts gX2_wayAt_X2_lineAt rfl rfl rfl hd_X2_lineAt ⟨Nat.le_of_ble_eq_true rfl, Nat.le_of_ble_eq_true rfl⟩) (pV (va_recv hK hP (q := (RX2, TX2, 20)) (ci := 6) (q0 := k4) rfl hk4) hP hK hD hN) rfl rfl hl.1 rfl (lv_room (Nat.le_of_ble_eq_true rfl)) dX2_wayAt_8 ⟨(Nat.zero_le _), (Nat.zero_le _)⟩) hS (fun q _ h => hFc q h) hFc (fun r5 u t H1 locs ht hvm hw hB hz1 hk1 hS => ?_)
  have c6 := hw
  obtain ⟨hP, hD⟩ := wd_post hFc ht hB
  generalize H1 = H at hP hS ⊢
  obtain rfl : f_X2_lineAt S o1 x1 = r5 := c6.symm
  refine lv_ldc2 (own := RX2) (v := 16) hx hb hown (hts (.constantLong RX2 80 (16)) (by decide +kernel)) dX2_wayAt_11 ?_
  refine lv_lload_n hx hb dX2_wayAt_14 rfl (lv_at hl 0 rfl) ?_
  refine lv_lmul hx hb dX2_wayAt_15 ?_
  refine lv_lload_n hx hb dX2_wayAt_16 rfl (lv_at hl 0 rfl) ?_
  refine lv_lmul hx hb dX2_wayAt_17 ?_
  refine lv_ldc2 (own := RX2) (v := 137) hx hb hown (hts (.constantLong RX2 68 (137)) (by decide +kernel)) dX2_wayAt_18 ?_
  refine lv_ldiv hx hb dX2_wayAt_21 (by decide) ?_
  have hFc := free_all hD hS hA
  refine va_calll (va_runSN (As := [.long ((((16 : Int64) * ((f_X2_pitchDiameter S o1).toInt64)) * ((f_X2_pitchDiameter S o1).toInt64)) / (137 : Int64))]) (rest := [.long (f_X2_lineAt S o1 x1)]) ⟨hx, hb, hml, hown, hts⟩ (c_X9_root l (cy := cy) (X := X) (D := D) S _ ((((16 : Int64) * ((f_X2_pitchDiameter S o1).toInt64)) * ((f_X2_pitchDiameter S o1).toInt64)) / (137 : Int64))) ⟨va_cnB 1 hts gX2_wayAt_X9_root_n72 rfl rfl rfl (hN (.methodLinkNest RX2 72 yX9_root RX9) (by decide +kernel)) (hts (.initialized RX9) (by decide +kernel)) (by decide +kernel) ⟨Nat.le_of_ble_eq_true rfl, Nat.le_of_ble_eq_true rfl⟩, hts (.static yX9_root) (by decide +kernel), trivial⟩ (pS hP hK hD hN) rfl rfl hl.1 rfl (lv_room (Nat.le_of_ble_eq_true rfl)) dX2_wayAt_22 ⟨(Nat.zero_le _), (Nat.zero_le _)⟩) hS (fun q _ h => hFc q h) hFc (fun r7 u t H1 locs ht hvm hw hB hz1 hk1 hS => ?_)
  have c8 := hw
  obtain ⟨hP, hD⟩ := wd_post hFc ht hB
  generalize H1 = H at hP hS ⊢
  obtain rfl : f_X9_root ((((16 : Int64) * ((f_X2_pitchDiameter S o1).toInt64)) * ((f_X2_pitchDiameter S o1).toInt64)) / (137 : Int64)) = r7 := c8.symm
  refine lv_lsub hx hb dX2_wayAt_25 ?_
  refine W.widen (k := 0) (n := 0) (Nat.le_of_ble_eq_true rfl) (Nat.le_of_ble_eq_true rfl) ?_
  exact W.lret (v := (f_X2_lineAt S o1 x1) - (f_X9_root ((((16 : Int64) * ((f_X2_pitchDiameter S o1).toInt64)) * ((f_X2_pitchDiameter S o1).toInt64)) / (137 : Int64)))) hx hb hr (fun t ht hW9 => ⟨⟨(f_X2_lineAt S o1 x1) - (f_X9_root ((((16 : Int64) * ((f_X2_pitchDiameter S o1).toInt64)) * ((f_X2_pitchDiameter S o1).toInt64)) / (137 : Int64))), (), rfl, (by show ((f_X2_lineAt S o1 x1) - (f_X9_root ((((16 : Int64) * ((f_X2_pitchDiameter S o1).toInt64)) * ((f_X2_pitchDiameter S o1).toInt64)) / (137 : Int64)))) = f_X2_wayAt S o1 x1; unfold f_X2_wayAt; rfl), wd_end hP hK hD ht hW9.alike⟩, hS.F ht⟩) hS.2.2 dX2_wayAt_26 hlocks
def f_X9_commonMultiple (x1 : Int32) (x2 : Int32) : Int32 := (x1 / (f_X9_commonDivisor x1 x2)) * x2
theorem hd_X9_commonMultiple : yX9_commonMultiple.cls = RX9 ∧ yX9_commonMultiple.cls ≠ "java/lang/invoke/MethodHandle" ∧ yX9_commonMultiple.cls ≠ "java/lang/invoke/VarHandle" ∧ (parseMethodDescriptor yX9_commonMultiple.desc).map (fun d => d.parameters.length) = some 2 := by decide +kernel
set_option maxHeartbeats 4000000 in
set_option maxRecDepth 100000 in
theorem c_X9_commonMultiple (l : Launch) {D : va_G} {cy : Nat → ClassId} {X : va_W} (S : wPS) (sz : Nat) (x1 : Int32) (x2 : Int32)  : Met l yX9_commonMultiple wsX9_commonMultiple ({ frames := 2, cells := 0, slots := 0, locals := 38 }) (va_Pc [.int x1, .int x2] (fun U => U.heap.size = sz ∧ WD D cy X (fun _ => True) S U ∧ NW U)) (va_Qi (fun r (_ : Unit) => r = f_X9_commonMultiple x1 x2) (fun _ t => WD D cy X (va_A (X ++ PL cy S) sz) S t) (va_A (X ++ PL cy S) sz)) 0 0 (va_A (X ++ PL cy S) sz) := by
  refine Met.ofW (cc := cX9_commonMultiple) (maxL := 2) (ret := (some .int)) (by decide) rfl ?_
  intro p e s m args below meth c s₁ B hml hv
  obtain ⟨rfl, hsz, ⟨hP, hK, hD0⟩, hN⟩ := hv
  have hx := B.exec
  have hb := B.bytes
  have hr := B.returns
  have hts := atoms_spec (ws := wsX9_commonMultiple) B.pre
  have hown : s.vm.findClass RX9 = some m.cls := findClass_of_methodNamed (x := yX9_commonMultiple) B.named
  have hlocks := B.notSynchronized
  subst hsz
  have hD := hD0.self (sz := s.heap.size)
  generalize hAe : va_A (X ++ PL cy S) s.heap.size = A at hD ⊢
  have hA : ∀ q : Nat, s.heap.size ≤ q → A q := fun q h => by rw [← hAe]; exact Or.inr h
  have hS : va_S A s.heap s.heap [] := va_S.rf
  have hl := lv_entry ([.int x1, .int x2]) (n := 2) (Nat.le_of_ble_eq_true rfl)
  rw [lg_entry_eq]
  generalize (lg_sl ([.int x1, .int x2]) ++ List.replicate (2 - (lg_sl ([.int x1, .int x2])).length) Slot.unset).toArray = ls at hl ⊢
  have hl : lv_has ls 2 [(0, .int x1), (1, .int x2)] := hl
  refine lv_iload_n hx hb dX9_commonMultiple_0 rfl (lv_at hl 0 rfl) ?_
  refine lv_iload_n hx hb dX9_commonMultiple_1 rfl (lv_at hl 0 rfl) ?_
  refine lv_iload_n hx hb dX9_commonMultiple_2 rfl (lv_at hl 1 rfl) ?_
  have hFc := free_all hD hS hA
  refine va_calli (va_runS (As := [.int x1, .int x2]) (rest := [.int x1]) ⟨hx, hb, hml, hown, hts⟩ (c_X9_commonDivisor l (cy := cy) (X := X) (D := D) S _ x1 x2) (cwS 2 hts gX9_commonMultiple_X9_commonDivisor rfl rfl rfl hd_X9_commonDivisor ⟨Nat.le_of_ble_eq_true rfl, Nat.le_of_ble_eq_true rfl⟩) (pS hP hK hD hN) rfl rfl hl.1 rfl (lv_room (Nat.le_of_ble_eq_true rfl)) dX9_commonMultiple_3 ⟨(Nat.zero_le _), (Nat.zero_le _)⟩) hS (fun q _ h => hFc q h) hFc (fun r1 u t H1 locs ht hvm hw hB hz1 hk1 hS => ?_)
  have c2 := hw
  obtain ⟨hP, hD⟩ := wd_post hFc ht hB
  generalize H1 = H at hP hS ⊢
  obtain rfl : f_X9_commonDivisor x1 x2 = r1 := c2.symm
  have i3 := cd_i x1 x2
  refine lv_idiv hx hb dX9_commonMultiple_6 (nz_i (by omega)) ?_
  refine lv_iload_n hx hb dX9_commonMultiple_7 rfl (lv_at hl 1 rfl) ?_
  refine lv_imul hx hb dX9_commonMultiple_8 ?_
  refine W.widen (k := 0) (n := 0) (Nat.le_of_ble_eq_true rfl) (Nat.le_of_ble_eq_true rfl) ?_
  exact W.iret (v := (x1 / (f_X9_commonDivisor x1 x2)) * x2) hx hb hr (fun t ht hW9 => ⟨⟨(x1 / (f_X9_commonDivisor x1 x2)) * x2, (), rfl, (by show ((x1 / (f_X9_commonDivisor x1 x2)) * x2) = f_X9_commonMultiple x1 x2; unfold f_X9_commonMultiple; rfl), wd_end hP hK hD ht hW9.alike⟩, hS.F ht⟩) hS.2.2 dX9_commonMultiple_9 hlocks
