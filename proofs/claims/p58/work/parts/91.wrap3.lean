set_option maxHeartbeats 4000000 in
set_option maxRecDepth 100000 in
theorem c_L_peak (l : Launch) (hst : l.stackTraces = false) {e0 mi : Nat} {D : va_G} {cy : Nat → ClassId} {c8 c9 : ClassId} (qo qd : Nat) (fo : Nat → Int64) (fd : Nat → UInt64) (S : wPS) (sz : Nat) (o1 : Nat) (h_o1 : isA S o1 9) (x1 : Int32) (x2 : Int32) (x3 : Int32) (hW : wtB S []) : Met l yL_peak wsL_peak ({ frames := 9, cells := 4, slots := 24, locals := 148 }) (va_Pc [.ref o1, .int x1, .int x2, .int x3, .ref qo] (fun U => U.heap.size = sz ∧ WX D cy c8 c9 (XO c8 c9 qo qd fo fd) (fun _ => True) S U ∧ NW U ∧ TH (va_A (XO c8 c9 qo qd fo fd ++ PL cy S) sz) U ∧ OU e0 mi (va_A (XO c8 c9 qo qd fo fd ++ PL cy S) sz) U U.heap ∧ NC U)) (va_Qi (fun (r : Int32) (u : wPS × (Nat → Int64)) => stp [(6, 4), (17, 100)] [] [] S u.1) (fun u t => WX D cy c8 c9 (XO c8 c9 qo qd u.2 fd) (va_A (XO c8 c9 qo qd fo fd ++ PL cy S) sz) u.1 t) (va_A (XO c8 c9 qo qd fo fd ++ PL cy S) sz)) 4 24 (va_A (XO c8 c9 qo qd fo fd ++ PL cy S) sz) := by
  refine Met.ofWH (cc := cL_peak) (maxL := 6) (ret := (some .int)) (by decide) rfl ?_
  intro p e s m args below meth c s₁ B hml hv
  obtain ⟨rfl, hsz, ⟨hP, hKX, hD0⟩, hN, hTH, hOU, hNC⟩ := hv
  have hx := B.exec
  have hb := B.bytes
  have hr := B.returns
  have hts := atoms_spec (ws := wsL_peak) B.pre
  have hown : s.vm.findClass RL = some m.cls := findClass_of_methodNamed (x := yL_peak) B.named
  have hlocks := B.notSynchronized
  have htab := vx_table (x := yL_peak) B (hts (.codeWith yL_peak cL_peak 6 (some .int) [(0, 12, 15, 21), (0, 12, 19, 13), (0, 12, 23, 23)]) List.mem_cons_self)
  have hK := kX hKX
  subst hsz
  have hD := hD0.self (sz := s.heap.size)
  generalize hAe : va_A (XO c8 c9 qo qd fo fd ++ PL cy S) s.heap.size = A at hD hTH hOU ⊢
  generalize hXe : XO c8 c9 qo qd fo fd = X at hP hD
  have hA : ∀ q : Nat, s.heap.size ≤ q → A q := fun q h => by rw [← hAe]; exact Or.inr h
  have hS : va_S A s.heap s.heap [] := va_S.rf
  have hl := lv_entry ([.ref o1, .int x1, .int x2, .int x3, .ref qo]) (n := 6) (Nat.le_of_ble_eq_true rfl)
  rw [lg_entry_eq]
  generalize (lg_sl ([.ref o1, .int x1, .int x2, .int x3, .ref qo]) ++ List.replicate (6 - (lg_sl ([.ref o1, .int x1, .int x2, .int x3, .ref qo])).length) Slot.unset).toArray = ls at hl ⊢
  have hl : lv_has ls 6 [(0, .ref o1), (1, .int x1), (2, .int x2), (3, .int x3), (4, .ref qo)] := hl
  have t0 : stp [(6, 4), (17, 100)] [] [] S S := stp.rf hW
  refine lv_aload hx hb dL_peak_0 (lv_at hl 4 rfl) ?_
  refine lv_iconst (v := 0) hx hb dL_peak_2 (by decide) ?_
  refine lv_aload_n hx hb dL_peak_3 rfl (lv_at hl 0 rfl) ?_
  refine lv_iload_n hx hb dL_peak_4 rfl (lv_at hl 1 rfl) ?_
  refine lv_iload_n hx hb dL_peak_5 rfl (lv_at hl 2 rfl) ?_
  refine lv_iload_n hx hb dL_peak_6 rfl (lv_at hl 3 rfl) ?_
  have hFc := free_all hD hS hA
  obtain ⟨k1, gk1, hk1⟩ := wGt (cy := cy) X S h_o1.1 h_o1.2.1
  refine vx_calli (vx_runV (As := [.int x1, .int x2, .int x3]) (rest := [.int (0 : Int32), .ref qo]) ⟨hx, hb, hml, hown, hts⟩ (c_X9_peak l hst (cy := cy) (X := X) (D := D) S _ o1 h_o1 x1 x2 x3 (hW)) (cwV 3 hts gL_peak_X9_peak rfl rfl rfl hd_X9_peak ⟨Nat.le_of_ble_eq_true rfl, Nat.le_of_ble_eq_true rfl⟩) (pVt (va_recv hK hP (q := (RX9, TX9, 11)) (ci := 13) (q0 := k1) rfl hk1) hP hK hD hN hTH hS hFc) rfl rfl hl.1 rfl (lv_room (Nat.le_of_ble_eq_true rfl)) dL_peak_7 ⟨Nat.le_of_ble_eq_true rfl, Nat.le_of_ble_eq_true rfl⟩) hS (fun q _ h => hFc q h) hFc (fun q _ h => hFc q h) (fun E ce q9 u t H1 locs ht hvm hw hB hz1 hk1 hS hq9 hce hcl => ?_) (fun r2 u t H1 locs ht hvm hw hB hz1 hk1 hS => ?_)
  · obtain ⟨hEc3, hB2⟩ := hB
    obtain ⟨hP, hD⟩ := wd_post hFc ht hB2
    have t4 : stp [(6, 4), (17, 100)] [] [] S u := t0.tr hw (by decide) (fun _ q => absurd q List.not_mem_nil)
    have xe5 : ext S u := hw.x
    have hE9 := hEc3
    simp only [List.mem_cons, List.not_mem_nil, or_false] at hE9
    clear hEc3
    rcases hE9 with rfl | rfl | rfl
    · refine vx_catch (own := RL) (name := "java/lang/IllegalArgumentException") hown [⟨0, 12, 15, 21⟩] ⟨0, 12, 19, 13⟩ [⟨0, 12, 23, 23⟩] (htab.trans rfl) (List.forall_mem_cons.mpr ⟨Or.inr ⟨by decide, "java/lang/IndexOutOfBoundsException", hts (.classLink RL 21 "java/lang/IndexOutOfBoundsException") (by decide +kernel), hNC ("java/lang/IllegalArgumentException", "java/lang/IndexOutOfBoundsException") (by decide +kernel)⟩, (List.forall_mem_nil _)⟩) (by decide) (by decide) (hts (.classLink RL 13 "java/lang/IllegalArgumentException") (by decide +kernel)) (va_Nw.use rfl (hTH.2.1 (.castable "java/lang/IllegalArgumentException" "java/lang/IllegalArgumentException") (by decide +kernel))) hq9 hce hcl ?_
      generalize H1 = H at hP hS ⊢
      refine lv_astore (lv' := [(5, .ref q9), (0, .ref o1), (1, .int x1), (2, .int x2), (3, .int x3), (4, .ref qo)]) hx hb dL_peak_19 hl (by decide) rfl (fun ls hl => ?_)
      refine lv_iconst (v := 2) hx hb dL_peak_21 (by decide) ?_
      refine W.widen (k := 4) (n := 24) (Nat.le_of_ble_eq_true rfl) (Nat.le_of_ble_eq_true rfl) ?_
      subst hXe
      exact W.iret (v := (2 : Int32)) hx hb hr (fun t ht hW9 => ⟨⟨(2 : Int32), (u, fo), rfl, t4, wx_end hP hKX hD ht hW9.alike⟩, hS.F ht⟩) hS.2.2 dL_peak_22 hlocks
    · refine vx_catch (own := RL) (name := "java/lang/IndexOutOfBoundsException") hown [] ⟨0, 12, 15, 21⟩ [⟨0, 12, 19, 13⟩, ⟨0, 12, 23, 23⟩] (htab.trans rfl) (List.forall_mem_nil _) (by decide) (by decide) (hts (.classLink RL 21 "java/lang/IndexOutOfBoundsException") (by decide +kernel)) (va_Nw.use rfl (hTH.2.1 (.castable "java/lang/IndexOutOfBoundsException" "java/lang/IndexOutOfBoundsException") (by decide +kernel))) hq9 hce hcl ?_
      generalize H1 = H at hP hS ⊢
      refine lv_astore (lv' := [(5, .ref q9), (0, .ref o1), (1, .int x1), (2, .int x2), (3, .int x3), (4, .ref qo)]) hx hb dL_peak_15 hl (by decide) rfl (fun ls hl => ?_)
      refine lv_iconst (v := 1) hx hb dL_peak_17 (by decide) ?_
      refine W.widen (k := 4) (n := 24) (Nat.le_of_ble_eq_true rfl) (Nat.le_of_ble_eq_true rfl) ?_
      subst hXe
      exact W.iret (v := (1 : Int32)) hx hb hr (fun t ht hW9 => ⟨⟨(1 : Int32), (u, fo), rfl, t4, wx_end hP hKX hD ht hW9.alike⟩, hS.F ht⟩) hS.2.2 dL_peak_18 hlocks
    · refine vx_catch (own := RL) (name := "java/lang/UnsupportedOperationException") hown [⟨0, 12, 15, 21⟩, ⟨0, 12, 19, 13⟩] ⟨0, 12, 23, 23⟩ [] (htab.trans rfl) (List.forall_mem_cons.mpr ⟨Or.inr ⟨by decide, "java/lang/IndexOutOfBoundsException", hts (.classLink RL 21 "java/lang/IndexOutOfBoundsException") (by decide +kernel), hNC ("java/lang/UnsupportedOperationException", "java/lang/IndexOutOfBoundsException") (by decide +kernel)⟩, (List.forall_mem_cons.mpr ⟨Or.inr ⟨by decide, "java/lang/IllegalArgumentException", hts (.classLink RL 13 "java/lang/IllegalArgumentException") (by decide +kernel), hNC ("java/lang/UnsupportedOperationException", "java/lang/IllegalArgumentException") (by decide +kernel)⟩, (List.forall_mem_nil _)⟩)⟩) (by decide) (by decide) (hts (.classLink RL 23 "java/lang/UnsupportedOperationException") (by decide +kernel)) (va_Nw.use rfl (hTH.2.1 (.castable "java/lang/UnsupportedOperationException" "java/lang/UnsupportedOperationException") (by decide +kernel))) hq9 hce hcl ?_
      generalize H1 = H at hP hS ⊢
      refine lv_astore (lv' := [(5, .ref q9), (0, .ref o1), (1, .int x1), (2, .int x2), (3, .int x3), (4, .ref qo)]) hx hb dL_peak_23 hl (by decide) rfl (fun ls hl => ?_)
      refine lv_iconst (v := 3) hx hb dL_peak_25 (by decide) ?_
      refine W.widen (k := 4) (n := 24) (Nat.le_of_ble_eq_true rfl) (Nat.le_of_ble_eq_true rfl) ?_
      subst hXe
      exact W.iret (v := (3 : Int32)) hx hb hr (fun t ht hW9 => ⟨⟨(3 : Int32), (u, fo), rfl, t4, wx_end hP hKX hD ht hW9.alike⟩, hS.F ht⟩) hS.2.2 dL_peak_26 hlocks
  · have w6 := hw
    obtain ⟨hP, hD⟩ := wd_post hFc ht hB
    generalize H1 = H at hP hS ⊢
    obtain ⟨S7, rfl⟩ : ∃ z, z = u := ⟨_, rfl⟩
    have t8 : stp [(6, 4), (17, 100)] [] [] S S7 := t0.tr w6 (by decide) (fun _ q => absurd q List.not_mem_nil)
    have xe9 : ext S S7 := w6.x
    refine lv_i2l hx hb dL_peak_10 rfl ?_
    subst hXe
    refine va_last hx hb hKX hP hD hS 0 8 rfl rfl (inb (m := 1) rfl (by decide) (by decide)) dL_peak_11 (fun H locs hP2 hD2 hS => ?_)
    have hP : va_P D vwCl ((XO c8 c9 qo qd (vp_updL fo (0 : Int32).toNatClampNeg r2.toInt64) fd) ++ PL cy S7) H := hP2
    have hD : va_D A ((XO c8 c9 qo qd (vp_updL fo (0 : Int32).toNatClampNeg r2.toInt64) fd) ++ PL cy S7) := hD2
    clear hP2 hD2
    refine lv_goto (tgt := 27) hx hb dL_peak_12 (by decide) ?_
    refine lv_iconst (v := 0) hx hb dL_peak_27 (by decide) ?_
    refine W.widen (k := 4) (n := 24) (Nat.le_of_ble_eq_true rfl) (Nat.le_of_ble_eq_true rfl) ?_
    exact W.iret (v := (0 : Int32)) hx hb hr (fun t ht hW9 => ⟨⟨(0 : Int32), (S7, (vp_updL fo (0 : Int32).toNatClampNeg r2.toInt64)), rfl, t8, wx_end hP hKX hD ht hW9.alike⟩, hS.F ht⟩) hS.2.2 dL_peak_28 hlocks
set_option maxHeartbeats 4000000 in
set_option maxRecDepth 100000 in
theorem c_L_quietest (l : Launch) (hst : l.stackTraces = false) {e0 mi : Nat} {D : va_G} {cy : Nat → ClassId} {c8 c9 : ClassId} (qo qd : Nat) (fo : Nat → Int64) (fd : Nat → UInt64) (S : wPS) (sz : Nat) (o1 : Nat) (h_o1 : isA S o1 9) (x1 : Int32) (x2 : Int32) (hW : wtB S []) : Met l yL_quietest wsL_quietest ({ frames := 9, cells := 3, slots := 18, locals := 147 }) (va_Pc [.ref o1, .int x1, .int x2, .ref qo] (fun U => U.heap.size = sz ∧ WX D cy c8 c9 (XO c8 c9 qo qd fo fd) (fun _ => True) S U ∧ NW U ∧ TH (va_A (XO c8 c9 qo qd fo fd ++ PL cy S) sz) U ∧ OU e0 mi (va_A (XO c8 c9 qo qd fo fd ++ PL cy S) sz) U U.heap ∧ NC U)) (va_Qi (fun (r : Int32) (u : wPS × (Nat → Int64)) => stp [(6, 4), (17, 100)] [] [] S u.1) (fun u t => WX D cy c8 c9 (XO c8 c9 qo qd u.2 fd) (va_A (XO c8 c9 qo qd fo fd ++ PL cy S) sz) u.1 t) (va_A (XO c8 c9 qo qd fo fd ++ PL cy S) sz)) 3 18 (va_A (XO c8 c9 qo qd fo fd ++ PL cy S) sz) := by
  refine Met.ofWH (cc := cL_quietest) (maxL := 5) (ret := (some .int)) (by decide) rfl ?_
  intro p e s m args below meth c s₁ B hml hv
  obtain ⟨rfl, hsz, ⟨hP, hKX, hD0⟩, hN, hTH, hOU, hNC⟩ := hv
  have hx := B.exec
  have hb := B.bytes
  have hr := B.returns
  have hts := atoms_spec (ws := wsL_quietest) B.pre
  have hown : s.vm.findClass RL = some m.cls := findClass_of_methodNamed (x := yL_quietest) B.named
  have hlocks := B.notSynchronized
  have htab := vx_table (x := yL_quietest) B (hts (.codeWith yL_quietest cL_quietest 5 (some .int) [(0, 10, 13, 21), (0, 10, 17, 23)]) List.mem_cons_self)
  have hK := kX hKX
  subst hsz
  have hD := hD0.self (sz := s.heap.size)
  generalize hAe : va_A (XO c8 c9 qo qd fo fd ++ PL cy S) s.heap.size = A at hD hTH hOU ⊢
  generalize hXe : XO c8 c9 qo qd fo fd = X at hP hD
  have hA : ∀ q : Nat, s.heap.size ≤ q → A q := fun q h => by rw [← hAe]; exact Or.inr h
  have hS : va_S A s.heap s.heap [] := va_S.rf
  have hl := lv_entry ([.ref o1, .int x1, .int x2, .ref qo]) (n := 5) (Nat.le_of_ble_eq_true rfl)
  rw [lg_entry_eq]
  generalize (lg_sl ([.ref o1, .int x1, .int x2, .ref qo]) ++ List.replicate (5 - (lg_sl ([.ref o1, .int x1, .int x2, .ref qo])).length) Slot.unset).toArray = ls at hl ⊢
  have hl : lv_has ls 5 [(0, .ref o1), (1, .int x1), (2, .int x2), (3, .ref qo)] := hl
  have t0 : stp [(6, 4), (17, 100)] [] [] S S := stp.rf hW
  refine lv_aload_n hx hb dL_quietest_0 rfl (lv_at hl 3 rfl) ?_
  refine lv_iconst (v := 0) hx hb dL_quietest_1 (by decide) ?_
  refine lv_aload_n hx hb dL_quietest_2 rfl (lv_at hl 0 rfl) ?_
  refine lv_iload_n hx hb dL_quietest_3 rfl (lv_at hl 1 rfl) ?_
  refine lv_iload_n hx hb dL_quietest_4 rfl (lv_at hl 2 rfl) ?_
  have hFc := free_all hD hS hA
  obtain ⟨k1, gk1, hk1⟩ := wGt (cy := cy) X S h_o1.1 h_o1.2.1
  refine vx_calli (vx_runV (As := [.int x1, .int x2]) (rest := [.int (0 : Int32), .ref qo]) ⟨hx, hb, hml, hown, hts⟩ (c_X9_quietest l hst (cy := cy) (X := X) (D := D) S _ o1 h_o1 x1 x2 (hW)) (cwV 2 hts gL_quietest_X9_quietest rfl rfl rfl hd_X9_quietest ⟨Nat.le_of_ble_eq_true rfl, Nat.le_of_ble_eq_true rfl⟩) (pVt (va_recv hK hP (q := (RX9, TX9, 11)) (ci := 13) (q0 := k1) rfl hk1) hP hK hD hN hTH hS hFc) rfl rfl hl.1 rfl (lv_room (Nat.le_of_ble_eq_true rfl)) dL_quietest_5 ⟨Nat.le_of_ble_eq_true rfl, Nat.le_of_ble_eq_true rfl⟩) hS (fun q _ h => hFc q h) hFc (fun q _ h => hFc q h) (fun E ce q9 u t H1 locs ht hvm hw hB hz1 hk1 hS hq9 hce hcl => ?_) (fun r2 u t H1 locs ht hvm hw hB hz1 hk1 hS => ?_)
  · obtain ⟨hEc3, hB2⟩ := hB
    obtain ⟨hP, hD⟩ := wd_post hFc ht hB2
    have t4 : stp [(6, 4), (17, 100)] [] [] S u := t0.tr hw (by decide) (fun _ q => absurd q List.not_mem_nil)
    have xe5 : ext S u := hw.x
    have hE9 := hEc3
    simp only [List.mem_cons, List.not_mem_nil, or_false] at hE9
    clear hEc3
    rcases hE9 with rfl | rfl
    · refine vx_catch (own := RL) (name := "java/lang/IndexOutOfBoundsException") hown [] ⟨0, 10, 13, 21⟩ [⟨0, 10, 17, 23⟩] (htab.trans rfl) (List.forall_mem_nil _) (by decide) (by decide) (hts (.classLink RL 21 "java/lang/IndexOutOfBoundsException") (by decide +kernel)) (va_Nw.use rfl (hTH.2.1 (.castable "java/lang/IndexOutOfBoundsException" "java/lang/IndexOutOfBoundsException") (by decide +kernel))) hq9 hce hcl ?_
      generalize H1 = H at hP hS ⊢
      refine lv_astore (lv' := [(4, .ref q9), (0, .ref o1), (1, .int x1), (2, .int x2), (3, .ref qo)]) hx hb dL_quietest_13 hl (by decide) rfl (fun ls hl => ?_)
      refine lv_iconst (v := 1) hx hb dL_quietest_15 (by decide) ?_
      refine W.widen (k := 3) (n := 18) (Nat.le_of_ble_eq_true rfl) (Nat.le_of_ble_eq_true rfl) ?_
      subst hXe
      exact W.iret (v := (1 : Int32)) hx hb hr (fun t ht hW9 => ⟨⟨(1 : Int32), (u, fo), rfl, t4, wx_end hP hKX hD ht hW9.alike⟩, hS.F ht⟩) hS.2.2 dL_quietest_16 hlocks
    · refine vx_catch (own := RL) (name := "java/lang/UnsupportedOperationException") hown [⟨0, 10, 13, 21⟩] ⟨0, 10, 17, 23⟩ [] (htab.trans rfl) (List.forall_mem_cons.mpr ⟨Or.inr ⟨by decide, "java/lang/IndexOutOfBoundsException", hts (.classLink RL 21 "java/lang/IndexOutOfBoundsException") (by decide +kernel), hNC ("java/lang/UnsupportedOperationException", "java/lang/IndexOutOfBoundsException") (by decide +kernel)⟩, (List.forall_mem_nil _)⟩) (by decide) (by decide) (hts (.classLink RL 23 "java/lang/UnsupportedOperationException") (by decide +kernel)) (va_Nw.use rfl (hTH.2.1 (.castable "java/lang/UnsupportedOperationException" "java/lang/UnsupportedOperationException") (by decide +kernel))) hq9 hce hcl ?_
      generalize H1 = H at hP hS ⊢
      refine lv_astore (lv' := [(4, .ref q9), (0, .ref o1), (1, .int x1), (2, .int x2), (3, .ref qo)]) hx hb dL_quietest_17 hl (by decide) rfl (fun ls hl => ?_)
      refine lv_iconst (v := 2) hx hb dL_quietest_19 (by decide) ?_
      refine W.widen (k := 3) (n := 18) (Nat.le_of_ble_eq_true rfl) (Nat.le_of_ble_eq_true rfl) ?_
      subst hXe
      exact W.iret (v := (2 : Int32)) hx hb hr (fun t ht hW9 => ⟨⟨(2 : Int32), (u, fo), rfl, t4, wx_end hP hKX hD ht hW9.alike⟩, hS.F ht⟩) hS.2.2 dL_quietest_20 hlocks
  · have w6 := hw
    obtain ⟨hP, hD⟩ := wd_post hFc ht hB
    generalize H1 = H at hP hS ⊢
    obtain ⟨S7, rfl⟩ : ∃ z, z = u := ⟨_, rfl⟩
    have t8 : stp [(6, 4), (17, 100)] [] [] S S7 := t0.tr w6 (by decide) (fun _ q => absurd q List.not_mem_nil)
    have xe9 : ext S S7 := w6.x
    refine lv_i2l hx hb dL_quietest_8 rfl ?_
    subst hXe
    refine va_last hx hb hKX hP hD hS 0 8 rfl rfl (inb (m := 1) rfl (by decide) (by decide)) dL_quietest_9 (fun H locs hP2 hD2 hS => ?_)
    have hP : va_P D vwCl ((XO c8 c9 qo qd (vp_updL fo (0 : Int32).toNatClampNeg r2.toInt64) fd) ++ PL cy S7) H := hP2
    have hD : va_D A ((XO c8 c9 qo qd (vp_updL fo (0 : Int32).toNatClampNeg r2.toInt64) fd) ++ PL cy S7) := hD2
    clear hP2 hD2
    refine lv_goto (tgt := 21) hx hb dL_quietest_10 (by decide) ?_
    refine lv_iconst (v := 0) hx hb dL_quietest_21 (by decide) ?_
    refine W.widen (k := 3) (n := 18) (Nat.le_of_ble_eq_true rfl) (Nat.le_of_ble_eq_true rfl) ?_
    exact W.iret (v := (0 : Int32)) hx hb hr (fun t ht hW9 => ⟨⟨(0 : Int32), (S7, (vp_updL fo (0 : Int32).toNatClampNeg r2.toInt64)), rfl, t8, wx_end hP hKX hD ht hW9.alike⟩, hS.F ht⟩) hS.2.2 dL_quietest_22 hlocks
set_option maxHeartbeats 4000000 in
set_option maxRecDepth 100000 in
theorem c_L_note (l : Launch) (hst : l.stackTraces = false) {e0 mi : Nat} {D : va_G} {cy : Nat → ClassId} {c8 c9 : ClassId} (qo qd : Nat) (fo : Nat → Int64) (fd : Nat → UInt64) (S : wPS) (sz : Nat) (o1 : Nat) (h_o1 : isA S o1 9) (x1 : Int32) (x2 : Int32) (x3 : Int32) (hW : wtB S []) : Met l yL_note wsL_note ({ frames := 9, cells := 4, slots := 24, locals := 148 }) (va_Pc [.ref o1, .int x1, .int x2, .int x3, .ref qo] (fun U => U.heap.size = sz ∧ WX D cy c8 c9 (XO c8 c9 qo qd fo fd) (fun _ => True) S U ∧ NW U ∧ TH (va_A (XO c8 c9 qo qd fo fd ++ PL cy S) sz) U ∧ OU e0 mi (va_A (XO c8 c9 qo qd fo fd ++ PL cy S) sz) U U.heap ∧ NC U)) (va_Qi (fun (r : Int32) (u : wPS × (Nat → Int64)) => stp ([] : List (Nat × Nat)) [] [] S u.1) (fun u t => WX D cy c8 c9 (XO c8 c9 qo qd u.2 fd) (va_A (XO c8 c9 qo qd fo fd ++ PL cy S) sz) u.1 t) (va_A (XO c8 c9 qo qd fo fd ++ PL cy S) sz)) 4 24 (va_A (XO c8 c9 qo qd fo fd ++ PL cy S) sz) := by
  refine Met.ofWH (cc := cL_note) (maxL := 6) (ret := (some .int)) (by decide) rfl ?_
  intro p e s m args below meth c s₁ B hml hv
  obtain ⟨rfl, hsz, ⟨hP, hKX, hD0⟩, hN, hTH, hOU, hNC⟩ := hv
  have hx := B.exec
  have hb := B.bytes
  have hr := B.returns
  have hts := atoms_spec (ws := wsL_note) B.pre
  have hown : s.vm.findClass RL = some m.cls := findClass_of_methodNamed (x := yL_note) B.named
  have hlocks := B.notSynchronized
  have htab := vx_table (x := yL_note) B (hts (.codeWith yL_note cL_note 6 (some .int) [(0, 12, 15, 21), (0, 12, 19, 13), (0, 12, 23, 23)]) List.mem_cons_self)
  have hK := kX hKX
  subst hsz
  have hD := hD0.self (sz := s.heap.size)
  generalize hAe : va_A (XO c8 c9 qo qd fo fd ++ PL cy S) s.heap.size = A at hD hTH hOU ⊢
  generalize hXe : XO c8 c9 qo qd fo fd = X at hP hD
  have hA : ∀ q : Nat, s.heap.size ≤ q → A q := fun q h => by rw [← hAe]; exact Or.inr h
  have hS : va_S A s.heap s.heap [] := va_S.rf
  have hl := lv_entry ([.ref o1, .int x1, .int x2, .int x3, .ref qo]) (n := 6) (Nat.le_of_ble_eq_true rfl)
  rw [lg_entry_eq]
  generalize (lg_sl ([.ref o1, .int x1, .int x2, .int x3, .ref qo]) ++ List.replicate (6 - (lg_sl ([.ref o1, .int x1, .int x2, .int x3, .ref qo])).length) Slot.unset).toArray = ls at hl ⊢
  have hl : lv_has ls 6 [(0, .ref o1), (1, .int x1), (2, .int x2), (3, .int x3), (4, .ref qo)] := hl
  have t0 : stp ([] : List (Nat × Nat)) [] [] S S := stp.rf hW
  refine lv_aload hx hb dL_note_0 (lv_at hl 4 rfl) ?_
  refine lv_iconst (v := 0) hx hb dL_note_2 (by decide) ?_
  refine lv_aload_n hx hb dL_note_3 rfl (lv_at hl 0 rfl) ?_
  refine lv_iload_n hx hb dL_note_4 rfl (lv_at hl 1 rfl) ?_
  refine lv_iload_n hx hb dL_note_5 rfl (lv_at hl 2 rfl) ?_
  refine lv_iload_n hx hb dL_note_6 rfl (lv_at hl 3 rfl) ?_
  have hFc := free_all hD hS hA
  obtain ⟨k1, gk1, hk1⟩ := wGt (cy := cy) X S h_o1.1 h_o1.2.1
  refine vx_calli (vx_runV (As := [.int x1, .int x2, .int x3]) (rest := [.int (0 : Int32), .ref qo]) ⟨hx, hb, hml, hown, hts⟩ (c_X9_note l hst (cy := cy) (X := X) (D := D) S _ o1 h_o1 x1 x2 x3 (hW)) (cwV 3 hts gL_note_X9_note rfl rfl rfl hd_X9_note ⟨Nat.le_of_ble_eq_true rfl, Nat.le_of_ble_eq_true rfl⟩) (pVt (va_recv hK hP (q := (RX9, TX9, 11)) (ci := 13) (q0 := k1) rfl hk1) hP hK hD hN hTH hS hFc) rfl rfl hl.1 rfl (lv_room (Nat.le_of_ble_eq_true rfl)) dL_note_7 ⟨Nat.le_of_ble_eq_true rfl, Nat.le_of_ble_eq_true rfl⟩) hS (fun q _ h => hFc q h) hFc (fun q _ h => hFc q h) (fun E ce q9 u t H1 locs ht hvm hw hB hz1 hk1 hS hq9 hce hcl => ?_) (fun r2 u t H1 locs ht hvm hw hB hz1 hk1 hS => ?_)
  · obtain ⟨c3, hEc3, hB2⟩ := hB
    obtain ⟨hP, hD⟩ := wd_post hFc ht hB2
    have hE9 := hEc3
    simp only [List.mem_cons, List.not_mem_nil, or_false] at hE9
    clear hEc3
    rcases hE9 with rfl | rfl | rfl
    · refine vx_catch (own := RL) (name := "java/lang/IllegalArgumentException") hown [⟨0, 12, 15, 21⟩] ⟨0, 12, 19, 13⟩ [⟨0, 12, 23, 23⟩] (htab.trans rfl) (List.forall_mem_cons.mpr ⟨Or.inr ⟨by decide, "java/lang/IndexOutOfBoundsException", hts (.classLink RL 21 "java/lang/IndexOutOfBoundsException") (by decide +kernel), hNC ("java/lang/IllegalArgumentException", "java/lang/IndexOutOfBoundsException") (by decide +kernel)⟩, (List.forall_mem_nil _)⟩) (by decide) (by decide) (hts (.classLink RL 13 "java/lang/IllegalArgumentException") (by decide +kernel)) (va_Nw.use rfl (hTH.2.1 (.castable "java/lang/IllegalArgumentException" "java/lang/IllegalArgumentException") (by decide +kernel))) hq9 hce hcl ?_
      generalize H1 = H at hP hS ⊢
      refine lv_astore (lv' := [(5, .ref q9), (0, .ref o1), (1, .int x1), (2, .int x2), (3, .int x3), (4, .ref qo)]) hx hb dL_note_19 hl (by decide) rfl (fun ls hl => ?_)
      refine lv_iconst (v := 2) hx hb dL_note_21 (by decide) ?_
      refine W.widen (k := 4) (n := 24) (Nat.le_of_ble_eq_true rfl) (Nat.le_of_ble_eq_true rfl) ?_
      subst hXe
      exact W.iret (v := (2 : Int32)) hx hb hr (fun t ht hW9 => ⟨⟨(2 : Int32), (S, fo), rfl, t0, wx_end hP hKX hD ht hW9.alike⟩, hS.F ht⟩) hS.2.2 dL_note_22 hlocks
    · refine vx_catch (own := RL) (name := "java/lang/IndexOutOfBoundsException") hown [] ⟨0, 12, 15, 21⟩ [⟨0, 12, 19, 13⟩, ⟨0, 12, 23, 23⟩] (htab.trans rfl) (List.forall_mem_nil _) (by decide) (by decide) (hts (.classLink RL 21 "java/lang/IndexOutOfBoundsException") (by decide +kernel)) (va_Nw.use rfl (hTH.2.1 (.castable "java/lang/IndexOutOfBoundsException" "java/lang/IndexOutOfBoundsException") (by decide +kernel))) hq9 hce hcl ?_
      generalize H1 = H at hP hS ⊢
      refine lv_astore (lv' := [(5, .ref q9), (0, .ref o1), (1, .int x1), (2, .int x2), (3, .int x3), (4, .ref qo)]) hx hb dL_note_15 hl (by decide) rfl (fun ls hl => ?_)
      refine lv_iconst (v := 1) hx hb dL_note_17 (by decide) ?_
      refine W.widen (k := 4) (n := 24) (Nat.le_of_ble_eq_true rfl) (Nat.le_of_ble_eq_true rfl) ?_
      subst hXe
      exact W.iret (v := (1 : Int32)) hx hb hr (fun t ht hW9 => ⟨⟨(1 : Int32), (S, fo), rfl, t0, wx_end hP hKX hD ht hW9.alike⟩, hS.F ht⟩) hS.2.2 dL_note_18 hlocks
    · refine vx_catch (own := RL) (name := "java/lang/UnsupportedOperationException") hown [⟨0, 12, 15, 21⟩, ⟨0, 12, 19, 13⟩] ⟨0, 12, 23, 23⟩ [] (htab.trans rfl) (List.forall_mem_cons.mpr ⟨Or.inr ⟨by decide, "java/lang/IndexOutOfBoundsException", hts (.classLink RL 21 "java/lang/IndexOutOfBoundsException") (by decide +kernel), hNC ("java/lang/UnsupportedOperationException", "java/lang/IndexOutOfBoundsException") (by decide +kernel)⟩, (List.forall_mem_cons.mpr ⟨Or.inr ⟨by decide, "java/lang/IllegalArgumentException", hts (.classLink RL 13 "java/lang/IllegalArgumentException") (by decide +kernel), hNC ("java/lang/UnsupportedOperationException", "java/lang/IllegalArgumentException") (by decide +kernel)⟩, (List.forall_mem_nil _)⟩)⟩) (by decide) (by decide) (hts (.classLink RL 23 "java/lang/UnsupportedOperationException") (by decide +kernel)) (va_Nw.use rfl (hTH.2.1 (.castable "java/lang/UnsupportedOperationException" "java/lang/UnsupportedOperationException") (by decide +kernel))) hq9 hce hcl ?_
      generalize H1 = H at hP hS ⊢
      refine lv_astore (lv' := [(5, .ref q9), (0, .ref o1), (1, .int x1), (2, .int x2), (3, .int x3), (4, .ref qo)]) hx hb dL_note_23 hl (by decide) rfl (fun ls hl => ?_)
      refine lv_iconst (v := 3) hx hb dL_note_25 (by decide) ?_
      refine W.widen (k := 4) (n := 24) (Nat.le_of_ble_eq_true rfl) (Nat.le_of_ble_eq_true rfl) ?_
      subst hXe
      exact W.iret (v := (3 : Int32)) hx hb hr (fun t ht hW9 => ⟨⟨(3 : Int32), (S, fo), rfl, t0, wx_end hP hKX hD ht hW9.alike⟩, hS.F ht⟩) hS.2.2 dL_note_26 hlocks
  · have c4 := hw
    obtain ⟨hP, hD⟩ := wd_post hFc ht hB
    generalize H1 = H at hP hS ⊢
    refine lv_i2l hx hb dL_note_10 rfl ?_
    subst hXe
    refine va_last hx hb hKX hP hD hS 0 8 rfl rfl (inb (m := 1) rfl (by decide) (by decide)) dL_note_11 (fun H locs hP2 hD2 hS => ?_)
    have hP : va_P D vwCl ((XO c8 c9 qo qd (vp_updL fo (0 : Int32).toNatClampNeg r2.toInt64) fd) ++ PL cy S) H := hP2
    have hD : va_D A ((XO c8 c9 qo qd (vp_updL fo (0 : Int32).toNatClampNeg r2.toInt64) fd) ++ PL cy S) := hD2
    clear hP2 hD2
    refine lv_goto (tgt := 27) hx hb dL_note_12 (by decide) ?_
    refine lv_iconst (v := 0) hx hb dL_note_27 (by decide) ?_
    refine W.widen (k := 4) (n := 24) (Nat.le_of_ble_eq_true rfl) (Nat.le_of_ble_eq_true rfl) ?_
    exact W.iret (v := (0 : Int32)) hx hb hr (fun t ht hW9 => ⟨⟨(0 : Int32), (S, (vp_updL fo (0 : Int32).toNatClampNeg r2.toInt64)), rfl, t0, wx_end hP hKX hD ht hW9.alike⟩, hS.F ht⟩) hS.2.2 dL_note_28 hlocks
set_option maxHeartbeats 4000000 in
set_option maxRecDepth 100000 in
theorem c_L_hunts (l : Launch) (hst : l.stackTraces = false) {e0 mi : Nat} {D : va_G} {cy : Nat → ClassId} {c8 c9 : ClassId} (qo qd : Nat) (fo : Nat → Int64) (fd : Nat → UInt64) (S : wPS) (sz : Nat) (o1 : Nat) (h_o1 : isA S o1 9) (x1 : Int32) (x2 : Int32) (hW : wtB S []) : Met l yL_hunts wsL_hunts ({ frames := 9, cells := 3, slots := 18, locals := 147 }) (va_Pc [.ref o1, .int x1, .int x2, .ref qo] (fun U => U.heap.size = sz ∧ WX D cy c8 c9 (XO c8 c9 qo qd fo fd) (fun _ => True) S U ∧ NW U ∧ TH (va_A (XO c8 c9 qo qd fo fd ++ PL cy S) sz) U ∧ OU e0 mi (va_A (XO c8 c9 qo qd fo fd ++ PL cy S) sz) U U.heap ∧ NC U)) (va_Qi (fun (r : Int32) (u : wPS × (Nat → Int64)) => stp ([] : List (Nat × Nat)) [] [] S u.1) (fun u t => WX D cy c8 c9 (XO c8 c9 qo qd u.2 fd) (va_A (XO c8 c9 qo qd fo fd ++ PL cy S) sz) u.1 t) (va_A (XO c8 c9 qo qd fo fd ++ PL cy S) sz)) 3 18 (va_A (XO c8 c9 qo qd fo fd ++ PL cy S) sz) := by
  refine Met.ofWH (cc := cL_hunts) (maxL := 5) (ret := (some .int)) (by decide) rfl ?_
  intro p e s m args below meth c s₁ B hml hv
  obtain ⟨rfl, hsz, ⟨hP, hKX, hD0⟩, hN, hTH, hOU, hNC⟩ := hv
  have hx := B.exec
  have hb := B.bytes
  have hr := B.returns
  have hts := atoms_spec (ws := wsL_hunts) B.pre
  have hown : s.vm.findClass RL = some m.cls := findClass_of_methodNamed (x := yL_hunts) B.named
  have hlocks := B.notSynchronized
  have htab := vx_table (x := yL_hunts) B (hts (.codeWith yL_hunts cL_hunts 5 (some .int) [(0, 17, 20, 21), (0, 17, 24, 23)]) List.mem_cons_self)
  have hK := kX hKX
  subst hsz
  have hD := hD0.self (sz := s.heap.size)
  generalize hAe : va_A (XO c8 c9 qo qd fo fd ++ PL cy S) s.heap.size = A at hD hTH hOU ⊢
  generalize hXe : XO c8 c9 qo qd fo fd = X at hP hD
  have hA : ∀ q : Nat, s.heap.size ≤ q → A q := fun q h => by rw [← hAe]; exact Or.inr h
  have hS : va_S A s.heap s.heap [] := va_S.rf
  have hl := lv_entry ([.ref o1, .int x1, .int x2, .ref qo]) (n := 5) (Nat.le_of_ble_eq_true rfl)
  rw [lg_entry_eq]
  generalize (lg_sl ([.ref o1, .int x1, .int x2, .ref qo]) ++ List.replicate (5 - (lg_sl ([.ref o1, .int x1, .int x2, .ref qo])).length) Slot.unset).toArray = ls at hl ⊢
  have hl : lv_has ls 5 [(0, .ref o1), (1, .int x1), (2, .int x2), (3, .ref qo)] := hl
  have t0 : stp ([] : List (Nat × Nat)) [] [] S S := stp.rf hW
  refine lv_aload_n hx hb dL_hunts_0 rfl (lv_at hl 3 rfl) ?_
  refine lv_iconst (v := 0) hx hb dL_hunts_1 (by decide) ?_
  refine lv_aload_n hx hb dL_hunts_2 rfl (lv_at hl 0 rfl) ?_
  refine lv_iload_n hx hb dL_hunts_3 rfl (lv_at hl 1 rfl) ?_
  refine lv_iload_n hx hb dL_hunts_4 rfl (lv_at hl 2 rfl) ?_
  have hFc := free_all hD hS hA
  obtain ⟨k1, gk1, hk1⟩ := wGt (cy := cy) X S h_o1.1 h_o1.2.1
  refine vx_calli (vx_runV (As := [.int x1, .int x2]) (rest := [.int (0 : Int32), .ref qo]) ⟨hx, hb, hml, hown, hts⟩ (c_X9_hunts l hst (cy := cy) (X := X) (D := D) S _ o1 h_o1 x1 x2 (hW)) (cwV 2 hts gL_hunts_X9_hunts rfl rfl rfl hd_X9_hunts ⟨Nat.le_of_ble_eq_true rfl, Nat.le_of_ble_eq_true rfl⟩) (pVt (va_recv hK hP (q := (RX9, TX9, 11)) (ci := 13) (q0 := k1) rfl hk1) hP hK hD hN hTH hS hFc) rfl rfl hl.1 rfl (lv_room (Nat.le_of_ble_eq_true rfl)) dL_hunts_5 ⟨Nat.le_of_ble_eq_true rfl, Nat.le_of_ble_eq_true rfl⟩) hS (fun q _ h => hFc q h) hFc (fun q _ h => hFc q h) (fun E ce q9 u t H1 locs ht hvm hw hB hz1 hk1 hS hq9 hce hcl => ?_) (fun r2 u t H1 locs ht hvm hw hB hz1 hk1 hS => ?_)
  · obtain ⟨c3, hEc3, hB2⟩ := hB
    obtain ⟨hP, hD⟩ := wd_post hFc ht hB2
    have hE9 := hEc3
    simp only [List.mem_cons, List.not_mem_nil, or_false] at hE9
    clear hEc3
    rcases hE9 with rfl | rfl
    · refine vx_catch (own := RL) (name := "java/lang/IndexOutOfBoundsException") hown [] ⟨0, 17, 20, 21⟩ [⟨0, 17, 24, 23⟩] (htab.trans rfl) (List.forall_mem_nil _) (by decide) (by decide) (hts (.classLink RL 21 "java/lang/IndexOutOfBoundsException") (by decide +kernel)) (va_Nw.use rfl (hTH.2.1 (.castable "java/lang/IndexOutOfBoundsException" "java/lang/IndexOutOfBoundsException") (by decide +kernel))) hq9 hce hcl ?_
      generalize H1 = H at hP hS ⊢
      refine lv_astore (lv' := [(4, .ref q9), (0, .ref o1), (1, .int x1), (2, .int x2), (3, .ref qo)]) hx hb dL_hunts_20 hl (by decide) rfl (fun ls hl => ?_)
      refine lv_iconst (v := 1) hx hb dL_hunts_22 (by decide) ?_
      refine W.widen (k := 3) (n := 18) (Nat.le_of_ble_eq_true rfl) (Nat.le_of_ble_eq_true rfl) ?_
      subst hXe
      exact W.iret (v := (1 : Int32)) hx hb hr (fun t ht hW9 => ⟨⟨(1 : Int32), (S, fo), rfl, t0, wx_end hP hKX hD ht hW9.alike⟩, hS.F ht⟩) hS.2.2 dL_hunts_23 hlocks
    · refine vx_catch (own := RL) (name := "java/lang/UnsupportedOperationException") hown [⟨0, 17, 20, 21⟩] ⟨0, 17, 24, 23⟩ [] (htab.trans rfl) (List.forall_mem_cons.mpr ⟨Or.inr ⟨by decide, "java/lang/IndexOutOfBoundsException", hts (.classLink RL 21 "java/lang/IndexOutOfBoundsException") (by decide +kernel), hNC ("java/lang/UnsupportedOperationException", "java/lang/IndexOutOfBoundsException") (by decide +kernel)⟩, (List.forall_mem_nil _)⟩) (by decide) (by decide) (hts (.classLink RL 23 "java/lang/UnsupportedOperationException") (by decide +kernel)) (va_Nw.use rfl (hTH.2.1 (.castable "java/lang/UnsupportedOperationException" "java/lang/UnsupportedOperationException") (by decide +kernel))) hq9 hce hcl ?_
      generalize H1 = H at hP hS ⊢
      refine lv_astore (lv' := [(4, .ref q9), (0, .ref o1), (1, .int x1), (2, .int x2), (3, .ref qo)]) hx hb dL_hunts_24 hl (by decide) rfl (fun ls hl => ?_)
      refine lv_iconst (v := 2) hx hb dL_hunts_26 (by decide) ?_
      refine W.widen (k := 3) (n := 18) (Nat.le_of_ble_eq_true rfl) (Nat.le_of_ble_eq_true rfl) ?_
      subst hXe
      exact W.iret (v := (2 : Int32)) hx hb hr (fun t ht hW9 => ⟨⟨(2 : Int32), (S, fo), rfl, t0, wx_end hP hKX hD ht hW9.alike⟩, hS.F ht⟩) hS.2.2 dL_hunts_27 hlocks
  · have c4 := hw
    obtain ⟨hP, hD⟩ := wd_post hFc ht hB
    generalize H1 = H at hP hS ⊢
    refine lv_if_eq (tgt := 15) hx hb dL_hunts_8 (by decide) (fun c5 => ?_) (fun c5 => ?_)
    · have c5i : r2.toInt = 0 := eq_v rfl rfl c5
      refine lv_lconst (v := 0) hx hb dL_hunts_15 (by decide) ?_
      subst hXe
      refine va_last hx hb hKX hP hD hS 0 8 rfl rfl (inb (m := 1) rfl (by decide) (by decide)) dL_hunts_16 (fun H locs hP2 hD2 hS => ?_)
      have hP : va_P D vwCl ((XO c8 c9 qo qd (vp_updL fo (0 : Int32).toNatClampNeg (0 : Int64)) fd) ++ PL cy S) H := hP2
      have hD : va_D A ((XO c8 c9 qo qd (vp_updL fo (0 : Int32).toNatClampNeg (0 : Int64)) fd) ++ PL cy S) := hD2
      clear hP2 hD2
      refine lv_goto (tgt := 28) hx hb dL_hunts_17 (by decide) ?_
      refine lv_iconst (v := 0) hx hb dL_hunts_28 (by decide) ?_
      refine W.widen (k := 3) (n := 18) (Nat.le_of_ble_eq_true rfl) (Nat.le_of_ble_eq_true rfl) ?_
      exact W.iret (v := (0 : Int32)) hx hb hr (fun t ht hW9 => ⟨⟨(0 : Int32), (S, (vp_updL fo (0 : Int32).toNatClampNeg (0 : Int64))), rfl, t0, wx_end hP hKX hD ht hW9.alike⟩, hS.F ht⟩) hS.2.2 dL_hunts_29 hlocks
    · have c5i : ¬ r2.toInt = 0 := neq_v rfl rfl c5
      refine lv_lconst (v := 1) hx hb dL_hunts_11 (by decide) ?_
      refine lv_goto (tgt := 16) hx hb dL_hunts_12 (by decide) ?_
      subst hXe
      refine va_last hx hb hKX hP hD hS 0 8 rfl rfl (inb (m := 1) rfl (by decide) (by decide)) dL_hunts_16 (fun H locs hP2 hD2 hS => ?_)
      have hP : va_P D vwCl ((XO c8 c9 qo qd (vp_updL fo (0 : Int32).toNatClampNeg (1 : Int64)) fd) ++ PL cy S) H := hP2
      have hD : va_D A ((XO c8 c9 qo qd (vp_updL fo (0 : Int32).toNatClampNeg (1 : Int64)) fd) ++ PL cy S) := hD2
      clear hP2 hD2
      refine lv_goto (tgt := 28) hx hb dL_hunts_17 (by decide) ?_
      refine lv_iconst (v := 0) hx hb dL_hunts_28 (by decide) ?_
      refine W.widen (k := 3) (n := 18) (Nat.le_of_ble_eq_true rfl) (Nat.le_of_ble_eq_true rfl) ?_
      exact W.iret (v := (0 : Int32)) hx hb hr (fun t ht hW9 => ⟨⟨(0 : Int32), (S, (vp_updL fo (0 : Int32).toNatClampNeg (1 : Int64))), rfl, t0, wx_end hP hKX hD ht hW9.alike⟩, hS.F ht⟩) hS.2.2 dL_hunts_29 hlocks
set_option maxHeartbeats 4000000 in
set_option maxRecDepth 100000 in
theorem c_L_bears (l : Launch) (hst : l.stackTraces = false) {e0 mi : Nat} {D : va_G} {cy : Nat → ClassId} {c8 c9 : ClassId} (qo qd : Nat) (fo : Nat → Int64) (fd : Nat → UInt64) (S : wPS) (sz : Nat) (o1 : Nat) (h_o1 : isA S o1 9) (x1 : Int32) (hW : wtB S []) : Met l yL_bears wsL_bears ({ frames := 8, cells := 1, slots := 6, locals := 124 }) (va_Pc [.ref o1, .int x1, .ref qo] (fun U => U.heap.size = sz ∧ WX D cy c8 c9 (XO c8 c9 qo qd fo fd) (fun _ => True) S U ∧ NW U ∧ TH (va_A (XO c8 c9 qo qd fo fd ++ PL cy S) sz) U ∧ OU e0 mi (va_A (XO c8 c9 qo qd fo fd ++ PL cy S) sz) U U.heap ∧ NC U)) (va_Qi (fun (r : Int32) (u : wPS × (Nat → Int64)) => stp ([] : List (Nat × Nat)) [] [] S u.1) (fun u t => WX D cy c8 c9 (XO c8 c9 qo qd u.2 fd) (va_A (XO c8 c9 qo qd fo fd ++ PL cy S) sz) u.1 t) (va_A (XO c8 c9 qo qd fo fd ++ PL cy S) sz)) 1 6 (va_A (XO c8 c9 qo qd fo fd ++ PL cy S) sz) := by
  refine Met.ofWH (cc := cL_bears) (maxL := 4) (ret := (some .int)) (by decide) rfl ?_
  intro p e s m args below meth c s₁ B hml hv
  obtain ⟨rfl, hsz, ⟨hP, hKX, hD0⟩, hN, hTH, hOU, hNC⟩ := hv
  have hx := B.exec
  have hb := B.bytes
  have hr := B.returns
  have hts := atoms_spec (ws := wsL_bears) B.pre
  have hown : s.vm.findClass RL = some m.cls := findClass_of_methodNamed (x := yL_bears) B.named
  have hlocks := B.notSynchronized
  have htab := vx_table (x := yL_bears) B (hts (.codeWith yL_bears cL_bears 4 (some .int) [(0, 9, 12, 21)]) List.mem_cons_self)
  have hK := kX hKX
  subst hsz
  have hD := hD0.self (sz := s.heap.size)
  generalize hAe : va_A (XO c8 c9 qo qd fo fd ++ PL cy S) s.heap.size = A at hD hTH hOU ⊢
  generalize hXe : XO c8 c9 qo qd fo fd = X at hP hD
  have hA : ∀ q : Nat, s.heap.size ≤ q → A q := fun q h => by rw [← hAe]; exact Or.inr h
  have hS : va_S A s.heap s.heap [] := va_S.rf
  have hl := lv_entry ([.ref o1, .int x1, .ref qo]) (n := 4) (Nat.le_of_ble_eq_true rfl)
  rw [lg_entry_eq]
  generalize (lg_sl ([.ref o1, .int x1, .ref qo]) ++ List.replicate (4 - (lg_sl ([.ref o1, .int x1, .ref qo])).length) Slot.unset).toArray = ls at hl ⊢
  have hl : lv_has ls 4 [(0, .ref o1), (1, .int x1), (2, .ref qo)] := hl
  have t0 : stp ([] : List (Nat × Nat)) [] [] S S := stp.rf hW
  refine lv_aload_n hx hb dL_bears_0 rfl (lv_at hl 2 rfl) ?_
  refine lv_iconst (v := 0) hx hb dL_bears_1 (by decide) ?_
  refine lv_aload_n hx hb dL_bears_2 rfl (lv_at hl 0 rfl) ?_
  refine lv_iload_n hx hb dL_bears_3 rfl (lv_at hl 1 rfl) ?_
  have hFc := free_all hD hS hA
  obtain ⟨k1, gk1, hk1⟩ := wGt (cy := cy) X S h_o1.1 h_o1.2.1
  refine vx_calli (vx_runV (As := [.int x1]) (rest := [.int (0 : Int32), .ref qo]) ⟨hx, hb, hml, hown, hts⟩ (c_X9_bears l hst (cy := cy) (X := X) (D := D) S _ o1 h_o1 x1 (hW)) (cwV 1 hts gL_bears_X9_bears rfl rfl rfl hd_X9_bears ⟨Nat.le_of_ble_eq_true rfl, Nat.le_of_ble_eq_true rfl⟩) (pVt (va_recv hK hP (q := (RX9, TX9, 11)) (ci := 13) (q0 := k1) rfl hk1) hP hK hD hN hTH hS hFc) rfl rfl hl.1 rfl (lv_room (Nat.le_of_ble_eq_true rfl)) dL_bears_4 ⟨Nat.le_of_ble_eq_true rfl, Nat.le_of_ble_eq_true rfl⟩) hS (fun q _ h => hFc q h) hFc (fun q _ h => hFc q h) (fun E ce q9 u t H1 locs ht hvm hw hB hz1 hk1 hS hq9 hce hcl => ?_) (fun r2 u t H1 locs ht hvm hw hB hz1 hk1 hS => ?_)
  · obtain ⟨c3, hEc3, hB2⟩ := hB
    obtain ⟨hP, hD⟩ := wd_post hFc ht hB2
    have hE9 := hEc3
    simp only [List.mem_cons, List.not_mem_nil, or_false] at hE9
    clear hEc3
    subst hE9
    refine vx_catch (own := RL) (name := "java/lang/IndexOutOfBoundsException") hown [] ⟨0, 9, 12, 21⟩ [] (htab.trans rfl) (List.forall_mem_nil _) (by decide) (by decide) (hts (.classLink RL 21 "java/lang/IndexOutOfBoundsException") (by decide +kernel)) (va_Nw.use rfl (hTH.2.1 (.castable "java/lang/IndexOutOfBoundsException" "java/lang/IndexOutOfBoundsException") (by decide +kernel))) hq9 hce hcl ?_
    generalize H1 = H at hP hS ⊢
    refine lv_astore_n (lv' := [(3, .ref q9), (0, .ref o1), (1, .int x1), (2, .ref qo)]) hx hb dL_bears_12 rfl hl (by decide) rfl (fun ls hl => ?_)
    refine lv_iconst (v := 1) hx hb dL_bears_13 (by decide) ?_
    refine W.widen (k := 1) (n := 6) (Nat.le_of_ble_eq_true rfl) (Nat.le_of_ble_eq_true rfl) ?_
    subst hXe
    exact W.iret (v := (1 : Int32)) hx hb hr (fun t ht hW9 => ⟨⟨(1 : Int32), (S, fo), rfl, t0, wx_end hP hKX hD ht hW9.alike⟩, hS.F ht⟩) hS.2.2 dL_bears_14 hlocks
  · have c4 := hw
    obtain ⟨hP, hD⟩ := wd_post hFc ht hB
    generalize H1 = H at hP hS ⊢
    refine lv_i2l hx hb dL_bears_7 rfl ?_
    subst hXe
    refine va_last hx hb hKX hP hD hS 0 8 rfl rfl (inb (m := 1) rfl (by decide) (by decide)) dL_bears_8 (fun H locs hP2 hD2 hS => ?_)
    have hP : va_P D vwCl ((XO c8 c9 qo qd (vp_updL fo (0 : Int32).toNatClampNeg r2.toInt64) fd) ++ PL cy S) H := hP2
    have hD : va_D A ((XO c8 c9 qo qd (vp_updL fo (0 : Int32).toNatClampNeg r2.toInt64) fd) ++ PL cy S) := hD2
    clear hP2 hD2
    refine lv_goto (tgt := 15) hx hb dL_bears_9 (by decide) ?_
    refine lv_iconst (v := 0) hx hb dL_bears_15 (by decide) ?_
    refine W.widen (k := 1) (n := 6) (Nat.le_of_ble_eq_true rfl) (Nat.le_of_ble_eq_true rfl) ?_
    exact W.iret (v := (0 : Int32)) hx hb hr (fun t ht hW9 => ⟨⟨(0 : Int32), (S, (vp_updL fo (0 : Int32).toNatClampNeg r2.toInt64)), rfl, t0, wx_end hP hKX hD ht hW9.alike⟩, hS.F ht⟩) hS.2.2 dL_bears_16 hlocks
set_option maxHeartbeats 4000000 in
set_option maxRecDepth 100000 in
theorem c_L_life (l : Launch) (hst : l.stackTraces = false) {e0 mi : Nat} {D : va_G} {cy : Nat → ClassId} {c8 c9 : ClassId} (qo qd : Nat) (fo : Nat → Int64) (fd : Nat → UInt64) (S : wPS) (sz : Nat) (o1 : Nat) (h_o1 : isA S o1 9) (x1 : Int32) (x2 : Int32) (hW : wtB S []) : Met l yL_life wsL_life ({ frames := 8, cells := 2, slots := 12, locals := 129 }) (va_Pc [.ref o1, .int x1, .int x2, .ref qo] (fun U => U.heap.size = sz ∧ WX D cy c8 c9 (XO c8 c9 qo qd fo fd) (fun _ => True) S U ∧ NW U ∧ TH (va_A (XO c8 c9 qo qd fo fd ++ PL cy S) sz) U ∧ OU e0 mi (va_A (XO c8 c9 qo qd fo fd ++ PL cy S) sz) U U.heap ∧ NC U)) (va_Qi (fun (r : Int32) (u : wPS × (Nat → Int64)) => stp ([] : List (Nat × Nat)) [] [] S u.1) (fun u t => WX D cy c8 c9 (XO c8 c9 qo qd u.2 fd) (va_A (XO c8 c9 qo qd fo fd ++ PL cy S) sz) u.1 t) (va_A (XO c8 c9 qo qd fo fd ++ PL cy S) sz)) 2 12 (va_A (XO c8 c9 qo qd fo fd ++ PL cy S) sz) := by
  refine Met.ofWH (cc := cL_life) (maxL := 5) (ret := (some .int)) (by decide) rfl ?_
  intro p e s m args below meth c s₁ B hml hv
  obtain ⟨rfl, hsz, ⟨hP, hKX, hD0⟩, hN, hTH, hOU, hNC⟩ := hv
  have hx := B.exec
  have hb := B.bytes
  have hr := B.returns
  have hts := atoms_spec (ws := wsL_life) B.pre
  have hown : s.vm.findClass RL = some m.cls := findClass_of_methodNamed (x := yL_life) B.named
  have hlocks := B.notSynchronized
  have htab := vx_table (x := yL_life) B (hts (.codeWith yL_life cL_life 5 (some .int) [(0, 9, 12, 21), (0, 9, 16, 13)]) List.mem_cons_self)
  have hK := kX hKX
  subst hsz
  have hD := hD0.self (sz := s.heap.size)
  generalize hAe : va_A (XO c8 c9 qo qd fo fd ++ PL cy S) s.heap.size = A at hD hTH hOU ⊢
  generalize hXe : XO c8 c9 qo qd fo fd = X at hP hD
  have hA : ∀ q : Nat, s.heap.size ≤ q → A q := fun q h => by rw [← hAe]; exact Or.inr h
  have hS : va_S A s.heap s.heap [] := va_S.rf
  have hl := lv_entry ([.ref o1, .int x1, .int x2, .ref qo]) (n := 5) (Nat.le_of_ble_eq_true rfl)
  rw [lg_entry_eq]
  generalize (lg_sl ([.ref o1, .int x1, .int x2, .ref qo]) ++ List.replicate (5 - (lg_sl ([.ref o1, .int x1, .int x2, .ref qo])).length) Slot.unset).toArray = ls at hl ⊢
  have hl : lv_has ls 5 [(0, .ref o1), (1, .int x1), (2, .int x2), (3, .ref qo)] := hl
  have t0 : stp ([] : List (Nat × Nat)) [] [] S S := stp.rf hW
  refine lv_aload_n hx hb dL_life_0 rfl (lv_at hl 3 rfl) ?_
  refine lv_iconst (v := 0) hx hb dL_life_1 (by decide) ?_
  refine lv_aload_n hx hb dL_life_2 rfl (lv_at hl 0 rfl) ?_
  refine lv_iload_n hx hb dL_life_3 rfl (lv_at hl 1 rfl) ?_
  refine lv_iload_n hx hb dL_life_4 rfl (lv_at hl 2 rfl) ?_
  have hFc := free_all hD hS hA
  obtain ⟨k1, gk1, hk1⟩ := wGt (cy := cy) X S h_o1.1 h_o1.2.1
  refine vx_calll (vx_runV (As := [.int x1, .int x2]) (rest := [.int (0 : Int32), .ref qo]) ⟨hx, hb, hml, hown, hts⟩ (c_X9_life l hst (cy := cy) (X := X) (D := D) S _ o1 h_o1 x1 x2 (hW)) (cwV 2 hts gL_life_X9_life rfl rfl rfl hd_X9_life ⟨Nat.le_of_ble_eq_true rfl, Nat.le_of_ble_eq_true rfl⟩) (pVt (va_recv hK hP (q := (RX9, TX9, 11)) (ci := 13) (q0 := k1) rfl hk1) hP hK hD hN hTH hS hFc) rfl rfl hl.1 rfl (lv_room (Nat.le_of_ble_eq_true rfl)) dL_life_5 ⟨Nat.le_of_ble_eq_true rfl, Nat.le_of_ble_eq_true rfl⟩) hS (fun q _ h => hFc q h) hFc (fun q _ h => hFc q h) (fun E ce q9 u t H1 locs ht hvm hw hB hz1 hk1 hS hq9 hce hcl => ?_) (fun r2 u t H1 locs ht hvm hw hB hz1 hk1 hS => ?_)
  · obtain ⟨c3, hEc3, hB2⟩ := hB
    obtain ⟨hP, hD⟩ := wd_post hFc ht hB2
    have hE9 := hEc3
    simp only [List.mem_cons, List.not_mem_nil, or_false] at hE9
    clear hEc3
    rcases hE9 with rfl | rfl
    · refine vx_catch (own := RL) (name := "java/lang/IllegalArgumentException") hown [⟨0, 9, 12, 21⟩] ⟨0, 9, 16, 13⟩ [] (htab.trans rfl) (List.forall_mem_cons.mpr ⟨Or.inr ⟨by decide, "java/lang/IndexOutOfBoundsException", hts (.classLink RL 21 "java/lang/IndexOutOfBoundsException") (by decide +kernel), hNC ("java/lang/IllegalArgumentException", "java/lang/IndexOutOfBoundsException") (by decide +kernel)⟩, (List.forall_mem_nil _)⟩) (by decide) (by decide) (hts (.classLink RL 13 "java/lang/IllegalArgumentException") (by decide +kernel)) (va_Nw.use rfl (hTH.2.1 (.castable "java/lang/IllegalArgumentException" "java/lang/IllegalArgumentException") (by decide +kernel))) hq9 hce hcl ?_
      generalize H1 = H at hP hS ⊢
      refine lv_astore (lv' := [(4, .ref q9), (0, .ref o1), (1, .int x1), (2, .int x2), (3, .ref qo)]) hx hb dL_life_16 hl (by decide) rfl (fun ls hl => ?_)
      refine lv_iconst (v := 2) hx hb dL_life_18 (by decide) ?_
      refine W.widen (k := 2) (n := 12) (Nat.le_of_ble_eq_true rfl) (Nat.le_of_ble_eq_true rfl) ?_
      subst hXe
      exact W.iret (v := (2 : Int32)) hx hb hr (fun t ht hW9 => ⟨⟨(2 : Int32), (S, fo), rfl, t0, wx_end hP hKX hD ht hW9.alike⟩, hS.F ht⟩) hS.2.2 dL_life_19 hlocks
    · refine vx_catch (own := RL) (name := "java/lang/IndexOutOfBoundsException") hown [] ⟨0, 9, 12, 21⟩ [⟨0, 9, 16, 13⟩] (htab.trans rfl) (List.forall_mem_nil _) (by decide) (by decide) (hts (.classLink RL 21 "java/lang/IndexOutOfBoundsException") (by decide +kernel)) (va_Nw.use rfl (hTH.2.1 (.castable "java/lang/IndexOutOfBoundsException" "java/lang/IndexOutOfBoundsException") (by decide +kernel))) hq9 hce hcl ?_
      generalize H1 = H at hP hS ⊢
      refine lv_astore (lv' := [(4, .ref q9), (0, .ref o1), (1, .int x1), (2, .int x2), (3, .ref qo)]) hx hb dL_life_12 hl (by decide) rfl (fun ls hl => ?_)
      refine lv_iconst (v := 1) hx hb dL_life_14 (by decide) ?_
      refine W.widen (k := 2) (n := 12) (Nat.le_of_ble_eq_true rfl) (Nat.le_of_ble_eq_true rfl) ?_
      subst hXe
      exact W.iret (v := (1 : Int32)) hx hb hr (fun t ht hW9 => ⟨⟨(1 : Int32), (S, fo), rfl, t0, wx_end hP hKX hD ht hW9.alike⟩, hS.F ht⟩) hS.2.2 dL_life_15 hlocks
  · have c4 := hw
    obtain ⟨hP, hD⟩ := wd_post hFc ht hB
    generalize H1 = H at hP hS ⊢
    subst hXe
    refine va_last hx hb hKX hP hD hS 0 8 rfl rfl (inb (m := 1) rfl (by decide) (by decide)) dL_life_8 (fun H locs hP2 hD2 hS => ?_)
    have hP : va_P D vwCl ((XO c8 c9 qo qd (vp_updL fo (0 : Int32).toNatClampNeg r2) fd) ++ PL cy S) H := hP2
    have hD : va_D A ((XO c8 c9 qo qd (vp_updL fo (0 : Int32).toNatClampNeg r2) fd) ++ PL cy S) := hD2
    clear hP2 hD2
    refine lv_goto (tgt := 20) hx hb dL_life_9 (by decide) ?_
    refine lv_iconst (v := 0) hx hb dL_life_20 (by decide) ?_
    refine W.widen (k := 2) (n := 12) (Nat.le_of_ble_eq_true rfl) (Nat.le_of_ble_eq_true rfl) ?_
    exact W.iret (v := (0 : Int32)) hx hb hr (fun t ht hW9 => ⟨⟨(0 : Int32), (S, (vp_updL fo (0 : Int32).toNatClampNeg r2)), rfl, t0, wx_end hP hKX hD ht hW9.alike⟩, hS.F ht⟩) hS.2.2 dL_life_21 hlocks
set_option maxHeartbeats 4000000 in
set_option maxRecDepth 100000 in
theorem c_L_run (l : Launch) (hst : l.stackTraces = false) {e0 mi : Nat} {D : va_G} {cy : Nat → ClassId} {c8 c9 : ClassId} (qo qd : Nat) (fo : Nat → Int64) (fd : Nat → UInt64) (S : wPS) (sz : Nat) (o1 : Nat) (h_o1 : isA S o1 9) (x1 : Int32) (x2 : Int32) (x3 : Int32) (x4 : Int32) (hW : wtB S []) : Met l yL_run wsL_run ({ frames := 9, cells := 6, slots := 36, locals := 158 }) (va_Pc [.ref o1, .int x1, .int x2, .int x3, .int x4, .ref qo] (fun U => U.heap.size = sz ∧ WX D cy c8 c9 (XO c8 c9 qo qd fo fd) (fun _ => True) S U ∧ NW U ∧ TH (va_A (XO c8 c9 qo qd fo fd ++ PL cy S) sz) U ∧ OU e0 mi (va_A (XO c8 c9 qo qd fo fd ++ PL cy S) sz) U U.heap ∧ NC U)) (va_Qi (fun (r : Int32) (u : wPS × (Nat → Int64)) => stp [(2, 18)] [] [] S u.1) (fun u t => WX D cy c8 c9 (XO c8 c9 qo qd u.2 fd) (va_A (XO c8 c9 qo qd fo fd ++ PL cy S) sz) u.1 t) (va_A (XO c8 c9 qo qd fo fd ++ PL cy S) sz)) 6 36 (va_A (XO c8 c9 qo qd fo fd ++ PL cy S) sz) := by
  refine Met.ofWH (cc := cL_run) (maxL := 7) (ret := (some .int)) (by decide) rfl ?_
  intro p e s m args below meth c s₁ B hml hv
  obtain ⟨rfl, hsz, ⟨hP, hKX, hD0⟩, hN, hTH, hOU, hNC⟩ := hv
  have hx := B.exec
  have hb := B.bytes
  have hr := B.returns
  have hts := atoms_spec (ws := wsL_run) B.pre
  have hown : s.vm.findClass RL = some m.cls := findClass_of_methodNamed (x := yL_run) B.named
  have hlocks := B.notSynchronized
  have htab := vx_table (x := yL_run) B (hts (.codeWith yL_run cL_run 7 (some .int) [(0, 14, 17, 21), (0, 14, 21, 13), (0, 14, 25, 23)]) List.mem_cons_self)
  have hK := kX hKX
  subst hsz
  have hD := hD0.self (sz := s.heap.size)
  generalize hAe : va_A (XO c8 c9 qo qd fo fd ++ PL cy S) s.heap.size = A at hD hTH hOU ⊢
  generalize hXe : XO c8 c9 qo qd fo fd = X at hP hD
  have hA : ∀ q : Nat, s.heap.size ≤ q → A q := fun q h => by rw [← hAe]; exact Or.inr h
  have hS : va_S A s.heap s.heap [] := va_S.rf
  have hl := lv_entry ([.ref o1, .int x1, .int x2, .int x3, .int x4, .ref qo]) (n := 7) (Nat.le_of_ble_eq_true rfl)
  rw [lg_entry_eq]
  generalize (lg_sl ([.ref o1, .int x1, .int x2, .int x3, .int x4, .ref qo]) ++ List.replicate (7 - (lg_sl ([.ref o1, .int x1, .int x2, .int x3, .int x4, .ref qo])).length) Slot.unset).toArray = ls at hl ⊢
  have hl : lv_has ls 7 [(0, .ref o1), (1, .int x1), (2, .int x2), (3, .int x3), (4, .int x4), (5, .ref qo)] := hl
  have t0 : stp [(2, 18)] [] [] S S := stp.rf hW
  refine lv_aload hx hb dL_run_0 (lv_at hl 5 rfl) ?_
  refine lv_iconst (v := 0) hx hb dL_run_2 (by decide) ?_
  refine lv_aload_n hx hb dL_run_3 rfl (lv_at hl 0 rfl) ?_
  refine lv_iload_n hx hb dL_run_4 rfl (lv_at hl 1 rfl) ?_
  refine lv_iload_n hx hb dL_run_5 rfl (lv_at hl 2 rfl) ?_
  refine lv_iload_n hx hb dL_run_6 rfl (lv_at hl 3 rfl) ?_
  refine lv_iload hx hb dL_run_7 (lv_at hl 4 rfl) ?_
  have hFc := free_all hD hS hA
  obtain ⟨k1, gk1, hk1⟩ := wGt (cy := cy) X S h_o1.1 h_o1.2.1
  refine vx_calli (vx_runV (As := [.int x1, .int x2, .int x3, .int x4]) (rest := [.int (0 : Int32), .ref qo]) ⟨hx, hb, hml, hown, hts⟩ (c_X9_run l hst (cy := cy) (X := X) (D := D) S _ o1 h_o1 x1 x2 x3 x4 (hW)) (cwV 4 hts gL_run_X9_run rfl rfl rfl hd_X9_run ⟨Nat.le_of_ble_eq_true rfl, Nat.le_of_ble_eq_true rfl⟩) (pVt (va_recv hK hP (q := (RX9, TX9, 11)) (ci := 13) (q0 := k1) rfl hk1) hP hK hD hN hTH hS hFc) rfl rfl hl.1 rfl (lv_room (Nat.le_of_ble_eq_true rfl)) dL_run_9 ⟨Nat.le_of_ble_eq_true rfl, Nat.le_of_ble_eq_true rfl⟩) hS (fun q _ h => hFc q h) hFc (fun q _ h => hFc q h) (fun E ce q9 u t H1 locs ht hvm hw hB hz1 hk1 hS hq9 hce hcl => ?_) (fun r2 u t H1 locs ht hvm hw hB hz1 hk1 hS => ?_)
  · obtain ⟨c3, hEc3, hB2⟩ := hB
    obtain ⟨hP, hD⟩ := wd_post hFc ht hB2
    have t4 : stp [(2, 18)] [] [] S u := t0.tr hw (by decide) (fun _ q => absurd q List.not_mem_nil)
    have xe5 : ext S u := hw.x
    have hE9 := hEc3
    simp only [List.mem_cons, List.not_mem_nil, or_false] at hE9
    clear hEc3
    rcases hE9 with rfl | rfl | rfl
    · refine vx_catch (own := RL) (name := "java/lang/IllegalArgumentException") hown [⟨0, 14, 17, 21⟩] ⟨0, 14, 21, 13⟩ [⟨0, 14, 25, 23⟩] (htab.trans rfl) (List.forall_mem_cons.mpr ⟨Or.inr ⟨by decide, "java/lang/IndexOutOfBoundsException", hts (.classLink RL 21 "java/lang/IndexOutOfBoundsException") (by decide +kernel), hNC ("java/lang/IllegalArgumentException", "java/lang/IndexOutOfBoundsException") (by decide +kernel)⟩, (List.forall_mem_nil _)⟩) (by decide) (by decide) (hts (.classLink RL 13 "java/lang/IllegalArgumentException") (by decide +kernel)) (va_Nw.use rfl (hTH.2.1 (.castable "java/lang/IllegalArgumentException" "java/lang/IllegalArgumentException") (by decide +kernel))) hq9 hce hcl ?_
      generalize H1 = H at hP hS ⊢
      refine lv_astore (lv' := [(6, .ref q9), (0, .ref o1), (1, .int x1), (2, .int x2), (3, .int x3), (4, .int x4), (5, .ref qo)]) hx hb dL_run_21 hl (by decide) rfl (fun ls hl => ?_)
      refine lv_iconst (v := 2) hx hb dL_run_23 (by decide) ?_
      refine W.widen (k := 6) (n := 36) (Nat.le_of_ble_eq_true rfl) (Nat.le_of_ble_eq_true rfl) ?_
      subst hXe
      exact W.iret (v := (2 : Int32)) hx hb hr (fun t ht hW9 => ⟨⟨(2 : Int32), (u, fo), rfl, t4, wx_end hP hKX hD ht hW9.alike⟩, hS.F ht⟩) hS.2.2 dL_run_24 hlocks
    · refine vx_catch (own := RL) (name := "java/lang/IndexOutOfBoundsException") hown [] ⟨0, 14, 17, 21⟩ [⟨0, 14, 21, 13⟩, ⟨0, 14, 25, 23⟩] (htab.trans rfl) (List.forall_mem_nil _) (by decide) (by decide) (hts (.classLink RL 21 "java/lang/IndexOutOfBoundsException") (by decide +kernel)) (va_Nw.use rfl (hTH.2.1 (.castable "java/lang/IndexOutOfBoundsException" "java/lang/IndexOutOfBoundsException") (by decide +kernel))) hq9 hce hcl ?_
      generalize H1 = H at hP hS ⊢
      refine lv_astore (lv' := [(6, .ref q9), (0, .ref o1), (1, .int x1), (2, .int x2), (3, .int x3), (4, .int x4), (5, .ref qo)]) hx hb dL_run_17 hl (by decide) rfl (fun ls hl => ?_)
      refine lv_iconst (v := 1) hx hb dL_run_19 (by decide) ?_
      refine W.widen (k := 6) (n := 36) (Nat.le_of_ble_eq_true rfl) (Nat.le_of_ble_eq_true rfl) ?_
      subst hXe
      exact W.iret (v := (1 : Int32)) hx hb hr (fun t ht hW9 => ⟨⟨(1 : Int32), (u, fo), rfl, t4, wx_end hP hKX hD ht hW9.alike⟩, hS.F ht⟩) hS.2.2 dL_run_20 hlocks
    · refine vx_catch (own := RL) (name := "java/lang/UnsupportedOperationException") hown [⟨0, 14, 17, 21⟩, ⟨0, 14, 21, 13⟩] ⟨0, 14, 25, 23⟩ [] (htab.trans rfl) (List.forall_mem_cons.mpr ⟨Or.inr ⟨by decide, "java/lang/IndexOutOfBoundsException", hts (.classLink RL 21 "java/lang/IndexOutOfBoundsException") (by decide +kernel), hNC ("java/lang/UnsupportedOperationException", "java/lang/IndexOutOfBoundsException") (by decide +kernel)⟩, (List.forall_mem_cons.mpr ⟨Or.inr ⟨by decide, "java/lang/IllegalArgumentException", hts (.classLink RL 13 "java/lang/IllegalArgumentException") (by decide +kernel), hNC ("java/lang/UnsupportedOperationException", "java/lang/IllegalArgumentException") (by decide +kernel)⟩, (List.forall_mem_nil _)⟩)⟩) (by decide) (by decide) (hts (.classLink RL 23 "java/lang/UnsupportedOperationException") (by decide +kernel)) (va_Nw.use rfl (hTH.2.1 (.castable "java/lang/UnsupportedOperationException" "java/lang/UnsupportedOperationException") (by decide +kernel))) hq9 hce hcl ?_
      generalize H1 = H at hP hS ⊢
      refine lv_astore (lv' := [(6, .ref q9), (0, .ref o1), (1, .int x1), (2, .int x2), (3, .int x3), (4, .int x4), (5, .ref qo)]) hx hb dL_run_25 hl (by decide) rfl (fun ls hl => ?_)
      refine lv_iconst (v := 3) hx hb dL_run_27 (by decide) ?_
      refine W.widen (k := 6) (n := 36) (Nat.le_of_ble_eq_true rfl) (Nat.le_of_ble_eq_true rfl) ?_
      subst hXe
      exact W.iret (v := (3 : Int32)) hx hb hr (fun t ht hW9 => ⟨⟨(3 : Int32), (u, fo), rfl, t4, wx_end hP hKX hD ht hW9.alike⟩, hS.F ht⟩) hS.2.2 dL_run_28 hlocks
  · obtain ⟨c6, w7⟩ := hw
    obtain ⟨hP, hD⟩ := wd_post hFc ht hB
    generalize H1 = H at hP hS ⊢
    obtain ⟨S8, rfl⟩ : ∃ z, z = u := ⟨_, rfl⟩
    have t9 : stp [(2, 18)] [] [] S S8 := t0.tr w7 (by decide) (fun _ q => absurd q List.not_mem_nil)
    have xe10 : ext S S8 := w7.x
    refine lv_i2l hx hb dL_run_12 rfl ?_
    subst hXe
    refine va_last hx hb hKX hP hD hS 0 8 rfl rfl (inb (m := 1) rfl (by decide) (by decide)) dL_run_13 (fun H locs hP2 hD2 hS => ?_)
    have hP : va_P D vwCl ((XO c8 c9 qo qd (vp_updL fo (0 : Int32).toNatClampNeg r2.toInt64) fd) ++ PL cy S8) H := hP2
    have hD : va_D A ((XO c8 c9 qo qd (vp_updL fo (0 : Int32).toNatClampNeg r2.toInt64) fd) ++ PL cy S8) := hD2
    clear hP2 hD2
    refine lv_goto (tgt := 29) hx hb dL_run_14 (by decide) ?_
    refine lv_iconst (v := 0) hx hb dL_run_29 (by decide) ?_
    refine W.widen (k := 6) (n := 36) (Nat.le_of_ble_eq_true rfl) (Nat.le_of_ble_eq_true rfl) ?_
    exact W.iret (v := (0 : Int32)) hx hb hr (fun t ht hW9 => ⟨⟨(0 : Int32), (S8, (vp_updL fo (0 : Int32).toNatClampNeg r2.toInt64)), rfl, t9, wx_end hP hKX hD ht hW9.alike⟩, hS.F ht⟩) hS.2.2 dL_run_30 hlocks
set_option maxHeartbeats 4000000 in
set_option maxRecDepth 100000 in
theorem c_L_damage (l : Launch) (hst : l.stackTraces = false) {e0 mi : Nat} {D : va_G} {cy : Nat → ClassId} {c8 c9 : ClassId} (qo qd : Nat) (fo : Nat → Int64) (fd : Nat → UInt64) (S : wPS) (sz : Nat) (o1 : Nat) (h_o1 : isA S o1 9) (x1 : Int32) (hW : wtB S []) : Met l yL_damage wsL_damage ({ frames := 8, cells := 1, slots := 6, locals := 124 }) (va_Pc [.ref o1, .int x1, .ref qo] (fun U => U.heap.size = sz ∧ WX D cy c8 c9 (XO c8 c9 qo qd fo fd) (fun _ => True) S U ∧ NW U ∧ TH (va_A (XO c8 c9 qo qd fo fd ++ PL cy S) sz) U ∧ OU e0 mi (va_A (XO c8 c9 qo qd fo fd ++ PL cy S) sz) U U.heap ∧ NC U)) (va_Qi (fun (r : Int32) (u : wPS × (Nat → Int64)) => stp ([] : List (Nat × Nat)) [] [] S u.1) (fun u t => WX D cy c8 c9 (XO c8 c9 qo qd u.2 fd) (va_A (XO c8 c9 qo qd fo fd ++ PL cy S) sz) u.1 t) (va_A (XO c8 c9 qo qd fo fd ++ PL cy S) sz)) 1 6 (va_A (XO c8 c9 qo qd fo fd ++ PL cy S) sz) := by
  refine Met.ofWH (cc := cL_damage) (maxL := 4) (ret := (some .int)) (by decide) rfl ?_
  intro p e s m args below meth c s₁ B hml hv
  obtain ⟨rfl, hsz, ⟨hP, hKX, hD0⟩, hN, hTH, hOU, hNC⟩ := hv
  have hx := B.exec
  have hb := B.bytes
  have hr := B.returns
  have hts := atoms_spec (ws := wsL_damage) B.pre
  have hown : s.vm.findClass RL = some m.cls := findClass_of_methodNamed (x := yL_damage) B.named
  have hlocks := B.notSynchronized
  have htab := vx_table (x := yL_damage) B (hts (.codeWith yL_damage cL_damage 4 (some .int) [(0, 8, 11, 21)]) List.mem_cons_self)
  have hK := kX hKX
  subst hsz
  have hD := hD0.self (sz := s.heap.size)
  generalize hAe : va_A (XO c8 c9 qo qd fo fd ++ PL cy S) s.heap.size = A at hD hTH hOU ⊢
  generalize hXe : XO c8 c9 qo qd fo fd = X at hP hD
  have hA : ∀ q : Nat, s.heap.size ≤ q → A q := fun q h => by rw [← hAe]; exact Or.inr h
  have hS : va_S A s.heap s.heap [] := va_S.rf
  have hl := lv_entry ([.ref o1, .int x1, .ref qo]) (n := 4) (Nat.le_of_ble_eq_true rfl)
  rw [lg_entry_eq]
  generalize (lg_sl ([.ref o1, .int x1, .ref qo]) ++ List.replicate (4 - (lg_sl ([.ref o1, .int x1, .ref qo])).length) Slot.unset).toArray = ls at hl ⊢
  have hl : lv_has ls 4 [(0, .ref o1), (1, .int x1), (2, .ref qo)] := hl
  have t0 : stp ([] : List (Nat × Nat)) [] [] S S := stp.rf hW
  refine lv_aload_n hx hb dL_damage_0 rfl (lv_at hl 2 rfl) ?_
  refine lv_iconst (v := 0) hx hb dL_damage_1 (by decide) ?_
  refine lv_aload_n hx hb dL_damage_2 rfl (lv_at hl 0 rfl) ?_
  refine lv_iload_n hx hb dL_damage_3 rfl (lv_at hl 1 rfl) ?_
  have hFc := free_all hD hS hA
  obtain ⟨k1, gk1, hk1⟩ := wGt (cy := cy) X S h_o1.1 h_o1.2.1
  refine vx_calll (vx_runV (As := [.int x1]) (rest := [.int (0 : Int32), .ref qo]) ⟨hx, hb, hml, hown, hts⟩ (c_X9_damage l hst (cy := cy) (X := X) (D := D) S _ o1 h_o1 x1 (hW)) (cwV 1 hts gL_damage_X9_damage rfl rfl rfl hd_X9_damage ⟨Nat.le_of_ble_eq_true rfl, Nat.le_of_ble_eq_true rfl⟩) (pVt (va_recv hK hP (q := (RX9, TX9, 11)) (ci := 13) (q0 := k1) rfl hk1) hP hK hD hN hTH hS hFc) rfl rfl hl.1 rfl (lv_room (Nat.le_of_ble_eq_true rfl)) dL_damage_4 ⟨Nat.le_of_ble_eq_true rfl, Nat.le_of_ble_eq_true rfl⟩) hS (fun q _ h => hFc q h) hFc (fun q _ h => hFc q h) (fun E ce q9 u t H1 locs ht hvm hw hB hz1 hk1 hS hq9 hce hcl => ?_) (fun r2 u t H1 locs ht hvm hw hB hz1 hk1 hS => ?_)
  · obtain ⟨c3, hEc3, hB2⟩ := hB
    obtain ⟨hP, hD⟩ := wd_post hFc ht hB2
    have hE9 := hEc3
    simp only [List.mem_cons, List.not_mem_nil, or_false] at hE9
    clear hEc3
    subst hE9
    refine vx_catch (own := RL) (name := "java/lang/IndexOutOfBoundsException") hown [] ⟨0, 8, 11, 21⟩ [] (htab.trans rfl) (List.forall_mem_nil _) (by decide) (by decide) (hts (.classLink RL 21 "java/lang/IndexOutOfBoundsException") (by decide +kernel)) (va_Nw.use rfl (hTH.2.1 (.castable "java/lang/IndexOutOfBoundsException" "java/lang/IndexOutOfBoundsException") (by decide +kernel))) hq9 hce hcl ?_
    generalize H1 = H at hP hS ⊢
    refine lv_astore_n (lv' := [(3, .ref q9), (0, .ref o1), (1, .int x1), (2, .ref qo)]) hx hb dL_damage_11 rfl hl (by decide) rfl (fun ls hl => ?_)
    refine lv_iconst (v := 1) hx hb dL_damage_12 (by decide) ?_
    refine W.widen (k := 1) (n := 6) (Nat.le_of_ble_eq_true rfl) (Nat.le_of_ble_eq_true rfl) ?_
    subst hXe
    exact W.iret (v := (1 : Int32)) hx hb hr (fun t ht hW9 => ⟨⟨(1 : Int32), (S, fo), rfl, t0, wx_end hP hKX hD ht hW9.alike⟩, hS.F ht⟩) hS.2.2 dL_damage_13 hlocks
  · have c4 := hw
    obtain ⟨hP, hD⟩ := wd_post hFc ht hB
    generalize H1 = H at hP hS ⊢
    subst hXe
    refine va_last hx hb hKX hP hD hS 0 8 rfl rfl (inb (m := 1) rfl (by decide) (by decide)) dL_damage_7 (fun H locs hP2 hD2 hS => ?_)
    have hP : va_P D vwCl ((XO c8 c9 qo qd (vp_updL fo (0 : Int32).toNatClampNeg r2) fd) ++ PL cy S) H := hP2
    have hD : va_D A ((XO c8 c9 qo qd (vp_updL fo (0 : Int32).toNatClampNeg r2) fd) ++ PL cy S) := hD2
    clear hP2 hD2
    refine lv_goto (tgt := 14) hx hb dL_damage_8 (by decide) ?_
    refine lv_iconst (v := 0) hx hb dL_damage_14 (by decide) ?_
    refine W.widen (k := 1) (n := 6) (Nat.le_of_ble_eq_true rfl) (Nat.le_of_ble_eq_true rfl) ?_
    exact W.iret (v := (0 : Int32)) hx hb hr (fun t ht hW9 => ⟨⟨(0 : Int32), (S, (vp_updL fo (0 : Int32).toNatClampNeg r2)), rfl, t0, wx_end hP hKX hD ht hW9.alike⟩, hS.F ht⟩) hS.2.2 dL_damage_15 hlocks
set_option maxHeartbeats 4000000 in
set_option maxRecDepth 100000 in
theorem c_L_match (l : Launch) (hst : l.stackTraces = false) {e0 mi : Nat} {D : va_G} {cy : Nat → ClassId} {c8 c9 : ClassId} (qo qd : Nat) (fo : Nat → Int64) (fd : Nat → UInt64) (S : wPS) (sz : Nat) (o1 : Nat) (h_o1 : isA S o1 9) (x1 : Int32) (x2 : Int32) (x3 : Int32) (hW : wtB S []) : Met l yL_match wsL_match ({ frames := 10, cells := 2, slots := 12, locals := 257 }) (va_Pc [.ref o1, .int x1, .int x2, .int x3, .ref qo] (fun U => U.heap.size = sz ∧ WX D cy c8 c9 (XO c8 c9 qo qd fo fd) (fun _ => True) S U ∧ NW U ∧ TH (va_A (XO c8 c9 qo qd fo fd ++ PL cy S) sz) U ∧ OU e0 mi (va_A (XO c8 c9 qo qd fo fd ++ PL cy S) sz) U U.heap ∧ NC U)) (va_Qi (fun (r : Int32) (u : wPS × (Nat → Int64)) => stp [(2, 19), (4, 6), (4, 7), (4, 8), (6, 4), (17, 100), (18, 100), (24, 101)] [] [] S u.1) (fun u t => WX D cy c8 c9 (XO c8 c9 qo qd u.2 fd) (va_A (XO c8 c9 qo qd fo fd ++ PL cy S) sz) u.1 t) (va_A (XO c8 c9 qo qd fo fd ++ PL cy S) sz)) 2 12 (va_A (XO c8 c9 qo qd fo fd ++ PL cy S) sz) := by
  refine Met.ofWH (cc := cL_match) (maxL := 6) (ret := (some .int)) (by decide) rfl ?_
  intro p e s m args below meth c s₁ B hml hv
  obtain ⟨rfl, hsz, ⟨hP, hKX, hD0⟩, hN, hTH, hOU, hNC⟩ := hv
  have hx := B.exec
  have hb := B.bytes
  have hr := B.returns
  have hts := atoms_spec (ws := wsL_match) B.pre
  have hown : s.vm.findClass RL = some m.cls := findClass_of_methodNamed (x := yL_match) B.named
  have hlocks := B.notSynchronized
  have htab := vx_table (x := yL_match) B (hts (.codeWith yL_match cL_match 6 (some .int) [(0, 12, 15, 13), (0, 12, 19, 62)]) List.mem_cons_self)
  have hK := kX hKX
  subst hsz
  have hD := hD0.self (sz := s.heap.size)
  generalize hAe : va_A (XO c8 c9 qo qd fo fd ++ PL cy S) s.heap.size = A at hD hTH hOU ⊢
  generalize hXe : XO c8 c9 qo qd fo fd = X at hP hD
  have hA : ∀ q : Nat, s.heap.size ≤ q → A q := fun q h => by rw [← hAe]; exact Or.inr h
  have hS : va_S A s.heap s.heap [] := va_S.rf
  have hl := lv_entry ([.ref o1, .int x1, .int x2, .int x3, .ref qo]) (n := 6) (Nat.le_of_ble_eq_true rfl)
  rw [lg_entry_eq]
  generalize (lg_sl ([.ref o1, .int x1, .int x2, .int x3, .ref qo]) ++ List.replicate (6 - (lg_sl ([.ref o1, .int x1, .int x2, .int x3, .ref qo])).length) Slot.unset).toArray = ls at hl ⊢
  have hl : lv_has ls 6 [(0, .ref o1), (1, .int x1), (2, .int x2), (3, .int x3), (4, .ref qo)] := hl
  have t0 : stp [(2, 19), (4, 6), (4, 7), (4, 8), (6, 4), (17, 100), (18, 100), (24, 101)] [] [] S S := stp.rf hW
  refine lv_aload hx hb dL_match_0 (lv_at hl 4 rfl) ?_
  refine lv_iconst (v := 0) hx hb dL_match_2 (by decide) ?_
  refine lv_aload_n hx hb dL_match_3 rfl (lv_at hl 0 rfl) ?_
  refine lv_iload_n hx hb dL_match_4 rfl (lv_at hl 1 rfl) ?_
  refine lv_iload_n hx hb dL_match_5 rfl (lv_at hl 2 rfl) ?_
  refine lv_iload_n hx hb dL_match_6 rfl (lv_at hl 3 rfl) ?_
  have hFc := free_all hD hS hA
  obtain ⟨k1, gk1, hk1⟩ := wGt (cy := cy) X S h_o1.1 h_o1.2.1
  refine vx_calli (vx_runV (As := [.int x1, .int x2, .int x3]) (rest := [.int (0 : Int32), .ref qo]) ⟨hx, hb, hml, hown, hts⟩ (c_X9_match l hst (cy := cy) (X := X) (D := D) S _ o1 h_o1 x1 x2 x3 (hW)) (cwV 3 hts gL_match_X9_match rfl rfl rfl hd_X9_match ⟨Nat.le_of_ble_eq_true rfl, Nat.le_of_ble_eq_true rfl⟩) (pVt (va_recv hK hP (q := (RX9, TX9, 11)) (ci := 13) (q0 := k1) rfl hk1) hP hK hD hN hTH hS hFc) rfl rfl hl.1 rfl (lv_room (Nat.le_of_ble_eq_true rfl)) dL_match_7 ⟨Nat.le_of_ble_eq_true rfl, Nat.le_of_ble_eq_true rfl⟩) hS (fun q _ h => hFc q h) hFc (fun q _ h => hFc q h) (fun E ce q9 u t H1 locs ht hvm hw hB hz1 hk1 hS hq9 hce hcl => ?_) (fun r2 u t H1 locs ht hvm hw hB hz1 hk1 hS => ?_)
  · obtain ⟨hEc3, hB2⟩ := hB
    obtain ⟨hP, hD⟩ := wd_post hFc ht hB2
    have t4 : stp [(2, 19), (4, 6), (4, 7), (4, 8), (6, 4), (17, 100), (18, 100), (24, 101)] [] [] S u := t0.tr hw (by decide) (fun _ q => absurd q List.not_mem_nil)
    have xe5 : ext S u := hw.x
    have hE9 := hEc3
    simp only [List.mem_cons, List.not_mem_nil, or_false] at hE9
    clear hEc3
    rcases hE9 with rfl | rfl
    · refine vx_catch (own := RL) (name := "java/lang/IllegalArgumentException") hown [] ⟨0, 12, 15, 13⟩ [⟨0, 12, 19, 62⟩] (htab.trans rfl) (List.forall_mem_nil _) (by decide) (by decide) (hts (.classLink RL 13 "java/lang/IllegalArgumentException") (by decide +kernel)) (va_Nw.use rfl (hTH.2.1 (.castable "java/lang/IllegalArgumentException" "java/lang/IllegalArgumentException") (by decide +kernel))) hq9 hce hcl ?_
      generalize H1 = H at hP hS ⊢
      refine lv_astore (lv' := [(5, .ref q9), (0, .ref o1), (1, .int x1), (2, .int x2), (3, .int x3), (4, .ref qo)]) hx hb dL_match_15 hl (by decide) rfl (fun ls hl => ?_)
      refine lv_iconst (v := 1) hx hb dL_match_17 (by decide) ?_
      refine W.widen (k := 2) (n := 12) (Nat.le_of_ble_eq_true rfl) (Nat.le_of_ble_eq_true rfl) ?_
      subst hXe
      exact W.iret (v := (1 : Int32)) hx hb hr (fun t ht hW9 => ⟨⟨(1 : Int32), (u, fo), rfl, t4, wx_end hP hKX hD ht hW9.alike⟩, hS.F ht⟩) hS.2.2 dL_match_18 hlocks
    · refine vx_catch (own := RL) (name := "java/util/NoSuchElementException") hown [⟨0, 12, 15, 13⟩] ⟨0, 12, 19, 62⟩ [] (htab.trans rfl) (List.forall_mem_cons.mpr ⟨Or.inr ⟨by decide, "java/lang/IllegalArgumentException", hts (.classLink RL 13 "java/lang/IllegalArgumentException") (by decide +kernel), hNC ("java/util/NoSuchElementException", "java/lang/IllegalArgumentException") (by decide +kernel)⟩, (List.forall_mem_nil _)⟩) (by decide) (by decide) (hts (.classLink RL 62 "java/util/NoSuchElementException") (by decide +kernel)) (va_Nw.use rfl (hTH.2.1 (.castable "java/util/NoSuchElementException" "java/util/NoSuchElementException") (by decide +kernel))) hq9 hce hcl ?_
      generalize H1 = H at hP hS ⊢
      refine lv_astore (lv' := [(5, .ref q9), (0, .ref o1), (1, .int x1), (2, .int x2), (3, .int x3), (4, .ref qo)]) hx hb dL_match_19 hl (by decide) rfl (fun ls hl => ?_)
      refine lv_iconst (v := 2) hx hb dL_match_21 (by decide) ?_
      refine W.widen (k := 2) (n := 12) (Nat.le_of_ble_eq_true rfl) (Nat.le_of_ble_eq_true rfl) ?_
      subst hXe
      exact W.iret (v := (2 : Int32)) hx hb hr (fun t ht hW9 => ⟨⟨(2 : Int32), (u, fo), rfl, t4, wx_end hP hKX hD ht hW9.alike⟩, hS.F ht⟩) hS.2.2 dL_match_22 hlocks
  · have w6 := hw
    obtain ⟨hP, hD⟩ := wd_post hFc ht hB
    generalize H1 = H at hP hS ⊢
    obtain ⟨S7, rfl⟩ : ∃ z, z = u := ⟨_, rfl⟩
    have t8 : stp [(2, 19), (4, 6), (4, 7), (4, 8), (6, 4), (17, 100), (18, 100), (24, 101)] [] [] S S7 := t0.tr w6 (by decide) (fun _ q => absurd q List.not_mem_nil)
    have xe9 : ext S S7 := w6.x
    refine lv_i2l hx hb dL_match_10 rfl ?_
    subst hXe
    refine va_last hx hb hKX hP hD hS 0 8 rfl rfl (inb (m := 1) rfl (by decide) (by decide)) dL_match_11 (fun H locs hP2 hD2 hS => ?_)
    have hP : va_P D vwCl ((XO c8 c9 qo qd (vp_updL fo (0 : Int32).toNatClampNeg r2.toInt64) fd) ++ PL cy S7) H := hP2
    have hD : va_D A ((XO c8 c9 qo qd (vp_updL fo (0 : Int32).toNatClampNeg r2.toInt64) fd) ++ PL cy S7) := hD2
    clear hP2 hD2
    refine lv_goto (tgt := 23) hx hb dL_match_12 (by decide) ?_
    refine lv_iconst (v := 0) hx hb dL_match_23 (by decide) ?_
    refine W.widen (k := 2) (n := 12) (Nat.le_of_ble_eq_true rfl) (Nat.le_of_ble_eq_true rfl) ?_
    exact W.iret (v := (0 : Int32)) hx hb hr (fun t ht hW9 => ⟨⟨(0 : Int32), (S7, (vp_updL fo (0 : Int32).toNatClampNeg r2.toInt64)), rfl, t8, wx_end hP hKX hD ht hW9.alike⟩, hS.F ht⟩) hS.2.2 dL_match_24 hlocks
set_option maxHeartbeats 4000000 in
set_option maxRecDepth 100000 in
theorem c_L_mate (l : Launch) (hst : l.stackTraces = false) {e0 mi : Nat} {D : va_G} {cy : Nat → ClassId} {c8 c9 : ClassId} (qo qd : Nat) (fo : Nat → Int64) (fd : Nat → UInt64) (S : wPS) (sz : Nat) (o1 : Nat) (h_o1 : isA S o1 9) (x1 : Int32) (hW : wtB S []) : Met l yL_mate wsL_mate ({ frames := 8, cells := 2, slots := 12, locals := 125 }) (va_Pc [.ref o1, .int x1, .ref qo] (fun U => U.heap.size = sz ∧ WX D cy c8 c9 (XO c8 c9 qo qd fo fd) (fun _ => True) S U ∧ NW U ∧ TH (va_A (XO c8 c9 qo qd fo fd ++ PL cy S) sz) U ∧ OU e0 mi (va_A (XO c8 c9 qo qd fo fd ++ PL cy S) sz) U U.heap ∧ NC U)) (va_Qi (fun (r : Int32) (u : wPS × (Nat → Int64)) => stp ([] : List (Nat × Nat)) [] [] S u.1) (fun u t => WX D cy c8 c9 (XO c8 c9 qo qd u.2 fd) (va_A (XO c8 c9 qo qd fo fd ++ PL cy S) sz) u.1 t) (va_A (XO c8 c9 qo qd fo fd ++ PL cy S) sz)) 2 12 (va_A (XO c8 c9 qo qd fo fd ++ PL cy S) sz) := by
  refine Met.ofWH (cc := cL_mate) (maxL := 4) (ret := (some .int)) (by decide) rfl ?_
  intro p e s m args below meth c s₁ B hml hv
  obtain ⟨rfl, hsz, ⟨hP, hKX, hD0⟩, hN, hTH, hOU, hNC⟩ := hv
  have hx := B.exec
  have hb := B.bytes
  have hr := B.returns
  have hts := atoms_spec (ws := wsL_mate) B.pre
  have hown : s.vm.findClass RL = some m.cls := findClass_of_methodNamed (x := yL_mate) B.named
  have hlocks := B.notSynchronized
  have htab := vx_table (x := yL_mate) B (hts (.codeWith yL_mate cL_mate 4 (some .int) [(0, 9, 12, 21), (0, 9, 15, 62)]) List.mem_cons_self)
  have hK := kX hKX
  subst hsz
  have hD := hD0.self (sz := s.heap.size)
  generalize hAe : va_A (XO c8 c9 qo qd fo fd ++ PL cy S) s.heap.size = A at hD hTH hOU ⊢
  generalize hXe : XO c8 c9 qo qd fo fd = X at hP hD
  have hA : ∀ q : Nat, s.heap.size ≤ q → A q := fun q h => by rw [← hAe]; exact Or.inr h
  have hS : va_S A s.heap s.heap [] := va_S.rf
  have hl := lv_entry ([.ref o1, .int x1, .ref qo]) (n := 4) (Nat.le_of_ble_eq_true rfl)
  rw [lg_entry_eq]
  generalize (lg_sl ([.ref o1, .int x1, .ref qo]) ++ List.replicate (4 - (lg_sl ([.ref o1, .int x1, .ref qo])).length) Slot.unset).toArray = ls at hl ⊢
  have hl : lv_has ls 4 [(0, .ref o1), (1, .int x1), (2, .ref qo)] := hl
  have t0 : stp ([] : List (Nat × Nat)) [] [] S S := stp.rf hW
  refine lv_aload_n hx hb dL_mate_0 rfl (lv_at hl 2 rfl) ?_
  refine lv_iconst (v := 0) hx hb dL_mate_1 (by decide) ?_
  refine lv_aload_n hx hb dL_mate_2 rfl (lv_at hl 0 rfl) ?_
  refine lv_iload_n hx hb dL_mate_3 rfl (lv_at hl 1 rfl) ?_
  have hFc := free_all hD hS hA
  obtain ⟨k1, gk1, hk1⟩ := wGt (cy := cy) X S h_o1.1 h_o1.2.1
  refine vx_calli (vx_runV (As := [.int x1]) (rest := [.int (0 : Int32), .ref qo]) ⟨hx, hb, hml, hown, hts⟩ (c_X9_mate l hst (cy := cy) (X := X) (D := D) S _ o1 h_o1 x1 (hW)) (cwV 1 hts gL_mate_X9_mate rfl rfl rfl hd_X9_mate ⟨Nat.le_of_ble_eq_true rfl, Nat.le_of_ble_eq_true rfl⟩) (pVt (va_recv hK hP (q := (RX9, TX9, 11)) (ci := 13) (q0 := k1) rfl hk1) hP hK hD hN hTH hS hFc) rfl rfl hl.1 rfl (lv_room (Nat.le_of_ble_eq_true rfl)) dL_mate_4 ⟨Nat.le_of_ble_eq_true rfl, Nat.le_of_ble_eq_true rfl⟩) hS (fun q _ h => hFc q h) hFc (fun q _ h => hFc q h) (fun E ce q9 u t H1 locs ht hvm hw hB hz1 hk1 hS hq9 hce hcl => ?_) (fun r2 u t H1 locs ht hvm hw hB hz1 hk1 hS => ?_)
  · obtain ⟨c3, hEc3, hB2⟩ := hB
    obtain ⟨hP, hD⟩ := wd_post hFc ht hB2
    have hE9 := hEc3
    simp only [List.mem_cons, List.not_mem_nil, or_false] at hE9
    clear hEc3
    rcases hE9 with rfl | rfl
    · refine vx_catch (own := RL) (name := "java/lang/IndexOutOfBoundsException") hown [] ⟨0, 9, 12, 21⟩ [⟨0, 9, 15, 62⟩] (htab.trans rfl) (List.forall_mem_nil _) (by decide) (by decide) (hts (.classLink RL 21 "java/lang/IndexOutOfBoundsException") (by decide +kernel)) (va_Nw.use rfl (hTH.2.1 (.castable "java/lang/IndexOutOfBoundsException" "java/lang/IndexOutOfBoundsException") (by decide +kernel))) hq9 hce hcl ?_
      generalize H1 = H at hP hS ⊢
      refine lv_astore_n (lv' := [(3, .ref q9), (0, .ref o1), (1, .int x1), (2, .ref qo)]) hx hb dL_mate_12 rfl hl (by decide) rfl (fun ls hl => ?_)
      refine lv_iconst (v := 1) hx hb dL_mate_13 (by decide) ?_
      refine W.widen (k := 2) (n := 12) (Nat.le_of_ble_eq_true rfl) (Nat.le_of_ble_eq_true rfl) ?_
      subst hXe
      exact W.iret (v := (1 : Int32)) hx hb hr (fun t ht hW9 => ⟨⟨(1 : Int32), (S, fo), rfl, t0, wx_end hP hKX hD ht hW9.alike⟩, hS.F ht⟩) hS.2.2 dL_mate_14 hlocks
    · refine vx_catch (own := RL) (name := "java/util/NoSuchElementException") hown [⟨0, 9, 12, 21⟩] ⟨0, 9, 15, 62⟩ [] (htab.trans rfl) (List.forall_mem_cons.mpr ⟨Or.inr ⟨by decide, "java/lang/IndexOutOfBoundsException", hts (.classLink RL 21 "java/lang/IndexOutOfBoundsException") (by decide +kernel), hNC ("java/util/NoSuchElementException", "java/lang/IndexOutOfBoundsException") (by decide +kernel)⟩, (List.forall_mem_nil _)⟩) (by decide) (by decide) (hts (.classLink RL 62 "java/util/NoSuchElementException") (by decide +kernel)) (va_Nw.use rfl (hTH.2.1 (.castable "java/util/NoSuchElementException" "java/util/NoSuchElementException") (by decide +kernel))) hq9 hce hcl ?_
      generalize H1 = H at hP hS ⊢
      refine lv_astore_n (lv' := [(3, .ref q9), (0, .ref o1), (1, .int x1), (2, .ref qo)]) hx hb dL_mate_15 rfl hl (by decide) rfl (fun ls hl => ?_)
      refine lv_iconst (v := 2) hx hb dL_mate_16 (by decide) ?_
      refine W.widen (k := 2) (n := 12) (Nat.le_of_ble_eq_true rfl) (Nat.le_of_ble_eq_true rfl) ?_
      subst hXe
      exact W.iret (v := (2 : Int32)) hx hb hr (fun t ht hW9 => ⟨⟨(2 : Int32), (S, fo), rfl, t0, wx_end hP hKX hD ht hW9.alike⟩, hS.F ht⟩) hS.2.2 dL_mate_17 hlocks
  · have c4 := hw
    obtain ⟨hP, hD⟩ := wd_post hFc ht hB
    generalize H1 = H at hP hS ⊢
    refine lv_i2l hx hb dL_mate_7 rfl ?_
    subst hXe
    refine va_last hx hb hKX hP hD hS 0 8 rfl rfl (inb (m := 1) rfl (by decide) (by decide)) dL_mate_8 (fun H locs hP2 hD2 hS => ?_)
    have hP : va_P D vwCl ((XO c8 c9 qo qd (vp_updL fo (0 : Int32).toNatClampNeg r2.toInt64) fd) ++ PL cy S) H := hP2
    have hD : va_D A ((XO c8 c9 qo qd (vp_updL fo (0 : Int32).toNatClampNeg r2.toInt64) fd) ++ PL cy S) := hD2
    clear hP2 hD2
    refine lv_goto (tgt := 18) hx hb dL_mate_9 (by decide) ?_
    refine lv_iconst (v := 0) hx hb dL_mate_18 (by decide) ?_
    refine W.widen (k := 2) (n := 12) (Nat.le_of_ble_eq_true rfl) (Nat.le_of_ble_eq_true rfl) ?_
    exact W.iret (v := (0 : Int32)) hx hb hr (fun t ht hW9 => ⟨⟨(0 : Int32), (S, (vp_updL fo (0 : Int32).toNatClampNeg r2.toInt64)), rfl, t0, wx_end hP hKX hD ht hW9.alike⟩, hS.F ht⟩) hS.2.2 dL_mate_19 hlocks
set_option maxHeartbeats 4000000 in
set_option maxRecDepth 100000 in
theorem c_L_separate (l : Launch) (hst : l.stackTraces = false) {e0 mi : Nat} {D : va_G} {cy : Nat → ClassId} {c8 c9 : ClassId} (qo qd : Nat) (fo : Nat → Int64) (fd : Nat → UInt64) (S : wPS) (sz : Nat) (o1 : Nat) (h_o1 : isA S o1 9) (x1 : Int32) (hW : wtB S []) : Met l yL_separate wsL_separate ({ frames := 8, cells := 3, slots := 18, locals := 126 }) (va_Pc [.ref o1, .int x1, .ref qo] (fun U => U.heap.size = sz ∧ WX D cy c8 c9 (XO c8 c9 qo qd fo fd) (fun _ => True) S U ∧ NW U ∧ TH (va_A (XO c8 c9 qo qd fo fd ++ PL cy S) sz) U ∧ OU e0 mi (va_A (XO c8 c9 qo qd fo fd ++ PL cy S) sz) U U.heap ∧ NC U)) (va_Qi (fun (r : Int32) (u : wPS × (Nat → Int64)) => stp [(2, 19)] [] [] S u.1) (fun u t => WX D cy c8 c9 (XO c8 c9 qo qd u.2 fd) (va_A (XO c8 c9 qo qd fo fd ++ PL cy S) sz) u.1 t) (va_A (XO c8 c9 qo qd fo fd ++ PL cy S) sz)) 3 18 (va_A (XO c8 c9 qo qd fo fd ++ PL cy S) sz) := by
  refine Met.ofWH (cc := cL_separate) (maxL := 4) (ret := (some .int)) (by decide) rfl ?_
  intro p e s m args below meth c s₁ B hml hv
  obtain ⟨rfl, hsz, ⟨hP, hKX, hD0⟩, hN, hTH, hOU, hNC⟩ := hv
  have hx := B.exec
  have hb := B.bytes
  have hr := B.returns
  have hts := atoms_spec (ws := wsL_separate) B.pre
  have hown : s.vm.findClass RL = some m.cls := findClass_of_methodNamed (x := yL_separate) B.named
  have hlocks := B.notSynchronized
  have htab := vx_table (x := yL_separate) B (hts (.codeWith yL_separate cL_separate 4 (some .int) [(0, 9, 12, 21), (0, 9, 15, 23)]) List.mem_cons_self)
  have hK := kX hKX
  subst hsz
  have hD := hD0.self (sz := s.heap.size)
  generalize hAe : va_A (XO c8 c9 qo qd fo fd ++ PL cy S) s.heap.size = A at hD hTH hOU ⊢
  generalize hXe : XO c8 c9 qo qd fo fd = X at hP hD
  have hA : ∀ q : Nat, s.heap.size ≤ q → A q := fun q h => by rw [← hAe]; exact Or.inr h
  have hS : va_S A s.heap s.heap [] := va_S.rf
  have hl := lv_entry ([.ref o1, .int x1, .ref qo]) (n := 4) (Nat.le_of_ble_eq_true rfl)
  rw [lg_entry_eq]
  generalize (lg_sl ([.ref o1, .int x1, .ref qo]) ++ List.replicate (4 - (lg_sl ([.ref o1, .int x1, .ref qo])).length) Slot.unset).toArray = ls at hl ⊢
  have hl : lv_has ls 4 [(0, .ref o1), (1, .int x1), (2, .ref qo)] := hl
  have t0 : stp [(2, 19)] [] [] S S := stp.rf hW
  refine lv_aload_n hx hb dL_separate_0 rfl (lv_at hl 2 rfl) ?_
  refine lv_iconst (v := 0) hx hb dL_separate_1 (by decide) ?_
  refine lv_aload_n hx hb dL_separate_2 rfl (lv_at hl 0 rfl) ?_
  refine lv_iload_n hx hb dL_separate_3 rfl (lv_at hl 1 rfl) ?_
  have hFc := free_all hD hS hA
  obtain ⟨k1, gk1, hk1⟩ := wGt (cy := cy) X S h_o1.1 h_o1.2.1
  refine vx_calli (vx_runV (As := [.int x1]) (rest := [.int (0 : Int32), .ref qo]) ⟨hx, hb, hml, hown, hts⟩ (c_X9_separate l hst (cy := cy) (X := X) (D := D) S _ o1 h_o1 x1 (hW)) (cwV 1 hts gL_separate_X9_separate rfl rfl rfl hd_X9_separate ⟨Nat.le_of_ble_eq_true rfl, Nat.le_of_ble_eq_true rfl⟩) (pVt (va_recv hK hP (q := (RX9, TX9, 11)) (ci := 13) (q0 := k1) rfl hk1) hP hK hD hN hTH hS hFc) rfl rfl hl.1 rfl (lv_room (Nat.le_of_ble_eq_true rfl)) dL_separate_4 ⟨Nat.le_of_ble_eq_true rfl, Nat.le_of_ble_eq_true rfl⟩) hS (fun q _ h => hFc q h) hFc (fun q _ h => hFc q h) (fun E ce q9 u t H1 locs ht hvm hw hB hz1 hk1 hS hq9 hce hcl => ?_) (fun r2 u t H1 locs ht hvm hw hB hz1 hk1 hS => ?_)
  · obtain ⟨c3, hEc3, hB2⟩ := hB
    obtain ⟨hP, hD⟩ := wd_post hFc ht hB2
    have t4 : stp [(2, 19)] [] [] S u := t0.tr hw (by decide) (fun _ q => absurd q List.not_mem_nil)
    have xe5 : ext S u := hw.x
    have hE9 := hEc3
    simp only [List.mem_cons, List.not_mem_nil, or_false] at hE9
    clear hEc3
    rcases hE9 with rfl | rfl
    · refine vx_catch (own := RL) (name := "java/lang/IndexOutOfBoundsException") hown [] ⟨0, 9, 12, 21⟩ [⟨0, 9, 15, 23⟩] (htab.trans rfl) (List.forall_mem_nil _) (by decide) (by decide) (hts (.classLink RL 21 "java/lang/IndexOutOfBoundsException") (by decide +kernel)) (va_Nw.use rfl (hTH.2.1 (.castable "java/lang/IndexOutOfBoundsException" "java/lang/IndexOutOfBoundsException") (by decide +kernel))) hq9 hce hcl ?_
      generalize H1 = H at hP hS ⊢
      refine lv_astore_n (lv' := [(3, .ref q9), (0, .ref o1), (1, .int x1), (2, .ref qo)]) hx hb dL_separate_12 rfl hl (by decide) rfl (fun ls hl => ?_)
      refine lv_iconst (v := 1) hx hb dL_separate_13 (by decide) ?_
      refine W.widen (k := 3) (n := 18) (Nat.le_of_ble_eq_true rfl) (Nat.le_of_ble_eq_true rfl) ?_
      subst hXe
      exact W.iret (v := (1 : Int32)) hx hb hr (fun t ht hW9 => ⟨⟨(1 : Int32), (u, fo), rfl, t4, wx_end hP hKX hD ht hW9.alike⟩, hS.F ht⟩) hS.2.2 dL_separate_14 hlocks
    · refine vx_catch (own := RL) (name := "java/lang/UnsupportedOperationException") hown [⟨0, 9, 12, 21⟩] ⟨0, 9, 15, 23⟩ [] (htab.trans rfl) (List.forall_mem_cons.mpr ⟨Or.inr ⟨by decide, "java/lang/IndexOutOfBoundsException", hts (.classLink RL 21 "java/lang/IndexOutOfBoundsException") (by decide +kernel), hNC ("java/lang/UnsupportedOperationException", "java/lang/IndexOutOfBoundsException") (by decide +kernel)⟩, (List.forall_mem_nil _)⟩) (by decide) (by decide) (hts (.classLink RL 23 "java/lang/UnsupportedOperationException") (by decide +kernel)) (va_Nw.use rfl (hTH.2.1 (.castable "java/lang/UnsupportedOperationException" "java/lang/UnsupportedOperationException") (by decide +kernel))) hq9 hce hcl ?_
      generalize H1 = H at hP hS ⊢
      refine lv_astore_n (lv' := [(3, .ref q9), (0, .ref o1), (1, .int x1), (2, .ref qo)]) hx hb dL_separate_15 rfl hl (by decide) rfl (fun ls hl => ?_)
      refine lv_iconst (v := 2) hx hb dL_separate_16 (by decide) ?_
      refine W.widen (k := 3) (n := 18) (Nat.le_of_ble_eq_true rfl) (Nat.le_of_ble_eq_true rfl) ?_
      subst hXe
      exact W.iret (v := (2 : Int32)) hx hb hr (fun t ht hW9 => ⟨⟨(2 : Int32), (u, fo), rfl, t4, wx_end hP hKX hD ht hW9.alike⟩, hS.F ht⟩) hS.2.2 dL_separate_17 hlocks
  · obtain ⟨c6, w7⟩ := hw
    obtain ⟨hP, hD⟩ := wd_post hFc ht hB
    generalize H1 = H at hP hS ⊢
    obtain ⟨S8, rfl⟩ : ∃ z, z = u := ⟨_, rfl⟩
    have t9 : stp [(2, 19)] [] [] S S8 := t0.tr w7 (by decide) (fun _ q => absurd q List.not_mem_nil)
    have xe10 : ext S S8 := w7.x
    refine lv_i2l hx hb dL_separate_7 rfl ?_
    subst hXe
    refine va_last hx hb hKX hP hD hS 0 8 rfl rfl (inb (m := 1) rfl (by decide) (by decide)) dL_separate_8 (fun H locs hP2 hD2 hS => ?_)
    have hP : va_P D vwCl ((XO c8 c9 qo qd (vp_updL fo (0 : Int32).toNatClampNeg r2.toInt64) fd) ++ PL cy S8) H := hP2
    have hD : va_D A ((XO c8 c9 qo qd (vp_updL fo (0 : Int32).toNatClampNeg r2.toInt64) fd) ++ PL cy S8) := hD2
    clear hP2 hD2
    refine lv_goto (tgt := 18) hx hb dL_separate_9 (by decide) ?_
    refine lv_iconst (v := 0) hx hb dL_separate_18 (by decide) ?_
    refine W.widen (k := 3) (n := 18) (Nat.le_of_ble_eq_true rfl) (Nat.le_of_ble_eq_true rfl) ?_
    exact W.iret (v := (0 : Int32)) hx hb hr (fun t ht hW9 => ⟨⟨(0 : Int32), (S8, (vp_updL fo (0 : Int32).toNatClampNeg r2.toInt64)), rfl, t9, wx_end hP hKX hD ht hW9.alike⟩, hS.F ht⟩) hS.2.2 dL_separate_19 hlocks
def wc_machine (E : String) : Int32 := if E = "java/lang/IllegalArgumentException" then 1 else if E = "java/lang/IllegalStateException" then 2 else (0 : Int32)
set_option maxHeartbeats 4000000 in
set_option maxRecDepth 100000 in
theorem c_L_machine (l : Launch) (hst : l.stackTraces = false) {e0 mi : Nat} {D : va_G} {cy : Nat → ClassId} {c8 c9 : ClassId} (qo qd : Nat) (fo : Nat → Int64) (fd : Nat → UInt64) (S : wPS) (sz : Nat) (o1 : Nat) (h_o1 : isA S o1 9) (x1 : Int32) (x2 : Int32) (hW : wtB S []) : Met l yL_machine wsL_machine ({ frames := 8, cells := 3, slots := 18, locals := 127 }) (va_Pc [.ref o1, .int x1, .int x2, .ref qo] (fun U => U.heap.size = sz ∧ WX D cy c8 c9 (XO c8 c9 qo qd fo fd) (fun _ => True) S U ∧ NW U ∧ TH (va_A (XO c8 c9 qo qd fo fd ++ PL cy S) sz) U ∧ OU e0 mi (va_A (XO c8 c9 qo qd fo fd ++ PL cy S) sz) U U.heap ∧ NC U)) (va_Qi (fun (r : Int32) (u : wPS × (Nat → Int64)) => stp [(9, 5), (21, 101)] [] [] S u.1 ∧ ((∃ v, f_X9_machine S o1 x1 x2 = .ok v ∧ r = 0 ∧ u.2 = vp_updL fo (0 : Int32).toNatClampNeg v.toInt64 ∧ (u.1.I o1 5).toInt = (S.I o1 5).toInt + 1 ∧ (∃ g : Nat, g ∉ S.L ∧ isA u.1 g 7 ∧ u.1.r (S.f o1 4) (S.I o1 5).toNatClampNeg = some g ∧ (∀ i : Nat, i ≠ (S.I o1 5).toNatClampNeg → u.1.r (S.f o1 4) i = S.r (S.f o1 4) i) ∧ u.1.I g 0 = x1 ∧ u.1.I g 1 = x2 ∧ u.1.I g 2 = (0 : Int32) ∧ u.1.I g 3 = (0 : Int32))) ∨ (∃ E, f_X9_machine S o1 x1 x2 = .error E ∧ r = wc_machine E ∧ u.2 = fo ∧ u.1 = S))) (fun u t => WX D cy c8 c9 (XO c8 c9 qo qd u.2 fd) (va_A (XO c8 c9 qo qd fo fd ++ PL cy S) sz) u.1 t) (va_A (XO c8 c9 qo qd fo fd ++ PL cy S) sz)) 3 18 (va_A (XO c8 c9 qo qd fo fd ++ PL cy S) sz) := by
  refine Met.ofWH (cc := cL_machine) (maxL := 5) (ret := (some .int)) (by decide) rfl ?_
  intro p e s m args below meth c s₁ B hml hv
  obtain ⟨rfl, hsz, ⟨hP, hKX, hD0⟩, hN, hTH, hOU, hNC⟩ := hv
  have hx := B.exec
  have hb := B.bytes
  have hr := B.returns
  have hts := atoms_spec (ws := wsL_machine) B.pre
  have hown : s.vm.findClass RL = some m.cls := findClass_of_methodNamed (x := yL_machine) B.named
  have hlocks := B.notSynchronized
  have htab := vx_table (x := yL_machine) B (hts (.codeWith yL_machine cL_machine 5 (some .int) [(0, 10, 13, 13), (0, 10, 17, 15)]) List.mem_cons_self)
  have hK := kX hKX
  subst hsz
  have hD := hD0.self (sz := s.heap.size)
  generalize hAe : va_A (XO c8 c9 qo qd fo fd ++ PL cy S) s.heap.size = A at hD hTH hOU ⊢
  generalize hXe : XO c8 c9 qo qd fo fd = X at hP hD
  have hA : ∀ q : Nat, s.heap.size ≤ q → A q := fun q h => by rw [← hAe]; exact Or.inr h
  have hS : va_S A s.heap s.heap [] := va_S.rf
  have hl := lv_entry ([.ref o1, .int x1, .int x2, .ref qo]) (n := 5) (Nat.le_of_ble_eq_true rfl)
  rw [lg_entry_eq]
  generalize (lg_sl ([.ref o1, .int x1, .int x2, .ref qo]) ++ List.replicate (5 - (lg_sl ([.ref o1, .int x1, .int x2, .ref qo])).length) Slot.unset).toArray = ls at hl ⊢
  have hl : lv_has ls 5 [(0, .ref o1), (1, .int x1), (2, .int x2), (3, .ref qo)] := hl
  have t0 : stp [(9, 5), (21, 101)] [] [] S S := stp.rf hW
  refine lv_aload_n hx hb dL_machine_0 rfl (lv_at hl 3 rfl) ?_
  refine lv_iconst (v := 0) hx hb dL_machine_1 (by decide) ?_
  refine lv_aload_n hx hb dL_machine_2 rfl (lv_at hl 0 rfl) ?_
  refine lv_iload_n hx hb dL_machine_3 rfl (lv_at hl 1 rfl) ?_
  refine lv_iload_n hx hb dL_machine_4 rfl (lv_at hl 2 rfl) ?_
  have hFc := free_all hD hS hA
  obtain ⟨k1, gk1, hk1⟩ := wGt (cy := cy) X S h_o1.1 h_o1.2.1
  refine vx_calli (vx_runV (As := [.int x1, .int x2]) (rest := [.int (0 : Int32), .ref qo]) ⟨hx, hb, hml, hown, hts⟩ (c_X9_machine l hst (cy := cy) (X := X) (D := D) S _ o1 h_o1 x1 x2 (hW)) (cwV 2 hts gL_machine_X9_machine rfl rfl rfl hd_X9_machine ⟨Nat.le_of_ble_eq_true rfl, Nat.le_of_ble_eq_true rfl⟩) (pVt (va_recv hK hP (q := (RX9, TX9, 11)) (ci := 13) (q0 := k1) rfl hk1) hP hK hD hN hTH hS hFc) rfl rfl hl.1 rfl (lv_room (Nat.le_of_ble_eq_true rfl)) dL_machine_5 ⟨Nat.le_of_ble_eq_true rfl, Nat.le_of_ble_eq_true rfl⟩) hS (fun q _ h => hFc q h) hFc (fun q _ h => hFc q h) (fun E ce q9 u t H1 locs ht hvm hw hB hz1 hk1 hS hq9 hce hcl => ?_) (fun r2 u t H1 locs ht hvm hw hB hz1 hk1 hS => ?_)
  · obtain ⟨c3, hEc3, hXc3, hB2⟩ := hB
    obtain ⟨hP, hD⟩ := wd_post hFc ht hB2
    have t4 : stp [(9, 5), (21, 101)] [] [] S u := t0.tr hw (by decide) (fun _ q => absurd q List.not_mem_nil)
    have xe5 : ext S u := hw.x
    have hE9 := hEc3
    simp only [List.mem_cons, List.not_mem_nil, or_false] at hE9
    clear hEc3
    rcases hE9 with rfl | rfl
    · refine vx_catch (own := RL) (name := "java/lang/IllegalArgumentException") hown [] ⟨0, 10, 13, 13⟩ [⟨0, 10, 17, 15⟩] (htab.trans rfl) (List.forall_mem_nil _) (by decide) (by decide) (hts (.classLink RL 13 "java/lang/IllegalArgumentException") (by decide +kernel)) (va_Nw.use rfl (hTH.2.1 (.castable "java/lang/IllegalArgumentException" "java/lang/IllegalArgumentException") (by decide +kernel))) hq9 hce hcl ?_
      generalize H1 = H at hP hS ⊢
      refine lv_astore (lv' := [(4, .ref q9), (0, .ref o1), (1, .int x1), (2, .int x2), (3, .ref qo)]) hx hb dL_machine_13 hl (by decide) rfl (fun ls hl => ?_)
      refine lv_iconst (v := 1) hx hb dL_machine_15 (by decide) ?_
      refine W.widen (k := 3) (n := 18) (Nat.le_of_ble_eq_true rfl) (Nat.le_of_ble_eq_true rfl) ?_
      subst hXe
      exact W.iret (v := (1 : Int32)) hx hb hr (fun t ht hW9 => ⟨⟨(1 : Int32), (u, fo), rfl, ⟨t4, Or.inr ⟨_, c3, (if_pos rfl).symm, rfl, hXc3⟩⟩, wx_end hP hKX hD ht hW9.alike⟩, hS.F ht⟩) hS.2.2 dL_machine_16 hlocks
    · refine vx_catch (own := RL) (name := "java/lang/IllegalStateException") hown [⟨0, 10, 13, 13⟩] ⟨0, 10, 17, 15⟩ [] (htab.trans rfl) (List.forall_mem_cons.mpr ⟨Or.inr ⟨by decide, "java/lang/IllegalArgumentException", hts (.classLink RL 13 "java/lang/IllegalArgumentException") (by decide +kernel), hNC ("java/lang/IllegalStateException", "java/lang/IllegalArgumentException") (by decide +kernel)⟩, (List.forall_mem_nil _)⟩) (by decide) (by decide) (hts (.classLink RL 15 "java/lang/IllegalStateException") (by decide +kernel)) (va_Nw.use rfl (hTH.2.1 (.castable "java/lang/IllegalStateException" "java/lang/IllegalStateException") (by decide +kernel))) hq9 hce hcl ?_
      generalize H1 = H at hP hS ⊢
      refine lv_astore (lv' := [(4, .ref q9), (0, .ref o1), (1, .int x1), (2, .int x2), (3, .ref qo)]) hx hb dL_machine_17 hl (by decide) rfl (fun ls hl => ?_)
      refine lv_iconst (v := 2) hx hb dL_machine_19 (by decide) ?_
      refine W.widen (k := 3) (n := 18) (Nat.le_of_ble_eq_true rfl) (Nat.le_of_ble_eq_true rfl) ?_
      subst hXe
      exact W.iret (v := (2 : Int32)) hx hb hr (fun t ht hW9 => ⟨⟨(2 : Int32), (u, fo), rfl, ⟨t4, Or.inr ⟨_, c3, ((if_neg (by decide)).trans (if_pos rfl)).symm, rfl, hXc3⟩⟩, wx_end hP hKX hD ht hW9.alike⟩, hS.F ht⟩) hS.2.2 dL_machine_20 hlocks
  · obtain ⟨c6, w7, y8, y9⟩ := hw
    obtain ⟨hP, hD⟩ := wd_post hFc ht hB
    generalize H1 = H at hP hS ⊢
    obtain ⟨S10, rfl⟩ : ∃ z, z = u := ⟨_, rfl⟩
    have t11 : stp [(9, 5), (21, 101)] [] [] S S10 := t0.tr w7 (by decide) (fun _ q => absurd q List.not_mem_nil)
    have xe12 : ext S S10 := w7.x
    refine lv_i2l hx hb dL_machine_8 rfl ?_
    subst hXe
    refine va_last hx hb hKX hP hD hS 0 8 rfl rfl (inb (m := 1) rfl (by decide) (by decide)) dL_machine_9 (fun H locs hP2 hD2 hS => ?_)
    have hP : va_P D vwCl ((XO c8 c9 qo qd (vp_updL fo (0 : Int32).toNatClampNeg r2.toInt64) fd) ++ PL cy S10) H := hP2
    have hD : va_D A ((XO c8 c9 qo qd (vp_updL fo (0 : Int32).toNatClampNeg r2.toInt64) fd) ++ PL cy S10) := hD2
    clear hP2 hD2
    refine lv_goto (tgt := 21) hx hb dL_machine_10 (by decide) ?_
    refine lv_iconst (v := 0) hx hb dL_machine_21 (by decide) ?_
    refine W.widen (k := 3) (n := 18) (Nat.le_of_ble_eq_true rfl) (Nat.le_of_ble_eq_true rfl) ?_
    exact W.iret (v := (0 : Int32)) hx hb hr (fun t ht hW9 => ⟨⟨(0 : Int32), (S10, (vp_updL fo (0 : Int32).toNatClampNeg r2.toInt64)), rfl, ⟨t11, Or.inl ⟨_, c6, rfl, rfl, y8, y9⟩⟩, wx_end hP hKX hD ht hW9.alike⟩, hS.F ht⟩) hS.2.2 dL_machine_22 hlocks
def wc_toolsAt (E : String) : Int32 := if E = "java/lang/IndexOutOfBoundsException" then 1 else if E = "java/lang/IllegalArgumentException" then 2 else (0 : Int32)
set_option maxHeartbeats 4000000 in
set_option maxRecDepth 100000 in
theorem c_L_toolsAt (l : Launch) (hst : l.stackTraces = false) {e0 mi : Nat} {D : va_G} {cy : Nat → ClassId} {c8 c9 : ClassId} (qo qd : Nat) (fo : Nat → Int64) (fd : Nat → UInt64) (S : wPS) (sz : Nat) (o1 : Nat) (h_o1 : isA S o1 9) (x1 : Int32) (x2 : Int32) (hW : wtB S []) : Met l yL_toolsAt wsL_toolsAt ({ frames := 8, cells := 1, slots := 6, locals := 127 }) (va_Pc [.ref o1, .int x1, .int x2, .ref qo] (fun U => U.heap.size = sz ∧ WX D cy c8 c9 (XO c8 c9 qo qd fo fd) (fun _ => True) S U ∧ NW U ∧ TH (va_A (XO c8 c9 qo qd fo fd ++ PL cy S) sz) U ∧ OU e0 mi (va_A (XO c8 c9 qo qd fo fd ++ PL cy S) sz) U U.heap ∧ NC U)) (va_Qi (fun (r : Int32) (u : wPS × (Nat → Int64)) => stp [(7, 2)] [] [] S u.1 ∧ ((∃ v, f_X9_toolsAt S o1 x1 x2 = .ok (v, u.1) ∧ r = 0 ∧ u.2 = vp_updL fo (0 : Int32).toNatClampNeg v.toInt64) ∨ (∃ E, f_X9_toolsAt S o1 x1 x2 = .error E ∧ r = wc_toolsAt E ∧ u.2 = fo ∧ u.1 = S))) (fun u t => WX D cy c8 c9 (XO c8 c9 qo qd u.2 fd) (va_A (XO c8 c9 qo qd fo fd ++ PL cy S) sz) u.1 t) (va_A (XO c8 c9 qo qd fo fd ++ PL cy S) sz)) 1 6 (va_A (XO c8 c9 qo qd fo fd ++ PL cy S) sz) := by
  refine Met.ofWH (cc := cL_toolsAt) (maxL := 5) (ret := (some .int)) (by decide) rfl ?_
  intro p e s m args below meth c s₁ B hml hv
  obtain ⟨rfl, hsz, ⟨hP, hKX, hD0⟩, hN, hTH, hOU, hNC⟩ := hv
  have hx := B.exec
  have hb := B.bytes
  have hr := B.returns
  have hts := atoms_spec (ws := wsL_toolsAt) B.pre
  have hown : s.vm.findClass RL = some m.cls := findClass_of_methodNamed (x := yL_toolsAt) B.named
  have hlocks := B.notSynchronized
  have htab := vx_table (x := yL_toolsAt) B (hts (.codeWith yL_toolsAt cL_toolsAt 5 (some .int) [(0, 10, 13, 21), (0, 10, 17, 13)]) List.mem_cons_self)
  have hK := kX hKX
  subst hsz
  have hD := hD0.self (sz := s.heap.size)
  generalize hAe : va_A (XO c8 c9 qo qd fo fd ++ PL cy S) s.heap.size = A at hD hTH hOU ⊢
  generalize hXe : XO c8 c9 qo qd fo fd = X at hP hD
  have hA : ∀ q : Nat, s.heap.size ≤ q → A q := fun q h => by rw [← hAe]; exact Or.inr h
  have hS : va_S A s.heap s.heap [] := va_S.rf
  have hl := lv_entry ([.ref o1, .int x1, .int x2, .ref qo]) (n := 5) (Nat.le_of_ble_eq_true rfl)
  rw [lg_entry_eq]
  generalize (lg_sl ([.ref o1, .int x1, .int x2, .ref qo]) ++ List.replicate (5 - (lg_sl ([.ref o1, .int x1, .int x2, .ref qo])).length) Slot.unset).toArray = ls at hl ⊢
  have hl : lv_has ls 5 [(0, .ref o1), (1, .int x1), (2, .int x2), (3, .ref qo)] := hl
  have t0 : stp [(7, 2)] [] [] S S := stp.rf hW
  refine lv_aload_n hx hb dL_toolsAt_0 rfl (lv_at hl 3 rfl) ?_
  refine lv_iconst (v := 0) hx hb dL_toolsAt_1 (by decide) ?_
  refine lv_aload_n hx hb dL_toolsAt_2 rfl (lv_at hl 0 rfl) ?_
  refine lv_iload_n hx hb dL_toolsAt_3 rfl (lv_at hl 1 rfl) ?_
  refine lv_iload_n hx hb dL_toolsAt_4 rfl (lv_at hl 2 rfl) ?_
  have hFc := free_all hD hS hA
  obtain ⟨k1, gk1, hk1⟩ := wGt (cy := cy) X S h_o1.1 h_o1.2.1
  refine vx_calli (vx_runV (As := [.int x1, .int x2]) (rest := [.int (0 : Int32), .ref qo]) ⟨hx, hb, hml, hown, hts⟩ (c_X9_toolsAt l hst (cy := cy) (X := X) (D := D) S _ o1 h_o1 x1 x2 (hW)) (cwV 2 hts gL_toolsAt_X9_toolsAt rfl rfl rfl hd_X9_toolsAt ⟨Nat.le_of_ble_eq_true rfl, Nat.le_of_ble_eq_true rfl⟩) (pVt (va_recv hK hP (q := (RX9, TX9, 11)) (ci := 13) (q0 := k1) rfl hk1) hP hK hD hN hTH hS hFc) rfl rfl hl.1 rfl (lv_room (Nat.le_of_ble_eq_true rfl)) dL_toolsAt_5 ⟨Nat.le_of_ble_eq_true rfl, Nat.le_of_ble_eq_true rfl⟩) hS (fun q _ h => hFc q h) hFc (fun q _ h => hFc q h) (fun E ce q9 u t H1 locs ht hvm hw hB hz1 hk1 hS hq9 hce hcl => ?_) (fun r2 u t H1 locs ht hvm hw hB hz1 hk1 hS => ?_)
  · obtain ⟨c3, hEc3, hXc3, hB2⟩ := hB
    obtain ⟨hP, hD⟩ := wd_post hFc ht hB2
    have t4 : stp [(7, 2)] [] [] S u := t0.tr hw (by decide) (fun _ q => absurd q List.not_mem_nil)
    have xe5 : ext S u := hw.x
    have hE9 := hEc3
    simp only [List.mem_cons, List.not_mem_nil, or_false] at hE9
    clear hEc3
    rcases hE9 with rfl | rfl
    · refine vx_catch (own := RL) (name := "java/lang/IllegalArgumentException") hown [⟨0, 10, 13, 21⟩] ⟨0, 10, 17, 13⟩ [] (htab.trans rfl) (List.forall_mem_cons.mpr ⟨Or.inr ⟨by decide, "java/lang/IndexOutOfBoundsException", hts (.classLink RL 21 "java/lang/IndexOutOfBoundsException") (by decide +kernel), hNC ("java/lang/IllegalArgumentException", "java/lang/IndexOutOfBoundsException") (by decide +kernel)⟩, (List.forall_mem_nil _)⟩) (by decide) (by decide) (hts (.classLink RL 13 "java/lang/IllegalArgumentException") (by decide +kernel)) (va_Nw.use rfl (hTH.2.1 (.castable "java/lang/IllegalArgumentException" "java/lang/IllegalArgumentException") (by decide +kernel))) hq9 hce hcl ?_
      generalize H1 = H at hP hS ⊢
      refine lv_astore (lv' := [(4, .ref q9), (0, .ref o1), (1, .int x1), (2, .int x2), (3, .ref qo)]) hx hb dL_toolsAt_17 hl (by decide) rfl (fun ls hl => ?_)
      refine lv_iconst (v := 2) hx hb dL_toolsAt_19 (by decide) ?_
      refine W.widen (k := 1) (n := 6) (Nat.le_of_ble_eq_true rfl) (Nat.le_of_ble_eq_true rfl) ?_
      subst hXe
      exact W.iret (v := (2 : Int32)) hx hb hr (fun t ht hW9 => ⟨⟨(2 : Int32), (u, fo), rfl, ⟨t4, Or.inr ⟨_, c3, ((if_neg (by decide)).trans (if_pos rfl)).symm, rfl, hXc3⟩⟩, wx_end hP hKX hD ht hW9.alike⟩, hS.F ht⟩) hS.2.2 dL_toolsAt_20 hlocks
    · refine vx_catch (own := RL) (name := "java/lang/IndexOutOfBoundsException") hown [] ⟨0, 10, 13, 21⟩ [⟨0, 10, 17, 13⟩] (htab.trans rfl) (List.forall_mem_nil _) (by decide) (by decide) (hts (.classLink RL 21 "java/lang/IndexOutOfBoundsException") (by decide +kernel)) (va_Nw.use rfl (hTH.2.1 (.castable "java/lang/IndexOutOfBoundsException" "java/lang/IndexOutOfBoundsException") (by decide +kernel))) hq9 hce hcl ?_
      generalize H1 = H at hP hS ⊢
      refine lv_astore (lv' := [(4, .ref q9), (0, .ref o1), (1, .int x1), (2, .int x2), (3, .ref qo)]) hx hb dL_toolsAt_13 hl (by decide) rfl (fun ls hl => ?_)
      refine lv_iconst (v := 1) hx hb dL_toolsAt_15 (by decide) ?_
      refine W.widen (k := 1) (n := 6) (Nat.le_of_ble_eq_true rfl) (Nat.le_of_ble_eq_true rfl) ?_
      subst hXe
      exact W.iret (v := (1 : Int32)) hx hb hr (fun t ht hW9 => ⟨⟨(1 : Int32), (u, fo), rfl, ⟨t4, Or.inr ⟨_, c3, (if_pos rfl).symm, rfl, hXc3⟩⟩, wx_end hP hKX hD ht hW9.alike⟩, hS.F ht⟩) hS.2.2 dL_toolsAt_16 hlocks
  · obtain ⟨c6, w7⟩ := hw
    obtain ⟨hP, hD⟩ := wd_post hFc ht hB
    generalize H1 = H at hP hS ⊢
    obtain ⟨S8, rfl⟩ : ∃ z, z = u := ⟨_, rfl⟩
    have t9 : stp [(7, 2)] [] [] S S8 := t0.tr w7 (by decide) (fun _ q => absurd q List.not_mem_nil)
    have xe10 : ext S S8 := w7.x
    refine lv_i2l hx hb dL_toolsAt_8 rfl ?_
    subst hXe
    refine va_last hx hb hKX hP hD hS 0 8 rfl rfl (inb (m := 1) rfl (by decide) (by decide)) dL_toolsAt_9 (fun H locs hP2 hD2 hS => ?_)
    have hP : va_P D vwCl ((XO c8 c9 qo qd (vp_updL fo (0 : Int32).toNatClampNeg r2.toInt64) fd) ++ PL cy S8) H := hP2
    have hD : va_D A ((XO c8 c9 qo qd (vp_updL fo (0 : Int32).toNatClampNeg r2.toInt64) fd) ++ PL cy S8) := hD2
    clear hP2 hD2
    refine lv_goto (tgt := 21) hx hb dL_toolsAt_10 (by decide) ?_
    refine lv_iconst (v := 0) hx hb dL_toolsAt_21 (by decide) ?_
    refine W.widen (k := 1) (n := 6) (Nat.le_of_ble_eq_true rfl) (Nat.le_of_ble_eq_true rfl) ?_
    exact W.iret (v := (0 : Int32)) hx hb hr (fun t ht hW9 => ⟨⟨(0 : Int32), (S8, (vp_updL fo (0 : Int32).toNatClampNeg r2.toInt64)), rfl, ⟨t9, Or.inl ⟨_, c6, rfl, rfl⟩⟩, wx_end hP hKX hD ht hW9.alike⟩, hS.F ht⟩) hS.2.2 dL_toolsAt_22 hlocks
def wc_route (E : String) : Int32 := if E = "java/lang/IndexOutOfBoundsException" then 1 else if E = "java/lang/IllegalArgumentException" then 2 else if E = "java/lang/IllegalStateException" then 3 else (0 : Int32)
set_option maxHeartbeats 4000000 in
set_option maxRecDepth 100000 in
theorem c_L_route (l : Launch) (hst : l.stackTraces = false) {e0 mi : Nat} {D : va_G} {cy : Nat → ClassId} {c8 c9 : ClassId} (qo qd : Nat) (fo : Nat → Int64) (fd : Nat → UInt64) (S : wPS) (sz : Nat) (o1 : Nat) (h_o1 : isA S o1 9) (x1 : Int32) (x2 : Int32) (hW : wtB S []) : Met l yL_route wsL_route ({ frames := 8, cells := 3, slots := 18, locals := 126 }) (va_Pc [.ref o1, .int x1, .int x2, .ref qo] (fun U => U.heap.size = sz ∧ WX D cy c8 c9 (XO c8 c9 qo qd fo fd) (fun _ => True) S U ∧ NW U ∧ TH (va_A (XO c8 c9 qo qd fo fd ++ PL cy S) sz) U ∧ OU e0 mi (va_A (XO c8 c9 qo qd fo fd ++ PL cy S) sz) U U.heap ∧ NC U)) (va_Qi (fun (r : Int32) (u : wPS × (Nat → Int64)) => stp [(13, 3), (15, 100)] [] [] S u.1 ∧ ((∃ v, f_X9_route S o1 x1 x2 = .ok (v, u.1) ∧ r = 0 ∧ u.2 = vp_updL fo (0 : Int32).toNatClampNeg v.toInt64) ∨ (∃ E, f_X9_route S o1 x1 x2 = .error E ∧ r = wc_route E ∧ u.2 = fo ∧ u.1 = S))) (fun u t => WX D cy c8 c9 (XO c8 c9 qo qd u.2 fd) (va_A (XO c8 c9 qo qd fo fd ++ PL cy S) sz) u.1 t) (va_A (XO c8 c9 qo qd fo fd ++ PL cy S) sz)) 3 18 (va_A (XO c8 c9 qo qd fo fd ++ PL cy S) sz) := by
  refine Met.ofWH (cc := cL_route) (maxL := 5) (ret := (some .int)) (by decide) rfl ?_
  intro p e s m args below meth c s₁ B hml hv
  obtain ⟨rfl, hsz, ⟨hP, hKX, hD0⟩, hN, hTH, hOU, hNC⟩ := hv
  have hx := B.exec
  have hb := B.bytes
  have hr := B.returns
  have hts := atoms_spec (ws := wsL_route) B.pre
  have hown : s.vm.findClass RL = some m.cls := findClass_of_methodNamed (x := yL_route) B.named
  have hlocks := B.notSynchronized
  have htab := vx_table (x := yL_route) B (hts (.codeWith yL_route cL_route 5 (some .int) [(0, 10, 13, 21), (0, 10, 17, 13), (0, 10, 21, 15)]) List.mem_cons_self)
  have hK := kX hKX
  subst hsz
  have hD := hD0.self (sz := s.heap.size)
  generalize hAe : va_A (XO c8 c9 qo qd fo fd ++ PL cy S) s.heap.size = A at hD hTH hOU ⊢
  generalize hXe : XO c8 c9 qo qd fo fd = X at hP hD
  have hA : ∀ q : Nat, s.heap.size ≤ q → A q := fun q h => by rw [← hAe]; exact Or.inr h
  have hS : va_S A s.heap s.heap [] := va_S.rf
  have hl := lv_entry ([.ref o1, .int x1, .int x2, .ref qo]) (n := 5) (Nat.le_of_ble_eq_true rfl)
  rw [lg_entry_eq]
  generalize (lg_sl ([.ref o1, .int x1, .int x2, .ref qo]) ++ List.replicate (5 - (lg_sl ([.ref o1, .int x1, .int x2, .ref qo])).length) Slot.unset).toArray = ls at hl ⊢
  have hl : lv_has ls 5 [(0, .ref o1), (1, .int x1), (2, .int x2), (3, .ref qo)] := hl
  have t0 : stp [(13, 3), (15, 100)] [] [] S S := stp.rf hW
  refine lv_aload_n hx hb dL_route_0 rfl (lv_at hl 3 rfl) ?_
  refine lv_iconst (v := 0) hx hb dL_route_1 (by decide) ?_
  refine lv_aload_n hx hb dL_route_2 rfl (lv_at hl 0 rfl) ?_
  refine lv_iload_n hx hb dL_route_3 rfl (lv_at hl 1 rfl) ?_
  refine lv_iload_n hx hb dL_route_4 rfl (lv_at hl 2 rfl) ?_
  have hFc := free_all hD hS hA
  obtain ⟨k1, gk1, hk1⟩ := wGt (cy := cy) X S h_o1.1 h_o1.2.1
  refine vx_calli (vx_runV (As := [.int x1, .int x2]) (rest := [.int (0 : Int32), .ref qo]) ⟨hx, hb, hml, hown, hts⟩ (c_X9_route l hst (e0 := e0) (mi := mi) (cy := cy) (X := X) (D := D) S _ o1 h_o1 x1 x2 (hW)) (cwV 2 hts gL_route_X9_route rfl rfl rfl hd_X9_route ⟨Nat.le_of_ble_eq_true rfl, Nat.le_of_ble_eq_true rfl⟩) (pVto (va_recv hK hP (q := (RX9, TX9, 11)) (ci := 13) (q0 := k1) rfl hk1) hP hK hD hN hTH hOU hS hFc) rfl rfl hl.1 rfl (lv_room (Nat.le_of_ble_eq_true rfl)) dL_route_5 ⟨Nat.le_of_ble_eq_true rfl, Nat.le_of_ble_eq_true rfl⟩) hS (fun q _ h => hFc q h) hFc (fun q _ h => hFc q h) (fun E ce q9 u t H1 locs ht hvm hw hB hz1 hk1 hS hq9 hce hcl => ?_) (fun r2 u t H1 locs ht hvm hw hB hz1 hk1 hS => ?_)
  · obtain ⟨c3, hEc3, hXc3, hB2⟩ := hB
    obtain ⟨hP, hD⟩ := wd_post hFc ht hB2
    have t4 : stp [(13, 3), (15, 100)] [] [] S u := t0.tr hw (by decide) (fun _ q => absurd q List.not_mem_nil)
    have xe5 : ext S u := hw.x
    have hE9 := hEc3
    simp only [List.mem_cons, List.not_mem_nil, or_false] at hE9
    clear hEc3
    rcases hE9 with rfl | rfl | rfl
    · refine vx_catch (own := RL) (name := "java/lang/IllegalArgumentException") hown [⟨0, 10, 13, 21⟩] ⟨0, 10, 17, 13⟩ [⟨0, 10, 21, 15⟩] (htab.trans rfl) (List.forall_mem_cons.mpr ⟨Or.inr ⟨by decide, "java/lang/IndexOutOfBoundsException", hts (.classLink RL 21 "java/lang/IndexOutOfBoundsException") (by decide +kernel), hNC ("java/lang/IllegalArgumentException", "java/lang/IndexOutOfBoundsException") (by decide +kernel)⟩, (List.forall_mem_nil _)⟩) (by decide) (by decide) (hts (.classLink RL 13 "java/lang/IllegalArgumentException") (by decide +kernel)) (va_Nw.use rfl (hTH.2.1 (.castable "java/lang/IllegalArgumentException" "java/lang/IllegalArgumentException") (by decide +kernel))) hq9 hce hcl ?_
      generalize H1 = H at hP hS ⊢
      refine lv_astore (lv' := [(4, .ref q9), (0, .ref o1), (1, .int x1), (2, .int x2), (3, .ref qo)]) hx hb dL_route_17 hl (by decide) rfl (fun ls hl => ?_)
      refine lv_iconst (v := 2) hx hb dL_route_19 (by decide) ?_
      refine W.widen (k := 3) (n := 18) (Nat.le_of_ble_eq_true rfl) (Nat.le_of_ble_eq_true rfl) ?_
      subst hXe
      exact W.iret (v := (2 : Int32)) hx hb hr (fun t ht hW9 => ⟨⟨(2 : Int32), (u, fo), rfl, ⟨t4, Or.inr ⟨_, c3, ((if_neg (by decide)).trans (if_pos rfl)).symm, rfl, hXc3⟩⟩, wx_end hP hKX hD ht hW9.alike⟩, hS.F ht⟩) hS.2.2 dL_route_20 hlocks
    · refine vx_catch (own := RL) (name := "java/lang/IllegalStateException") hown [⟨0, 10, 13, 21⟩, ⟨0, 10, 17, 13⟩] ⟨0, 10, 21, 15⟩ [] (htab.trans rfl) (List.forall_mem_cons.mpr ⟨Or.inr ⟨by decide, "java/lang/IndexOutOfBoundsException", hts (.classLink RL 21 "java/lang/IndexOutOfBoundsException") (by decide +kernel), hNC ("java/lang/IllegalStateException", "java/lang/IndexOutOfBoundsException") (by decide +kernel)⟩, (List.forall_mem_cons.mpr ⟨Or.inr ⟨by decide, "java/lang/IllegalArgumentException", hts (.classLink RL 13 "java/lang/IllegalArgumentException") (by decide +kernel), hNC ("java/lang/IllegalStateException", "java/lang/IllegalArgumentException") (by decide +kernel)⟩, (List.forall_mem_nil _)⟩)⟩) (by decide) (by decide) (hts (.classLink RL 15 "java/lang/IllegalStateException") (by decide +kernel)) (va_Nw.use rfl (hTH.2.1 (.castable "java/lang/IllegalStateException" "java/lang/IllegalStateException") (by decide +kernel))) hq9 hce hcl ?_
      generalize H1 = H at hP hS ⊢
      refine lv_astore (lv' := [(4, .ref q9), (0, .ref o1), (1, .int x1), (2, .int x2), (3, .ref qo)]) hx hb dL_route_21 hl (by decide) rfl (fun ls hl => ?_)
      refine lv_iconst (v := 3) hx hb dL_route_23 (by decide) ?_
      refine W.widen (k := 3) (n := 18) (Nat.le_of_ble_eq_true rfl) (Nat.le_of_ble_eq_true rfl) ?_
      subst hXe
      exact W.iret (v := (3 : Int32)) hx hb hr (fun t ht hW9 => ⟨⟨(3 : Int32), (u, fo), rfl, ⟨t4, Or.inr ⟨_, c3, ((if_neg (by decide)).trans ((if_neg (by decide)).trans (if_pos rfl))).symm, rfl, hXc3⟩⟩, wx_end hP hKX hD ht hW9.alike⟩, hS.F ht⟩) hS.2.2 dL_route_24 hlocks
    · refine vx_catch (own := RL) (name := "java/lang/IndexOutOfBoundsException") hown [] ⟨0, 10, 13, 21⟩ [⟨0, 10, 17, 13⟩, ⟨0, 10, 21, 15⟩] (htab.trans rfl) (List.forall_mem_nil _) (by decide) (by decide) (hts (.classLink RL 21 "java/lang/IndexOutOfBoundsException") (by decide +kernel)) (va_Nw.use rfl (hTH.2.1 (.castable "java/lang/IndexOutOfBoundsException" "java/lang/IndexOutOfBoundsException") (by decide +kernel))) hq9 hce hcl ?_
      generalize H1 = H at hP hS ⊢
      refine lv_astore (lv' := [(4, .ref q9), (0, .ref o1), (1, .int x1), (2, .int x2), (3, .ref qo)]) hx hb dL_route_13 hl (by decide) rfl (fun ls hl => ?_)
      refine lv_iconst (v := 1) hx hb dL_route_15 (by decide) ?_
      refine W.widen (k := 3) (n := 18) (Nat.le_of_ble_eq_true rfl) (Nat.le_of_ble_eq_true rfl) ?_
      subst hXe
      exact W.iret (v := (1 : Int32)) hx hb hr (fun t ht hW9 => ⟨⟨(1 : Int32), (u, fo), rfl, ⟨t4, Or.inr ⟨_, c3, (if_pos rfl).symm, rfl, hXc3⟩⟩, wx_end hP hKX hD ht hW9.alike⟩, hS.F ht⟩) hS.2.2 dL_route_16 hlocks
  · obtain ⟨c6, w7⟩ := hw
    obtain ⟨hP, hD⟩ := wd_post hFc ht hB
    generalize H1 = H at hP hS ⊢
    obtain ⟨S8, rfl⟩ : ∃ z, z = u := ⟨_, rfl⟩
    have t9 : stp [(13, 3), (15, 100)] [] [] S S8 := t0.tr w7 (by decide) (fun _ q => absurd q List.not_mem_nil)
    have xe10 : ext S S8 := w7.x
    refine lv_i2l hx hb dL_route_8 rfl ?_
    subst hXe
    refine va_last hx hb hKX hP hD hS 0 8 rfl rfl (inb (m := 1) rfl (by decide) (by decide)) dL_route_9 (fun H locs hP2 hD2 hS => ?_)
    have hP : va_P D vwCl ((XO c8 c9 qo qd (vp_updL fo (0 : Int32).toNatClampNeg r2.toInt64) fd) ++ PL cy S8) H := hP2
    have hD : va_D A ((XO c8 c9 qo qd (vp_updL fo (0 : Int32).toNatClampNeg r2.toInt64) fd) ++ PL cy S8) := hD2
    clear hP2 hD2
    refine lv_goto (tgt := 25) hx hb dL_route_10 (by decide) ?_
    refine lv_iconst (v := 0) hx hb dL_route_25 (by decide) ?_
    refine W.widen (k := 3) (n := 18) (Nat.le_of_ble_eq_true rfl) (Nat.le_of_ble_eq_true rfl) ?_
    exact W.iret (v := (0 : Int32)) hx hb hr (fun t ht hW9 => ⟨⟨(0 : Int32), (S8, (vp_updL fo (0 : Int32).toNatClampNeg r2.toInt64)), rfl, ⟨t9, Or.inl ⟨_, c6, rfl, rfl⟩⟩, wx_end hP hKX hD ht hW9.alike⟩, hS.F ht⟩) hS.2.2 dL_route_26 hlocks
def wc_doneAt (E : String) : Int32 := if E = "java/lang/IndexOutOfBoundsException" then 1 else if E = "java/util/NoSuchElementException" then 2 else (0 : Int32)
set_option maxHeartbeats 4000000 in
set_option maxRecDepth 100000 in
theorem c_L_doneAt (l : Launch) (hst : l.stackTraces = false) {e0 mi : Nat} {D : va_G} {cy : Nat → ClassId} {c8 c9 : ClassId} (qo qd : Nat) (fo : Nat → Int64) (fd : Nat → UInt64) (S : wPS) (sz : Nat) (o1 : Nat) (h_o1 : isA S o1 9) (x1 : Int32) (hW : wtB S []) : Met l yL_doneAt wsL_doneAt ({ frames := 8, cells := 2, slots := 12, locals := 136 }) (va_Pc [.ref o1, .int x1, .ref qo] (fun U => U.heap.size = sz ∧ WX D cy c8 c9 (XO c8 c9 qo qd fo fd) (fun _ => True) S U ∧ NW U ∧ TH (va_A (XO c8 c9 qo qd fo fd ++ PL cy S) sz) U ∧ OU e0 mi (va_A (XO c8 c9 qo qd fo fd ++ PL cy S) sz) U U.heap ∧ NC U)) (va_Qi (fun (r : Int32) (u : wPS × (Nat → Int64)) => stp [(7, 3)] [] [] S u.1 ∧ ((∃ v, f_X9_doneAt S o1 x1 = .ok (v, u.1) ∧ r = 0 ∧ u.2 = vp_updL fo (0 : Int32).toNatClampNeg v.toInt64) ∨ (∃ E, f_X9_doneAt S o1 x1 = .error E ∧ r = wc_doneAt E ∧ u.2 = fo ∧ u.1 = S))) (fun u t => WX D cy c8 c9 (XO c8 c9 qo qd u.2 fd) (va_A (XO c8 c9 qo qd fo fd ++ PL cy S) sz) u.1 t) (va_A (XO c8 c9 qo qd fo fd ++ PL cy S) sz)) 2 12 (va_A (XO c8 c9 qo qd fo fd ++ PL cy S) sz) := by
  refine Met.ofWH (cc := cL_doneAt) (maxL := 4) (ret := (some .int)) (by decide) rfl ?_
  intro p e s m args below meth c s₁ B hml hv
  obtain ⟨rfl, hsz, ⟨hP, hKX, hD0⟩, hN, hTH, hOU, hNC⟩ := hv
  have hx := B.exec
  have hb := B.bytes
  have hr := B.returns
  have hts := atoms_spec (ws := wsL_doneAt) B.pre
  have hown : s.vm.findClass RL = some m.cls := findClass_of_methodNamed (x := yL_doneAt) B.named
  have hlocks := B.notSynchronized
  have htab := vx_table (x := yL_doneAt) B (hts (.codeWith yL_doneAt cL_doneAt 4 (some .int) [(0, 9, 12, 21), (0, 9, 15, 62)]) List.mem_cons_self)
  have hK := kX hKX
  subst hsz
  have hD := hD0.self (sz := s.heap.size)
  generalize hAe : va_A (XO c8 c9 qo qd fo fd ++ PL cy S) s.heap.size = A at hD hTH hOU ⊢
  generalize hXe : XO c8 c9 qo qd fo fd = X at hP hD
  have hA : ∀ q : Nat, s.heap.size ≤ q → A q := fun q h => by rw [← hAe]; exact Or.inr h
  have hS : va_S A s.heap s.heap [] := va_S.rf
  have hl := lv_entry ([.ref o1, .int x1, .ref qo]) (n := 4) (Nat.le_of_ble_eq_true rfl)
  rw [lg_entry_eq]
  generalize (lg_sl ([.ref o1, .int x1, .ref qo]) ++ List.replicate (4 - (lg_sl ([.ref o1, .int x1, .ref qo])).length) Slot.unset).toArray = ls at hl ⊢
  have hl : lv_has ls 4 [(0, .ref o1), (1, .int x1), (2, .ref qo)] := hl
  have t0 : stp [(7, 3)] [] [] S S := stp.rf hW
  refine lv_aload_n hx hb dL_doneAt_0 rfl (lv_at hl 2 rfl) ?_
  refine lv_iconst (v := 0) hx hb dL_doneAt_1 (by decide) ?_
  refine lv_aload_n hx hb dL_doneAt_2 rfl (lv_at hl 0 rfl) ?_
  refine lv_iload_n hx hb dL_doneAt_3 rfl (lv_at hl 1 rfl) ?_
  have hFc := free_all hD hS hA
  obtain ⟨k1, gk1, hk1⟩ := wGt (cy := cy) X S h_o1.1 h_o1.2.1
  refine vx_calli (vx_runV (As := [.int x1]) (rest := [.int (0 : Int32), .ref qo]) ⟨hx, hb, hml, hown, hts⟩ (c_X9_doneAt l hst (e0 := e0) (mi := mi) (cy := cy) (X := X) (D := D) S _ o1 h_o1 x1 (hW)) (cwV 1 hts gL_doneAt_X9_doneAt rfl rfl rfl hd_X9_doneAt ⟨Nat.le_of_ble_eq_true rfl, Nat.le_of_ble_eq_true rfl⟩) (pVto (va_recv hK hP (q := (RX9, TX9, 11)) (ci := 13) (q0 := k1) rfl hk1) hP hK hD hN hTH hOU hS hFc) rfl rfl hl.1 rfl (lv_room (Nat.le_of_ble_eq_true rfl)) dL_doneAt_4 ⟨Nat.le_of_ble_eq_true rfl, Nat.le_of_ble_eq_true rfl⟩) hS (fun q _ h => hFc q h) hFc (fun q _ h => hFc q h) (fun E ce q9 u t H1 locs ht hvm hw hB hz1 hk1 hS hq9 hce hcl => ?_) (fun r2 u t H1 locs ht hvm hw hB hz1 hk1 hS => ?_)
  · obtain ⟨c3, hEc3, hXc3, hB2⟩ := hB
    obtain ⟨hP, hD⟩ := wd_post hFc ht hB2
    have t4 : stp [(7, 3)] [] [] S u := t0.tr hw (by decide) (fun _ q => absurd q List.not_mem_nil)
    have xe5 : ext S u := hw.x
    have hE9 := hEc3
    simp only [List.mem_cons, List.not_mem_nil, or_false] at hE9
    clear hEc3
    rcases hE9 with rfl | rfl
    · refine vx_catch (own := RL) (name := "java/lang/IndexOutOfBoundsException") hown [] ⟨0, 9, 12, 21⟩ [⟨0, 9, 15, 62⟩] (htab.trans rfl) (List.forall_mem_nil _) (by decide) (by decide) (hts (.classLink RL 21 "java/lang/IndexOutOfBoundsException") (by decide +kernel)) (va_Nw.use rfl (hTH.2.1 (.castable "java/lang/IndexOutOfBoundsException" "java/lang/IndexOutOfBoundsException") (by decide +kernel))) hq9 hce hcl ?_
      generalize H1 = H at hP hS ⊢
      refine lv_astore_n (lv' := [(3, .ref q9), (0, .ref o1), (1, .int x1), (2, .ref qo)]) hx hb dL_doneAt_12 rfl hl (by decide) rfl (fun ls hl => ?_)
      refine lv_iconst (v := 1) hx hb dL_doneAt_13 (by decide) ?_
      refine W.widen (k := 2) (n := 12) (Nat.le_of_ble_eq_true rfl) (Nat.le_of_ble_eq_true rfl) ?_
      subst hXe
      exact W.iret (v := (1 : Int32)) hx hb hr (fun t ht hW9 => ⟨⟨(1 : Int32), (u, fo), rfl, ⟨t4, Or.inr ⟨_, c3, (if_pos rfl).symm, rfl, hXc3⟩⟩, wx_end hP hKX hD ht hW9.alike⟩, hS.F ht⟩) hS.2.2 dL_doneAt_14 hlocks
    · refine vx_catch (own := RL) (name := "java/util/NoSuchElementException") hown [⟨0, 9, 12, 21⟩] ⟨0, 9, 15, 62⟩ [] (htab.trans rfl) (List.forall_mem_cons.mpr ⟨Or.inr ⟨by decide, "java/lang/IndexOutOfBoundsException", hts (.classLink RL 21 "java/lang/IndexOutOfBoundsException") (by decide +kernel), hNC ("java/util/NoSuchElementException", "java/lang/IndexOutOfBoundsException") (by decide +kernel)⟩, (List.forall_mem_nil _)⟩) (by decide) (by decide) (hts (.classLink RL 62 "java/util/NoSuchElementException") (by decide +kernel)) (va_Nw.use rfl (hTH.2.1 (.castable "java/util/NoSuchElementException" "java/util/NoSuchElementException") (by decide +kernel))) hq9 hce hcl ?_
      generalize H1 = H at hP hS ⊢
      refine lv_astore_n (lv' := [(3, .ref q9), (0, .ref o1), (1, .int x1), (2, .ref qo)]) hx hb dL_doneAt_15 rfl hl (by decide) rfl (fun ls hl => ?_)
      refine lv_iconst (v := 2) hx hb dL_doneAt_16 (by decide) ?_
      refine W.widen (k := 2) (n := 12) (Nat.le_of_ble_eq_true rfl) (Nat.le_of_ble_eq_true rfl) ?_
      subst hXe
      exact W.iret (v := (2 : Int32)) hx hb hr (fun t ht hW9 => ⟨⟨(2 : Int32), (u, fo), rfl, ⟨t4, Or.inr ⟨_, c3, ((if_neg (by decide)).trans (if_pos rfl)).symm, rfl, hXc3⟩⟩, wx_end hP hKX hD ht hW9.alike⟩, hS.F ht⟩) hS.2.2 dL_doneAt_17 hlocks
  · obtain ⟨c6, w7⟩ := hw
    obtain ⟨hP, hD⟩ := wd_post hFc ht hB
    generalize H1 = H at hP hS ⊢
    obtain ⟨S8, rfl⟩ : ∃ z, z = u := ⟨_, rfl⟩
    have t9 : stp [(7, 3)] [] [] S S8 := t0.tr w7 (by decide) (fun _ q => absurd q List.not_mem_nil)
    have xe10 : ext S S8 := w7.x
    refine lv_i2l hx hb dL_doneAt_7 rfl ?_
    subst hXe
    refine va_last hx hb hKX hP hD hS 0 8 rfl rfl (inb (m := 1) rfl (by decide) (by decide)) dL_doneAt_8 (fun H locs hP2 hD2 hS => ?_)
    have hP : va_P D vwCl ((XO c8 c9 qo qd (vp_updL fo (0 : Int32).toNatClampNeg r2.toInt64) fd) ++ PL cy S8) H := hP2
    have hD : va_D A ((XO c8 c9 qo qd (vp_updL fo (0 : Int32).toNatClampNeg r2.toInt64) fd) ++ PL cy S8) := hD2
    clear hP2 hD2
    refine lv_goto (tgt := 18) hx hb dL_doneAt_9 (by decide) ?_
    refine lv_iconst (v := 0) hx hb dL_doneAt_18 (by decide) ?_
    refine W.widen (k := 2) (n := 12) (Nat.le_of_ble_eq_true rfl) (Nat.le_of_ble_eq_true rfl) ?_
    exact W.iret (v := (0 : Int32)) hx hb hr (fun t ht hW9 => ⟨⟨(0 : Int32), (S8, (vp_updL fo (0 : Int32).toNatClampNeg r2.toInt64)), rfl, ⟨t9, Or.inl ⟨_, c6, rfl, rfl⟩⟩, wx_end hP hKX hD ht hW9.alike⟩, hS.F ht⟩) hS.2.2 dL_doneAt_19 hlocks
set_option maxHeartbeats 4000000 in
set_option maxRecDepth 100000 in
theorem c_L_oldModule (l : Launch) (hst : l.stackTraces = false) {e0 mi : Nat} {D : va_G} {cy : Nat → ClassId} {c8 c9 : ClassId} (qo qd : Nat) (fo : Nat → Int64) (fd : Nat → UInt64) (S : wPS) (sz : Nat) (o1 : Nat) (h_o1 : isA S o1 9) (x1 : Int32) (x2 : Int32) (x3 : Int32) (hW : wtB S []) : Met l yL_oldModule wsL_oldModule ({ frames := 10, cells := 5, slots := 30, locals := 170 }) (va_Pc [.ref o1, .int x1, .int x2, .int x3, .ref qo] (fun U => U.heap.size = sz ∧ WX D cy c8 c9 (XO c8 c9 qo qd fo fd) (fun _ => True) S U ∧ NW U ∧ TH (va_A (XO c8 c9 qo qd fo fd ++ PL cy S) sz) U ∧ OU e0 mi (va_A (XO c8 c9 qo qd fo fd ++ PL cy S) sz) U U.heap ∧ NC U)) (va_Qi (fun (r : Int32) (u : wPS × (Nat → Int64)) => stp [(5, 3), (5, 4), (5, 5)] [] [] S u.1) (fun u t => WX D cy c8 c9 (XO c8 c9 qo qd u.2 fd) (va_A (XO c8 c9 qo qd fo fd ++ PL cy S) sz) u.1 t) (va_A (XO c8 c9 qo qd fo fd ++ PL cy S) sz)) 5 30 (va_A (XO c8 c9 qo qd fo fd ++ PL cy S) sz) := by
  refine Met.ofWH (cc := cL_oldModule) (maxL := 6) (ret := (some .int)) (by decide) rfl ?_
  intro p e s m args below meth c s₁ B hml hv
  obtain ⟨rfl, hsz, ⟨hP, hKX, hD0⟩, hN, hTH, hOU, hNC⟩ := hv
  have hx := B.exec
  have hb := B.bytes
  have hr := B.returns
  have hts := atoms_spec (ws := wsL_oldModule) B.pre
  have hown : s.vm.findClass RL = some m.cls := findClass_of_methodNamed (x := yL_oldModule) B.named
  have hlocks := B.notSynchronized
  have htab := vx_table (x := yL_oldModule) B (hts (.codeWith yL_oldModule cL_oldModule 6 (some .int) [(0, 12, 15, 13), (0, 12, 19, 62)]) List.mem_cons_self)
  have hK := kX hKX
  subst hsz
  have hD := hD0.self (sz := s.heap.size)
  generalize hAe : va_A (XO c8 c9 qo qd fo fd ++ PL cy S) s.heap.size = A at hD hTH hOU ⊢
  generalize hXe : XO c8 c9 qo qd fo fd = X at hP hD
  have hA : ∀ q : Nat, s.heap.size ≤ q → A q := fun q h => by rw [← hAe]; exact Or.inr h
  have hS : va_S A s.heap s.heap [] := va_S.rf
  have hl := lv_entry ([.ref o1, .int x1, .int x2, .int x3, .ref qo]) (n := 6) (Nat.le_of_ble_eq_true rfl)
  rw [lg_entry_eq]
  generalize (lg_sl ([.ref o1, .int x1, .int x2, .int x3, .ref qo]) ++ List.replicate (6 - (lg_sl ([.ref o1, .int x1, .int x2, .int x3, .ref qo])).length) Slot.unset).toArray = ls at hl ⊢
  have hl : lv_has ls 6 [(0, .ref o1), (1, .int x1), (2, .int x2), (3, .int x3), (4, .ref qo)] := hl
  have t0 : stp [(5, 3), (5, 4), (5, 5)] [] [] S S := stp.rf hW
  refine lv_aload hx hb dL_oldModule_0 (lv_at hl 4 rfl) ?_
  refine lv_iconst (v := 0) hx hb dL_oldModule_2 (by decide) ?_
  refine lv_aload_n hx hb dL_oldModule_3 rfl (lv_at hl 0 rfl) ?_
  refine lv_iload_n hx hb dL_oldModule_4 rfl (lv_at hl 1 rfl) ?_
  refine lv_iload_n hx hb dL_oldModule_5 rfl (lv_at hl 2 rfl) ?_
  refine lv_iload_n hx hb dL_oldModule_6 rfl (lv_at hl 3 rfl) ?_
  have hFc := free_all hD hS hA
  obtain ⟨k1, gk1, hk1⟩ := wGt (cy := cy) X S h_o1.1 h_o1.2.1
  refine vx_calli (vx_runV (As := [.int x1, .int x2, .int x3]) (rest := [.int (0 : Int32), .ref qo]) ⟨hx, hb, hml, hown, hts⟩ (c_X9_oldModule l hst (cy := cy) (X := X) (D := D) S _ o1 h_o1 x1 x2 x3 (hW)) (cwV 3 hts gL_oldModule_X9_oldModule rfl rfl rfl hd_X9_oldModule ⟨Nat.le_of_ble_eq_true rfl, Nat.le_of_ble_eq_true rfl⟩) (pVt (va_recv hK hP (q := (RX9, TX9, 11)) (ci := 13) (q0 := k1) rfl hk1) hP hK hD hN hTH hS hFc) rfl rfl hl.1 rfl (lv_room (Nat.le_of_ble_eq_true rfl)) dL_oldModule_7 ⟨Nat.le_of_ble_eq_true rfl, Nat.le_of_ble_eq_true rfl⟩) hS (fun q _ h => hFc q h) hFc (fun q _ h => hFc q h) (fun E ce q9 u t H1 locs ht hvm hw hB hz1 hk1 hS hq9 hce hcl => ?_) (fun r2 u t H1 locs ht hvm hw hB hz1 hk1 hS => ?_)
  · obtain ⟨hEc3, hB2⟩ := hB
    obtain ⟨hP, hD⟩ := wd_post hFc ht hB2
    have t4 : stp [(5, 3), (5, 4), (5, 5)] [] [] S u := t0.tr hw (by decide) (fun _ q => absurd q List.not_mem_nil)
    have xe5 : ext S u := hw.x
    have hE9 := hEc3
    simp only [List.mem_cons, List.not_mem_nil, or_false] at hE9
    clear hEc3
    rcases hE9 with rfl | rfl
    · refine vx_catch (own := RL) (name := "java/lang/IllegalArgumentException") hown [] ⟨0, 12, 15, 13⟩ [⟨0, 12, 19, 62⟩] (htab.trans rfl) (List.forall_mem_nil _) (by decide) (by decide) (hts (.classLink RL 13 "java/lang/IllegalArgumentException") (by decide +kernel)) (va_Nw.use rfl (hTH.2.1 (.castable "java/lang/IllegalArgumentException" "java/lang/IllegalArgumentException") (by decide +kernel))) hq9 hce hcl ?_
      generalize H1 = H at hP hS ⊢
      refine lv_astore (lv' := [(5, .ref q9), (0, .ref o1), (1, .int x1), (2, .int x2), (3, .int x3), (4, .ref qo)]) hx hb dL_oldModule_15 hl (by decide) rfl (fun ls hl => ?_)
      refine lv_iconst (v := 1) hx hb dL_oldModule_17 (by decide) ?_
      refine W.widen (k := 5) (n := 30) (Nat.le_of_ble_eq_true rfl) (Nat.le_of_ble_eq_true rfl) ?_
      subst hXe
      exact W.iret (v := (1 : Int32)) hx hb hr (fun t ht hW9 => ⟨⟨(1 : Int32), (u, fo), rfl, t4, wx_end hP hKX hD ht hW9.alike⟩, hS.F ht⟩) hS.2.2 dL_oldModule_18 hlocks
    · refine vx_catch (own := RL) (name := "java/util/NoSuchElementException") hown [⟨0, 12, 15, 13⟩] ⟨0, 12, 19, 62⟩ [] (htab.trans rfl) (List.forall_mem_cons.mpr ⟨Or.inr ⟨by decide, "java/lang/IllegalArgumentException", hts (.classLink RL 13 "java/lang/IllegalArgumentException") (by decide +kernel), hNC ("java/util/NoSuchElementException", "java/lang/IllegalArgumentException") (by decide +kernel)⟩, (List.forall_mem_nil _)⟩) (by decide) (by decide) (hts (.classLink RL 62 "java/util/NoSuchElementException") (by decide +kernel)) (va_Nw.use rfl (hTH.2.1 (.castable "java/util/NoSuchElementException" "java/util/NoSuchElementException") (by decide +kernel))) hq9 hce hcl ?_
      generalize H1 = H at hP hS ⊢
      refine lv_astore (lv' := [(5, .ref q9), (0, .ref o1), (1, .int x1), (2, .int x2), (3, .int x3), (4, .ref qo)]) hx hb dL_oldModule_19 hl (by decide) rfl (fun ls hl => ?_)
      refine lv_iconst (v := 2) hx hb dL_oldModule_21 (by decide) ?_
      refine W.widen (k := 5) (n := 30) (Nat.le_of_ble_eq_true rfl) (Nat.le_of_ble_eq_true rfl) ?_
      subst hXe
      exact W.iret (v := (2 : Int32)) hx hb hr (fun t ht hW9 => ⟨⟨(2 : Int32), (u, fo), rfl, t4, wx_end hP hKX hD ht hW9.alike⟩, hS.F ht⟩) hS.2.2 dL_oldModule_22 hlocks
  · have w6 := hw
    obtain ⟨hP, hD⟩ := wd_post hFc ht hB
    generalize H1 = H at hP hS ⊢
    obtain ⟨S7, rfl⟩ : ∃ z, z = u := ⟨_, rfl⟩
    have t8 : stp [(5, 3), (5, 4), (5, 5)] [] [] S S7 := t0.tr w6 (by decide) (fun _ q => absurd q List.not_mem_nil)
    have xe9 : ext S S7 := w6.x
    refine lv_i2l hx hb dL_oldModule_10 rfl ?_
    subst hXe
    refine va_last hx hb hKX hP hD hS 0 8 rfl rfl (inb (m := 1) rfl (by decide) (by decide)) dL_oldModule_11 (fun H locs hP2 hD2 hS => ?_)
    have hP : va_P D vwCl ((XO c8 c9 qo qd (vp_updL fo (0 : Int32).toNatClampNeg r2.toInt64) fd) ++ PL cy S7) H := hP2
    have hD : va_D A ((XO c8 c9 qo qd (vp_updL fo (0 : Int32).toNatClampNeg r2.toInt64) fd) ++ PL cy S7) := hD2
    clear hP2 hD2
    refine lv_goto (tgt := 23) hx hb dL_oldModule_12 (by decide) ?_
    refine lv_iconst (v := 0) hx hb dL_oldModule_23 (by decide) ?_
    refine W.widen (k := 5) (n := 30) (Nat.le_of_ble_eq_true rfl) (Nat.le_of_ble_eq_true rfl) ?_
    exact W.iret (v := (0 : Int32)) hx hb hr (fun t ht hW9 => ⟨⟨(0 : Int32), (S7, (vp_updL fo (0 : Int32).toNatClampNeg r2.toInt64)), rfl, t8, wx_end hP hKX hD ht hW9.alike⟩, hS.F ht⟩) hS.2.2 dL_oldModule_24 hlocks
set_option maxHeartbeats 4000000 in
set_option maxRecDepth 100000 in
theorem c_L_oldShift (l : Launch) (hst : l.stackTraces = false) {e0 mi : Nat} {D : va_G} {cy : Nat → ClassId} {c8 c9 : ClassId} (qo qd : Nat) (fo : Nat → Int64) (fd : Nat → UInt64) (S : wPS) (sz : Nat) (o1 : Nat) (h_o1 : isA S o1 9) (x1 : Int32) (x2 : Int32) (x3 : Int32) (hW : wtB S []) : Met l yL_oldShift wsL_oldShift ({ frames := 10, cells := 5, slots := 30, locals := 170 }) (va_Pc [.ref o1, .int x1, .int x2, .int x3, .ref qo] (fun U => U.heap.size = sz ∧ WX D cy c8 c9 (XO c8 c9 qo qd fo fd) (fun _ => True) S U ∧ NW U ∧ TH (va_A (XO c8 c9 qo qd fo fd ++ PL cy S) sz) U ∧ OU e0 mi (va_A (XO c8 c9 qo qd fo fd ++ PL cy S) sz) U U.heap ∧ NC U)) (va_Qi (fun (r : Int32) (u : wPS × (Nat → Int64)) => stp [(5, 3), (5, 4), (5, 5)] [] [] S u.1) (fun u t => WX D cy c8 c9 (XO c8 c9 qo qd u.2 fd) (va_A (XO c8 c9 qo qd fo fd ++ PL cy S) sz) u.1 t) (va_A (XO c8 c9 qo qd fo fd ++ PL cy S) sz)) 5 30 (va_A (XO c8 c9 qo qd fo fd ++ PL cy S) sz) := by
  refine Met.ofWH (cc := cL_oldShift) (maxL := 6) (ret := (some .int)) (by decide) rfl ?_
  intro p e s m args below meth c s₁ B hml hv
  obtain ⟨rfl, hsz, ⟨hP, hKX, hD0⟩, hN, hTH, hOU, hNC⟩ := hv
  have hx := B.exec
  have hb := B.bytes
  have hr := B.returns
  have hts := atoms_spec (ws := wsL_oldShift) B.pre
  have hown : s.vm.findClass RL = some m.cls := findClass_of_methodNamed (x := yL_oldShift) B.named
  have hlocks := B.notSynchronized
  have htab := vx_table (x := yL_oldShift) B (hts (.codeWith yL_oldShift cL_oldShift 6 (some .int) [(0, 12, 15, 13), (0, 12, 19, 62)]) List.mem_cons_self)
  have hK := kX hKX
  subst hsz
  have hD := hD0.self (sz := s.heap.size)
  generalize hAe : va_A (XO c8 c9 qo qd fo fd ++ PL cy S) s.heap.size = A at hD hTH hOU ⊢
  generalize hXe : XO c8 c9 qo qd fo fd = X at hP hD
  have hA : ∀ q : Nat, s.heap.size ≤ q → A q := fun q h => by rw [← hAe]; exact Or.inr h
  have hS : va_S A s.heap s.heap [] := va_S.rf
  have hl := lv_entry ([.ref o1, .int x1, .int x2, .int x3, .ref qo]) (n := 6) (Nat.le_of_ble_eq_true rfl)
  rw [lg_entry_eq]
  generalize (lg_sl ([.ref o1, .int x1, .int x2, .int x3, .ref qo]) ++ List.replicate (6 - (lg_sl ([.ref o1, .int x1, .int x2, .int x3, .ref qo])).length) Slot.unset).toArray = ls at hl ⊢
  have hl : lv_has ls 6 [(0, .ref o1), (1, .int x1), (2, .int x2), (3, .int x3), (4, .ref qo)] := hl
  have t0 : stp [(5, 3), (5, 4), (5, 5)] [] [] S S := stp.rf hW
  refine lv_aload hx hb dL_oldShift_0 (lv_at hl 4 rfl) ?_
  refine lv_iconst (v := 0) hx hb dL_oldShift_2 (by decide) ?_
  refine lv_aload_n hx hb dL_oldShift_3 rfl (lv_at hl 0 rfl) ?_
  refine lv_iload_n hx hb dL_oldShift_4 rfl (lv_at hl 1 rfl) ?_
  refine lv_iload_n hx hb dL_oldShift_5 rfl (lv_at hl 2 rfl) ?_
  refine lv_iload_n hx hb dL_oldShift_6 rfl (lv_at hl 3 rfl) ?_
  have hFc := free_all hD hS hA
  obtain ⟨k1, gk1, hk1⟩ := wGt (cy := cy) X S h_o1.1 h_o1.2.1
  refine vx_calli (vx_runV (As := [.int x1, .int x2, .int x3]) (rest := [.int (0 : Int32), .ref qo]) ⟨hx, hb, hml, hown, hts⟩ (c_X9_oldShift l hst (cy := cy) (X := X) (D := D) S _ o1 h_o1 x1 x2 x3 (hW)) (cwV 3 hts gL_oldShift_X9_oldShift rfl rfl rfl hd_X9_oldShift ⟨Nat.le_of_ble_eq_true rfl, Nat.le_of_ble_eq_true rfl⟩) (pVt (va_recv hK hP (q := (RX9, TX9, 11)) (ci := 13) (q0 := k1) rfl hk1) hP hK hD hN hTH hS hFc) rfl rfl hl.1 rfl (lv_room (Nat.le_of_ble_eq_true rfl)) dL_oldShift_7 ⟨Nat.le_of_ble_eq_true rfl, Nat.le_of_ble_eq_true rfl⟩) hS (fun q _ h => hFc q h) hFc (fun q _ h => hFc q h) (fun E ce q9 u t H1 locs ht hvm hw hB hz1 hk1 hS hq9 hce hcl => ?_) (fun r2 u t H1 locs ht hvm hw hB hz1 hk1 hS => ?_)
  · obtain ⟨hEc3, hB2⟩ := hB
    obtain ⟨hP, hD⟩ := wd_post hFc ht hB2
    have t4 : stp [(5, 3), (5, 4), (5, 5)] [] [] S u := t0.tr hw (by decide) (fun _ q => absurd q List.not_mem_nil)
    have xe5 : ext S u := hw.x
    have hE9 := hEc3
    simp only [List.mem_cons, List.not_mem_nil, or_false] at hE9
    clear hEc3
    rcases hE9 with rfl | rfl
    · refine vx_catch (own := RL) (name := "java/lang/IllegalArgumentException") hown [] ⟨0, 12, 15, 13⟩ [⟨0, 12, 19, 62⟩] (htab.trans rfl) (List.forall_mem_nil _) (by decide) (by decide) (hts (.classLink RL 13 "java/lang/IllegalArgumentException") (by decide +kernel)) (va_Nw.use rfl (hTH.2.1 (.castable "java/lang/IllegalArgumentException" "java/lang/IllegalArgumentException") (by decide +kernel))) hq9 hce hcl ?_
      generalize H1 = H at hP hS ⊢
      refine lv_astore (lv' := [(5, .ref q9), (0, .ref o1), (1, .int x1), (2, .int x2), (3, .int x3), (4, .ref qo)]) hx hb dL_oldShift_15 hl (by decide) rfl (fun ls hl => ?_)
      refine lv_iconst (v := 1) hx hb dL_oldShift_17 (by decide) ?_
      refine W.widen (k := 5) (n := 30) (Nat.le_of_ble_eq_true rfl) (Nat.le_of_ble_eq_true rfl) ?_
      subst hXe
      exact W.iret (v := (1 : Int32)) hx hb hr (fun t ht hW9 => ⟨⟨(1 : Int32), (u, fo), rfl, t4, wx_end hP hKX hD ht hW9.alike⟩, hS.F ht⟩) hS.2.2 dL_oldShift_18 hlocks
    · refine vx_catch (own := RL) (name := "java/util/NoSuchElementException") hown [⟨0, 12, 15, 13⟩] ⟨0, 12, 19, 62⟩ [] (htab.trans rfl) (List.forall_mem_cons.mpr ⟨Or.inr ⟨by decide, "java/lang/IllegalArgumentException", hts (.classLink RL 13 "java/lang/IllegalArgumentException") (by decide +kernel), hNC ("java/util/NoSuchElementException", "java/lang/IllegalArgumentException") (by decide +kernel)⟩, (List.forall_mem_nil _)⟩) (by decide) (by decide) (hts (.classLink RL 62 "java/util/NoSuchElementException") (by decide +kernel)) (va_Nw.use rfl (hTH.2.1 (.castable "java/util/NoSuchElementException" "java/util/NoSuchElementException") (by decide +kernel))) hq9 hce hcl ?_
      generalize H1 = H at hP hS ⊢
      refine lv_astore (lv' := [(5, .ref q9), (0, .ref o1), (1, .int x1), (2, .int x2), (3, .int x3), (4, .ref qo)]) hx hb dL_oldShift_19 hl (by decide) rfl (fun ls hl => ?_)
      refine lv_iconst (v := 2) hx hb dL_oldShift_21 (by decide) ?_
      refine W.widen (k := 5) (n := 30) (Nat.le_of_ble_eq_true rfl) (Nat.le_of_ble_eq_true rfl) ?_
      subst hXe
      exact W.iret (v := (2 : Int32)) hx hb hr (fun t ht hW9 => ⟨⟨(2 : Int32), (u, fo), rfl, t4, wx_end hP hKX hD ht hW9.alike⟩, hS.F ht⟩) hS.2.2 dL_oldShift_22 hlocks
  · have w6 := hw
    obtain ⟨hP, hD⟩ := wd_post hFc ht hB
    generalize H1 = H at hP hS ⊢
    obtain ⟨S7, rfl⟩ : ∃ z, z = u := ⟨_, rfl⟩
    have t8 : stp [(5, 3), (5, 4), (5, 5)] [] [] S S7 := t0.tr w6 (by decide) (fun _ q => absurd q List.not_mem_nil)
    have xe9 : ext S S7 := w6.x
    refine lv_i2l hx hb dL_oldShift_10 rfl ?_
    subst hXe
    refine va_last hx hb hKX hP hD hS 0 8 rfl rfl (inb (m := 1) rfl (by decide) (by decide)) dL_oldShift_11 (fun H locs hP2 hD2 hS => ?_)
    have hP : va_P D vwCl ((XO c8 c9 qo qd (vp_updL fo (0 : Int32).toNatClampNeg r2.toInt64) fd) ++ PL cy S7) H := hP2
    have hD : va_D A ((XO c8 c9 qo qd (vp_updL fo (0 : Int32).toNatClampNeg r2.toInt64) fd) ++ PL cy S7) := hD2
    clear hP2 hD2
    refine lv_goto (tgt := 23) hx hb dL_oldShift_12 (by decide) ?_
    refine lv_iconst (v := 0) hx hb dL_oldShift_23 (by decide) ?_
    refine W.widen (k := 5) (n := 30) (Nat.le_of_ble_eq_true rfl) (Nat.le_of_ble_eq_true rfl) ?_
    exact W.iret (v := (0 : Int32)) hx hb hr (fun t ht hW9 => ⟨⟨(0 : Int32), (S7, (vp_updL fo (0 : Int32).toNatClampNeg r2.toInt64)), rfl, t8, wx_end hP hKX hD ht hW9.alike⟩, hS.F ht⟩) hS.2.2 dL_oldShift_24 hlocks
set_option maxHeartbeats 4000000 in
set_option maxRecDepth 100000 in
theorem c_L_cutShare (l : Launch) (hst : l.stackTraces = false) {e0 mi : Nat} {D : va_G} {cy : Nat → ClassId} {c8 c9 : ClassId} (qo qd : Nat) (fo : Nat → Int64) (fd : Nat → UInt64) (S : wPS) (sz : Nat) (o1 : Nat) (h_o1 : isA S o1 9)  (hW : wtB S []) : Met l yL_cutShare wsL_cutShare ({ frames := 8, cells := 1, slots := 6, locals := 124 }) (va_Pc [.ref o1, .ref qd] (fun U => U.heap.size = sz ∧ WX D cy c8 c9 (XO c8 c9 qo qd fo fd) (fun _ => True) S U ∧ NW U ∧ TH (va_A (XO c8 c9 qo qd fo fd ++ PL cy S) sz) U ∧ OU e0 mi (va_A (XO c8 c9 qo qd fo fd ++ PL cy S) sz) U U.heap ∧ NC U)) (va_Qi (fun (r : Int32) (u : wPS × (Nat → UInt64)) => stp ([] : List (Nat × Nat)) [] [] S u.1) (fun u t => WX D cy c8 c9 (XO c8 c9 qo qd fo u.2) (va_A (XO c8 c9 qo qd fo fd ++ PL cy S) sz) u.1 t) (va_A (XO c8 c9 qo qd fo fd ++ PL cy S) sz)) 1 6 (va_A (XO c8 c9 qo qd fo fd ++ PL cy S) sz) := by
  refine Met.ofWH (cc := cL_cutShare) (maxL := 3) (ret := (some .int)) (by decide) rfl ?_
  intro p e s m args below meth c s₁ B hml hv
  obtain ⟨rfl, hsz, ⟨hP, hKX, hD0⟩, hN, hTH, hOU, hNC⟩ := hv
  have hx := B.exec
  have hb := B.bytes
  have hr := B.returns
  have hts := atoms_spec (ws := wsL_cutShare) B.pre
  have hown : s.vm.findClass RL = some m.cls := findClass_of_methodNamed (x := yL_cutShare) B.named
  have hlocks := B.notSynchronized
  have htab := vx_table (x := yL_cutShare) B (hts (.codeWith yL_cutShare cL_cutShare 3 (some .int) [(0, 8, 11, 215)]) List.mem_cons_self)
  have hK := kX hKX
  subst hsz
  have hD := hD0.self (sz := s.heap.size)
  generalize hAe : va_A (XO c8 c9 qo qd fo fd ++ PL cy S) s.heap.size = A at hD hTH hOU ⊢
  generalize hXe : XO c8 c9 qo qd fo fd = X at hP hD
  have hA : ∀ q : Nat, s.heap.size ≤ q → A q := fun q h => by rw [← hAe]; exact Or.inr h
  have hS : va_S A s.heap s.heap [] := va_S.rf
  have hl := lv_entry ([.ref o1, .ref qd]) (n := 3) (Nat.le_of_ble_eq_true rfl)
  rw [lg_entry_eq]
  generalize (lg_sl ([.ref o1, .ref qd]) ++ List.replicate (3 - (lg_sl ([.ref o1, .ref qd])).length) Slot.unset).toArray = ls at hl ⊢
  have hl : lv_has ls 3 [(0, .ref o1), (1, .ref qd)] := hl
  have t0 : stp ([] : List (Nat × Nat)) [] [] S S := stp.rf hW
  refine lv_aload_n hx hb dL_cutShare_0 rfl (lv_at hl 1 rfl) ?_
  refine lv_iconst (v := 0) hx hb dL_cutShare_1 (by decide) ?_
  refine lv_aload_n hx hb dL_cutShare_2 rfl (lv_at hl 0 rfl) ?_
  have hFc := free_all hD hS hA
  obtain ⟨k1, gk1, hk1⟩ := wGt (cy := cy) X S h_o1.1 h_o1.2.1
  refine vx_callf (vx_runV (As := []) (rest := [.int (0 : Int32), .ref qd]) ⟨hx, hb, hml, hown, hts⟩ (c_X9_cutShare l hst (cy := cy) (X := X) (D := D) S _ o1 h_o1 (hW)) (cwV 0 hts gL_cutShare_X9_cutShare rfl rfl rfl hd_X9_cutShare ⟨Nat.le_of_ble_eq_true rfl, Nat.le_of_ble_eq_true rfl⟩) (pVt (va_recv hK hP (q := (RX9, TX9, 11)) (ci := 13) (q0 := k1) rfl hk1) hP hK hD hN hTH hS hFc) rfl rfl hl.1 rfl (lv_room (Nat.le_of_ble_eq_true rfl)) dL_cutShare_3 ⟨Nat.le_of_ble_eq_true rfl, Nat.le_of_ble_eq_true rfl⟩) hS (fun q _ h => hFc q h) hFc (fun q _ h => hFc q h) (fun E ce q9 u t H1 locs ht hvm hw hB hz1 hk1 hS hq9 hce hcl => ?_) (fun r2 u t H1 locs ht hvm hw hB hz1 hk1 hS => ?_)
  · obtain ⟨hEc3, hB2⟩ := hB
    obtain ⟨hP, hD⟩ := wd_post hFc ht hB2
    have hE9 := hEc3
    simp only [List.mem_cons, List.not_mem_nil, or_false] at hE9
    clear hEc3
    subst hE9
    refine vx_catch (own := RL) (name := "java/lang/ArithmeticException") hown [] ⟨0, 8, 11, 215⟩ [] (htab.trans rfl) (List.forall_mem_nil _) (by decide) (by decide) (hts (.classLink RL 215 "java/lang/ArithmeticException") (by decide +kernel)) (va_Nw.use rfl (hTH.2.1 (.castable "java/lang/ArithmeticException" "java/lang/ArithmeticException") (by decide +kernel))) hq9 hce hcl ?_
    generalize H1 = H at hP hS ⊢
    refine lv_astore_n (lv' := [(2, .ref q9), (0, .ref o1), (1, .ref qd)]) hx hb dL_cutShare_11 rfl hl (by decide) rfl (fun ls hl => ?_)
    refine lv_iconst (v := 1) hx hb dL_cutShare_12 (by decide) ?_
    refine W.widen (k := 1) (n := 6) (Nat.le_of_ble_eq_true rfl) (Nat.le_of_ble_eq_true rfl) ?_
    subst hXe
    exact W.iret (v := (1 : Int32)) hx hb hr (fun t ht hW9 => ⟨⟨(1 : Int32), (S, fd), rfl, t0, wx_end hP hKX hD ht hW9.alike⟩, hS.F ht⟩) hS.2.2 dL_cutShare_13 hlocks
  · have y4 := hw
    obtain ⟨hP, hD⟩ := wd_post hFc ht hB
    generalize H1 = H at hP hS ⊢
    refine lv_f2d hx hb dL_cutShare_6 y4 ?_
    subst hXe
    refine va_dast hx hb hKX hP hD hS 1 9 rfl rfl (inb (m := 1) rfl (by decide) (by decide)) dL_cutShare_7 (fun H locs hP2 hD2 hS => ?_)
    have hP : va_P D vwCl ((XO c8 c9 qo qd fo (vf_upd fd (0 : Int32).toNatClampNeg (FP.f2d r2))) ++ PL cy S) H := hP2
    have hD : va_D A ((XO c8 c9 qo qd fo (vf_upd fd (0 : Int32).toNatClampNeg (FP.f2d r2))) ++ PL cy S) := hD2
    clear hP2 hD2
    refine lv_goto (tgt := 14) hx hb dL_cutShare_8 (by decide) ?_
    refine lv_iconst (v := 0) hx hb dL_cutShare_14 (by decide) ?_
    refine W.widen (k := 1) (n := 6) (Nat.le_of_ble_eq_true rfl) (Nat.le_of_ble_eq_true rfl) ?_
    exact W.iret (v := (0 : Int32)) hx hb hr (fun t ht hW9 => ⟨⟨(0 : Int32), (S, (vf_upd fd (0 : Int32).toNatClampNeg (FP.f2d r2))), rfl, t0, wx_end hP hKX hD ht hW9.alike⟩, hS.F ht⟩) hS.2.2 dL_cutShare_15 hlocks
set_option maxHeartbeats 4000000 in
set_option maxRecDepth 100000 in
theorem c_L_meanGrade (l : Launch) (hst : l.stackTraces = false) {e0 mi : Nat} {D : va_G} {cy : Nat → ClassId} {c8 c9 : ClassId} (qo qd : Nat) (fo : Nat → Int64) (fd : Nat → UInt64) (S : wPS) (sz : Nat) (o1 : Nat) (h_o1 : isA S o1 9)  (hW : wtB S []) : Met l yL_meanGrade wsL_meanGrade ({ frames := 8, cells := 1, slots := 6, locals := 124 }) (va_Pc [.ref o1, .ref qd] (fun U => U.heap.size = sz ∧ WX D cy c8 c9 (XO c8 c9 qo qd fo fd) (fun _ => True) S U ∧ NW U ∧ TH (va_A (XO c8 c9 qo qd fo fd ++ PL cy S) sz) U ∧ OU e0 mi (va_A (XO c8 c9 qo qd fo fd ++ PL cy S) sz) U U.heap ∧ NC U)) (va_Qi (fun (r : Int32) (u : wPS × (Nat → UInt64)) => stp ([] : List (Nat × Nat)) [] [] S u.1) (fun u t => WX D cy c8 c9 (XO c8 c9 qo qd fo u.2) (va_A (XO c8 c9 qo qd fo fd ++ PL cy S) sz) u.1 t) (va_A (XO c8 c9 qo qd fo fd ++ PL cy S) sz)) 1 6 (va_A (XO c8 c9 qo qd fo fd ++ PL cy S) sz) := by
  refine Met.ofWH (cc := cL_meanGrade) (maxL := 3) (ret := (some .int)) (by decide) rfl ?_
  intro p e s m args below meth c s₁ B hml hv
  obtain ⟨rfl, hsz, ⟨hP, hKX, hD0⟩, hN, hTH, hOU, hNC⟩ := hv
  have hx := B.exec
  have hb := B.bytes
  have hr := B.returns
  have hts := atoms_spec (ws := wsL_meanGrade) B.pre
  have hown : s.vm.findClass RL = some m.cls := findClass_of_methodNamed (x := yL_meanGrade) B.named
  have hlocks := B.notSynchronized
  have htab := vx_table (x := yL_meanGrade) B (hts (.codeWith yL_meanGrade cL_meanGrade 3 (some .int) [(0, 7, 10, 215)]) List.mem_cons_self)
  have hK := kX hKX
  subst hsz
  have hD := hD0.self (sz := s.heap.size)
  generalize hAe : va_A (XO c8 c9 qo qd fo fd ++ PL cy S) s.heap.size = A at hD hTH hOU ⊢
  generalize hXe : XO c8 c9 qo qd fo fd = X at hP hD
  have hA : ∀ q : Nat, s.heap.size ≤ q → A q := fun q h => by rw [← hAe]; exact Or.inr h
  have hS : va_S A s.heap s.heap [] := va_S.rf
  have hl := lv_entry ([.ref o1, .ref qd]) (n := 3) (Nat.le_of_ble_eq_true rfl)
  rw [lg_entry_eq]
  generalize (lg_sl ([.ref o1, .ref qd]) ++ List.replicate (3 - (lg_sl ([.ref o1, .ref qd])).length) Slot.unset).toArray = ls at hl ⊢
  have hl : lv_has ls 3 [(0, .ref o1), (1, .ref qd)] := hl
  have t0 : stp ([] : List (Nat × Nat)) [] [] S S := stp.rf hW
  refine lv_aload_n hx hb dL_meanGrade_0 rfl (lv_at hl 1 rfl) ?_
  refine lv_iconst (v := 0) hx hb dL_meanGrade_1 (by decide) ?_
  refine lv_aload_n hx hb dL_meanGrade_2 rfl (lv_at hl 0 rfl) ?_
  have hFc := free_all hD hS hA
  obtain ⟨k1, gk1, hk1⟩ := wGt (cy := cy) X S h_o1.1 h_o1.2.1
  refine vx_calld (vx_runV (As := []) (rest := [.int (0 : Int32), .ref qd]) ⟨hx, hb, hml, hown, hts⟩ (c_X9_meanGrade l hst (e0 := e0) (mi := mi) (cy := cy) (X := X) (D := D) S _ o1 h_o1 (hW)) (cwV 0 hts gL_meanGrade_X9_meanGrade rfl rfl rfl hd_X9_meanGrade ⟨Nat.le_of_ble_eq_true rfl, Nat.le_of_ble_eq_true rfl⟩) (pVto (va_recv hK hP (q := (RX9, TX9, 11)) (ci := 13) (q0 := k1) rfl hk1) hP hK hD hN hTH hOU hS hFc) rfl rfl hl.1 rfl (lv_room (Nat.le_of_ble_eq_true rfl)) dL_meanGrade_3 ⟨Nat.le_of_ble_eq_true rfl, Nat.le_of_ble_eq_true rfl⟩) hS (fun q _ h => hFc q h) hFc (fun q _ h => hFc q h) (fun E ce q9 u t H1 locs ht hvm hw hB hz1 hk1 hS hq9 hce hcl => ?_) (fun r2 u t H1 locs ht hvm hw hB hz1 hk1 hS => ?_)
  · obtain ⟨hEc3, hB2⟩ := hB
    obtain ⟨hP, hD⟩ := wd_post hFc ht hB2
    have hE9 := hEc3
    simp only [List.mem_cons, List.not_mem_nil, or_false] at hE9
    clear hEc3
    subst hE9
    refine vx_catch (own := RL) (name := "java/lang/ArithmeticException") hown [] ⟨0, 7, 10, 215⟩ [] (htab.trans rfl) (List.forall_mem_nil _) (by decide) (by decide) (hts (.classLink RL 215 "java/lang/ArithmeticException") (by decide +kernel)) (va_Nw.use rfl (hTH.2.1 (.castable "java/lang/ArithmeticException" "java/lang/ArithmeticException") (by decide +kernel))) hq9 hce hcl ?_
    generalize H1 = H at hP hS ⊢
    refine lv_astore_n (lv' := [(2, .ref q9), (0, .ref o1), (1, .ref qd)]) hx hb dL_meanGrade_10 rfl hl (by decide) rfl (fun ls hl => ?_)
    refine lv_iconst (v := 1) hx hb dL_meanGrade_11 (by decide) ?_
    refine W.widen (k := 1) (n := 6) (Nat.le_of_ble_eq_true rfl) (Nat.le_of_ble_eq_true rfl) ?_
    subst hXe
    exact W.iret (v := (1 : Int32)) hx hb hr (fun t ht hW9 => ⟨⟨(1 : Int32), (S, fd), rfl, t0, wx_end hP hKX hD ht hW9.alike⟩, hS.F ht⟩) hS.2.2 dL_meanGrade_12 hlocks
  · clear hw
    obtain ⟨hP, hD⟩ := wd_post hFc ht hB
    generalize H1 = H at hP hS ⊢
    subst hXe
    refine va_dast hx hb hKX hP hD hS 1 9 rfl rfl (inb (m := 1) rfl (by decide) (by decide)) dL_meanGrade_6 (fun H locs hP2 hD2 hS => ?_)
    have hP : va_P D vwCl ((XO c8 c9 qo qd fo (vf_upd fd (0 : Int32).toNatClampNeg r2)) ++ PL cy S) H := hP2
    have hD : va_D A ((XO c8 c9 qo qd fo (vf_upd fd (0 : Int32).toNatClampNeg r2)) ++ PL cy S) := hD2
    clear hP2 hD2
    refine lv_goto (tgt := 13) hx hb dL_meanGrade_7 (by decide) ?_
    refine lv_iconst (v := 0) hx hb dL_meanGrade_13 (by decide) ?_
    refine W.widen (k := 1) (n := 6) (Nat.le_of_ble_eq_true rfl) (Nat.le_of_ble_eq_true rfl) ?_
    exact W.iret (v := (0 : Int32)) hx hb hr (fun t ht hW9 => ⟨⟨(0 : Int32), (S, (vf_upd fd (0 : Int32).toNatClampNeg r2)), rfl, t0, wx_end hP hKX hD ht hW9.alike⟩, hS.F ht⟩) hS.2.2 dL_meanGrade_14 hlocks
