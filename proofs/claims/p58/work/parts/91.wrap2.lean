set_option maxHeartbeats 4000000 in
set_option maxRecDepth 100000 in
theorem c_L_setMachine (l : Launch) (hst : l.stackTraces = false) {e0 mi : Nat} {D : va_G} {cy : Nat → ClassId} {c8 c9 : ClassId} (qo qd : Nat) (fo : Nat → Int64) (fd : Nat → UInt64) (S : wPS) (sz : Nat) (o1 : Nat) (h_o1 : isA S o1 9) (x1 : Int32) (x2 : Int32) (hW : wtB S []) : Met l yL_setMachine wsL_setMachine ({ frames := 8, cells := 2, slots := 12, locals := 127 }) (va_Pc [.ref o1, .int x1, .int x2, .ref qo] (fun U => U.heap.size = sz ∧ WX D cy c8 c9 (XO c8 c9 qo qd fo fd) (fun _ => True) S U ∧ NW U ∧ TH (va_A (XO c8 c9 qo qd fo fd ++ PL cy S) sz) U ∧ OU e0 mi (va_A (XO c8 c9 qo qd fo fd ++ PL cy S) sz) U U.heap ∧ NC U)) (va_Qi (fun (r : Int32) (u : wPS × (Nat → Int64)) => stp [(9, 9), (9, 10)] [] [] S u.1) (fun u t => WX D cy c8 c9 (XO c8 c9 qo qd u.2 fd) (va_A (XO c8 c9 qo qd fo fd ++ PL cy S) sz) u.1 t) (va_A (XO c8 c9 qo qd fo fd ++ PL cy S) sz)) 2 12 (va_A (XO c8 c9 qo qd fo fd ++ PL cy S) sz) := by
  refine Met.ofWH (cc := cL_setMachine) (maxL := 5) (ret := (some .int)) (by decide) rfl ?_
  intro p e s m args below meth c s₁ B hml hv
  obtain ⟨rfl, hsz, ⟨hP, hKX, hD0⟩, hN, hTH, hOU, hNC⟩ := hv
  have hx := B.exec
  have hb := B.bytes
  have hr := B.returns
  have hts := atoms_spec (ws := wsL_setMachine) B.pre
  have hown : s.vm.findClass RL = some m.cls := findClass_of_methodNamed (x := yL_setMachine) B.named
  have hlocks := B.notSynchronized
  have htab := vx_table (x := yL_setMachine) B (hts (.codeWith yL_setMachine cL_setMachine 5 (some .int) [(0, 10, 13, 13)]) List.mem_cons_self)
  have hK := kX hKX
  subst hsz
  have hD := hD0.self (sz := s.heap.size)
  generalize hAe : va_A (XO c8 c9 qo qd fo fd ++ PL cy S) s.heap.size = A at hD hTH hOU ⊢
  generalize hXe : XO c8 c9 qo qd fo fd = X at hP hD
  have hA : ∀ q : Nat, s.heap.size ≤ q → A q := fun q h => by rw [← hAe]; exact Or.inr h
  have hS : va_S A s.heap s.heap [] := va_S.rf
  have hl := lv_entry ([.ref o1, .int x1, .int x2, .ref qo]) (n := 5) (Nat.le_of_ble_eq_true rfl)
  rw [lg_entry_eq]
  generalize (lg_sl ([.ref o1, .int x1, .int x2, .ref qo]) ++ List.replicate (5 - (lg_sl ([.ref o1, .int x1, .int x2, .ref qo])).length) Slot.unset).toArray = ls at hl ⊢
  have hl : lv_has ls 5 [(0, .ref o1), (1, .int x1), (2, .int x2), (3, .ref qo)] := hl
  have t0 : stp [(9, 9), (9, 10)] [] [] S S := stp.rf hW
  refine lv_aload_n hx hb dL_setMachine_0 rfl (lv_at hl 3 rfl) ?_
  refine lv_iconst (v := 0) hx hb dL_setMachine_1 (by decide) ?_
  refine lv_aload_n hx hb dL_setMachine_2 rfl (lv_at hl 0 rfl) ?_
  refine lv_iload_n hx hb dL_setMachine_3 rfl (lv_at hl 1 rfl) ?_
  refine lv_iload_n hx hb dL_setMachine_4 rfl (lv_at hl 2 rfl) ?_
  have hFc := free_all hD hS hA
  obtain ⟨k1, gk1, hk1⟩ := wGt (cy := cy) X S h_o1.1 h_o1.2.1
  refine vx_calli (vx_runV (As := [.int x1, .int x2]) (rest := [.int (0 : Int32), .ref qo]) ⟨hx, hb, hml, hown, hts⟩ (c_X9_setMachine l hst (cy := cy) (X := X) (D := D) S _ o1 h_o1 x1 x2 (hW)) (cwV 2 hts gL_setMachine_X9_setMachine rfl rfl rfl hd_X9_setMachine ⟨Nat.le_of_ble_eq_true rfl, Nat.le_of_ble_eq_true rfl⟩) (pVt (va_recv hK hP (q := (RX9, TX9, 11)) (ci := 13) (q0 := k1) rfl hk1) hP hK hD hN hTH hS hFc) rfl rfl hl.1 rfl (lv_room (Nat.le_of_ble_eq_true rfl)) dL_setMachine_5 ⟨Nat.le_of_ble_eq_true rfl, Nat.le_of_ble_eq_true rfl⟩) hS (fun q _ h => hFc q h) hFc (fun q _ h => hFc q h) (fun E ce q9 u t H1 locs ht hvm hw hB hz1 hk1 hS hq9 hce hcl => ?_) (fun r2 u t H1 locs ht hvm hw hB hz1 hk1 hS => ?_)
  · obtain ⟨c3, hEc3, hXc3, hB2⟩ := hB
    obtain ⟨hP, hD⟩ := wd_post hFc ht hB2
    have t4 : stp [(9, 9), (9, 10)] [] [] S u := t0.tr hw (by decide) (fun _ q => absurd q List.not_mem_nil)
    have xe5 : ext S u := hw.x
    have hE9 := hEc3
    simp only [List.mem_cons, List.not_mem_nil, or_false] at hE9
    clear hEc3
    subst hE9
    refine vx_catch (own := RL) (name := "java/lang/IllegalArgumentException") hown [] ⟨0, 10, 13, 13⟩ [] (htab.trans rfl) (List.forall_mem_nil _) (by decide) (by decide) (hts (.classLink RL 13 "java/lang/IllegalArgumentException") (by decide +kernel)) (va_Nw.use rfl (hTH.2.1 (.castable "java/lang/IllegalArgumentException" "java/lang/IllegalArgumentException") (by decide +kernel))) hq9 hce hcl ?_
    generalize H1 = H at hP hS ⊢
    refine lv_astore (lv' := [(4, .ref q9), (0, .ref o1), (1, .int x1), (2, .int x2), (3, .ref qo)]) hx hb dL_setMachine_13 hl (by decide) rfl (fun ls hl => ?_)
    refine lv_iconst (v := 1) hx hb dL_setMachine_15 (by decide) ?_
    refine W.widen (k := 2) (n := 12) (Nat.le_of_ble_eq_true rfl) (Nat.le_of_ble_eq_true rfl) ?_
    subst hXe
    exact W.iret (v := (1 : Int32)) hx hb hr (fun t ht hW9 => ⟨⟨(1 : Int32), (u, fo), rfl, t4, wx_end hP hKX hD ht hW9.alike⟩, hS.F ht⟩) hS.2.2 dL_setMachine_16 hlocks
  · obtain ⟨c6, w7⟩ := hw
    obtain ⟨hP, hD⟩ := wd_post hFc ht hB
    generalize H1 = H at hP hS ⊢
    obtain ⟨S8, rfl⟩ : ∃ z, z = u := ⟨_, rfl⟩
    have t9 : stp [(9, 9), (9, 10)] [] [] S S8 := t0.tr w7 (by decide) (fun _ q => absurd q List.not_mem_nil)
    have xe10 : ext S S8 := w7.x
    refine lv_i2l hx hb dL_setMachine_8 rfl ?_
    subst hXe
    refine va_last hx hb hKX hP hD hS 0 8 rfl rfl (inb (m := 1) rfl (by decide) (by decide)) dL_setMachine_9 (fun H locs hP2 hD2 hS => ?_)
    have hP : va_P D vwCl ((XO c8 c9 qo qd (vp_updL fo (0 : Int32).toNatClampNeg r2.toInt64) fd) ++ PL cy S8) H := hP2
    have hD : va_D A ((XO c8 c9 qo qd (vp_updL fo (0 : Int32).toNatClampNeg r2.toInt64) fd) ++ PL cy S8) := hD2
    clear hP2 hD2
    refine lv_goto (tgt := 17) hx hb dL_setMachine_10 (by decide) ?_
    refine lv_iconst (v := 0) hx hb dL_setMachine_17 (by decide) ?_
    refine W.widen (k := 2) (n := 12) (Nat.le_of_ble_eq_true rfl) (Nat.le_of_ble_eq_true rfl) ?_
    exact W.iret (v := (0 : Int32)) hx hb hr (fun t ht hW9 => ⟨⟨(0 : Int32), (S8, (vp_updL fo (0 : Int32).toNatClampNeg r2.toInt64)), rfl, t9, wx_end hP hKX hD ht hW9.alike⟩, hS.F ht⟩) hS.2.2 dL_setMachine_18 hlocks
set_option maxHeartbeats 4000000 in
set_option maxRecDepth 100000 in
theorem c_L_hob (l : Launch) (hst : l.stackTraces = false) {e0 mi : Nat} {D : va_G} {cy : Nat → ClassId} {c8 c9 : ClassId} (qo qd : Nat) (fo : Nat → Int64) (fd : Nat → UInt64) (S : wPS) (sz : Nat) (o1 : Nat) (h_o1 : isA S o1 9) (x1 : Int32) (x2 : Int32) (x3 : Int32) (x4 : Int32) (hW : wtB S []) : Met l yL_hob wsL_hob ({ frames := 8, cells := 6, slots := 50, locals := 129 }) (va_Pc [.ref o1, .int x1, .int x2, .int x3, .int x4, .ref qo] (fun U => U.heap.size = sz ∧ WX D cy c8 c9 (XO c8 c9 qo qd fo fd) (fun _ => True) S U ∧ NW U ∧ TH (va_A (XO c8 c9 qo qd fo fd ++ PL cy S) sz) U ∧ OU e0 mi (va_A (XO c8 c9 qo qd fo fd ++ PL cy S) sz) U U.heap ∧ NC U)) (va_Qi (fun (r : Int32) (u : wPS × (Nat → Int64)) => stp [(9, 3), (20, 101)] [] [] S u.1) (fun u t => WX D cy c8 c9 (XO c8 c9 qo qd u.2 fd) (va_A (XO c8 c9 qo qd fo fd ++ PL cy S) sz) u.1 t) (va_A (XO c8 c9 qo qd fo fd ++ PL cy S) sz)) 6 50 (va_A (XO c8 c9 qo qd fo fd ++ PL cy S) sz) := by
  refine Met.ofWH (cc := cL_hob) (maxL := 7) (ret := (some .int)) (by decide) rfl ?_
  intro p e s m args below meth c s₁ B hml hv
  obtain ⟨rfl, hsz, ⟨hP, hKX, hD0⟩, hN, hTH, hOU, hNC⟩ := hv
  have hx := B.exec
  have hb := B.bytes
  have hr := B.returns
  have hts := atoms_spec (ws := wsL_hob) B.pre
  have hown : s.vm.findClass RL = some m.cls := findClass_of_methodNamed (x := yL_hob) B.named
  have hlocks := B.notSynchronized
  have htab := vx_table (x := yL_hob) B (hts (.codeWith yL_hob cL_hob 7 (some .int) [(0, 14, 17, 13), (0, 14, 21, 15)]) List.mem_cons_self)
  have hK := kX hKX
  subst hsz
  have hD := hD0.self (sz := s.heap.size)
  generalize hAe : va_A (XO c8 c9 qo qd fo fd ++ PL cy S) s.heap.size = A at hD hTH hOU ⊢
  generalize hXe : XO c8 c9 qo qd fo fd = X at hP hD
  have hA : ∀ q : Nat, s.heap.size ≤ q → A q := fun q h => by rw [← hAe]; exact Or.inr h
  have hS : va_S A s.heap s.heap [] := va_S.rf
  have hl := lv_entry ([.ref o1, .int x1, .int x2, .int x3, .int x4, .ref qo]) (n := 7) (Nat.le_of_ble_eq_true rfl)
  rw [lg_entry_eq]
  generalize (lg_sl ([.ref o1, .int x1, .int x2, .int x3, .int x4, .ref qo]) ++ List.replicate (7 - (lg_sl ([.ref o1, .int x1, .int x2, .int x3, .int x4, .ref qo])).length) Slot.unset).toArray = ls at hl ⊢
  have hl : lv_has ls 7 [(0, .ref o1), (1, .int x1), (2, .int x2), (3, .int x3), (4, .int x4), (5, .ref qo)] := hl
  have t0 : stp [(9, 3), (20, 101)] [] [] S S := stp.rf hW
  refine lv_aload hx hb dL_hob_0 (lv_at hl 5 rfl) ?_
  refine lv_iconst (v := 0) hx hb dL_hob_2 (by decide) ?_
  refine lv_aload_n hx hb dL_hob_3 rfl (lv_at hl 0 rfl) ?_
  refine lv_iload_n hx hb dL_hob_4 rfl (lv_at hl 1 rfl) ?_
  refine lv_iload_n hx hb dL_hob_5 rfl (lv_at hl 2 rfl) ?_
  refine lv_iload_n hx hb dL_hob_6 rfl (lv_at hl 3 rfl) ?_
  refine lv_iload hx hb dL_hob_7 (lv_at hl 4 rfl) ?_
  have hFc := free_all hD hS hA
  obtain ⟨k1, gk1, hk1⟩ := wGt (cy := cy) X S h_o1.1 h_o1.2.1
  refine vx_calli (vx_runV (As := [.int x1, .int x2, .int x3, .int x4]) (rest := [.int (0 : Int32), .ref qo]) ⟨hx, hb, hml, hown, hts⟩ (c_X9_hob l hst (cy := cy) (X := X) (D := D) S _ o1 h_o1 x1 x2 x3 x4 (hW)) (cwV 4 hts gL_hob_X9_hob rfl rfl rfl hd_X9_hob ⟨Nat.le_of_ble_eq_true rfl, Nat.le_of_ble_eq_true rfl⟩) (pVt (va_recv hK hP (q := (RX9, TX9, 11)) (ci := 13) (q0 := k1) rfl hk1) hP hK hD hN hTH hS hFc) rfl rfl hl.1 rfl (lv_room (Nat.le_of_ble_eq_true rfl)) dL_hob_9 ⟨Nat.le_of_ble_eq_true rfl, Nat.le_of_ble_eq_true rfl⟩) hS (fun q _ h => hFc q h) hFc (fun q _ h => hFc q h) (fun E ce q9 u t H1 locs ht hvm hw hB hz1 hk1 hS hq9 hce hcl => ?_) (fun r2 u t H1 locs ht hvm hw hB hz1 hk1 hS => ?_)
  · obtain ⟨c3, hEc3, hXc3, hB2⟩ := hB
    obtain ⟨hP, hD⟩ := wd_post hFc ht hB2
    have t4 : stp [(9, 3), (20, 101)] [] [] S u := t0.tr hw (by decide) (fun _ q => absurd q List.not_mem_nil)
    have xe5 : ext S u := hw.x
    have hE9 := hEc3
    simp only [List.mem_cons, List.not_mem_nil, or_false] at hE9
    clear hEc3
    rcases hE9 with rfl | rfl
    · refine vx_catch (own := RL) (name := "java/lang/IllegalArgumentException") hown [] ⟨0, 14, 17, 13⟩ [⟨0, 14, 21, 15⟩] (htab.trans rfl) (List.forall_mem_nil _) (by decide) (by decide) (hts (.classLink RL 13 "java/lang/IllegalArgumentException") (by decide +kernel)) (va_Nw.use rfl (hTH.2.1 (.castable "java/lang/IllegalArgumentException" "java/lang/IllegalArgumentException") (by decide +kernel))) hq9 hce hcl ?_
      generalize H1 = H at hP hS ⊢
      refine lv_astore (lv' := [(6, .ref q9), (0, .ref o1), (1, .int x1), (2, .int x2), (3, .int x3), (4, .int x4), (5, .ref qo)]) hx hb dL_hob_17 hl (by decide) rfl (fun ls hl => ?_)
      refine lv_iconst (v := 1) hx hb dL_hob_19 (by decide) ?_
      refine W.widen (k := 6) (n := 50) (Nat.le_of_ble_eq_true rfl) (Nat.le_of_ble_eq_true rfl) ?_
      subst hXe
      exact W.iret (v := (1 : Int32)) hx hb hr (fun t ht hW9 => ⟨⟨(1 : Int32), (u, fo), rfl, t4, wx_end hP hKX hD ht hW9.alike⟩, hS.F ht⟩) hS.2.2 dL_hob_20 hlocks
    · refine vx_catch (own := RL) (name := "java/lang/IllegalStateException") hown [⟨0, 14, 17, 13⟩] ⟨0, 14, 21, 15⟩ [] (htab.trans rfl) (List.forall_mem_cons.mpr ⟨Or.inr ⟨by decide, "java/lang/IllegalArgumentException", hts (.classLink RL 13 "java/lang/IllegalArgumentException") (by decide +kernel), hNC ("java/lang/IllegalStateException", "java/lang/IllegalArgumentException") (by decide +kernel)⟩, (List.forall_mem_nil _)⟩) (by decide) (by decide) (hts (.classLink RL 15 "java/lang/IllegalStateException") (by decide +kernel)) (va_Nw.use rfl (hTH.2.1 (.castable "java/lang/IllegalStateException" "java/lang/IllegalStateException") (by decide +kernel))) hq9 hce hcl ?_
      generalize H1 = H at hP hS ⊢
      refine lv_astore (lv' := [(6, .ref q9), (0, .ref o1), (1, .int x1), (2, .int x2), (3, .int x3), (4, .int x4), (5, .ref qo)]) hx hb dL_hob_21 hl (by decide) rfl (fun ls hl => ?_)
      refine lv_iconst (v := 2) hx hb dL_hob_23 (by decide) ?_
      refine W.widen (k := 6) (n := 50) (Nat.le_of_ble_eq_true rfl) (Nat.le_of_ble_eq_true rfl) ?_
      subst hXe
      exact W.iret (v := (2 : Int32)) hx hb hr (fun t ht hW9 => ⟨⟨(2 : Int32), (u, fo), rfl, t4, wx_end hP hKX hD ht hW9.alike⟩, hS.F ht⟩) hS.2.2 dL_hob_24 hlocks
  · obtain ⟨c6, w7, y8, y9⟩ := hw
    obtain ⟨hP, hD⟩ := wd_post hFc ht hB
    generalize H1 = H at hP hS ⊢
    obtain ⟨S10, rfl⟩ : ∃ z, z = u := ⟨_, rfl⟩
    have t11 : stp [(9, 3), (20, 101)] [] [] S S10 := t0.tr w7 (by decide) (fun _ q => absurd q List.not_mem_nil)
    have xe12 : ext S S10 := w7.x
    refine lv_i2l hx hb dL_hob_12 rfl ?_
    subst hXe
    refine va_last hx hb hKX hP hD hS 0 8 rfl rfl (inb (m := 1) rfl (by decide) (by decide)) dL_hob_13 (fun H locs hP2 hD2 hS => ?_)
    have hP : va_P D vwCl ((XO c8 c9 qo qd (vp_updL fo (0 : Int32).toNatClampNeg r2.toInt64) fd) ++ PL cy S10) H := hP2
    have hD : va_D A ((XO c8 c9 qo qd (vp_updL fo (0 : Int32).toNatClampNeg r2.toInt64) fd) ++ PL cy S10) := hD2
    clear hP2 hD2
    refine lv_goto (tgt := 25) hx hb dL_hob_14 (by decide) ?_
    refine lv_iconst (v := 0) hx hb dL_hob_25 (by decide) ?_
    refine W.widen (k := 6) (n := 50) (Nat.le_of_ble_eq_true rfl) (Nat.le_of_ble_eq_true rfl) ?_
    exact W.iret (v := (0 : Int32)) hx hb hr (fun t ht hW9 => ⟨⟨(0 : Int32), (S10, (vp_updL fo (0 : Int32).toNatClampNeg r2.toInt64)), rfl, t11, wx_end hP hKX hD ht hW9.alike⟩, hS.F ht⟩) hS.2.2 dL_hob_26 hlocks
set_option maxHeartbeats 4000000 in
set_option maxRecDepth 100000 in
theorem c_L_indexes (l : Launch) (hst : l.stackTraces = false) {e0 mi : Nat} {D : va_G} {cy : Nat → ClassId} {c8 c9 : ClassId} (qo qd : Nat) (fo : Nat → Int64) (fd : Nat → UInt64) (S : wPS) (sz : Nat) (o1 : Nat) (h_o1 : isA S o1 9) (x1 : Int32) (x2 : Int32) (x3 : Int32) (hW : wtB S []) : Met l yL_indexes wsL_indexes ({ frames := 8, cells := 4, slots := 24, locals := 129 }) (va_Pc [.ref o1, .int x1, .int x2, .int x3, .ref qo] (fun U => U.heap.size = sz ∧ WX D cy c8 c9 (XO c8 c9 qo qd fo fd) (fun _ => True) S U ∧ NW U ∧ TH (va_A (XO c8 c9 qo qd fo fd ++ PL cy S) sz) U ∧ OU e0 mi (va_A (XO c8 c9 qo qd fo fd ++ PL cy S) sz) U U.heap ∧ NC U)) (va_Qi (fun (r : Int32) (u : wPS × (Nat → Int64)) => stp [(0, 3), (0, 4), (0, 5), (0, 6), (17, 100)] [] [] S u.1) (fun u t => WX D cy c8 c9 (XO c8 c9 qo qd u.2 fd) (va_A (XO c8 c9 qo qd fo fd ++ PL cy S) sz) u.1 t) (va_A (XO c8 c9 qo qd fo fd ++ PL cy S) sz)) 4 24 (va_A (XO c8 c9 qo qd fo fd ++ PL cy S) sz) := by
  refine Met.ofWH (cc := cL_indexes) (maxL := 6) (ret := (some .int)) (by decide) rfl ?_
  intro p e s m args below meth c s₁ B hml hv
  obtain ⟨rfl, hsz, ⟨hP, hKX, hD0⟩, hN, hTH, hOU, hNC⟩ := hv
  have hx := B.exec
  have hb := B.bytes
  have hr := B.returns
  have hts := atoms_spec (ws := wsL_indexes) B.pre
  have hown : s.vm.findClass RL = some m.cls := findClass_of_methodNamed (x := yL_indexes) B.named
  have hlocks := B.notSynchronized
  have htab := vx_table (x := yL_indexes) B (hts (.codeWith yL_indexes cL_indexes 6 (some .int) [(0, 19, 22, 21), (0, 19, 26, 13), (0, 19, 30, 62)]) List.mem_cons_self)
  have hK := kX hKX
  subst hsz
  have hD := hD0.self (sz := s.heap.size)
  generalize hAe : va_A (XO c8 c9 qo qd fo fd ++ PL cy S) s.heap.size = A at hD hTH hOU ⊢
  generalize hXe : XO c8 c9 qo qd fo fd = X at hP hD
  have hA : ∀ q : Nat, s.heap.size ≤ q → A q := fun q h => by rw [← hAe]; exact Or.inr h
  have hS : va_S A s.heap s.heap [] := va_S.rf
  have hl := lv_entry ([.ref o1, .int x1, .int x2, .int x3, .ref qo]) (n := 6) (Nat.le_of_ble_eq_true rfl)
  rw [lg_entry_eq]
  generalize (lg_sl ([.ref o1, .int x1, .int x2, .int x3, .ref qo]) ++ List.replicate (6 - (lg_sl ([.ref o1, .int x1, .int x2, .int x3, .ref qo])).length) Slot.unset).toArray = ls at hl ⊢
  have hl : lv_has ls 6 [(0, .ref o1), (1, .int x1), (2, .int x2), (3, .int x3), (4, .ref qo)] := hl
  have t0 : stp [(0, 3), (0, 4), (0, 5), (0, 6), (17, 100)] [] [] S S := stp.rf hW
  refine lv_aload hx hb dL_indexes_0 (lv_at hl 4 rfl) ?_
  refine lv_iconst (v := 0) hx hb dL_indexes_2 (by decide) ?_
  refine lv_aload_n hx hb dL_indexes_3 rfl (lv_at hl 0 rfl) ?_
  refine lv_iload_n hx hb dL_indexes_4 rfl (lv_at hl 1 rfl) ?_
  refine lv_iload_n hx hb dL_indexes_5 rfl (lv_at hl 2 rfl) ?_
  refine lv_iload_n hx hb dL_indexes_6 rfl (lv_at hl 3 rfl) ?_
  have hFc := free_all hD hS hA
  obtain ⟨k1, gk1, hk1⟩ := wGt (cy := cy) X S h_o1.1 h_o1.2.1
  refine vx_calli (vx_runV (As := [.int x1, .int x2, .int x3]) (rest := [.int (0 : Int32), .ref qo]) ⟨hx, hb, hml, hown, hts⟩ (c_X9_indexes l hst (cy := cy) (X := X) (D := D) S _ o1 h_o1 x1 x2 x3 (hW)) (cwV 3 hts gL_indexes_X9_indexes rfl rfl rfl hd_X9_indexes ⟨Nat.le_of_ble_eq_true rfl, Nat.le_of_ble_eq_true rfl⟩) (pVt (va_recv hK hP (q := (RX9, TX9, 11)) (ci := 13) (q0 := k1) rfl hk1) hP hK hD hN hTH hS hFc) rfl rfl hl.1 rfl (lv_room (Nat.le_of_ble_eq_true rfl)) dL_indexes_7 ⟨Nat.le_of_ble_eq_true rfl, Nat.le_of_ble_eq_true rfl⟩) hS (fun q _ h => hFc q h) hFc (fun q _ h => hFc q h) (fun E ce q9 u t H1 locs ht hvm hw hB hz1 hk1 hS hq9 hce hcl => ?_) (fun r2 u t H1 locs ht hvm hw hB hz1 hk1 hS => ?_)
  · obtain ⟨hEc3, hB2⟩ := hB
    obtain ⟨hP, hD⟩ := wd_post hFc ht hB2
    have t4 : stp [(0, 3), (0, 4), (0, 5), (0, 6), (17, 100)] [] [] S u := t0.tr hw (by decide) (fun _ q => absurd q List.not_mem_nil)
    have xe5 : ext S u := hw.x
    have hE9 := hEc3
    simp only [List.mem_cons, List.not_mem_nil, or_false] at hE9
    clear hEc3
    rcases hE9 with rfl | rfl | rfl
    · refine vx_catch (own := RL) (name := "java/lang/IllegalArgumentException") hown [⟨0, 19, 22, 21⟩] ⟨0, 19, 26, 13⟩ [⟨0, 19, 30, 62⟩] (htab.trans rfl) (List.forall_mem_cons.mpr ⟨Or.inr ⟨by decide, "java/lang/IndexOutOfBoundsException", hts (.classLink RL 21 "java/lang/IndexOutOfBoundsException") (by decide +kernel), hNC ("java/lang/IllegalArgumentException", "java/lang/IndexOutOfBoundsException") (by decide +kernel)⟩, (List.forall_mem_nil _)⟩) (by decide) (by decide) (hts (.classLink RL 13 "java/lang/IllegalArgumentException") (by decide +kernel)) (va_Nw.use rfl (hTH.2.1 (.castable "java/lang/IllegalArgumentException" "java/lang/IllegalArgumentException") (by decide +kernel))) hq9 hce hcl ?_
      generalize H1 = H at hP hS ⊢
      refine lv_astore (lv' := [(5, .ref q9), (0, .ref o1), (1, .int x1), (2, .int x2), (3, .int x3), (4, .ref qo)]) hx hb dL_indexes_26 hl (by decide) rfl (fun ls hl => ?_)
      refine lv_iconst (v := 2) hx hb dL_indexes_28 (by decide) ?_
      refine W.widen (k := 4) (n := 24) (Nat.le_of_ble_eq_true rfl) (Nat.le_of_ble_eq_true rfl) ?_
      subst hXe
      exact W.iret (v := (2 : Int32)) hx hb hr (fun t ht hW9 => ⟨⟨(2 : Int32), (u, fo), rfl, t4, wx_end hP hKX hD ht hW9.alike⟩, hS.F ht⟩) hS.2.2 dL_indexes_29 hlocks
    · refine vx_catch (own := RL) (name := "java/lang/IndexOutOfBoundsException") hown [] ⟨0, 19, 22, 21⟩ [⟨0, 19, 26, 13⟩, ⟨0, 19, 30, 62⟩] (htab.trans rfl) (List.forall_mem_nil _) (by decide) (by decide) (hts (.classLink RL 21 "java/lang/IndexOutOfBoundsException") (by decide +kernel)) (va_Nw.use rfl (hTH.2.1 (.castable "java/lang/IndexOutOfBoundsException" "java/lang/IndexOutOfBoundsException") (by decide +kernel))) hq9 hce hcl ?_
      generalize H1 = H at hP hS ⊢
      refine lv_astore (lv' := [(5, .ref q9), (0, .ref o1), (1, .int x1), (2, .int x2), (3, .int x3), (4, .ref qo)]) hx hb dL_indexes_22 hl (by decide) rfl (fun ls hl => ?_)
      refine lv_iconst (v := 1) hx hb dL_indexes_24 (by decide) ?_
      refine W.widen (k := 4) (n := 24) (Nat.le_of_ble_eq_true rfl) (Nat.le_of_ble_eq_true rfl) ?_
      subst hXe
      exact W.iret (v := (1 : Int32)) hx hb hr (fun t ht hW9 => ⟨⟨(1 : Int32), (u, fo), rfl, t4, wx_end hP hKX hD ht hW9.alike⟩, hS.F ht⟩) hS.2.2 dL_indexes_25 hlocks
    · refine vx_catch (own := RL) (name := "java/util/NoSuchElementException") hown [⟨0, 19, 22, 21⟩, ⟨0, 19, 26, 13⟩] ⟨0, 19, 30, 62⟩ [] (htab.trans rfl) (List.forall_mem_cons.mpr ⟨Or.inr ⟨by decide, "java/lang/IndexOutOfBoundsException", hts (.classLink RL 21 "java/lang/IndexOutOfBoundsException") (by decide +kernel), hNC ("java/util/NoSuchElementException", "java/lang/IndexOutOfBoundsException") (by decide +kernel)⟩, (List.forall_mem_cons.mpr ⟨Or.inr ⟨by decide, "java/lang/IllegalArgumentException", hts (.classLink RL 13 "java/lang/IllegalArgumentException") (by decide +kernel), hNC ("java/util/NoSuchElementException", "java/lang/IllegalArgumentException") (by decide +kernel)⟩, (List.forall_mem_nil _)⟩)⟩) (by decide) (by decide) (hts (.classLink RL 62 "java/util/NoSuchElementException") (by decide +kernel)) (va_Nw.use rfl (hTH.2.1 (.castable "java/util/NoSuchElementException" "java/util/NoSuchElementException") (by decide +kernel))) hq9 hce hcl ?_
      generalize H1 = H at hP hS ⊢
      refine lv_astore (lv' := [(5, .ref q9), (0, .ref o1), (1, .int x1), (2, .int x2), (3, .int x3), (4, .ref qo)]) hx hb dL_indexes_30 hl (by decide) rfl (fun ls hl => ?_)
      refine lv_iconst (v := 3) hx hb dL_indexes_32 (by decide) ?_
      refine W.widen (k := 4) (n := 24) (Nat.le_of_ble_eq_true rfl) (Nat.le_of_ble_eq_true rfl) ?_
      subst hXe
      exact W.iret (v := (3 : Int32)) hx hb hr (fun t ht hW9 => ⟨⟨(3 : Int32), (u, fo), rfl, t4, wx_end hP hKX hD ht hW9.alike⟩, hS.F ht⟩) hS.2.2 dL_indexes_33 hlocks
  · have w6 := hw
    obtain ⟨hP, hD⟩ := wd_post hFc ht hB
    generalize H1 = H at hP hS ⊢
    obtain ⟨S7, rfl⟩ : ∃ z, z = u := ⟨_, rfl⟩
    have t8 : stp [(0, 3), (0, 4), (0, 5), (0, 6), (17, 100)] [] [] S S7 := t0.tr w6 (by decide) (fun _ q => absurd q List.not_mem_nil)
    have xe9 : ext S S7 := w6.x
    refine lv_if_eq (tgt := 17) hx hb dL_indexes_10 (by decide) (fun c10 => ?_) (fun c10 => ?_)
    · have c10i : r2.toInt = 0 := eq_v rfl rfl c10
      refine lv_lconst (v := 0) hx hb dL_indexes_17 (by decide) ?_
      subst hXe
      refine va_last hx hb hKX hP hD hS 0 8 rfl rfl (inb (m := 1) rfl (by decide) (by decide)) dL_indexes_18 (fun H locs hP2 hD2 hS => ?_)
      have hP : va_P D vwCl ((XO c8 c9 qo qd (vp_updL fo (0 : Int32).toNatClampNeg (0 : Int64)) fd) ++ PL cy S7) H := hP2
      have hD : va_D A ((XO c8 c9 qo qd (vp_updL fo (0 : Int32).toNatClampNeg (0 : Int64)) fd) ++ PL cy S7) := hD2
      clear hP2 hD2
      refine lv_goto (tgt := 34) hx hb dL_indexes_19 (by decide) ?_
      refine lv_iconst (v := 0) hx hb dL_indexes_34 (by decide) ?_
      refine W.widen (k := 4) (n := 24) (Nat.le_of_ble_eq_true rfl) (Nat.le_of_ble_eq_true rfl) ?_
      exact W.iret (v := (0 : Int32)) hx hb hr (fun t ht hW9 => ⟨⟨(0 : Int32), (S7, (vp_updL fo (0 : Int32).toNatClampNeg (0 : Int64))), rfl, t8, wx_end hP hKX hD ht hW9.alike⟩, hS.F ht⟩) hS.2.2 dL_indexes_35 hlocks
    · have c10i : ¬ r2.toInt = 0 := neq_v rfl rfl c10
      refine lv_lconst (v := 1) hx hb dL_indexes_13 (by decide) ?_
      refine lv_goto (tgt := 18) hx hb dL_indexes_14 (by decide) ?_
      subst hXe
      refine va_last hx hb hKX hP hD hS 0 8 rfl rfl (inb (m := 1) rfl (by decide) (by decide)) dL_indexes_18 (fun H locs hP2 hD2 hS => ?_)
      have hP : va_P D vwCl ((XO c8 c9 qo qd (vp_updL fo (0 : Int32).toNatClampNeg (1 : Int64)) fd) ++ PL cy S7) H := hP2
      have hD : va_D A ((XO c8 c9 qo qd (vp_updL fo (0 : Int32).toNatClampNeg (1 : Int64)) fd) ++ PL cy S7) := hD2
      clear hP2 hD2
      refine lv_goto (tgt := 34) hx hb dL_indexes_19 (by decide) ?_
      refine lv_iconst (v := 0) hx hb dL_indexes_34 (by decide) ?_
      refine W.widen (k := 4) (n := 24) (Nat.le_of_ble_eq_true rfl) (Nat.le_of_ble_eq_true rfl) ?_
      exact W.iret (v := (0 : Int32)) hx hb hr (fun t ht hW9 => ⟨⟨(0 : Int32), (S7, (vp_updL fo (0 : Int32).toNatClampNeg (1 : Int64))), rfl, t8, wx_end hP hKX hD ht hW9.alike⟩, hS.F ht⟩) hS.2.2 dL_indexes_35 hlocks
set_option maxHeartbeats 4000000 in
set_option maxRecDepth 100000 in
theorem c_L_differs (l : Launch) (hst : l.stackTraces = false) {e0 mi : Nat} {D : va_G} {cy : Nat → ClassId} {c8 c9 : ClassId} (qo qd : Nat) (fo : Nat → Int64) (fd : Nat → UInt64) (S : wPS) (sz : Nat) (o1 : Nat) (h_o1 : isA S o1 9) (x1 : Int32) (x2 : Int32) (x3 : Int32) (hW : wtB S []) : Met l yL_differs wsL_differs ({ frames := 8, cells := 5, slots := 30, locals := 129 }) (va_Pc [.ref o1, .int x1, .int x2, .int x3, .ref qo] (fun U => U.heap.size = sz ∧ WX D cy c8 c9 (XO c8 c9 qo qd fo fd) (fun _ => True) S U ∧ NW U ∧ TH (va_A (XO c8 c9 qo qd fo fd ++ PL cy S) sz) U ∧ OU e0 mi (va_A (XO c8 c9 qo qd fo fd ++ PL cy S) sz) U U.heap ∧ NC U)) (va_Qi (fun (r : Int32) (u : wPS × (Nat → Int64)) => stp [(0, 3), (0, 4), (0, 5), (0, 6), (17, 100)] [] [] S u.1) (fun u t => WX D cy c8 c9 (XO c8 c9 qo qd u.2 fd) (va_A (XO c8 c9 qo qd fo fd ++ PL cy S) sz) u.1 t) (va_A (XO c8 c9 qo qd fo fd ++ PL cy S) sz)) 5 30 (va_A (XO c8 c9 qo qd fo fd ++ PL cy S) sz) := by
  refine Met.ofWH (cc := cL_differs) (maxL := 6) (ret := (some .int)) (by decide) rfl ?_
  intro p e s m args below meth c s₁ B hml hv
  obtain ⟨rfl, hsz, ⟨hP, hKX, hD0⟩, hN, hTH, hOU, hNC⟩ := hv
  have hx := B.exec
  have hb := B.bytes
  have hr := B.returns
  have hts := atoms_spec (ws := wsL_differs) B.pre
  have hown : s.vm.findClass RL = some m.cls := findClass_of_methodNamed (x := yL_differs) B.named
  have hlocks := B.notSynchronized
  have htab := vx_table (x := yL_differs) B (hts (.codeWith yL_differs cL_differs 6 (some .int) [(0, 19, 22, 21), (0, 19, 26, 13), (0, 19, 30, 23), (0, 19, 34, 62)]) List.mem_cons_self)
  have hK := kX hKX
  subst hsz
  have hD := hD0.self (sz := s.heap.size)
  generalize hAe : va_A (XO c8 c9 qo qd fo fd ++ PL cy S) s.heap.size = A at hD hTH hOU ⊢
  generalize hXe : XO c8 c9 qo qd fo fd = X at hP hD
  have hA : ∀ q : Nat, s.heap.size ≤ q → A q := fun q h => by rw [← hAe]; exact Or.inr h
  have hS : va_S A s.heap s.heap [] := va_S.rf
  have hl := lv_entry ([.ref o1, .int x1, .int x2, .int x3, .ref qo]) (n := 6) (Nat.le_of_ble_eq_true rfl)
  rw [lg_entry_eq]
  generalize (lg_sl ([.ref o1, .int x1, .int x2, .int x3, .ref qo]) ++ List.replicate (6 - (lg_sl ([.ref o1, .int x1, .int x2, .int x3, .ref qo])).length) Slot.unset).toArray = ls at hl ⊢
  have hl : lv_has ls 6 [(0, .ref o1), (1, .int x1), (2, .int x2), (3, .int x3), (4, .ref qo)] := hl
  have t0 : stp [(0, 3), (0, 4), (0, 5), (0, 6), (17, 100)] [] [] S S := stp.rf hW
  refine lv_aload hx hb dL_differs_0 (lv_at hl 4 rfl) ?_
  refine lv_iconst (v := 0) hx hb dL_differs_2 (by decide) ?_
  refine lv_aload_n hx hb dL_differs_3 rfl (lv_at hl 0 rfl) ?_
  refine lv_iload_n hx hb dL_differs_4 rfl (lv_at hl 1 rfl) ?_
  refine lv_iload_n hx hb dL_differs_5 rfl (lv_at hl 2 rfl) ?_
  refine lv_iload_n hx hb dL_differs_6 rfl (lv_at hl 3 rfl) ?_
  have hFc := free_all hD hS hA
  obtain ⟨k1, gk1, hk1⟩ := wGt (cy := cy) X S h_o1.1 h_o1.2.1
  refine vx_calli (vx_runV (As := [.int x1, .int x2, .int x3]) (rest := [.int (0 : Int32), .ref qo]) ⟨hx, hb, hml, hown, hts⟩ (c_X9_differs l hst (cy := cy) (X := X) (D := D) S _ o1 h_o1 x1 x2 x3 (hW)) (cwV 3 hts gL_differs_X9_differs rfl rfl rfl hd_X9_differs ⟨Nat.le_of_ble_eq_true rfl, Nat.le_of_ble_eq_true rfl⟩) (pVt (va_recv hK hP (q := (RX9, TX9, 11)) (ci := 13) (q0 := k1) rfl hk1) hP hK hD hN hTH hS hFc) rfl rfl hl.1 rfl (lv_room (Nat.le_of_ble_eq_true rfl)) dL_differs_7 ⟨Nat.le_of_ble_eq_true rfl, Nat.le_of_ble_eq_true rfl⟩) hS (fun q _ h => hFc q h) hFc (fun q _ h => hFc q h) (fun E ce q9 u t H1 locs ht hvm hw hB hz1 hk1 hS hq9 hce hcl => ?_) (fun r2 u t H1 locs ht hvm hw hB hz1 hk1 hS => ?_)
  · obtain ⟨hEc3, hB2⟩ := hB
    obtain ⟨hP, hD⟩ := wd_post hFc ht hB2
    have t4 : stp [(0, 3), (0, 4), (0, 5), (0, 6), (17, 100)] [] [] S u := t0.tr hw (by decide) (fun _ q => absurd q List.not_mem_nil)
    have xe5 : ext S u := hw.x
    have hE9 := hEc3
    simp only [List.mem_cons, List.not_mem_nil, or_false] at hE9
    clear hEc3
    rcases hE9 with rfl | rfl | rfl | rfl
    · refine vx_catch (own := RL) (name := "java/lang/IllegalArgumentException") hown [⟨0, 19, 22, 21⟩] ⟨0, 19, 26, 13⟩ [⟨0, 19, 30, 23⟩, ⟨0, 19, 34, 62⟩] (htab.trans rfl) (List.forall_mem_cons.mpr ⟨Or.inr ⟨by decide, "java/lang/IndexOutOfBoundsException", hts (.classLink RL 21 "java/lang/IndexOutOfBoundsException") (by decide +kernel), hNC ("java/lang/IllegalArgumentException", "java/lang/IndexOutOfBoundsException") (by decide +kernel)⟩, (List.forall_mem_nil _)⟩) (by decide) (by decide) (hts (.classLink RL 13 "java/lang/IllegalArgumentException") (by decide +kernel)) (va_Nw.use rfl (hTH.2.1 (.castable "java/lang/IllegalArgumentException" "java/lang/IllegalArgumentException") (by decide +kernel))) hq9 hce hcl ?_
      generalize H1 = H at hP hS ⊢
      refine lv_astore (lv' := [(5, .ref q9), (0, .ref o1), (1, .int x1), (2, .int x2), (3, .int x3), (4, .ref qo)]) hx hb dL_differs_26 hl (by decide) rfl (fun ls hl => ?_)
      refine lv_iconst (v := 2) hx hb dL_differs_28 (by decide) ?_
      refine W.widen (k := 5) (n := 30) (Nat.le_of_ble_eq_true rfl) (Nat.le_of_ble_eq_true rfl) ?_
      subst hXe
      exact W.iret (v := (2 : Int32)) hx hb hr (fun t ht hW9 => ⟨⟨(2 : Int32), (u, fo), rfl, t4, wx_end hP hKX hD ht hW9.alike⟩, hS.F ht⟩) hS.2.2 dL_differs_29 hlocks
    · refine vx_catch (own := RL) (name := "java/lang/IndexOutOfBoundsException") hown [] ⟨0, 19, 22, 21⟩ [⟨0, 19, 26, 13⟩, ⟨0, 19, 30, 23⟩, ⟨0, 19, 34, 62⟩] (htab.trans rfl) (List.forall_mem_nil _) (by decide) (by decide) (hts (.classLink RL 21 "java/lang/IndexOutOfBoundsException") (by decide +kernel)) (va_Nw.use rfl (hTH.2.1 (.castable "java/lang/IndexOutOfBoundsException" "java/lang/IndexOutOfBoundsException") (by decide +kernel))) hq9 hce hcl ?_
      generalize H1 = H at hP hS ⊢
      refine lv_astore (lv' := [(5, .ref q9), (0, .ref o1), (1, .int x1), (2, .int x2), (3, .int x3), (4, .ref qo)]) hx hb dL_differs_22 hl (by decide) rfl (fun ls hl => ?_)
      refine lv_iconst (v := 1) hx hb dL_differs_24 (by decide) ?_
      refine W.widen (k := 5) (n := 30) (Nat.le_of_ble_eq_true rfl) (Nat.le_of_ble_eq_true rfl) ?_
      subst hXe
      exact W.iret (v := (1 : Int32)) hx hb hr (fun t ht hW9 => ⟨⟨(1 : Int32), (u, fo), rfl, t4, wx_end hP hKX hD ht hW9.alike⟩, hS.F ht⟩) hS.2.2 dL_differs_25 hlocks
    · refine vx_catch (own := RL) (name := "java/lang/UnsupportedOperationException") hown [⟨0, 19, 22, 21⟩, ⟨0, 19, 26, 13⟩] ⟨0, 19, 30, 23⟩ [⟨0, 19, 34, 62⟩] (htab.trans rfl) (List.forall_mem_cons.mpr ⟨Or.inr ⟨by decide, "java/lang/IndexOutOfBoundsException", hts (.classLink RL 21 "java/lang/IndexOutOfBoundsException") (by decide +kernel), hNC ("java/lang/UnsupportedOperationException", "java/lang/IndexOutOfBoundsException") (by decide +kernel)⟩, (List.forall_mem_cons.mpr ⟨Or.inr ⟨by decide, "java/lang/IllegalArgumentException", hts (.classLink RL 13 "java/lang/IllegalArgumentException") (by decide +kernel), hNC ("java/lang/UnsupportedOperationException", "java/lang/IllegalArgumentException") (by decide +kernel)⟩, (List.forall_mem_nil _)⟩)⟩) (by decide) (by decide) (hts (.classLink RL 23 "java/lang/UnsupportedOperationException") (by decide +kernel)) (va_Nw.use rfl (hTH.2.1 (.castable "java/lang/UnsupportedOperationException" "java/lang/UnsupportedOperationException") (by decide +kernel))) hq9 hce hcl ?_
      generalize H1 = H at hP hS ⊢
      refine lv_astore (lv' := [(5, .ref q9), (0, .ref o1), (1, .int x1), (2, .int x2), (3, .int x3), (4, .ref qo)]) hx hb dL_differs_30 hl (by decide) rfl (fun ls hl => ?_)
      refine lv_iconst (v := 3) hx hb dL_differs_32 (by decide) ?_
      refine W.widen (k := 5) (n := 30) (Nat.le_of_ble_eq_true rfl) (Nat.le_of_ble_eq_true rfl) ?_
      subst hXe
      exact W.iret (v := (3 : Int32)) hx hb hr (fun t ht hW9 => ⟨⟨(3 : Int32), (u, fo), rfl, t4, wx_end hP hKX hD ht hW9.alike⟩, hS.F ht⟩) hS.2.2 dL_differs_33 hlocks
    · refine vx_catch (own := RL) (name := "java/util/NoSuchElementException") hown [⟨0, 19, 22, 21⟩, ⟨0, 19, 26, 13⟩, ⟨0, 19, 30, 23⟩] ⟨0, 19, 34, 62⟩ [] (htab.trans rfl) (List.forall_mem_cons.mpr ⟨Or.inr ⟨by decide, "java/lang/IndexOutOfBoundsException", hts (.classLink RL 21 "java/lang/IndexOutOfBoundsException") (by decide +kernel), hNC ("java/util/NoSuchElementException", "java/lang/IndexOutOfBoundsException") (by decide +kernel)⟩, (List.forall_mem_cons.mpr ⟨Or.inr ⟨by decide, "java/lang/IllegalArgumentException", hts (.classLink RL 13 "java/lang/IllegalArgumentException") (by decide +kernel), hNC ("java/util/NoSuchElementException", "java/lang/IllegalArgumentException") (by decide +kernel)⟩, (List.forall_mem_cons.mpr ⟨Or.inr ⟨by decide, "java/lang/UnsupportedOperationException", hts (.classLink RL 23 "java/lang/UnsupportedOperationException") (by decide +kernel), hNC ("java/util/NoSuchElementException", "java/lang/UnsupportedOperationException") (by decide +kernel)⟩, (List.forall_mem_nil _)⟩)⟩)⟩) (by decide) (by decide) (hts (.classLink RL 62 "java/util/NoSuchElementException") (by decide +kernel)) (va_Nw.use rfl (hTH.2.1 (.castable "java/util/NoSuchElementException" "java/util/NoSuchElementException") (by decide +kernel))) hq9 hce hcl ?_
      generalize H1 = H at hP hS ⊢
      refine lv_astore (lv' := [(5, .ref q9), (0, .ref o1), (1, .int x1), (2, .int x2), (3, .int x3), (4, .ref qo)]) hx hb dL_differs_34 hl (by decide) rfl (fun ls hl => ?_)
      refine lv_iconst (v := 4) hx hb dL_differs_36 (by decide) ?_
      refine W.widen (k := 5) (n := 30) (Nat.le_of_ble_eq_true rfl) (Nat.le_of_ble_eq_true rfl) ?_
      subst hXe
      exact W.iret (v := (4 : Int32)) hx hb hr (fun t ht hW9 => ⟨⟨(4 : Int32), (u, fo), rfl, t4, wx_end hP hKX hD ht hW9.alike⟩, hS.F ht⟩) hS.2.2 dL_differs_37 hlocks
  · have w6 := hw
    obtain ⟨hP, hD⟩ := wd_post hFc ht hB
    generalize H1 = H at hP hS ⊢
    obtain ⟨S7, rfl⟩ : ∃ z, z = u := ⟨_, rfl⟩
    have t8 : stp [(0, 3), (0, 4), (0, 5), (0, 6), (17, 100)] [] [] S S7 := t0.tr w6 (by decide) (fun _ q => absurd q List.not_mem_nil)
    have xe9 : ext S S7 := w6.x
    refine lv_if_eq (tgt := 17) hx hb dL_differs_10 (by decide) (fun c10 => ?_) (fun c10 => ?_)
    · have c10i : r2.toInt = 0 := eq_v rfl rfl c10
      refine lv_lconst (v := 0) hx hb dL_differs_17 (by decide) ?_
      subst hXe
      refine va_last hx hb hKX hP hD hS 0 8 rfl rfl (inb (m := 1) rfl (by decide) (by decide)) dL_differs_18 (fun H locs hP2 hD2 hS => ?_)
      have hP : va_P D vwCl ((XO c8 c9 qo qd (vp_updL fo (0 : Int32).toNatClampNeg (0 : Int64)) fd) ++ PL cy S7) H := hP2
      have hD : va_D A ((XO c8 c9 qo qd (vp_updL fo (0 : Int32).toNatClampNeg (0 : Int64)) fd) ++ PL cy S7) := hD2
      clear hP2 hD2
      refine lv_goto (tgt := 38) hx hb dL_differs_19 (by decide) ?_
      refine lv_iconst (v := 0) hx hb dL_differs_38 (by decide) ?_
      refine W.widen (k := 5) (n := 30) (Nat.le_of_ble_eq_true rfl) (Nat.le_of_ble_eq_true rfl) ?_
      exact W.iret (v := (0 : Int32)) hx hb hr (fun t ht hW9 => ⟨⟨(0 : Int32), (S7, (vp_updL fo (0 : Int32).toNatClampNeg (0 : Int64))), rfl, t8, wx_end hP hKX hD ht hW9.alike⟩, hS.F ht⟩) hS.2.2 dL_differs_39 hlocks
    · have c10i : ¬ r2.toInt = 0 := neq_v rfl rfl c10
      refine lv_lconst (v := 1) hx hb dL_differs_13 (by decide) ?_
      refine lv_goto (tgt := 18) hx hb dL_differs_14 (by decide) ?_
      subst hXe
      refine va_last hx hb hKX hP hD hS 0 8 rfl rfl (inb (m := 1) rfl (by decide) (by decide)) dL_differs_18 (fun H locs hP2 hD2 hS => ?_)
      have hP : va_P D vwCl ((XO c8 c9 qo qd (vp_updL fo (0 : Int32).toNatClampNeg (1 : Int64)) fd) ++ PL cy S7) H := hP2
      have hD : va_D A ((XO c8 c9 qo qd (vp_updL fo (0 : Int32).toNatClampNeg (1 : Int64)) fd) ++ PL cy S7) := hD2
      clear hP2 hD2
      refine lv_goto (tgt := 38) hx hb dL_differs_19 (by decide) ?_
      refine lv_iconst (v := 0) hx hb dL_differs_38 (by decide) ?_
      refine W.widen (k := 5) (n := 30) (Nat.le_of_ble_eq_true rfl) (Nat.le_of_ble_eq_true rfl) ?_
      exact W.iret (v := (0 : Int32)) hx hb hr (fun t ht hW9 => ⟨⟨(0 : Int32), (S7, (vp_updL fo (0 : Int32).toNatClampNeg (1 : Int64))), rfl, t8, wx_end hP hKX hD ht hW9.alike⟩, hS.F ht⟩) hS.2.2 dL_differs_39 hlocks
set_option maxHeartbeats 4000000 in
set_option maxRecDepth 100000 in
theorem c_L_shoulder (l : Launch) (hst : l.stackTraces = false) {e0 mi : Nat} {D : va_G} {cy : Nat → ClassId} {c8 c9 : ClassId} (qo qd : Nat) (fo : Nat → Int64) (fd : Nat → UInt64) (S : wPS) (sz : Nat) (o1 : Nat) (h_o1 : isA S o1 9) (x1 : Int32) (x2 : Int32) (hW : wtB S []) : Met l yL_shoulder wsL_shoulder ({ frames := 8, cells := 2, slots := 12, locals := 128 }) (va_Pc [.ref o1, .int x1, .int x2, .ref qo] (fun U => U.heap.size = sz ∧ WX D cy c8 c9 (XO c8 c9 qo qd fo fd) (fun _ => True) S U ∧ NW U ∧ TH (va_A (XO c8 c9 qo qd fo fd ++ PL cy S) sz) U ∧ OU e0 mi (va_A (XO c8 c9 qo qd fo fd ++ PL cy S) sz) U U.heap ∧ NC U)) (va_Qi (fun (r : Int32) (u : wPS × (Nat → Int64)) => stp [(2, 8)] [] [] S u.1) (fun u t => WX D cy c8 c9 (XO c8 c9 qo qd u.2 fd) (va_A (XO c8 c9 qo qd fo fd ++ PL cy S) sz) u.1 t) (va_A (XO c8 c9 qo qd fo fd ++ PL cy S) sz)) 2 12 (va_A (XO c8 c9 qo qd fo fd ++ PL cy S) sz) := by
  refine Met.ofWH (cc := cL_shoulder) (maxL := 5) (ret := (some .int)) (by decide) rfl ?_
  intro p e s m args below meth c s₁ B hml hv
  obtain ⟨rfl, hsz, ⟨hP, hKX, hD0⟩, hN, hTH, hOU, hNC⟩ := hv
  have hx := B.exec
  have hb := B.bytes
  have hr := B.returns
  have hts := atoms_spec (ws := wsL_shoulder) B.pre
  have hown : s.vm.findClass RL = some m.cls := findClass_of_methodNamed (x := yL_shoulder) B.named
  have hlocks := B.notSynchronized
  have htab := vx_table (x := yL_shoulder) B (hts (.codeWith yL_shoulder cL_shoulder 5 (some .int) [(0, 10, 13, 21), (0, 10, 17, 13)]) List.mem_cons_self)
  have hK := kX hKX
  subst hsz
  have hD := hD0.self (sz := s.heap.size)
  generalize hAe : va_A (XO c8 c9 qo qd fo fd ++ PL cy S) s.heap.size = A at hD hTH hOU ⊢
  generalize hXe : XO c8 c9 qo qd fo fd = X at hP hD
  have hA : ∀ q : Nat, s.heap.size ≤ q → A q := fun q h => by rw [← hAe]; exact Or.inr h
  have hS : va_S A s.heap s.heap [] := va_S.rf
  have hl := lv_entry ([.ref o1, .int x1, .int x2, .ref qo]) (n := 5) (Nat.le_of_ble_eq_true rfl)
  rw [lg_entry_eq]
  generalize (lg_sl ([.ref o1, .int x1, .int x2, .ref qo]) ++ List.replicate (5 - (lg_sl ([.ref o1, .int x1, .int x2, .ref qo])).length) Slot.unset).toArray = ls at hl ⊢
  have hl : lv_has ls 5 [(0, .ref o1), (1, .int x1), (2, .int x2), (3, .ref qo)] := hl
  have t0 : stp [(2, 8)] [] [] S S := stp.rf hW
  refine lv_aload_n hx hb dL_shoulder_0 rfl (lv_at hl 3 rfl) ?_
  refine lv_iconst (v := 0) hx hb dL_shoulder_1 (by decide) ?_
  refine lv_aload_n hx hb dL_shoulder_2 rfl (lv_at hl 0 rfl) ?_
  refine lv_iload_n hx hb dL_shoulder_3 rfl (lv_at hl 1 rfl) ?_
  refine lv_iload_n hx hb dL_shoulder_4 rfl (lv_at hl 2 rfl) ?_
  have hFc := free_all hD hS hA
  obtain ⟨k1, gk1, hk1⟩ := wGt (cy := cy) X S h_o1.1 h_o1.2.1
  refine vx_calli (vx_runV (As := [.int x1, .int x2]) (rest := [.int (0 : Int32), .ref qo]) ⟨hx, hb, hml, hown, hts⟩ (c_X9_shoulder l hst (cy := cy) (X := X) (D := D) S _ o1 h_o1 x1 x2 (hW)) (cwV 2 hts gL_shoulder_X9_shoulder rfl rfl rfl hd_X9_shoulder ⟨Nat.le_of_ble_eq_true rfl, Nat.le_of_ble_eq_true rfl⟩) (pVt (va_recv hK hP (q := (RX9, TX9, 11)) (ci := 13) (q0 := k1) rfl hk1) hP hK hD hN hTH hS hFc) rfl rfl hl.1 rfl (lv_room (Nat.le_of_ble_eq_true rfl)) dL_shoulder_5 ⟨Nat.le_of_ble_eq_true rfl, Nat.le_of_ble_eq_true rfl⟩) hS (fun q _ h => hFc q h) hFc (fun q _ h => hFc q h) (fun E ce q9 u t H1 locs ht hvm hw hB hz1 hk1 hS hq9 hce hcl => ?_) (fun r2 u t H1 locs ht hvm hw hB hz1 hk1 hS => ?_)
  · obtain ⟨c3, hEc3, hXc3, hB2⟩ := hB
    obtain ⟨hP, hD⟩ := wd_post hFc ht hB2
    have t4 : stp [(2, 8)] [] [] S u := t0.tr hw (by decide) (fun _ q => absurd q List.not_mem_nil)
    have xe5 : ext S u := hw.x
    have hE9 := hEc3
    simp only [List.mem_cons, List.not_mem_nil, or_false] at hE9
    clear hEc3
    rcases hE9 with rfl | rfl
    · refine vx_catch (own := RL) (name := "java/lang/IllegalArgumentException") hown [⟨0, 10, 13, 21⟩] ⟨0, 10, 17, 13⟩ [] (htab.trans rfl) (List.forall_mem_cons.mpr ⟨Or.inr ⟨by decide, "java/lang/IndexOutOfBoundsException", hts (.classLink RL 21 "java/lang/IndexOutOfBoundsException") (by decide +kernel), hNC ("java/lang/IllegalArgumentException", "java/lang/IndexOutOfBoundsException") (by decide +kernel)⟩, (List.forall_mem_nil _)⟩) (by decide) (by decide) (hts (.classLink RL 13 "java/lang/IllegalArgumentException") (by decide +kernel)) (va_Nw.use rfl (hTH.2.1 (.castable "java/lang/IllegalArgumentException" "java/lang/IllegalArgumentException") (by decide +kernel))) hq9 hce hcl ?_
      generalize H1 = H at hP hS ⊢
      refine lv_astore (lv' := [(4, .ref q9), (0, .ref o1), (1, .int x1), (2, .int x2), (3, .ref qo)]) hx hb dL_shoulder_17 hl (by decide) rfl (fun ls hl => ?_)
      refine lv_iconst (v := 2) hx hb dL_shoulder_19 (by decide) ?_
      refine W.widen (k := 2) (n := 12) (Nat.le_of_ble_eq_true rfl) (Nat.le_of_ble_eq_true rfl) ?_
      subst hXe
      exact W.iret (v := (2 : Int32)) hx hb hr (fun t ht hW9 => ⟨⟨(2 : Int32), (u, fo), rfl, t4, wx_end hP hKX hD ht hW9.alike⟩, hS.F ht⟩) hS.2.2 dL_shoulder_20 hlocks
    · refine vx_catch (own := RL) (name := "java/lang/IndexOutOfBoundsException") hown [] ⟨0, 10, 13, 21⟩ [⟨0, 10, 17, 13⟩] (htab.trans rfl) (List.forall_mem_nil _) (by decide) (by decide) (hts (.classLink RL 21 "java/lang/IndexOutOfBoundsException") (by decide +kernel)) (va_Nw.use rfl (hTH.2.1 (.castable "java/lang/IndexOutOfBoundsException" "java/lang/IndexOutOfBoundsException") (by decide +kernel))) hq9 hce hcl ?_
      generalize H1 = H at hP hS ⊢
      refine lv_astore (lv' := [(4, .ref q9), (0, .ref o1), (1, .int x1), (2, .int x2), (3, .ref qo)]) hx hb dL_shoulder_13 hl (by decide) rfl (fun ls hl => ?_)
      refine lv_iconst (v := 1) hx hb dL_shoulder_15 (by decide) ?_
      refine W.widen (k := 2) (n := 12) (Nat.le_of_ble_eq_true rfl) (Nat.le_of_ble_eq_true rfl) ?_
      subst hXe
      exact W.iret (v := (1 : Int32)) hx hb hr (fun t ht hW9 => ⟨⟨(1 : Int32), (u, fo), rfl, t4, wx_end hP hKX hD ht hW9.alike⟩, hS.F ht⟩) hS.2.2 dL_shoulder_16 hlocks
  · obtain ⟨c6, w7⟩ := hw
    obtain ⟨hP, hD⟩ := wd_post hFc ht hB
    generalize H1 = H at hP hS ⊢
    obtain ⟨S8, rfl⟩ : ∃ z, z = u := ⟨_, rfl⟩
    have t9 : stp [(2, 8)] [] [] S S8 := t0.tr w7 (by decide) (fun _ q => absurd q List.not_mem_nil)
    have xe10 : ext S S8 := w7.x
    refine lv_i2l hx hb dL_shoulder_8 rfl ?_
    subst hXe
    refine va_last hx hb hKX hP hD hS 0 8 rfl rfl (inb (m := 1) rfl (by decide) (by decide)) dL_shoulder_9 (fun H locs hP2 hD2 hS => ?_)
    have hP : va_P D vwCl ((XO c8 c9 qo qd (vp_updL fo (0 : Int32).toNatClampNeg r2.toInt64) fd) ++ PL cy S8) H := hP2
    have hD : va_D A ((XO c8 c9 qo qd (vp_updL fo (0 : Int32).toNatClampNeg r2.toInt64) fd) ++ PL cy S8) := hD2
    clear hP2 hD2
    refine lv_goto (tgt := 21) hx hb dL_shoulder_10 (by decide) ?_
    refine lv_iconst (v := 0) hx hb dL_shoulder_21 (by decide) ?_
    refine W.widen (k := 2) (n := 12) (Nat.le_of_ble_eq_true rfl) (Nat.le_of_ble_eq_true rfl) ?_
    exact W.iret (v := (0 : Int32)) hx hb hr (fun t ht hW9 => ⟨⟨(0 : Int32), (S8, (vp_updL fo (0 : Int32).toNatClampNeg r2.toInt64)), rfl, t9, wx_end hP hKX hD ht hW9.alike⟩, hS.F ht⟩) hS.2.2 dL_shoulder_22 hlocks
set_option maxHeartbeats 4000000 in
set_option maxRecDepth 100000 in
theorem c_L_approach (l : Launch) (hst : l.stackTraces = false) {e0 mi : Nat} {D : va_G} {cy : Nat → ClassId} {c8 c9 : ClassId} (qo qd : Nat) (fo : Nat → Int64) (fd : Nat → UInt64) (S : wPS) (sz : Nat) (o1 : Nat) (h_o1 : isA S o1 9) (x1 : Int32) (hW : wtB S []) : Met l yL_approach wsL_approach ({ frames := 8, cells := 1, slots := 6, locals := 124 }) (va_Pc [.ref o1, .int x1, .ref qo] (fun U => U.heap.size = sz ∧ WX D cy c8 c9 (XO c8 c9 qo qd fo fd) (fun _ => True) S U ∧ NW U ∧ TH (va_A (XO c8 c9 qo qd fo fd ++ PL cy S) sz) U ∧ OU e0 mi (va_A (XO c8 c9 qo qd fo fd ++ PL cy S) sz) U U.heap ∧ NC U)) (va_Qi (fun (r : Int32) (u : wPS × (Nat → Int64)) => stp ([] : List (Nat × Nat)) [] [] S u.1) (fun u t => WX D cy c8 c9 (XO c8 c9 qo qd u.2 fd) (va_A (XO c8 c9 qo qd fo fd ++ PL cy S) sz) u.1 t) (va_A (XO c8 c9 qo qd fo fd ++ PL cy S) sz)) 1 6 (va_A (XO c8 c9 qo qd fo fd ++ PL cy S) sz) := by
  refine Met.ofWH (cc := cL_approach) (maxL := 4) (ret := (some .int)) (by decide) rfl ?_
  intro p e s m args below meth c s₁ B hml hv
  obtain ⟨rfl, hsz, ⟨hP, hKX, hD0⟩, hN, hTH, hOU, hNC⟩ := hv
  have hx := B.exec
  have hb := B.bytes
  have hr := B.returns
  have hts := atoms_spec (ws := wsL_approach) B.pre
  have hown : s.vm.findClass RL = some m.cls := findClass_of_methodNamed (x := yL_approach) B.named
  have hlocks := B.notSynchronized
  have htab := vx_table (x := yL_approach) B (hts (.codeWith yL_approach cL_approach 4 (some .int) [(0, 9, 12, 21)]) List.mem_cons_self)
  have hK := kX hKX
  subst hsz
  have hD := hD0.self (sz := s.heap.size)
  generalize hAe : va_A (XO c8 c9 qo qd fo fd ++ PL cy S) s.heap.size = A at hD hTH hOU ⊢
  generalize hXe : XO c8 c9 qo qd fo fd = X at hP hD
  have hA : ∀ q : Nat, s.heap.size ≤ q → A q := fun q h => by rw [← hAe]; exact Or.inr h
  have hS : va_S A s.heap s.heap [] := va_S.rf
  have hl := lv_entry ([.ref o1, .int x1, .ref qo]) (n := 4) (Nat.le_of_ble_eq_true rfl)
  rw [lg_entry_eq]
  generalize (lg_sl ([.ref o1, .int x1, .ref qo]) ++ List.replicate (4 - (lg_sl ([.ref o1, .int x1, .ref qo])).length) Slot.unset).toArray = ls at hl ⊢
  have hl : lv_has ls 4 [(0, .ref o1), (1, .int x1), (2, .ref qo)] := hl
  have t0 : stp ([] : List (Nat × Nat)) [] [] S S := stp.rf hW
  refine lv_aload_n hx hb dL_approach_0 rfl (lv_at hl 2 rfl) ?_
  refine lv_iconst (v := 0) hx hb dL_approach_1 (by decide) ?_
  refine lv_aload_n hx hb dL_approach_2 rfl (lv_at hl 0 rfl) ?_
  refine lv_iload_n hx hb dL_approach_3 rfl (lv_at hl 1 rfl) ?_
  have hFc := free_all hD hS hA
  obtain ⟨k1, gk1, hk1⟩ := wGt (cy := cy) X S h_o1.1 h_o1.2.1
  refine vx_calli (vx_runV (As := [.int x1]) (rest := [.int (0 : Int32), .ref qo]) ⟨hx, hb, hml, hown, hts⟩ (c_X9_approach l hst (cy := cy) (X := X) (D := D) S _ o1 h_o1 x1 (hW)) (cwV 1 hts gL_approach_X9_approach rfl rfl rfl hd_X9_approach ⟨Nat.le_of_ble_eq_true rfl, Nat.le_of_ble_eq_true rfl⟩) (pVt (va_recv hK hP (q := (RX9, TX9, 11)) (ci := 13) (q0 := k1) rfl hk1) hP hK hD hN hTH hS hFc) rfl rfl hl.1 rfl (lv_room (Nat.le_of_ble_eq_true rfl)) dL_approach_4 ⟨Nat.le_of_ble_eq_true rfl, Nat.le_of_ble_eq_true rfl⟩) hS (fun q _ h => hFc q h) hFc (fun q _ h => hFc q h) (fun E ce q9 u t H1 locs ht hvm hw hB hz1 hk1 hS hq9 hce hcl => ?_) (fun r2 u t H1 locs ht hvm hw hB hz1 hk1 hS => ?_)
  · obtain ⟨c3, hEc3, hB2⟩ := hB
    obtain ⟨hP, hD⟩ := wd_post hFc ht hB2
    have hE9 := hEc3
    simp only [List.mem_cons, List.not_mem_nil, or_false] at hE9
    clear hEc3
    subst hE9
    refine vx_catch (own := RL) (name := "java/lang/IndexOutOfBoundsException") hown [] ⟨0, 9, 12, 21⟩ [] (htab.trans rfl) (List.forall_mem_nil _) (by decide) (by decide) (hts (.classLink RL 21 "java/lang/IndexOutOfBoundsException") (by decide +kernel)) (va_Nw.use rfl (hTH.2.1 (.castable "java/lang/IndexOutOfBoundsException" "java/lang/IndexOutOfBoundsException") (by decide +kernel))) hq9 hce hcl ?_
    generalize H1 = H at hP hS ⊢
    refine lv_astore_n (lv' := [(3, .ref q9), (0, .ref o1), (1, .int x1), (2, .ref qo)]) hx hb dL_approach_12 rfl hl (by decide) rfl (fun ls hl => ?_)
    refine lv_iconst (v := 1) hx hb dL_approach_13 (by decide) ?_
    refine W.widen (k := 1) (n := 6) (Nat.le_of_ble_eq_true rfl) (Nat.le_of_ble_eq_true rfl) ?_
    subst hXe
    exact W.iret (v := (1 : Int32)) hx hb hr (fun t ht hW9 => ⟨⟨(1 : Int32), (S, fo), rfl, t0, wx_end hP hKX hD ht hW9.alike⟩, hS.F ht⟩) hS.2.2 dL_approach_14 hlocks
  · have c4 := hw
    obtain ⟨hP, hD⟩ := wd_post hFc ht hB
    generalize H1 = H at hP hS ⊢
    refine lv_i2l hx hb dL_approach_7 rfl ?_
    subst hXe
    refine va_last hx hb hKX hP hD hS 0 8 rfl rfl (inb (m := 1) rfl (by decide) (by decide)) dL_approach_8 (fun H locs hP2 hD2 hS => ?_)
    have hP : va_P D vwCl ((XO c8 c9 qo qd (vp_updL fo (0 : Int32).toNatClampNeg r2.toInt64) fd) ++ PL cy S) H := hP2
    have hD : va_D A ((XO c8 c9 qo qd (vp_updL fo (0 : Int32).toNatClampNeg r2.toInt64) fd) ++ PL cy S) := hD2
    clear hP2 hD2
    refine lv_goto (tgt := 15) hx hb dL_approach_9 (by decide) ?_
    refine lv_iconst (v := 0) hx hb dL_approach_15 (by decide) ?_
    refine W.widen (k := 1) (n := 6) (Nat.le_of_ble_eq_true rfl) (Nat.le_of_ble_eq_true rfl) ?_
    exact W.iret (v := (0 : Int32)) hx hb hr (fun t ht hW9 => ⟨⟨(0 : Int32), (S, (vp_updL fo (0 : Int32).toNatClampNeg r2.toInt64)), rfl, t0, wx_end hP hKX hD ht hW9.alike⟩, hS.F ht⟩) hS.2.2 dL_approach_16 hlocks
set_option maxHeartbeats 4000000 in
set_option maxRecDepth 100000 in
theorem c_L_cut (l : Launch) (hst : l.stackTraces = false) {e0 mi : Nat} {D : va_G} {cy : Nat → ClassId} {c8 c9 : ClassId} (qo qd : Nat) (fo : Nat → Int64) (fd : Nat → UInt64) (S : wPS) (sz : Nat) (o1 : Nat) (h_o1 : isA S o1 9) (x1 : Int32) (x2 : Int32) (x3 : Int32) (hW : wtB S []) : Met l yL_cut wsL_cut ({ frames := 8, cells := 4, slots := 24, locals := 129 }) (va_Pc [.ref o1, .int x1, .int x2, .int x3, .ref qo] (fun U => U.heap.size = sz ∧ WX D cy c8 c9 (XO c8 c9 qo qd fo fd) (fun _ => True) S U ∧ NW U ∧ TH (va_A (XO c8 c9 qo qd fo fd ++ PL cy S) sz) U ∧ OU e0 mi (va_A (XO c8 c9 qo qd fo fd ++ PL cy S) sz) U U.heap ∧ NC U)) (va_Qi (fun (r : Int32) (u : wPS × (Nat → Int64)) => stp [(2, 9), (2, 10), (2, 11), (2, 12), (3, 5), (28, 100)] [] [] S u.1) (fun u t => WX D cy c8 c9 (XO c8 c9 qo qd u.2 fd) (va_A (XO c8 c9 qo qd fo fd ++ PL cy S) sz) u.1 t) (va_A (XO c8 c9 qo qd fo fd ++ PL cy S) sz)) 4 24 (va_A (XO c8 c9 qo qd fo fd ++ PL cy S) sz) := by
  refine Met.ofWH (cc := cL_cut) (maxL := 6) (ret := (some .int)) (by decide) rfl ?_
  intro p e s m args below meth c s₁ B hml hv
  obtain ⟨rfl, hsz, ⟨hP, hKX, hD0⟩, hN, hTH, hOU, hNC⟩ := hv
  have hx := B.exec
  have hb := B.bytes
  have hr := B.returns
  have hts := atoms_spec (ws := wsL_cut) B.pre
  have hown : s.vm.findClass RL = some m.cls := findClass_of_methodNamed (x := yL_cut) B.named
  have hlocks := B.notSynchronized
  have htab := vx_table (x := yL_cut) B (hts (.codeWith yL_cut cL_cut 6 (some .int) [(0, 12, 15, 21), (0, 12, 19, 13), (0, 12, 23, 23)]) List.mem_cons_self)
  have hK := kX hKX
  subst hsz
  have hD := hD0.self (sz := s.heap.size)
  generalize hAe : va_A (XO c8 c9 qo qd fo fd ++ PL cy S) s.heap.size = A at hD hTH hOU ⊢
  generalize hXe : XO c8 c9 qo qd fo fd = X at hP hD
  have hA : ∀ q : Nat, s.heap.size ≤ q → A q := fun q h => by rw [← hAe]; exact Or.inr h
  have hS : va_S A s.heap s.heap [] := va_S.rf
  have hl := lv_entry ([.ref o1, .int x1, .int x2, .int x3, .ref qo]) (n := 6) (Nat.le_of_ble_eq_true rfl)
  rw [lg_entry_eq]
  generalize (lg_sl ([.ref o1, .int x1, .int x2, .int x3, .ref qo]) ++ List.replicate (6 - (lg_sl ([.ref o1, .int x1, .int x2, .int x3, .ref qo])).length) Slot.unset).toArray = ls at hl ⊢
  have hl : lv_has ls 6 [(0, .ref o1), (1, .int x1), (2, .int x2), (3, .int x3), (4, .ref qo)] := hl
  have t0 : stp [(2, 9), (2, 10), (2, 11), (2, 12), (3, 5), (28, 100)] [] [] S S := stp.rf hW
  refine lv_aload hx hb dL_cut_0 (lv_at hl 4 rfl) ?_
  refine lv_iconst (v := 0) hx hb dL_cut_2 (by decide) ?_
  refine lv_aload_n hx hb dL_cut_3 rfl (lv_at hl 0 rfl) ?_
  refine lv_iload_n hx hb dL_cut_4 rfl (lv_at hl 1 rfl) ?_
  refine lv_iload_n hx hb dL_cut_5 rfl (lv_at hl 2 rfl) ?_
  refine lv_iload_n hx hb dL_cut_6 rfl (lv_at hl 3 rfl) ?_
  have hFc := free_all hD hS hA
  obtain ⟨k1, gk1, hk1⟩ := wGt (cy := cy) X S h_o1.1 h_o1.2.1
  refine vx_calli (vx_runV (As := [.int x1, .int x2, .int x3]) (rest := [.int (0 : Int32), .ref qo]) ⟨hx, hb, hml, hown, hts⟩ (c_X9_cut l hst (cy := cy) (X := X) (D := D) S _ o1 h_o1 x1 x2 x3 (hW)) (cwV 3 hts gL_cut_X9_cut rfl rfl rfl hd_X9_cut ⟨Nat.le_of_ble_eq_true rfl, Nat.le_of_ble_eq_true rfl⟩) (pVt (va_recv hK hP (q := (RX9, TX9, 11)) (ci := 13) (q0 := k1) rfl hk1) hP hK hD hN hTH hS hFc) rfl rfl hl.1 rfl (lv_room (Nat.le_of_ble_eq_true rfl)) dL_cut_7 ⟨Nat.le_of_ble_eq_true rfl, Nat.le_of_ble_eq_true rfl⟩) hS (fun q _ h => hFc q h) hFc (fun q _ h => hFc q h) (fun E ce q9 u t H1 locs ht hvm hw hB hz1 hk1 hS hq9 hce hcl => ?_) (fun r2 u t H1 locs ht hvm hw hB hz1 hk1 hS => ?_)
  · obtain ⟨c3, hEc3, hB2⟩ := hB
    obtain ⟨hP, hD⟩ := wd_post hFc ht hB2
    have t4 : stp [(2, 9), (2, 10), (2, 11), (2, 12), (3, 5), (28, 100)] [] [] S u := t0.tr hw (by decide) (fun _ q => absurd q List.not_mem_nil)
    have xe5 : ext S u := hw.x
    have hE9 := hEc3
    simp only [List.mem_cons, List.not_mem_nil, or_false] at hE9
    clear hEc3
    rcases hE9 with rfl | rfl | rfl
    · refine vx_catch (own := RL) (name := "java/lang/IllegalArgumentException") hown [⟨0, 12, 15, 21⟩] ⟨0, 12, 19, 13⟩ [⟨0, 12, 23, 23⟩] (htab.trans rfl) (List.forall_mem_cons.mpr ⟨Or.inr ⟨by decide, "java/lang/IndexOutOfBoundsException", hts (.classLink RL 21 "java/lang/IndexOutOfBoundsException") (by decide +kernel), hNC ("java/lang/IllegalArgumentException", "java/lang/IndexOutOfBoundsException") (by decide +kernel)⟩, (List.forall_mem_nil _)⟩) (by decide) (by decide) (hts (.classLink RL 13 "java/lang/IllegalArgumentException") (by decide +kernel)) (va_Nw.use rfl (hTH.2.1 (.castable "java/lang/IllegalArgumentException" "java/lang/IllegalArgumentException") (by decide +kernel))) hq9 hce hcl ?_
      generalize H1 = H at hP hS ⊢
      refine lv_astore (lv' := [(5, .ref q9), (0, .ref o1), (1, .int x1), (2, .int x2), (3, .int x3), (4, .ref qo)]) hx hb dL_cut_19 hl (by decide) rfl (fun ls hl => ?_)
      refine lv_iconst (v := 2) hx hb dL_cut_21 (by decide) ?_
      refine W.widen (k := 4) (n := 24) (Nat.le_of_ble_eq_true rfl) (Nat.le_of_ble_eq_true rfl) ?_
      subst hXe
      exact W.iret (v := (2 : Int32)) hx hb hr (fun t ht hW9 => ⟨⟨(2 : Int32), (u, fo), rfl, t4, wx_end hP hKX hD ht hW9.alike⟩, hS.F ht⟩) hS.2.2 dL_cut_22 hlocks
    · refine vx_catch (own := RL) (name := "java/lang/IndexOutOfBoundsException") hown [] ⟨0, 12, 15, 21⟩ [⟨0, 12, 19, 13⟩, ⟨0, 12, 23, 23⟩] (htab.trans rfl) (List.forall_mem_nil _) (by decide) (by decide) (hts (.classLink RL 21 "java/lang/IndexOutOfBoundsException") (by decide +kernel)) (va_Nw.use rfl (hTH.2.1 (.castable "java/lang/IndexOutOfBoundsException" "java/lang/IndexOutOfBoundsException") (by decide +kernel))) hq9 hce hcl ?_
      generalize H1 = H at hP hS ⊢
      refine lv_astore (lv' := [(5, .ref q9), (0, .ref o1), (1, .int x1), (2, .int x2), (3, .int x3), (4, .ref qo)]) hx hb dL_cut_15 hl (by decide) rfl (fun ls hl => ?_)
      refine lv_iconst (v := 1) hx hb dL_cut_17 (by decide) ?_
      refine W.widen (k := 4) (n := 24) (Nat.le_of_ble_eq_true rfl) (Nat.le_of_ble_eq_true rfl) ?_
      subst hXe
      exact W.iret (v := (1 : Int32)) hx hb hr (fun t ht hW9 => ⟨⟨(1 : Int32), (u, fo), rfl, t4, wx_end hP hKX hD ht hW9.alike⟩, hS.F ht⟩) hS.2.2 dL_cut_18 hlocks
    · refine vx_catch (own := RL) (name := "java/lang/UnsupportedOperationException") hown [⟨0, 12, 15, 21⟩, ⟨0, 12, 19, 13⟩] ⟨0, 12, 23, 23⟩ [] (htab.trans rfl) (List.forall_mem_cons.mpr ⟨Or.inr ⟨by decide, "java/lang/IndexOutOfBoundsException", hts (.classLink RL 21 "java/lang/IndexOutOfBoundsException") (by decide +kernel), hNC ("java/lang/UnsupportedOperationException", "java/lang/IndexOutOfBoundsException") (by decide +kernel)⟩, (List.forall_mem_cons.mpr ⟨Or.inr ⟨by decide, "java/lang/IllegalArgumentException", hts (.classLink RL 13 "java/lang/IllegalArgumentException") (by decide +kernel), hNC ("java/lang/UnsupportedOperationException", "java/lang/IllegalArgumentException") (by decide +kernel)⟩, (List.forall_mem_nil _)⟩)⟩) (by decide) (by decide) (hts (.classLink RL 23 "java/lang/UnsupportedOperationException") (by decide +kernel)) (va_Nw.use rfl (hTH.2.1 (.castable "java/lang/UnsupportedOperationException" "java/lang/UnsupportedOperationException") (by decide +kernel))) hq9 hce hcl ?_
      generalize H1 = H at hP hS ⊢
      refine lv_astore (lv' := [(5, .ref q9), (0, .ref o1), (1, .int x1), (2, .int x2), (3, .int x3), (4, .ref qo)]) hx hb dL_cut_23 hl (by decide) rfl (fun ls hl => ?_)
      refine lv_iconst (v := 3) hx hb dL_cut_25 (by decide) ?_
      refine W.widen (k := 4) (n := 24) (Nat.le_of_ble_eq_true rfl) (Nat.le_of_ble_eq_true rfl) ?_
      subst hXe
      exact W.iret (v := (3 : Int32)) hx hb hr (fun t ht hW9 => ⟨⟨(3 : Int32), (u, fo), rfl, t4, wx_end hP hKX hD ht hW9.alike⟩, hS.F ht⟩) hS.2.2 dL_cut_26 hlocks
  · obtain ⟨c6, w7⟩ := hw
    obtain ⟨hP, hD⟩ := wd_post hFc ht hB
    generalize H1 = H at hP hS ⊢
    obtain ⟨S8, rfl⟩ : ∃ z, z = u := ⟨_, rfl⟩
    have t9 : stp [(2, 9), (2, 10), (2, 11), (2, 12), (3, 5), (28, 100)] [] [] S S8 := t0.tr w7 (by decide) (fun _ q => absurd q List.not_mem_nil)
    have xe10 : ext S S8 := w7.x
    refine lv_i2l hx hb dL_cut_10 rfl ?_
    subst hXe
    refine va_last hx hb hKX hP hD hS 0 8 rfl rfl (inb (m := 1) rfl (by decide) (by decide)) dL_cut_11 (fun H locs hP2 hD2 hS => ?_)
    have hP : va_P D vwCl ((XO c8 c9 qo qd (vp_updL fo (0 : Int32).toNatClampNeg r2.toInt64) fd) ++ PL cy S8) H := hP2
    have hD : va_D A ((XO c8 c9 qo qd (vp_updL fo (0 : Int32).toNatClampNeg r2.toInt64) fd) ++ PL cy S8) := hD2
    clear hP2 hD2
    refine lv_goto (tgt := 27) hx hb dL_cut_12 (by decide) ?_
    refine lv_iconst (v := 0) hx hb dL_cut_27 (by decide) ?_
    refine W.widen (k := 4) (n := 24) (Nat.le_of_ble_eq_true rfl) (Nat.le_of_ble_eq_true rfl) ?_
    exact W.iret (v := (0 : Int32)) hx hb hr (fun t ht hW9 => ⟨⟨(0 : Int32), (S8, (vp_updL fo (0 : Int32).toNatClampNeg r2.toInt64)), rfl, t9, wx_end hP hKX hD ht hW9.alike⟩, hS.F ht⟩) hS.2.2 dL_cut_28 hlocks
set_option maxHeartbeats 4000000 in
set_option maxRecDepth 100000 in
theorem c_L_wear (l : Launch) (hst : l.stackTraces = false) {e0 mi : Nat} {D : va_G} {cy : Nat → ClassId} {c8 c9 : ClassId} (qo qd : Nat) (fo : Nat → Int64) (fd : Nat → UInt64) (S : wPS) (sz : Nat) (o1 : Nat) (h_o1 : isA S o1 9) (x1 : Int32) (x2 : Int32) (hW : wtB S []) : Met l yL_wear wsL_wear ({ frames := 8, cells := 2, slots := 12, locals := 126 }) (va_Pc [.ref o1, .int x1, .int x2, .ref qo] (fun U => U.heap.size = sz ∧ WX D cy c8 c9 (XO c8 c9 qo qd fo fd) (fun _ => True) S U ∧ NW U ∧ TH (va_A (XO c8 c9 qo qd fo fd ++ PL cy S) sz) U ∧ OU e0 mi (va_A (XO c8 c9 qo qd fo fd ++ PL cy S) sz) U U.heap ∧ NC U)) (va_Qi (fun (r : Int32) (u : wPS × (Nat → Int64)) => stp ([] : List (Nat × Nat)) [] [] S u.1) (fun u t => WX D cy c8 c9 (XO c8 c9 qo qd u.2 fd) (va_A (XO c8 c9 qo qd fo fd ++ PL cy S) sz) u.1 t) (va_A (XO c8 c9 qo qd fo fd ++ PL cy S) sz)) 2 12 (va_A (XO c8 c9 qo qd fo fd ++ PL cy S) sz) := by
  refine Met.ofWH (cc := cL_wear) (maxL := 5) (ret := (some .int)) (by decide) rfl ?_
  intro p e s m args below meth c s₁ B hml hv
  obtain ⟨rfl, hsz, ⟨hP, hKX, hD0⟩, hN, hTH, hOU, hNC⟩ := hv
  have hx := B.exec
  have hb := B.bytes
  have hr := B.returns
  have hts := atoms_spec (ws := wsL_wear) B.pre
  have hown : s.vm.findClass RL = some m.cls := findClass_of_methodNamed (x := yL_wear) B.named
  have hlocks := B.notSynchronized
  have htab := vx_table (x := yL_wear) B (hts (.codeWith yL_wear cL_wear 5 (some .int) [(0, 10, 13, 21)]) List.mem_cons_self)
  have hK := kX hKX
  subst hsz
  have hD := hD0.self (sz := s.heap.size)
  generalize hAe : va_A (XO c8 c9 qo qd fo fd ++ PL cy S) s.heap.size = A at hD hTH hOU ⊢
  generalize hXe : XO c8 c9 qo qd fo fd = X at hP hD
  have hA : ∀ q : Nat, s.heap.size ≤ q → A q := fun q h => by rw [← hAe]; exact Or.inr h
  have hS : va_S A s.heap s.heap [] := va_S.rf
  have hl := lv_entry ([.ref o1, .int x1, .int x2, .ref qo]) (n := 5) (Nat.le_of_ble_eq_true rfl)
  rw [lg_entry_eq]
  generalize (lg_sl ([.ref o1, .int x1, .int x2, .ref qo]) ++ List.replicate (5 - (lg_sl ([.ref o1, .int x1, .int x2, .ref qo])).length) Slot.unset).toArray = ls at hl ⊢
  have hl : lv_has ls 5 [(0, .ref o1), (1, .int x1), (2, .int x2), (3, .ref qo)] := hl
  have t0 : stp ([] : List (Nat × Nat)) [] [] S S := stp.rf hW
  refine lv_aload_n hx hb dL_wear_0 rfl (lv_at hl 3 rfl) ?_
  refine lv_iconst (v := 0) hx hb dL_wear_1 (by decide) ?_
  refine lv_aload_n hx hb dL_wear_2 rfl (lv_at hl 0 rfl) ?_
  refine lv_iload_n hx hb dL_wear_3 rfl (lv_at hl 1 rfl) ?_
  refine lv_iload_n hx hb dL_wear_4 rfl (lv_at hl 2 rfl) ?_
  have hFc := free_all hD hS hA
  obtain ⟨k1, gk1, hk1⟩ := wGt (cy := cy) X S h_o1.1 h_o1.2.1
  refine vx_calli (vx_runV (As := [.int x1, .int x2]) (rest := [.int (0 : Int32), .ref qo]) ⟨hx, hb, hml, hown, hts⟩ (c_X9_wear l hst (cy := cy) (X := X) (D := D) S _ o1 h_o1 x1 x2 (hW)) (cwV 2 hts gL_wear_X9_wear rfl rfl rfl hd_X9_wear ⟨Nat.le_of_ble_eq_true rfl, Nat.le_of_ble_eq_true rfl⟩) (pVt (va_recv hK hP (q := (RX9, TX9, 11)) (ci := 13) (q0 := k1) rfl hk1) hP hK hD hN hTH hS hFc) rfl rfl hl.1 rfl (lv_room (Nat.le_of_ble_eq_true rfl)) dL_wear_5 ⟨Nat.le_of_ble_eq_true rfl, Nat.le_of_ble_eq_true rfl⟩) hS (fun q _ h => hFc q h) hFc (fun q _ h => hFc q h) (fun E ce q9 u t H1 locs ht hvm hw hB hz1 hk1 hS hq9 hce hcl => ?_) (fun r2 u t H1 locs ht hvm hw hB hz1 hk1 hS => ?_)
  · obtain ⟨c3, hEc3, hB2⟩ := hB
    obtain ⟨hP, hD⟩ := wd_post hFc ht hB2
    have hE9 := hEc3
    simp only [List.mem_cons, List.not_mem_nil, or_false] at hE9
    clear hEc3
    subst hE9
    refine vx_catch (own := RL) (name := "java/lang/IndexOutOfBoundsException") hown [] ⟨0, 10, 13, 21⟩ [] (htab.trans rfl) (List.forall_mem_nil _) (by decide) (by decide) (hts (.classLink RL 21 "java/lang/IndexOutOfBoundsException") (by decide +kernel)) (va_Nw.use rfl (hTH.2.1 (.castable "java/lang/IndexOutOfBoundsException" "java/lang/IndexOutOfBoundsException") (by decide +kernel))) hq9 hce hcl ?_
    generalize H1 = H at hP hS ⊢
    refine lv_astore (lv' := [(4, .ref q9), (0, .ref o1), (1, .int x1), (2, .int x2), (3, .ref qo)]) hx hb dL_wear_13 hl (by decide) rfl (fun ls hl => ?_)
    refine lv_iconst (v := 1) hx hb dL_wear_15 (by decide) ?_
    refine W.widen (k := 2) (n := 12) (Nat.le_of_ble_eq_true rfl) (Nat.le_of_ble_eq_true rfl) ?_
    subst hXe
    exact W.iret (v := (1 : Int32)) hx hb hr (fun t ht hW9 => ⟨⟨(1 : Int32), (S, fo), rfl, t0, wx_end hP hKX hD ht hW9.alike⟩, hS.F ht⟩) hS.2.2 dL_wear_16 hlocks
  · have c4 := hw
    obtain ⟨hP, hD⟩ := wd_post hFc ht hB
    generalize H1 = H at hP hS ⊢
    refine lv_i2l hx hb dL_wear_8 rfl ?_
    subst hXe
    refine va_last hx hb hKX hP hD hS 0 8 rfl rfl (inb (m := 1) rfl (by decide) (by decide)) dL_wear_9 (fun H locs hP2 hD2 hS => ?_)
    have hP : va_P D vwCl ((XO c8 c9 qo qd (vp_updL fo (0 : Int32).toNatClampNeg r2.toInt64) fd) ++ PL cy S) H := hP2
    have hD : va_D A ((XO c8 c9 qo qd (vp_updL fo (0 : Int32).toNatClampNeg r2.toInt64) fd) ++ PL cy S) := hD2
    clear hP2 hD2
    refine lv_goto (tgt := 17) hx hb dL_wear_10 (by decide) ?_
    refine lv_iconst (v := 0) hx hb dL_wear_17 (by decide) ?_
    refine W.widen (k := 2) (n := 12) (Nat.le_of_ble_eq_true rfl) (Nat.le_of_ble_eq_true rfl) ?_
    exact W.iret (v := (0 : Int32)) hx hb hr (fun t ht hW9 => ⟨⟨(0 : Int32), (S, (vp_updL fo (0 : Int32).toNatClampNeg r2.toInt64)), rfl, t0, wx_end hP hKX hD ht hW9.alike⟩, hS.F ht⟩) hS.2.2 dL_wear_18 hlocks
set_option maxHeartbeats 4000000 in
set_option maxRecDepth 100000 in
theorem c_L_regrind (l : Launch) (hst : l.stackTraces = false) {e0 mi : Nat} {D : va_G} {cy : Nat → ClassId} {c8 c9 : ClassId} (qo qd : Nat) (fo : Nat → Int64) (fd : Nat → UInt64) (S : wPS) (sz : Nat) (o1 : Nat) (h_o1 : isA S o1 9) (x1 : Int32) (hW : wtB S []) : Met l yL_regrind wsL_regrind ({ frames := 8, cells := 2, slots := 12, locals := 125 }) (va_Pc [.ref o1, .int x1, .ref qo] (fun U => U.heap.size = sz ∧ WX D cy c8 c9 (XO c8 c9 qo qd fo fd) (fun _ => True) S U ∧ NW U ∧ TH (va_A (XO c8 c9 qo qd fo fd ++ PL cy S) sz) U ∧ OU e0 mi (va_A (XO c8 c9 qo qd fo fd ++ PL cy S) sz) U U.heap ∧ NC U)) (va_Qi (fun (r : Int32) (u : wPS × (Nat → Int64)) => stp [(3, 3), (3, 4), (28, 100)] [] [] S u.1) (fun u t => WX D cy c8 c9 (XO c8 c9 qo qd u.2 fd) (va_A (XO c8 c9 qo qd fo fd ++ PL cy S) sz) u.1 t) (va_A (XO c8 c9 qo qd fo fd ++ PL cy S) sz)) 2 12 (va_A (XO c8 c9 qo qd fo fd ++ PL cy S) sz) := by
  refine Met.ofWH (cc := cL_regrind) (maxL := 4) (ret := (some .int)) (by decide) rfl ?_
  intro p e s m args below meth c s₁ B hml hv
  obtain ⟨rfl, hsz, ⟨hP, hKX, hD0⟩, hN, hTH, hOU, hNC⟩ := hv
  have hx := B.exec
  have hb := B.bytes
  have hr := B.returns
  have hts := atoms_spec (ws := wsL_regrind) B.pre
  have hown : s.vm.findClass RL = some m.cls := findClass_of_methodNamed (x := yL_regrind) B.named
  have hlocks := B.notSynchronized
  have htab := vx_table (x := yL_regrind) B (hts (.codeWith yL_regrind cL_regrind 4 (some .int) [(0, 9, 12, 21), (0, 9, 15, 23)]) List.mem_cons_self)
  have hK := kX hKX
  subst hsz
  have hD := hD0.self (sz := s.heap.size)
  generalize hAe : va_A (XO c8 c9 qo qd fo fd ++ PL cy S) s.heap.size = A at hD hTH hOU ⊢
  generalize hXe : XO c8 c9 qo qd fo fd = X at hP hD
  have hA : ∀ q : Nat, s.heap.size ≤ q → A q := fun q h => by rw [← hAe]; exact Or.inr h
  have hS : va_S A s.heap s.heap [] := va_S.rf
  have hl := lv_entry ([.ref o1, .int x1, .ref qo]) (n := 4) (Nat.le_of_ble_eq_true rfl)
  rw [lg_entry_eq]
  generalize (lg_sl ([.ref o1, .int x1, .ref qo]) ++ List.replicate (4 - (lg_sl ([.ref o1, .int x1, .ref qo])).length) Slot.unset).toArray = ls at hl ⊢
  have hl : lv_has ls 4 [(0, .ref o1), (1, .int x1), (2, .ref qo)] := hl
  have t0 : stp [(3, 3), (3, 4), (28, 100)] [] [] S S := stp.rf hW
  refine lv_aload_n hx hb dL_regrind_0 rfl (lv_at hl 2 rfl) ?_
  refine lv_iconst (v := 0) hx hb dL_regrind_1 (by decide) ?_
  refine lv_aload_n hx hb dL_regrind_2 rfl (lv_at hl 0 rfl) ?_
  refine lv_iload_n hx hb dL_regrind_3 rfl (lv_at hl 1 rfl) ?_
  have hFc := free_all hD hS hA
  obtain ⟨k1, gk1, hk1⟩ := wGt (cy := cy) X S h_o1.1 h_o1.2.1
  refine vx_calli (vx_runV (As := [.int x1]) (rest := [.int (0 : Int32), .ref qo]) ⟨hx, hb, hml, hown, hts⟩ (c_X9_regrind l hst (cy := cy) (X := X) (D := D) S _ o1 h_o1 x1 (hW)) (cwV 1 hts gL_regrind_X9_regrind rfl rfl rfl hd_X9_regrind ⟨Nat.le_of_ble_eq_true rfl, Nat.le_of_ble_eq_true rfl⟩) (pVt (va_recv hK hP (q := (RX9, TX9, 11)) (ci := 13) (q0 := k1) rfl hk1) hP hK hD hN hTH hS hFc) rfl rfl hl.1 rfl (lv_room (Nat.le_of_ble_eq_true rfl)) dL_regrind_4 ⟨Nat.le_of_ble_eq_true rfl, Nat.le_of_ble_eq_true rfl⟩) hS (fun q _ h => hFc q h) hFc (fun q _ h => hFc q h) (fun E ce q9 u t H1 locs ht hvm hw hB hz1 hk1 hS hq9 hce hcl => ?_) (fun r2 u t H1 locs ht hvm hw hB hz1 hk1 hS => ?_)
  · obtain ⟨hEc3, hB2⟩ := hB
    obtain ⟨hP, hD⟩ := wd_post hFc ht hB2
    have t4 : stp [(3, 3), (3, 4), (28, 100)] [] [] S u := t0.tr hw (by decide) (fun _ q => absurd q List.not_mem_nil)
    have xe5 : ext S u := hw.x
    have hE9 := hEc3
    simp only [List.mem_cons, List.not_mem_nil, or_false] at hE9
    clear hEc3
    rcases hE9 with rfl | rfl
    · refine vx_catch (own := RL) (name := "java/lang/IndexOutOfBoundsException") hown [] ⟨0, 9, 12, 21⟩ [⟨0, 9, 15, 23⟩] (htab.trans rfl) (List.forall_mem_nil _) (by decide) (by decide) (hts (.classLink RL 21 "java/lang/IndexOutOfBoundsException") (by decide +kernel)) (va_Nw.use rfl (hTH.2.1 (.castable "java/lang/IndexOutOfBoundsException" "java/lang/IndexOutOfBoundsException") (by decide +kernel))) hq9 hce hcl ?_
      generalize H1 = H at hP hS ⊢
      refine lv_astore_n (lv' := [(3, .ref q9), (0, .ref o1), (1, .int x1), (2, .ref qo)]) hx hb dL_regrind_12 rfl hl (by decide) rfl (fun ls hl => ?_)
      refine lv_iconst (v := 1) hx hb dL_regrind_13 (by decide) ?_
      refine W.widen (k := 2) (n := 12) (Nat.le_of_ble_eq_true rfl) (Nat.le_of_ble_eq_true rfl) ?_
      subst hXe
      exact W.iret (v := (1 : Int32)) hx hb hr (fun t ht hW9 => ⟨⟨(1 : Int32), (u, fo), rfl, t4, wx_end hP hKX hD ht hW9.alike⟩, hS.F ht⟩) hS.2.2 dL_regrind_14 hlocks
    · refine vx_catch (own := RL) (name := "java/lang/UnsupportedOperationException") hown [⟨0, 9, 12, 21⟩] ⟨0, 9, 15, 23⟩ [] (htab.trans rfl) (List.forall_mem_cons.mpr ⟨Or.inr ⟨by decide, "java/lang/IndexOutOfBoundsException", hts (.classLink RL 21 "java/lang/IndexOutOfBoundsException") (by decide +kernel), hNC ("java/lang/UnsupportedOperationException", "java/lang/IndexOutOfBoundsException") (by decide +kernel)⟩, (List.forall_mem_nil _)⟩) (by decide) (by decide) (hts (.classLink RL 23 "java/lang/UnsupportedOperationException") (by decide +kernel)) (va_Nw.use rfl (hTH.2.1 (.castable "java/lang/UnsupportedOperationException" "java/lang/UnsupportedOperationException") (by decide +kernel))) hq9 hce hcl ?_
      generalize H1 = H at hP hS ⊢
      refine lv_astore_n (lv' := [(3, .ref q9), (0, .ref o1), (1, .int x1), (2, .ref qo)]) hx hb dL_regrind_15 rfl hl (by decide) rfl (fun ls hl => ?_)
      refine lv_iconst (v := 2) hx hb dL_regrind_16 (by decide) ?_
      refine W.widen (k := 2) (n := 12) (Nat.le_of_ble_eq_true rfl) (Nat.le_of_ble_eq_true rfl) ?_
      subst hXe
      exact W.iret (v := (2 : Int32)) hx hb hr (fun t ht hW9 => ⟨⟨(2 : Int32), (u, fo), rfl, t4, wx_end hP hKX hD ht hW9.alike⟩, hS.F ht⟩) hS.2.2 dL_regrind_17 hlocks
  · have w6 := hw
    obtain ⟨hP, hD⟩ := wd_post hFc ht hB
    generalize H1 = H at hP hS ⊢
    obtain ⟨S7, rfl⟩ : ∃ z, z = u := ⟨_, rfl⟩
    have t8 : stp [(3, 3), (3, 4), (28, 100)] [] [] S S7 := t0.tr w6 (by decide) (fun _ q => absurd q List.not_mem_nil)
    have xe9 : ext S S7 := w6.x
    refine lv_i2l hx hb dL_regrind_7 rfl ?_
    subst hXe
    refine va_last hx hb hKX hP hD hS 0 8 rfl rfl (inb (m := 1) rfl (by decide) (by decide)) dL_regrind_8 (fun H locs hP2 hD2 hS => ?_)
    have hP : va_P D vwCl ((XO c8 c9 qo qd (vp_updL fo (0 : Int32).toNatClampNeg r2.toInt64) fd) ++ PL cy S7) H := hP2
    have hD : va_D A ((XO c8 c9 qo qd (vp_updL fo (0 : Int32).toNatClampNeg r2.toInt64) fd) ++ PL cy S7) := hD2
    clear hP2 hD2
    refine lv_goto (tgt := 18) hx hb dL_regrind_9 (by decide) ?_
    refine lv_iconst (v := 0) hx hb dL_regrind_18 (by decide) ?_
    refine W.widen (k := 2) (n := 12) (Nat.le_of_ble_eq_true rfl) (Nat.le_of_ble_eq_true rfl) ?_
    exact W.iret (v := (0 : Int32)) hx hb hr (fun t ht hW9 => ⟨⟨(0 : Int32), (S7, (vp_updL fo (0 : Int32).toNatClampNeg r2.toInt64)), rfl, t8, wx_end hP hKX hD ht hW9.alike⟩, hS.F ht⟩) hS.2.2 dL_regrind_19 hlocks
set_option maxHeartbeats 4000000 in
set_option maxRecDepth 100000 in
theorem c_L_inStep (l : Launch) (hst : l.stackTraces = false) {e0 mi : Nat} {D : va_G} {cy : Nat → ClassId} {c8 c9 : ClassId} (qo qd : Nat) (fo : Nat → Int64) (fd : Nat → UInt64) (S : wPS) (sz : Nat) (o1 : Nat) (h_o1 : isA S o1 9) (x1 : Int32) (x2 : Int32) (x3 : Int32) (x4 : Int32) (hW : wtB S []) : Met l yL_inStep wsL_inStep ({ frames := 9, cells := 4, slots := 24, locals := 148 }) (va_Pc [.ref o1, .int x1, .int x2, .int x3, .int x4, .ref qo] (fun U => U.heap.size = sz ∧ WX D cy c8 c9 (XO c8 c9 qo qd fo fd) (fun _ => True) S U ∧ NW U ∧ TH (va_A (XO c8 c9 qo qd fo fd ++ PL cy S) sz) U ∧ OU e0 mi (va_A (XO c8 c9 qo qd fo fd ++ PL cy S) sz) U U.heap ∧ NC U)) (va_Qi (fun (r : Int32) (u : wPS × (Nat → Int64)) => stp ([] : List (Nat × Nat)) [] [] S u.1) (fun u t => WX D cy c8 c9 (XO c8 c9 qo qd u.2 fd) (va_A (XO c8 c9 qo qd fo fd ++ PL cy S) sz) u.1 t) (va_A (XO c8 c9 qo qd fo fd ++ PL cy S) sz)) 4 24 (va_A (XO c8 c9 qo qd fo fd ++ PL cy S) sz) := by
  refine Met.ofWH (cc := cL_inStep) (maxL := 7) (ret := (some .int)) (by decide) rfl ?_
  intro p e s m args below meth c s₁ B hml hv
  obtain ⟨rfl, hsz, ⟨hP, hKX, hD0⟩, hN, hTH, hOU, hNC⟩ := hv
  have hx := B.exec
  have hb := B.bytes
  have hr := B.returns
  have hts := atoms_spec (ws := wsL_inStep) B.pre
  have hown : s.vm.findClass RL = some m.cls := findClass_of_methodNamed (x := yL_inStep) B.named
  have hlocks := B.notSynchronized
  have htab := vx_table (x := yL_inStep) B (hts (.codeWith yL_inStep cL_inStep 7 (some .int) [(0, 21, 24, 13)]) List.mem_cons_self)
  have hK := kX hKX
  subst hsz
  have hD := hD0.self (sz := s.heap.size)
  generalize hAe : va_A (XO c8 c9 qo qd fo fd ++ PL cy S) s.heap.size = A at hD hTH hOU ⊢
  generalize hXe : XO c8 c9 qo qd fo fd = X at hP hD
  have hA : ∀ q : Nat, s.heap.size ≤ q → A q := fun q h => by rw [← hAe]; exact Or.inr h
  have hS : va_S A s.heap s.heap [] := va_S.rf
  have hl := lv_entry ([.ref o1, .int x1, .int x2, .int x3, .int x4, .ref qo]) (n := 7) (Nat.le_of_ble_eq_true rfl)
  rw [lg_entry_eq]
  generalize (lg_sl ([.ref o1, .int x1, .int x2, .int x3, .int x4, .ref qo]) ++ List.replicate (7 - (lg_sl ([.ref o1, .int x1, .int x2, .int x3, .int x4, .ref qo])).length) Slot.unset).toArray = ls at hl ⊢
  have hl : lv_has ls 7 [(0, .ref o1), (1, .int x1), (2, .int x2), (3, .int x3), (4, .int x4), (5, .ref qo)] := hl
  have t0 : stp ([] : List (Nat × Nat)) [] [] S S := stp.rf hW
  refine lv_aload hx hb dL_inStep_0 (lv_at hl 5 rfl) ?_
  refine lv_iconst (v := 0) hx hb dL_inStep_2 (by decide) ?_
  refine lv_aload_n hx hb dL_inStep_3 rfl (lv_at hl 0 rfl) ?_
  refine lv_iload_n hx hb dL_inStep_4 rfl (lv_at hl 1 rfl) ?_
  refine lv_iload_n hx hb dL_inStep_5 rfl (lv_at hl 2 rfl) ?_
  refine lv_iload_n hx hb dL_inStep_6 rfl (lv_at hl 3 rfl) ?_
  refine lv_iload hx hb dL_inStep_7 (lv_at hl 4 rfl) ?_
  have hFc := free_all hD hS hA
  obtain ⟨k1, gk1, hk1⟩ := wGt (cy := cy) X S h_o1.1 h_o1.2.1
  refine vx_calli (vx_runV (As := [.int x1, .int x2, .int x3, .int x4]) (rest := [.int (0 : Int32), .ref qo]) ⟨hx, hb, hml, hown, hts⟩ (c_X9_inStep l hst (cy := cy) (X := X) (D := D) S _ o1 h_o1 x1 x2 x3 x4 (hW)) (cwV 4 hts gL_inStep_X9_inStep rfl rfl rfl hd_X9_inStep ⟨Nat.le_of_ble_eq_true rfl, Nat.le_of_ble_eq_true rfl⟩) (pVt (va_recv hK hP (q := (RX9, TX9, 11)) (ci := 13) (q0 := k1) rfl hk1) hP hK hD hN hTH hS hFc) rfl rfl hl.1 rfl (lv_room (Nat.le_of_ble_eq_true rfl)) dL_inStep_9 ⟨Nat.le_of_ble_eq_true rfl, Nat.le_of_ble_eq_true rfl⟩) hS (fun q _ h => hFc q h) hFc (fun q _ h => hFc q h) (fun E ce q9 u t H1 locs ht hvm hw hB hz1 hk1 hS hq9 hce hcl => ?_) (fun r2 u t H1 locs ht hvm hw hB hz1 hk1 hS => ?_)
  · obtain ⟨c3, hEc3, hB2⟩ := hB
    obtain ⟨hP, hD⟩ := wd_post hFc ht hB2
    have hE9 := hEc3
    simp only [List.mem_cons, List.not_mem_nil, or_false] at hE9
    clear hEc3
    subst hE9
    refine vx_catch (own := RL) (name := "java/lang/IllegalArgumentException") hown [] ⟨0, 21, 24, 13⟩ [] (htab.trans rfl) (List.forall_mem_nil _) (by decide) (by decide) (hts (.classLink RL 13 "java/lang/IllegalArgumentException") (by decide +kernel)) (va_Nw.use rfl (hTH.2.1 (.castable "java/lang/IllegalArgumentException" "java/lang/IllegalArgumentException") (by decide +kernel))) hq9 hce hcl ?_
    generalize H1 = H at hP hS ⊢
    refine lv_astore (lv' := [(6, .ref q9), (0, .ref o1), (1, .int x1), (2, .int x2), (3, .int x3), (4, .int x4), (5, .ref qo)]) hx hb dL_inStep_24 hl (by decide) rfl (fun ls hl => ?_)
    refine lv_iconst (v := 1) hx hb dL_inStep_26 (by decide) ?_
    refine W.widen (k := 4) (n := 24) (Nat.le_of_ble_eq_true rfl) (Nat.le_of_ble_eq_true rfl) ?_
    subst hXe
    exact W.iret (v := (1 : Int32)) hx hb hr (fun t ht hW9 => ⟨⟨(1 : Int32), (S, fo), rfl, t0, wx_end hP hKX hD ht hW9.alike⟩, hS.F ht⟩) hS.2.2 dL_inStep_27 hlocks
  · have c4 := hw
    obtain ⟨hP, hD⟩ := wd_post hFc ht hB
    generalize H1 = H at hP hS ⊢
    refine lv_if_eq (tgt := 19) hx hb dL_inStep_12 (by decide) (fun c5 => ?_) (fun c5 => ?_)
    · have c5i : r2.toInt = 0 := eq_v rfl rfl c5
      refine lv_lconst (v := 0) hx hb dL_inStep_19 (by decide) ?_
      subst hXe
      refine va_last hx hb hKX hP hD hS 0 8 rfl rfl (inb (m := 1) rfl (by decide) (by decide)) dL_inStep_20 (fun H locs hP2 hD2 hS => ?_)
      have hP : va_P D vwCl ((XO c8 c9 qo qd (vp_updL fo (0 : Int32).toNatClampNeg (0 : Int64)) fd) ++ PL cy S) H := hP2
      have hD : va_D A ((XO c8 c9 qo qd (vp_updL fo (0 : Int32).toNatClampNeg (0 : Int64)) fd) ++ PL cy S) := hD2
      clear hP2 hD2
      refine lv_goto (tgt := 28) hx hb dL_inStep_21 (by decide) ?_
      refine lv_iconst (v := 0) hx hb dL_inStep_28 (by decide) ?_
      refine W.widen (k := 4) (n := 24) (Nat.le_of_ble_eq_true rfl) (Nat.le_of_ble_eq_true rfl) ?_
      exact W.iret (v := (0 : Int32)) hx hb hr (fun t ht hW9 => ⟨⟨(0 : Int32), (S, (vp_updL fo (0 : Int32).toNatClampNeg (0 : Int64))), rfl, t0, wx_end hP hKX hD ht hW9.alike⟩, hS.F ht⟩) hS.2.2 dL_inStep_29 hlocks
    · have c5i : ¬ r2.toInt = 0 := neq_v rfl rfl c5
      refine lv_lconst (v := 1) hx hb dL_inStep_15 (by decide) ?_
      refine lv_goto (tgt := 20) hx hb dL_inStep_16 (by decide) ?_
      subst hXe
      refine va_last hx hb hKX hP hD hS 0 8 rfl rfl (inb (m := 1) rfl (by decide) (by decide)) dL_inStep_20 (fun H locs hP2 hD2 hS => ?_)
      have hP : va_P D vwCl ((XO c8 c9 qo qd (vp_updL fo (0 : Int32).toNatClampNeg (1 : Int64)) fd) ++ PL cy S) H := hP2
      have hD : va_D A ((XO c8 c9 qo qd (vp_updL fo (0 : Int32).toNatClampNeg (1 : Int64)) fd) ++ PL cy S) := hD2
      clear hP2 hD2
      refine lv_goto (tgt := 28) hx hb dL_inStep_21 (by decide) ?_
      refine lv_iconst (v := 0) hx hb dL_inStep_28 (by decide) ?_
      refine W.widen (k := 4) (n := 24) (Nat.le_of_ble_eq_true rfl) (Nat.le_of_ble_eq_true rfl) ?_
      exact W.iret (v := (0 : Int32)) hx hb hr (fun t ht hW9 => ⟨⟨(0 : Int32), (S, (vp_updL fo (0 : Int32).toNatClampNeg (1 : Int64))), rfl, t0, wx_end hP hKX hD ht hW9.alike⟩, hS.F ht⟩) hS.2.2 dL_inStep_29 hlocks
set_option maxHeartbeats 4000000 in
set_option maxRecDepth 100000 in
theorem c_L_clock (l : Launch) (hst : l.stackTraces = false) {e0 mi : Nat} {D : va_G} {cy : Nat → ClassId} {c8 c9 : ClassId} (qo qd : Nat) (fo : Nat → Int64) (fd : Nat → UInt64) (S : wPS) (sz : Nat) (o1 : Nat) (h_o1 : isA S o1 9) (x1 : Int32) (x2 : Int32) (x3 : Int32) (hW : wtB S []) : Met l yL_clock wsL_clock ({ frames := 9, cells := 3, slots := 18, locals := 147 }) (va_Pc [.ref o1, .int x1, .int x2, .int x3, .ref qo] (fun U => U.heap.size = sz ∧ WX D cy c8 c9 (XO c8 c9 qo qd fo fd) (fun _ => True) S U ∧ NW U ∧ TH (va_A (XO c8 c9 qo qd fo fd ++ PL cy S) sz) U ∧ OU e0 mi (va_A (XO c8 c9 qo qd fo fd ++ PL cy S) sz) U U.heap ∧ NC U)) (va_Qi (fun (r : Int32) (u : wPS × (Nat → Int64)) => stp ([] : List (Nat × Nat)) [] [] S u.1) (fun u t => WX D cy c8 c9 (XO c8 c9 qo qd u.2 fd) (va_A (XO c8 c9 qo qd fo fd ++ PL cy S) sz) u.1 t) (va_A (XO c8 c9 qo qd fo fd ++ PL cy S) sz)) 3 18 (va_A (XO c8 c9 qo qd fo fd ++ PL cy S) sz) := by
  refine Met.ofWH (cc := cL_clock) (maxL := 6) (ret := (some .int)) (by decide) rfl ?_
  intro p e s m args below meth c s₁ B hml hv
  obtain ⟨rfl, hsz, ⟨hP, hKX, hD0⟩, hN, hTH, hOU, hNC⟩ := hv
  have hx := B.exec
  have hb := B.bytes
  have hr := B.returns
  have hts := atoms_spec (ws := wsL_clock) B.pre
  have hown : s.vm.findClass RL = some m.cls := findClass_of_methodNamed (x := yL_clock) B.named
  have hlocks := B.notSynchronized
  have htab := vx_table (x := yL_clock) B (hts (.codeWith yL_clock cL_clock 6 (some .int) [(0, 12, 15, 13)]) List.mem_cons_self)
  have hK := kX hKX
  subst hsz
  have hD := hD0.self (sz := s.heap.size)
  generalize hAe : va_A (XO c8 c9 qo qd fo fd ++ PL cy S) s.heap.size = A at hD hTH hOU ⊢
  generalize hXe : XO c8 c9 qo qd fo fd = X at hP hD
  have hA : ∀ q : Nat, s.heap.size ≤ q → A q := fun q h => by rw [← hAe]; exact Or.inr h
  have hS : va_S A s.heap s.heap [] := va_S.rf
  have hl := lv_entry ([.ref o1, .int x1, .int x2, .int x3, .ref qo]) (n := 6) (Nat.le_of_ble_eq_true rfl)
  rw [lg_entry_eq]
  generalize (lg_sl ([.ref o1, .int x1, .int x2, .int x3, .ref qo]) ++ List.replicate (6 - (lg_sl ([.ref o1, .int x1, .int x2, .int x3, .ref qo])).length) Slot.unset).toArray = ls at hl ⊢
  have hl : lv_has ls 6 [(0, .ref o1), (1, .int x1), (2, .int x2), (3, .int x3), (4, .ref qo)] := hl
  have t0 : stp ([] : List (Nat × Nat)) [] [] S S := stp.rf hW
  refine lv_aload hx hb dL_clock_0 (lv_at hl 4 rfl) ?_
  refine lv_iconst (v := 0) hx hb dL_clock_2 (by decide) ?_
  refine lv_aload_n hx hb dL_clock_3 rfl (lv_at hl 0 rfl) ?_
  refine lv_iload_n hx hb dL_clock_4 rfl (lv_at hl 1 rfl) ?_
  refine lv_iload_n hx hb dL_clock_5 rfl (lv_at hl 2 rfl) ?_
  refine lv_iload_n hx hb dL_clock_6 rfl (lv_at hl 3 rfl) ?_
  have hFc := free_all hD hS hA
  obtain ⟨k1, gk1, hk1⟩ := wGt (cy := cy) X S h_o1.1 h_o1.2.1
  refine vx_calli (vx_runV (As := [.int x1, .int x2, .int x3]) (rest := [.int (0 : Int32), .ref qo]) ⟨hx, hb, hml, hown, hts⟩ (c_X9_clock l hst (cy := cy) (X := X) (D := D) S _ o1 h_o1 x1 x2 x3 (hW)) (cwV 3 hts gL_clock_X9_clock rfl rfl rfl hd_X9_clock ⟨Nat.le_of_ble_eq_true rfl, Nat.le_of_ble_eq_true rfl⟩) (pVt (va_recv hK hP (q := (RX9, TX9, 11)) (ci := 13) (q0 := k1) rfl hk1) hP hK hD hN hTH hS hFc) rfl rfl hl.1 rfl (lv_room (Nat.le_of_ble_eq_true rfl)) dL_clock_7 ⟨Nat.le_of_ble_eq_true rfl, Nat.le_of_ble_eq_true rfl⟩) hS (fun q _ h => hFc q h) hFc (fun q _ h => hFc q h) (fun E ce q9 u t H1 locs ht hvm hw hB hz1 hk1 hS hq9 hce hcl => ?_) (fun r2 u t H1 locs ht hvm hw hB hz1 hk1 hS => ?_)
  · obtain ⟨c3, hEc3, hB2⟩ := hB
    obtain ⟨hP, hD⟩ := wd_post hFc ht hB2
    have hE9 := hEc3
    simp only [List.mem_cons, List.not_mem_nil, or_false] at hE9
    clear hEc3
    subst hE9
    refine vx_catch (own := RL) (name := "java/lang/IllegalArgumentException") hown [] ⟨0, 12, 15, 13⟩ [] (htab.trans rfl) (List.forall_mem_nil _) (by decide) (by decide) (hts (.classLink RL 13 "java/lang/IllegalArgumentException") (by decide +kernel)) (va_Nw.use rfl (hTH.2.1 (.castable "java/lang/IllegalArgumentException" "java/lang/IllegalArgumentException") (by decide +kernel))) hq9 hce hcl ?_
    generalize H1 = H at hP hS ⊢
    refine lv_astore (lv' := [(5, .ref q9), (0, .ref o1), (1, .int x1), (2, .int x2), (3, .int x3), (4, .ref qo)]) hx hb dL_clock_15 hl (by decide) rfl (fun ls hl => ?_)
    refine lv_iconst (v := 1) hx hb dL_clock_17 (by decide) ?_
    refine W.widen (k := 3) (n := 18) (Nat.le_of_ble_eq_true rfl) (Nat.le_of_ble_eq_true rfl) ?_
    subst hXe
    exact W.iret (v := (1 : Int32)) hx hb hr (fun t ht hW9 => ⟨⟨(1 : Int32), (S, fo), rfl, t0, wx_end hP hKX hD ht hW9.alike⟩, hS.F ht⟩) hS.2.2 dL_clock_18 hlocks
  · have c4 := hw
    obtain ⟨hP, hD⟩ := wd_post hFc ht hB
    generalize H1 = H at hP hS ⊢
    refine lv_i2l hx hb dL_clock_10 rfl ?_
    subst hXe
    refine va_last hx hb hKX hP hD hS 0 8 rfl rfl (inb (m := 1) rfl (by decide) (by decide)) dL_clock_11 (fun H locs hP2 hD2 hS => ?_)
    have hP : va_P D vwCl ((XO c8 c9 qo qd (vp_updL fo (0 : Int32).toNatClampNeg r2.toInt64) fd) ++ PL cy S) H := hP2
    have hD : va_D A ((XO c8 c9 qo qd (vp_updL fo (0 : Int32).toNatClampNeg r2.toInt64) fd) ++ PL cy S) := hD2
    clear hP2 hD2
    refine lv_goto (tgt := 19) hx hb dL_clock_12 (by decide) ?_
    refine lv_iconst (v := 0) hx hb dL_clock_19 (by decide) ?_
    refine W.widen (k := 3) (n := 18) (Nat.le_of_ble_eq_true rfl) (Nat.le_of_ble_eq_true rfl) ?_
    exact W.iret (v := (0 : Int32)) hx hb hr (fun t ht hW9 => ⟨⟨(0 : Int32), (S, (vp_updL fo (0 : Int32).toNatClampNeg r2.toInt64)), rfl, t0, wx_end hP hKX hD ht hW9.alike⟩, hS.F ht⟩) hS.2.2 dL_clock_20 hlocks
set_option maxHeartbeats 4000000 in
set_option maxRecDepth 100000 in
theorem c_L_harden (l : Launch) (hst : l.stackTraces = false) {e0 mi : Nat} {D : va_G} {cy : Nat → ClassId} {c8 c9 : ClassId} (qo qd : Nat) (fo : Nat → Int64) (fd : Nat → UInt64) (S : wPS) (sz : Nat) (o1 : Nat) (h_o1 : isA S o1 9) (x1 : Int32) (x2 : Int32) (x3 : Int32) (hW : wtB S []) : Met l yL_harden wsL_harden ({ frames := 8, cells := 3, slots := 18, locals := 128 }) (va_Pc [.ref o1, .int x1, .int x2, .int x3, .ref qo] (fun U => U.heap.size = sz ∧ WX D cy c8 c9 (XO c8 c9 qo qd fo fd) (fun _ => True) S U ∧ NW U ∧ TH (va_A (XO c8 c9 qo qd fo fd ++ PL cy S) sz) U ∧ OU e0 mi (va_A (XO c8 c9 qo qd fo fd ++ PL cy S) sz) U U.heap ∧ NC U)) (va_Qi (fun (r : Int32) (u : wPS × (Nat → Int64)) => stp [(2, 13), (2, 14), (2, 15)] [] [] S u.1) (fun u t => WX D cy c8 c9 (XO c8 c9 qo qd u.2 fd) (va_A (XO c8 c9 qo qd fo fd ++ PL cy S) sz) u.1 t) (va_A (XO c8 c9 qo qd fo fd ++ PL cy S) sz)) 3 18 (va_A (XO c8 c9 qo qd fo fd ++ PL cy S) sz) := by
  refine Met.ofWH (cc := cL_harden) (maxL := 6) (ret := (some .int)) (by decide) rfl ?_
  intro p e s m args below meth c s₁ B hml hv
  obtain ⟨rfl, hsz, ⟨hP, hKX, hD0⟩, hN, hTH, hOU, hNC⟩ := hv
  have hx := B.exec
  have hb := B.bytes
  have hr := B.returns
  have hts := atoms_spec (ws := wsL_harden) B.pre
  have hown : s.vm.findClass RL = some m.cls := findClass_of_methodNamed (x := yL_harden) B.named
  have hlocks := B.notSynchronized
  have htab := vx_table (x := yL_harden) B (hts (.codeWith yL_harden cL_harden 6 (some .int) [(0, 12, 15, 21), (0, 12, 19, 13), (0, 12, 23, 23)]) List.mem_cons_self)
  have hK := kX hKX
  subst hsz
  have hD := hD0.self (sz := s.heap.size)
  generalize hAe : va_A (XO c8 c9 qo qd fo fd ++ PL cy S) s.heap.size = A at hD hTH hOU ⊢
  generalize hXe : XO c8 c9 qo qd fo fd = X at hP hD
  have hA : ∀ q : Nat, s.heap.size ≤ q → A q := fun q h => by rw [← hAe]; exact Or.inr h
  have hS : va_S A s.heap s.heap [] := va_S.rf
  have hl := lv_entry ([.ref o1, .int x1, .int x2, .int x3, .ref qo]) (n := 6) (Nat.le_of_ble_eq_true rfl)
  rw [lg_entry_eq]
  generalize (lg_sl ([.ref o1, .int x1, .int x2, .int x3, .ref qo]) ++ List.replicate (6 - (lg_sl ([.ref o1, .int x1, .int x2, .int x3, .ref qo])).length) Slot.unset).toArray = ls at hl ⊢
  have hl : lv_has ls 6 [(0, .ref o1), (1, .int x1), (2, .int x2), (3, .int x3), (4, .ref qo)] := hl
  have t0 : stp [(2, 13), (2, 14), (2, 15)] [] [] S S := stp.rf hW
  refine lv_aload hx hb dL_harden_0 (lv_at hl 4 rfl) ?_
  refine lv_iconst (v := 0) hx hb dL_harden_2 (by decide) ?_
  refine lv_aload_n hx hb dL_harden_3 rfl (lv_at hl 0 rfl) ?_
  refine lv_iload_n hx hb dL_harden_4 rfl (lv_at hl 1 rfl) ?_
  refine lv_iload_n hx hb dL_harden_5 rfl (lv_at hl 2 rfl) ?_
  refine lv_iload_n hx hb dL_harden_6 rfl (lv_at hl 3 rfl) ?_
  have hFc := free_all hD hS hA
  obtain ⟨k1, gk1, hk1⟩ := wGt (cy := cy) X S h_o1.1 h_o1.2.1
  refine vx_calli (vx_runV (As := [.int x1, .int x2, .int x3]) (rest := [.int (0 : Int32), .ref qo]) ⟨hx, hb, hml, hown, hts⟩ (c_X9_harden l hst (cy := cy) (X := X) (D := D) S _ o1 h_o1 x1 x2 x3 (hW)) (cwV 3 hts gL_harden_X9_harden rfl rfl rfl hd_X9_harden ⟨Nat.le_of_ble_eq_true rfl, Nat.le_of_ble_eq_true rfl⟩) (pVt (va_recv hK hP (q := (RX9, TX9, 11)) (ci := 13) (q0 := k1) rfl hk1) hP hK hD hN hTH hS hFc) rfl rfl hl.1 rfl (lv_room (Nat.le_of_ble_eq_true rfl)) dL_harden_7 ⟨Nat.le_of_ble_eq_true rfl, Nat.le_of_ble_eq_true rfl⟩) hS (fun q _ h => hFc q h) hFc (fun q _ h => hFc q h) (fun E ce q9 u t H1 locs ht hvm hw hB hz1 hk1 hS hq9 hce hcl => ?_) (fun r2 u t H1 locs ht hvm hw hB hz1 hk1 hS => ?_)
  · obtain ⟨c3, hEc3, hB2⟩ := hB
    obtain ⟨hP, hD⟩ := wd_post hFc ht hB2
    have t4 : stp [(2, 13), (2, 14), (2, 15)] [] [] S u := t0.tr hw (by decide) (fun _ q => absurd q List.not_mem_nil)
    have xe5 : ext S u := hw.x
    have hE9 := hEc3
    simp only [List.mem_cons, List.not_mem_nil, or_false] at hE9
    clear hEc3
    rcases hE9 with rfl | rfl | rfl
    · refine vx_catch (own := RL) (name := "java/lang/IllegalArgumentException") hown [⟨0, 12, 15, 21⟩] ⟨0, 12, 19, 13⟩ [⟨0, 12, 23, 23⟩] (htab.trans rfl) (List.forall_mem_cons.mpr ⟨Or.inr ⟨by decide, "java/lang/IndexOutOfBoundsException", hts (.classLink RL 21 "java/lang/IndexOutOfBoundsException") (by decide +kernel), hNC ("java/lang/IllegalArgumentException", "java/lang/IndexOutOfBoundsException") (by decide +kernel)⟩, (List.forall_mem_nil _)⟩) (by decide) (by decide) (hts (.classLink RL 13 "java/lang/IllegalArgumentException") (by decide +kernel)) (va_Nw.use rfl (hTH.2.1 (.castable "java/lang/IllegalArgumentException" "java/lang/IllegalArgumentException") (by decide +kernel))) hq9 hce hcl ?_
      generalize H1 = H at hP hS ⊢
      refine lv_astore (lv' := [(5, .ref q9), (0, .ref o1), (1, .int x1), (2, .int x2), (3, .int x3), (4, .ref qo)]) hx hb dL_harden_19 hl (by decide) rfl (fun ls hl => ?_)
      refine lv_iconst (v := 2) hx hb dL_harden_21 (by decide) ?_
      refine W.widen (k := 3) (n := 18) (Nat.le_of_ble_eq_true rfl) (Nat.le_of_ble_eq_true rfl) ?_
      subst hXe
      exact W.iret (v := (2 : Int32)) hx hb hr (fun t ht hW9 => ⟨⟨(2 : Int32), (u, fo), rfl, t4, wx_end hP hKX hD ht hW9.alike⟩, hS.F ht⟩) hS.2.2 dL_harden_22 hlocks
    · refine vx_catch (own := RL) (name := "java/lang/IndexOutOfBoundsException") hown [] ⟨0, 12, 15, 21⟩ [⟨0, 12, 19, 13⟩, ⟨0, 12, 23, 23⟩] (htab.trans rfl) (List.forall_mem_nil _) (by decide) (by decide) (hts (.classLink RL 21 "java/lang/IndexOutOfBoundsException") (by decide +kernel)) (va_Nw.use rfl (hTH.2.1 (.castable "java/lang/IndexOutOfBoundsException" "java/lang/IndexOutOfBoundsException") (by decide +kernel))) hq9 hce hcl ?_
      generalize H1 = H at hP hS ⊢
      refine lv_astore (lv' := [(5, .ref q9), (0, .ref o1), (1, .int x1), (2, .int x2), (3, .int x3), (4, .ref qo)]) hx hb dL_harden_15 hl (by decide) rfl (fun ls hl => ?_)
      refine lv_iconst (v := 1) hx hb dL_harden_17 (by decide) ?_
      refine W.widen (k := 3) (n := 18) (Nat.le_of_ble_eq_true rfl) (Nat.le_of_ble_eq_true rfl) ?_
      subst hXe
      exact W.iret (v := (1 : Int32)) hx hb hr (fun t ht hW9 => ⟨⟨(1 : Int32), (u, fo), rfl, t4, wx_end hP hKX hD ht hW9.alike⟩, hS.F ht⟩) hS.2.2 dL_harden_18 hlocks
    · refine vx_catch (own := RL) (name := "java/lang/UnsupportedOperationException") hown [⟨0, 12, 15, 21⟩, ⟨0, 12, 19, 13⟩] ⟨0, 12, 23, 23⟩ [] (htab.trans rfl) (List.forall_mem_cons.mpr ⟨Or.inr ⟨by decide, "java/lang/IndexOutOfBoundsException", hts (.classLink RL 21 "java/lang/IndexOutOfBoundsException") (by decide +kernel), hNC ("java/lang/UnsupportedOperationException", "java/lang/IndexOutOfBoundsException") (by decide +kernel)⟩, (List.forall_mem_cons.mpr ⟨Or.inr ⟨by decide, "java/lang/IllegalArgumentException", hts (.classLink RL 13 "java/lang/IllegalArgumentException") (by decide +kernel), hNC ("java/lang/UnsupportedOperationException", "java/lang/IllegalArgumentException") (by decide +kernel)⟩, (List.forall_mem_nil _)⟩)⟩) (by decide) (by decide) (hts (.classLink RL 23 "java/lang/UnsupportedOperationException") (by decide +kernel)) (va_Nw.use rfl (hTH.2.1 (.castable "java/lang/UnsupportedOperationException" "java/lang/UnsupportedOperationException") (by decide +kernel))) hq9 hce hcl ?_
      generalize H1 = H at hP hS ⊢
      refine lv_astore (lv' := [(5, .ref q9), (0, .ref o1), (1, .int x1), (2, .int x2), (3, .int x3), (4, .ref qo)]) hx hb dL_harden_23 hl (by decide) rfl (fun ls hl => ?_)
      refine lv_iconst (v := 3) hx hb dL_harden_25 (by decide) ?_
      refine W.widen (k := 3) (n := 18) (Nat.le_of_ble_eq_true rfl) (Nat.le_of_ble_eq_true rfl) ?_
      subst hXe
      exact W.iret (v := (3 : Int32)) hx hb hr (fun t ht hW9 => ⟨⟨(3 : Int32), (u, fo), rfl, t4, wx_end hP hKX hD ht hW9.alike⟩, hS.F ht⟩) hS.2.2 dL_harden_26 hlocks
  · obtain ⟨c6, w7⟩ := hw
    obtain ⟨hP, hD⟩ := wd_post hFc ht hB
    generalize H1 = H at hP hS ⊢
    obtain ⟨S8, rfl⟩ : ∃ z, z = u := ⟨_, rfl⟩
    have t9 : stp [(2, 13), (2, 14), (2, 15)] [] [] S S8 := t0.tr w7 (by decide) (fun _ q => absurd q List.not_mem_nil)
    have xe10 : ext S S8 := w7.x
    refine lv_i2l hx hb dL_harden_10 rfl ?_
    subst hXe
    refine va_last hx hb hKX hP hD hS 0 8 rfl rfl (inb (m := 1) rfl (by decide) (by decide)) dL_harden_11 (fun H locs hP2 hD2 hS => ?_)
    have hP : va_P D vwCl ((XO c8 c9 qo qd (vp_updL fo (0 : Int32).toNatClampNeg r2.toInt64) fd) ++ PL cy S8) H := hP2
    have hD : va_D A ((XO c8 c9 qo qd (vp_updL fo (0 : Int32).toNatClampNeg r2.toInt64) fd) ++ PL cy S8) := hD2
    clear hP2 hD2
    refine lv_goto (tgt := 27) hx hb dL_harden_12 (by decide) ?_
    refine lv_iconst (v := 0) hx hb dL_harden_27 (by decide) ?_
    refine W.widen (k := 3) (n := 18) (Nat.le_of_ble_eq_true rfl) (Nat.le_of_ble_eq_true rfl) ?_
    exact W.iret (v := (0 : Int32)) hx hb hr (fun t ht hW9 => ⟨⟨(0 : Int32), (S8, (vp_updL fo (0 : Int32).toNatClampNeg r2.toInt64)), rfl, t9, wx_end hP hKX hD ht hW9.alike⟩, hS.F ht⟩) hS.2.2 dL_harden_28 hlocks
set_option maxHeartbeats 4000000 in
set_option maxRecDepth 100000 in
theorem c_L_caseOf (l : Launch) (hst : l.stackTraces = false) {e0 mi : Nat} {D : va_G} {cy : Nat → ClassId} {c8 c9 : ClassId} (qo qd : Nat) (fo : Nat → Int64) (fd : Nat → UInt64) (S : wPS) (sz : Nat) (o1 : Nat) (h_o1 : isA S o1 9) (x1 : Int32) (hW : wtB S []) : Met l yL_caseOf wsL_caseOf ({ frames := 8, cells := 1, slots := 6, locals := 124 }) (va_Pc [.ref o1, .int x1, .ref qo] (fun U => U.heap.size = sz ∧ WX D cy c8 c9 (XO c8 c9 qo qd fo fd) (fun _ => True) S U ∧ NW U ∧ TH (va_A (XO c8 c9 qo qd fo fd ++ PL cy S) sz) U ∧ OU e0 mi (va_A (XO c8 c9 qo qd fo fd ++ PL cy S) sz) U U.heap ∧ NC U)) (va_Qi (fun (r : Int32) (u : wPS × (Nat → Int64)) => stp ([] : List (Nat × Nat)) [] [] S u.1) (fun u t => WX D cy c8 c9 (XO c8 c9 qo qd u.2 fd) (va_A (XO c8 c9 qo qd fo fd ++ PL cy S) sz) u.1 t) (va_A (XO c8 c9 qo qd fo fd ++ PL cy S) sz)) 1 6 (va_A (XO c8 c9 qo qd fo fd ++ PL cy S) sz) := by
  refine Met.ofWH (cc := cL_caseOf) (maxL := 4) (ret := (some .int)) (by decide) rfl ?_
  intro p e s m args below meth c s₁ B hml hv
  obtain ⟨rfl, hsz, ⟨hP, hKX, hD0⟩, hN, hTH, hOU, hNC⟩ := hv
  have hx := B.exec
  have hb := B.bytes
  have hr := B.returns
  have hts := atoms_spec (ws := wsL_caseOf) B.pre
  have hown : s.vm.findClass RL = some m.cls := findClass_of_methodNamed (x := yL_caseOf) B.named
  have hlocks := B.notSynchronized
  have htab := vx_table (x := yL_caseOf) B (hts (.codeWith yL_caseOf cL_caseOf 4 (some .int) [(0, 9, 12, 21)]) List.mem_cons_self)
  have hK := kX hKX
  subst hsz
  have hD := hD0.self (sz := s.heap.size)
  generalize hAe : va_A (XO c8 c9 qo qd fo fd ++ PL cy S) s.heap.size = A at hD hTH hOU ⊢
  generalize hXe : XO c8 c9 qo qd fo fd = X at hP hD
  have hA : ∀ q : Nat, s.heap.size ≤ q → A q := fun q h => by rw [← hAe]; exact Or.inr h
  have hS : va_S A s.heap s.heap [] := va_S.rf
  have hl := lv_entry ([.ref o1, .int x1, .ref qo]) (n := 4) (Nat.le_of_ble_eq_true rfl)
  rw [lg_entry_eq]
  generalize (lg_sl ([.ref o1, .int x1, .ref qo]) ++ List.replicate (4 - (lg_sl ([.ref o1, .int x1, .ref qo])).length) Slot.unset).toArray = ls at hl ⊢
  have hl : lv_has ls 4 [(0, .ref o1), (1, .int x1), (2, .ref qo)] := hl
  have t0 : stp ([] : List (Nat × Nat)) [] [] S S := stp.rf hW
  refine lv_aload_n hx hb dL_caseOf_0 rfl (lv_at hl 2 rfl) ?_
  refine lv_iconst (v := 0) hx hb dL_caseOf_1 (by decide) ?_
  refine lv_aload_n hx hb dL_caseOf_2 rfl (lv_at hl 0 rfl) ?_
  refine lv_iload_n hx hb dL_caseOf_3 rfl (lv_at hl 1 rfl) ?_
  have hFc := free_all hD hS hA
  obtain ⟨k1, gk1, hk1⟩ := wGt (cy := cy) X S h_o1.1 h_o1.2.1
  refine vx_calli (vx_runV (As := [.int x1]) (rest := [.int (0 : Int32), .ref qo]) ⟨hx, hb, hml, hown, hts⟩ (c_X9_caseOf l hst (cy := cy) (X := X) (D := D) S _ o1 h_o1 x1 (hW)) (cwV 1 hts gL_caseOf_X9_caseOf rfl rfl rfl hd_X9_caseOf ⟨Nat.le_of_ble_eq_true rfl, Nat.le_of_ble_eq_true rfl⟩) (pVt (va_recv hK hP (q := (RX9, TX9, 11)) (ci := 13) (q0 := k1) rfl hk1) hP hK hD hN hTH hS hFc) rfl rfl hl.1 rfl (lv_room (Nat.le_of_ble_eq_true rfl)) dL_caseOf_4 ⟨Nat.le_of_ble_eq_true rfl, Nat.le_of_ble_eq_true rfl⟩) hS (fun q _ h => hFc q h) hFc (fun q _ h => hFc q h) (fun E ce q9 u t H1 locs ht hvm hw hB hz1 hk1 hS hq9 hce hcl => ?_) (fun r2 u t H1 locs ht hvm hw hB hz1 hk1 hS => ?_)
  · obtain ⟨c3, hEc3, hB2⟩ := hB
    obtain ⟨hP, hD⟩ := wd_post hFc ht hB2
    have hE9 := hEc3
    simp only [List.mem_cons, List.not_mem_nil, or_false] at hE9
    clear hEc3
    subst hE9
    refine vx_catch (own := RL) (name := "java/lang/IndexOutOfBoundsException") hown [] ⟨0, 9, 12, 21⟩ [] (htab.trans rfl) (List.forall_mem_nil _) (by decide) (by decide) (hts (.classLink RL 21 "java/lang/IndexOutOfBoundsException") (by decide +kernel)) (va_Nw.use rfl (hTH.2.1 (.castable "java/lang/IndexOutOfBoundsException" "java/lang/IndexOutOfBoundsException") (by decide +kernel))) hq9 hce hcl ?_
    generalize H1 = H at hP hS ⊢
    refine lv_astore_n (lv' := [(3, .ref q9), (0, .ref o1), (1, .int x1), (2, .ref qo)]) hx hb dL_caseOf_12 rfl hl (by decide) rfl (fun ls hl => ?_)
    refine lv_iconst (v := 1) hx hb dL_caseOf_13 (by decide) ?_
    refine W.widen (k := 1) (n := 6) (Nat.le_of_ble_eq_true rfl) (Nat.le_of_ble_eq_true rfl) ?_
    subst hXe
    exact W.iret (v := (1 : Int32)) hx hb hr (fun t ht hW9 => ⟨⟨(1 : Int32), (S, fo), rfl, t0, wx_end hP hKX hD ht hW9.alike⟩, hS.F ht⟩) hS.2.2 dL_caseOf_14 hlocks
  · have c4 := hw
    obtain ⟨hP, hD⟩ := wd_post hFc ht hB
    generalize H1 = H at hP hS ⊢
    refine lv_i2l hx hb dL_caseOf_7 rfl ?_
    subst hXe
    refine va_last hx hb hKX hP hD hS 0 8 rfl rfl (inb (m := 1) rfl (by decide) (by decide)) dL_caseOf_8 (fun H locs hP2 hD2 hS => ?_)
    have hP : va_P D vwCl ((XO c8 c9 qo qd (vp_updL fo (0 : Int32).toNatClampNeg r2.toInt64) fd) ++ PL cy S) H := hP2
    have hD : va_D A ((XO c8 c9 qo qd (vp_updL fo (0 : Int32).toNatClampNeg r2.toInt64) fd) ++ PL cy S) := hD2
    clear hP2 hD2
    refine lv_goto (tgt := 15) hx hb dL_caseOf_9 (by decide) ?_
    refine lv_iconst (v := 0) hx hb dL_caseOf_15 (by decide) ?_
    refine W.widen (k := 1) (n := 6) (Nat.le_of_ble_eq_true rfl) (Nat.le_of_ble_eq_true rfl) ?_
    exact W.iret (v := (0 : Int32)) hx hb hr (fun t ht hW9 => ⟨⟨(0 : Int32), (S, (vp_updL fo (0 : Int32).toNatClampNeg r2.toInt64)), rfl, t0, wx_end hP hKX hD ht hW9.alike⟩, hS.F ht⟩) hS.2.2 dL_caseOf_16 hlocks
set_option maxHeartbeats 4000000 in
set_option maxRecDepth 100000 in
theorem c_L_isClean (l : Launch) (hst : l.stackTraces = false) {e0 mi : Nat} {D : va_G} {cy : Nat → ClassId} {c8 c9 : ClassId} (qo qd : Nat) (fo : Nat → Int64) (fd : Nat → UInt64) (S : wPS) (sz : Nat) (o1 : Nat) (h_o1 : isA S o1 9) (x1 : Int32) (hW : wtB S []) : Met l yL_isClean wsL_isClean ({ frames := 8, cells := 2, slots := 12, locals := 125 }) (va_Pc [.ref o1, .int x1, .ref qo] (fun U => U.heap.size = sz ∧ WX D cy c8 c9 (XO c8 c9 qo qd fo fd) (fun _ => True) S U ∧ NW U ∧ TH (va_A (XO c8 c9 qo qd fo fd ++ PL cy S) sz) U ∧ OU e0 mi (va_A (XO c8 c9 qo qd fo fd ++ PL cy S) sz) U U.heap ∧ NC U)) (va_Qi (fun (r : Int32) (u : wPS × (Nat → Int64)) => stp ([] : List (Nat × Nat)) [] [] S u.1) (fun u t => WX D cy c8 c9 (XO c8 c9 qo qd u.2 fd) (va_A (XO c8 c9 qo qd fo fd ++ PL cy S) sz) u.1 t) (va_A (XO c8 c9 qo qd fo fd ++ PL cy S) sz)) 2 12 (va_A (XO c8 c9 qo qd fo fd ++ PL cy S) sz) := by
  refine Met.ofWH (cc := cL_isClean) (maxL := 4) (ret := (some .int)) (by decide) rfl ?_
  intro p e s m args below meth c s₁ B hml hv
  obtain ⟨rfl, hsz, ⟨hP, hKX, hD0⟩, hN, hTH, hOU, hNC⟩ := hv
  have hx := B.exec
  have hb := B.bytes
  have hr := B.returns
  have hts := atoms_spec (ws := wsL_isClean) B.pre
  have hown : s.vm.findClass RL = some m.cls := findClass_of_methodNamed (x := yL_isClean) B.named
  have hlocks := B.notSynchronized
  have htab := vx_table (x := yL_isClean) B (hts (.codeWith yL_isClean cL_isClean 4 (some .int) [(0, 16, 19, 21), (0, 16, 22, 23)]) List.mem_cons_self)
  have hK := kX hKX
  subst hsz
  have hD := hD0.self (sz := s.heap.size)
  generalize hAe : va_A (XO c8 c9 qo qd fo fd ++ PL cy S) s.heap.size = A at hD hTH hOU ⊢
  generalize hXe : XO c8 c9 qo qd fo fd = X at hP hD
  have hA : ∀ q : Nat, s.heap.size ≤ q → A q := fun q h => by rw [← hAe]; exact Or.inr h
  have hS : va_S A s.heap s.heap [] := va_S.rf
  have hl := lv_entry ([.ref o1, .int x1, .ref qo]) (n := 4) (Nat.le_of_ble_eq_true rfl)
  rw [lg_entry_eq]
  generalize (lg_sl ([.ref o1, .int x1, .ref qo]) ++ List.replicate (4 - (lg_sl ([.ref o1, .int x1, .ref qo])).length) Slot.unset).toArray = ls at hl ⊢
  have hl : lv_has ls 4 [(0, .ref o1), (1, .int x1), (2, .ref qo)] := hl
  have t0 : stp ([] : List (Nat × Nat)) [] [] S S := stp.rf hW
  refine lv_aload_n hx hb dL_isClean_0 rfl (lv_at hl 2 rfl) ?_
  refine lv_iconst (v := 0) hx hb dL_isClean_1 (by decide) ?_
  refine lv_aload_n hx hb dL_isClean_2 rfl (lv_at hl 0 rfl) ?_
  refine lv_iload_n hx hb dL_isClean_3 rfl (lv_at hl 1 rfl) ?_
  have hFc := free_all hD hS hA
  obtain ⟨k1, gk1, hk1⟩ := wGt (cy := cy) X S h_o1.1 h_o1.2.1
  refine vx_calli (vx_runV (As := [.int x1]) (rest := [.int (0 : Int32), .ref qo]) ⟨hx, hb, hml, hown, hts⟩ (c_X9_isClean l hst (cy := cy) (X := X) (D := D) S _ o1 h_o1 x1 (hW)) (cwV 1 hts gL_isClean_X9_isClean rfl rfl rfl hd_X9_isClean ⟨Nat.le_of_ble_eq_true rfl, Nat.le_of_ble_eq_true rfl⟩) (pVt (va_recv hK hP (q := (RX9, TX9, 11)) (ci := 13) (q0 := k1) rfl hk1) hP hK hD hN hTH hS hFc) rfl rfl hl.1 rfl (lv_room (Nat.le_of_ble_eq_true rfl)) dL_isClean_4 ⟨Nat.le_of_ble_eq_true rfl, Nat.le_of_ble_eq_true rfl⟩) hS (fun q _ h => hFc q h) hFc (fun q _ h => hFc q h) (fun E ce q9 u t H1 locs ht hvm hw hB hz1 hk1 hS hq9 hce hcl => ?_) (fun r2 u t H1 locs ht hvm hw hB hz1 hk1 hS => ?_)
  · obtain ⟨c3, hEc3, hB2⟩ := hB
    obtain ⟨hP, hD⟩ := wd_post hFc ht hB2
    have hE9 := hEc3
    simp only [List.mem_cons, List.not_mem_nil, or_false] at hE9
    clear hEc3
    rcases hE9 with rfl | rfl
    · refine vx_catch (own := RL) (name := "java/lang/IndexOutOfBoundsException") hown [] ⟨0, 16, 19, 21⟩ [⟨0, 16, 22, 23⟩] (htab.trans rfl) (List.forall_mem_nil _) (by decide) (by decide) (hts (.classLink RL 21 "java/lang/IndexOutOfBoundsException") (by decide +kernel)) (va_Nw.use rfl (hTH.2.1 (.castable "java/lang/IndexOutOfBoundsException" "java/lang/IndexOutOfBoundsException") (by decide +kernel))) hq9 hce hcl ?_
      generalize H1 = H at hP hS ⊢
      refine lv_astore_n (lv' := [(3, .ref q9), (0, .ref o1), (1, .int x1), (2, .ref qo)]) hx hb dL_isClean_19 rfl hl (by decide) rfl (fun ls hl => ?_)
      refine lv_iconst (v := 1) hx hb dL_isClean_20 (by decide) ?_
      refine W.widen (k := 2) (n := 12) (Nat.le_of_ble_eq_true rfl) (Nat.le_of_ble_eq_true rfl) ?_
      subst hXe
      exact W.iret (v := (1 : Int32)) hx hb hr (fun t ht hW9 => ⟨⟨(1 : Int32), (S, fo), rfl, t0, wx_end hP hKX hD ht hW9.alike⟩, hS.F ht⟩) hS.2.2 dL_isClean_21 hlocks
    · refine vx_catch (own := RL) (name := "java/lang/UnsupportedOperationException") hown [⟨0, 16, 19, 21⟩] ⟨0, 16, 22, 23⟩ [] (htab.trans rfl) (List.forall_mem_cons.mpr ⟨Or.inr ⟨by decide, "java/lang/IndexOutOfBoundsException", hts (.classLink RL 21 "java/lang/IndexOutOfBoundsException") (by decide +kernel), hNC ("java/lang/UnsupportedOperationException", "java/lang/IndexOutOfBoundsException") (by decide +kernel)⟩, (List.forall_mem_nil _)⟩) (by decide) (by decide) (hts (.classLink RL 23 "java/lang/UnsupportedOperationException") (by decide +kernel)) (va_Nw.use rfl (hTH.2.1 (.castable "java/lang/UnsupportedOperationException" "java/lang/UnsupportedOperationException") (by decide +kernel))) hq9 hce hcl ?_
      generalize H1 = H at hP hS ⊢
      refine lv_astore_n (lv' := [(3, .ref q9), (0, .ref o1), (1, .int x1), (2, .ref qo)]) hx hb dL_isClean_22 rfl hl (by decide) rfl (fun ls hl => ?_)
      refine lv_iconst (v := 2) hx hb dL_isClean_23 (by decide) ?_
      refine W.widen (k := 2) (n := 12) (Nat.le_of_ble_eq_true rfl) (Nat.le_of_ble_eq_true rfl) ?_
      subst hXe
      exact W.iret (v := (2 : Int32)) hx hb hr (fun t ht hW9 => ⟨⟨(2 : Int32), (S, fo), rfl, t0, wx_end hP hKX hD ht hW9.alike⟩, hS.F ht⟩) hS.2.2 dL_isClean_24 hlocks
  · have c4 := hw
    obtain ⟨hP, hD⟩ := wd_post hFc ht hB
    generalize H1 = H at hP hS ⊢
    refine lv_if_eq (tgt := 14) hx hb dL_isClean_7 (by decide) (fun c5 => ?_) (fun c5 => ?_)
    · have c5i : r2.toInt = 0 := eq_v rfl rfl c5
      refine lv_lconst (v := 0) hx hb dL_isClean_14 (by decide) ?_
      subst hXe
      refine va_last hx hb hKX hP hD hS 0 8 rfl rfl (inb (m := 1) rfl (by decide) (by decide)) dL_isClean_15 (fun H locs hP2 hD2 hS => ?_)
      have hP : va_P D vwCl ((XO c8 c9 qo qd (vp_updL fo (0 : Int32).toNatClampNeg (0 : Int64)) fd) ++ PL cy S) H := hP2
      have hD : va_D A ((XO c8 c9 qo qd (vp_updL fo (0 : Int32).toNatClampNeg (0 : Int64)) fd) ++ PL cy S) := hD2
      clear hP2 hD2
      refine lv_goto (tgt := 25) hx hb dL_isClean_16 (by decide) ?_
      refine lv_iconst (v := 0) hx hb dL_isClean_25 (by decide) ?_
      refine W.widen (k := 2) (n := 12) (Nat.le_of_ble_eq_true rfl) (Nat.le_of_ble_eq_true rfl) ?_
      exact W.iret (v := (0 : Int32)) hx hb hr (fun t ht hW9 => ⟨⟨(0 : Int32), (S, (vp_updL fo (0 : Int32).toNatClampNeg (0 : Int64))), rfl, t0, wx_end hP hKX hD ht hW9.alike⟩, hS.F ht⟩) hS.2.2 dL_isClean_26 hlocks
    · have c5i : ¬ r2.toInt = 0 := neq_v rfl rfl c5
      refine lv_lconst (v := 1) hx hb dL_isClean_10 (by decide) ?_
      refine lv_goto (tgt := 15) hx hb dL_isClean_11 (by decide) ?_
      subst hXe
      refine va_last hx hb hKX hP hD hS 0 8 rfl rfl (inb (m := 1) rfl (by decide) (by decide)) dL_isClean_15 (fun H locs hP2 hD2 hS => ?_)
      have hP : va_P D vwCl ((XO c8 c9 qo qd (vp_updL fo (0 : Int32).toNatClampNeg (1 : Int64)) fd) ++ PL cy S) H := hP2
      have hD : va_D A ((XO c8 c9 qo qd (vp_updL fo (0 : Int32).toNatClampNeg (1 : Int64)) fd) ++ PL cy S) := hD2
      clear hP2 hD2
      refine lv_goto (tgt := 25) hx hb dL_isClean_16 (by decide) ?_
      refine lv_iconst (v := 0) hx hb dL_isClean_25 (by decide) ?_
      refine W.widen (k := 2) (n := 12) (Nat.le_of_ble_eq_true rfl) (Nat.le_of_ble_eq_true rfl) ?_
      exact W.iret (v := (0 : Int32)) hx hb hr (fun t ht hW9 => ⟨⟨(0 : Int32), (S, (vp_updL fo (0 : Int32).toNatClampNeg (1 : Int64))), rfl, t0, wx_end hP hKX hD ht hW9.alike⟩, hS.F ht⟩) hS.2.2 dL_isClean_26 hlocks
set_option maxHeartbeats 4000000 in
set_option maxRecDepth 100000 in
theorem c_L_grind (l : Launch) (hst : l.stackTraces = false) {e0 mi : Nat} {D : va_G} {cy : Nat → ClassId} {c8 c9 : ClassId} (qo qd : Nat) (fo : Nat → Int64) (fd : Nat → UInt64) (S : wPS) (sz : Nat) (o1 : Nat) (h_o1 : isA S o1 9) (x1 : Int32) (x2 : Int32) (x3 : Int32) (hW : wtB S []) : Met l yL_grind wsL_grind ({ frames := 8, cells := 4, slots := 24, locals := 128 }) (va_Pc [.ref o1, .int x1, .int x2, .int x3, .ref qo] (fun U => U.heap.size = sz ∧ WX D cy c8 c9 (XO c8 c9 qo qd fo fd) (fun _ => True) S U ∧ NW U ∧ TH (va_A (XO c8 c9 qo qd fo fd ++ PL cy S) sz) U ∧ OU e0 mi (va_A (XO c8 c9 qo qd fo fd ++ PL cy S) sz) U U.heap ∧ NC U)) (va_Qi (fun (r : Int32) (u : wPS × (Nat → Int64)) => stp [(2, 12), (2, 15), (2, 16), (2, 17)] [] [] S u.1) (fun u t => WX D cy c8 c9 (XO c8 c9 qo qd u.2 fd) (va_A (XO c8 c9 qo qd fo fd ++ PL cy S) sz) u.1 t) (va_A (XO c8 c9 qo qd fo fd ++ PL cy S) sz)) 4 24 (va_A (XO c8 c9 qo qd fo fd ++ PL cy S) sz) := by
  refine Met.ofWH (cc := cL_grind) (maxL := 6) (ret := (some .int)) (by decide) rfl ?_
  intro p e s m args below meth c s₁ B hml hv
  obtain ⟨rfl, hsz, ⟨hP, hKX, hD0⟩, hN, hTH, hOU, hNC⟩ := hv
  have hx := B.exec
  have hb := B.bytes
  have hr := B.returns
  have hts := atoms_spec (ws := wsL_grind) B.pre
  have hown : s.vm.findClass RL = some m.cls := findClass_of_methodNamed (x := yL_grind) B.named
  have hlocks := B.notSynchronized
  have htab := vx_table (x := yL_grind) B (hts (.codeWith yL_grind cL_grind 6 (some .int) [(0, 12, 15, 21), (0, 12, 19, 13), (0, 12, 23, 23)]) List.mem_cons_self)
  have hK := kX hKX
  subst hsz
  have hD := hD0.self (sz := s.heap.size)
  generalize hAe : va_A (XO c8 c9 qo qd fo fd ++ PL cy S) s.heap.size = A at hD hTH hOU ⊢
  generalize hXe : XO c8 c9 qo qd fo fd = X at hP hD
  have hA : ∀ q : Nat, s.heap.size ≤ q → A q := fun q h => by rw [← hAe]; exact Or.inr h
  have hS : va_S A s.heap s.heap [] := va_S.rf
  have hl := lv_entry ([.ref o1, .int x1, .int x2, .int x3, .ref qo]) (n := 6) (Nat.le_of_ble_eq_true rfl)
  rw [lg_entry_eq]
  generalize (lg_sl ([.ref o1, .int x1, .int x2, .int x3, .ref qo]) ++ List.replicate (6 - (lg_sl ([.ref o1, .int x1, .int x2, .int x3, .ref qo])).length) Slot.unset).toArray = ls at hl ⊢
  have hl : lv_has ls 6 [(0, .ref o1), (1, .int x1), (2, .int x2), (3, .int x3), (4, .ref qo)] := hl
  have t0 : stp [(2, 12), (2, 15), (2, 16), (2, 17)] [] [] S S := stp.rf hW
  refine lv_aload hx hb dL_grind_0 (lv_at hl 4 rfl) ?_
  refine lv_iconst (v := 0) hx hb dL_grind_2 (by decide) ?_
  refine lv_aload_n hx hb dL_grind_3 rfl (lv_at hl 0 rfl) ?_
  refine lv_iload_n hx hb dL_grind_4 rfl (lv_at hl 1 rfl) ?_
  refine lv_iload_n hx hb dL_grind_5 rfl (lv_at hl 2 rfl) ?_
  refine lv_iload_n hx hb dL_grind_6 rfl (lv_at hl 3 rfl) ?_
  have hFc := free_all hD hS hA
  obtain ⟨k1, gk1, hk1⟩ := wGt (cy := cy) X S h_o1.1 h_o1.2.1
  refine vx_calli (vx_runV (As := [.int x1, .int x2, .int x3]) (rest := [.int (0 : Int32), .ref qo]) ⟨hx, hb, hml, hown, hts⟩ (c_X9_grind l hst (cy := cy) (X := X) (D := D) S _ o1 h_o1 x1 x2 x3 (hW)) (cwV 3 hts gL_grind_X9_grind rfl rfl rfl hd_X9_grind ⟨Nat.le_of_ble_eq_true rfl, Nat.le_of_ble_eq_true rfl⟩) (pVt (va_recv hK hP (q := (RX9, TX9, 11)) (ci := 13) (q0 := k1) rfl hk1) hP hK hD hN hTH hS hFc) rfl rfl hl.1 rfl (lv_room (Nat.le_of_ble_eq_true rfl)) dL_grind_7 ⟨Nat.le_of_ble_eq_true rfl, Nat.le_of_ble_eq_true rfl⟩) hS (fun q _ h => hFc q h) hFc (fun q _ h => hFc q h) (fun E ce q9 u t H1 locs ht hvm hw hB hz1 hk1 hS hq9 hce hcl => ?_) (fun r2 u t H1 locs ht hvm hw hB hz1 hk1 hS => ?_)
  · obtain ⟨c3, hEc3, hB2⟩ := hB
    obtain ⟨hP, hD⟩ := wd_post hFc ht hB2
    have t4 : stp [(2, 12), (2, 15), (2, 16), (2, 17)] [] [] S u := t0.tr hw (by decide) (fun _ q => absurd q List.not_mem_nil)
    have xe5 : ext S u := hw.x
    have hE9 := hEc3
    simp only [List.mem_cons, List.not_mem_nil, or_false] at hE9
    clear hEc3
    rcases hE9 with rfl | rfl | rfl
    · refine vx_catch (own := RL) (name := "java/lang/IllegalArgumentException") hown [⟨0, 12, 15, 21⟩] ⟨0, 12, 19, 13⟩ [⟨0, 12, 23, 23⟩] (htab.trans rfl) (List.forall_mem_cons.mpr ⟨Or.inr ⟨by decide, "java/lang/IndexOutOfBoundsException", hts (.classLink RL 21 "java/lang/IndexOutOfBoundsException") (by decide +kernel), hNC ("java/lang/IllegalArgumentException", "java/lang/IndexOutOfBoundsException") (by decide +kernel)⟩, (List.forall_mem_nil _)⟩) (by decide) (by decide) (hts (.classLink RL 13 "java/lang/IllegalArgumentException") (by decide +kernel)) (va_Nw.use rfl (hTH.2.1 (.castable "java/lang/IllegalArgumentException" "java/lang/IllegalArgumentException") (by decide +kernel))) hq9 hce hcl ?_
      generalize H1 = H at hP hS ⊢
      refine lv_astore (lv' := [(5, .ref q9), (0, .ref o1), (1, .int x1), (2, .int x2), (3, .int x3), (4, .ref qo)]) hx hb dL_grind_19 hl (by decide) rfl (fun ls hl => ?_)
      refine lv_iconst (v := 2) hx hb dL_grind_21 (by decide) ?_
      refine W.widen (k := 4) (n := 24) (Nat.le_of_ble_eq_true rfl) (Nat.le_of_ble_eq_true rfl) ?_
      subst hXe
      exact W.iret (v := (2 : Int32)) hx hb hr (fun t ht hW9 => ⟨⟨(2 : Int32), (u, fo), rfl, t4, wx_end hP hKX hD ht hW9.alike⟩, hS.F ht⟩) hS.2.2 dL_grind_22 hlocks
    · refine vx_catch (own := RL) (name := "java/lang/IndexOutOfBoundsException") hown [] ⟨0, 12, 15, 21⟩ [⟨0, 12, 19, 13⟩, ⟨0, 12, 23, 23⟩] (htab.trans rfl) (List.forall_mem_nil _) (by decide) (by decide) (hts (.classLink RL 21 "java/lang/IndexOutOfBoundsException") (by decide +kernel)) (va_Nw.use rfl (hTH.2.1 (.castable "java/lang/IndexOutOfBoundsException" "java/lang/IndexOutOfBoundsException") (by decide +kernel))) hq9 hce hcl ?_
      generalize H1 = H at hP hS ⊢
      refine lv_astore (lv' := [(5, .ref q9), (0, .ref o1), (1, .int x1), (2, .int x2), (3, .int x3), (4, .ref qo)]) hx hb dL_grind_15 hl (by decide) rfl (fun ls hl => ?_)
      refine lv_iconst (v := 1) hx hb dL_grind_17 (by decide) ?_
      refine W.widen (k := 4) (n := 24) (Nat.le_of_ble_eq_true rfl) (Nat.le_of_ble_eq_true rfl) ?_
      subst hXe
      exact W.iret (v := (1 : Int32)) hx hb hr (fun t ht hW9 => ⟨⟨(1 : Int32), (u, fo), rfl, t4, wx_end hP hKX hD ht hW9.alike⟩, hS.F ht⟩) hS.2.2 dL_grind_18 hlocks
    · refine vx_catch (own := RL) (name := "java/lang/UnsupportedOperationException") hown [⟨0, 12, 15, 21⟩, ⟨0, 12, 19, 13⟩] ⟨0, 12, 23, 23⟩ [] (htab.trans rfl) (List.forall_mem_cons.mpr ⟨Or.inr ⟨by decide, "java/lang/IndexOutOfBoundsException", hts (.classLink RL 21 "java/lang/IndexOutOfBoundsException") (by decide +kernel), hNC ("java/lang/UnsupportedOperationException", "java/lang/IndexOutOfBoundsException") (by decide +kernel)⟩, (List.forall_mem_cons.mpr ⟨Or.inr ⟨by decide, "java/lang/IllegalArgumentException", hts (.classLink RL 13 "java/lang/IllegalArgumentException") (by decide +kernel), hNC ("java/lang/UnsupportedOperationException", "java/lang/IllegalArgumentException") (by decide +kernel)⟩, (List.forall_mem_nil _)⟩)⟩) (by decide) (by decide) (hts (.classLink RL 23 "java/lang/UnsupportedOperationException") (by decide +kernel)) (va_Nw.use rfl (hTH.2.1 (.castable "java/lang/UnsupportedOperationException" "java/lang/UnsupportedOperationException") (by decide +kernel))) hq9 hce hcl ?_
      generalize H1 = H at hP hS ⊢
      refine lv_astore (lv' := [(5, .ref q9), (0, .ref o1), (1, .int x1), (2, .int x2), (3, .int x3), (4, .ref qo)]) hx hb dL_grind_23 hl (by decide) rfl (fun ls hl => ?_)
      refine lv_iconst (v := 3) hx hb dL_grind_25 (by decide) ?_
      refine W.widen (k := 4) (n := 24) (Nat.le_of_ble_eq_true rfl) (Nat.le_of_ble_eq_true rfl) ?_
      subst hXe
      exact W.iret (v := (3 : Int32)) hx hb hr (fun t ht hW9 => ⟨⟨(3 : Int32), (u, fo), rfl, t4, wx_end hP hKX hD ht hW9.alike⟩, hS.F ht⟩) hS.2.2 dL_grind_26 hlocks
  · obtain ⟨c6, w7⟩ := hw
    obtain ⟨hP, hD⟩ := wd_post hFc ht hB
    generalize H1 = H at hP hS ⊢
    obtain ⟨S8, rfl⟩ : ∃ z, z = u := ⟨_, rfl⟩
    have t9 : stp [(2, 12), (2, 15), (2, 16), (2, 17)] [] [] S S8 := t0.tr w7 (by decide) (fun _ q => absurd q List.not_mem_nil)
    have xe10 : ext S S8 := w7.x
    refine lv_i2l hx hb dL_grind_10 rfl ?_
    subst hXe
    refine va_last hx hb hKX hP hD hS 0 8 rfl rfl (inb (m := 1) rfl (by decide) (by decide)) dL_grind_11 (fun H locs hP2 hD2 hS => ?_)
    have hP : va_P D vwCl ((XO c8 c9 qo qd (vp_updL fo (0 : Int32).toNatClampNeg r2.toInt64) fd) ++ PL cy S8) H := hP2
    have hD : va_D A ((XO c8 c9 qo qd (vp_updL fo (0 : Int32).toNatClampNeg r2.toInt64) fd) ++ PL cy S8) := hD2
    clear hP2 hD2
    refine lv_goto (tgt := 27) hx hb dL_grind_12 (by decide) ?_
    refine lv_iconst (v := 0) hx hb dL_grind_27 (by decide) ?_
    refine W.widen (k := 4) (n := 24) (Nat.le_of_ble_eq_true rfl) (Nat.le_of_ble_eq_true rfl) ?_
    exact W.iret (v := (0 : Int32)) hx hb hr (fun t ht hW9 => ⟨⟨(0 : Int32), (S8, (vp_updL fo (0 : Int32).toNatClampNeg r2.toInt64)), rfl, t9, wx_end hP hKX hD ht hW9.alike⟩, hS.F ht⟩) hS.2.2 dL_grind_28 hlocks
set_option maxHeartbeats 4000000 in
set_option maxRecDepth 100000 in
theorem c_L_stateOf (l : Launch) (hst : l.stackTraces = false) {e0 mi : Nat} {D : va_G} {cy : Nat → ClassId} {c8 c9 : ClassId} (qo qd : Nat) (fo : Nat → Int64) (fd : Nat → UInt64) (S : wPS) (sz : Nat) (o1 : Nat) (h_o1 : isA S o1 9) (x1 : Int32) (hW : wtB S []) : Met l yL_stateOf wsL_stateOf ({ frames := 8, cells := 1, slots := 6, locals := 125 }) (va_Pc [.ref o1, .int x1, .ref qo] (fun U => U.heap.size = sz ∧ WX D cy c8 c9 (XO c8 c9 qo qd fo fd) (fun _ => True) S U ∧ NW U ∧ TH (va_A (XO c8 c9 qo qd fo fd ++ PL cy S) sz) U ∧ OU e0 mi (va_A (XO c8 c9 qo qd fo fd ++ PL cy S) sz) U U.heap ∧ NC U)) (va_Qi (fun (r : Int32) (u : wPS × (Nat → Int64)) => stp ([] : List (Nat × Nat)) [] [] S u.1) (fun u t => WX D cy c8 c9 (XO c8 c9 qo qd u.2 fd) (va_A (XO c8 c9 qo qd fo fd ++ PL cy S) sz) u.1 t) (va_A (XO c8 c9 qo qd fo fd ++ PL cy S) sz)) 1 6 (va_A (XO c8 c9 qo qd fo fd ++ PL cy S) sz) := by
  refine Met.ofWH (cc := cL_stateOf) (maxL := 4) (ret := (some .int)) (by decide) rfl ?_
  intro p e s m args below meth c s₁ B hml hv
  obtain ⟨rfl, hsz, ⟨hP, hKX, hD0⟩, hN, hTH, hOU, hNC⟩ := hv
  have hx := B.exec
  have hb := B.bytes
  have hr := B.returns
  have hts := atoms_spec (ws := wsL_stateOf) B.pre
  have hown : s.vm.findClass RL = some m.cls := findClass_of_methodNamed (x := yL_stateOf) B.named
  have hlocks := B.notSynchronized
  have htab := vx_table (x := yL_stateOf) B (hts (.codeWith yL_stateOf cL_stateOf 4 (some .int) [(0, 9, 12, 21)]) List.mem_cons_self)
  have hK := kX hKX
  subst hsz
  have hD := hD0.self (sz := s.heap.size)
  generalize hAe : va_A (XO c8 c9 qo qd fo fd ++ PL cy S) s.heap.size = A at hD hTH hOU ⊢
  generalize hXe : XO c8 c9 qo qd fo fd = X at hP hD
  have hA : ∀ q : Nat, s.heap.size ≤ q → A q := fun q h => by rw [← hAe]; exact Or.inr h
  have hS : va_S A s.heap s.heap [] := va_S.rf
  have hl := lv_entry ([.ref o1, .int x1, .ref qo]) (n := 4) (Nat.le_of_ble_eq_true rfl)
  rw [lg_entry_eq]
  generalize (lg_sl ([.ref o1, .int x1, .ref qo]) ++ List.replicate (4 - (lg_sl ([.ref o1, .int x1, .ref qo])).length) Slot.unset).toArray = ls at hl ⊢
  have hl : lv_has ls 4 [(0, .ref o1), (1, .int x1), (2, .ref qo)] := hl
  have t0 : stp ([] : List (Nat × Nat)) [] [] S S := stp.rf hW
  refine lv_aload_n hx hb dL_stateOf_0 rfl (lv_at hl 2 rfl) ?_
  refine lv_iconst (v := 0) hx hb dL_stateOf_1 (by decide) ?_
  refine lv_aload_n hx hb dL_stateOf_2 rfl (lv_at hl 0 rfl) ?_
  refine lv_iload_n hx hb dL_stateOf_3 rfl (lv_at hl 1 rfl) ?_
  have hFc := free_all hD hS hA
  obtain ⟨k1, gk1, hk1⟩ := wGt (cy := cy) X S h_o1.1 h_o1.2.1
  refine vx_calli (vx_runV (As := [.int x1]) (rest := [.int (0 : Int32), .ref qo]) ⟨hx, hb, hml, hown, hts⟩ (c_X9_stateOf l hst (cy := cy) (X := X) (D := D) S _ o1 h_o1 x1 (hW)) (cwV 1 hts gL_stateOf_X9_stateOf rfl rfl rfl hd_X9_stateOf ⟨Nat.le_of_ble_eq_true rfl, Nat.le_of_ble_eq_true rfl⟩) (pVt (va_recv hK hP (q := (RX9, TX9, 11)) (ci := 13) (q0 := k1) rfl hk1) hP hK hD hN hTH hS hFc) rfl rfl hl.1 rfl (lv_room (Nat.le_of_ble_eq_true rfl)) dL_stateOf_4 ⟨Nat.le_of_ble_eq_true rfl, Nat.le_of_ble_eq_true rfl⟩) hS (fun q _ h => hFc q h) hFc (fun q _ h => hFc q h) (fun E ce q9 u t H1 locs ht hvm hw hB hz1 hk1 hS hq9 hce hcl => ?_) (fun r2 u t H1 locs ht hvm hw hB hz1 hk1 hS => ?_)
  · obtain ⟨c3, hEc3, hB2⟩ := hB
    obtain ⟨hP, hD⟩ := wd_post hFc ht hB2
    have hE9 := hEc3
    simp only [List.mem_cons, List.not_mem_nil, or_false] at hE9
    clear hEc3
    subst hE9
    refine vx_catch (own := RL) (name := "java/lang/IndexOutOfBoundsException") hown [] ⟨0, 9, 12, 21⟩ [] (htab.trans rfl) (List.forall_mem_nil _) (by decide) (by decide) (hts (.classLink RL 21 "java/lang/IndexOutOfBoundsException") (by decide +kernel)) (va_Nw.use rfl (hTH.2.1 (.castable "java/lang/IndexOutOfBoundsException" "java/lang/IndexOutOfBoundsException") (by decide +kernel))) hq9 hce hcl ?_
    generalize H1 = H at hP hS ⊢
    refine lv_astore_n (lv' := [(3, .ref q9), (0, .ref o1), (1, .int x1), (2, .ref qo)]) hx hb dL_stateOf_12 rfl hl (by decide) rfl (fun ls hl => ?_)
    refine lv_iconst (v := 1) hx hb dL_stateOf_13 (by decide) ?_
    refine W.widen (k := 1) (n := 6) (Nat.le_of_ble_eq_true rfl) (Nat.le_of_ble_eq_true rfl) ?_
    subst hXe
    exact W.iret (v := (1 : Int32)) hx hb hr (fun t ht hW9 => ⟨⟨(1 : Int32), (S, fo), rfl, t0, wx_end hP hKX hD ht hW9.alike⟩, hS.F ht⟩) hS.2.2 dL_stateOf_14 hlocks
  · have c4 := hw
    obtain ⟨hP, hD⟩ := wd_post hFc ht hB
    generalize H1 = H at hP hS ⊢
    refine lv_i2l hx hb dL_stateOf_7 rfl ?_
    subst hXe
    refine va_last hx hb hKX hP hD hS 0 8 rfl rfl (inb (m := 1) rfl (by decide) (by decide)) dL_stateOf_8 (fun H locs hP2 hD2 hS => ?_)
    have hP : va_P D vwCl ((XO c8 c9 qo qd (vp_updL fo (0 : Int32).toNatClampNeg r2.toInt64) fd) ++ PL cy S) H := hP2
    have hD : va_D A ((XO c8 c9 qo qd (vp_updL fo (0 : Int32).toNatClampNeg r2.toInt64) fd) ++ PL cy S) := hD2
    clear hP2 hD2
    refine lv_goto (tgt := 15) hx hb dL_stateOf_9 (by decide) ?_
    refine lv_iconst (v := 0) hx hb dL_stateOf_15 (by decide) ?_
    refine W.widen (k := 1) (n := 6) (Nat.le_of_ble_eq_true rfl) (Nat.le_of_ble_eq_true rfl) ?_
    exact W.iret (v := (0 : Int32)) hx hb hr (fun t ht hW9 => ⟨⟨(0 : Int32), (S, (vp_updL fo (0 : Int32).toNatClampNeg r2.toInt64)), rfl, t0, wx_end hP hKX hD ht hW9.alike⟩, hS.F ht⟩) hS.2.2 dL_stateOf_16 hlocks
set_option maxHeartbeats 4000000 in
set_option maxRecDepth 100000 in
theorem c_L_chart (l : Launch) (hst : l.stackTraces = false) {e0 mi : Nat} {D : va_G} {cy : Nat → ClassId} {c8 c9 : ClassId} (qo qd : Nat) (fo : Nat → Int64) (fd : Nat → UInt64) (S : wPS) (sz : Nat) (o1 : Nat) (h_o1 : isA S o1 9) (x1 : Int32) (x2 : Int32) (x3 : Int32) (hW : wtB S []) : Met l yL_chart wsL_chart ({ frames := 8, cells := 3, slots := 18, locals := 128 }) (va_Pc [.ref o1, .int x1, .int x2, .int x3, .ref qo] (fun U => U.heap.size = sz ∧ WX D cy c8 c9 (XO c8 c9 qo qd fo fd) (fun _ => True) S U ∧ NW U ∧ TH (va_A (XO c8 c9 qo qd fo fd ++ PL cy S) sz) U ∧ OU e0 mi (va_A (XO c8 c9 qo qd fo fd ++ PL cy S) sz) U U.heap ∧ NC U)) (va_Qi (fun (r : Int32) (u : wPS × (Nat → Int64)) => stp [(1, 2), (25, 100), (26, 100)] [] [] S u.1) (fun u t => WX D cy c8 c9 (XO c8 c9 qo qd u.2 fd) (va_A (XO c8 c9 qo qd fo fd ++ PL cy S) sz) u.1 t) (va_A (XO c8 c9 qo qd fo fd ++ PL cy S) sz)) 3 18 (va_A (XO c8 c9 qo qd fo fd ++ PL cy S) sz) := by
  refine Met.ofWH (cc := cL_chart) (maxL := 6) (ret := (some .int)) (by decide) rfl ?_
  intro p e s m args below meth c s₁ B hml hv
  obtain ⟨rfl, hsz, ⟨hP, hKX, hD0⟩, hN, hTH, hOU, hNC⟩ := hv
  have hx := B.exec
  have hb := B.bytes
  have hr := B.returns
  have hts := atoms_spec (ws := wsL_chart) B.pre
  have hown : s.vm.findClass RL = some m.cls := findClass_of_methodNamed (x := yL_chart) B.named
  have hlocks := B.notSynchronized
  have htab := vx_table (x := yL_chart) B (hts (.codeWith yL_chart cL_chart 6 (some .int) [(0, 12, 15, 21), (0, 12, 19, 13)]) List.mem_cons_self)
  have hK := kX hKX
  subst hsz
  have hD := hD0.self (sz := s.heap.size)
  generalize hAe : va_A (XO c8 c9 qo qd fo fd ++ PL cy S) s.heap.size = A at hD hTH hOU ⊢
  generalize hXe : XO c8 c9 qo qd fo fd = X at hP hD
  have hA : ∀ q : Nat, s.heap.size ≤ q → A q := fun q h => by rw [← hAe]; exact Or.inr h
  have hS : va_S A s.heap s.heap [] := va_S.rf
  have hl := lv_entry ([.ref o1, .int x1, .int x2, .int x3, .ref qo]) (n := 6) (Nat.le_of_ble_eq_true rfl)
  rw [lg_entry_eq]
  generalize (lg_sl ([.ref o1, .int x1, .int x2, .int x3, .ref qo]) ++ List.replicate (6 - (lg_sl ([.ref o1, .int x1, .int x2, .int x3, .ref qo])).length) Slot.unset).toArray = ls at hl ⊢
  have hl : lv_has ls 6 [(0, .ref o1), (1, .int x1), (2, .int x2), (3, .int x3), (4, .ref qo)] := hl
  have t0 : stp [(1, 2), (25, 100), (26, 100)] [] [] S S := stp.rf hW
  refine lv_aload hx hb dL_chart_0 (lv_at hl 4 rfl) ?_
  refine lv_iconst (v := 0) hx hb dL_chart_2 (by decide) ?_
  refine lv_aload_n hx hb dL_chart_3 rfl (lv_at hl 0 rfl) ?_
  refine lv_iload_n hx hb dL_chart_4 rfl (lv_at hl 1 rfl) ?_
  refine lv_iload_n hx hb dL_chart_5 rfl (lv_at hl 2 rfl) ?_
  refine lv_iload_n hx hb dL_chart_6 rfl (lv_at hl 3 rfl) ?_
  have hFc := free_all hD hS hA
  obtain ⟨k1, gk1, hk1⟩ := wGt (cy := cy) X S h_o1.1 h_o1.2.1
  refine vx_calli (vx_runV (As := [.int x1, .int x2, .int x3]) (rest := [.int (0 : Int32), .ref qo]) ⟨hx, hb, hml, hown, hts⟩ (c_X9_chart l hst (cy := cy) (X := X) (D := D) S _ o1 h_o1 x1 x2 x3 (hW)) (cwV 3 hts gL_chart_X9_chart rfl rfl rfl hd_X9_chart ⟨Nat.le_of_ble_eq_true rfl, Nat.le_of_ble_eq_true rfl⟩) (pVt (va_recv hK hP (q := (RX9, TX9, 11)) (ci := 13) (q0 := k1) rfl hk1) hP hK hD hN hTH hS hFc) rfl rfl hl.1 rfl (lv_room (Nat.le_of_ble_eq_true rfl)) dL_chart_7 ⟨Nat.le_of_ble_eq_true rfl, Nat.le_of_ble_eq_true rfl⟩) hS (fun q _ h => hFc q h) hFc (fun q _ h => hFc q h) (fun E ce q9 u t H1 locs ht hvm hw hB hz1 hk1 hS hq9 hce hcl => ?_) (fun r2 u t H1 locs ht hvm hw hB hz1 hk1 hS => ?_)
  · obtain ⟨c3, hEc3, hB2⟩ := hB
    obtain ⟨hP, hD⟩ := wd_post hFc ht hB2
    have t4 : stp [(1, 2), (25, 100), (26, 100)] [] [] S u := t0.tr hw (by decide) (fun _ q => absurd q List.not_mem_nil)
    have xe5 : ext S u := hw.x
    have hE9 := hEc3
    simp only [List.mem_cons, List.not_mem_nil, or_false] at hE9
    clear hEc3
    rcases hE9 with rfl | rfl
    · refine vx_catch (own := RL) (name := "java/lang/IllegalArgumentException") hown [⟨0, 12, 15, 21⟩] ⟨0, 12, 19, 13⟩ [] (htab.trans rfl) (List.forall_mem_cons.mpr ⟨Or.inr ⟨by decide, "java/lang/IndexOutOfBoundsException", hts (.classLink RL 21 "java/lang/IndexOutOfBoundsException") (by decide +kernel), hNC ("java/lang/IllegalArgumentException", "java/lang/IndexOutOfBoundsException") (by decide +kernel)⟩, (List.forall_mem_nil _)⟩) (by decide) (by decide) (hts (.classLink RL 13 "java/lang/IllegalArgumentException") (by decide +kernel)) (va_Nw.use rfl (hTH.2.1 (.castable "java/lang/IllegalArgumentException" "java/lang/IllegalArgumentException") (by decide +kernel))) hq9 hce hcl ?_
      generalize H1 = H at hP hS ⊢
      refine lv_astore (lv' := [(5, .ref q9), (0, .ref o1), (1, .int x1), (2, .int x2), (3, .int x3), (4, .ref qo)]) hx hb dL_chart_19 hl (by decide) rfl (fun ls hl => ?_)
      refine lv_iconst (v := 2) hx hb dL_chart_21 (by decide) ?_
      refine W.widen (k := 3) (n := 18) (Nat.le_of_ble_eq_true rfl) (Nat.le_of_ble_eq_true rfl) ?_
      subst hXe
      exact W.iret (v := (2 : Int32)) hx hb hr (fun t ht hW9 => ⟨⟨(2 : Int32), (u, fo), rfl, t4, wx_end hP hKX hD ht hW9.alike⟩, hS.F ht⟩) hS.2.2 dL_chart_22 hlocks
    · refine vx_catch (own := RL) (name := "java/lang/IndexOutOfBoundsException") hown [] ⟨0, 12, 15, 21⟩ [⟨0, 12, 19, 13⟩] (htab.trans rfl) (List.forall_mem_nil _) (by decide) (by decide) (hts (.classLink RL 21 "java/lang/IndexOutOfBoundsException") (by decide +kernel)) (va_Nw.use rfl (hTH.2.1 (.castable "java/lang/IndexOutOfBoundsException" "java/lang/IndexOutOfBoundsException") (by decide +kernel))) hq9 hce hcl ?_
      generalize H1 = H at hP hS ⊢
      refine lv_astore (lv' := [(5, .ref q9), (0, .ref o1), (1, .int x1), (2, .int x2), (3, .int x3), (4, .ref qo)]) hx hb dL_chart_15 hl (by decide) rfl (fun ls hl => ?_)
      refine lv_iconst (v := 1) hx hb dL_chart_17 (by decide) ?_
      refine W.widen (k := 3) (n := 18) (Nat.le_of_ble_eq_true rfl) (Nat.le_of_ble_eq_true rfl) ?_
      subst hXe
      exact W.iret (v := (1 : Int32)) hx hb hr (fun t ht hW9 => ⟨⟨(1 : Int32), (u, fo), rfl, t4, wx_end hP hKX hD ht hW9.alike⟩, hS.F ht⟩) hS.2.2 dL_chart_18 hlocks
  · obtain ⟨c6, w7⟩ := hw
    obtain ⟨hP, hD⟩ := wd_post hFc ht hB
    generalize H1 = H at hP hS ⊢
    obtain ⟨S8, rfl⟩ : ∃ z, z = u := ⟨_, rfl⟩
    have t9 : stp [(1, 2), (25, 100), (26, 100)] [] [] S S8 := t0.tr w7 (by decide) (fun _ q => absurd q List.not_mem_nil)
    have xe10 : ext S S8 := w7.x
    refine lv_i2l hx hb dL_chart_10 rfl ?_
    subst hXe
    refine va_last hx hb hKX hP hD hS 0 8 rfl rfl (inb (m := 1) rfl (by decide) (by decide)) dL_chart_11 (fun H locs hP2 hD2 hS => ?_)
    have hP : va_P D vwCl ((XO c8 c9 qo qd (vp_updL fo (0 : Int32).toNatClampNeg r2.toInt64) fd) ++ PL cy S8) H := hP2
    have hD : va_D A ((XO c8 c9 qo qd (vp_updL fo (0 : Int32).toNatClampNeg r2.toInt64) fd) ++ PL cy S8) := hD2
    clear hP2 hD2
    refine lv_goto (tgt := 23) hx hb dL_chart_12 (by decide) ?_
    refine lv_iconst (v := 0) hx hb dL_chart_23 (by decide) ?_
    refine W.widen (k := 3) (n := 18) (Nat.le_of_ble_eq_true rfl) (Nat.le_of_ble_eq_true rfl) ?_
    exact W.iret (v := (0 : Int32)) hx hb hr (fun t ht hW9 => ⟨⟨(0 : Int32), (S8, (vp_updL fo (0 : Int32).toNatClampNeg r2.toInt64)), rfl, t9, wx_end hP hKX hD ht hW9.alike⟩, hS.F ht⟩) hS.2.2 dL_chart_24 hlocks
set_option maxHeartbeats 4000000 in
set_option maxRecDepth 100000 in
theorem c_L_total (l : Launch) (hst : l.stackTraces = false) {e0 mi : Nat} {D : va_G} {cy : Nat → ClassId} {c8 c9 : ClassId} (qo qd : Nat) (fo : Nat → Int64) (fd : Nat → UInt64) (S : wPS) (sz : Nat) (o1 : Nat) (h_o1 : isA S o1 9) (x1 : Int32) (hW : wtB S []) : Met l yL_total wsL_total ({ frames := 8, cells := 1, slots := 6, locals := 124 }) (va_Pc [.ref o1, .int x1, .ref qo] (fun U => U.heap.size = sz ∧ WX D cy c8 c9 (XO c8 c9 qo qd fo fd) (fun _ => True) S U ∧ NW U ∧ TH (va_A (XO c8 c9 qo qd fo fd ++ PL cy S) sz) U ∧ OU e0 mi (va_A (XO c8 c9 qo qd fo fd ++ PL cy S) sz) U U.heap ∧ NC U)) (va_Qi (fun (r : Int32) (u : wPS × (Nat → Int64)) => stp ([] : List (Nat × Nat)) [] [] S u.1) (fun u t => WX D cy c8 c9 (XO c8 c9 qo qd u.2 fd) (va_A (XO c8 c9 qo qd fo fd ++ PL cy S) sz) u.1 t) (va_A (XO c8 c9 qo qd fo fd ++ PL cy S) sz)) 1 6 (va_A (XO c8 c9 qo qd fo fd ++ PL cy S) sz) := by
  refine Met.ofWH (cc := cL_total) (maxL := 4) (ret := (some .int)) (by decide) rfl ?_
  intro p e s m args below meth c s₁ B hml hv
  obtain ⟨rfl, hsz, ⟨hP, hKX, hD0⟩, hN, hTH, hOU, hNC⟩ := hv
  have hx := B.exec
  have hb := B.bytes
  have hr := B.returns
  have hts := atoms_spec (ws := wsL_total) B.pre
  have hown : s.vm.findClass RL = some m.cls := findClass_of_methodNamed (x := yL_total) B.named
  have hlocks := B.notSynchronized
  have htab := vx_table (x := yL_total) B (hts (.codeWith yL_total cL_total 4 (some .int) [(0, 9, 12, 21)]) List.mem_cons_self)
  have hK := kX hKX
  subst hsz
  have hD := hD0.self (sz := s.heap.size)
  generalize hAe : va_A (XO c8 c9 qo qd fo fd ++ PL cy S) s.heap.size = A at hD hTH hOU ⊢
  generalize hXe : XO c8 c9 qo qd fo fd = X at hP hD
  have hA : ∀ q : Nat, s.heap.size ≤ q → A q := fun q h => by rw [← hAe]; exact Or.inr h
  have hS : va_S A s.heap s.heap [] := va_S.rf
  have hl := lv_entry ([.ref o1, .int x1, .ref qo]) (n := 4) (Nat.le_of_ble_eq_true rfl)
  rw [lg_entry_eq]
  generalize (lg_sl ([.ref o1, .int x1, .ref qo]) ++ List.replicate (4 - (lg_sl ([.ref o1, .int x1, .ref qo])).length) Slot.unset).toArray = ls at hl ⊢
  have hl : lv_has ls 4 [(0, .ref o1), (1, .int x1), (2, .ref qo)] := hl
  have t0 : stp ([] : List (Nat × Nat)) [] [] S S := stp.rf hW
  refine lv_aload_n hx hb dL_total_0 rfl (lv_at hl 2 rfl) ?_
  refine lv_iconst (v := 0) hx hb dL_total_1 (by decide) ?_
  refine lv_aload_n hx hb dL_total_2 rfl (lv_at hl 0 rfl) ?_
  refine lv_iload_n hx hb dL_total_3 rfl (lv_at hl 1 rfl) ?_
  have hFc := free_all hD hS hA
  obtain ⟨k1, gk1, hk1⟩ := wGt (cy := cy) X S h_o1.1 h_o1.2.1
  refine vx_calli (vx_runV (As := [.int x1]) (rest := [.int (0 : Int32), .ref qo]) ⟨hx, hb, hml, hown, hts⟩ (c_X9_total l hst (cy := cy) (X := X) (D := D) S _ o1 h_o1 x1 (hW)) (cwV 1 hts gL_total_X9_total rfl rfl rfl hd_X9_total ⟨Nat.le_of_ble_eq_true rfl, Nat.le_of_ble_eq_true rfl⟩) (pVt (va_recv hK hP (q := (RX9, TX9, 11)) (ci := 13) (q0 := k1) rfl hk1) hP hK hD hN hTH hS hFc) rfl rfl hl.1 rfl (lv_room (Nat.le_of_ble_eq_true rfl)) dL_total_4 ⟨Nat.le_of_ble_eq_true rfl, Nat.le_of_ble_eq_true rfl⟩) hS (fun q _ h => hFc q h) hFc (fun q _ h => hFc q h) (fun E ce q9 u t H1 locs ht hvm hw hB hz1 hk1 hS hq9 hce hcl => ?_) (fun r2 u t H1 locs ht hvm hw hB hz1 hk1 hS => ?_)
  · obtain ⟨c3, hEc3, hB2⟩ := hB
    obtain ⟨hP, hD⟩ := wd_post hFc ht hB2
    have hE9 := hEc3
    simp only [List.mem_cons, List.not_mem_nil, or_false] at hE9
    clear hEc3
    subst hE9
    refine vx_catch (own := RL) (name := "java/lang/IndexOutOfBoundsException") hown [] ⟨0, 9, 12, 21⟩ [] (htab.trans rfl) (List.forall_mem_nil _) (by decide) (by decide) (hts (.classLink RL 21 "java/lang/IndexOutOfBoundsException") (by decide +kernel)) (va_Nw.use rfl (hTH.2.1 (.castable "java/lang/IndexOutOfBoundsException" "java/lang/IndexOutOfBoundsException") (by decide +kernel))) hq9 hce hcl ?_
    generalize H1 = H at hP hS ⊢
    refine lv_astore_n (lv' := [(3, .ref q9), (0, .ref o1), (1, .int x1), (2, .ref qo)]) hx hb dL_total_12 rfl hl (by decide) rfl (fun ls hl => ?_)
    refine lv_iconst (v := 1) hx hb dL_total_13 (by decide) ?_
    refine W.widen (k := 1) (n := 6) (Nat.le_of_ble_eq_true rfl) (Nat.le_of_ble_eq_true rfl) ?_
    subst hXe
    exact W.iret (v := (1 : Int32)) hx hb hr (fun t ht hW9 => ⟨⟨(1 : Int32), (S, fo), rfl, t0, wx_end hP hKX hD ht hW9.alike⟩, hS.F ht⟩) hS.2.2 dL_total_14 hlocks
  · have c4 := hw
    obtain ⟨hP, hD⟩ := wd_post hFc ht hB
    generalize H1 = H at hP hS ⊢
    refine lv_i2l hx hb dL_total_7 rfl ?_
    subst hXe
    refine va_last hx hb hKX hP hD hS 0 8 rfl rfl (inb (m := 1) rfl (by decide) (by decide)) dL_total_8 (fun H locs hP2 hD2 hS => ?_)
    have hP : va_P D vwCl ((XO c8 c9 qo qd (vp_updL fo (0 : Int32).toNatClampNeg r2.toInt64) fd) ++ PL cy S) H := hP2
    have hD : va_D A ((XO c8 c9 qo qd (vp_updL fo (0 : Int32).toNatClampNeg r2.toInt64) fd) ++ PL cy S) := hD2
    clear hP2 hD2
    refine lv_goto (tgt := 15) hx hb dL_total_9 (by decide) ?_
    refine lv_iconst (v := 0) hx hb dL_total_15 (by decide) ?_
    refine W.widen (k := 1) (n := 6) (Nat.le_of_ble_eq_true rfl) (Nat.le_of_ble_eq_true rfl) ?_
    exact W.iret (v := (0 : Int32)) hx hb hr (fun t ht hW9 => ⟨⟨(0 : Int32), (S, (vp_updL fo (0 : Int32).toNatClampNeg r2.toInt64)), rfl, t0, wx_end hP hKX hD ht hW9.alike⟩, hS.F ht⟩) hS.2.2 dL_total_16 hlocks
set_option maxHeartbeats 4000000 in
set_option maxRecDepth 100000 in
theorem c_L_grade (l : Launch) (hst : l.stackTraces = false) {e0 mi : Nat} {D : va_G} {cy : Nat → ClassId} {c8 c9 : ClassId} (qo qd : Nat) (fo : Nat → Int64) (fd : Nat → UInt64) (S : wPS) (sz : Nat) (o1 : Nat) (h_o1 : isA S o1 9) (x1 : Int32) (hW : wtB S []) : Met l yL_grade wsL_grade ({ frames := 8, cells := 1, slots := 6, locals := 124 }) (va_Pc [.ref o1, .int x1, .ref qo] (fun U => U.heap.size = sz ∧ WX D cy c8 c9 (XO c8 c9 qo qd fo fd) (fun _ => True) S U ∧ NW U ∧ TH (va_A (XO c8 c9 qo qd fo fd ++ PL cy S) sz) U ∧ OU e0 mi (va_A (XO c8 c9 qo qd fo fd ++ PL cy S) sz) U U.heap ∧ NC U)) (va_Qi (fun (r : Int32) (u : wPS × (Nat → Int64)) => stp ([] : List (Nat × Nat)) [] [] S u.1) (fun u t => WX D cy c8 c9 (XO c8 c9 qo qd u.2 fd) (va_A (XO c8 c9 qo qd fo fd ++ PL cy S) sz) u.1 t) (va_A (XO c8 c9 qo qd fo fd ++ PL cy S) sz)) 1 6 (va_A (XO c8 c9 qo qd fo fd ++ PL cy S) sz) := by
  refine Met.ofWH (cc := cL_grade) (maxL := 4) (ret := (some .int)) (by decide) rfl ?_
  intro p e s m args below meth c s₁ B hml hv
  obtain ⟨rfl, hsz, ⟨hP, hKX, hD0⟩, hN, hTH, hOU, hNC⟩ := hv
  have hx := B.exec
  have hb := B.bytes
  have hr := B.returns
  have hts := atoms_spec (ws := wsL_grade) B.pre
  have hown : s.vm.findClass RL = some m.cls := findClass_of_methodNamed (x := yL_grade) B.named
  have hlocks := B.notSynchronized
  have htab := vx_table (x := yL_grade) B (hts (.codeWith yL_grade cL_grade 4 (some .int) [(0, 9, 12, 21)]) List.mem_cons_self)
  have hK := kX hKX
  subst hsz
  have hD := hD0.self (sz := s.heap.size)
  generalize hAe : va_A (XO c8 c9 qo qd fo fd ++ PL cy S) s.heap.size = A at hD hTH hOU ⊢
  generalize hXe : XO c8 c9 qo qd fo fd = X at hP hD
  have hA : ∀ q : Nat, s.heap.size ≤ q → A q := fun q h => by rw [← hAe]; exact Or.inr h
  have hS : va_S A s.heap s.heap [] := va_S.rf
  have hl := lv_entry ([.ref o1, .int x1, .ref qo]) (n := 4) (Nat.le_of_ble_eq_true rfl)
  rw [lg_entry_eq]
  generalize (lg_sl ([.ref o1, .int x1, .ref qo]) ++ List.replicate (4 - (lg_sl ([.ref o1, .int x1, .ref qo])).length) Slot.unset).toArray = ls at hl ⊢
  have hl : lv_has ls 4 [(0, .ref o1), (1, .int x1), (2, .ref qo)] := hl
  have t0 : stp ([] : List (Nat × Nat)) [] [] S S := stp.rf hW
  refine lv_aload_n hx hb dL_grade_0 rfl (lv_at hl 2 rfl) ?_
  refine lv_iconst (v := 0) hx hb dL_grade_1 (by decide) ?_
  refine lv_aload_n hx hb dL_grade_2 rfl (lv_at hl 0 rfl) ?_
  refine lv_iload_n hx hb dL_grade_3 rfl (lv_at hl 1 rfl) ?_
  have hFc := free_all hD hS hA
  obtain ⟨k1, gk1, hk1⟩ := wGt (cy := cy) X S h_o1.1 h_o1.2.1
  refine vx_calli (vx_runV (As := [.int x1]) (rest := [.int (0 : Int32), .ref qo]) ⟨hx, hb, hml, hown, hts⟩ (c_X9_grade l hst (e0 := e0) (mi := mi) (cy := cy) (X := X) (D := D) S _ o1 h_o1 x1 (hW)) (cwV 1 hts gL_grade_X9_grade rfl rfl rfl hd_X9_grade ⟨Nat.le_of_ble_eq_true rfl, Nat.le_of_ble_eq_true rfl⟩) (pVto (va_recv hK hP (q := (RX9, TX9, 11)) (ci := 13) (q0 := k1) rfl hk1) hP hK hD hN hTH hOU hS hFc) rfl rfl hl.1 rfl (lv_room (Nat.le_of_ble_eq_true rfl)) dL_grade_4 ⟨Nat.le_of_ble_eq_true rfl, Nat.le_of_ble_eq_true rfl⟩) hS (fun q _ h => hFc q h) hFc (fun q _ h => hFc q h) (fun E ce q9 u t H1 locs ht hvm hw hB hz1 hk1 hS hq9 hce hcl => ?_) (fun r2 u t H1 locs ht hvm hw hB hz1 hk1 hS => ?_)
  · obtain ⟨c3, hEc3, hB2⟩ := hB
    obtain ⟨hP, hD⟩ := wd_post hFc ht hB2
    have hE9 := hEc3
    simp only [List.mem_cons, List.not_mem_nil, or_false] at hE9
    clear hEc3
    subst hE9
    refine vx_catch (own := RL) (name := "java/lang/IndexOutOfBoundsException") hown [] ⟨0, 9, 12, 21⟩ [] (htab.trans rfl) (List.forall_mem_nil _) (by decide) (by decide) (hts (.classLink RL 21 "java/lang/IndexOutOfBoundsException") (by decide +kernel)) (va_Nw.use rfl (hTH.2.1 (.castable "java/lang/IndexOutOfBoundsException" "java/lang/IndexOutOfBoundsException") (by decide +kernel))) hq9 hce hcl ?_
    generalize H1 = H at hP hS ⊢
    refine lv_astore_n (lv' := [(3, .ref q9), (0, .ref o1), (1, .int x1), (2, .ref qo)]) hx hb dL_grade_12 rfl hl (by decide) rfl (fun ls hl => ?_)
    refine lv_iconst (v := 1) hx hb dL_grade_13 (by decide) ?_
    refine W.widen (k := 1) (n := 6) (Nat.le_of_ble_eq_true rfl) (Nat.le_of_ble_eq_true rfl) ?_
    subst hXe
    exact W.iret (v := (1 : Int32)) hx hb hr (fun t ht hW9 => ⟨⟨(1 : Int32), (S, fo), rfl, t0, wx_end hP hKX hD ht hW9.alike⟩, hS.F ht⟩) hS.2.2 dL_grade_14 hlocks
  · have c4 := hw
    obtain ⟨hP, hD⟩ := wd_post hFc ht hB
    generalize H1 = H at hP hS ⊢
    refine lv_i2l hx hb dL_grade_7 rfl ?_
    subst hXe
    refine va_last hx hb hKX hP hD hS 0 8 rfl rfl (inb (m := 1) rfl (by decide) (by decide)) dL_grade_8 (fun H locs hP2 hD2 hS => ?_)
    have hP : va_P D vwCl ((XO c8 c9 qo qd (vp_updL fo (0 : Int32).toNatClampNeg r2.toInt64) fd) ++ PL cy S) H := hP2
    have hD : va_D A ((XO c8 c9 qo qd (vp_updL fo (0 : Int32).toNatClampNeg r2.toInt64) fd) ++ PL cy S) := hD2
    clear hP2 hD2
    refine lv_goto (tgt := 15) hx hb dL_grade_9 (by decide) ?_
    refine lv_iconst (v := 0) hx hb dL_grade_15 (by decide) ?_
    refine W.widen (k := 1) (n := 6) (Nat.le_of_ble_eq_true rfl) (Nat.le_of_ble_eq_true rfl) ?_
    exact W.iret (v := (0 : Int32)) hx hb hr (fun t ht hW9 => ⟨⟨(0 : Int32), (S, (vp_updL fo (0 : Int32).toNatClampNeg r2.toInt64)), rfl, t0, wx_end hP hKX hD ht hW9.alike⟩, hS.F ht⟩) hS.2.2 dL_grade_16 hlocks
set_option maxHeartbeats 4000000 in
set_option maxRecDepth 100000 in
theorem c_L_part (l : Launch) (hst : l.stackTraces = false) {e0 mi : Nat} {D : va_G} {cy : Nat → ClassId} {c8 c9 : ClassId} (qo qd : Nat) (fo : Nat → Int64) (fd : Nat → UInt64) (S : wPS) (sz : Nat) (o1 : Nat) (h_o1 : isA S o1 9) (x1 : Int32) (x2 : Int32) (hW : wtB S []) : Met l yL_part wsL_part ({ frames := 8, cells := 2, slots := 12, locals := 126 }) (va_Pc [.ref o1, .int x1, .int x2, .ref qo] (fun U => U.heap.size = sz ∧ WX D cy c8 c9 (XO c8 c9 qo qd fo fd) (fun _ => True) S U ∧ NW U ∧ TH (va_A (XO c8 c9 qo qd fo fd ++ PL cy S) sz) U ∧ OU e0 mi (va_A (XO c8 c9 qo qd fo fd ++ PL cy S) sz) U U.heap ∧ NC U)) (va_Qi (fun (r : Int32) (u : wPS × (Nat → Int64)) => stp ([] : List (Nat × Nat)) [] [] S u.1) (fun u t => WX D cy c8 c9 (XO c8 c9 qo qd u.2 fd) (va_A (XO c8 c9 qo qd fo fd ++ PL cy S) sz) u.1 t) (va_A (XO c8 c9 qo qd fo fd ++ PL cy S) sz)) 2 12 (va_A (XO c8 c9 qo qd fo fd ++ PL cy S) sz) := by
  refine Met.ofWH (cc := cL_part) (maxL := 5) (ret := (some .int)) (by decide) rfl ?_
  intro p e s m args below meth c s₁ B hml hv
  obtain ⟨rfl, hsz, ⟨hP, hKX, hD0⟩, hN, hTH, hOU, hNC⟩ := hv
  have hx := B.exec
  have hb := B.bytes
  have hr := B.returns
  have hts := atoms_spec (ws := wsL_part) B.pre
  have hown : s.vm.findClass RL = some m.cls := findClass_of_methodNamed (x := yL_part) B.named
  have hlocks := B.notSynchronized
  have htab := vx_table (x := yL_part) B (hts (.codeWith yL_part cL_part 5 (some .int) [(0, 10, 13, 21), (0, 10, 17, 13)]) List.mem_cons_self)
  have hK := kX hKX
  subst hsz
  have hD := hD0.self (sz := s.heap.size)
  generalize hAe : va_A (XO c8 c9 qo qd fo fd ++ PL cy S) s.heap.size = A at hD hTH hOU ⊢
  generalize hXe : XO c8 c9 qo qd fo fd = X at hP hD
  have hA : ∀ q : Nat, s.heap.size ≤ q → A q := fun q h => by rw [← hAe]; exact Or.inr h
  have hS : va_S A s.heap s.heap [] := va_S.rf
  have hl := lv_entry ([.ref o1, .int x1, .int x2, .ref qo]) (n := 5) (Nat.le_of_ble_eq_true rfl)
  rw [lg_entry_eq]
  generalize (lg_sl ([.ref o1, .int x1, .int x2, .ref qo]) ++ List.replicate (5 - (lg_sl ([.ref o1, .int x1, .int x2, .ref qo])).length) Slot.unset).toArray = ls at hl ⊢
  have hl : lv_has ls 5 [(0, .ref o1), (1, .int x1), (2, .int x2), (3, .ref qo)] := hl
  have t0 : stp ([] : List (Nat × Nat)) [] [] S S := stp.rf hW
  refine lv_aload_n hx hb dL_part_0 rfl (lv_at hl 3 rfl) ?_
  refine lv_iconst (v := 0) hx hb dL_part_1 (by decide) ?_
  refine lv_aload_n hx hb dL_part_2 rfl (lv_at hl 0 rfl) ?_
  refine lv_iload_n hx hb dL_part_3 rfl (lv_at hl 1 rfl) ?_
  refine lv_iload_n hx hb dL_part_4 rfl (lv_at hl 2 rfl) ?_
  have hFc := free_all hD hS hA
  obtain ⟨k1, gk1, hk1⟩ := wGt (cy := cy) X S h_o1.1 h_o1.2.1
  refine vx_calli (vx_runV (As := [.int x1, .int x2]) (rest := [.int (0 : Int32), .ref qo]) ⟨hx, hb, hml, hown, hts⟩ (c_X9_part l hst (cy := cy) (X := X) (D := D) S _ o1 h_o1 x1 x2 (hW)) (cwV 2 hts gL_part_X9_part rfl rfl rfl hd_X9_part ⟨Nat.le_of_ble_eq_true rfl, Nat.le_of_ble_eq_true rfl⟩) (pVt (va_recv hK hP (q := (RX9, TX9, 11)) (ci := 13) (q0 := k1) rfl hk1) hP hK hD hN hTH hS hFc) rfl rfl hl.1 rfl (lv_room (Nat.le_of_ble_eq_true rfl)) dL_part_5 ⟨Nat.le_of_ble_eq_true rfl, Nat.le_of_ble_eq_true rfl⟩) hS (fun q _ h => hFc q h) hFc (fun q _ h => hFc q h) (fun E ce q9 u t H1 locs ht hvm hw hB hz1 hk1 hS hq9 hce hcl => ?_) (fun r2 u t H1 locs ht hvm hw hB hz1 hk1 hS => ?_)
  · obtain ⟨c3, hEc3, hB2⟩ := hB
    obtain ⟨hP, hD⟩ := wd_post hFc ht hB2
    have hE9 := hEc3
    simp only [List.mem_cons, List.not_mem_nil, or_false] at hE9
    clear hEc3
    rcases hE9 with rfl | rfl
    · refine vx_catch (own := RL) (name := "java/lang/IllegalArgumentException") hown [⟨0, 10, 13, 21⟩] ⟨0, 10, 17, 13⟩ [] (htab.trans rfl) (List.forall_mem_cons.mpr ⟨Or.inr ⟨by decide, "java/lang/IndexOutOfBoundsException", hts (.classLink RL 21 "java/lang/IndexOutOfBoundsException") (by decide +kernel), hNC ("java/lang/IllegalArgumentException", "java/lang/IndexOutOfBoundsException") (by decide +kernel)⟩, (List.forall_mem_nil _)⟩) (by decide) (by decide) (hts (.classLink RL 13 "java/lang/IllegalArgumentException") (by decide +kernel)) (va_Nw.use rfl (hTH.2.1 (.castable "java/lang/IllegalArgumentException" "java/lang/IllegalArgumentException") (by decide +kernel))) hq9 hce hcl ?_
      generalize H1 = H at hP hS ⊢
      refine lv_astore (lv' := [(4, .ref q9), (0, .ref o1), (1, .int x1), (2, .int x2), (3, .ref qo)]) hx hb dL_part_17 hl (by decide) rfl (fun ls hl => ?_)
      refine lv_iconst (v := 2) hx hb dL_part_19 (by decide) ?_
      refine W.widen (k := 2) (n := 12) (Nat.le_of_ble_eq_true rfl) (Nat.le_of_ble_eq_true rfl) ?_
      subst hXe
      exact W.iret (v := (2 : Int32)) hx hb hr (fun t ht hW9 => ⟨⟨(2 : Int32), (S, fo), rfl, t0, wx_end hP hKX hD ht hW9.alike⟩, hS.F ht⟩) hS.2.2 dL_part_20 hlocks
    · refine vx_catch (own := RL) (name := "java/lang/IndexOutOfBoundsException") hown [] ⟨0, 10, 13, 21⟩ [⟨0, 10, 17, 13⟩] (htab.trans rfl) (List.forall_mem_nil _) (by decide) (by decide) (hts (.classLink RL 21 "java/lang/IndexOutOfBoundsException") (by decide +kernel)) (va_Nw.use rfl (hTH.2.1 (.castable "java/lang/IndexOutOfBoundsException" "java/lang/IndexOutOfBoundsException") (by decide +kernel))) hq9 hce hcl ?_
      generalize H1 = H at hP hS ⊢
      refine lv_astore (lv' := [(4, .ref q9), (0, .ref o1), (1, .int x1), (2, .int x2), (3, .ref qo)]) hx hb dL_part_13 hl (by decide) rfl (fun ls hl => ?_)
      refine lv_iconst (v := 1) hx hb dL_part_15 (by decide) ?_
      refine W.widen (k := 2) (n := 12) (Nat.le_of_ble_eq_true rfl) (Nat.le_of_ble_eq_true rfl) ?_
      subst hXe
      exact W.iret (v := (1 : Int32)) hx hb hr (fun t ht hW9 => ⟨⟨(1 : Int32), (S, fo), rfl, t0, wx_end hP hKX hD ht hW9.alike⟩, hS.F ht⟩) hS.2.2 dL_part_16 hlocks
  · have c4 := hw
    obtain ⟨hP, hD⟩ := wd_post hFc ht hB
    generalize H1 = H at hP hS ⊢
    refine lv_i2l hx hb dL_part_8 rfl ?_
    subst hXe
    refine va_last hx hb hKX hP hD hS 0 8 rfl rfl (inb (m := 1) rfl (by decide) (by decide)) dL_part_9 (fun H locs hP2 hD2 hS => ?_)
    have hP : va_P D vwCl ((XO c8 c9 qo qd (vp_updL fo (0 : Int32).toNatClampNeg r2.toInt64) fd) ++ PL cy S) H := hP2
    have hD : va_D A ((XO c8 c9 qo qd (vp_updL fo (0 : Int32).toNatClampNeg r2.toInt64) fd) ++ PL cy S) := hD2
    clear hP2 hD2
    refine lv_goto (tgt := 21) hx hb dL_part_10 (by decide) ?_
    refine lv_iconst (v := 0) hx hb dL_part_21 (by decide) ?_
    refine W.widen (k := 2) (n := 12) (Nat.le_of_ble_eq_true rfl) (Nat.le_of_ble_eq_true rfl) ?_
    exact W.iret (v := (0 : Int32)) hx hb hr (fun t ht hW9 => ⟨⟨(0 : Int32), (S, (vp_updL fo (0 : Int32).toNatClampNeg r2.toInt64)), rfl, t0, wx_end hP hKX hD ht hW9.alike⟩, hS.F ht⟩) hS.2.2 dL_part_22 hlocks
set_option maxHeartbeats 4000000 in
set_option maxRecDepth 100000 in
theorem c_L_cause (l : Launch) (hst : l.stackTraces = false) {e0 mi : Nat} {D : va_G} {cy : Nat → ClassId} {c8 c9 : ClassId} (qo qd : Nat) (fo : Nat → Int64) (fd : Nat → UInt64) (S : wPS) (sz : Nat) (o1 : Nat) (h_o1 : isA S o1 9) (x1 : Int32) (hW : wtB S []) : Met l yL_cause wsL_cause ({ frames := 8, cells := 1, slots := 6, locals := 129 }) (va_Pc [.ref o1, .int x1, .ref qo] (fun U => U.heap.size = sz ∧ WX D cy c8 c9 (XO c8 c9 qo qd fo fd) (fun _ => True) S U ∧ NW U ∧ TH (va_A (XO c8 c9 qo qd fo fd ++ PL cy S) sz) U ∧ OU e0 mi (va_A (XO c8 c9 qo qd fo fd ++ PL cy S) sz) U U.heap ∧ NC U)) (va_Qi (fun (r : Int32) (u : wPS × (Nat → Int64)) => stp ([] : List (Nat × Nat)) [] [] S u.1) (fun u t => WX D cy c8 c9 (XO c8 c9 qo qd u.2 fd) (va_A (XO c8 c9 qo qd fo fd ++ PL cy S) sz) u.1 t) (va_A (XO c8 c9 qo qd fo fd ++ PL cy S) sz)) 1 6 (va_A (XO c8 c9 qo qd fo fd ++ PL cy S) sz) := by
  refine Met.ofWH (cc := cL_cause) (maxL := 4) (ret := (some .int)) (by decide) rfl ?_
  intro p e s m args below meth c s₁ B hml hv
  obtain ⟨rfl, hsz, ⟨hP, hKX, hD0⟩, hN, hTH, hOU, hNC⟩ := hv
  have hx := B.exec
  have hb := B.bytes
  have hr := B.returns
  have hts := atoms_spec (ws := wsL_cause) B.pre
  have hown : s.vm.findClass RL = some m.cls := findClass_of_methodNamed (x := yL_cause) B.named
  have hlocks := B.notSynchronized
  have htab := vx_table (x := yL_cause) B (hts (.codeWith yL_cause cL_cause 4 (some .int) [(0, 9, 12, 21)]) List.mem_cons_self)
  have hK := kX hKX
  subst hsz
  have hD := hD0.self (sz := s.heap.size)
  generalize hAe : va_A (XO c8 c9 qo qd fo fd ++ PL cy S) s.heap.size = A at hD hTH hOU ⊢
  generalize hXe : XO c8 c9 qo qd fo fd = X at hP hD
  have hA : ∀ q : Nat, s.heap.size ≤ q → A q := fun q h => by rw [← hAe]; exact Or.inr h
  have hS : va_S A s.heap s.heap [] := va_S.rf
  have hl := lv_entry ([.ref o1, .int x1, .ref qo]) (n := 4) (Nat.le_of_ble_eq_true rfl)
  rw [lg_entry_eq]
  generalize (lg_sl ([.ref o1, .int x1, .ref qo]) ++ List.replicate (4 - (lg_sl ([.ref o1, .int x1, .ref qo])).length) Slot.unset).toArray = ls at hl ⊢
  have hl : lv_has ls 4 [(0, .ref o1), (1, .int x1), (2, .ref qo)] := hl
  have t0 : stp ([] : List (Nat × Nat)) [] [] S S := stp.rf hW
  refine lv_aload_n hx hb dL_cause_0 rfl (lv_at hl 2 rfl) ?_
  refine lv_iconst (v := 0) hx hb dL_cause_1 (by decide) ?_
  refine lv_aload_n hx hb dL_cause_2 rfl (lv_at hl 0 rfl) ?_
  refine lv_iload_n hx hb dL_cause_3 rfl (lv_at hl 1 rfl) ?_
  have hFc := free_all hD hS hA
  obtain ⟨k1, gk1, hk1⟩ := wGt (cy := cy) X S h_o1.1 h_o1.2.1
  refine vx_calli (vx_runV (As := [.int x1]) (rest := [.int (0 : Int32), .ref qo]) ⟨hx, hb, hml, hown, hts⟩ (c_X9_cause l hst (cy := cy) (X := X) (D := D) S _ o1 h_o1 x1 (hW)) (cwV 1 hts gL_cause_X9_cause rfl rfl rfl hd_X9_cause ⟨Nat.le_of_ble_eq_true rfl, Nat.le_of_ble_eq_true rfl⟩) (pVt (va_recv hK hP (q := (RX9, TX9, 11)) (ci := 13) (q0 := k1) rfl hk1) hP hK hD hN hTH hS hFc) rfl rfl hl.1 rfl (lv_room (Nat.le_of_ble_eq_true rfl)) dL_cause_4 ⟨Nat.le_of_ble_eq_true rfl, Nat.le_of_ble_eq_true rfl⟩) hS (fun q _ h => hFc q h) hFc (fun q _ h => hFc q h) (fun E ce q9 u t H1 locs ht hvm hw hB hz1 hk1 hS hq9 hce hcl => ?_) (fun r2 u t H1 locs ht hvm hw hB hz1 hk1 hS => ?_)
  · obtain ⟨c3, hEc3, hB2⟩ := hB
    obtain ⟨hP, hD⟩ := wd_post hFc ht hB2
    have hE9 := hEc3
    simp only [List.mem_cons, List.not_mem_nil, or_false] at hE9
    clear hEc3
    subst hE9
    refine vx_catch (own := RL) (name := "java/lang/IndexOutOfBoundsException") hown [] ⟨0, 9, 12, 21⟩ [] (htab.trans rfl) (List.forall_mem_nil _) (by decide) (by decide) (hts (.classLink RL 21 "java/lang/IndexOutOfBoundsException") (by decide +kernel)) (va_Nw.use rfl (hTH.2.1 (.castable "java/lang/IndexOutOfBoundsException" "java/lang/IndexOutOfBoundsException") (by decide +kernel))) hq9 hce hcl ?_
    generalize H1 = H at hP hS ⊢
    refine lv_astore_n (lv' := [(3, .ref q9), (0, .ref o1), (1, .int x1), (2, .ref qo)]) hx hb dL_cause_12 rfl hl (by decide) rfl (fun ls hl => ?_)
    refine lv_iconst (v := 1) hx hb dL_cause_13 (by decide) ?_
    refine W.widen (k := 1) (n := 6) (Nat.le_of_ble_eq_true rfl) (Nat.le_of_ble_eq_true rfl) ?_
    subst hXe
    exact W.iret (v := (1 : Int32)) hx hb hr (fun t ht hW9 => ⟨⟨(1 : Int32), (S, fo), rfl, t0, wx_end hP hKX hD ht hW9.alike⟩, hS.F ht⟩) hS.2.2 dL_cause_14 hlocks
  · have c4 := hw
    obtain ⟨hP, hD⟩ := wd_post hFc ht hB
    generalize H1 = H at hP hS ⊢
    refine lv_i2l hx hb dL_cause_7 rfl ?_
    subst hXe
    refine va_last hx hb hKX hP hD hS 0 8 rfl rfl (inb (m := 1) rfl (by decide) (by decide)) dL_cause_8 (fun H locs hP2 hD2 hS => ?_)
    have hP : va_P D vwCl ((XO c8 c9 qo qd (vp_updL fo (0 : Int32).toNatClampNeg r2.toInt64) fd) ++ PL cy S) H := hP2
    have hD : va_D A ((XO c8 c9 qo qd (vp_updL fo (0 : Int32).toNatClampNeg r2.toInt64) fd) ++ PL cy S) := hD2
    clear hP2 hD2
    refine lv_goto (tgt := 15) hx hb dL_cause_9 (by decide) ?_
    refine lv_iconst (v := 0) hx hb dL_cause_15 (by decide) ?_
    refine W.widen (k := 1) (n := 6) (Nat.le_of_ble_eq_true rfl) (Nat.le_of_ble_eq_true rfl) ?_
    exact W.iret (v := (0 : Int32)) hx hb hr (fun t ht hW9 => ⟨⟨(0 : Int32), (S, (vp_updL fo (0 : Int32).toNatClampNeg r2.toInt64)), rfl, t0, wx_end hP hKX hD ht hW9.alike⟩, hS.F ht⟩) hS.2.2 dL_cause_16 hlocks
