def wc_gear (E : String) : Int32 := if E = "java/lang/IllegalArgumentException" then 1 else if E = "java/lang/IllegalStateException" then 2 else (0 : Int32)
set_option maxHeartbeats 4000000 in
set_option maxRecDepth 100000 in
theorem c_L_gear (l : Launch) (hst : l.stackTraces = false) {e0 mi : Nat} {D : va_G} {cy : Nat → ClassId} {c8 c9 : ClassId} (qo qd : Nat) (fo : Nat → Int64) (fd : Nat → UInt64) (S : wPS) (sz : Nat) (o1 : Nat) (h_o1 : isA S o1 9) (x1 : Int32) (x2 : Int32) (x3 : Int32) (x4 : Int32) (hW : wtB S []) : Met l yL_gear wsL_gear ({ frames := 9, cells := 10, slots := 467, locals := 149 }) (va_Pc [.ref o1, .int x1, .int x2, .int x3, .int x4, .ref qo] (fun U => U.heap.size = sz ∧ WX D cy c8 c9 (XO c8 c9 qo qd fo fd) (fun _ => True) S U ∧ NW U ∧ TH (va_A (XO c8 c9 qo qd fo fd ++ PL cy S) sz) U ∧ OU e0 mi (va_A (XO c8 c9 qo qd fo fd ++ PL cy S) sz) U U.heap ∧ NC U)) (va_Qi (fun (r : Int32) (u : wPS × (Nat → Int64)) => stp [(9, 1), (19, 101)] [] [] S u.1 ∧ ((∃ v, f_X9_gear S o1 x1 x2 x3 x4 = .ok v ∧ r = 0 ∧ u.2 = vp_updL fo (0 : Int32).toNatClampNeg v.toInt64 ∧ (u.1.I o1 1).toInt = (S.I o1 1).toInt + 1 ∧ (∃ g : Nat, g ∉ S.L ∧ isA u.1 g 2 ∧ u.1.r (S.f o1 0) (S.I o1 1).toNatClampNeg = some g ∧ (∀ i : Nat, i ≠ (S.I o1 1).toNatClampNeg → u.1.r (S.f o1 0) i = S.r (S.f o1 0) i) ∧ u.1.I g 0 = S.I o1 1 ∧ u.1.I g 1 = x1 ∧ u.1.I g 2 = x2 ∧ u.1.I g 3 = x3 ∧ u.1.I g 4 = x4 ∧ u.1.I g 7 = (0 : Int32) ∧ u.1.I g 8 = (-1 : Int32) ∧ u.1.I g 9 = (0 : Int32) ∧ u.1.I g 10 = (0 : Int32) ∧ u.1.I g 11 = (0 : Int32) ∧ u.1.f g 6 ∉ S.L ∧ u.1.I (u.1.f g 6) 3 = (0 : Int32) ∧ u.1.f (u.1.f g 6) 0 ∉ S.L)) ∨ (∃ E, f_X9_gear S o1 x1 x2 x3 x4 = .error E ∧ r = wc_gear E ∧ u.2 = fo ∧ u.1 = S))) (fun u t => WX D cy c8 c9 (XO c8 c9 qo qd u.2 fd) (va_A (XO c8 c9 qo qd fo fd ++ PL cy S) sz) u.1 t) (va_A (XO c8 c9 qo qd fo fd ++ PL cy S) sz)) 10 467 (va_A (XO c8 c9 qo qd fo fd ++ PL cy S) sz) := by
  refine Met.ofWH (cc := cL_gear) (maxL := 7) (ret := (some .int)) (by decide) rfl ?_
  intro p e s m args below meth c s₁ B hml hv
  obtain ⟨rfl, hsz, ⟨hP, hKX, hD0⟩, hN, hTH, hOU, hNC⟩ := hv
  have hx := B.exec
  have hb := B.bytes
  have hr := B.returns
  have hts := atoms_spec (ws := wsL_gear) B.pre
  have hown : s.vm.findClass RL = some m.cls := findClass_of_methodNamed (x := yL_gear) B.named
  have hlocks := B.notSynchronized
  have htab := vx_table (x := yL_gear) B (hts (.codeWith yL_gear cL_gear 7 (some .int) [(0, 14, 17, 13), (0, 14, 21, 15)]) List.mem_cons_self)
  have hK := kX hKX
  subst hsz
  have hD := hD0.self (sz := s.heap.size)
  generalize hAe : va_A (XO c8 c9 qo qd fo fd ++ PL cy S) s.heap.size = A at hD hTH hOU ⊢
  generalize hXe : XO c8 c9 qo qd fo fd = X at hP hD
  have hA : ∀ q : Nat, s.heap.size ≤ q → A q := fun q h => by rw [← hAe]; exact Or.inr h
  have hS : va_S A s.heap s.heap [] := va_S.rf
  have hl := lv_entry ([.ref o1, .int x1, .int x2, .int x3, .int x4, .ref qo]) (n := 7) (Nat.le_of_ble_eq_true rfl)
  rw [lg_entry_eq]
  generalize (lg_sl ([.ref o1, .int x1, .int x2, .int x3, .int x4, .ref qo]) ++ List.replicate (7 - (lg_sl ([.ref o1, .int x1, .int x2, .int x3, .int x4, .ref qo])).length) Slot.unset).toArray = ls at hl ⊢
  have hl : lv_has ls 7 [(0, .ref o1), (1, .int x1), (2, .int x2), (3, .int x3), (4, .int x4), (5, .ref qo)] := hl
  have t0 : stp [(9, 1), (19, 101)] [] [] S S := stp.rf hW
  refine lv_aload hx hb dL_gear_0 (lv_at hl 5 rfl) ?_
  refine lv_iconst (v := 0) hx hb dL_gear_2 (by decide) ?_
  refine lv_aload_n hx hb dL_gear_3 rfl (lv_at hl 0 rfl) ?_
  refine lv_iload_n hx hb dL_gear_4 rfl (lv_at hl 1 rfl) ?_
  refine lv_iload_n hx hb dL_gear_5 rfl (lv_at hl 2 rfl) ?_
  refine lv_iload_n hx hb dL_gear_6 rfl (lv_at hl 3 rfl) ?_
  refine lv_iload hx hb dL_gear_7 (lv_at hl 4 rfl) ?_
  have hFc := free_all hD hS hA
  obtain ⟨k1, gk1, hk1⟩ := wGt (cy := cy) X S h_o1.1 h_o1.2.1
  refine vx_calli (vx_runV (As := [.int x1, .int x2, .int x3, .int x4]) (rest := [.int (0 : Int32), .ref qo]) ⟨hx, hb, hml, hown, hts⟩ (c_X9_gear l hst (e0 := e0) (mi := mi) (cy := cy) (X := X) (D := D) S _ o1 h_o1 x1 x2 x3 x4 (hW)) (cwV 4 hts gL_gear_X9_gear rfl rfl rfl hd_X9_gear ⟨Nat.le_of_ble_eq_true rfl, Nat.le_of_ble_eq_true rfl⟩) (pVto (va_recv hK hP (q := (RX9, TX9, 11)) (ci := 13) (q0 := k1) rfl hk1) hP hK hD hN hTH hOU hS hFc) rfl rfl hl.1 rfl (lv_room (Nat.le_of_ble_eq_true rfl)) dL_gear_9 ⟨Nat.le_of_ble_eq_true rfl, Nat.le_of_ble_eq_true rfl⟩) hS (fun q _ h => hFc q h) hFc (fun q _ h => hFc q h) (fun E ce q9 u t H1 locs ht hvm hw hB hz1 hk1 hS hq9 hce hcl => ?_) (fun r2 u t H1 locs ht hvm hw hB hz1 hk1 hS => ?_)
  · obtain ⟨c3, hEc3, hXc3, hB2⟩ := hB
    obtain ⟨hP, hD⟩ := wd_post hFc ht hB2
    have t4 : stp [(9, 1), (19, 101)] [] [] S u := t0.tr hw (by decide) (fun _ q => absurd q List.not_mem_nil)
    have xe5 : ext S u := hw.x
    have hE9 := hEc3
    simp only [List.mem_cons, List.not_mem_nil, or_false] at hE9
    clear hEc3
    rcases hE9 with rfl | rfl
    · refine vx_catch (own := RL) (name := "java/lang/IllegalArgumentException") hown [] ⟨0, 14, 17, 13⟩ [⟨0, 14, 21, 15⟩] (htab.trans rfl) (List.forall_mem_nil _) (by decide) (by decide) (hts (.classLink RL 13 "java/lang/IllegalArgumentException") (by decide +kernel)) (va_Nw.use rfl (hTH.2.1 (.castable "java/lang/IllegalArgumentException" "java/lang/IllegalArgumentException") (by decide +kernel))) hq9 hce hcl ?_
      generalize H1 = H at hP hS ⊢
      refine lv_astore (lv' := [(6, .ref q9), (0, .ref o1), (1, .int x1), (2, .int x2), (3, .int x3), (4, .int x4), (5, .ref qo)]) hx hb dL_gear_17 hl (by decide) rfl (fun ls hl => ?_)
      refine lv_iconst (v := 1) hx hb dL_gear_19 (by decide) ?_
      refine W.widen (k := 10) (n := 467) (Nat.le_of_ble_eq_true rfl) (Nat.le_of_ble_eq_true rfl) ?_
      subst hXe
      exact W.iret (v := (1 : Int32)) hx hb hr (fun t ht hW9 => ⟨⟨(1 : Int32), (u, fo), rfl, ⟨t4, Or.inr ⟨_, c3, (if_pos rfl).symm, rfl, hXc3⟩⟩, wx_end hP hKX hD ht hW9.alike⟩, hS.F ht⟩) hS.2.2 dL_gear_20 hlocks
    · refine vx_catch (own := RL) (name := "java/lang/IllegalStateException") hown [⟨0, 14, 17, 13⟩] ⟨0, 14, 21, 15⟩ [] (htab.trans rfl) (List.forall_mem_cons.mpr ⟨Or.inr ⟨by decide, "java/lang/IllegalArgumentException", hts (.classLink RL 13 "java/lang/IllegalArgumentException") (by decide +kernel), hNC ("java/lang/IllegalStateException", "java/lang/IllegalArgumentException") (by decide +kernel)⟩, (List.forall_mem_nil _)⟩) (by decide) (by decide) (hts (.classLink RL 15 "java/lang/IllegalStateException") (by decide +kernel)) (va_Nw.use rfl (hTH.2.1 (.castable "java/lang/IllegalStateException" "java/lang/IllegalStateException") (by decide +kernel))) hq9 hce hcl ?_
      generalize H1 = H at hP hS ⊢
      refine lv_astore (lv' := [(6, .ref q9), (0, .ref o1), (1, .int x1), (2, .int x2), (3, .int x3), (4, .int x4), (5, .ref qo)]) hx hb dL_gear_21 hl (by decide) rfl (fun ls hl => ?_)
      refine lv_iconst (v := 2) hx hb dL_gear_23 (by decide) ?_
      refine W.widen (k := 10) (n := 467) (Nat.le_of_ble_eq_true rfl) (Nat.le_of_ble_eq_true rfl) ?_
      subst hXe
      exact W.iret (v := (2 : Int32)) hx hb hr (fun t ht hW9 => ⟨⟨(2 : Int32), (u, fo), rfl, ⟨t4, Or.inr ⟨_, c3, ((if_neg (by decide)).trans (if_pos rfl)).symm, rfl, hXc3⟩⟩, wx_end hP hKX hD ht hW9.alike⟩, hS.F ht⟩) hS.2.2 dL_gear_24 hlocks
  · obtain ⟨c6, w7, y8, y9⟩ := hw
    obtain ⟨hP, hD⟩ := wd_post hFc ht hB
    generalize H1 = H at hP hS ⊢
    obtain ⟨S10, rfl⟩ : ∃ z, z = u := ⟨_, rfl⟩
    have t11 : stp [(9, 1), (19, 101)] [] [] S S10 := t0.tr w7 (by decide) (fun _ q => absurd q List.not_mem_nil)
    have xe12 : ext S S10 := w7.x
    refine lv_i2l hx hb dL_gear_12 rfl ?_
    subst hXe
    refine va_last hx hb hKX hP hD hS 0 8 rfl rfl (inb (m := 1) rfl (by decide) (by decide)) dL_gear_13 (fun H locs hP2 hD2 hS => ?_)
    have hP : va_P D vwCl ((XO c8 c9 qo qd (vp_updL fo (0 : Int32).toNatClampNeg r2.toInt64) fd) ++ PL cy S10) H := hP2
    have hD : va_D A ((XO c8 c9 qo qd (vp_updL fo (0 : Int32).toNatClampNeg r2.toInt64) fd) ++ PL cy S10) := hD2
    clear hP2 hD2
    refine lv_goto (tgt := 25) hx hb dL_gear_14 (by decide) ?_
    refine lv_iconst (v := 0) hx hb dL_gear_25 (by decide) ?_
    refine W.widen (k := 10) (n := 467) (Nat.le_of_ble_eq_true rfl) (Nat.le_of_ble_eq_true rfl) ?_
    exact W.iret (v := (0 : Int32)) hx hb hr (fun t ht hW9 => ⟨⟨(0 : Int32), (S10, (vp_updL fo (0 : Int32).toNatClampNeg r2.toInt64)), rfl, ⟨t11, Or.inl ⟨_, c6, rfl, rfl, y8, y9⟩⟩, wx_end hP hKX hD ht hW9.alike⟩, hS.F ht⟩) hS.2.2 dL_gear_26 hlocks
set_option maxHeartbeats 4000000 in
set_option maxRecDepth 100000 in
theorem c_L_setShift (l : Launch) (hst : l.stackTraces = false) {e0 mi : Nat} {D : va_G} {cy : Nat → ClassId} {c8 c9 : ClassId} (qo qd : Nat) (fo : Nat → Int64) (fd : Nat → UInt64) (S : wPS) (sz : Nat) (o1 : Nat) (h_o1 : isA S o1 9) (x1 : Int32) (x2 : Int32) (hW : wtB S []) : Met l yL_setShift wsL_setShift ({ frames := 8, cells := 3, slots := 18, locals := 128 }) (va_Pc [.ref o1, .int x1, .int x2, .ref qo] (fun U => U.heap.size = sz ∧ WX D cy c8 c9 (XO c8 c9 qo qd fo fd) (fun _ => True) S U ∧ NW U ∧ TH (va_A (XO c8 c9 qo qd fo fd ++ PL cy S) sz) U ∧ OU e0 mi (va_A (XO c8 c9 qo qd fo fd ++ PL cy S) sz) U U.heap ∧ NC U)) (va_Qi (fun (r : Int32) (u : wPS × (Nat → Int64)) => stp [(2, 7)] [] [] S u.1) (fun u t => WX D cy c8 c9 (XO c8 c9 qo qd u.2 fd) (va_A (XO c8 c9 qo qd fo fd ++ PL cy S) sz) u.1 t) (va_A (XO c8 c9 qo qd fo fd ++ PL cy S) sz)) 3 18 (va_A (XO c8 c9 qo qd fo fd ++ PL cy S) sz) := by
  refine Met.ofWH (cc := cL_setShift) (maxL := 5) (ret := (some .int)) (by decide) rfl ?_
  intro p e s m args below meth c s₁ B hml hv
  obtain ⟨rfl, hsz, ⟨hP, hKX, hD0⟩, hN, hTH, hOU, hNC⟩ := hv
  have hx := B.exec
  have hb := B.bytes
  have hr := B.returns
  have hts := atoms_spec (ws := wsL_setShift) B.pre
  have hown : s.vm.findClass RL = some m.cls := findClass_of_methodNamed (x := yL_setShift) B.named
  have hlocks := B.notSynchronized
  have htab := vx_table (x := yL_setShift) B (hts (.codeWith yL_setShift cL_setShift 5 (some .int) [(0, 10, 13, 21), (0, 10, 17, 13), (0, 10, 21, 23)]) List.mem_cons_self)
  have hK := kX hKX
  subst hsz
  have hD := hD0.self (sz := s.heap.size)
  generalize hAe : va_A (XO c8 c9 qo qd fo fd ++ PL cy S) s.heap.size = A at hD hTH hOU ⊢
  generalize hXe : XO c8 c9 qo qd fo fd = X at hP hD
  have hA : ∀ q : Nat, s.heap.size ≤ q → A q := fun q h => by rw [← hAe]; exact Or.inr h
  have hS : va_S A s.heap s.heap [] := va_S.rf
  have hl := lv_entry ([.ref o1, .int x1, .int x2, .ref qo]) (n := 5) (Nat.le_of_ble_eq_true rfl)
  rw [lg_entry_eq]
  generalize (lg_sl ([.ref o1, .int x1, .int x2, .ref qo]) ++ List.replicate (5 - (lg_sl ([.ref o1, .int x1, .int x2, .ref qo])).length) Slot.unset).toArray = ls at hl ⊢
  have hl : lv_has ls 5 [(0, .ref o1), (1, .int x1), (2, .int x2), (3, .ref qo)] := hl
  have t0 : stp [(2, 7)] [] [] S S := stp.rf hW
  refine lv_aload_n hx hb dL_setShift_0 rfl (lv_at hl 3 rfl) ?_
  refine lv_iconst (v := 0) hx hb dL_setShift_1 (by decide) ?_
  refine lv_aload_n hx hb dL_setShift_2 rfl (lv_at hl 0 rfl) ?_
  refine lv_iload_n hx hb dL_setShift_3 rfl (lv_at hl 1 rfl) ?_
  refine lv_iload_n hx hb dL_setShift_4 rfl (lv_at hl 2 rfl) ?_
  have hFc := free_all hD hS hA
  obtain ⟨k1, gk1, hk1⟩ := wGt (cy := cy) X S h_o1.1 h_o1.2.1
  refine vx_calli (vx_runV (As := [.int x1, .int x2]) (rest := [.int (0 : Int32), .ref qo]) ⟨hx, hb, hml, hown, hts⟩ (c_X9_setShift l hst (cy := cy) (X := X) (D := D) S _ o1 h_o1 x1 x2 (hW)) (cwV 2 hts gL_setShift_X9_setShift rfl rfl rfl hd_X9_setShift ⟨Nat.le_of_ble_eq_true rfl, Nat.le_of_ble_eq_true rfl⟩) (pVt (va_recv hK hP (q := (RX9, TX9, 11)) (ci := 13) (q0 := k1) rfl hk1) hP hK hD hN hTH hS hFc) rfl rfl hl.1 rfl (lv_room (Nat.le_of_ble_eq_true rfl)) dL_setShift_5 ⟨Nat.le_of_ble_eq_true rfl, Nat.le_of_ble_eq_true rfl⟩) hS (fun q _ h => hFc q h) hFc (fun q _ h => hFc q h) (fun E ce q9 u t H1 locs ht hvm hw hB hz1 hk1 hS hq9 hce hcl => ?_) (fun r2 u t H1 locs ht hvm hw hB hz1 hk1 hS => ?_)
  · obtain ⟨c3, hEc3, hXc3, hB2⟩ := hB
    obtain ⟨hP, hD⟩ := wd_post hFc ht hB2
    have t4 : stp [(2, 7)] [] [] S u := t0.tr hw (by decide) (fun _ q => absurd q List.not_mem_nil)
    have xe5 : ext S u := hw.x
    have hE9 := hEc3
    simp only [List.mem_cons, List.not_mem_nil, or_false] at hE9
    clear hEc3
    rcases hE9 with rfl | rfl | rfl
    · refine vx_catch (own := RL) (name := "java/lang/IllegalArgumentException") hown [⟨0, 10, 13, 21⟩] ⟨0, 10, 17, 13⟩ [⟨0, 10, 21, 23⟩] (htab.trans rfl) (List.forall_mem_cons.mpr ⟨Or.inr ⟨by decide, "java/lang/IndexOutOfBoundsException", hts (.classLink RL 21 "java/lang/IndexOutOfBoundsException") (by decide +kernel), hNC ("java/lang/IllegalArgumentException", "java/lang/IndexOutOfBoundsException") (by decide +kernel)⟩, (List.forall_mem_nil _)⟩) (by decide) (by decide) (hts (.classLink RL 13 "java/lang/IllegalArgumentException") (by decide +kernel)) (va_Nw.use rfl (hTH.2.1 (.castable "java/lang/IllegalArgumentException" "java/lang/IllegalArgumentException") (by decide +kernel))) hq9 hce hcl ?_
      generalize H1 = H at hP hS ⊢
      refine lv_astore (lv' := [(4, .ref q9), (0, .ref o1), (1, .int x1), (2, .int x2), (3, .ref qo)]) hx hb dL_setShift_17 hl (by decide) rfl (fun ls hl => ?_)
      refine lv_iconst (v := 2) hx hb dL_setShift_19 (by decide) ?_
      refine W.widen (k := 3) (n := 18) (Nat.le_of_ble_eq_true rfl) (Nat.le_of_ble_eq_true rfl) ?_
      subst hXe
      exact W.iret (v := (2 : Int32)) hx hb hr (fun t ht hW9 => ⟨⟨(2 : Int32), (u, fo), rfl, t4, wx_end hP hKX hD ht hW9.alike⟩, hS.F ht⟩) hS.2.2 dL_setShift_20 hlocks
    · refine vx_catch (own := RL) (name := "java/lang/IndexOutOfBoundsException") hown [] ⟨0, 10, 13, 21⟩ [⟨0, 10, 17, 13⟩, ⟨0, 10, 21, 23⟩] (htab.trans rfl) (List.forall_mem_nil _) (by decide) (by decide) (hts (.classLink RL 21 "java/lang/IndexOutOfBoundsException") (by decide +kernel)) (va_Nw.use rfl (hTH.2.1 (.castable "java/lang/IndexOutOfBoundsException" "java/lang/IndexOutOfBoundsException") (by decide +kernel))) hq9 hce hcl ?_
      generalize H1 = H at hP hS ⊢
      refine lv_astore (lv' := [(4, .ref q9), (0, .ref o1), (1, .int x1), (2, .int x2), (3, .ref qo)]) hx hb dL_setShift_13 hl (by decide) rfl (fun ls hl => ?_)
      refine lv_iconst (v := 1) hx hb dL_setShift_15 (by decide) ?_
      refine W.widen (k := 3) (n := 18) (Nat.le_of_ble_eq_true rfl) (Nat.le_of_ble_eq_true rfl) ?_
      subst hXe
      exact W.iret (v := (1 : Int32)) hx hb hr (fun t ht hW9 => ⟨⟨(1 : Int32), (u, fo), rfl, t4, wx_end hP hKX hD ht hW9.alike⟩, hS.F ht⟩) hS.2.2 dL_setShift_16 hlocks
    · refine vx_catch (own := RL) (name := "java/lang/UnsupportedOperationException") hown [⟨0, 10, 13, 21⟩, ⟨0, 10, 17, 13⟩] ⟨0, 10, 21, 23⟩ [] (htab.trans rfl) (List.forall_mem_cons.mpr ⟨Or.inr ⟨by decide, "java/lang/IndexOutOfBoundsException", hts (.classLink RL 21 "java/lang/IndexOutOfBoundsException") (by decide +kernel), hNC ("java/lang/UnsupportedOperationException", "java/lang/IndexOutOfBoundsException") (by decide +kernel)⟩, (List.forall_mem_cons.mpr ⟨Or.inr ⟨by decide, "java/lang/IllegalArgumentException", hts (.classLink RL 13 "java/lang/IllegalArgumentException") (by decide +kernel), hNC ("java/lang/UnsupportedOperationException", "java/lang/IllegalArgumentException") (by decide +kernel)⟩, (List.forall_mem_nil _)⟩)⟩) (by decide) (by decide) (hts (.classLink RL 23 "java/lang/UnsupportedOperationException") (by decide +kernel)) (va_Nw.use rfl (hTH.2.1 (.castable "java/lang/UnsupportedOperationException" "java/lang/UnsupportedOperationException") (by decide +kernel))) hq9 hce hcl ?_
      generalize H1 = H at hP hS ⊢
      refine lv_astore (lv' := [(4, .ref q9), (0, .ref o1), (1, .int x1), (2, .int x2), (3, .ref qo)]) hx hb dL_setShift_21 hl (by decide) rfl (fun ls hl => ?_)
      refine lv_iconst (v := 3) hx hb dL_setShift_23 (by decide) ?_
      refine W.widen (k := 3) (n := 18) (Nat.le_of_ble_eq_true rfl) (Nat.le_of_ble_eq_true rfl) ?_
      subst hXe
      exact W.iret (v := (3 : Int32)) hx hb hr (fun t ht hW9 => ⟨⟨(3 : Int32), (u, fo), rfl, t4, wx_end hP hKX hD ht hW9.alike⟩, hS.F ht⟩) hS.2.2 dL_setShift_24 hlocks
  · obtain ⟨c6, w7⟩ := hw
    obtain ⟨hP, hD⟩ := wd_post hFc ht hB
    generalize H1 = H at hP hS ⊢
    obtain ⟨S8, rfl⟩ : ∃ z, z = u := ⟨_, rfl⟩
    have t9 : stp [(2, 7)] [] [] S S8 := t0.tr w7 (by decide) (fun _ q => absurd q List.not_mem_nil)
    have xe10 : ext S S8 := w7.x
    refine lv_i2l hx hb dL_setShift_8 rfl ?_
    subst hXe
    refine va_last hx hb hKX hP hD hS 0 8 rfl rfl (inb (m := 1) rfl (by decide) (by decide)) dL_setShift_9 (fun H locs hP2 hD2 hS => ?_)
    have hP : va_P D vwCl ((XO c8 c9 qo qd (vp_updL fo (0 : Int32).toNatClampNeg r2.toInt64) fd) ++ PL cy S8) H := hP2
    have hD : va_D A ((XO c8 c9 qo qd (vp_updL fo (0 : Int32).toNatClampNeg r2.toInt64) fd) ++ PL cy S8) := hD2
    clear hP2 hD2
    refine lv_goto (tgt := 25) hx hb dL_setShift_10 (by decide) ?_
    refine lv_iconst (v := 0) hx hb dL_setShift_25 (by decide) ?_
    refine W.widen (k := 3) (n := 18) (Nat.le_of_ble_eq_true rfl) (Nat.le_of_ble_eq_true rfl) ?_
    exact W.iret (v := (0 : Int32)) hx hb hr (fun t ht hW9 => ⟨⟨(0 : Int32), (S8, (vp_updL fo (0 : Int32).toNatClampNeg r2.toInt64)), rfl, t9, wx_end hP hKX hD ht hW9.alike⟩, hS.F ht⟩) hS.2.2 dL_setShift_26 hlocks
set_option maxHeartbeats 4000000 in
set_option maxRecDepth 100000 in
theorem c_L_diameter (l : Launch) (hst : l.stackTraces = false) {e0 mi : Nat} {D : va_G} {cy : Nat → ClassId} {c8 c9 : ClassId} (qo qd : Nat) (fo : Nat → Int64) (fd : Nat → UInt64) (S : wPS) (sz : Nat) (o1 : Nat) (h_o1 : isA S o1 9) (x1 : Int32) (hW : wtB S []) : Met l yL_diameter wsL_diameter ({ frames := 8, cells := 1, slots := 6, locals := 124 }) (va_Pc [.ref o1, .int x1, .ref qo] (fun U => U.heap.size = sz ∧ WX D cy c8 c9 (XO c8 c9 qo qd fo fd) (fun _ => True) S U ∧ NW U ∧ TH (va_A (XO c8 c9 qo qd fo fd ++ PL cy S) sz) U ∧ OU e0 mi (va_A (XO c8 c9 qo qd fo fd ++ PL cy S) sz) U U.heap ∧ NC U)) (va_Qi (fun (r : Int32) (u : wPS × (Nat → Int64)) => stp ([] : List (Nat × Nat)) [] [] S u.1) (fun u t => WX D cy c8 c9 (XO c8 c9 qo qd u.2 fd) (va_A (XO c8 c9 qo qd fo fd ++ PL cy S) sz) u.1 t) (va_A (XO c8 c9 qo qd fo fd ++ PL cy S) sz)) 1 6 (va_A (XO c8 c9 qo qd fo fd ++ PL cy S) sz) := by
  refine Met.ofWH (cc := cL_diameter) (maxL := 4) (ret := (some .int)) (by decide) rfl ?_
  intro p e s m args below meth c s₁ B hml hv
  obtain ⟨rfl, hsz, ⟨hP, hKX, hD0⟩, hN, hTH, hOU, hNC⟩ := hv
  have hx := B.exec
  have hb := B.bytes
  have hr := B.returns
  have hts := atoms_spec (ws := wsL_diameter) B.pre
  have hown : s.vm.findClass RL = some m.cls := findClass_of_methodNamed (x := yL_diameter) B.named
  have hlocks := B.notSynchronized
  have htab := vx_table (x := yL_diameter) B (hts (.codeWith yL_diameter cL_diameter 4 (some .int) [(0, 9, 12, 21)]) List.mem_cons_self)
  have hK := kX hKX
  subst hsz
  have hD := hD0.self (sz := s.heap.size)
  generalize hAe : va_A (XO c8 c9 qo qd fo fd ++ PL cy S) s.heap.size = A at hD hTH hOU ⊢
  generalize hXe : XO c8 c9 qo qd fo fd = X at hP hD
  have hA : ∀ q : Nat, s.heap.size ≤ q → A q := fun q h => by rw [← hAe]; exact Or.inr h
  have hS : va_S A s.heap s.heap [] := va_S.rf
  have hl := lv_entry ([.ref o1, .int x1, .ref qo]) (n := 4) (Nat.le_of_ble_eq_true rfl)
  rw [lg_entry_eq]
  generalize (lg_sl ([.ref o1, .int x1, .ref qo]) ++ List.replicate (4 - (lg_sl ([.ref o1, .int x1, .ref qo])).length) Slot.unset).toArray = ls at hl ⊢
  have hl : lv_has ls 4 [(0, .ref o1), (1, .int x1), (2, .ref qo)] := hl
  have t0 : stp ([] : List (Nat × Nat)) [] [] S S := stp.rf hW
  refine lv_aload_n hx hb dL_diameter_0 rfl (lv_at hl 2 rfl) ?_
  refine lv_iconst (v := 0) hx hb dL_diameter_1 (by decide) ?_
  refine lv_aload_n hx hb dL_diameter_2 rfl (lv_at hl 0 rfl) ?_
  refine lv_iload_n hx hb dL_diameter_3 rfl (lv_at hl 1 rfl) ?_
  have hFc := free_all hD hS hA
  obtain ⟨k1, gk1, hk1⟩ := wGt (cy := cy) X S h_o1.1 h_o1.2.1
  refine vx_calli (vx_runV (As := [.int x1]) (rest := [.int (0 : Int32), .ref qo]) ⟨hx, hb, hml, hown, hts⟩ (c_X9_diameter l hst (cy := cy) (X := X) (D := D) S _ o1 h_o1 x1 (hW)) (cwV 1 hts gL_diameter_X9_diameter rfl rfl rfl hd_X9_diameter ⟨Nat.le_of_ble_eq_true rfl, Nat.le_of_ble_eq_true rfl⟩) (pVt (va_recv hK hP (q := (RX9, TX9, 11)) (ci := 13) (q0 := k1) rfl hk1) hP hK hD hN hTH hS hFc) rfl rfl hl.1 rfl (lv_room (Nat.le_of_ble_eq_true rfl)) dL_diameter_4 ⟨Nat.le_of_ble_eq_true rfl, Nat.le_of_ble_eq_true rfl⟩) hS (fun q _ h => hFc q h) hFc (fun q _ h => hFc q h) (fun E ce q9 u t H1 locs ht hvm hw hB hz1 hk1 hS hq9 hce hcl => ?_) (fun r2 u t H1 locs ht hvm hw hB hz1 hk1 hS => ?_)
  · obtain ⟨c3, hEc3, hB2⟩ := hB
    obtain ⟨hP, hD⟩ := wd_post hFc ht hB2
    have hE9 := hEc3
    simp only [List.mem_cons, List.not_mem_nil, or_false] at hE9
    clear hEc3
    subst hE9
    refine vx_catch (own := RL) (name := "java/lang/IndexOutOfBoundsException") hown [] ⟨0, 9, 12, 21⟩ [] (htab.trans rfl) (List.forall_mem_nil _) (by decide) (by decide) (hts (.classLink RL 21 "java/lang/IndexOutOfBoundsException") (by decide +kernel)) (va_Nw.use rfl (hTH.2.1 (.castable "java/lang/IndexOutOfBoundsException" "java/lang/IndexOutOfBoundsException") (by decide +kernel))) hq9 hce hcl ?_
    generalize H1 = H at hP hS ⊢
    refine lv_astore_n (lv' := [(3, .ref q9), (0, .ref o1), (1, .int x1), (2, .ref qo)]) hx hb dL_diameter_12 rfl hl (by decide) rfl (fun ls hl => ?_)
    refine lv_iconst (v := 1) hx hb dL_diameter_13 (by decide) ?_
    refine W.widen (k := 1) (n := 6) (Nat.le_of_ble_eq_true rfl) (Nat.le_of_ble_eq_true rfl) ?_
    subst hXe
    exact W.iret (v := (1 : Int32)) hx hb hr (fun t ht hW9 => ⟨⟨(1 : Int32), (S, fo), rfl, t0, wx_end hP hKX hD ht hW9.alike⟩, hS.F ht⟩) hS.2.2 dL_diameter_14 hlocks
  · have c4 := hw
    obtain ⟨hP, hD⟩ := wd_post hFc ht hB
    generalize H1 = H at hP hS ⊢
    refine lv_i2l hx hb dL_diameter_7 rfl ?_
    subst hXe
    refine va_last hx hb hKX hP hD hS 0 8 rfl rfl (inb (m := 1) rfl (by decide) (by decide)) dL_diameter_8 (fun H locs hP2 hD2 hS => ?_)
    have hP : va_P D vwCl ((XO c8 c9 qo qd (vp_updL fo (0 : Int32).toNatClampNeg r2.toInt64) fd) ++ PL cy S) H := hP2
    have hD : va_D A ((XO c8 c9 qo qd (vp_updL fo (0 : Int32).toNatClampNeg r2.toInt64) fd) ++ PL cy S) := hD2
    clear hP2 hD2
    refine lv_goto (tgt := 15) hx hb dL_diameter_9 (by decide) ?_
    refine lv_iconst (v := 0) hx hb dL_diameter_15 (by decide) ?_
    refine W.widen (k := 1) (n := 6) (Nat.le_of_ble_eq_true rfl) (Nat.le_of_ble_eq_true rfl) ?_
    exact W.iret (v := (0 : Int32)) hx hb hr (fun t ht hW9 => ⟨⟨(0 : Int32), (S, (vp_updL fo (0 : Int32).toNatClampNeg r2.toInt64)), rfl, t0, wx_end hP hKX hD ht hW9.alike⟩, hS.F ht⟩) hS.2.2 dL_diameter_16 hlocks
set_option maxHeartbeats 4000000 in
set_option maxRecDepth 100000 in
theorem c_L_tip (l : Launch) (hst : l.stackTraces = false) {e0 mi : Nat} {D : va_G} {cy : Nat → ClassId} {c8 c9 : ClassId} (qo qd : Nat) (fo : Nat → Int64) (fd : Nat → UInt64) (S : wPS) (sz : Nat) (o1 : Nat) (h_o1 : isA S o1 9) (x1 : Int32) (hW : wtB S []) : Met l yL_tip wsL_tip ({ frames := 8, cells := 1, slots := 6, locals := 125 }) (va_Pc [.ref o1, .int x1, .ref qo] (fun U => U.heap.size = sz ∧ WX D cy c8 c9 (XO c8 c9 qo qd fo fd) (fun _ => True) S U ∧ NW U ∧ TH (va_A (XO c8 c9 qo qd fo fd ++ PL cy S) sz) U ∧ OU e0 mi (va_A (XO c8 c9 qo qd fo fd ++ PL cy S) sz) U U.heap ∧ NC U)) (va_Qi (fun (r : Int32) (u : wPS × (Nat → Int64)) => stp ([] : List (Nat × Nat)) [] [] S u.1) (fun u t => WX D cy c8 c9 (XO c8 c9 qo qd u.2 fd) (va_A (XO c8 c9 qo qd fo fd ++ PL cy S) sz) u.1 t) (va_A (XO c8 c9 qo qd fo fd ++ PL cy S) sz)) 1 6 (va_A (XO c8 c9 qo qd fo fd ++ PL cy S) sz) := by
  refine Met.ofWH (cc := cL_tip) (maxL := 4) (ret := (some .int)) (by decide) rfl ?_
  intro p e s m args below meth c s₁ B hml hv
  obtain ⟨rfl, hsz, ⟨hP, hKX, hD0⟩, hN, hTH, hOU, hNC⟩ := hv
  have hx := B.exec
  have hb := B.bytes
  have hr := B.returns
  have hts := atoms_spec (ws := wsL_tip) B.pre
  have hown : s.vm.findClass RL = some m.cls := findClass_of_methodNamed (x := yL_tip) B.named
  have hlocks := B.notSynchronized
  have htab := vx_table (x := yL_tip) B (hts (.codeWith yL_tip cL_tip 4 (some .int) [(0, 9, 12, 21)]) List.mem_cons_self)
  have hK := kX hKX
  subst hsz
  have hD := hD0.self (sz := s.heap.size)
  generalize hAe : va_A (XO c8 c9 qo qd fo fd ++ PL cy S) s.heap.size = A at hD hTH hOU ⊢
  generalize hXe : XO c8 c9 qo qd fo fd = X at hP hD
  have hA : ∀ q : Nat, s.heap.size ≤ q → A q := fun q h => by rw [← hAe]; exact Or.inr h
  have hS : va_S A s.heap s.heap [] := va_S.rf
  have hl := lv_entry ([.ref o1, .int x1, .ref qo]) (n := 4) (Nat.le_of_ble_eq_true rfl)
  rw [lg_entry_eq]
  generalize (lg_sl ([.ref o1, .int x1, .ref qo]) ++ List.replicate (4 - (lg_sl ([.ref o1, .int x1, .ref qo])).length) Slot.unset).toArray = ls at hl ⊢
  have hl : lv_has ls 4 [(0, .ref o1), (1, .int x1), (2, .ref qo)] := hl
  have t0 : stp ([] : List (Nat × Nat)) [] [] S S := stp.rf hW
  refine lv_aload_n hx hb dL_tip_0 rfl (lv_at hl 2 rfl) ?_
  refine lv_iconst (v := 0) hx hb dL_tip_1 (by decide) ?_
  refine lv_aload_n hx hb dL_tip_2 rfl (lv_at hl 0 rfl) ?_
  refine lv_iload_n hx hb dL_tip_3 rfl (lv_at hl 1 rfl) ?_
  have hFc := free_all hD hS hA
  obtain ⟨k1, gk1, hk1⟩ := wGt (cy := cy) X S h_o1.1 h_o1.2.1
  refine vx_calli (vx_runV (As := [.int x1]) (rest := [.int (0 : Int32), .ref qo]) ⟨hx, hb, hml, hown, hts⟩ (c_X9_tip l hst (cy := cy) (X := X) (D := D) S _ o1 h_o1 x1 (hW)) (cwV 1 hts gL_tip_X9_tip rfl rfl rfl hd_X9_tip ⟨Nat.le_of_ble_eq_true rfl, Nat.le_of_ble_eq_true rfl⟩) (pVt (va_recv hK hP (q := (RX9, TX9, 11)) (ci := 13) (q0 := k1) rfl hk1) hP hK hD hN hTH hS hFc) rfl rfl hl.1 rfl (lv_room (Nat.le_of_ble_eq_true rfl)) dL_tip_4 ⟨Nat.le_of_ble_eq_true rfl, Nat.le_of_ble_eq_true rfl⟩) hS (fun q _ h => hFc q h) hFc (fun q _ h => hFc q h) (fun E ce q9 u t H1 locs ht hvm hw hB hz1 hk1 hS hq9 hce hcl => ?_) (fun r2 u t H1 locs ht hvm hw hB hz1 hk1 hS => ?_)
  · obtain ⟨c3, hEc3, hB2⟩ := hB
    obtain ⟨hP, hD⟩ := wd_post hFc ht hB2
    have hE9 := hEc3
    simp only [List.mem_cons, List.not_mem_nil, or_false] at hE9
    clear hEc3
    subst hE9
    refine vx_catch (own := RL) (name := "java/lang/IndexOutOfBoundsException") hown [] ⟨0, 9, 12, 21⟩ [] (htab.trans rfl) (List.forall_mem_nil _) (by decide) (by decide) (hts (.classLink RL 21 "java/lang/IndexOutOfBoundsException") (by decide +kernel)) (va_Nw.use rfl (hTH.2.1 (.castable "java/lang/IndexOutOfBoundsException" "java/lang/IndexOutOfBoundsException") (by decide +kernel))) hq9 hce hcl ?_
    generalize H1 = H at hP hS ⊢
    refine lv_astore_n (lv' := [(3, .ref q9), (0, .ref o1), (1, .int x1), (2, .ref qo)]) hx hb dL_tip_12 rfl hl (by decide) rfl (fun ls hl => ?_)
    refine lv_iconst (v := 1) hx hb dL_tip_13 (by decide) ?_
    refine W.widen (k := 1) (n := 6) (Nat.le_of_ble_eq_true rfl) (Nat.le_of_ble_eq_true rfl) ?_
    subst hXe
    exact W.iret (v := (1 : Int32)) hx hb hr (fun t ht hW9 => ⟨⟨(1 : Int32), (S, fo), rfl, t0, wx_end hP hKX hD ht hW9.alike⟩, hS.F ht⟩) hS.2.2 dL_tip_14 hlocks
  · have c4 := hw
    obtain ⟨hP, hD⟩ := wd_post hFc ht hB
    generalize H1 = H at hP hS ⊢
    refine lv_i2l hx hb dL_tip_7 rfl ?_
    subst hXe
    refine va_last hx hb hKX hP hD hS 0 8 rfl rfl (inb (m := 1) rfl (by decide) (by decide)) dL_tip_8 (fun H locs hP2 hD2 hS => ?_)
    have hP : va_P D vwCl ((XO c8 c9 qo qd (vp_updL fo (0 : Int32).toNatClampNeg r2.toInt64) fd) ++ PL cy S) H := hP2
    have hD : va_D A ((XO c8 c9 qo qd (vp_updL fo (0 : Int32).toNatClampNeg r2.toInt64) fd) ++ PL cy S) := hD2
    clear hP2 hD2
    refine lv_goto (tgt := 15) hx hb dL_tip_9 (by decide) ?_
    refine lv_iconst (v := 0) hx hb dL_tip_15 (by decide) ?_
    refine W.widen (k := 1) (n := 6) (Nat.le_of_ble_eq_true rfl) (Nat.le_of_ble_eq_true rfl) ?_
    exact W.iret (v := (0 : Int32)) hx hb hr (fun t ht hW9 => ⟨⟨(0 : Int32), (S, (vp_updL fo (0 : Int32).toNatClampNeg r2.toInt64)), rfl, t0, wx_end hP hKX hD ht hW9.alike⟩, hS.F ht⟩) hS.2.2 dL_tip_16 hlocks
set_option maxHeartbeats 4000000 in
set_option maxRecDepth 100000 in
theorem c_L_isUndercut (l : Launch) (hst : l.stackTraces = false) {e0 mi : Nat} {D : va_G} {cy : Nat → ClassId} {c8 c9 : ClassId} (qo qd : Nat) (fo : Nat → Int64) (fd : Nat → UInt64) (S : wPS) (sz : Nat) (o1 : Nat) (h_o1 : isA S o1 9) (x1 : Int32) (hW : wtB S []) : Met l yL_isUndercut wsL_isUndercut ({ frames := 8, cells := 1, slots := 6, locals := 125 }) (va_Pc [.ref o1, .int x1, .ref qo] (fun U => U.heap.size = sz ∧ WX D cy c8 c9 (XO c8 c9 qo qd fo fd) (fun _ => True) S U ∧ NW U ∧ TH (va_A (XO c8 c9 qo qd fo fd ++ PL cy S) sz) U ∧ OU e0 mi (va_A (XO c8 c9 qo qd fo fd ++ PL cy S) sz) U U.heap ∧ NC U)) (va_Qi (fun (r : Int32) (u : wPS × (Nat → Int64)) => stp ([] : List (Nat × Nat)) [] [] S u.1) (fun u t => WX D cy c8 c9 (XO c8 c9 qo qd u.2 fd) (va_A (XO c8 c9 qo qd fo fd ++ PL cy S) sz) u.1 t) (va_A (XO c8 c9 qo qd fo fd ++ PL cy S) sz)) 1 6 (va_A (XO c8 c9 qo qd fo fd ++ PL cy S) sz) := by
  refine Met.ofWH (cc := cL_isUndercut) (maxL := 4) (ret := (some .int)) (by decide) rfl ?_
  intro p e s m args below meth c s₁ B hml hv
  obtain ⟨rfl, hsz, ⟨hP, hKX, hD0⟩, hN, hTH, hOU, hNC⟩ := hv
  have hx := B.exec
  have hb := B.bytes
  have hr := B.returns
  have hts := atoms_spec (ws := wsL_isUndercut) B.pre
  have hown : s.vm.findClass RL = some m.cls := findClass_of_methodNamed (x := yL_isUndercut) B.named
  have hlocks := B.notSynchronized
  have htab := vx_table (x := yL_isUndercut) B (hts (.codeWith yL_isUndercut cL_isUndercut 4 (some .int) [(0, 16, 19, 21)]) List.mem_cons_self)
  have hK := kX hKX
  subst hsz
  have hD := hD0.self (sz := s.heap.size)
  generalize hAe : va_A (XO c8 c9 qo qd fo fd ++ PL cy S) s.heap.size = A at hD hTH hOU ⊢
  generalize hXe : XO c8 c9 qo qd fo fd = X at hP hD
  have hA : ∀ q : Nat, s.heap.size ≤ q → A q := fun q h => by rw [← hAe]; exact Or.inr h
  have hS : va_S A s.heap s.heap [] := va_S.rf
  have hl := lv_entry ([.ref o1, .int x1, .ref qo]) (n := 4) (Nat.le_of_ble_eq_true rfl)
  rw [lg_entry_eq]
  generalize (lg_sl ([.ref o1, .int x1, .ref qo]) ++ List.replicate (4 - (lg_sl ([.ref o1, .int x1, .ref qo])).length) Slot.unset).toArray = ls at hl ⊢
  have hl : lv_has ls 4 [(0, .ref o1), (1, .int x1), (2, .ref qo)] := hl
  have t0 : stp ([] : List (Nat × Nat)) [] [] S S := stp.rf hW
  refine lv_aload_n hx hb dL_isUndercut_0 rfl (lv_at hl 2 rfl) ?_
  refine lv_iconst (v := 0) hx hb dL_isUndercut_1 (by decide) ?_
  refine lv_aload_n hx hb dL_isUndercut_2 rfl (lv_at hl 0 rfl) ?_
  refine lv_iload_n hx hb dL_isUndercut_3 rfl (lv_at hl 1 rfl) ?_
  have hFc := free_all hD hS hA
  obtain ⟨k1, gk1, hk1⟩ := wGt (cy := cy) X S h_o1.1 h_o1.2.1
  refine vx_calli (vx_runV (As := [.int x1]) (rest := [.int (0 : Int32), .ref qo]) ⟨hx, hb, hml, hown, hts⟩ (c_X9_isUndercut l hst (cy := cy) (X := X) (D := D) S _ o1 h_o1 x1 (hW)) (cwV 1 hts gL_isUndercut_X9_isUndercut rfl rfl rfl hd_X9_isUndercut ⟨Nat.le_of_ble_eq_true rfl, Nat.le_of_ble_eq_true rfl⟩) (pVt (va_recv hK hP (q := (RX9, TX9, 11)) (ci := 13) (q0 := k1) rfl hk1) hP hK hD hN hTH hS hFc) rfl rfl hl.1 rfl (lv_room (Nat.le_of_ble_eq_true rfl)) dL_isUndercut_4 ⟨Nat.le_of_ble_eq_true rfl, Nat.le_of_ble_eq_true rfl⟩) hS (fun q _ h => hFc q h) hFc (fun q _ h => hFc q h) (fun E ce q9 u t H1 locs ht hvm hw hB hz1 hk1 hS hq9 hce hcl => ?_) (fun r2 u t H1 locs ht hvm hw hB hz1 hk1 hS => ?_)
  · obtain ⟨c3, hEc3, hB2⟩ := hB
    obtain ⟨hP, hD⟩ := wd_post hFc ht hB2
    have hE9 := hEc3
    simp only [List.mem_cons, List.not_mem_nil, or_false] at hE9
    clear hEc3
    subst hE9
    refine vx_catch (own := RL) (name := "java/lang/IndexOutOfBoundsException") hown [] ⟨0, 16, 19, 21⟩ [] (htab.trans rfl) (List.forall_mem_nil _) (by decide) (by decide) (hts (.classLink RL 21 "java/lang/IndexOutOfBoundsException") (by decide +kernel)) (va_Nw.use rfl (hTH.2.1 (.castable "java/lang/IndexOutOfBoundsException" "java/lang/IndexOutOfBoundsException") (by decide +kernel))) hq9 hce hcl ?_
    generalize H1 = H at hP hS ⊢
    refine lv_astore_n (lv' := [(3, .ref q9), (0, .ref o1), (1, .int x1), (2, .ref qo)]) hx hb dL_isUndercut_19 rfl hl (by decide) rfl (fun ls hl => ?_)
    refine lv_iconst (v := 1) hx hb dL_isUndercut_20 (by decide) ?_
    refine W.widen (k := 1) (n := 6) (Nat.le_of_ble_eq_true rfl) (Nat.le_of_ble_eq_true rfl) ?_
    subst hXe
    exact W.iret (v := (1 : Int32)) hx hb hr (fun t ht hW9 => ⟨⟨(1 : Int32), (S, fo), rfl, t0, wx_end hP hKX hD ht hW9.alike⟩, hS.F ht⟩) hS.2.2 dL_isUndercut_21 hlocks
  · have c4 := hw
    obtain ⟨hP, hD⟩ := wd_post hFc ht hB
    generalize H1 = H at hP hS ⊢
    refine lv_if_eq (tgt := 14) hx hb dL_isUndercut_7 (by decide) (fun c5 => ?_) (fun c5 => ?_)
    · have c5i : r2.toInt = 0 := eq_v rfl rfl c5
      refine lv_lconst (v := 0) hx hb dL_isUndercut_14 (by decide) ?_
      subst hXe
      refine va_last hx hb hKX hP hD hS 0 8 rfl rfl (inb (m := 1) rfl (by decide) (by decide)) dL_isUndercut_15 (fun H locs hP2 hD2 hS => ?_)
      have hP : va_P D vwCl ((XO c8 c9 qo qd (vp_updL fo (0 : Int32).toNatClampNeg (0 : Int64)) fd) ++ PL cy S) H := hP2
      have hD : va_D A ((XO c8 c9 qo qd (vp_updL fo (0 : Int32).toNatClampNeg (0 : Int64)) fd) ++ PL cy S) := hD2
      clear hP2 hD2
      refine lv_goto (tgt := 22) hx hb dL_isUndercut_16 (by decide) ?_
      refine lv_iconst (v := 0) hx hb dL_isUndercut_22 (by decide) ?_
      refine W.widen (k := 1) (n := 6) (Nat.le_of_ble_eq_true rfl) (Nat.le_of_ble_eq_true rfl) ?_
      exact W.iret (v := (0 : Int32)) hx hb hr (fun t ht hW9 => ⟨⟨(0 : Int32), (S, (vp_updL fo (0 : Int32).toNatClampNeg (0 : Int64))), rfl, t0, wx_end hP hKX hD ht hW9.alike⟩, hS.F ht⟩) hS.2.2 dL_isUndercut_23 hlocks
    · have c5i : ¬ r2.toInt = 0 := neq_v rfl rfl c5
      refine lv_lconst (v := 1) hx hb dL_isUndercut_10 (by decide) ?_
      refine lv_goto (tgt := 15) hx hb dL_isUndercut_11 (by decide) ?_
      subst hXe
      refine va_last hx hb hKX hP hD hS 0 8 rfl rfl (inb (m := 1) rfl (by decide) (by decide)) dL_isUndercut_15 (fun H locs hP2 hD2 hS => ?_)
      have hP : va_P D vwCl ((XO c8 c9 qo qd (vp_updL fo (0 : Int32).toNatClampNeg (1 : Int64)) fd) ++ PL cy S) H := hP2
      have hD : va_D A ((XO c8 c9 qo qd (vp_updL fo (0 : Int32).toNatClampNeg (1 : Int64)) fd) ++ PL cy S) := hD2
      clear hP2 hD2
      refine lv_goto (tgt := 22) hx hb dL_isUndercut_16 (by decide) ?_
      refine lv_iconst (v := 0) hx hb dL_isUndercut_22 (by decide) ?_
      refine W.widen (k := 1) (n := 6) (Nat.le_of_ble_eq_true rfl) (Nat.le_of_ble_eq_true rfl) ?_
      exact W.iret (v := (0 : Int32)) hx hb hr (fun t ht hW9 => ⟨⟨(0 : Int32), (S, (vp_updL fo (0 : Int32).toNatClampNeg (1 : Int64))), rfl, t0, wx_end hP hKX hD ht hW9.alike⟩, hS.F ht⟩) hS.2.2 dL_isUndercut_23 hlocks
set_option maxHeartbeats 4000000 in
set_option maxRecDepth 100000 in
theorem c_L_isSharp (l : Launch) (hst : l.stackTraces = false) {e0 mi : Nat} {D : va_G} {cy : Nat → ClassId} {c8 c9 : ClassId} (qo qd : Nat) (fo : Nat → Int64) (fd : Nat → UInt64) (S : wPS) (sz : Nat) (o1 : Nat) (h_o1 : isA S o1 9) (x1 : Int32) (hW : wtB S []) : Met l yL_isSharp wsL_isSharp ({ frames := 8, cells := 1, slots := 6, locals := 125 }) (va_Pc [.ref o1, .int x1, .ref qo] (fun U => U.heap.size = sz ∧ WX D cy c8 c9 (XO c8 c9 qo qd fo fd) (fun _ => True) S U ∧ NW U ∧ TH (va_A (XO c8 c9 qo qd fo fd ++ PL cy S) sz) U ∧ OU e0 mi (va_A (XO c8 c9 qo qd fo fd ++ PL cy S) sz) U U.heap ∧ NC U)) (va_Qi (fun (r : Int32) (u : wPS × (Nat → Int64)) => stp ([] : List (Nat × Nat)) [] [] S u.1) (fun u t => WX D cy c8 c9 (XO c8 c9 qo qd u.2 fd) (va_A (XO c8 c9 qo qd fo fd ++ PL cy S) sz) u.1 t) (va_A (XO c8 c9 qo qd fo fd ++ PL cy S) sz)) 1 6 (va_A (XO c8 c9 qo qd fo fd ++ PL cy S) sz) := by
  refine Met.ofWH (cc := cL_isSharp) (maxL := 4) (ret := (some .int)) (by decide) rfl ?_
  intro p e s m args below meth c s₁ B hml hv
  obtain ⟨rfl, hsz, ⟨hP, hKX, hD0⟩, hN, hTH, hOU, hNC⟩ := hv
  have hx := B.exec
  have hb := B.bytes
  have hr := B.returns
  have hts := atoms_spec (ws := wsL_isSharp) B.pre
  have hown : s.vm.findClass RL = some m.cls := findClass_of_methodNamed (x := yL_isSharp) B.named
  have hlocks := B.notSynchronized
  have htab := vx_table (x := yL_isSharp) B (hts (.codeWith yL_isSharp cL_isSharp 4 (some .int) [(0, 16, 19, 21)]) List.mem_cons_self)
  have hK := kX hKX
  subst hsz
  have hD := hD0.self (sz := s.heap.size)
  generalize hAe : va_A (XO c8 c9 qo qd fo fd ++ PL cy S) s.heap.size = A at hD hTH hOU ⊢
  generalize hXe : XO c8 c9 qo qd fo fd = X at hP hD
  have hA : ∀ q : Nat, s.heap.size ≤ q → A q := fun q h => by rw [← hAe]; exact Or.inr h
  have hS : va_S A s.heap s.heap [] := va_S.rf
  have hl := lv_entry ([.ref o1, .int x1, .ref qo]) (n := 4) (Nat.le_of_ble_eq_true rfl)
  rw [lg_entry_eq]
  generalize (lg_sl ([.ref o1, .int x1, .ref qo]) ++ List.replicate (4 - (lg_sl ([.ref o1, .int x1, .ref qo])).length) Slot.unset).toArray = ls at hl ⊢
  have hl : lv_has ls 4 [(0, .ref o1), (1, .int x1), (2, .ref qo)] := hl
  have t0 : stp ([] : List (Nat × Nat)) [] [] S S := stp.rf hW
  refine lv_aload_n hx hb dL_isSharp_0 rfl (lv_at hl 2 rfl) ?_
  refine lv_iconst (v := 0) hx hb dL_isSharp_1 (by decide) ?_
  refine lv_aload_n hx hb dL_isSharp_2 rfl (lv_at hl 0 rfl) ?_
  refine lv_iload_n hx hb dL_isSharp_3 rfl (lv_at hl 1 rfl) ?_
  have hFc := free_all hD hS hA
  obtain ⟨k1, gk1, hk1⟩ := wGt (cy := cy) X S h_o1.1 h_o1.2.1
  refine vx_calli (vx_runV (As := [.int x1]) (rest := [.int (0 : Int32), .ref qo]) ⟨hx, hb, hml, hown, hts⟩ (c_X9_isSharp l hst (cy := cy) (X := X) (D := D) S _ o1 h_o1 x1 (hW)) (cwV 1 hts gL_isSharp_X9_isSharp rfl rfl rfl hd_X9_isSharp ⟨Nat.le_of_ble_eq_true rfl, Nat.le_of_ble_eq_true rfl⟩) (pVt (va_recv hK hP (q := (RX9, TX9, 11)) (ci := 13) (q0 := k1) rfl hk1) hP hK hD hN hTH hS hFc) rfl rfl hl.1 rfl (lv_room (Nat.le_of_ble_eq_true rfl)) dL_isSharp_4 ⟨Nat.le_of_ble_eq_true rfl, Nat.le_of_ble_eq_true rfl⟩) hS (fun q _ h => hFc q h) hFc (fun q _ h => hFc q h) (fun E ce q9 u t H1 locs ht hvm hw hB hz1 hk1 hS hq9 hce hcl => ?_) (fun r2 u t H1 locs ht hvm hw hB hz1 hk1 hS => ?_)
  · obtain ⟨c3, hEc3, hB2⟩ := hB
    obtain ⟨hP, hD⟩ := wd_post hFc ht hB2
    have hE9 := hEc3
    simp only [List.mem_cons, List.not_mem_nil, or_false] at hE9
    clear hEc3
    subst hE9
    refine vx_catch (own := RL) (name := "java/lang/IndexOutOfBoundsException") hown [] ⟨0, 16, 19, 21⟩ [] (htab.trans rfl) (List.forall_mem_nil _) (by decide) (by decide) (hts (.classLink RL 21 "java/lang/IndexOutOfBoundsException") (by decide +kernel)) (va_Nw.use rfl (hTH.2.1 (.castable "java/lang/IndexOutOfBoundsException" "java/lang/IndexOutOfBoundsException") (by decide +kernel))) hq9 hce hcl ?_
    generalize H1 = H at hP hS ⊢
    refine lv_astore_n (lv' := [(3, .ref q9), (0, .ref o1), (1, .int x1), (2, .ref qo)]) hx hb dL_isSharp_19 rfl hl (by decide) rfl (fun ls hl => ?_)
    refine lv_iconst (v := 1) hx hb dL_isSharp_20 (by decide) ?_
    refine W.widen (k := 1) (n := 6) (Nat.le_of_ble_eq_true rfl) (Nat.le_of_ble_eq_true rfl) ?_
    subst hXe
    exact W.iret (v := (1 : Int32)) hx hb hr (fun t ht hW9 => ⟨⟨(1 : Int32), (S, fo), rfl, t0, wx_end hP hKX hD ht hW9.alike⟩, hS.F ht⟩) hS.2.2 dL_isSharp_21 hlocks
  · have c4 := hw
    obtain ⟨hP, hD⟩ := wd_post hFc ht hB
    generalize H1 = H at hP hS ⊢
    refine lv_if_eq (tgt := 14) hx hb dL_isSharp_7 (by decide) (fun c5 => ?_) (fun c5 => ?_)
    · have c5i : r2.toInt = 0 := eq_v rfl rfl c5
      refine lv_lconst (v := 0) hx hb dL_isSharp_14 (by decide) ?_
      subst hXe
      refine va_last hx hb hKX hP hD hS 0 8 rfl rfl (inb (m := 1) rfl (by decide) (by decide)) dL_isSharp_15 (fun H locs hP2 hD2 hS => ?_)
      have hP : va_P D vwCl ((XO c8 c9 qo qd (vp_updL fo (0 : Int32).toNatClampNeg (0 : Int64)) fd) ++ PL cy S) H := hP2
      have hD : va_D A ((XO c8 c9 qo qd (vp_updL fo (0 : Int32).toNatClampNeg (0 : Int64)) fd) ++ PL cy S) := hD2
      clear hP2 hD2
      refine lv_goto (tgt := 22) hx hb dL_isSharp_16 (by decide) ?_
      refine lv_iconst (v := 0) hx hb dL_isSharp_22 (by decide) ?_
      refine W.widen (k := 1) (n := 6) (Nat.le_of_ble_eq_true rfl) (Nat.le_of_ble_eq_true rfl) ?_
      exact W.iret (v := (0 : Int32)) hx hb hr (fun t ht hW9 => ⟨⟨(0 : Int32), (S, (vp_updL fo (0 : Int32).toNatClampNeg (0 : Int64))), rfl, t0, wx_end hP hKX hD ht hW9.alike⟩, hS.F ht⟩) hS.2.2 dL_isSharp_23 hlocks
    · have c5i : ¬ r2.toInt = 0 := neq_v rfl rfl c5
      refine lv_lconst (v := 1) hx hb dL_isSharp_10 (by decide) ?_
      refine lv_goto (tgt := 15) hx hb dL_isSharp_11 (by decide) ?_
      subst hXe
      refine va_last hx hb hKX hP hD hS 0 8 rfl rfl (inb (m := 1) rfl (by decide) (by decide)) dL_isSharp_15 (fun H locs hP2 hD2 hS => ?_)
      have hP : va_P D vwCl ((XO c8 c9 qo qd (vp_updL fo (0 : Int32).toNatClampNeg (1 : Int64)) fd) ++ PL cy S) H := hP2
      have hD : va_D A ((XO c8 c9 qo qd (vp_updL fo (0 : Int32).toNatClampNeg (1 : Int64)) fd) ++ PL cy S) := hD2
      clear hP2 hD2
      refine lv_goto (tgt := 22) hx hb dL_isSharp_16 (by decide) ?_
      refine lv_iconst (v := 0) hx hb dL_isSharp_22 (by decide) ?_
      refine W.widen (k := 1) (n := 6) (Nat.le_of_ble_eq_true rfl) (Nat.le_of_ble_eq_true rfl) ?_
      exact W.iret (v := (0 : Int32)) hx hb hr (fun t ht hW9 => ⟨⟨(0 : Int32), (S, (vp_updL fo (0 : Int32).toNatClampNeg (1 : Int64))), rfl, t0, wx_end hP hKX hD ht hW9.alike⟩, hS.F ht⟩) hS.2.2 dL_isSharp_23 hlocks
set_option maxHeartbeats 4000000 in
set_option maxRecDepth 100000 in
theorem c_L_fewest (l : Launch) (hst : l.stackTraces = false) {e0 mi : Nat} {D : va_G} {cy : Nat → ClassId} {c8 c9 : ClassId} (qo qd : Nat) (fo : Nat → Int64) (fd : Nat → UInt64) (S : wPS) (sz : Nat) (o1 : Nat) (h_o1 : isA S o1 9) (x1 : Int32) (hW : wtB S []) : Met l yL_fewest wsL_fewest ({ frames := 8, cells := 1, slots := 6, locals := 126 }) (va_Pc [.ref o1, .int x1, .ref qo] (fun U => U.heap.size = sz ∧ WX D cy c8 c9 (XO c8 c9 qo qd fo fd) (fun _ => True) S U ∧ NW U ∧ TH (va_A (XO c8 c9 qo qd fo fd ++ PL cy S) sz) U ∧ OU e0 mi (va_A (XO c8 c9 qo qd fo fd ++ PL cy S) sz) U U.heap ∧ NC U)) (va_Qi (fun (r : Int32) (u : wPS × (Nat → Int64)) => stp ([] : List (Nat × Nat)) [] [] S u.1) (fun u t => WX D cy c8 c9 (XO c8 c9 qo qd u.2 fd) (va_A (XO c8 c9 qo qd fo fd ++ PL cy S) sz) u.1 t) (va_A (XO c8 c9 qo qd fo fd ++ PL cy S) sz)) 1 6 (va_A (XO c8 c9 qo qd fo fd ++ PL cy S) sz) := by
  refine Met.ofWH (cc := cL_fewest) (maxL := 4) (ret := (some .int)) (by decide) rfl ?_
  intro p e s m args below meth c s₁ B hml hv
  obtain ⟨rfl, hsz, ⟨hP, hKX, hD0⟩, hN, hTH, hOU, hNC⟩ := hv
  have hx := B.exec
  have hb := B.bytes
  have hr := B.returns
  have hts := atoms_spec (ws := wsL_fewest) B.pre
  have hown : s.vm.findClass RL = some m.cls := findClass_of_methodNamed (x := yL_fewest) B.named
  have hlocks := B.notSynchronized
  have htab := vx_table (x := yL_fewest) B (hts (.codeWith yL_fewest cL_fewest 4 (some .int) [(0, 9, 12, 13)]) List.mem_cons_self)
  have hK := kX hKX
  subst hsz
  have hD := hD0.self (sz := s.heap.size)
  generalize hAe : va_A (XO c8 c9 qo qd fo fd ++ PL cy S) s.heap.size = A at hD hTH hOU ⊢
  generalize hXe : XO c8 c9 qo qd fo fd = X at hP hD
  have hA : ∀ q : Nat, s.heap.size ≤ q → A q := fun q h => by rw [← hAe]; exact Or.inr h
  have hS : va_S A s.heap s.heap [] := va_S.rf
  have hl := lv_entry ([.ref o1, .int x1, .ref qo]) (n := 4) (Nat.le_of_ble_eq_true rfl)
  rw [lg_entry_eq]
  generalize (lg_sl ([.ref o1, .int x1, .ref qo]) ++ List.replicate (4 - (lg_sl ([.ref o1, .int x1, .ref qo])).length) Slot.unset).toArray = ls at hl ⊢
  have hl : lv_has ls 4 [(0, .ref o1), (1, .int x1), (2, .ref qo)] := hl
  have t0 : stp ([] : List (Nat × Nat)) [] [] S S := stp.rf hW
  refine lv_aload_n hx hb dL_fewest_0 rfl (lv_at hl 2 rfl) ?_
  refine lv_iconst (v := 0) hx hb dL_fewest_1 (by decide) ?_
  refine lv_aload_n hx hb dL_fewest_2 rfl (lv_at hl 0 rfl) ?_
  refine lv_iload_n hx hb dL_fewest_3 rfl (lv_at hl 1 rfl) ?_
  have hFc := free_all hD hS hA
  obtain ⟨k1, gk1, hk1⟩ := wGt (cy := cy) X S h_o1.1 h_o1.2.1
  refine vx_calli (vx_runV (As := [.int x1]) (rest := [.int (0 : Int32), .ref qo]) ⟨hx, hb, hml, hown, hts⟩ (c_X9_fewest l hst (cy := cy) (X := X) (D := D) S _ o1 h_o1 x1 (hW)) (cwV 1 hts gL_fewest_X9_fewest rfl rfl rfl hd_X9_fewest ⟨Nat.le_of_ble_eq_true rfl, Nat.le_of_ble_eq_true rfl⟩) (pVt (va_recv hK hP (q := (RX9, TX9, 11)) (ci := 13) (q0 := k1) rfl hk1) hP hK hD hN hTH hS hFc) rfl rfl hl.1 rfl (lv_room (Nat.le_of_ble_eq_true rfl)) dL_fewest_4 ⟨Nat.le_of_ble_eq_true rfl, Nat.le_of_ble_eq_true rfl⟩) hS (fun q _ h => hFc q h) hFc (fun q _ h => hFc q h) (fun E ce q9 u t H1 locs ht hvm hw hB hz1 hk1 hS hq9 hce hcl => ?_) (fun r2 u t H1 locs ht hvm hw hB hz1 hk1 hS => ?_)
  · obtain ⟨c3, hEc3, hB2⟩ := hB
    obtain ⟨hP, hD⟩ := wd_post hFc ht hB2
    have hE9 := hEc3
    simp only [List.mem_cons, List.not_mem_nil, or_false] at hE9
    clear hEc3
    subst hE9
    refine vx_catch (own := RL) (name := "java/lang/IllegalArgumentException") hown [] ⟨0, 9, 12, 13⟩ [] (htab.trans rfl) (List.forall_mem_nil _) (by decide) (by decide) (hts (.classLink RL 13 "java/lang/IllegalArgumentException") (by decide +kernel)) (va_Nw.use rfl (hTH.2.1 (.castable "java/lang/IllegalArgumentException" "java/lang/IllegalArgumentException") (by decide +kernel))) hq9 hce hcl ?_
    generalize H1 = H at hP hS ⊢
    refine lv_astore_n (lv' := [(3, .ref q9), (0, .ref o1), (1, .int x1), (2, .ref qo)]) hx hb dL_fewest_12 rfl hl (by decide) rfl (fun ls hl => ?_)
    refine lv_iconst (v := 1) hx hb dL_fewest_13 (by decide) ?_
    refine W.widen (k := 1) (n := 6) (Nat.le_of_ble_eq_true rfl) (Nat.le_of_ble_eq_true rfl) ?_
    subst hXe
    exact W.iret (v := (1 : Int32)) hx hb hr (fun t ht hW9 => ⟨⟨(1 : Int32), (S, fo), rfl, t0, wx_end hP hKX hD ht hW9.alike⟩, hS.F ht⟩) hS.2.2 dL_fewest_14 hlocks
  · have c4 := hw
    obtain ⟨hP, hD⟩ := wd_post hFc ht hB
    generalize H1 = H at hP hS ⊢
    refine lv_i2l hx hb dL_fewest_7 rfl ?_
    subst hXe
    refine va_last hx hb hKX hP hD hS 0 8 rfl rfl (inb (m := 1) rfl (by decide) (by decide)) dL_fewest_8 (fun H locs hP2 hD2 hS => ?_)
    have hP : va_P D vwCl ((XO c8 c9 qo qd (vp_updL fo (0 : Int32).toNatClampNeg r2.toInt64) fd) ++ PL cy S) H := hP2
    have hD : va_D A ((XO c8 c9 qo qd (vp_updL fo (0 : Int32).toNatClampNeg r2.toInt64) fd) ++ PL cy S) := hD2
    clear hP2 hD2
    refine lv_goto (tgt := 15) hx hb dL_fewest_9 (by decide) ?_
    refine lv_iconst (v := 0) hx hb dL_fewest_15 (by decide) ?_
    refine W.widen (k := 1) (n := 6) (Nat.le_of_ble_eq_true rfl) (Nat.le_of_ble_eq_true rfl) ?_
    exact W.iret (v := (0 : Int32)) hx hb hr (fun t ht hW9 => ⟨⟨(0 : Int32), (S, (vp_updL fo (0 : Int32).toNatClampNeg r2.toInt64)), rfl, t0, wx_end hP hKX hD ht hW9.alike⟩, hS.F ht⟩) hS.2.2 dL_fewest_16 hlocks
set_option maxHeartbeats 4000000 in
set_option maxRecDepth 100000 in
theorem c_L_doPair (l : Launch) (hst : l.stackTraces = false) {e0 mi : Nat} {D : va_G} {cy : Nat → ClassId} {c8 c9 : ClassId} (qo qd : Nat) (fo : Nat → Int64) (fd : Nat → UInt64) (S : wPS) (sz : Nat) (o1 : Nat) (h_o1 : isA S o1 9) (x1 : Int32) (x2 : Int32) (hW : wtB S []) : Met l yL_doPair wsL_doPair ({ frames := 8, cells := 3, slots := 18, locals := 127 }) (va_Pc [.ref o1, .int x1, .int x2, .ref qo] (fun U => U.heap.size = sz ∧ WX D cy c8 c9 (XO c8 c9 qo qd fo fd) (fun _ => True) S U ∧ NW U ∧ TH (va_A (XO c8 c9 qo qd fo fd ++ PL cy S) sz) U ∧ OU e0 mi (va_A (XO c8 c9 qo qd fo fd ++ PL cy S) sz) U U.heap ∧ NC U)) (va_Qi (fun (r : Int32) (u : wPS × (Nat → Int64)) => stp ([] : List (Nat × Nat)) [] [] S u.1) (fun u t => WX D cy c8 c9 (XO c8 c9 qo qd u.2 fd) (va_A (XO c8 c9 qo qd fo fd ++ PL cy S) sz) u.1 t) (va_A (XO c8 c9 qo qd fo fd ++ PL cy S) sz)) 3 18 (va_A (XO c8 c9 qo qd fo fd ++ PL cy S) sz) := by
  refine Met.ofWH (cc := cL_doPair) (maxL := 5) (ret := (some .int)) (by decide) rfl ?_
  intro p e s m args below meth c s₁ B hml hv
  obtain ⟨rfl, hsz, ⟨hP, hKX, hD0⟩, hN, hTH, hOU, hNC⟩ := hv
  have hx := B.exec
  have hb := B.bytes
  have hr := B.returns
  have hts := atoms_spec (ws := wsL_doPair) B.pre
  have hown : s.vm.findClass RL = some m.cls := findClass_of_methodNamed (x := yL_doPair) B.named
  have hlocks := B.notSynchronized
  have htab := vx_table (x := yL_doPair) B (hts (.codeWith yL_doPair cL_doPair 5 (some .int) [(0, 17, 20, 21), (0, 17, 24, 13)]) List.mem_cons_self)
  have hK := kX hKX
  subst hsz
  have hD := hD0.self (sz := s.heap.size)
  generalize hAe : va_A (XO c8 c9 qo qd fo fd ++ PL cy S) s.heap.size = A at hD hTH hOU ⊢
  generalize hXe : XO c8 c9 qo qd fo fd = X at hP hD
  have hA : ∀ q : Nat, s.heap.size ≤ q → A q := fun q h => by rw [← hAe]; exact Or.inr h
  have hS : va_S A s.heap s.heap [] := va_S.rf
  have hl := lv_entry ([.ref o1, .int x1, .int x2, .ref qo]) (n := 5) (Nat.le_of_ble_eq_true rfl)
  rw [lg_entry_eq]
  generalize (lg_sl ([.ref o1, .int x1, .int x2, .ref qo]) ++ List.replicate (5 - (lg_sl ([.ref o1, .int x1, .int x2, .ref qo])).length) Slot.unset).toArray = ls at hl ⊢
  have hl : lv_has ls 5 [(0, .ref o1), (1, .int x1), (2, .int x2), (3, .ref qo)] := hl
  have t0 : stp ([] : List (Nat × Nat)) [] [] S S := stp.rf hW
  refine lv_aload_n hx hb dL_doPair_0 rfl (lv_at hl 3 rfl) ?_
  refine lv_iconst (v := 0) hx hb dL_doPair_1 (by decide) ?_
  refine lv_aload_n hx hb dL_doPair_2 rfl (lv_at hl 0 rfl) ?_
  refine lv_iload_n hx hb dL_doPair_3 rfl (lv_at hl 1 rfl) ?_
  refine lv_iload_n hx hb dL_doPair_4 rfl (lv_at hl 2 rfl) ?_
  have hFc := free_all hD hS hA
  obtain ⟨k1, gk1, hk1⟩ := wGt (cy := cy) X S h_o1.1 h_o1.2.1
  refine vx_calli (vx_runV (As := [.int x1, .int x2]) (rest := [.int (0 : Int32), .ref qo]) ⟨hx, hb, hml, hown, hts⟩ (c_X9_doPair l hst (cy := cy) (X := X) (D := D) S _ o1 h_o1 x1 x2 (hW)) (cwV 2 hts gL_doPair_X9_doPair rfl rfl rfl hd_X9_doPair ⟨Nat.le_of_ble_eq_true rfl, Nat.le_of_ble_eq_true rfl⟩) (pVt (va_recv hK hP (q := (RX9, TX9, 11)) (ci := 13) (q0 := k1) rfl hk1) hP hK hD hN hTH hS hFc) rfl rfl hl.1 rfl (lv_room (Nat.le_of_ble_eq_true rfl)) dL_doPair_5 ⟨Nat.le_of_ble_eq_true rfl, Nat.le_of_ble_eq_true rfl⟩) hS (fun q _ h => hFc q h) hFc (fun q _ h => hFc q h) (fun E ce q9 u t H1 locs ht hvm hw hB hz1 hk1 hS hq9 hce hcl => ?_) (fun r2 u t H1 locs ht hvm hw hB hz1 hk1 hS => ?_)
  · obtain ⟨c3, hEc3, hB2⟩ := hB
    obtain ⟨hP, hD⟩ := wd_post hFc ht hB2
    have hE9 := hEc3
    simp only [List.mem_cons, List.not_mem_nil, or_false] at hE9
    clear hEc3
    rcases hE9 with rfl | rfl
    · refine vx_catch (own := RL) (name := "java/lang/IllegalArgumentException") hown [⟨0, 17, 20, 21⟩] ⟨0, 17, 24, 13⟩ [] (htab.trans rfl) (List.forall_mem_cons.mpr ⟨Or.inr ⟨by decide, "java/lang/IndexOutOfBoundsException", hts (.classLink RL 21 "java/lang/IndexOutOfBoundsException") (by decide +kernel), hNC ("java/lang/IllegalArgumentException", "java/lang/IndexOutOfBoundsException") (by decide +kernel)⟩, (List.forall_mem_nil _)⟩) (by decide) (by decide) (hts (.classLink RL 13 "java/lang/IllegalArgumentException") (by decide +kernel)) (va_Nw.use rfl (hTH.2.1 (.castable "java/lang/IllegalArgumentException" "java/lang/IllegalArgumentException") (by decide +kernel))) hq9 hce hcl ?_
      generalize H1 = H at hP hS ⊢
      refine lv_astore (lv' := [(4, .ref q9), (0, .ref o1), (1, .int x1), (2, .int x2), (3, .ref qo)]) hx hb dL_doPair_24 hl (by decide) rfl (fun ls hl => ?_)
      refine lv_iconst (v := 2) hx hb dL_doPair_26 (by decide) ?_
      refine W.widen (k := 3) (n := 18) (Nat.le_of_ble_eq_true rfl) (Nat.le_of_ble_eq_true rfl) ?_
      subst hXe
      exact W.iret (v := (2 : Int32)) hx hb hr (fun t ht hW9 => ⟨⟨(2 : Int32), (S, fo), rfl, t0, wx_end hP hKX hD ht hW9.alike⟩, hS.F ht⟩) hS.2.2 dL_doPair_27 hlocks
    · refine vx_catch (own := RL) (name := "java/lang/IndexOutOfBoundsException") hown [] ⟨0, 17, 20, 21⟩ [⟨0, 17, 24, 13⟩] (htab.trans rfl) (List.forall_mem_nil _) (by decide) (by decide) (hts (.classLink RL 21 "java/lang/IndexOutOfBoundsException") (by decide +kernel)) (va_Nw.use rfl (hTH.2.1 (.castable "java/lang/IndexOutOfBoundsException" "java/lang/IndexOutOfBoundsException") (by decide +kernel))) hq9 hce hcl ?_
      generalize H1 = H at hP hS ⊢
      refine lv_astore (lv' := [(4, .ref q9), (0, .ref o1), (1, .int x1), (2, .int x2), (3, .ref qo)]) hx hb dL_doPair_20 hl (by decide) rfl (fun ls hl => ?_)
      refine lv_iconst (v := 1) hx hb dL_doPair_22 (by decide) ?_
      refine W.widen (k := 3) (n := 18) (Nat.le_of_ble_eq_true rfl) (Nat.le_of_ble_eq_true rfl) ?_
      subst hXe
      exact W.iret (v := (1 : Int32)) hx hb hr (fun t ht hW9 => ⟨⟨(1 : Int32), (S, fo), rfl, t0, wx_end hP hKX hD ht hW9.alike⟩, hS.F ht⟩) hS.2.2 dL_doPair_23 hlocks
  · have c4 := hw
    obtain ⟨hP, hD⟩ := wd_post hFc ht hB
    generalize H1 = H at hP hS ⊢
    refine lv_if_eq (tgt := 15) hx hb dL_doPair_8 (by decide) (fun c5 => ?_) (fun c5 => ?_)
    · have c5i : r2.toInt = 0 := eq_v rfl rfl c5
      refine lv_lconst (v := 0) hx hb dL_doPair_15 (by decide) ?_
      subst hXe
      refine va_last hx hb hKX hP hD hS 0 8 rfl rfl (inb (m := 1) rfl (by decide) (by decide)) dL_doPair_16 (fun H locs hP2 hD2 hS => ?_)
      have hP : va_P D vwCl ((XO c8 c9 qo qd (vp_updL fo (0 : Int32).toNatClampNeg (0 : Int64)) fd) ++ PL cy S) H := hP2
      have hD : va_D A ((XO c8 c9 qo qd (vp_updL fo (0 : Int32).toNatClampNeg (0 : Int64)) fd) ++ PL cy S) := hD2
      clear hP2 hD2
      refine lv_goto (tgt := 28) hx hb dL_doPair_17 (by decide) ?_
      refine lv_iconst (v := 0) hx hb dL_doPair_28 (by decide) ?_
      refine W.widen (k := 3) (n := 18) (Nat.le_of_ble_eq_true rfl) (Nat.le_of_ble_eq_true rfl) ?_
      exact W.iret (v := (0 : Int32)) hx hb hr (fun t ht hW9 => ⟨⟨(0 : Int32), (S, (vp_updL fo (0 : Int32).toNatClampNeg (0 : Int64))), rfl, t0, wx_end hP hKX hD ht hW9.alike⟩, hS.F ht⟩) hS.2.2 dL_doPair_29 hlocks
    · have c5i : ¬ r2.toInt = 0 := neq_v rfl rfl c5
      refine lv_lconst (v := 1) hx hb dL_doPair_11 (by decide) ?_
      refine lv_goto (tgt := 16) hx hb dL_doPair_12 (by decide) ?_
      subst hXe
      refine va_last hx hb hKX hP hD hS 0 8 rfl rfl (inb (m := 1) rfl (by decide) (by decide)) dL_doPair_16 (fun H locs hP2 hD2 hS => ?_)
      have hP : va_P D vwCl ((XO c8 c9 qo qd (vp_updL fo (0 : Int32).toNatClampNeg (1 : Int64)) fd) ++ PL cy S) H := hP2
      have hD : va_D A ((XO c8 c9 qo qd (vp_updL fo (0 : Int32).toNatClampNeg (1 : Int64)) fd) ++ PL cy S) := hD2
      clear hP2 hD2
      refine lv_goto (tgt := 28) hx hb dL_doPair_17 (by decide) ?_
      refine lv_iconst (v := 0) hx hb dL_doPair_28 (by decide) ?_
      refine W.widen (k := 3) (n := 18) (Nat.le_of_ble_eq_true rfl) (Nat.le_of_ble_eq_true rfl) ?_
      exact W.iret (v := (0 : Int32)) hx hb hr (fun t ht hW9 => ⟨⟨(0 : Int32), (S, (vp_updL fo (0 : Int32).toNatClampNeg (1 : Int64))), rfl, t0, wx_end hP hKX hD ht hW9.alike⟩, hS.F ht⟩) hS.2.2 dL_doPair_29 hlocks
set_option maxHeartbeats 4000000 in
set_option maxRecDepth 100000 in
theorem c_L_contact (l : Launch) (hst : l.stackTraces = false) {e0 mi : Nat} {D : va_G} {cy : Nat → ClassId} {c8 c9 : ClassId} (qo qd : Nat) (fo : Nat → Int64) (fd : Nat → UInt64) (S : wPS) (sz : Nat) (o1 : Nat) (h_o1 : isA S o1 9) (x1 : Int32) (x2 : Int32) (hW : wtB S []) : Met l yL_contact wsL_contact ({ frames := 9, cells := 3, slots := 18, locals := 147 }) (va_Pc [.ref o1, .int x1, .int x2, .ref qo] (fun U => U.heap.size = sz ∧ WX D cy c8 c9 (XO c8 c9 qo qd fo fd) (fun _ => True) S U ∧ NW U ∧ TH (va_A (XO c8 c9 qo qd fo fd ++ PL cy S) sz) U ∧ OU e0 mi (va_A (XO c8 c9 qo qd fo fd ++ PL cy S) sz) U U.heap ∧ NC U)) (va_Qi (fun (r : Int32) (u : wPS × (Nat → Int64)) => stp ([] : List (Nat × Nat)) [] [] S u.1) (fun u t => WX D cy c8 c9 (XO c8 c9 qo qd u.2 fd) (va_A (XO c8 c9 qo qd fo fd ++ PL cy S) sz) u.1 t) (va_A (XO c8 c9 qo qd fo fd ++ PL cy S) sz)) 3 18 (va_A (XO c8 c9 qo qd fo fd ++ PL cy S) sz) := by
  refine Met.ofWH (cc := cL_contact) (maxL := 5) (ret := (some .int)) (by decide) rfl ?_
  intro p e s m args below meth c s₁ B hml hv
  obtain ⟨rfl, hsz, ⟨hP, hKX, hD0⟩, hN, hTH, hOU, hNC⟩ := hv
  have hx := B.exec
  have hb := B.bytes
  have hr := B.returns
  have hts := atoms_spec (ws := wsL_contact) B.pre
  have hown : s.vm.findClass RL = some m.cls := findClass_of_methodNamed (x := yL_contact) B.named
  have hlocks := B.notSynchronized
  have htab := vx_table (x := yL_contact) B (hts (.codeWith yL_contact cL_contact 5 (some .int) [(0, 9, 12, 21), (0, 9, 16, 23)]) List.mem_cons_self)
  have hK := kX hKX
  subst hsz
  have hD := hD0.self (sz := s.heap.size)
  generalize hAe : va_A (XO c8 c9 qo qd fo fd ++ PL cy S) s.heap.size = A at hD hTH hOU ⊢
  generalize hXe : XO c8 c9 qo qd fo fd = X at hP hD
  have hA : ∀ q : Nat, s.heap.size ≤ q → A q := fun q h => by rw [← hAe]; exact Or.inr h
  have hS : va_S A s.heap s.heap [] := va_S.rf
  have hl := lv_entry ([.ref o1, .int x1, .int x2, .ref qo]) (n := 5) (Nat.le_of_ble_eq_true rfl)
  rw [lg_entry_eq]
  generalize (lg_sl ([.ref o1, .int x1, .int x2, .ref qo]) ++ List.replicate (5 - (lg_sl ([.ref o1, .int x1, .int x2, .ref qo])).length) Slot.unset).toArray = ls at hl ⊢
  have hl : lv_has ls 5 [(0, .ref o1), (1, .int x1), (2, .int x2), (3, .ref qo)] := hl
  have t0 : stp ([] : List (Nat × Nat)) [] [] S S := stp.rf hW
  refine lv_aload_n hx hb dL_contact_0 rfl (lv_at hl 3 rfl) ?_
  refine lv_iconst (v := 0) hx hb dL_contact_1 (by decide) ?_
  refine lv_aload_n hx hb dL_contact_2 rfl (lv_at hl 0 rfl) ?_
  refine lv_iload_n hx hb dL_contact_3 rfl (lv_at hl 1 rfl) ?_
  refine lv_iload_n hx hb dL_contact_4 rfl (lv_at hl 2 rfl) ?_
  have hFc := free_all hD hS hA
  obtain ⟨k1, gk1, hk1⟩ := wGt (cy := cy) X S h_o1.1 h_o1.2.1
  refine vx_calll (vx_runV (As := [.int x1, .int x2]) (rest := [.int (0 : Int32), .ref qo]) ⟨hx, hb, hml, hown, hts⟩ (c_X9_contact l hst (cy := cy) (X := X) (D := D) S _ o1 h_o1 x1 x2 (hW)) (cwV 2 hts gL_contact_X9_contact rfl rfl rfl hd_X9_contact ⟨Nat.le_of_ble_eq_true rfl, Nat.le_of_ble_eq_true rfl⟩) (pVt (va_recv hK hP (q := (RX9, TX9, 11)) (ci := 13) (q0 := k1) rfl hk1) hP hK hD hN hTH hS hFc) rfl rfl hl.1 rfl (lv_room (Nat.le_of_ble_eq_true rfl)) dL_contact_5 ⟨Nat.le_of_ble_eq_true rfl, Nat.le_of_ble_eq_true rfl⟩) hS (fun q _ h => hFc q h) hFc (fun q _ h => hFc q h) (fun E ce q9 u t H1 locs ht hvm hw hB hz1 hk1 hS hq9 hce hcl => ?_) (fun r2 u t H1 locs ht hvm hw hB hz1 hk1 hS => ?_)
  · obtain ⟨c3, hEc3, hB2⟩ := hB
    obtain ⟨hP, hD⟩ := wd_post hFc ht hB2
    have hE9 := hEc3
    simp only [List.mem_cons, List.not_mem_nil, or_false] at hE9
    clear hEc3
    rcases hE9 with rfl | rfl
    · refine vx_catch (own := RL) (name := "java/lang/IndexOutOfBoundsException") hown [] ⟨0, 9, 12, 21⟩ [⟨0, 9, 16, 23⟩] (htab.trans rfl) (List.forall_mem_nil _) (by decide) (by decide) (hts (.classLink RL 21 "java/lang/IndexOutOfBoundsException") (by decide +kernel)) (va_Nw.use rfl (hTH.2.1 (.castable "java/lang/IndexOutOfBoundsException" "java/lang/IndexOutOfBoundsException") (by decide +kernel))) hq9 hce hcl ?_
      generalize H1 = H at hP hS ⊢
      refine lv_astore (lv' := [(4, .ref q9), (0, .ref o1), (1, .int x1), (2, .int x2), (3, .ref qo)]) hx hb dL_contact_12 hl (by decide) rfl (fun ls hl => ?_)
      refine lv_iconst (v := 1) hx hb dL_contact_14 (by decide) ?_
      refine W.widen (k := 3) (n := 18) (Nat.le_of_ble_eq_true rfl) (Nat.le_of_ble_eq_true rfl) ?_
      subst hXe
      exact W.iret (v := (1 : Int32)) hx hb hr (fun t ht hW9 => ⟨⟨(1 : Int32), (S, fo), rfl, t0, wx_end hP hKX hD ht hW9.alike⟩, hS.F ht⟩) hS.2.2 dL_contact_15 hlocks
    · refine vx_catch (own := RL) (name := "java/lang/UnsupportedOperationException") hown [⟨0, 9, 12, 21⟩] ⟨0, 9, 16, 23⟩ [] (htab.trans rfl) (List.forall_mem_cons.mpr ⟨Or.inr ⟨by decide, "java/lang/IndexOutOfBoundsException", hts (.classLink RL 21 "java/lang/IndexOutOfBoundsException") (by decide +kernel), hNC ("java/lang/UnsupportedOperationException", "java/lang/IndexOutOfBoundsException") (by decide +kernel)⟩, (List.forall_mem_nil _)⟩) (by decide) (by decide) (hts (.classLink RL 23 "java/lang/UnsupportedOperationException") (by decide +kernel)) (va_Nw.use rfl (hTH.2.1 (.castable "java/lang/UnsupportedOperationException" "java/lang/UnsupportedOperationException") (by decide +kernel))) hq9 hce hcl ?_
      generalize H1 = H at hP hS ⊢
      refine lv_astore (lv' := [(4, .ref q9), (0, .ref o1), (1, .int x1), (2, .int x2), (3, .ref qo)]) hx hb dL_contact_16 hl (by decide) rfl (fun ls hl => ?_)
      refine lv_iconst (v := 2) hx hb dL_contact_18 (by decide) ?_
      refine W.widen (k := 3) (n := 18) (Nat.le_of_ble_eq_true rfl) (Nat.le_of_ble_eq_true rfl) ?_
      subst hXe
      exact W.iret (v := (2 : Int32)) hx hb hr (fun t ht hW9 => ⟨⟨(2 : Int32), (S, fo), rfl, t0, wx_end hP hKX hD ht hW9.alike⟩, hS.F ht⟩) hS.2.2 dL_contact_19 hlocks
  · have c4 := hw
    obtain ⟨hP, hD⟩ := wd_post hFc ht hB
    generalize H1 = H at hP hS ⊢
    subst hXe
    refine va_last hx hb hKX hP hD hS 0 8 rfl rfl (inb (m := 1) rfl (by decide) (by decide)) dL_contact_8 (fun H locs hP2 hD2 hS => ?_)
    have hP : va_P D vwCl ((XO c8 c9 qo qd (vp_updL fo (0 : Int32).toNatClampNeg r2) fd) ++ PL cy S) H := hP2
    have hD : va_D A ((XO c8 c9 qo qd (vp_updL fo (0 : Int32).toNatClampNeg r2) fd) ++ PL cy S) := hD2
    clear hP2 hD2
    refine lv_goto (tgt := 20) hx hb dL_contact_9 (by decide) ?_
    refine lv_iconst (v := 0) hx hb dL_contact_20 (by decide) ?_
    refine W.widen (k := 3) (n := 18) (Nat.le_of_ble_eq_true rfl) (Nat.le_of_ble_eq_true rfl) ?_
    exact W.iret (v := (0 : Int32)) hx hb hr (fun t ht hW9 => ⟨⟨(0 : Int32), (S, (vp_updL fo (0 : Int32).toNatClampNeg r2)), rfl, t0, wx_end hP hKX hD ht hW9.alike⟩, hS.F ht⟩) hS.2.2 dL_contact_21 hlocks
set_option maxHeartbeats 4000000 in
set_option maxRecDepth 100000 in
theorem c_L_overlap (l : Launch) (hst : l.stackTraces = false) {e0 mi : Nat} {D : va_G} {cy : Nat → ClassId} {c8 c9 : ClassId} (qo qd : Nat) (fo : Nat → Int64) (fd : Nat → UInt64) (S : wPS) (sz : Nat) (o1 : Nat) (h_o1 : isA S o1 9) (x1 : Int32) (x2 : Int32) (hW : wtB S []) : Met l yL_overlap wsL_overlap ({ frames := 9, cells := 3, slots := 18, locals := 147 }) (va_Pc [.ref o1, .int x1, .int x2, .ref qo] (fun U => U.heap.size = sz ∧ WX D cy c8 c9 (XO c8 c9 qo qd fo fd) (fun _ => True) S U ∧ NW U ∧ TH (va_A (XO c8 c9 qo qd fo fd ++ PL cy S) sz) U ∧ OU e0 mi (va_A (XO c8 c9 qo qd fo fd ++ PL cy S) sz) U U.heap ∧ NC U)) (va_Qi (fun (r : Int32) (u : wPS × (Nat → Int64)) => stp ([] : List (Nat × Nat)) [] [] S u.1) (fun u t => WX D cy c8 c9 (XO c8 c9 qo qd u.2 fd) (va_A (XO c8 c9 qo qd fo fd ++ PL cy S) sz) u.1 t) (va_A (XO c8 c9 qo qd fo fd ++ PL cy S) sz)) 3 18 (va_A (XO c8 c9 qo qd fo fd ++ PL cy S) sz) := by
  refine Met.ofWH (cc := cL_overlap) (maxL := 5) (ret := (some .int)) (by decide) rfl ?_
  intro p e s m args below meth c s₁ B hml hv
  obtain ⟨rfl, hsz, ⟨hP, hKX, hD0⟩, hN, hTH, hOU, hNC⟩ := hv
  have hx := B.exec
  have hb := B.bytes
  have hr := B.returns
  have hts := atoms_spec (ws := wsL_overlap) B.pre
  have hown : s.vm.findClass RL = some m.cls := findClass_of_methodNamed (x := yL_overlap) B.named
  have hlocks := B.notSynchronized
  have htab := vx_table (x := yL_overlap) B (hts (.codeWith yL_overlap cL_overlap 5 (some .int) [(0, 9, 12, 21), (0, 9, 16, 23)]) List.mem_cons_self)
  have hK := kX hKX
  subst hsz
  have hD := hD0.self (sz := s.heap.size)
  generalize hAe : va_A (XO c8 c9 qo qd fo fd ++ PL cy S) s.heap.size = A at hD hTH hOU ⊢
  generalize hXe : XO c8 c9 qo qd fo fd = X at hP hD
  have hA : ∀ q : Nat, s.heap.size ≤ q → A q := fun q h => by rw [← hAe]; exact Or.inr h
  have hS : va_S A s.heap s.heap [] := va_S.rf
  have hl := lv_entry ([.ref o1, .int x1, .int x2, .ref qo]) (n := 5) (Nat.le_of_ble_eq_true rfl)
  rw [lg_entry_eq]
  generalize (lg_sl ([.ref o1, .int x1, .int x2, .ref qo]) ++ List.replicate (5 - (lg_sl ([.ref o1, .int x1, .int x2, .ref qo])).length) Slot.unset).toArray = ls at hl ⊢
  have hl : lv_has ls 5 [(0, .ref o1), (1, .int x1), (2, .int x2), (3, .ref qo)] := hl
  have t0 : stp ([] : List (Nat × Nat)) [] [] S S := stp.rf hW
  refine lv_aload_n hx hb dL_overlap_0 rfl (lv_at hl 3 rfl) ?_
  refine lv_iconst (v := 0) hx hb dL_overlap_1 (by decide) ?_
  refine lv_aload_n hx hb dL_overlap_2 rfl (lv_at hl 0 rfl) ?_
  refine lv_iload_n hx hb dL_overlap_3 rfl (lv_at hl 1 rfl) ?_
  refine lv_iload_n hx hb dL_overlap_4 rfl (lv_at hl 2 rfl) ?_
  have hFc := free_all hD hS hA
  obtain ⟨k1, gk1, hk1⟩ := wGt (cy := cy) X S h_o1.1 h_o1.2.1
  refine vx_calll (vx_runV (As := [.int x1, .int x2]) (rest := [.int (0 : Int32), .ref qo]) ⟨hx, hb, hml, hown, hts⟩ (c_X9_overlap l hst (cy := cy) (X := X) (D := D) S _ o1 h_o1 x1 x2 (hW)) (cwV 2 hts gL_overlap_X9_overlap rfl rfl rfl hd_X9_overlap ⟨Nat.le_of_ble_eq_true rfl, Nat.le_of_ble_eq_true rfl⟩) (pVt (va_recv hK hP (q := (RX9, TX9, 11)) (ci := 13) (q0 := k1) rfl hk1) hP hK hD hN hTH hS hFc) rfl rfl hl.1 rfl (lv_room (Nat.le_of_ble_eq_true rfl)) dL_overlap_5 ⟨Nat.le_of_ble_eq_true rfl, Nat.le_of_ble_eq_true rfl⟩) hS (fun q _ h => hFc q h) hFc (fun q _ h => hFc q h) (fun E ce q9 u t H1 locs ht hvm hw hB hz1 hk1 hS hq9 hce hcl => ?_) (fun r2 u t H1 locs ht hvm hw hB hz1 hk1 hS => ?_)
  · obtain ⟨c3, hEc3, hB2⟩ := hB
    obtain ⟨hP, hD⟩ := wd_post hFc ht hB2
    have hE9 := hEc3
    simp only [List.mem_cons, List.not_mem_nil, or_false] at hE9
    clear hEc3
    rcases hE9 with rfl | rfl
    · refine vx_catch (own := RL) (name := "java/lang/IndexOutOfBoundsException") hown [] ⟨0, 9, 12, 21⟩ [⟨0, 9, 16, 23⟩] (htab.trans rfl) (List.forall_mem_nil _) (by decide) (by decide) (hts (.classLink RL 21 "java/lang/IndexOutOfBoundsException") (by decide +kernel)) (va_Nw.use rfl (hTH.2.1 (.castable "java/lang/IndexOutOfBoundsException" "java/lang/IndexOutOfBoundsException") (by decide +kernel))) hq9 hce hcl ?_
      generalize H1 = H at hP hS ⊢
      refine lv_astore (lv' := [(4, .ref q9), (0, .ref o1), (1, .int x1), (2, .int x2), (3, .ref qo)]) hx hb dL_overlap_12 hl (by decide) rfl (fun ls hl => ?_)
      refine lv_iconst (v := 1) hx hb dL_overlap_14 (by decide) ?_
      refine W.widen (k := 3) (n := 18) (Nat.le_of_ble_eq_true rfl) (Nat.le_of_ble_eq_true rfl) ?_
      subst hXe
      exact W.iret (v := (1 : Int32)) hx hb hr (fun t ht hW9 => ⟨⟨(1 : Int32), (S, fo), rfl, t0, wx_end hP hKX hD ht hW9.alike⟩, hS.F ht⟩) hS.2.2 dL_overlap_15 hlocks
    · refine vx_catch (own := RL) (name := "java/lang/UnsupportedOperationException") hown [⟨0, 9, 12, 21⟩] ⟨0, 9, 16, 23⟩ [] (htab.trans rfl) (List.forall_mem_cons.mpr ⟨Or.inr ⟨by decide, "java/lang/IndexOutOfBoundsException", hts (.classLink RL 21 "java/lang/IndexOutOfBoundsException") (by decide +kernel), hNC ("java/lang/UnsupportedOperationException", "java/lang/IndexOutOfBoundsException") (by decide +kernel)⟩, (List.forall_mem_nil _)⟩) (by decide) (by decide) (hts (.classLink RL 23 "java/lang/UnsupportedOperationException") (by decide +kernel)) (va_Nw.use rfl (hTH.2.1 (.castable "java/lang/UnsupportedOperationException" "java/lang/UnsupportedOperationException") (by decide +kernel))) hq9 hce hcl ?_
      generalize H1 = H at hP hS ⊢
      refine lv_astore (lv' := [(4, .ref q9), (0, .ref o1), (1, .int x1), (2, .int x2), (3, .ref qo)]) hx hb dL_overlap_16 hl (by decide) rfl (fun ls hl => ?_)
      refine lv_iconst (v := 2) hx hb dL_overlap_18 (by decide) ?_
      refine W.widen (k := 3) (n := 18) (Nat.le_of_ble_eq_true rfl) (Nat.le_of_ble_eq_true rfl) ?_
      subst hXe
      exact W.iret (v := (2 : Int32)) hx hb hr (fun t ht hW9 => ⟨⟨(2 : Int32), (S, fo), rfl, t0, wx_end hP hKX hD ht hW9.alike⟩, hS.F ht⟩) hS.2.2 dL_overlap_19 hlocks
  · have c4 := hw
    obtain ⟨hP, hD⟩ := wd_post hFc ht hB
    generalize H1 = H at hP hS ⊢
    subst hXe
    refine va_last hx hb hKX hP hD hS 0 8 rfl rfl (inb (m := 1) rfl (by decide) (by decide)) dL_overlap_8 (fun H locs hP2 hD2 hS => ?_)
    have hP : va_P D vwCl ((XO c8 c9 qo qd (vp_updL fo (0 : Int32).toNatClampNeg r2) fd) ++ PL cy S) H := hP2
    have hD : va_D A ((XO c8 c9 qo qd (vp_updL fo (0 : Int32).toNatClampNeg r2) fd) ++ PL cy S) := hD2
    clear hP2 hD2
    refine lv_goto (tgt := 20) hx hb dL_overlap_9 (by decide) ?_
    refine lv_iconst (v := 0) hx hb dL_overlap_20 (by decide) ?_
    refine W.widen (k := 3) (n := 18) (Nat.le_of_ble_eq_true rfl) (Nat.le_of_ble_eq_true rfl) ?_
    exact W.iret (v := (0 : Int32)) hx hb hr (fun t ht hW9 => ⟨⟨(0 : Int32), (S, (vp_updL fo (0 : Int32).toNatClampNeg r2)), rfl, t0, wx_end hP hKX hD ht hW9.alike⟩, hS.F ht⟩) hS.2.2 dL_overlap_21 hlocks
set_option maxHeartbeats 4000000 in
set_option maxRecDepth 100000 in
theorem c_L_runsWell (l : Launch) (hst : l.stackTraces = false) {e0 mi : Nat} {D : va_G} {cy : Nat → ClassId} {c8 c9 : ClassId} (qo qd : Nat) (fo : Nat → Int64) (fd : Nat → UInt64) (S : wPS) (sz : Nat) (o1 : Nat) (h_o1 : isA S o1 9) (x1 : Int32) (x2 : Int32) (hW : wtB S []) : Met l yL_runsWell wsL_runsWell ({ frames := 9, cells := 3, slots := 18, locals := 147 }) (va_Pc [.ref o1, .int x1, .int x2, .ref qo] (fun U => U.heap.size = sz ∧ WX D cy c8 c9 (XO c8 c9 qo qd fo fd) (fun _ => True) S U ∧ NW U ∧ TH (va_A (XO c8 c9 qo qd fo fd ++ PL cy S) sz) U ∧ OU e0 mi (va_A (XO c8 c9 qo qd fo fd ++ PL cy S) sz) U U.heap ∧ NC U)) (va_Qi (fun (r : Int32) (u : wPS × (Nat → Int64)) => stp ([] : List (Nat × Nat)) [] [] S u.1) (fun u t => WX D cy c8 c9 (XO c8 c9 qo qd u.2 fd) (va_A (XO c8 c9 qo qd fo fd ++ PL cy S) sz) u.1 t) (va_A (XO c8 c9 qo qd fo fd ++ PL cy S) sz)) 3 18 (va_A (XO c8 c9 qo qd fo fd ++ PL cy S) sz) := by
  refine Met.ofWH (cc := cL_runsWell) (maxL := 5) (ret := (some .int)) (by decide) rfl ?_
  intro p e s m args below meth c s₁ B hml hv
  obtain ⟨rfl, hsz, ⟨hP, hKX, hD0⟩, hN, hTH, hOU, hNC⟩ := hv
  have hx := B.exec
  have hb := B.bytes
  have hr := B.returns
  have hts := atoms_spec (ws := wsL_runsWell) B.pre
  have hown : s.vm.findClass RL = some m.cls := findClass_of_methodNamed (x := yL_runsWell) B.named
  have hlocks := B.notSynchronized
  have htab := vx_table (x := yL_runsWell) B (hts (.codeWith yL_runsWell cL_runsWell 5 (some .int) [(0, 17, 20, 21), (0, 17, 24, 23)]) List.mem_cons_self)
  have hK := kX hKX
  subst hsz
  have hD := hD0.self (sz := s.heap.size)
  generalize hAe : va_A (XO c8 c9 qo qd fo fd ++ PL cy S) s.heap.size = A at hD hTH hOU ⊢
  generalize hXe : XO c8 c9 qo qd fo fd = X at hP hD
  have hA : ∀ q : Nat, s.heap.size ≤ q → A q := fun q h => by rw [← hAe]; exact Or.inr h
  have hS : va_S A s.heap s.heap [] := va_S.rf
  have hl := lv_entry ([.ref o1, .int x1, .int x2, .ref qo]) (n := 5) (Nat.le_of_ble_eq_true rfl)
  rw [lg_entry_eq]
  generalize (lg_sl ([.ref o1, .int x1, .int x2, .ref qo]) ++ List.replicate (5 - (lg_sl ([.ref o1, .int x1, .int x2, .ref qo])).length) Slot.unset).toArray = ls at hl ⊢
  have hl : lv_has ls 5 [(0, .ref o1), (1, .int x1), (2, .int x2), (3, .ref qo)] := hl
  have t0 : stp ([] : List (Nat × Nat)) [] [] S S := stp.rf hW
  refine lv_aload_n hx hb dL_runsWell_0 rfl (lv_at hl 3 rfl) ?_
  refine lv_iconst (v := 0) hx hb dL_runsWell_1 (by decide) ?_
  refine lv_aload_n hx hb dL_runsWell_2 rfl (lv_at hl 0 rfl) ?_
  refine lv_iload_n hx hb dL_runsWell_3 rfl (lv_at hl 1 rfl) ?_
  refine lv_iload_n hx hb dL_runsWell_4 rfl (lv_at hl 2 rfl) ?_
  have hFc := free_all hD hS hA
  obtain ⟨k1, gk1, hk1⟩ := wGt (cy := cy) X S h_o1.1 h_o1.2.1
  refine vx_calli (vx_runV (As := [.int x1, .int x2]) (rest := [.int (0 : Int32), .ref qo]) ⟨hx, hb, hml, hown, hts⟩ (c_X9_runsWell l hst (cy := cy) (X := X) (D := D) S _ o1 h_o1 x1 x2 (hW)) (cwV 2 hts gL_runsWell_X9_runsWell rfl rfl rfl hd_X9_runsWell ⟨Nat.le_of_ble_eq_true rfl, Nat.le_of_ble_eq_true rfl⟩) (pVt (va_recv hK hP (q := (RX9, TX9, 11)) (ci := 13) (q0 := k1) rfl hk1) hP hK hD hN hTH hS hFc) rfl rfl hl.1 rfl (lv_room (Nat.le_of_ble_eq_true rfl)) dL_runsWell_5 ⟨Nat.le_of_ble_eq_true rfl, Nat.le_of_ble_eq_true rfl⟩) hS (fun q _ h => hFc q h) hFc (fun q _ h => hFc q h) (fun E ce q9 u t H1 locs ht hvm hw hB hz1 hk1 hS hq9 hce hcl => ?_) (fun r2 u t H1 locs ht hvm hw hB hz1 hk1 hS => ?_)
  · obtain ⟨c3, hEc3, hB2⟩ := hB
    obtain ⟨hP, hD⟩ := wd_post hFc ht hB2
    have hE9 := hEc3
    simp only [List.mem_cons, List.not_mem_nil, or_false] at hE9
    clear hEc3
    rcases hE9 with rfl | rfl
    · refine vx_catch (own := RL) (name := "java/lang/IndexOutOfBoundsException") hown [] ⟨0, 17, 20, 21⟩ [⟨0, 17, 24, 23⟩] (htab.trans rfl) (List.forall_mem_nil _) (by decide) (by decide) (hts (.classLink RL 21 "java/lang/IndexOutOfBoundsException") (by decide +kernel)) (va_Nw.use rfl (hTH.2.1 (.castable "java/lang/IndexOutOfBoundsException" "java/lang/IndexOutOfBoundsException") (by decide +kernel))) hq9 hce hcl ?_
      generalize H1 = H at hP hS ⊢
      refine lv_astore (lv' := [(4, .ref q9), (0, .ref o1), (1, .int x1), (2, .int x2), (3, .ref qo)]) hx hb dL_runsWell_20 hl (by decide) rfl (fun ls hl => ?_)
      refine lv_iconst (v := 1) hx hb dL_runsWell_22 (by decide) ?_
      refine W.widen (k := 3) (n := 18) (Nat.le_of_ble_eq_true rfl) (Nat.le_of_ble_eq_true rfl) ?_
      subst hXe
      exact W.iret (v := (1 : Int32)) hx hb hr (fun t ht hW9 => ⟨⟨(1 : Int32), (S, fo), rfl, t0, wx_end hP hKX hD ht hW9.alike⟩, hS.F ht⟩) hS.2.2 dL_runsWell_23 hlocks
    · refine vx_catch (own := RL) (name := "java/lang/UnsupportedOperationException") hown [⟨0, 17, 20, 21⟩] ⟨0, 17, 24, 23⟩ [] (htab.trans rfl) (List.forall_mem_cons.mpr ⟨Or.inr ⟨by decide, "java/lang/IndexOutOfBoundsException", hts (.classLink RL 21 "java/lang/IndexOutOfBoundsException") (by decide +kernel), hNC ("java/lang/UnsupportedOperationException", "java/lang/IndexOutOfBoundsException") (by decide +kernel)⟩, (List.forall_mem_nil _)⟩) (by decide) (by decide) (hts (.classLink RL 23 "java/lang/UnsupportedOperationException") (by decide +kernel)) (va_Nw.use rfl (hTH.2.1 (.castable "java/lang/UnsupportedOperationException" "java/lang/UnsupportedOperationException") (by decide +kernel))) hq9 hce hcl ?_
      generalize H1 = H at hP hS ⊢
      refine lv_astore (lv' := [(4, .ref q9), (0, .ref o1), (1, .int x1), (2, .int x2), (3, .ref qo)]) hx hb dL_runsWell_24 hl (by decide) rfl (fun ls hl => ?_)
      refine lv_iconst (v := 2) hx hb dL_runsWell_26 (by decide) ?_
      refine W.widen (k := 3) (n := 18) (Nat.le_of_ble_eq_true rfl) (Nat.le_of_ble_eq_true rfl) ?_
      subst hXe
      exact W.iret (v := (2 : Int32)) hx hb hr (fun t ht hW9 => ⟨⟨(2 : Int32), (S, fo), rfl, t0, wx_end hP hKX hD ht hW9.alike⟩, hS.F ht⟩) hS.2.2 dL_runsWell_27 hlocks
  · have c4 := hw
    obtain ⟨hP, hD⟩ := wd_post hFc ht hB
    generalize H1 = H at hP hS ⊢
    refine lv_if_eq (tgt := 15) hx hb dL_runsWell_8 (by decide) (fun c5 => ?_) (fun c5 => ?_)
    · have c5i : r2.toInt = 0 := eq_v rfl rfl c5
      refine lv_lconst (v := 0) hx hb dL_runsWell_15 (by decide) ?_
      subst hXe
      refine va_last hx hb hKX hP hD hS 0 8 rfl rfl (inb (m := 1) rfl (by decide) (by decide)) dL_runsWell_16 (fun H locs hP2 hD2 hS => ?_)
      have hP : va_P D vwCl ((XO c8 c9 qo qd (vp_updL fo (0 : Int32).toNatClampNeg (0 : Int64)) fd) ++ PL cy S) H := hP2
      have hD : va_D A ((XO c8 c9 qo qd (vp_updL fo (0 : Int32).toNatClampNeg (0 : Int64)) fd) ++ PL cy S) := hD2
      clear hP2 hD2
      refine lv_goto (tgt := 28) hx hb dL_runsWell_17 (by decide) ?_
      refine lv_iconst (v := 0) hx hb dL_runsWell_28 (by decide) ?_
      refine W.widen (k := 3) (n := 18) (Nat.le_of_ble_eq_true rfl) (Nat.le_of_ble_eq_true rfl) ?_
      exact W.iret (v := (0 : Int32)) hx hb hr (fun t ht hW9 => ⟨⟨(0 : Int32), (S, (vp_updL fo (0 : Int32).toNatClampNeg (0 : Int64))), rfl, t0, wx_end hP hKX hD ht hW9.alike⟩, hS.F ht⟩) hS.2.2 dL_runsWell_29 hlocks
    · have c5i : ¬ r2.toInt = 0 := neq_v rfl rfl c5
      refine lv_lconst (v := 1) hx hb dL_runsWell_11 (by decide) ?_
      refine lv_goto (tgt := 16) hx hb dL_runsWell_12 (by decide) ?_
      subst hXe
      refine va_last hx hb hKX hP hD hS 0 8 rfl rfl (inb (m := 1) rfl (by decide) (by decide)) dL_runsWell_16 (fun H locs hP2 hD2 hS => ?_)
      have hP : va_P D vwCl ((XO c8 c9 qo qd (vp_updL fo (0 : Int32).toNatClampNeg (1 : Int64)) fd) ++ PL cy S) H := hP2
      have hD : va_D A ((XO c8 c9 qo qd (vp_updL fo (0 : Int32).toNatClampNeg (1 : Int64)) fd) ++ PL cy S) := hD2
      clear hP2 hD2
      refine lv_goto (tgt := 28) hx hb dL_runsWell_17 (by decide) ?_
      refine lv_iconst (v := 0) hx hb dL_runsWell_28 (by decide) ?_
      refine W.widen (k := 3) (n := 18) (Nat.le_of_ble_eq_true rfl) (Nat.le_of_ble_eq_true rfl) ?_
      exact W.iret (v := (0 : Int32)) hx hb hr (fun t ht hW9 => ⟨⟨(0 : Int32), (S, (vp_updL fo (0 : Int32).toNatClampNeg (1 : Int64))), rfl, t0, wx_end hP hKX hD ht hW9.alike⟩, hS.F ht⟩) hS.2.2 dL_runsWell_29 hlocks
set_option maxHeartbeats 4000000 in
set_option maxRecDepth 100000 in
theorem c_L_slide (l : Launch) (hst : l.stackTraces = false) {e0 mi : Nat} {D : va_G} {cy : Nat → ClassId} {c8 c9 : ClassId} (qo qd : Nat) (fo : Nat → Int64) (fd : Nat → UInt64) (S : wPS) (sz : Nat) (o1 : Nat) (h_o1 : isA S o1 9) (x1 : Int32) (x2 : Int32) (hW : wtB S []) : Met l yL_slide wsL_slide ({ frames := 9, cells := 3, slots := 18, locals := 147 }) (va_Pc [.ref o1, .int x1, .int x2, .ref qo] (fun U => U.heap.size = sz ∧ WX D cy c8 c9 (XO c8 c9 qo qd fo fd) (fun _ => True) S U ∧ NW U ∧ TH (va_A (XO c8 c9 qo qd fo fd ++ PL cy S) sz) U ∧ OU e0 mi (va_A (XO c8 c9 qo qd fo fd ++ PL cy S) sz) U U.heap ∧ NC U)) (va_Qi (fun (r : Int32) (u : wPS × (Nat → Int64)) => stp ([] : List (Nat × Nat)) [] [] S u.1) (fun u t => WX D cy c8 c9 (XO c8 c9 qo qd u.2 fd) (va_A (XO c8 c9 qo qd fo fd ++ PL cy S) sz) u.1 t) (va_A (XO c8 c9 qo qd fo fd ++ PL cy S) sz)) 3 18 (va_A (XO c8 c9 qo qd fo fd ++ PL cy S) sz) := by
  refine Met.ofWH (cc := cL_slide) (maxL := 5) (ret := (some .int)) (by decide) rfl ?_
  intro p e s m args below meth c s₁ B hml hv
  obtain ⟨rfl, hsz, ⟨hP, hKX, hD0⟩, hN, hTH, hOU, hNC⟩ := hv
  have hx := B.exec
  have hb := B.bytes
  have hr := B.returns
  have hts := atoms_spec (ws := wsL_slide) B.pre
  have hown : s.vm.findClass RL = some m.cls := findClass_of_methodNamed (x := yL_slide) B.named
  have hlocks := B.notSynchronized
  have htab := vx_table (x := yL_slide) B (hts (.codeWith yL_slide cL_slide 5 (some .int) [(0, 9, 12, 21), (0, 9, 16, 23)]) List.mem_cons_self)
  have hK := kX hKX
  subst hsz
  have hD := hD0.self (sz := s.heap.size)
  generalize hAe : va_A (XO c8 c9 qo qd fo fd ++ PL cy S) s.heap.size = A at hD hTH hOU ⊢
  generalize hXe : XO c8 c9 qo qd fo fd = X at hP hD
  have hA : ∀ q : Nat, s.heap.size ≤ q → A q := fun q h => by rw [← hAe]; exact Or.inr h
  have hS : va_S A s.heap s.heap [] := va_S.rf
  have hl := lv_entry ([.ref o1, .int x1, .int x2, .ref qo]) (n := 5) (Nat.le_of_ble_eq_true rfl)
  rw [lg_entry_eq]
  generalize (lg_sl ([.ref o1, .int x1, .int x2, .ref qo]) ++ List.replicate (5 - (lg_sl ([.ref o1, .int x1, .int x2, .ref qo])).length) Slot.unset).toArray = ls at hl ⊢
  have hl : lv_has ls 5 [(0, .ref o1), (1, .int x1), (2, .int x2), (3, .ref qo)] := hl
  have t0 : stp ([] : List (Nat × Nat)) [] [] S S := stp.rf hW
  refine lv_aload_n hx hb dL_slide_0 rfl (lv_at hl 3 rfl) ?_
  refine lv_iconst (v := 0) hx hb dL_slide_1 (by decide) ?_
  refine lv_aload_n hx hb dL_slide_2 rfl (lv_at hl 0 rfl) ?_
  refine lv_iload_n hx hb dL_slide_3 rfl (lv_at hl 1 rfl) ?_
  refine lv_iload_n hx hb dL_slide_4 rfl (lv_at hl 2 rfl) ?_
  have hFc := free_all hD hS hA
  obtain ⟨k1, gk1, hk1⟩ := wGt (cy := cy) X S h_o1.1 h_o1.2.1
  refine vx_calll (vx_runV (As := [.int x1, .int x2]) (rest := [.int (0 : Int32), .ref qo]) ⟨hx, hb, hml, hown, hts⟩ (c_X9_slide l hst (cy := cy) (X := X) (D := D) S _ o1 h_o1 x1 x2 (hW)) (cwV 2 hts gL_slide_X9_slide rfl rfl rfl hd_X9_slide ⟨Nat.le_of_ble_eq_true rfl, Nat.le_of_ble_eq_true rfl⟩) (pVt (va_recv hK hP (q := (RX9, TX9, 11)) (ci := 13) (q0 := k1) rfl hk1) hP hK hD hN hTH hS hFc) rfl rfl hl.1 rfl (lv_room (Nat.le_of_ble_eq_true rfl)) dL_slide_5 ⟨Nat.le_of_ble_eq_true rfl, Nat.le_of_ble_eq_true rfl⟩) hS (fun q _ h => hFc q h) hFc (fun q _ h => hFc q h) (fun E ce q9 u t H1 locs ht hvm hw hB hz1 hk1 hS hq9 hce hcl => ?_) (fun r2 u t H1 locs ht hvm hw hB hz1 hk1 hS => ?_)
  · obtain ⟨c3, hEc3, hB2⟩ := hB
    obtain ⟨hP, hD⟩ := wd_post hFc ht hB2
    have hE9 := hEc3
    simp only [List.mem_cons, List.not_mem_nil, or_false] at hE9
    clear hEc3
    rcases hE9 with rfl | rfl
    · refine vx_catch (own := RL) (name := "java/lang/IndexOutOfBoundsException") hown [] ⟨0, 9, 12, 21⟩ [⟨0, 9, 16, 23⟩] (htab.trans rfl) (List.forall_mem_nil _) (by decide) (by decide) (hts (.classLink RL 21 "java/lang/IndexOutOfBoundsException") (by decide +kernel)) (va_Nw.use rfl (hTH.2.1 (.castable "java/lang/IndexOutOfBoundsException" "java/lang/IndexOutOfBoundsException") (by decide +kernel))) hq9 hce hcl ?_
      generalize H1 = H at hP hS ⊢
      refine lv_astore (lv' := [(4, .ref q9), (0, .ref o1), (1, .int x1), (2, .int x2), (3, .ref qo)]) hx hb dL_slide_12 hl (by decide) rfl (fun ls hl => ?_)
      refine lv_iconst (v := 1) hx hb dL_slide_14 (by decide) ?_
      refine W.widen (k := 3) (n := 18) (Nat.le_of_ble_eq_true rfl) (Nat.le_of_ble_eq_true rfl) ?_
      subst hXe
      exact W.iret (v := (1 : Int32)) hx hb hr (fun t ht hW9 => ⟨⟨(1 : Int32), (S, fo), rfl, t0, wx_end hP hKX hD ht hW9.alike⟩, hS.F ht⟩) hS.2.2 dL_slide_15 hlocks
    · refine vx_catch (own := RL) (name := "java/lang/UnsupportedOperationException") hown [⟨0, 9, 12, 21⟩] ⟨0, 9, 16, 23⟩ [] (htab.trans rfl) (List.forall_mem_cons.mpr ⟨Or.inr ⟨by decide, "java/lang/IndexOutOfBoundsException", hts (.classLink RL 21 "java/lang/IndexOutOfBoundsException") (by decide +kernel), hNC ("java/lang/UnsupportedOperationException", "java/lang/IndexOutOfBoundsException") (by decide +kernel)⟩, (List.forall_mem_nil _)⟩) (by decide) (by decide) (hts (.classLink RL 23 "java/lang/UnsupportedOperationException") (by decide +kernel)) (va_Nw.use rfl (hTH.2.1 (.castable "java/lang/UnsupportedOperationException" "java/lang/UnsupportedOperationException") (by decide +kernel))) hq9 hce hcl ?_
      generalize H1 = H at hP hS ⊢
      refine lv_astore (lv' := [(4, .ref q9), (0, .ref o1), (1, .int x1), (2, .int x2), (3, .ref qo)]) hx hb dL_slide_16 hl (by decide) rfl (fun ls hl => ?_)
      refine lv_iconst (v := 2) hx hb dL_slide_18 (by decide) ?_
      refine W.widen (k := 3) (n := 18) (Nat.le_of_ble_eq_true rfl) (Nat.le_of_ble_eq_true rfl) ?_
      subst hXe
      exact W.iret (v := (2 : Int32)) hx hb hr (fun t ht hW9 => ⟨⟨(2 : Int32), (S, fo), rfl, t0, wx_end hP hKX hD ht hW9.alike⟩, hS.F ht⟩) hS.2.2 dL_slide_19 hlocks
  · have c4 := hw
    obtain ⟨hP, hD⟩ := wd_post hFc ht hB
    generalize H1 = H at hP hS ⊢
    subst hXe
    refine va_last hx hb hKX hP hD hS 0 8 rfl rfl (inb (m := 1) rfl (by decide) (by decide)) dL_slide_8 (fun H locs hP2 hD2 hS => ?_)
    have hP : va_P D vwCl ((XO c8 c9 qo qd (vp_updL fo (0 : Int32).toNatClampNeg r2) fd) ++ PL cy S) H := hP2
    have hD : va_D A ((XO c8 c9 qo qd (vp_updL fo (0 : Int32).toNatClampNeg r2) fd) ++ PL cy S) := hD2
    clear hP2 hD2
    refine lv_goto (tgt := 20) hx hb dL_slide_9 (by decide) ?_
    refine lv_iconst (v := 0) hx hb dL_slide_20 (by decide) ?_
    refine W.widen (k := 3) (n := 18) (Nat.le_of_ble_eq_true rfl) (Nat.le_of_ble_eq_true rfl) ?_
    exact W.iret (v := (0 : Int32)) hx hb hr (fun t ht hW9 => ⟨⟨(0 : Int32), (S, (vp_updL fo (0 : Int32).toNatClampNeg r2)), rfl, t0, wx_end hP hKX hD ht hW9.alike⟩, hS.F ht⟩) hS.2.2 dL_slide_21 hlocks
set_option maxHeartbeats 4000000 in
set_option maxRecDepth 100000 in
theorem c_L_balance (l : Launch) (hst : l.stackTraces = false) {e0 mi : Nat} {D : va_G} {cy : Nat → ClassId} {c8 c9 : ClassId} (qo qd : Nat) (fo : Nat → Int64) (fd : Nat → UInt64) (S : wPS) (sz : Nat) (o1 : Nat) (h_o1 : isA S o1 9) (x1 : Int32) (x2 : Int32) (hW : wtB S []) : Met l yL_balance wsL_balance ({ frames := 9, cells := 5, slots := 30, locals := 148 }) (va_Pc [.ref o1, .int x1, .int x2, .ref qo] (fun U => U.heap.size = sz ∧ WX D cy c8 c9 (XO c8 c9 qo qd fo fd) (fun _ => True) S U ∧ NW U ∧ TH (va_A (XO c8 c9 qo qd fo fd ++ PL cy S) sz) U ∧ OU e0 mi (va_A (XO c8 c9 qo qd fo fd ++ PL cy S) sz) U U.heap ∧ NC U)) (va_Qi (fun (r : Int32) (u : wPS × (Nat → Int64)) => stp [(2, 7)] [] [] S u.1) (fun u t => WX D cy c8 c9 (XO c8 c9 qo qd u.2 fd) (va_A (XO c8 c9 qo qd fo fd ++ PL cy S) sz) u.1 t) (va_A (XO c8 c9 qo qd fo fd ++ PL cy S) sz)) 5 30 (va_A (XO c8 c9 qo qd fo fd ++ PL cy S) sz) := by
  refine Met.ofWH (cc := cL_balance) (maxL := 5) (ret := (some .int)) (by decide) rfl ?_
  intro p e s m args below meth c s₁ B hml hv
  obtain ⟨rfl, hsz, ⟨hP, hKX, hD0⟩, hN, hTH, hOU, hNC⟩ := hv
  have hx := B.exec
  have hb := B.bytes
  have hr := B.returns
  have hts := atoms_spec (ws := wsL_balance) B.pre
  have hown : s.vm.findClass RL = some m.cls := findClass_of_methodNamed (x := yL_balance) B.named
  have hlocks := B.notSynchronized
  have htab := vx_table (x := yL_balance) B (hts (.codeWith yL_balance cL_balance 5 (some .int) [(0, 10, 13, 21), (0, 10, 17, 23), (0, 10, 21, 62)]) List.mem_cons_self)
  have hK := kX hKX
  subst hsz
  have hD := hD0.self (sz := s.heap.size)
  generalize hAe : va_A (XO c8 c9 qo qd fo fd ++ PL cy S) s.heap.size = A at hD hTH hOU ⊢
  generalize hXe : XO c8 c9 qo qd fo fd = X at hP hD
  have hA : ∀ q : Nat, s.heap.size ≤ q → A q := fun q h => by rw [← hAe]; exact Or.inr h
  have hS : va_S A s.heap s.heap [] := va_S.rf
  have hl := lv_entry ([.ref o1, .int x1, .int x2, .ref qo]) (n := 5) (Nat.le_of_ble_eq_true rfl)
  rw [lg_entry_eq]
  generalize (lg_sl ([.ref o1, .int x1, .int x2, .ref qo]) ++ List.replicate (5 - (lg_sl ([.ref o1, .int x1, .int x2, .ref qo])).length) Slot.unset).toArray = ls at hl ⊢
  have hl : lv_has ls 5 [(0, .ref o1), (1, .int x1), (2, .int x2), (3, .ref qo)] := hl
  have t0 : stp [(2, 7)] [] [] S S := stp.rf hW
  refine lv_aload_n hx hb dL_balance_0 rfl (lv_at hl 3 rfl) ?_
  refine lv_iconst (v := 0) hx hb dL_balance_1 (by decide) ?_
  refine lv_aload_n hx hb dL_balance_2 rfl (lv_at hl 0 rfl) ?_
  refine lv_iload_n hx hb dL_balance_3 rfl (lv_at hl 1 rfl) ?_
  refine lv_iload_n hx hb dL_balance_4 rfl (lv_at hl 2 rfl) ?_
  have hFc := free_all hD hS hA
  obtain ⟨k1, gk1, hk1⟩ := wGt (cy := cy) X S h_o1.1 h_o1.2.1
  refine vx_calli (vx_runV (As := [.int x1, .int x2]) (rest := [.int (0 : Int32), .ref qo]) ⟨hx, hb, hml, hown, hts⟩ (c_X9_balance l hst (cy := cy) (X := X) (D := D) S _ o1 h_o1 x1 x2 (hW)) (cwV 2 hts gL_balance_X9_balance rfl rfl rfl hd_X9_balance ⟨Nat.le_of_ble_eq_true rfl, Nat.le_of_ble_eq_true rfl⟩) (pVt (va_recv hK hP (q := (RX9, TX9, 11)) (ci := 13) (q0 := k1) rfl hk1) hP hK hD hN hTH hS hFc) rfl rfl hl.1 rfl (lv_room (Nat.le_of_ble_eq_true rfl)) dL_balance_5 ⟨Nat.le_of_ble_eq_true rfl, Nat.le_of_ble_eq_true rfl⟩) hS (fun q _ h => hFc q h) hFc (fun q _ h => hFc q h) (fun E ce q9 u t H1 locs ht hvm hw hB hz1 hk1 hS hq9 hce hcl => ?_) (fun r2 u t H1 locs ht hvm hw hB hz1 hk1 hS => ?_)
  · obtain ⟨c3, hEc3, hB2⟩ := hB
    obtain ⟨hP, hD⟩ := wd_post hFc ht hB2
    have t4 : stp [(2, 7)] [] [] S u := t0.tr hw (by decide) (fun _ q => absurd q List.not_mem_nil)
    have xe5 : ext S u := hw.x
    have hE9 := hEc3
    simp only [List.mem_cons, List.not_mem_nil, or_false] at hE9
    clear hEc3
    rcases hE9 with rfl | rfl | rfl
    · refine vx_catch (own := RL) (name := "java/lang/IndexOutOfBoundsException") hown [] ⟨0, 10, 13, 21⟩ [⟨0, 10, 17, 23⟩, ⟨0, 10, 21, 62⟩] (htab.trans rfl) (List.forall_mem_nil _) (by decide) (by decide) (hts (.classLink RL 21 "java/lang/IndexOutOfBoundsException") (by decide +kernel)) (va_Nw.use rfl (hTH.2.1 (.castable "java/lang/IndexOutOfBoundsException" "java/lang/IndexOutOfBoundsException") (by decide +kernel))) hq9 hce hcl ?_
      generalize H1 = H at hP hS ⊢
      refine lv_astore (lv' := [(4, .ref q9), (0, .ref o1), (1, .int x1), (2, .int x2), (3, .ref qo)]) hx hb dL_balance_13 hl (by decide) rfl (fun ls hl => ?_)
      refine lv_iconst (v := 1) hx hb dL_balance_15 (by decide) ?_
      refine W.widen (k := 5) (n := 30) (Nat.le_of_ble_eq_true rfl) (Nat.le_of_ble_eq_true rfl) ?_
      subst hXe
      exact W.iret (v := (1 : Int32)) hx hb hr (fun t ht hW9 => ⟨⟨(1 : Int32), (u, fo), rfl, t4, wx_end hP hKX hD ht hW9.alike⟩, hS.F ht⟩) hS.2.2 dL_balance_16 hlocks
    · refine vx_catch (own := RL) (name := "java/lang/UnsupportedOperationException") hown [⟨0, 10, 13, 21⟩] ⟨0, 10, 17, 23⟩ [⟨0, 10, 21, 62⟩] (htab.trans rfl) (List.forall_mem_cons.mpr ⟨Or.inr ⟨by decide, "java/lang/IndexOutOfBoundsException", hts (.classLink RL 21 "java/lang/IndexOutOfBoundsException") (by decide +kernel), hNC ("java/lang/UnsupportedOperationException", "java/lang/IndexOutOfBoundsException") (by decide +kernel)⟩, (List.forall_mem_nil _)⟩) (by decide) (by decide) (hts (.classLink RL 23 "java/lang/UnsupportedOperationException") (by decide +kernel)) (va_Nw.use rfl (hTH.2.1 (.castable "java/lang/UnsupportedOperationException" "java/lang/UnsupportedOperationException") (by decide +kernel))) hq9 hce hcl ?_
      generalize H1 = H at hP hS ⊢
      refine lv_astore (lv' := [(4, .ref q9), (0, .ref o1), (1, .int x1), (2, .int x2), (3, .ref qo)]) hx hb dL_balance_17 hl (by decide) rfl (fun ls hl => ?_)
      refine lv_iconst (v := 2) hx hb dL_balance_19 (by decide) ?_
      refine W.widen (k := 5) (n := 30) (Nat.le_of_ble_eq_true rfl) (Nat.le_of_ble_eq_true rfl) ?_
      subst hXe
      exact W.iret (v := (2 : Int32)) hx hb hr (fun t ht hW9 => ⟨⟨(2 : Int32), (u, fo), rfl, t4, wx_end hP hKX hD ht hW9.alike⟩, hS.F ht⟩) hS.2.2 dL_balance_20 hlocks
    · refine vx_catch (own := RL) (name := "java/util/NoSuchElementException") hown [⟨0, 10, 13, 21⟩, ⟨0, 10, 17, 23⟩] ⟨0, 10, 21, 62⟩ [] (htab.trans rfl) (List.forall_mem_cons.mpr ⟨Or.inr ⟨by decide, "java/lang/IndexOutOfBoundsException", hts (.classLink RL 21 "java/lang/IndexOutOfBoundsException") (by decide +kernel), hNC ("java/util/NoSuchElementException", "java/lang/IndexOutOfBoundsException") (by decide +kernel)⟩, (List.forall_mem_cons.mpr ⟨Or.inr ⟨by decide, "java/lang/UnsupportedOperationException", hts (.classLink RL 23 "java/lang/UnsupportedOperationException") (by decide +kernel), hNC ("java/util/NoSuchElementException", "java/lang/UnsupportedOperationException") (by decide +kernel)⟩, (List.forall_mem_nil _)⟩)⟩) (by decide) (by decide) (hts (.classLink RL 62 "java/util/NoSuchElementException") (by decide +kernel)) (va_Nw.use rfl (hTH.2.1 (.castable "java/util/NoSuchElementException" "java/util/NoSuchElementException") (by decide +kernel))) hq9 hce hcl ?_
      generalize H1 = H at hP hS ⊢
      refine lv_astore (lv' := [(4, .ref q9), (0, .ref o1), (1, .int x1), (2, .int x2), (3, .ref qo)]) hx hb dL_balance_21 hl (by decide) rfl (fun ls hl => ?_)
      refine lv_iconst (v := 3) hx hb dL_balance_23 (by decide) ?_
      refine W.widen (k := 5) (n := 30) (Nat.le_of_ble_eq_true rfl) (Nat.le_of_ble_eq_true rfl) ?_
      subst hXe
      exact W.iret (v := (3 : Int32)) hx hb hr (fun t ht hW9 => ⟨⟨(3 : Int32), (u, fo), rfl, t4, wx_end hP hKX hD ht hW9.alike⟩, hS.F ht⟩) hS.2.2 dL_balance_24 hlocks
  · obtain ⟨c6, w7⟩ := hw
    obtain ⟨hP, hD⟩ := wd_post hFc ht hB
    generalize H1 = H at hP hS ⊢
    obtain ⟨S8, rfl⟩ : ∃ z, z = u := ⟨_, rfl⟩
    have t9 : stp [(2, 7)] [] [] S S8 := t0.tr w7 (by decide) (fun _ q => absurd q List.not_mem_nil)
    have xe10 : ext S S8 := w7.x
    refine lv_i2l hx hb dL_balance_8 rfl ?_
    subst hXe
    refine va_last hx hb hKX hP hD hS 0 8 rfl rfl (inb (m := 1) rfl (by decide) (by decide)) dL_balance_9 (fun H locs hP2 hD2 hS => ?_)
    have hP : va_P D vwCl ((XO c8 c9 qo qd (vp_updL fo (0 : Int32).toNatClampNeg r2.toInt64) fd) ++ PL cy S8) H := hP2
    have hD : va_D A ((XO c8 c9 qo qd (vp_updL fo (0 : Int32).toNatClampNeg r2.toInt64) fd) ++ PL cy S8) := hD2
    clear hP2 hD2
    refine lv_goto (tgt := 25) hx hb dL_balance_10 (by decide) ?_
    refine lv_iconst (v := 0) hx hb dL_balance_25 (by decide) ?_
    refine W.widen (k := 5) (n := 30) (Nat.le_of_ble_eq_true rfl) (Nat.le_of_ble_eq_true rfl) ?_
    exact W.iret (v := (0 : Int32)) hx hb hr (fun t ht hW9 => ⟨⟨(0 : Int32), (S8, (vp_updL fo (0 : Int32).toNatClampNeg r2.toInt64)), rfl, t9, wx_end hP hKX hD ht hW9.alike⟩, hS.F ht⟩) hS.2.2 dL_balance_26 hlocks
set_option maxHeartbeats 4000000 in
set_option maxRecDepth 100000 in
theorem c_L_section (l : Launch) (hst : l.stackTraces = false) {e0 mi : Nat} {D : va_G} {cy : Nat → ClassId} {c8 c9 : ClassId} (qo qd : Nat) (fo : Nat → Int64) (fd : Nat → UInt64) (S : wPS) (sz : Nat) (o1 : Nat) (h_o1 : isA S o1 9) (x1 : Int32) (x2 : Int32) (x3 : Int32) (x4 : Int32) (hW : wtB S []) : Met l yL_section wsL_section ({ frames := 8, cells := 5, slots := 30, locals := 138 }) (va_Pc [.ref o1, .int x1, .int x2, .int x3, .int x4, .ref qo] (fun U => U.heap.size = sz ∧ WX D cy c8 c9 (XO c8 c9 qo qd fo fd) (fun _ => True) S U ∧ NW U ∧ TH (va_A (XO c8 c9 qo qd fo fd ++ PL cy S) sz) U ∧ OU e0 mi (va_A (XO c8 c9 qo qd fo fd ++ PL cy S) sz) U U.heap ∧ NC U)) (va_Qi (fun (r : Int32) (u : wPS × (Nat → Int64)) => stp ([] : List (Nat × Nat)) [] [] S u.1) (fun u t => WX D cy c8 c9 (XO c8 c9 qo qd u.2 fd) (va_A (XO c8 c9 qo qd fo fd ++ PL cy S) sz) u.1 t) (va_A (XO c8 c9 qo qd fo fd ++ PL cy S) sz)) 5 30 (va_A (XO c8 c9 qo qd fo fd ++ PL cy S) sz) := by
  refine Met.ofWH (cc := cL_section) (maxL := 7) (ret := (some .int)) (by decide) rfl ?_
  intro p e s m args below meth c s₁ B hml hv
  obtain ⟨rfl, hsz, ⟨hP, hKX, hD0⟩, hN, hTH, hOU, hNC⟩ := hv
  have hx := B.exec
  have hb := B.bytes
  have hr := B.returns
  have hts := atoms_spec (ws := wsL_section) B.pre
  have hown : s.vm.findClass RL = some m.cls := findClass_of_methodNamed (x := yL_section) B.named
  have hlocks := B.notSynchronized
  have htab := vx_table (x := yL_section) B (hts (.codeWith yL_section cL_section 7 (some .int) [(0, 14, 17, 21), (0, 14, 21, 13), (0, 14, 25, 23)]) List.mem_cons_self)
  have hK := kX hKX
  subst hsz
  have hD := hD0.self (sz := s.heap.size)
  generalize hAe : va_A (XO c8 c9 qo qd fo fd ++ PL cy S) s.heap.size = A at hD hTH hOU ⊢
  generalize hXe : XO c8 c9 qo qd fo fd = X at hP hD
  have hA : ∀ q : Nat, s.heap.size ≤ q → A q := fun q h => by rw [← hAe]; exact Or.inr h
  have hS : va_S A s.heap s.heap [] := va_S.rf
  have hl := lv_entry ([.ref o1, .int x1, .int x2, .int x3, .int x4, .ref qo]) (n := 7) (Nat.le_of_ble_eq_true rfl)
  rw [lg_entry_eq]
  generalize (lg_sl ([.ref o1, .int x1, .int x2, .int x3, .int x4, .ref qo]) ++ List.replicate (7 - (lg_sl ([.ref o1, .int x1, .int x2, .int x3, .int x4, .ref qo])).length) Slot.unset).toArray = ls at hl ⊢
  have hl : lv_has ls 7 [(0, .ref o1), (1, .int x1), (2, .int x2), (3, .int x3), (4, .int x4), (5, .ref qo)] := hl
  have t0 : stp ([] : List (Nat × Nat)) [] [] S S := stp.rf hW
  refine lv_aload hx hb dL_section_0 (lv_at hl 5 rfl) ?_
  refine lv_iconst (v := 0) hx hb dL_section_2 (by decide) ?_
  refine lv_aload_n hx hb dL_section_3 rfl (lv_at hl 0 rfl) ?_
  refine lv_iload_n hx hb dL_section_4 rfl (lv_at hl 1 rfl) ?_
  refine lv_iload_n hx hb dL_section_5 rfl (lv_at hl 2 rfl) ?_
  refine lv_iload_n hx hb dL_section_6 rfl (lv_at hl 3 rfl) ?_
  refine lv_iload hx hb dL_section_7 (lv_at hl 4 rfl) ?_
  have hFc := free_all hD hS hA
  obtain ⟨k1, gk1, hk1⟩ := wGt (cy := cy) X S h_o1.1 h_o1.2.1
  refine vx_calli (vx_runV (As := [.int x1, .int x2, .int x3, .int x4]) (rest := [.int (0 : Int32), .ref qo]) ⟨hx, hb, hml, hown, hts⟩ (c_X9_section l hst (cy := cy) (X := X) (D := D) S _ o1 h_o1 x1 x2 x3 x4 (hW)) (cwV 4 hts gL_section_X9_section rfl rfl rfl hd_X9_section ⟨Nat.le_of_ble_eq_true rfl, Nat.le_of_ble_eq_true rfl⟩) (pVt (va_recv hK hP (q := (RX9, TX9, 11)) (ci := 13) (q0 := k1) rfl hk1) hP hK hD hN hTH hS hFc) rfl rfl hl.1 rfl (lv_room (Nat.le_of_ble_eq_true rfl)) dL_section_9 ⟨Nat.le_of_ble_eq_true rfl, Nat.le_of_ble_eq_true rfl⟩) hS (fun q _ h => hFc q h) hFc (fun q _ h => hFc q h) (fun E ce q9 u t H1 locs ht hvm hw hB hz1 hk1 hS hq9 hce hcl => ?_) (fun r2 u t H1 locs ht hvm hw hB hz1 hk1 hS => ?_)
  · obtain ⟨c3, hEc3, hB2⟩ := hB
    obtain ⟨hP, hD⟩ := wd_post hFc ht hB2
    have hE9 := hEc3
    simp only [List.mem_cons, List.not_mem_nil, or_false] at hE9
    clear hEc3
    rcases hE9 with rfl | rfl | rfl
    · refine vx_catch (own := RL) (name := "java/lang/IllegalArgumentException") hown [⟨0, 14, 17, 21⟩] ⟨0, 14, 21, 13⟩ [⟨0, 14, 25, 23⟩] (htab.trans rfl) (List.forall_mem_cons.mpr ⟨Or.inr ⟨by decide, "java/lang/IndexOutOfBoundsException", hts (.classLink RL 21 "java/lang/IndexOutOfBoundsException") (by decide +kernel), hNC ("java/lang/IllegalArgumentException", "java/lang/IndexOutOfBoundsException") (by decide +kernel)⟩, (List.forall_mem_nil _)⟩) (by decide) (by decide) (hts (.classLink RL 13 "java/lang/IllegalArgumentException") (by decide +kernel)) (va_Nw.use rfl (hTH.2.1 (.castable "java/lang/IllegalArgumentException" "java/lang/IllegalArgumentException") (by decide +kernel))) hq9 hce hcl ?_
      generalize H1 = H at hP hS ⊢
      refine lv_astore (lv' := [(6, .ref q9), (0, .ref o1), (1, .int x1), (2, .int x2), (3, .int x3), (4, .int x4), (5, .ref qo)]) hx hb dL_section_21 hl (by decide) rfl (fun ls hl => ?_)
      refine lv_iconst (v := 2) hx hb dL_section_23 (by decide) ?_
      refine W.widen (k := 5) (n := 30) (Nat.le_of_ble_eq_true rfl) (Nat.le_of_ble_eq_true rfl) ?_
      subst hXe
      exact W.iret (v := (2 : Int32)) hx hb hr (fun t ht hW9 => ⟨⟨(2 : Int32), (S, fo), rfl, t0, wx_end hP hKX hD ht hW9.alike⟩, hS.F ht⟩) hS.2.2 dL_section_24 hlocks
    · refine vx_catch (own := RL) (name := "java/lang/IndexOutOfBoundsException") hown [] ⟨0, 14, 17, 21⟩ [⟨0, 14, 21, 13⟩, ⟨0, 14, 25, 23⟩] (htab.trans rfl) (List.forall_mem_nil _) (by decide) (by decide) (hts (.classLink RL 21 "java/lang/IndexOutOfBoundsException") (by decide +kernel)) (va_Nw.use rfl (hTH.2.1 (.castable "java/lang/IndexOutOfBoundsException" "java/lang/IndexOutOfBoundsException") (by decide +kernel))) hq9 hce hcl ?_
      generalize H1 = H at hP hS ⊢
      refine lv_astore (lv' := [(6, .ref q9), (0, .ref o1), (1, .int x1), (2, .int x2), (3, .int x3), (4, .int x4), (5, .ref qo)]) hx hb dL_section_17 hl (by decide) rfl (fun ls hl => ?_)
      refine lv_iconst (v := 1) hx hb dL_section_19 (by decide) ?_
      refine W.widen (k := 5) (n := 30) (Nat.le_of_ble_eq_true rfl) (Nat.le_of_ble_eq_true rfl) ?_
      subst hXe
      exact W.iret (v := (1 : Int32)) hx hb hr (fun t ht hW9 => ⟨⟨(1 : Int32), (S, fo), rfl, t0, wx_end hP hKX hD ht hW9.alike⟩, hS.F ht⟩) hS.2.2 dL_section_20 hlocks
    · refine vx_catch (own := RL) (name := "java/lang/UnsupportedOperationException") hown [⟨0, 14, 17, 21⟩, ⟨0, 14, 21, 13⟩] ⟨0, 14, 25, 23⟩ [] (htab.trans rfl) (List.forall_mem_cons.mpr ⟨Or.inr ⟨by decide, "java/lang/IndexOutOfBoundsException", hts (.classLink RL 21 "java/lang/IndexOutOfBoundsException") (by decide +kernel), hNC ("java/lang/UnsupportedOperationException", "java/lang/IndexOutOfBoundsException") (by decide +kernel)⟩, (List.forall_mem_cons.mpr ⟨Or.inr ⟨by decide, "java/lang/IllegalArgumentException", hts (.classLink RL 13 "java/lang/IllegalArgumentException") (by decide +kernel), hNC ("java/lang/UnsupportedOperationException", "java/lang/IllegalArgumentException") (by decide +kernel)⟩, (List.forall_mem_nil _)⟩)⟩) (by decide) (by decide) (hts (.classLink RL 23 "java/lang/UnsupportedOperationException") (by decide +kernel)) (va_Nw.use rfl (hTH.2.1 (.castable "java/lang/UnsupportedOperationException" "java/lang/UnsupportedOperationException") (by decide +kernel))) hq9 hce hcl ?_
      generalize H1 = H at hP hS ⊢
      refine lv_astore (lv' := [(6, .ref q9), (0, .ref o1), (1, .int x1), (2, .int x2), (3, .int x3), (4, .int x4), (5, .ref qo)]) hx hb dL_section_25 hl (by decide) rfl (fun ls hl => ?_)
      refine lv_iconst (v := 3) hx hb dL_section_27 (by decide) ?_
      refine W.widen (k := 5) (n := 30) (Nat.le_of_ble_eq_true rfl) (Nat.le_of_ble_eq_true rfl) ?_
      subst hXe
      exact W.iret (v := (3 : Int32)) hx hb hr (fun t ht hW9 => ⟨⟨(3 : Int32), (S, fo), rfl, t0, wx_end hP hKX hD ht hW9.alike⟩, hS.F ht⟩) hS.2.2 dL_section_28 hlocks
  · have c4 := hw
    obtain ⟨hP, hD⟩ := wd_post hFc ht hB
    generalize H1 = H at hP hS ⊢
    refine lv_i2l hx hb dL_section_12 rfl ?_
    subst hXe
    refine va_last hx hb hKX hP hD hS 0 8 rfl rfl (inb (m := 1) rfl (by decide) (by decide)) dL_section_13 (fun H locs hP2 hD2 hS => ?_)
    have hP : va_P D vwCl ((XO c8 c9 qo qd (vp_updL fo (0 : Int32).toNatClampNeg r2.toInt64) fd) ++ PL cy S) H := hP2
    have hD : va_D A ((XO c8 c9 qo qd (vp_updL fo (0 : Int32).toNatClampNeg r2.toInt64) fd) ++ PL cy S) := hD2
    clear hP2 hD2
    refine lv_goto (tgt := 29) hx hb dL_section_14 (by decide) ?_
    refine lv_iconst (v := 0) hx hb dL_section_29 (by decide) ?_
    refine W.widen (k := 5) (n := 30) (Nat.le_of_ble_eq_true rfl) (Nat.le_of_ble_eq_true rfl) ?_
    exact W.iret (v := (0 : Int32)) hx hb hr (fun t ht hW9 => ⟨⟨(0 : Int32), (S, (vp_updL fo (0 : Int32).toNatClampNeg r2.toInt64)), rfl, t0, wx_end hP hKX hD ht hW9.alike⟩, hS.F ht⟩) hS.2.2 dL_section_30 hlocks
set_option maxHeartbeats 4000000 in
set_option maxRecDepth 100000 in
theorem c_L_bestPair (l : Launch) (hst : l.stackTraces = false) {e0 mi : Nat} {D : va_G} {cy : Nat → ClassId} {c8 c9 : ClassId} (qo qd : Nat) (fo : Nat → Int64) (fd : Nat → UInt64) (S : wPS) (sz : Nat) (o1 : Nat) (h_o1 : isA S o1 9) (x1 : Int32) (x2 : Int32) (x3 : Int32) (x4 : Int32) (hW : wtB S []) : Met l yL_bestPair wsL_bestPair ({ frames := 10, cells := 5, slots := 29, locals := 173 }) (va_Pc [.ref o1, .int x1, .int x2, .int x3, .int x4, .ref qo] (fun U => U.heap.size = sz ∧ WX D cy c8 c9 (XO c8 c9 qo qd fo fd) (fun _ => True) S U ∧ NW U ∧ TH (va_A (XO c8 c9 qo qd fo fd ++ PL cy S) sz) U ∧ OU e0 mi (va_A (XO c8 c9 qo qd fo fd ++ PL cy S) sz) U U.heap ∧ NC U)) (va_Qi (fun (r : Int32) (u : wPS × (Nat → Int64)) => stp [(8, 2), (8, 3), (8, 4)] [] [] S u.1) (fun u t => WX D cy c8 c9 (XO c8 c9 qo qd u.2 fd) (va_A (XO c8 c9 qo qd fo fd ++ PL cy S) sz) u.1 t) (va_A (XO c8 c9 qo qd fo fd ++ PL cy S) sz)) 5 29 (va_A (XO c8 c9 qo qd fo fd ++ PL cy S) sz) := by
  refine Met.ofWH (cc := cL_bestPair) (maxL := 7) (ret := (some .int)) (by decide) rfl ?_
  intro p e s m args below meth c s₁ B hml hv
  obtain ⟨rfl, hsz, ⟨hP, hKX, hD0⟩, hN, hTH, hOU, hNC⟩ := hv
  have hx := B.exec
  have hb := B.bytes
  have hr := B.returns
  have hts := atoms_spec (ws := wsL_bestPair) B.pre
  have hown : s.vm.findClass RL = some m.cls := findClass_of_methodNamed (x := yL_bestPair) B.named
  have hlocks := B.notSynchronized
  have htab := vx_table (x := yL_bestPair) B (hts (.codeWith yL_bestPair cL_bestPair 7 (some .int) [(0, 14, 17, 13)]) List.mem_cons_self)
  have hK := kX hKX
  subst hsz
  have hD := hD0.self (sz := s.heap.size)
  generalize hAe : va_A (XO c8 c9 qo qd fo fd ++ PL cy S) s.heap.size = A at hD hTH hOU ⊢
  generalize hXe : XO c8 c9 qo qd fo fd = X at hP hD
  have hA : ∀ q : Nat, s.heap.size ≤ q → A q := fun q h => by rw [← hAe]; exact Or.inr h
  have hS : va_S A s.heap s.heap [] := va_S.rf
  have hl := lv_entry ([.ref o1, .int x1, .int x2, .int x3, .int x4, .ref qo]) (n := 7) (Nat.le_of_ble_eq_true rfl)
  rw [lg_entry_eq]
  generalize (lg_sl ([.ref o1, .int x1, .int x2, .int x3, .int x4, .ref qo]) ++ List.replicate (7 - (lg_sl ([.ref o1, .int x1, .int x2, .int x3, .int x4, .ref qo])).length) Slot.unset).toArray = ls at hl ⊢
  have hl : lv_has ls 7 [(0, .ref o1), (1, .int x1), (2, .int x2), (3, .int x3), (4, .int x4), (5, .ref qo)] := hl
  have t0 : stp [(8, 2), (8, 3), (8, 4)] [] [] S S := stp.rf hW
  refine lv_aload hx hb dL_bestPair_0 (lv_at hl 5 rfl) ?_
  refine lv_iconst (v := 0) hx hb dL_bestPair_2 (by decide) ?_
  refine lv_aload_n hx hb dL_bestPair_3 rfl (lv_at hl 0 rfl) ?_
  refine lv_iload_n hx hb dL_bestPair_4 rfl (lv_at hl 1 rfl) ?_
  refine lv_iload_n hx hb dL_bestPair_5 rfl (lv_at hl 2 rfl) ?_
  refine lv_iload_n hx hb dL_bestPair_6 rfl (lv_at hl 3 rfl) ?_
  refine lv_iload hx hb dL_bestPair_7 (lv_at hl 4 rfl) ?_
  have hFc := free_all hD hS hA
  obtain ⟨k1, gk1, hk1⟩ := wGt (cy := cy) X S h_o1.1 h_o1.2.1
  refine vx_calli (vx_runV (As := [.int x1, .int x2, .int x3, .int x4]) (rest := [.int (0 : Int32), .ref qo]) ⟨hx, hb, hml, hown, hts⟩ (c_X9_bestPair l hst (cy := cy) (X := X) (D := D) S _ o1 h_o1 x1 x2 x3 x4 (hW)) (cwV 4 hts gL_bestPair_X9_bestPair rfl rfl rfl hd_X9_bestPair ⟨Nat.le_of_ble_eq_true rfl, Nat.le_of_ble_eq_true rfl⟩) (pVt (va_recv hK hP (q := (RX9, TX9, 11)) (ci := 13) (q0 := k1) rfl hk1) hP hK hD hN hTH hS hFc) rfl rfl hl.1 rfl (lv_room (Nat.le_of_ble_eq_true rfl)) dL_bestPair_9 ⟨Nat.le_of_ble_eq_true rfl, Nat.le_of_ble_eq_true rfl⟩) hS (fun q _ h => hFc q h) hFc (fun q _ h => hFc q h) (fun E ce q9 u t H1 locs ht hvm hw hB hz1 hk1 hS hq9 hce hcl => ?_) (fun r2 u t H1 locs ht hvm hw hB hz1 hk1 hS => ?_)
  · obtain ⟨hEc3, hB2⟩ := hB
    obtain ⟨hP, hD⟩ := wd_post hFc ht hB2
    have t4 : stp [(8, 2), (8, 3), (8, 4)] [] [] S u := t0.tr hw (by decide) (fun _ q => absurd q List.not_mem_nil)
    have xe5 : ext S u := hw.x
    have hE9 := hEc3
    simp only [List.mem_cons, List.not_mem_nil, or_false] at hE9
    clear hEc3
    subst hE9
    refine vx_catch (own := RL) (name := "java/lang/IllegalArgumentException") hown [] ⟨0, 14, 17, 13⟩ [] (htab.trans rfl) (List.forall_mem_nil _) (by decide) (by decide) (hts (.classLink RL 13 "java/lang/IllegalArgumentException") (by decide +kernel)) (va_Nw.use rfl (hTH.2.1 (.castable "java/lang/IllegalArgumentException" "java/lang/IllegalArgumentException") (by decide +kernel))) hq9 hce hcl ?_
    generalize H1 = H at hP hS ⊢
    refine lv_astore (lv' := [(6, .ref q9), (0, .ref o1), (1, .int x1), (2, .int x2), (3, .int x3), (4, .int x4), (5, .ref qo)]) hx hb dL_bestPair_17 hl (by decide) rfl (fun ls hl => ?_)
    refine lv_iconst (v := 1) hx hb dL_bestPair_19 (by decide) ?_
    refine W.widen (k := 5) (n := 29) (Nat.le_of_ble_eq_true rfl) (Nat.le_of_ble_eq_true rfl) ?_
    subst hXe
    exact W.iret (v := (1 : Int32)) hx hb hr (fun t ht hW9 => ⟨⟨(1 : Int32), (u, fo), rfl, t4, wx_end hP hKX hD ht hW9.alike⟩, hS.F ht⟩) hS.2.2 dL_bestPair_20 hlocks
  · have w6 := hw
    obtain ⟨hP, hD⟩ := wd_post hFc ht hB
    generalize H1 = H at hP hS ⊢
    obtain ⟨S7, rfl⟩ : ∃ z, z = u := ⟨_, rfl⟩
    have t8 : stp [(8, 2), (8, 3), (8, 4)] [] [] S S7 := t0.tr w6 (by decide) (fun _ q => absurd q List.not_mem_nil)
    have xe9 : ext S S7 := w6.x
    refine lv_i2l hx hb dL_bestPair_12 rfl ?_
    subst hXe
    refine va_last hx hb hKX hP hD hS 0 8 rfl rfl (inb (m := 1) rfl (by decide) (by decide)) dL_bestPair_13 (fun H locs hP2 hD2 hS => ?_)
    have hP : va_P D vwCl ((XO c8 c9 qo qd (vp_updL fo (0 : Int32).toNatClampNeg r2.toInt64) fd) ++ PL cy S7) H := hP2
    have hD : va_D A ((XO c8 c9 qo qd (vp_updL fo (0 : Int32).toNatClampNeg r2.toInt64) fd) ++ PL cy S7) := hD2
    clear hP2 hD2
    refine lv_goto (tgt := 21) hx hb dL_bestPair_14 (by decide) ?_
    refine lv_iconst (v := 0) hx hb dL_bestPair_21 (by decide) ?_
    refine W.widen (k := 5) (n := 29) (Nat.le_of_ble_eq_true rfl) (Nat.le_of_ble_eq_true rfl) ?_
    exact W.iret (v := (0 : Int32)) hx hb hr (fun t ht hW9 => ⟨⟨(0 : Int32), (S7, (vp_updL fo (0 : Int32).toNatClampNeg r2.toInt64)), rfl, t8, wx_end hP hKX hD ht hW9.alike⟩, hS.F ht⟩) hS.2.2 dL_bestPair_22 hlocks
set_option maxHeartbeats 4000000 in
set_option maxRecDepth 100000 in
theorem c_L_bestMate (l : Launch) (hst : l.stackTraces = false) {e0 mi : Nat} {D : va_G} {cy : Nat → ClassId} {c8 c9 : ClassId} (qo qd : Nat) (fo : Nat → Int64) (fd : Nat → UInt64) (S : wPS) (sz : Nat) (o1 : Nat) (h_o1 : isA S o1 9) (x1 : Int32) (x2 : Int32) (x3 : Int32) (x4 : Int32) (hW : wtB S []) : Met l yL_bestMate wsL_bestMate ({ frames := 10, cells := 5, slots := 29, locals := 173 }) (va_Pc [.ref o1, .int x1, .int x2, .int x3, .int x4, .ref qo] (fun U => U.heap.size = sz ∧ WX D cy c8 c9 (XO c8 c9 qo qd fo fd) (fun _ => True) S U ∧ NW U ∧ TH (va_A (XO c8 c9 qo qd fo fd ++ PL cy S) sz) U ∧ OU e0 mi (va_A (XO c8 c9 qo qd fo fd ++ PL cy S) sz) U U.heap ∧ NC U)) (va_Qi (fun (r : Int32) (u : wPS × (Nat → Int64)) => stp [(8, 2), (8, 3), (8, 4)] [] [] S u.1) (fun u t => WX D cy c8 c9 (XO c8 c9 qo qd u.2 fd) (va_A (XO c8 c9 qo qd fo fd ++ PL cy S) sz) u.1 t) (va_A (XO c8 c9 qo qd fo fd ++ PL cy S) sz)) 5 29 (va_A (XO c8 c9 qo qd fo fd ++ PL cy S) sz) := by
  refine Met.ofWH (cc := cL_bestMate) (maxL := 7) (ret := (some .int)) (by decide) rfl ?_
  intro p e s m args below meth c s₁ B hml hv
  obtain ⟨rfl, hsz, ⟨hP, hKX, hD0⟩, hN, hTH, hOU, hNC⟩ := hv
  have hx := B.exec
  have hb := B.bytes
  have hr := B.returns
  have hts := atoms_spec (ws := wsL_bestMate) B.pre
  have hown : s.vm.findClass RL = some m.cls := findClass_of_methodNamed (x := yL_bestMate) B.named
  have hlocks := B.notSynchronized
  have htab := vx_table (x := yL_bestMate) B (hts (.codeWith yL_bestMate cL_bestMate 7 (some .int) [(0, 14, 17, 13)]) List.mem_cons_self)
  have hK := kX hKX
  subst hsz
  have hD := hD0.self (sz := s.heap.size)
  generalize hAe : va_A (XO c8 c9 qo qd fo fd ++ PL cy S) s.heap.size = A at hD hTH hOU ⊢
  generalize hXe : XO c8 c9 qo qd fo fd = X at hP hD
  have hA : ∀ q : Nat, s.heap.size ≤ q → A q := fun q h => by rw [← hAe]; exact Or.inr h
  have hS : va_S A s.heap s.heap [] := va_S.rf
  have hl := lv_entry ([.ref o1, .int x1, .int x2, .int x3, .int x4, .ref qo]) (n := 7) (Nat.le_of_ble_eq_true rfl)
  rw [lg_entry_eq]
  generalize (lg_sl ([.ref o1, .int x1, .int x2, .int x3, .int x4, .ref qo]) ++ List.replicate (7 - (lg_sl ([.ref o1, .int x1, .int x2, .int x3, .int x4, .ref qo])).length) Slot.unset).toArray = ls at hl ⊢
  have hl : lv_has ls 7 [(0, .ref o1), (1, .int x1), (2, .int x2), (3, .int x3), (4, .int x4), (5, .ref qo)] := hl
  have t0 : stp [(8, 2), (8, 3), (8, 4)] [] [] S S := stp.rf hW
  refine lv_aload hx hb dL_bestMate_0 (lv_at hl 5 rfl) ?_
  refine lv_iconst (v := 0) hx hb dL_bestMate_2 (by decide) ?_
  refine lv_aload_n hx hb dL_bestMate_3 rfl (lv_at hl 0 rfl) ?_
  refine lv_iload_n hx hb dL_bestMate_4 rfl (lv_at hl 1 rfl) ?_
  refine lv_iload_n hx hb dL_bestMate_5 rfl (lv_at hl 2 rfl) ?_
  refine lv_iload_n hx hb dL_bestMate_6 rfl (lv_at hl 3 rfl) ?_
  refine lv_iload hx hb dL_bestMate_7 (lv_at hl 4 rfl) ?_
  have hFc := free_all hD hS hA
  obtain ⟨k1, gk1, hk1⟩ := wGt (cy := cy) X S h_o1.1 h_o1.2.1
  refine vx_calli (vx_runV (As := [.int x1, .int x2, .int x3, .int x4]) (rest := [.int (0 : Int32), .ref qo]) ⟨hx, hb, hml, hown, hts⟩ (c_X9_bestMate l hst (cy := cy) (X := X) (D := D) S _ o1 h_o1 x1 x2 x3 x4 (hW)) (cwV 4 hts gL_bestMate_X9_bestMate rfl rfl rfl hd_X9_bestMate ⟨Nat.le_of_ble_eq_true rfl, Nat.le_of_ble_eq_true rfl⟩) (pVt (va_recv hK hP (q := (RX9, TX9, 11)) (ci := 13) (q0 := k1) rfl hk1) hP hK hD hN hTH hS hFc) rfl rfl hl.1 rfl (lv_room (Nat.le_of_ble_eq_true rfl)) dL_bestMate_9 ⟨Nat.le_of_ble_eq_true rfl, Nat.le_of_ble_eq_true rfl⟩) hS (fun q _ h => hFc q h) hFc (fun q _ h => hFc q h) (fun E ce q9 u t H1 locs ht hvm hw hB hz1 hk1 hS hq9 hce hcl => ?_) (fun r2 u t H1 locs ht hvm hw hB hz1 hk1 hS => ?_)
  · obtain ⟨hEc3, hB2⟩ := hB
    obtain ⟨hP, hD⟩ := wd_post hFc ht hB2
    have t4 : stp [(8, 2), (8, 3), (8, 4)] [] [] S u := t0.tr hw (by decide) (fun _ q => absurd q List.not_mem_nil)
    have xe5 : ext S u := hw.x
    have hE9 := hEc3
    simp only [List.mem_cons, List.not_mem_nil, or_false] at hE9
    clear hEc3
    subst hE9
    refine vx_catch (own := RL) (name := "java/lang/IllegalArgumentException") hown [] ⟨0, 14, 17, 13⟩ [] (htab.trans rfl) (List.forall_mem_nil _) (by decide) (by decide) (hts (.classLink RL 13 "java/lang/IllegalArgumentException") (by decide +kernel)) (va_Nw.use rfl (hTH.2.1 (.castable "java/lang/IllegalArgumentException" "java/lang/IllegalArgumentException") (by decide +kernel))) hq9 hce hcl ?_
    generalize H1 = H at hP hS ⊢
    refine lv_astore (lv' := [(6, .ref q9), (0, .ref o1), (1, .int x1), (2, .int x2), (3, .int x3), (4, .int x4), (5, .ref qo)]) hx hb dL_bestMate_17 hl (by decide) rfl (fun ls hl => ?_)
    refine lv_iconst (v := 1) hx hb dL_bestMate_19 (by decide) ?_
    refine W.widen (k := 5) (n := 29) (Nat.le_of_ble_eq_true rfl) (Nat.le_of_ble_eq_true rfl) ?_
    subst hXe
    exact W.iret (v := (1 : Int32)) hx hb hr (fun t ht hW9 => ⟨⟨(1 : Int32), (u, fo), rfl, t4, wx_end hP hKX hD ht hW9.alike⟩, hS.F ht⟩) hS.2.2 dL_bestMate_20 hlocks
  · have w6 := hw
    obtain ⟨hP, hD⟩ := wd_post hFc ht hB
    generalize H1 = H at hP hS ⊢
    obtain ⟨S7, rfl⟩ : ∃ z, z = u := ⟨_, rfl⟩
    have t8 : stp [(8, 2), (8, 3), (8, 4)] [] [] S S7 := t0.tr w6 (by decide) (fun _ q => absurd q List.not_mem_nil)
    have xe9 : ext S S7 := w6.x
    refine lv_i2l hx hb dL_bestMate_12 rfl ?_
    subst hXe
    refine va_last hx hb hKX hP hD hS 0 8 rfl rfl (inb (m := 1) rfl (by decide) (by decide)) dL_bestMate_13 (fun H locs hP2 hD2 hS => ?_)
    have hP : va_P D vwCl ((XO c8 c9 qo qd (vp_updL fo (0 : Int32).toNatClampNeg r2.toInt64) fd) ++ PL cy S7) H := hP2
    have hD : va_D A ((XO c8 c9 qo qd (vp_updL fo (0 : Int32).toNatClampNeg r2.toInt64) fd) ++ PL cy S7) := hD2
    clear hP2 hD2
    refine lv_goto (tgt := 21) hx hb dL_bestMate_14 (by decide) ?_
    refine lv_iconst (v := 0) hx hb dL_bestMate_21 (by decide) ?_
    refine W.widen (k := 5) (n := 29) (Nat.le_of_ble_eq_true rfl) (Nat.le_of_ble_eq_true rfl) ?_
    exact W.iret (v := (0 : Int32)) hx hb hr (fun t ht hW9 => ⟨⟨(0 : Int32), (S7, (vp_updL fo (0 : Int32).toNatClampNeg r2.toInt64)), rfl, t8, wx_end hP hKX hD ht hW9.alike⟩, hS.F ht⟩) hS.2.2 dL_bestMate_22 hlocks
set_option maxHeartbeats 4000000 in
set_option maxRecDepth 100000 in
theorem c_L_planets (l : Launch) (hst : l.stackTraces = false) {e0 mi : Nat} {D : va_G} {cy : Nat → ClassId} {c8 c9 : ClassId} (qo qd : Nat) (fo : Nat → Int64) (fd : Nat → UInt64) (S : wPS) (sz : Nat) (o1 : Nat) (h_o1 : isA S o1 9) (x1 : Int32) (x2 : Int32) (x3 : Int32) (hW : wtB S []) : Met l yL_planets wsL_planets ({ frames := 9, cells := 3, slots := 18, locals := 147 }) (va_Pc [.ref o1, .int x1, .int x2, .int x3, .ref qo] (fun U => U.heap.size = sz ∧ WX D cy c8 c9 (XO c8 c9 qo qd fo fd) (fun _ => True) S U ∧ NW U ∧ TH (va_A (XO c8 c9 qo qd fo fd ++ PL cy S) sz) U ∧ OU e0 mi (va_A (XO c8 c9 qo qd fo fd ++ PL cy S) sz) U U.heap ∧ NC U)) (va_Qi (fun (r : Int32) (u : wPS × (Nat → Int64)) => stp ([] : List (Nat × Nat)) [] [] S u.1) (fun u t => WX D cy c8 c9 (XO c8 c9 qo qd u.2 fd) (va_A (XO c8 c9 qo qd fo fd ++ PL cy S) sz) u.1 t) (va_A (XO c8 c9 qo qd fo fd ++ PL cy S) sz)) 3 18 (va_A (XO c8 c9 qo qd fo fd ++ PL cy S) sz) := by
  refine Met.ofWH (cc := cL_planets) (maxL := 6) (ret := (some .int)) (by decide) rfl ?_
  intro p e s m args below meth c s₁ B hml hv
  obtain ⟨rfl, hsz, ⟨hP, hKX, hD0⟩, hN, hTH, hOU, hNC⟩ := hv
  have hx := B.exec
  have hb := B.bytes
  have hr := B.returns
  have hts := atoms_spec (ws := wsL_planets) B.pre
  have hown : s.vm.findClass RL = some m.cls := findClass_of_methodNamed (x := yL_planets) B.named
  have hlocks := B.notSynchronized
  have htab := vx_table (x := yL_planets) B (hts (.codeWith yL_planets cL_planets 6 (some .int) [(0, 12, 15, 13)]) List.mem_cons_self)
  have hK := kX hKX
  subst hsz
  have hD := hD0.self (sz := s.heap.size)
  generalize hAe : va_A (XO c8 c9 qo qd fo fd ++ PL cy S) s.heap.size = A at hD hTH hOU ⊢
  generalize hXe : XO c8 c9 qo qd fo fd = X at hP hD
  have hA : ∀ q : Nat, s.heap.size ≤ q → A q := fun q h => by rw [← hAe]; exact Or.inr h
  have hS : va_S A s.heap s.heap [] := va_S.rf
  have hl := lv_entry ([.ref o1, .int x1, .int x2, .int x3, .ref qo]) (n := 6) (Nat.le_of_ble_eq_true rfl)
  rw [lg_entry_eq]
  generalize (lg_sl ([.ref o1, .int x1, .int x2, .int x3, .ref qo]) ++ List.replicate (6 - (lg_sl ([.ref o1, .int x1, .int x2, .int x3, .ref qo])).length) Slot.unset).toArray = ls at hl ⊢
  have hl : lv_has ls 6 [(0, .ref o1), (1, .int x1), (2, .int x2), (3, .int x3), (4, .ref qo)] := hl
  have t0 : stp ([] : List (Nat × Nat)) [] [] S S := stp.rf hW
  refine lv_aload hx hb dL_planets_0 (lv_at hl 4 rfl) ?_
  refine lv_iconst (v := 0) hx hb dL_planets_2 (by decide) ?_
  refine lv_aload_n hx hb dL_planets_3 rfl (lv_at hl 0 rfl) ?_
  refine lv_iload_n hx hb dL_planets_4 rfl (lv_at hl 1 rfl) ?_
  refine lv_iload_n hx hb dL_planets_5 rfl (lv_at hl 2 rfl) ?_
  refine lv_iload_n hx hb dL_planets_6 rfl (lv_at hl 3 rfl) ?_
  have hFc := free_all hD hS hA
  obtain ⟨k1, gk1, hk1⟩ := wGt (cy := cy) X S h_o1.1 h_o1.2.1
  refine vx_calli (vx_runV (As := [.int x1, .int x2, .int x3]) (rest := [.int (0 : Int32), .ref qo]) ⟨hx, hb, hml, hown, hts⟩ (c_X9_planets l hst (e0 := e0) (mi := mi) (cy := cy) (X := X) (D := D) S _ o1 h_o1 x1 x2 x3 (hW)) (cwV 3 hts gL_planets_X9_planets rfl rfl rfl hd_X9_planets ⟨Nat.le_of_ble_eq_true rfl, Nat.le_of_ble_eq_true rfl⟩) (pVto (va_recv hK hP (q := (RX9, TX9, 11)) (ci := 13) (q0 := k1) rfl hk1) hP hK hD hN hTH hOU hS hFc) rfl rfl hl.1 rfl (lv_room (Nat.le_of_ble_eq_true rfl)) dL_planets_7 ⟨Nat.le_of_ble_eq_true rfl, Nat.le_of_ble_eq_true rfl⟩) hS (fun q _ h => hFc q h) hFc (fun q _ h => hFc q h) (fun E ce q9 u t H1 locs ht hvm hw hB hz1 hk1 hS hq9 hce hcl => ?_) (fun r2 u t H1 locs ht hvm hw hB hz1 hk1 hS => ?_)
  · obtain ⟨c3, hEc3, hB2⟩ := hB
    obtain ⟨hP, hD⟩ := wd_post hFc ht hB2
    have hE9 := hEc3
    simp only [List.mem_cons, List.not_mem_nil, or_false] at hE9
    clear hEc3
    subst hE9
    refine vx_catch (own := RL) (name := "java/lang/IllegalArgumentException") hown [] ⟨0, 12, 15, 13⟩ [] (htab.trans rfl) (List.forall_mem_nil _) (by decide) (by decide) (hts (.classLink RL 13 "java/lang/IllegalArgumentException") (by decide +kernel)) (va_Nw.use rfl (hTH.2.1 (.castable "java/lang/IllegalArgumentException" "java/lang/IllegalArgumentException") (by decide +kernel))) hq9 hce hcl ?_
    generalize H1 = H at hP hS ⊢
    refine lv_astore (lv' := [(5, .ref q9), (0, .ref o1), (1, .int x1), (2, .int x2), (3, .int x3), (4, .ref qo)]) hx hb dL_planets_15 hl (by decide) rfl (fun ls hl => ?_)
    refine lv_iconst (v := 1) hx hb dL_planets_17 (by decide) ?_
    refine W.widen (k := 3) (n := 18) (Nat.le_of_ble_eq_true rfl) (Nat.le_of_ble_eq_true rfl) ?_
    subst hXe
    exact W.iret (v := (1 : Int32)) hx hb hr (fun t ht hW9 => ⟨⟨(1 : Int32), (S, fo), rfl, t0, wx_end hP hKX hD ht hW9.alike⟩, hS.F ht⟩) hS.2.2 dL_planets_18 hlocks
  · have c4 := hw
    obtain ⟨hP, hD⟩ := wd_post hFc ht hB
    generalize H1 = H at hP hS ⊢
    refine lv_i2l hx hb dL_planets_10 rfl ?_
    subst hXe
    refine va_last hx hb hKX hP hD hS 0 8 rfl rfl (inb (m := 1) rfl (by decide) (by decide)) dL_planets_11 (fun H locs hP2 hD2 hS => ?_)
    have hP : va_P D vwCl ((XO c8 c9 qo qd (vp_updL fo (0 : Int32).toNatClampNeg r2.toInt64) fd) ++ PL cy S) H := hP2
    have hD : va_D A ((XO c8 c9 qo qd (vp_updL fo (0 : Int32).toNatClampNeg r2.toInt64) fd) ++ PL cy S) := hD2
    clear hP2 hD2
    refine lv_goto (tgt := 19) hx hb dL_planets_12 (by decide) ?_
    refine lv_iconst (v := 0) hx hb dL_planets_19 (by decide) ?_
    refine W.widen (k := 3) (n := 18) (Nat.le_of_ble_eq_true rfl) (Nat.le_of_ble_eq_true rfl) ?_
    exact W.iret (v := (0 : Int32)) hx hb hr (fun t ht hW9 => ⟨⟨(0 : Int32), (S, (vp_updL fo (0 : Int32).toNatClampNeg r2.toInt64)), rfl, t0, wx_end hP hKX hD ht hW9.alike⟩, hS.F ht⟩) hS.2.2 dL_planets_20 hlocks
set_option maxHeartbeats 4000000 in
set_option maxRecDepth 100000 in
theorem c_L_rings (l : Launch) (hst : l.stackTraces = false) {e0 mi : Nat} {D : va_G} {cy : Nat → ClassId} {c8 c9 : ClassId} (qo qd : Nat) (fo : Nat → Int64) (fd : Nat → UInt64) (S : wPS) (sz : Nat) (o1 : Nat) (h_o1 : isA S o1 9) (x1 : Int32) (x2 : Int32) (x3 : Int32) (x4 : Int32) (hW : wtB S []) : Met l yL_rings wsL_rings ({ frames := 9, cells := 4, slots := 24, locals := 152 }) (va_Pc [.ref o1, .int x1, .int x2, .int x3, .int x4, .ref qo] (fun U => U.heap.size = sz ∧ WX D cy c8 c9 (XO c8 c9 qo qd fo fd) (fun _ => True) S U ∧ NW U ∧ TH (va_A (XO c8 c9 qo qd fo fd ++ PL cy S) sz) U ∧ OU e0 mi (va_A (XO c8 c9 qo qd fo fd ++ PL cy S) sz) U U.heap ∧ NC U)) (va_Qi (fun (r : Int32) (u : wPS × (Nat → Int64)) => stp ([] : List (Nat × Nat)) [] [] S u.1) (fun u t => WX D cy c8 c9 (XO c8 c9 qo qd u.2 fd) (va_A (XO c8 c9 qo qd fo fd ++ PL cy S) sz) u.1 t) (va_A (XO c8 c9 qo qd fo fd ++ PL cy S) sz)) 4 24 (va_A (XO c8 c9 qo qd fo fd ++ PL cy S) sz) := by
  refine Met.ofWH (cc := cL_rings) (maxL := 7) (ret := (some .int)) (by decide) rfl ?_
  intro p e s m args below meth c s₁ B hml hv
  obtain ⟨rfl, hsz, ⟨hP, hKX, hD0⟩, hN, hTH, hOU, hNC⟩ := hv
  have hx := B.exec
  have hb := B.bytes
  have hr := B.returns
  have hts := atoms_spec (ws := wsL_rings) B.pre
  have hown : s.vm.findClass RL = some m.cls := findClass_of_methodNamed (x := yL_rings) B.named
  have hlocks := B.notSynchronized
  have htab := vx_table (x := yL_rings) B (hts (.codeWith yL_rings cL_rings 7 (some .int) [(0, 14, 17, 13)]) List.mem_cons_self)
  have hK := kX hKX
  subst hsz
  have hD := hD0.self (sz := s.heap.size)
  generalize hAe : va_A (XO c8 c9 qo qd fo fd ++ PL cy S) s.heap.size = A at hD hTH hOU ⊢
  generalize hXe : XO c8 c9 qo qd fo fd = X at hP hD
  have hA : ∀ q : Nat, s.heap.size ≤ q → A q := fun q h => by rw [← hAe]; exact Or.inr h
  have hS : va_S A s.heap s.heap [] := va_S.rf
  have hl := lv_entry ([.ref o1, .int x1, .int x2, .int x3, .int x4, .ref qo]) (n := 7) (Nat.le_of_ble_eq_true rfl)
  rw [lg_entry_eq]
  generalize (lg_sl ([.ref o1, .int x1, .int x2, .int x3, .int x4, .ref qo]) ++ List.replicate (7 - (lg_sl ([.ref o1, .int x1, .int x2, .int x3, .int x4, .ref qo])).length) Slot.unset).toArray = ls at hl ⊢
  have hl : lv_has ls 7 [(0, .ref o1), (1, .int x1), (2, .int x2), (3, .int x3), (4, .int x4), (5, .ref qo)] := hl
  have t0 : stp ([] : List (Nat × Nat)) [] [] S S := stp.rf hW
  refine lv_aload hx hb dL_rings_0 (lv_at hl 5 rfl) ?_
  refine lv_iconst (v := 0) hx hb dL_rings_2 (by decide) ?_
  refine lv_aload_n hx hb dL_rings_3 rfl (lv_at hl 0 rfl) ?_
  refine lv_iload_n hx hb dL_rings_4 rfl (lv_at hl 1 rfl) ?_
  refine lv_iload_n hx hb dL_rings_5 rfl (lv_at hl 2 rfl) ?_
  refine lv_iload_n hx hb dL_rings_6 rfl (lv_at hl 3 rfl) ?_
  refine lv_iload hx hb dL_rings_7 (lv_at hl 4 rfl) ?_
  have hFc := free_all hD hS hA
  obtain ⟨k1, gk1, hk1⟩ := wGt (cy := cy) X S h_o1.1 h_o1.2.1
  refine vx_calli (vx_runV (As := [.int x1, .int x2, .int x3, .int x4]) (rest := [.int (0 : Int32), .ref qo]) ⟨hx, hb, hml, hown, hts⟩ (c_X9_rings l hst (e0 := e0) (mi := mi) (cy := cy) (X := X) (D := D) S _ o1 h_o1 x1 x2 x3 x4 (hW)) (cwV 4 hts gL_rings_X9_rings rfl rfl rfl hd_X9_rings ⟨Nat.le_of_ble_eq_true rfl, Nat.le_of_ble_eq_true rfl⟩) (pVto (va_recv hK hP (q := (RX9, TX9, 11)) (ci := 13) (q0 := k1) rfl hk1) hP hK hD hN hTH hOU hS hFc) rfl rfl hl.1 rfl (lv_room (Nat.le_of_ble_eq_true rfl)) dL_rings_9 ⟨Nat.le_of_ble_eq_true rfl, Nat.le_of_ble_eq_true rfl⟩) hS (fun q _ h => hFc q h) hFc (fun q _ h => hFc q h) (fun E ce q9 u t H1 locs ht hvm hw hB hz1 hk1 hS hq9 hce hcl => ?_) (fun r2 u t H1 locs ht hvm hw hB hz1 hk1 hS => ?_)
  · obtain ⟨c3, hEc3, hB2⟩ := hB
    obtain ⟨hP, hD⟩ := wd_post hFc ht hB2
    have hE9 := hEc3
    simp only [List.mem_cons, List.not_mem_nil, or_false] at hE9
    clear hEc3
    subst hE9
    refine vx_catch (own := RL) (name := "java/lang/IllegalArgumentException") hown [] ⟨0, 14, 17, 13⟩ [] (htab.trans rfl) (List.forall_mem_nil _) (by decide) (by decide) (hts (.classLink RL 13 "java/lang/IllegalArgumentException") (by decide +kernel)) (va_Nw.use rfl (hTH.2.1 (.castable "java/lang/IllegalArgumentException" "java/lang/IllegalArgumentException") (by decide +kernel))) hq9 hce hcl ?_
    generalize H1 = H at hP hS ⊢
    refine lv_astore (lv' := [(6, .ref q9), (0, .ref o1), (1, .int x1), (2, .int x2), (3, .int x3), (4, .int x4), (5, .ref qo)]) hx hb dL_rings_17 hl (by decide) rfl (fun ls hl => ?_)
    refine lv_iconst (v := 1) hx hb dL_rings_19 (by decide) ?_
    refine W.widen (k := 4) (n := 24) (Nat.le_of_ble_eq_true rfl) (Nat.le_of_ble_eq_true rfl) ?_
    subst hXe
    exact W.iret (v := (1 : Int32)) hx hb hr (fun t ht hW9 => ⟨⟨(1 : Int32), (S, fo), rfl, t0, wx_end hP hKX hD ht hW9.alike⟩, hS.F ht⟩) hS.2.2 dL_rings_20 hlocks
  · have c4 := hw
    obtain ⟨hP, hD⟩ := wd_post hFc ht hB
    generalize H1 = H at hP hS ⊢
    refine lv_i2l hx hb dL_rings_12 rfl ?_
    subst hXe
    refine va_last hx hb hKX hP hD hS 0 8 rfl rfl (inb (m := 1) rfl (by decide) (by decide)) dL_rings_13 (fun H locs hP2 hD2 hS => ?_)
    have hP : va_P D vwCl ((XO c8 c9 qo qd (vp_updL fo (0 : Int32).toNatClampNeg r2.toInt64) fd) ++ PL cy S) H := hP2
    have hD : va_D A ((XO c8 c9 qo qd (vp_updL fo (0 : Int32).toNatClampNeg r2.toInt64) fd) ++ PL cy S) := hD2
    clear hP2 hD2
    refine lv_goto (tgt := 21) hx hb dL_rings_14 (by decide) ?_
    refine lv_iconst (v := 0) hx hb dL_rings_21 (by decide) ?_
    refine W.widen (k := 4) (n := 24) (Nat.le_of_ble_eq_true rfl) (Nat.le_of_ble_eq_true rfl) ?_
    exact W.iret (v := (0 : Int32)) hx hb hr (fun t ht hW9 => ⟨⟨(0 : Int32), (S, (vp_updL fo (0 : Int32).toNatClampNeg r2.toInt64)), rfl, t0, wx_end hP hKX hD ht hW9.alike⟩, hS.F ht⟩) hS.2.2 dL_rings_22 hlocks
set_option maxHeartbeats 4000000 in
set_option maxRecDepth 100000 in
theorem c_L_wheel (l : Launch) (hst : l.stackTraces = false) {e0 mi : Nat} {D : va_G} {cy : Nat → ClassId} {c8 c9 : ClassId} (qo qd : Nat) (fo : Nat → Int64) (fd : Nat → UInt64) (S : wPS) (sz : Nat) (o1 : Nat) (h_o1 : isA S o1 9) (x1 : Int32) (hW : wtB S []) : Met l yL_wheel wsL_wheel ({ frames := 8, cells := 2, slots := 12, locals := 125 }) (va_Pc [.ref o1, .int x1, .ref qo] (fun U => U.heap.size = sz ∧ WX D cy c8 c9 (XO c8 c9 qo qd fo fd) (fun _ => True) S U ∧ NW U ∧ TH (va_A (XO c8 c9 qo qd fo fd ++ PL cy S) sz) U ∧ OU e0 mi (va_A (XO c8 c9 qo qd fo fd ++ PL cy S) sz) U U.heap ∧ NC U)) (va_Qi (fun (r : Int32) (u : wPS × (Nat → Int64)) => stp [(0, 2), (27, 100)] [] [] S u.1) (fun u t => WX D cy c8 c9 (XO c8 c9 qo qd u.2 fd) (va_A (XO c8 c9 qo qd fo fd ++ PL cy S) sz) u.1 t) (va_A (XO c8 c9 qo qd fo fd ++ PL cy S) sz)) 2 12 (va_A (XO c8 c9 qo qd fo fd ++ PL cy S) sz) := by
  refine Met.ofWH (cc := cL_wheel) (maxL := 4) (ret := (some .int)) (by decide) rfl ?_
  intro p e s m args below meth c s₁ B hml hv
  obtain ⟨rfl, hsz, ⟨hP, hKX, hD0⟩, hN, hTH, hOU, hNC⟩ := hv
  have hx := B.exec
  have hb := B.bytes
  have hr := B.returns
  have hts := atoms_spec (ws := wsL_wheel) B.pre
  have hown : s.vm.findClass RL = some m.cls := findClass_of_methodNamed (x := yL_wheel) B.named
  have hlocks := B.notSynchronized
  have htab := vx_table (x := yL_wheel) B (hts (.codeWith yL_wheel cL_wheel 4 (some .int) [(0, 9, 12, 13), (0, 9, 15, 15)]) List.mem_cons_self)
  have hK := kX hKX
  subst hsz
  have hD := hD0.self (sz := s.heap.size)
  generalize hAe : va_A (XO c8 c9 qo qd fo fd ++ PL cy S) s.heap.size = A at hD hTH hOU ⊢
  generalize hXe : XO c8 c9 qo qd fo fd = X at hP hD
  have hA : ∀ q : Nat, s.heap.size ≤ q → A q := fun q h => by rw [← hAe]; exact Or.inr h
  have hS : va_S A s.heap s.heap [] := va_S.rf
  have hl := lv_entry ([.ref o1, .int x1, .ref qo]) (n := 4) (Nat.le_of_ble_eq_true rfl)
  rw [lg_entry_eq]
  generalize (lg_sl ([.ref o1, .int x1, .ref qo]) ++ List.replicate (4 - (lg_sl ([.ref o1, .int x1, .ref qo])).length) Slot.unset).toArray = ls at hl ⊢
  have hl : lv_has ls 4 [(0, .ref o1), (1, .int x1), (2, .ref qo)] := hl
  have t0 : stp [(0, 2), (27, 100)] [] [] S S := stp.rf hW
  refine lv_aload_n hx hb dL_wheel_0 rfl (lv_at hl 2 rfl) ?_
  refine lv_iconst (v := 0) hx hb dL_wheel_1 (by decide) ?_
  refine lv_aload_n hx hb dL_wheel_2 rfl (lv_at hl 0 rfl) ?_
  refine lv_iload_n hx hb dL_wheel_3 rfl (lv_at hl 1 rfl) ?_
  have hFc := free_all hD hS hA
  obtain ⟨k1, gk1, hk1⟩ := wGt (cy := cy) X S h_o1.1 h_o1.2.1
  refine vx_calli (vx_runV (As := [.int x1]) (rest := [.int (0 : Int32), .ref qo]) ⟨hx, hb, hml, hown, hts⟩ (c_X9_wheel l hst (cy := cy) (X := X) (D := D) S _ o1 h_o1 x1 (hW)) (cwV 1 hts gL_wheel_X9_wheel rfl rfl rfl hd_X9_wheel ⟨Nat.le_of_ble_eq_true rfl, Nat.le_of_ble_eq_true rfl⟩) (pVt (va_recv hK hP (q := (RX9, TX9, 11)) (ci := 13) (q0 := k1) rfl hk1) hP hK hD hN hTH hS hFc) rfl rfl hl.1 rfl (lv_room (Nat.le_of_ble_eq_true rfl)) dL_wheel_4 ⟨Nat.le_of_ble_eq_true rfl, Nat.le_of_ble_eq_true rfl⟩) hS (fun q _ h => hFc q h) hFc (fun q _ h => hFc q h) (fun E ce q9 u t H1 locs ht hvm hw hB hz1 hk1 hS hq9 hce hcl => ?_) (fun r2 u t H1 locs ht hvm hw hB hz1 hk1 hS => ?_)
  · obtain ⟨c3, hEc3, hXc3, hB2⟩ := hB
    obtain ⟨hP, hD⟩ := wd_post hFc ht hB2
    have t4 : stp [(0, 2), (27, 100)] [] [] S u := t0.tr hw (by decide) (fun _ q => absurd q List.not_mem_nil)
    have xe5 : ext S u := hw.x
    have hE9 := hEc3
    simp only [List.mem_cons, List.not_mem_nil, or_false] at hE9
    clear hEc3
    rcases hE9 with rfl | rfl
    · refine vx_catch (own := RL) (name := "java/lang/IllegalArgumentException") hown [] ⟨0, 9, 12, 13⟩ [⟨0, 9, 15, 15⟩] (htab.trans rfl) (List.forall_mem_nil _) (by decide) (by decide) (hts (.classLink RL 13 "java/lang/IllegalArgumentException") (by decide +kernel)) (va_Nw.use rfl (hTH.2.1 (.castable "java/lang/IllegalArgumentException" "java/lang/IllegalArgumentException") (by decide +kernel))) hq9 hce hcl ?_
      generalize H1 = H at hP hS ⊢
      refine lv_astore_n (lv' := [(3, .ref q9), (0, .ref o1), (1, .int x1), (2, .ref qo)]) hx hb dL_wheel_12 rfl hl (by decide) rfl (fun ls hl => ?_)
      refine lv_iconst (v := 1) hx hb dL_wheel_13 (by decide) ?_
      refine W.widen (k := 2) (n := 12) (Nat.le_of_ble_eq_true rfl) (Nat.le_of_ble_eq_true rfl) ?_
      subst hXe
      exact W.iret (v := (1 : Int32)) hx hb hr (fun t ht hW9 => ⟨⟨(1 : Int32), (u, fo), rfl, t4, wx_end hP hKX hD ht hW9.alike⟩, hS.F ht⟩) hS.2.2 dL_wheel_14 hlocks
    · refine vx_catch (own := RL) (name := "java/lang/IllegalStateException") hown [⟨0, 9, 12, 13⟩] ⟨0, 9, 15, 15⟩ [] (htab.trans rfl) (List.forall_mem_cons.mpr ⟨Or.inr ⟨by decide, "java/lang/IllegalArgumentException", hts (.classLink RL 13 "java/lang/IllegalArgumentException") (by decide +kernel), hNC ("java/lang/IllegalStateException", "java/lang/IllegalArgumentException") (by decide +kernel)⟩, (List.forall_mem_nil _)⟩) (by decide) (by decide) (hts (.classLink RL 15 "java/lang/IllegalStateException") (by decide +kernel)) (va_Nw.use rfl (hTH.2.1 (.castable "java/lang/IllegalStateException" "java/lang/IllegalStateException") (by decide +kernel))) hq9 hce hcl ?_
      generalize H1 = H at hP hS ⊢
      refine lv_astore_n (lv' := [(3, .ref q9), (0, .ref o1), (1, .int x1), (2, .ref qo)]) hx hb dL_wheel_15 rfl hl (by decide) rfl (fun ls hl => ?_)
      refine lv_iconst (v := 2) hx hb dL_wheel_16 (by decide) ?_
      refine W.widen (k := 2) (n := 12) (Nat.le_of_ble_eq_true rfl) (Nat.le_of_ble_eq_true rfl) ?_
      subst hXe
      exact W.iret (v := (2 : Int32)) hx hb hr (fun t ht hW9 => ⟨⟨(2 : Int32), (u, fo), rfl, t4, wx_end hP hKX hD ht hW9.alike⟩, hS.F ht⟩) hS.2.2 dL_wheel_17 hlocks
  · obtain ⟨c6, w7, y8⟩ := hw
    obtain ⟨hP, hD⟩ := wd_post hFc ht hB
    generalize H1 = H at hP hS ⊢
    obtain ⟨S9, rfl⟩ : ∃ z, z = u := ⟨_, rfl⟩
    have t10 : stp [(0, 2), (27, 100)] [] [] S S9 := t0.tr w7 (by decide) (fun _ q => absurd q List.not_mem_nil)
    have xe11 : ext S S9 := w7.x
    refine lv_i2l hx hb dL_wheel_7 rfl ?_
    subst hXe
    refine va_last hx hb hKX hP hD hS 0 8 rfl rfl (inb (m := 1) rfl (by decide) (by decide)) dL_wheel_8 (fun H locs hP2 hD2 hS => ?_)
    have hP : va_P D vwCl ((XO c8 c9 qo qd (vp_updL fo (0 : Int32).toNatClampNeg r2.toInt64) fd) ++ PL cy S9) H := hP2
    have hD : va_D A ((XO c8 c9 qo qd (vp_updL fo (0 : Int32).toNatClampNeg r2.toInt64) fd) ++ PL cy S9) := hD2
    clear hP2 hD2
    refine lv_goto (tgt := 18) hx hb dL_wheel_9 (by decide) ?_
    refine lv_iconst (v := 0) hx hb dL_wheel_18 (by decide) ?_
    refine W.widen (k := 2) (n := 12) (Nat.le_of_ble_eq_true rfl) (Nat.le_of_ble_eq_true rfl) ?_
    exact W.iret (v := (0 : Int32)) hx hb hr (fun t ht hW9 => ⟨⟨(0 : Int32), (S9, (vp_updL fo (0 : Int32).toNatClampNeg r2.toInt64)), rfl, t10, wx_end hP hKX hD ht hW9.alike⟩, hS.F ht⟩) hS.2.2 dL_wheel_19 hlocks
set_option maxHeartbeats 4000000 in
set_option maxRecDepth 100000 in
theorem c_L_change (l : Launch) (hst : l.stackTraces = false) {e0 mi : Nat} {D : va_G} {cy : Nat → ClassId} {c8 c9 : ClassId} (qo qd : Nat) (fo : Nat → Int64) (fd : Nat → UInt64) (S : wPS) (sz : Nat) (o1 : Nat) (h_o1 : isA S o1 9) (x1 : Int32) (x2 : Int32) (x3 : Int32) (hW : wtB S []) : Met l yL_change wsL_change ({ frames := 9, cells := 4, slots := 24, locals := 148 }) (va_Pc [.ref o1, .int x1, .int x2, .int x3, .ref qo] (fun U => U.heap.size = sz ∧ WX D cy c8 c9 (XO c8 c9 qo qd fo fd) (fun _ => True) S U ∧ NW U ∧ TH (va_A (XO c8 c9 qo qd fo fd ++ PL cy S) sz) U ∧ OU e0 mi (va_A (XO c8 c9 qo qd fo fd ++ PL cy S) sz) U U.heap ∧ NC U)) (va_Qi (fun (r : Int32) (u : wPS × (Nat → Int64)) => stp [(0, 3), (0, 4), (0, 5), (0, 6), (17, 100)] [] [] S u.1) (fun u t => WX D cy c8 c9 (XO c8 c9 qo qd u.2 fd) (va_A (XO c8 c9 qo qd fo fd ++ PL cy S) sz) u.1 t) (va_A (XO c8 c9 qo qd fo fd ++ PL cy S) sz)) 4 24 (va_A (XO c8 c9 qo qd fo fd ++ PL cy S) sz) := by
  refine Met.ofWH (cc := cL_change) (maxL := 6) (ret := (some .int)) (by decide) rfl ?_
  intro p e s m args below meth c s₁ B hml hv
  obtain ⟨rfl, hsz, ⟨hP, hKX, hD0⟩, hN, hTH, hOU, hNC⟩ := hv
  have hx := B.exec
  have hb := B.bytes
  have hr := B.returns
  have hts := atoms_spec (ws := wsL_change) B.pre
  have hown : s.vm.findClass RL = some m.cls := findClass_of_methodNamed (x := yL_change) B.named
  have hlocks := B.notSynchronized
  have htab := vx_table (x := yL_change) B (hts (.codeWith yL_change cL_change 6 (some .int) [(0, 12, 15, 13), (0, 12, 19, 62)]) List.mem_cons_self)
  have hK := kX hKX
  subst hsz
  have hD := hD0.self (sz := s.heap.size)
  generalize hAe : va_A (XO c8 c9 qo qd fo fd ++ PL cy S) s.heap.size = A at hD hTH hOU ⊢
  generalize hXe : XO c8 c9 qo qd fo fd = X at hP hD
  have hA : ∀ q : Nat, s.heap.size ≤ q → A q := fun q h => by rw [← hAe]; exact Or.inr h
  have hS : va_S A s.heap s.heap [] := va_S.rf
  have hl := lv_entry ([.ref o1, .int x1, .int x2, .int x3, .ref qo]) (n := 6) (Nat.le_of_ble_eq_true rfl)
  rw [lg_entry_eq]
  generalize (lg_sl ([.ref o1, .int x1, .int x2, .int x3, .ref qo]) ++ List.replicate (6 - (lg_sl ([.ref o1, .int x1, .int x2, .int x3, .ref qo])).length) Slot.unset).toArray = ls at hl ⊢
  have hl : lv_has ls 6 [(0, .ref o1), (1, .int x1), (2, .int x2), (3, .int x3), (4, .ref qo)] := hl
  have t0 : stp [(0, 3), (0, 4), (0, 5), (0, 6), (17, 100)] [] [] S S := stp.rf hW
  refine lv_aload hx hb dL_change_0 (lv_at hl 4 rfl) ?_
  refine lv_iconst (v := 0) hx hb dL_change_2 (by decide) ?_
  refine lv_aload_n hx hb dL_change_3 rfl (lv_at hl 0 rfl) ?_
  refine lv_iload_n hx hb dL_change_4 rfl (lv_at hl 1 rfl) ?_
  refine lv_iload_n hx hb dL_change_5 rfl (lv_at hl 2 rfl) ?_
  refine lv_iload_n hx hb dL_change_6 rfl (lv_at hl 3 rfl) ?_
  have hFc := free_all hD hS hA
  obtain ⟨k1, gk1, hk1⟩ := wGt (cy := cy) X S h_o1.1 h_o1.2.1
  refine vx_calli (vx_runV (As := [.int x1, .int x2, .int x3]) (rest := [.int (0 : Int32), .ref qo]) ⟨hx, hb, hml, hown, hts⟩ (c_X9_change l hst (cy := cy) (X := X) (D := D) S _ o1 h_o1 x1 x2 x3 (hW)) (cwV 3 hts gL_change_X9_change rfl rfl rfl hd_X9_change ⟨Nat.le_of_ble_eq_true rfl, Nat.le_of_ble_eq_true rfl⟩) (pVt (va_recv hK hP (q := (RX9, TX9, 11)) (ci := 13) (q0 := k1) rfl hk1) hP hK hD hN hTH hS hFc) rfl rfl hl.1 rfl (lv_room (Nat.le_of_ble_eq_true rfl)) dL_change_7 ⟨Nat.le_of_ble_eq_true rfl, Nat.le_of_ble_eq_true rfl⟩) hS (fun q _ h => hFc q h) hFc (fun q _ h => hFc q h) (fun E ce q9 u t H1 locs ht hvm hw hB hz1 hk1 hS hq9 hce hcl => ?_) (fun r2 u t H1 locs ht hvm hw hB hz1 hk1 hS => ?_)
  · obtain ⟨hEc3, hB2⟩ := hB
    obtain ⟨hP, hD⟩ := wd_post hFc ht hB2
    have t4 : stp [(0, 3), (0, 4), (0, 5), (0, 6), (17, 100)] [] [] S u := t0.tr hw (by decide) (fun _ q => absurd q List.not_mem_nil)
    have xe5 : ext S u := hw.x
    have hE9 := hEc3
    simp only [List.mem_cons, List.not_mem_nil, or_false] at hE9
    clear hEc3
    rcases hE9 with rfl | rfl
    · refine vx_catch (own := RL) (name := "java/lang/IllegalArgumentException") hown [] ⟨0, 12, 15, 13⟩ [⟨0, 12, 19, 62⟩] (htab.trans rfl) (List.forall_mem_nil _) (by decide) (by decide) (hts (.classLink RL 13 "java/lang/IllegalArgumentException") (by decide +kernel)) (va_Nw.use rfl (hTH.2.1 (.castable "java/lang/IllegalArgumentException" "java/lang/IllegalArgumentException") (by decide +kernel))) hq9 hce hcl ?_
      generalize H1 = H at hP hS ⊢
      refine lv_astore (lv' := [(5, .ref q9), (0, .ref o1), (1, .int x1), (2, .int x2), (3, .int x3), (4, .ref qo)]) hx hb dL_change_15 hl (by decide) rfl (fun ls hl => ?_)
      refine lv_iconst (v := 1) hx hb dL_change_17 (by decide) ?_
      refine W.widen (k := 4) (n := 24) (Nat.le_of_ble_eq_true rfl) (Nat.le_of_ble_eq_true rfl) ?_
      subst hXe
      exact W.iret (v := (1 : Int32)) hx hb hr (fun t ht hW9 => ⟨⟨(1 : Int32), (u, fo), rfl, t4, wx_end hP hKX hD ht hW9.alike⟩, hS.F ht⟩) hS.2.2 dL_change_18 hlocks
    · refine vx_catch (own := RL) (name := "java/util/NoSuchElementException") hown [⟨0, 12, 15, 13⟩] ⟨0, 12, 19, 62⟩ [] (htab.trans rfl) (List.forall_mem_cons.mpr ⟨Or.inr ⟨by decide, "java/lang/IllegalArgumentException", hts (.classLink RL 13 "java/lang/IllegalArgumentException") (by decide +kernel), hNC ("java/util/NoSuchElementException", "java/lang/IllegalArgumentException") (by decide +kernel)⟩, (List.forall_mem_nil _)⟩) (by decide) (by decide) (hts (.classLink RL 62 "java/util/NoSuchElementException") (by decide +kernel)) (va_Nw.use rfl (hTH.2.1 (.castable "java/util/NoSuchElementException" "java/util/NoSuchElementException") (by decide +kernel))) hq9 hce hcl ?_
      generalize H1 = H at hP hS ⊢
      refine lv_astore (lv' := [(5, .ref q9), (0, .ref o1), (1, .int x1), (2, .int x2), (3, .int x3), (4, .ref qo)]) hx hb dL_change_19 hl (by decide) rfl (fun ls hl => ?_)
      refine lv_iconst (v := 2) hx hb dL_change_21 (by decide) ?_
      refine W.widen (k := 4) (n := 24) (Nat.le_of_ble_eq_true rfl) (Nat.le_of_ble_eq_true rfl) ?_
      subst hXe
      exact W.iret (v := (2 : Int32)) hx hb hr (fun t ht hW9 => ⟨⟨(2 : Int32), (u, fo), rfl, t4, wx_end hP hKX hD ht hW9.alike⟩, hS.F ht⟩) hS.2.2 dL_change_22 hlocks
  · have w6 := hw
    obtain ⟨hP, hD⟩ := wd_post hFc ht hB
    generalize H1 = H at hP hS ⊢
    obtain ⟨S7, rfl⟩ : ∃ z, z = u := ⟨_, rfl⟩
    have t8 : stp [(0, 3), (0, 4), (0, 5), (0, 6), (17, 100)] [] [] S S7 := t0.tr w6 (by decide) (fun _ q => absurd q List.not_mem_nil)
    have xe9 : ext S S7 := w6.x
    refine lv_i2l hx hb dL_change_10 rfl ?_
    subst hXe
    refine va_last hx hb hKX hP hD hS 0 8 rfl rfl (inb (m := 1) rfl (by decide) (by decide)) dL_change_11 (fun H locs hP2 hD2 hS => ?_)
    have hP : va_P D vwCl ((XO c8 c9 qo qd (vp_updL fo (0 : Int32).toNatClampNeg r2.toInt64) fd) ++ PL cy S7) H := hP2
    have hD : va_D A ((XO c8 c9 qo qd (vp_updL fo (0 : Int32).toNatClampNeg r2.toInt64) fd) ++ PL cy S7) := hD2
    clear hP2 hD2
    refine lv_goto (tgt := 23) hx hb dL_change_12 (by decide) ?_
    refine lv_iconst (v := 0) hx hb dL_change_23 (by decide) ?_
    refine W.widen (k := 4) (n := 24) (Nat.le_of_ble_eq_true rfl) (Nat.le_of_ble_eq_true rfl) ?_
    exact W.iret (v := (0 : Int32)) hx hb hr (fun t ht hW9 => ⟨⟨(0 : Int32), (S7, (vp_updL fo (0 : Int32).toNatClampNeg r2.toInt64)), rfl, t8, wx_end hP hKX hD ht hW9.alike⟩, hS.F ht⟩) hS.2.2 dL_change_24 hlocks
set_option maxHeartbeats 4000000 in
set_option maxRecDepth 100000 in
theorem c_L_meets (l : Launch) (hst : l.stackTraces = false) {e0 mi : Nat} {D : va_G} {cy : Nat → ClassId} {c8 c9 : ClassId} (qo qd : Nat) (fo : Nat → Int64) (fd : Nat → UInt64) (S : wPS) (sz : Nat) (o1 : Nat) (h_o1 : isA S o1 9) (x1 : Int32) (x2 : Int32) (x3 : Int32) (hW : wtB S []) : Met l yL_meets wsL_meets ({ frames := 9, cells := 4, slots := 24, locals := 148 }) (va_Pc [.ref o1, .int x1, .int x2, .int x3, .ref qo] (fun U => U.heap.size = sz ∧ WX D cy c8 c9 (XO c8 c9 qo qd fo fd) (fun _ => True) S U ∧ NW U ∧ TH (va_A (XO c8 c9 qo qd fo fd ++ PL cy S) sz) U ∧ OU e0 mi (va_A (XO c8 c9 qo qd fo fd ++ PL cy S) sz) U U.heap ∧ NC U)) (va_Qi (fun (r : Int32) (u : wPS × (Nat → Int64)) => stp [(0, 3), (0, 4), (0, 5), (0, 6), (17, 100)] [] [] S u.1) (fun u t => WX D cy c8 c9 (XO c8 c9 qo qd u.2 fd) (va_A (XO c8 c9 qo qd fo fd ++ PL cy S) sz) u.1 t) (va_A (XO c8 c9 qo qd fo fd ++ PL cy S) sz)) 4 24 (va_A (XO c8 c9 qo qd fo fd ++ PL cy S) sz) := by
  refine Met.ofWH (cc := cL_meets) (maxL := 6) (ret := (some .int)) (by decide) rfl ?_
  intro p e s m args below meth c s₁ B hml hv
  obtain ⟨rfl, hsz, ⟨hP, hKX, hD0⟩, hN, hTH, hOU, hNC⟩ := hv
  have hx := B.exec
  have hb := B.bytes
  have hr := B.returns
  have hts := atoms_spec (ws := wsL_meets) B.pre
  have hown : s.vm.findClass RL = some m.cls := findClass_of_methodNamed (x := yL_meets) B.named
  have hlocks := B.notSynchronized
  have htab := vx_table (x := yL_meets) B (hts (.codeWith yL_meets cL_meets 6 (some .int) [(0, 19, 22, 13), (0, 19, 26, 62)]) List.mem_cons_self)
  have hK := kX hKX
  subst hsz
  have hD := hD0.self (sz := s.heap.size)
  generalize hAe : va_A (XO c8 c9 qo qd fo fd ++ PL cy S) s.heap.size = A at hD hTH hOU ⊢
  generalize hXe : XO c8 c9 qo qd fo fd = X at hP hD
  have hA : ∀ q : Nat, s.heap.size ≤ q → A q := fun q h => by rw [← hAe]; exact Or.inr h
  have hS : va_S A s.heap s.heap [] := va_S.rf
  have hl := lv_entry ([.ref o1, .int x1, .int x2, .int x3, .ref qo]) (n := 6) (Nat.le_of_ble_eq_true rfl)
  rw [lg_entry_eq]
  generalize (lg_sl ([.ref o1, .int x1, .int x2, .int x3, .ref qo]) ++ List.replicate (6 - (lg_sl ([.ref o1, .int x1, .int x2, .int x3, .ref qo])).length) Slot.unset).toArray = ls at hl ⊢
  have hl : lv_has ls 6 [(0, .ref o1), (1, .int x1), (2, .int x2), (3, .int x3), (4, .ref qo)] := hl
  have t0 : stp [(0, 3), (0, 4), (0, 5), (0, 6), (17, 100)] [] [] S S := stp.rf hW
  refine lv_aload hx hb dL_meets_0 (lv_at hl 4 rfl) ?_
  refine lv_iconst (v := 0) hx hb dL_meets_2 (by decide) ?_
  refine lv_aload_n hx hb dL_meets_3 rfl (lv_at hl 0 rfl) ?_
  refine lv_iload_n hx hb dL_meets_4 rfl (lv_at hl 1 rfl) ?_
  refine lv_iload_n hx hb dL_meets_5 rfl (lv_at hl 2 rfl) ?_
  refine lv_iload_n hx hb dL_meets_6 rfl (lv_at hl 3 rfl) ?_
  have hFc := free_all hD hS hA
  obtain ⟨k1, gk1, hk1⟩ := wGt (cy := cy) X S h_o1.1 h_o1.2.1
  refine vx_calli (vx_runV (As := [.int x1, .int x2, .int x3]) (rest := [.int (0 : Int32), .ref qo]) ⟨hx, hb, hml, hown, hts⟩ (c_X9_meets l hst (cy := cy) (X := X) (D := D) S _ o1 h_o1 x1 x2 x3 (hW)) (cwV 3 hts gL_meets_X9_meets rfl rfl rfl hd_X9_meets ⟨Nat.le_of_ble_eq_true rfl, Nat.le_of_ble_eq_true rfl⟩) (pVt (va_recv hK hP (q := (RX9, TX9, 11)) (ci := 13) (q0 := k1) rfl hk1) hP hK hD hN hTH hS hFc) rfl rfl hl.1 rfl (lv_room (Nat.le_of_ble_eq_true rfl)) dL_meets_7 ⟨Nat.le_of_ble_eq_true rfl, Nat.le_of_ble_eq_true rfl⟩) hS (fun q _ h => hFc q h) hFc (fun q _ h => hFc q h) (fun E ce q9 u t H1 locs ht hvm hw hB hz1 hk1 hS hq9 hce hcl => ?_) (fun r2 u t H1 locs ht hvm hw hB hz1 hk1 hS => ?_)
  · obtain ⟨hEc3, hB2⟩ := hB
    obtain ⟨hP, hD⟩ := wd_post hFc ht hB2
    have t4 : stp [(0, 3), (0, 4), (0, 5), (0, 6), (17, 100)] [] [] S u := t0.tr hw (by decide) (fun _ q => absurd q List.not_mem_nil)
    have xe5 : ext S u := hw.x
    have hE9 := hEc3
    simp only [List.mem_cons, List.not_mem_nil, or_false] at hE9
    clear hEc3
    rcases hE9 with rfl | rfl
    · refine vx_catch (own := RL) (name := "java/lang/IllegalArgumentException") hown [] ⟨0, 19, 22, 13⟩ [⟨0, 19, 26, 62⟩] (htab.trans rfl) (List.forall_mem_nil _) (by decide) (by decide) (hts (.classLink RL 13 "java/lang/IllegalArgumentException") (by decide +kernel)) (va_Nw.use rfl (hTH.2.1 (.castable "java/lang/IllegalArgumentException" "java/lang/IllegalArgumentException") (by decide +kernel))) hq9 hce hcl ?_
      generalize H1 = H at hP hS ⊢
      refine lv_astore (lv' := [(5, .ref q9), (0, .ref o1), (1, .int x1), (2, .int x2), (3, .int x3), (4, .ref qo)]) hx hb dL_meets_22 hl (by decide) rfl (fun ls hl => ?_)
      refine lv_iconst (v := 1) hx hb dL_meets_24 (by decide) ?_
      refine W.widen (k := 4) (n := 24) (Nat.le_of_ble_eq_true rfl) (Nat.le_of_ble_eq_true rfl) ?_
      subst hXe
      exact W.iret (v := (1 : Int32)) hx hb hr (fun t ht hW9 => ⟨⟨(1 : Int32), (u, fo), rfl, t4, wx_end hP hKX hD ht hW9.alike⟩, hS.F ht⟩) hS.2.2 dL_meets_25 hlocks
    · refine vx_catch (own := RL) (name := "java/util/NoSuchElementException") hown [⟨0, 19, 22, 13⟩] ⟨0, 19, 26, 62⟩ [] (htab.trans rfl) (List.forall_mem_cons.mpr ⟨Or.inr ⟨by decide, "java/lang/IllegalArgumentException", hts (.classLink RL 13 "java/lang/IllegalArgumentException") (by decide +kernel), hNC ("java/util/NoSuchElementException", "java/lang/IllegalArgumentException") (by decide +kernel)⟩, (List.forall_mem_nil _)⟩) (by decide) (by decide) (hts (.classLink RL 62 "java/util/NoSuchElementException") (by decide +kernel)) (va_Nw.use rfl (hTH.2.1 (.castable "java/util/NoSuchElementException" "java/util/NoSuchElementException") (by decide +kernel))) hq9 hce hcl ?_
      generalize H1 = H at hP hS ⊢
      refine lv_astore (lv' := [(5, .ref q9), (0, .ref o1), (1, .int x1), (2, .int x2), (3, .int x3), (4, .ref qo)]) hx hb dL_meets_26 hl (by decide) rfl (fun ls hl => ?_)
      refine lv_iconst (v := 2) hx hb dL_meets_28 (by decide) ?_
      refine W.widen (k := 4) (n := 24) (Nat.le_of_ble_eq_true rfl) (Nat.le_of_ble_eq_true rfl) ?_
      subst hXe
      exact W.iret (v := (2 : Int32)) hx hb hr (fun t ht hW9 => ⟨⟨(2 : Int32), (u, fo), rfl, t4, wx_end hP hKX hD ht hW9.alike⟩, hS.F ht⟩) hS.2.2 dL_meets_29 hlocks
  · have w6 := hw
    obtain ⟨hP, hD⟩ := wd_post hFc ht hB
    generalize H1 = H at hP hS ⊢
    obtain ⟨S7, rfl⟩ : ∃ z, z = u := ⟨_, rfl⟩
    have t8 : stp [(0, 3), (0, 4), (0, 5), (0, 6), (17, 100)] [] [] S S7 := t0.tr w6 (by decide) (fun _ q => absurd q List.not_mem_nil)
    have xe9 : ext S S7 := w6.x
    refine lv_if_eq (tgt := 17) hx hb dL_meets_10 (by decide) (fun c10 => ?_) (fun c10 => ?_)
    · have c10i : r2.toInt = 0 := eq_v rfl rfl c10
      refine lv_lconst (v := 0) hx hb dL_meets_17 (by decide) ?_
      subst hXe
      refine va_last hx hb hKX hP hD hS 0 8 rfl rfl (inb (m := 1) rfl (by decide) (by decide)) dL_meets_18 (fun H locs hP2 hD2 hS => ?_)
      have hP : va_P D vwCl ((XO c8 c9 qo qd (vp_updL fo (0 : Int32).toNatClampNeg (0 : Int64)) fd) ++ PL cy S7) H := hP2
      have hD : va_D A ((XO c8 c9 qo qd (vp_updL fo (0 : Int32).toNatClampNeg (0 : Int64)) fd) ++ PL cy S7) := hD2
      clear hP2 hD2
      refine lv_goto (tgt := 30) hx hb dL_meets_19 (by decide) ?_
      refine lv_iconst (v := 0) hx hb dL_meets_30 (by decide) ?_
      refine W.widen (k := 4) (n := 24) (Nat.le_of_ble_eq_true rfl) (Nat.le_of_ble_eq_true rfl) ?_
      exact W.iret (v := (0 : Int32)) hx hb hr (fun t ht hW9 => ⟨⟨(0 : Int32), (S7, (vp_updL fo (0 : Int32).toNatClampNeg (0 : Int64))), rfl, t8, wx_end hP hKX hD ht hW9.alike⟩, hS.F ht⟩) hS.2.2 dL_meets_31 hlocks
    · have c10i : ¬ r2.toInt = 0 := neq_v rfl rfl c10
      refine lv_lconst (v := 1) hx hb dL_meets_13 (by decide) ?_
      refine lv_goto (tgt := 18) hx hb dL_meets_14 (by decide) ?_
      subst hXe
      refine va_last hx hb hKX hP hD hS 0 8 rfl rfl (inb (m := 1) rfl (by decide) (by decide)) dL_meets_18 (fun H locs hP2 hD2 hS => ?_)
      have hP : va_P D vwCl ((XO c8 c9 qo qd (vp_updL fo (0 : Int32).toNatClampNeg (1 : Int64)) fd) ++ PL cy S7) H := hP2
      have hD : va_D A ((XO c8 c9 qo qd (vp_updL fo (0 : Int32).toNatClampNeg (1 : Int64)) fd) ++ PL cy S7) := hD2
      clear hP2 hD2
      refine lv_goto (tgt := 30) hx hb dL_meets_19 (by decide) ?_
      refine lv_iconst (v := 0) hx hb dL_meets_30 (by decide) ?_
      refine W.widen (k := 4) (n := 24) (Nat.le_of_ble_eq_true rfl) (Nat.le_of_ble_eq_true rfl) ?_
      exact W.iret (v := (0 : Int32)) hx hb hr (fun t ht hW9 => ⟨⟨(0 : Int32), (S7, (vp_updL fo (0 : Int32).toNatClampNeg (1 : Int64))), rfl, t8, wx_end hP hKX hD ht hW9.alike⟩, hS.F ht⟩) hS.2.2 dL_meets_31 hlocks
