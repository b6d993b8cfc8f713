theorem nr_ok {a lo hi : Int32} (h : f_X9_needRange a lo hi = .ok ()) : ¬ a < lo ∧ a ≤ hi := by
  unfold f_X9_needRange at h
  split at h
  · cases h
  · split at h
    · exact ⟨by assumption, by assumption⟩
    · cases h
theorem nr_ne {a hi : Int32} (h : f_X9_needRange a 1 hi = .ok ()) : ¬ a = 0 := ne_of (nr_ok h).1
def f_X9_needFourWheels (S : wPS) (o1 : Nat) : Except String Unit := if (f_X0_hasFour S (S.f o1 6)) = (0 : Int32) then .error "java/util/NoSuchElementException" else .ok ()
set_option maxRecDepth 20000 in
theorem s_X9_needFourWheels_NSEE : ∀ w ∈ (vx_atS RX9 154 "java/util/NoSuchElementException" ["java/lang/RuntimeException", "java/lang/Exception"]).filter goodWord, w ∈ wsX9_needFourWheels := fun w h => List.mem_cons_of_mem _ (List.mem_append_right _ h)
set_option maxHeartbeats 4000000 in
set_option maxRecDepth 100000 in
theorem c_X9_needFourWheels (l : Launch) (hst : l.stackTraces = false) {D : va_G} {cy : Nat → ClassId} {X : va_W} (S : wPS) (sz : Nat) (o1 : Nat) (h_o1 : ok9 S o1)  : vx_Met l yX9_needFourWheels wsX9_needFourWheels ({ frames := 6, cells := 1, slots := 6, locals := 82 }) (va_Pc [.ref o1] (fun U => U.heap.size = sz ∧ WD D cy X (fun _ => True) S U ∧ NW U ∧ TH (va_A (X ++ PL cy S) sz) U)) (va_Qv (fun (_ : Unit) => f_X9_needFourWheels S o1 = .ok ()) (fun _ t => WD D cy X (va_A (X ++ PL cy S) sz) S t) (va_A (X ++ PL cy S) sz)) (vx_X (fun (_ : Unit) => True) (fun E _ t => f_X9_needFourWheels S o1 = .error E ∧ WD D cy X (va_A (X ++ PL cy S) sz) S t) (va_A (X ++ PL cy S) sz)) 1 6 (va_A (X ++ PL cy S) sz) := by
  refine vx_ofW (cc := cX9_needFourWheels) (maxL := 1) (ret := none) (by decide) rfl ?_
  intro p e s m args below meth c s₁ B hml hno hv
  obtain ⟨rfl, hsz, ⟨hP, hK, hD0⟩, hN, hTH⟩ := hv
  have hx := B.exec
  have hb := B.bytes
  have hr := B.returns
  have hts := atoms_spec (ws := wsX9_needFourWheels) B.pre
  have hown : s.vm.findClass RX9 = some m.cls := findClass_of_methodNamed B.named
  have hlocks := B.notSynchronized
  subst hsz
  have hD := hD0.self (sz := s.heap.size)
  generalize hAe : va_A (X ++ PL cy S) s.heap.size = A at hD hTH ⊢
  have hA : ∀ q : Nat, s.heap.size ≤ q → A q := fun q h => by rw [← hAe]; exact Or.inr h
  have hS : va_S A s.heap s.heap [] := va_S.rf
  have hl := lv_entry ([.ref o1]) (n := 1) (Nat.le_of_ble_eq_true rfl)
  rw [lg_entry_eq]
  generalize (lg_sl ([.ref o1]) ++ List.replicate (1 - (lg_sl ([.ref o1])).length) Slot.unset).toArray = ls at hl ⊢
  have hl : lv_has ls 1 [(0, .ref o1)] := hl
  refine lv_aload_n hx hb dX9_needFourWheels_0 rfl (lv_at hl 0 rfl) ?_
  obtain ⟨k1, gk1, hk1⟩ := wGt (cy := cy) X S h_o1.1.1 h_o1.1.2.1
  simp only [kE, h_o1.2.2.2.2.1.1] at hk1
  refine va_get (D := D) (ci := 13) (v := .ref (S.f o1 6)) (C := RX9) (T := TX9) (N := 11) hx hb hts (by decide +kernel) hown hK hP k1 hk1 rfl 6 (by decide) (hts (.fieldLink RX9 30 "Hobhouse" "box" "LHobhouse$Box;") (by decide +kernel)) (fun _ h9 => h9) rfl dX9_needFourWheels_1 ?_
  have hFc := free_all hD hS hA
  obtain ⟨k2, gk2, hk2⟩ := wGt (cy := cy) X S h_o1.2.2.2.2.1.2.1.1 h_o1.2.2.2.2.1.2.1.2.1
  refine va_calli (va_runV (As := []) (rest := []) ⟨hx, hb, hml, hown, hts⟩ (c_X0_hasFour l (cy := cy) (X := X) (D := D) S _ (S.f o1 6) h_o1.2.2.2.2.1.2) (cwV 0 hts gX9_needFourWheels_X0_hasFour rfl rfl rfl (by decide +kernel) ⟨Nat.le_of_ble_eq_true rfl, Nat.le_of_ble_eq_true rfl⟩) ⟨fun a U g mk q => ⟨q.1, q.2.1, q.2.2.1.calling, NW.same (u := U) (U := U.calling g mk a) rfl q.2.2.2⟩, va_recv hK hP (ci := 4) (q0 := k2) rfl hk2, fun U hU hW => ⟨rfl, by rw [hU], wd_pre hP hK hD hU hW, hN.warm hW⟩⟩ rfl rfl hl.1 rfl (lv_room (Nat.le_of_ble_eq_true rfl)) dX9_needFourWheels_4 ⟨(Nat.zero_le _), (Nat.zero_le _)⟩) hS (fun q _ h => hFc q h) hFc (fun r3 u t H1 locs ht hvm hw hB hz1 hk1 hS => ?_)
  obtain ⟨hP, hD⟩ := wd_post hFc ht hB
  generalize H1 = H at hP hS ⊢
  obtain rfl : r3 = f_X0_hasFour S (S.f o1 6) := hw
  refine lv_if_ne (tgt := 21) hx hb dX9_needFourWheels_7 (by decide) (fun c4 => ?_) (fun c4 => ?_)
  · refine vx_ret ?_
    refine W.widen (k := 1) (n := 6) (Nat.le_of_ble_eq_true rfl) (Nat.le_of_ble_eq_true rfl) ?_
    exact W.vret hx hb hr (fun t ht hW => ⟨⟨(), rfl, (by show f_X9_needFourWheels S o1 = .ok (); unfold f_X9_needFourWheels; rw [if_neg c4]), wd_end hP hK hD ht hW.alike⟩, hS.F ht⟩) hS.2.2 dX9_needFourWheels_21 hlocks
  · obtain ⟨sa, hsa⟩ := hTH.2.2 (RX9, 537, "the box has fewer than 4 wheels") (by decide +kernel)
    exact vx_throwSW hx hb hst (names := ["java/lang/RuntimeException", "java/lang/Exception"]) hown (by decide +kernel) (by decide +kernel) (hts (.classLink RX9 150 "java/util/NoSuchElementException") (by decide +kernel)) (hts (.initialized "java/util/NoSuchElementException") (by decide +kernel)) hsa (th_at (B := exW_X9_NSEE) (fun w h => hts w (s_X9_needFourWheels_NSEE w h)) rfl (by simp only [exW, List.mem_append]; intro w h; simp [h]) hTH.2.1) (List.forall_mem_cons.mpr ⟨by decide +kernel, List.forall_mem_cons.mpr ⟨by decide +kernel, exW_X9_NSEE_ok⟩⟩) hTH.1.1 hTH.1.2 hS (hl.1.trans hml.symm) dX9_needFourWheels_10 dX9_needFourWheels_13 dX9_needFourWheels_14 dX9_needFourWheels_17 dX9_needFourWheels_20 (fun x h => (hno x h).elim) (Nat.le_of_ble_eq_true rfl) (Nat.le_of_ble_eq_true rfl) (Nat.le_of_ble_eq_true rfl) (Nat.le_of_ble_eq_true rfl) hlocks (fun t hA2 h1 h2 => ⟨(), trivial, ⟨(by show f_X9_needFourWheels S o1 = .error "java/util/NoSuchElementException"; unfold f_X9_needFourWheels; rw [if_pos c4]), wd_exc hP hK hD hA2 h2⟩, exc_F hS h1 h2⟩) hS.2.2 (Nat.le_of_ble_eq_true rfl) (Nat.le_of_ble_eq_true rfl)
def f_X9_change (S : wPS) (o1 : Nat) (x1 : Int32) (x2 : Int32) (x3 : Int32) : Except String (Int32 × wPS) := eB (f_X9_needRatio x1 x2) (fun _ => eB (f_X9_needRange x3 (0 : Int32) (3 : Int32)) (fun _ => eB (f_X9_needFourWheels S o1) (fun _ => .ok (f_X0_bestWheel (f_X0_search S (S.f o1 6) x1.toInt64 x2.toInt64) (S.f o1 6) x3, f_X0_search S (S.f o1 6) x1.toInt64 x2.toInt64))))
set_option maxHeartbeats 4000000 in
set_option maxRecDepth 100000 in
theorem c_X9_change (l : Launch) (hst : l.stackTraces = false) {D : va_G} {cy : Nat → ClassId} {X : va_W} (S : wPS) (sz : Nat) (o1 : Nat) (h_o1 : ok9 S o1) (x1 : Int32) (x2 : Int32) (x3 : Int32) (h16 : S.n (S.f (S.f o1 6) 0) = 16) (h4 : S.n (S.f (S.f o1 6) 1) = 4) (hc : 0 ≤ (S.I (S.f o1 6) 2).toInt ∧ (S.I (S.f o1 6) 2).toInt ≤ 16) : vx_Met l yX9_change wsX9_change ({ frames := 8, cells := 4, slots := 24, locals := 125 }) (va_Pc [.ref o1, .int x1, .int x2, .int x3] (fun U => U.heap.size = sz ∧ WD D cy X (fun _ => True) S U ∧ NW U ∧ TH (va_A (X ++ PL cy S) sz) U)) (va_Qi (fun r (u : wPS) => f_X9_change S o1 x1 x2 x3 = .ok (r, u) ∧ sh S u) (fun u t => WD D cy X (va_A (X ++ PL cy S) sz) u t) (va_A (X ++ PL cy S) sz)) (vx_X (fun (_ : Unit) => True) (fun E _ t => f_X9_change S o1 x1 x2 x3 = .error E ∧ WD D cy X (va_A (X ++ PL cy S) sz) S t) (va_A (X ++ PL cy S) sz)) 4 24 (va_A (X ++ PL cy S) sz) := by
  refine vx_ofW (cc := cX9_change) (maxL := 4) (ret := (some .int)) (by decide) rfl ?_
  intro p e s m args below meth c s₁ B hml hno hv
  obtain ⟨rfl, hsz, ⟨hP, hK, hD0⟩, hN, hTH⟩ := hv
  have hx := B.exec
  have hb := B.bytes
  have hr := B.returns
  have hts := atoms_spec (ws := wsX9_change) B.pre
  have hown : s.vm.findClass RX9 = some m.cls := findClass_of_methodNamed B.named
  have hlocks := B.notSynchronized
  subst hsz
  have hD := hD0.self (sz := s.heap.size)
  generalize hAe : va_A (X ++ PL cy S) s.heap.size = A at hD hTH ⊢
  have hA : ∀ q : Nat, s.heap.size ≤ q → A q := fun q h => by rw [← hAe]; exact Or.inr h
  have hS : va_S A s.heap s.heap [] := va_S.rf
  have hl := lv_entry ([.ref o1, .int x1, .int x2, .int x3]) (n := 4) (Nat.le_of_ble_eq_true rfl)
  rw [lg_entry_eq]
  generalize (lg_sl ([.ref o1, .int x1, .int x2, .int x3]) ++ List.replicate (4 - (lg_sl ([.ref o1, .int x1, .int x2, .int x3])).length) Slot.unset).toArray = ls at hl ⊢
  have hl : lv_has ls 4 [(0, .ref o1), (1, .int x1), (2, .int x2), (3, .int x3)] := hl
  refine lv_iload_n hx hb dX9_change_0 rfl (lv_at hl 1 rfl) ?_
  refine lv_iload_n hx hb dX9_change_1 rfl (lv_at hl 2 rfl) ?_
  have hFc := free_all hD hS hA
  refine vx_callv (vx_runS (As := [.int x1, .int x2]) (rest := []) ⟨hx, hb, hml, hown, hts⟩ (c_X9_needRatio l hst (cy := cy) (X := X) (D := D) S _ x1 x2) (cwS 2 hts gX9_change_X9_needRatio rfl rfl rfl (by decide +kernel) ⟨Nat.le_of_ble_eq_true rfl, Nat.le_of_ble_eq_true rfl⟩) ⟨fun a U g mk q => ⟨q.1, q.2.1, q.2.2.1.calling, NW.same (u := U) (U := U.calling g mk a) rfl q.2.2.2.1, q.2.2.2.2.calling⟩, fun U hU hW => ⟨rfl, by rw [hU], wd_pre hP hK hD hU hW, hN.warm hW, th_pre hTH hS hFc hU hW⟩⟩ rfl rfl hl.1 rfl (lv_room (Nat.le_of_ble_eq_true rfl)) dX9_change_2 ⟨Nat.le_of_ble_eq_true rfl, Nat.le_of_ble_eq_true rfl⟩) hS (fun q _ h => hFc q h) hFc (fun q _ h => hFc q h) (fun E ce q9 u t H1 locs ht hvm hw hB hz1 hk1 hS hq9 hce hcl => ?_) (fun u t H1 locs ht hvm hw hB hz1 hk1 hS => ?_)
  · obtain ⟨c2, hB2⟩ := hB
    obtain ⟨hP, hD⟩ := wd_post hFc ht hB2
    exact vx_out (fun x h => (hno x h).elim) hlocks hq9 hce hcl (fun t2 ht2 hA2 => ⟨(), trivial, ⟨(by show f_X9_change S o1 x1 x2 x3 = .error E; unfold f_X9_change; rw [eB_er c2]), wd_end hP hK hD ht2 hA2⟩, hS.F ht2⟩) hS.2.2 (Nat.le_of_ble_eq_true rfl) (Nat.le_of_ble_eq_true rfl)
  · have c3 := hw
    obtain ⟨hP, hD⟩ := wd_post hFc ht hB
    generalize H1 = H at hP hS ⊢
    refine lv_iload_n hx hb dX9_change_5 rfl (lv_at hl 3 rfl) ?_
    refine lv_iconst (v := 0) hx hb dX9_change_6 (by decide) ?_
    refine lv_iconst (v := 3) hx hb dX9_change_7 (by decide) ?_
    have hFc := free_all hD hS hA
    refine vx_callv (vx_runS (As := [.int x3, .int (0 : Int32), .int (3 : Int32)]) (rest := []) ⟨hx, hb, hml, hown, hts⟩ (c_X9_needRange l hst (cy := cy) (X := X) (D := D) S _ x3 (0 : Int32) (3 : Int32)) (cwS 3 hts gX9_change_X9_needRange rfl rfl rfl (by decide +kernel) ⟨Nat.le_of_ble_eq_true rfl, Nat.le_of_ble_eq_true rfl⟩) ⟨fun a U g mk q => ⟨q.1, q.2.1, q.2.2.1.calling, NW.same (u := U) (U := U.calling g mk a) rfl q.2.2.2.1, q.2.2.2.2.calling⟩, fun U hU hW => ⟨rfl, by rw [hU], wd_pre hP hK hD hU hW, hN.warm hW, th_pre hTH hS hFc hU hW⟩⟩ rfl rfl hl.1 rfl (lv_room (Nat.le_of_ble_eq_true rfl)) dX9_change_8 ⟨Nat.le_of_ble_eq_true rfl, Nat.le_of_ble_eq_true rfl⟩) hS (fun q _ h => hFc q h) hFc (fun q _ h => hFc q h) (fun E ce q9 u t H1 locs ht hvm hw hB hz1 hk1 hS hq9 hce hcl => ?_) (fun u t H1 locs ht hvm hw hB hz1 hk1 hS => ?_)
    · obtain ⟨c5, hB2⟩ := hB
      obtain ⟨hP, hD⟩ := wd_post hFc ht hB2
      exact vx_out (fun x h => (hno x h).elim) hlocks hq9 hce hcl (fun t2 ht2 hA2 => ⟨(), trivial, ⟨(by show f_X9_change S o1 x1 x2 x3 = .error E; unfold f_X9_change; rw [eB_ok c3, eB_er c5]), wd_end hP hK hD ht2 hA2⟩, hS.F ht2⟩) hS.2.2 (Nat.le_of_ble_eq_true rfl) (Nat.le_of_ble_eq_true rfl)
    · have c6 := hw
      obtain ⟨hP, hD⟩ := wd_post hFc ht hB
      generalize H1 = H at hP hS ⊢
      refine lv_aload_n hx hb dX9_change_11 rfl (lv_at hl 0 rfl) ?_
      have hFc := free_all hD hS hA
      obtain ⟨k7, gk7, hk7⟩ := wGt (cy := cy) X S h_o1.1.1 h_o1.1.2.1
      refine vx_callv (vx_runV (As := []) (rest := []) ⟨hx, hb, hml, hown, hts⟩ (c_X9_needFourWheels l hst (cy := cy) (X := X) (D := D) S _ o1 h_o1) (cwV 0 hts gX9_change_X9_needFourWheels rfl rfl rfl (by decide +kernel) ⟨Nat.le_of_ble_eq_true rfl, Nat.le_of_ble_eq_true rfl⟩) ⟨fun a U g mk q => ⟨q.1, q.2.1, q.2.2.1.calling, NW.same (u := U) (U := U.calling g mk a) rfl q.2.2.2.1, q.2.2.2.2.calling⟩, va_recv hK hP (ci := 13) (q0 := k7) rfl hk7, fun U hU hW => ⟨rfl, by rw [hU], wd_pre hP hK hD hU hW, hN.warm hW, th_pre hTH hS hFc hU hW⟩⟩ rfl rfl hl.1 rfl (lv_room (Nat.le_of_ble_eq_true rfl)) dX9_change_12 ⟨Nat.le_of_ble_eq_true rfl, Nat.le_of_ble_eq_true rfl⟩) hS (fun q _ h => hFc q h) hFc (fun q _ h => hFc q h) (fun E ce q9 u t H1 locs ht hvm hw hB hz1 hk1 hS hq9 hce hcl => ?_) (fun u t H1 locs ht hvm hw hB hz1 hk1 hS => ?_)
      · obtain ⟨c9, hB2⟩ := hB
        obtain ⟨hP, hD⟩ := wd_post hFc ht hB2
        exact vx_out (fun x h => (hno x h).elim) hlocks hq9 hce hcl (fun t2 ht2 hA2 => ⟨(), trivial, ⟨(by show f_X9_change S o1 x1 x2 x3 = .error E; unfold f_X9_change; rw [eB_ok c3, eB_ok c6, eB_er c9]), wd_end hP hK hD ht2 hA2⟩, hS.F ht2⟩) hS.2.2 (Nat.le_of_ble_eq_true rfl) (Nat.le_of_ble_eq_true rfl)
      · have c10 := hw
        obtain ⟨hP, hD⟩ := wd_post hFc ht hB
        generalize H1 = H at hP hS ⊢
        refine lv_aload_n hx hb dX9_change_15 rfl (lv_at hl 0 rfl) ?_
        obtain ⟨k11, gk11, hk11⟩ := wGt (cy := cy) X S h_o1.1.1 h_o1.1.2.1
        simp only [kE, h_o1.2.2.2.2.1.1] at hk11
        refine va_get (D := D) (ci := 13) (v := .ref (S.f o1 6)) (C := RX9) (T := TX9) (N := 11) hx hb hts (by decide +kernel) hown hK hP k11 hk11 rfl 6 (by decide) (hts (.fieldLink RX9 30 "Hobhouse" "box" "LHobhouse$Box;") (by decide +kernel)) (fun _ h9 => h9) rfl dX9_change_16 ?_
        refine lv_iload_n hx hb dX9_change_19 rfl (lv_at hl 1 rfl) ?_
        refine lv_i2l hx hb dX9_change_20 rfl ?_
        refine lv_iload_n hx hb dX9_change_21 rfl (lv_at hl 2 rfl) ?_
        refine lv_i2l hx hb dX9_change_22 rfl ?_
        have hFc := free_all hD hS hA
        obtain ⟨k12, gk12, hk12⟩ := wGt (cy := cy) X S h_o1.2.2.2.2.1.2.1.1 h_o1.2.2.2.2.1.2.1.2.1
        refine va_callv (va_runV (As := [.long x1.toInt64, .long x2.toInt64]) (rest := []) ⟨hx, hb, hml, hown, hts⟩ (c_X0_search l (cy := cy) (X := X) (D := D) S _ (S.f o1 6) h_o1.2.2.2.2.1.2 x1.toInt64 x2.toInt64 h16 h4 hc) (cwV 2 hts gX9_change_X0_search rfl rfl rfl (by decide +kernel) ⟨Nat.le_of_ble_eq_true rfl, Nat.le_of_ble_eq_true rfl⟩) ⟨fun a U g mk q => ⟨q.1, q.2.1, q.2.2.1.calling, NW.same (u := U) (U := U.calling g mk a) rfl q.2.2.2⟩, va_recv hK hP (ci := 4) (q0 := k12) rfl hk12, fun U hU hW => ⟨rfl, by rw [hU], wd_pre hP hK hD hU hW, hN.warm hW⟩⟩ rfl rfl hl.1 rfl (lv_room (Nat.le_of_ble_eq_true rfl)) dX9_change_23 ⟨Nat.le_of_ble_eq_true rfl, Nat.le_of_ble_eq_true rfl⟩) hS (fun q _ h => hFc q h) hFc (fun u t H1 locs ht hvm hw hB hz1 hk1 hS => ?_)
        obtain ⟨hP, hD⟩ := wd_post hFc ht hB
        generalize H1 = H at hP hS ⊢
        obtain ⟨hw1, shq14⟩ := hw
        obtain rfl : u = f_X0_search S (S.f o1 6) x1.toInt64 x2.toInt64 := hw1
        refine lv_aload_n hx hb dX9_change_26 rfl (lv_at hl 0 rfl) ?_
        obtain ⟨k15, gk15, hk15⟩ := wGt (cy := cy) X (f_X0_search S (S.f o1 6) x1.toInt64 x2.toInt64) (shq14.L h_o1.1.1) (shq14.K h_o1.1.2.1)
        simp only [kE, (shq14.F h_o1.2.2.2.2.1.1)] at hk15
        refine va_get (D := D) (ci := 13) (v := .ref (S.f o1 6)) (C := RX9) (T := TX9) (N := 11) hx hb hts (by decide +kernel) hown hK hP k15 hk15 rfl 6 (by decide) (hts (.fieldLink RX9 30 "Hobhouse" "box" "LHobhouse$Box;") (by decide +kernel)) (fun _ h9 => h9) rfl dX9_change_27 ?_
        refine lv_iload_n hx hb dX9_change_30 rfl (lv_at hl 3 rfl) ?_
        have hFc := free_all hD hS hA
        obtain ⟨k16, gk16, hk16⟩ := wGt (cy := cy) X (f_X0_search S (S.f o1 6) x1.toInt64 x2.toInt64) (shq14.L h_o1.2.2.2.2.1.2.1.1) (shq14.K h_o1.2.2.2.2.1.2.1.2.1)
        refine va_calli (va_runV (As := [.int x3]) (rest := []) ⟨hx, hb, hml, hown, hts⟩ (c_X0_bestWheel l (cy := cy) (X := X) (D := D) (f_X0_search S (S.f o1 6) x1.toInt64 x2.toInt64) _ (S.f o1 6) (shq14.k0 h_o1.2.2.2.2.1.2) x3 (by rw [shq14.2.2.2.1, shq14.g]; exact h4)) (cwV 1 hts gX9_change_X0_bestWheel rfl rfl rfl (by decide +kernel) ⟨Nat.le_of_ble_eq_true rfl, Nat.le_of_ble_eq_true rfl⟩) ⟨fun a U g mk q => ⟨q.1, q.2.1, q.2.2.1.calling, NW.same (u := U) (U := U.calling g mk a) rfl q.2.2.2⟩, va_recv hK hP (ci := 4) (q0 := k16) rfl hk16, fun U hU hW => ⟨rfl, by rw [hU], wd_pre hP hK hD hU hW, hN.warm hW⟩⟩ rfl rfl hl.1 rfl (lv_room (Nat.le_of_ble_eq_true rfl)) dX9_change_31 ⟨Nat.le_of_ble_eq_true rfl, Nat.le_of_ble_eq_true rfl⟩) hS (fun q _ h => hFc q h) hFc (fun r17 u t H1 locs ht hvm hw hB hz1 hk1 hS => ?_)
        obtain ⟨hP, hD⟩ := wd_post hFc ht hB
        generalize H1 = H at hP hS ⊢
        obtain rfl : r17 = f_X0_bestWheel (f_X0_search S (S.f o1 6) x1.toInt64 x2.toInt64) (S.f o1 6) x3 := hw
        refine vx_ret ?_
        refine W.widen (k := 4) (n := 24) (Nat.le_of_ble_eq_true rfl) (Nat.le_of_ble_eq_true rfl) ?_
        exact W.iret (v := f_X0_bestWheel (f_X0_search S (S.f o1 6) x1.toInt64 x2.toInt64) (S.f o1 6) x3) hx hb hr (fun t ht hW => ⟨⟨f_X0_bestWheel (f_X0_search S (S.f o1 6) x1.toInt64 x2.toInt64) (S.f o1 6) x3, f_X0_search S (S.f o1 6) x1.toInt64 x2.toInt64, rfl, (⟨(by show f_X9_change S o1 x1 x2 x3 = .ok (f_X0_bestWheel (f_X0_search S (S.f o1 6) x1.toInt64 x2.toInt64) (S.f o1 6) x3, f_X0_search S (S.f o1 6) x1.toInt64 x2.toInt64); unfold f_X9_change; rw [eB_ok c3, eB_ok c6, eB_ok c10]), shq14⟩), wd_end hP hK hD ht hW.alike⟩, hS.F ht⟩) hS.2.2 dX9_change_34 hlocks
def f_X9_meets (S : wPS) (o1 : Nat) (x1 : Int32) (x2 : Int32) (x3 : Int32) : Except String (Int32 × wPS) := eB (f_X9_needRatio x1 x2) (fun _ => eB (f_X9_needRange x3 (0 : Int32) (999999 : Int32)) (fun _ => eB (f_X9_needFourWheels S o1) (fun _ => .ok (f_X0_isMet (f_X0_search S (S.f o1 6) x1.toInt64 x2.toInt64) (S.f o1 6) x3, f_X0_search S (S.f o1 6) x1.toInt64 x2.toInt64))))
set_option maxHeartbeats 4000000 in
set_option maxRecDepth 100000 in
theorem c_X9_meets (l : Launch) (hst : l.stackTraces = false) {D : va_G} {cy : Nat → ClassId} {X : va_W} (S : wPS) (sz : Nat) (o1 : Nat) (h_o1 : ok9 S o1) (x1 : Int32) (x2 : Int32) (x3 : Int32) (h16 : S.n (S.f (S.f o1 6) 0) = 16) (h4 : S.n (S.f (S.f o1 6) 1) = 4) (hc : 0 ≤ (S.I (S.f o1 6) 2).toInt ∧ (S.I (S.f o1 6) 2).toInt ≤ 16) : vx_Met l yX9_meets wsX9_meets ({ frames := 8, cells := 4, slots := 24, locals := 125 }) (va_Pc [.ref o1, .int x1, .int x2, .int x3] (fun U => U.heap.size = sz ∧ WD D cy X (fun _ => True) S U ∧ NW U ∧ TH (va_A (X ++ PL cy S) sz) U)) (va_Qi (fun r (u : wPS) => f_X9_meets S o1 x1 x2 x3 = .ok (r, u) ∧ sh S u) (fun u t => WD D cy X (va_A (X ++ PL cy S) sz) u t) (va_A (X ++ PL cy S) sz)) (vx_X (fun (_ : Unit) => True) (fun E _ t => f_X9_meets S o1 x1 x2 x3 = .error E ∧ WD D cy X (va_A (X ++ PL cy S) sz) S t) (va_A (X ++ PL cy S) sz)) 4 24 (va_A (X ++ PL cy S) sz) := by
  refine vx_ofW (cc := cX9_meets) (maxL := 4) (ret := (some .boolean)) (by decide) rfl ?_
  intro p e s m args below meth c s₁ B hml hno hv
  obtain ⟨rfl, hsz, ⟨hP, hK, hD0⟩, hN, hTH⟩ := hv
  have hx := B.exec
  have hb := B.bytes
  have hr := B.returns
  have hts := atoms_spec (ws := wsX9_meets) B.pre
  have hown : s.vm.findClass RX9 = some m.cls := findClass_of_methodNamed B.named
  have hlocks := B.notSynchronized
  subst hsz
  have hD := hD0.self (sz := s.heap.size)
  generalize hAe : va_A (X ++ PL cy S) s.heap.size = A at hD hTH ⊢
  have hA : ∀ q : Nat, s.heap.size ≤ q → A q := fun q h => by rw [← hAe]; exact Or.inr h
  have hS : va_S A s.heap s.heap [] := va_S.rf
  have hl := lv_entry ([.ref o1, .int x1, .int x2, .int x3]) (n := 4) (Nat.le_of_ble_eq_true rfl)
  rw [lg_entry_eq]
  generalize (lg_sl ([.ref o1, .int x1, .int x2, .int x3]) ++ List.replicate (4 - (lg_sl ([.ref o1, .int x1, .int x2, .int x3])).length) Slot.unset).toArray = ls at hl ⊢
  have hl : lv_has ls 4 [(0, .ref o1), (1, .int x1), (2, .int x2), (3, .int x3)] := hl
  refine lv_iload_n hx hb dX9_meets_0 rfl (lv_at hl 1 rfl) ?_
  refine lv_iload_n hx hb dX9_meets_1 rfl (lv_at hl 2 rfl) ?_
  have hFc := free_all hD hS hA
  refine vx_callv (vx_runS (As := [.int x1, .int x2]) (rest := []) ⟨hx, hb, hml, hown, hts⟩ (c_X9_needRatio l hst (cy := cy) (X := X) (D := D) S _ x1 x2) (cwS 2 hts gX9_meets_X9_needRatio rfl rfl rfl (by decide +kernel) ⟨Nat.le_of_ble_eq_true rfl, Nat.le_of_ble_eq_true rfl⟩) ⟨fun a U g mk q => ⟨q.1, q.2.1, q.2.2.1.calling, NW.same (u := U) (U := U.calling g mk a) rfl q.2.2.2.1, q.2.2.2.2.calling⟩, fun U hU hW => ⟨rfl, by rw [hU], wd_pre hP hK hD hU hW, hN.warm hW, th_pre hTH hS hFc hU hW⟩⟩ rfl rfl hl.1 rfl (lv_room (Nat.le_of_ble_eq_true rfl)) dX9_meets_2 ⟨Nat.le_of_ble_eq_true rfl, Nat.le_of_ble_eq_true rfl⟩) hS (fun q _ h => hFc q h) hFc (fun q _ h => hFc q h) (fun E ce q9 u t H1 locs ht hvm hw hB hz1 hk1 hS hq9 hce hcl => ?_) (fun u t H1 locs ht hvm hw hB hz1 hk1 hS => ?_)
  · obtain ⟨c2, hB2⟩ := hB
    obtain ⟨hP, hD⟩ := wd_post hFc ht hB2
    exact vx_out (fun x h => (hno x h).elim) hlocks hq9 hce hcl (fun t2 ht2 hA2 => ⟨(), trivial, ⟨(by show f_X9_meets S o1 x1 x2 x3 = .error E; unfold f_X9_meets; rw [eB_er c2]), wd_end hP hK hD ht2 hA2⟩, hS.F ht2⟩) hS.2.2 (Nat.le_of_ble_eq_true rfl) (Nat.le_of_ble_eq_true rfl)
  · have c3 := hw
    obtain ⟨hP, hD⟩ := wd_post hFc ht hB
    generalize H1 = H at hP hS ⊢
    refine lv_iload_n hx hb dX9_meets_5 rfl (lv_at hl 3 rfl) ?_
    refine lv_iconst (v := 0) hx hb dX9_meets_6 (by decide) ?_
    refine lv_ldc (own := RX9) (v := 999999) hx hb hown (hts (.constant RX9 244 (999999)) (by decide +kernel)) dX9_meets_7 ?_
    have hFc := free_all hD hS hA
    refine vx_callv (vx_runS (As := [.int x3, .int (0 : Int32), .int (999999 : Int32)]) (rest := []) ⟨hx, hb, hml, hown, hts⟩ (c_X9_needRange l hst (cy := cy) (X := X) (D := D) S _ x3 (0 : Int32) (999999 : Int32)) (cwS 3 hts gX9_meets_X9_needRange rfl rfl rfl (by decide +kernel) ⟨Nat.le_of_ble_eq_true rfl, Nat.le_of_ble_eq_true rfl⟩) ⟨fun a U g mk q => ⟨q.1, q.2.1, q.2.2.1.calling, NW.same (u := U) (U := U.calling g mk a) rfl q.2.2.2.1, q.2.2.2.2.calling⟩, fun U hU hW => ⟨rfl, by rw [hU], wd_pre hP hK hD hU hW, hN.warm hW, th_pre hTH hS hFc hU hW⟩⟩ rfl rfl hl.1 rfl (lv_room (Nat.le_of_ble_eq_true rfl)) dX9_meets_9 ⟨Nat.le_of_ble_eq_true rfl, Nat.le_of_ble_eq_true rfl⟩) hS (fun q _ h => hFc q h) hFc (fun q _ h => hFc q h) (fun E ce q9 u t H1 locs ht hvm hw hB hz1 hk1 hS hq9 hce hcl => ?_) (fun u t H1 locs ht hvm hw hB hz1 hk1 hS => ?_)
    · obtain ⟨c5, hB2⟩ := hB
      obtain ⟨hP, hD⟩ := wd_post hFc ht hB2
      exact vx_out (fun x h => (hno x h).elim) hlocks hq9 hce hcl (fun t2 ht2 hA2 => ⟨(), trivial, ⟨(by show f_X9_meets S o1 x1 x2 x3 = .error E; unfold f_X9_meets; rw [eB_ok c3, eB_er c5]), wd_end hP hK hD ht2 hA2⟩, hS.F ht2⟩) hS.2.2 (Nat.le_of_ble_eq_true rfl) (Nat.le_of_ble_eq_true rfl)
    · have c6 := hw
      obtain ⟨hP, hD⟩ := wd_post hFc ht hB
      generalize H1 = H at hP hS ⊢
      refine lv_aload_n hx hb dX9_meets_12 rfl (lv_at hl 0 rfl) ?_
      have hFc := free_all hD hS hA
      obtain ⟨k7, gk7, hk7⟩ := wGt (cy := cy) X S h_o1.1.1 h_o1.1.2.1
      refine vx_callv (vx_runV (As := []) (rest := []) ⟨hx, hb, hml, hown, hts⟩ (c_X9_needFourWheels l hst (cy := cy) (X := X) (D := D) S _ o1 h_o1) (cwV 0 hts gX9_meets_X9_needFourWheels rfl rfl rfl (by decide +kernel) ⟨Nat.le_of_ble_eq_true rfl, Nat.le_of_ble_eq_true rfl⟩) ⟨fun a U g mk q => ⟨q.1, q.2.1, q.2.2.1.calling, NW.same (u := U) (U := U.calling g mk a) rfl q.2.2.2.1, q.2.2.2.2.calling⟩, va_recv hK hP (ci := 13) (q0 := k7) rfl hk7, fun U hU hW => ⟨rfl, by rw [hU], wd_pre hP hK hD hU hW, hN.warm hW, th_pre hTH hS hFc hU hW⟩⟩ rfl rfl hl.1 rfl (lv_room (Nat.le_of_ble_eq_true rfl)) dX9_meets_13 ⟨Nat.le_of_ble_eq_true rfl, Nat.le_of_ble_eq_true rfl⟩) hS (fun q _ h => hFc q h) hFc (fun q _ h => hFc q h) (fun E ce q9 u t H1 locs ht hvm hw hB hz1 hk1 hS hq9 hce hcl => ?_) (fun u t H1 locs ht hvm hw hB hz1 hk1 hS => ?_)
      · obtain ⟨c9, hB2⟩ := hB
        obtain ⟨hP, hD⟩ := wd_post hFc ht hB2
        exact vx_out (fun x h => (hno x h).elim) hlocks hq9 hce hcl (fun t2 ht2 hA2 => ⟨(), trivial, ⟨(by show f_X9_meets S o1 x1 x2 x3 = .error E; unfold f_X9_meets; rw [eB_ok c3, eB_ok c6, eB_er c9]), wd_end hP hK hD ht2 hA2⟩, hS.F ht2⟩) hS.2.2 (Nat.le_of_ble_eq_true rfl) (Nat.le_of_ble_eq_true rfl)
      · have c10 := hw
        obtain ⟨hP, hD⟩ := wd_post hFc ht hB
        generalize H1 = H at hP hS ⊢
        refine lv_aload_n hx hb dX9_meets_16 rfl (lv_at hl 0 rfl) ?_
        obtain ⟨k11, gk11, hk11⟩ := wGt (cy := cy) X S h_o1.1.1 h_o1.1.2.1
        simp only [kE, h_o1.2.2.2.2.1.1] at hk11
        refine va_get (D := D) (ci := 13) (v := .ref (S.f o1 6)) (C := RX9) (T := TX9) (N := 11) hx hb hts (by decide +kernel) hown hK hP k11 hk11 rfl 6 (by decide) (hts (.fieldLink RX9 30 "Hobhouse" "box" "LHobhouse$Box;") (by decide +kernel)) (fun _ h9 => h9) rfl dX9_meets_17 ?_
        refine lv_iload_n hx hb dX9_meets_20 rfl (lv_at hl 1 rfl) ?_
        refine lv_i2l hx hb dX9_meets_21 rfl ?_
        refine lv_iload_n hx hb dX9_meets_22 rfl (lv_at hl 2 rfl) ?_
        refine lv_i2l hx hb dX9_meets_23 rfl ?_
        have hFc := free_all hD hS hA
        obtain ⟨k12, gk12, hk12⟩ := wGt (cy := cy) X S h_o1.2.2.2.2.1.2.1.1 h_o1.2.2.2.2.1.2.1.2.1
        refine va_callv (va_runV (As := [.long x1.toInt64, .long x2.toInt64]) (rest := []) ⟨hx, hb, hml, hown, hts⟩ (c_X0_search l (cy := cy) (X := X) (D := D) S _ (S.f o1 6) h_o1.2.2.2.2.1.2 x1.toInt64 x2.toInt64 h16 h4 hc) (cwV 2 hts gX9_meets_X0_search rfl rfl rfl (by decide +kernel) ⟨Nat.le_of_ble_eq_true rfl, Nat.le_of_ble_eq_true rfl⟩) ⟨fun a U g mk q => ⟨q.1, q.2.1, q.2.2.1.calling, NW.same (u := U) (U := U.calling g mk a) rfl q.2.2.2⟩, va_recv hK hP (ci := 4) (q0 := k12) rfl hk12, fun U hU hW => ⟨rfl, by rw [hU], wd_pre hP hK hD hU hW, hN.warm hW⟩⟩ rfl rfl hl.1 rfl (lv_room (Nat.le_of_ble_eq_true rfl)) dX9_meets_24 ⟨Nat.le_of_ble_eq_true rfl, Nat.le_of_ble_eq_true rfl⟩) hS (fun q _ h => hFc q h) hFc (fun u t H1 locs ht hvm hw hB hz1 hk1 hS => ?_)
        obtain ⟨hP, hD⟩ := wd_post hFc ht hB
        generalize H1 = H at hP hS ⊢
        obtain ⟨hw1, shq14⟩ := hw
        obtain rfl : u = f_X0_search S (S.f o1 6) x1.toInt64 x2.toInt64 := hw1
        refine lv_aload_n hx hb dX9_meets_27 rfl (lv_at hl 0 rfl) ?_
        obtain ⟨k15, gk15, hk15⟩ := wGt (cy := cy) X (f_X0_search S (S.f o1 6) x1.toInt64 x2.toInt64) (shq14.L h_o1.1.1) (shq14.K h_o1.1.2.1)
        simp only [kE, (shq14.F h_o1.2.2.2.2.1.1)] at hk15
        refine va_get (D := D) (ci := 13) (v := .ref (S.f o1 6)) (C := RX9) (T := TX9) (N := 11) hx hb hts (by decide +kernel) hown hK hP k15 hk15 rfl 6 (by decide) (hts (.fieldLink RX9 30 "Hobhouse" "box" "LHobhouse$Box;") (by decide +kernel)) (fun _ h9 => h9) rfl dX9_meets_28 ?_
        refine lv_iload_n hx hb dX9_meets_31 rfl (lv_at hl 3 rfl) ?_
        have hFc := free_all hD hS hA
        obtain ⟨k16, gk16, hk16⟩ := wGt (cy := cy) X (f_X0_search S (S.f o1 6) x1.toInt64 x2.toInt64) (shq14.L h_o1.2.2.2.2.1.2.1.1) (shq14.K h_o1.2.2.2.2.1.2.1.2.1)
        refine va_calli (va_runV (As := [.int x3]) (rest := []) ⟨hx, hb, hml, hown, hts⟩ (c_X0_isMet l (cy := cy) (X := X) (D := D) (f_X0_search S (S.f o1 6) x1.toInt64 x2.toInt64) _ (S.f o1 6) (shq14.k0 h_o1.2.2.2.2.1.2) x3) (cwV 1 hts gX9_meets_X0_isMet rfl rfl rfl (by decide +kernel) ⟨Nat.le_of_ble_eq_true rfl, Nat.le_of_ble_eq_true rfl⟩) ⟨fun a U g mk q => ⟨q.1, q.2.1, q.2.2.1.calling, NW.same (u := U) (U := U.calling g mk a) rfl q.2.2.2⟩, va_recv hK hP (ci := 4) (q0 := k16) rfl hk16, fun U hU hW => ⟨rfl, by rw [hU], wd_pre hP hK hD hU hW, hN.warm hW⟩⟩ rfl rfl hl.1 rfl (lv_room (Nat.le_of_ble_eq_true rfl)) dX9_meets_32 ⟨Nat.le_of_ble_eq_true rfl, Nat.le_of_ble_eq_true rfl⟩) hS (fun q _ h => hFc q h) hFc (fun r17 u t H1 locs ht hvm hw hB hz1 hk1 hS => ?_)
        obtain ⟨hP, hD⟩ := wd_post hFc ht hB
        generalize H1 = H at hP hS ⊢
        obtain rfl : r17 = f_X0_isMet (f_X0_search S (S.f o1 6) x1.toInt64 x2.toInt64) (S.f o1 6) x3 := hw
        refine vx_ret ?_
        refine W.widen (k := 4) (n := 24) (Nat.le_of_ble_eq_true rfl) (Nat.le_of_ble_eq_true rfl) ?_
        exact W.zret (v := f_X0_isMet (f_X0_search S (S.f o1 6) x1.toInt64 x2.toInt64) (S.f o1 6) x3) hx hb hr (f_X0_isMet_b (f_X0_search S (S.f o1 6) x1.toInt64 x2.toInt64) (S.f o1 6) x3) (fun t ht hW => ⟨⟨f_X0_isMet (f_X0_search S (S.f o1 6) x1.toInt64 x2.toInt64) (S.f o1 6) x3, f_X0_search S (S.f o1 6) x1.toInt64 x2.toInt64, rfl, (⟨(by show f_X9_meets S o1 x1 x2 x3 = .ok (f_X0_isMet (f_X0_search S (S.f o1 6) x1.toInt64 x2.toInt64) (S.f o1 6) x3, f_X0_search S (S.f o1 6) x1.toInt64 x2.toInt64); unfold f_X9_meets; rw [eB_ok c3, eB_ok c6, eB_ok c10]), shq14⟩), wd_end hP hK hD ht hW.alike⟩, hS.F ht⟩) hS.2.2 dX9_meets_35 hlocks
def f_X9_indexes (S : wPS) (o1 : Nat) (x1 : Int32) (x2 : Int32) (x3 : Int32) : Except String (Int32 × wPS) := eB (f_X9_gearAt S o1 x1) (fun r2 => eB (f_X9_hobAt S o1 x2) (fun r7 => eB (f_X9_needRange x3 (0 : Int32) (999999 : Int32)) (fun _ => eB (f_X9_needFourWheels S o1) (fun _ => .ok (f_X0_isMet (f_X0_search S (S.f o1 6) (((S.I o1 9) * (S.I r7 1)).toInt64) ((S.I r2 1).toInt64)) (S.f o1 6) x3, f_X0_search S (S.f o1 6) (((S.I o1 9) * (S.I r7 1)).toInt64) ((S.I r2 1).toInt64))))))
set_option maxHeartbeats 4000000 in
set_option maxRecDepth 100000 in
theorem c_X9_indexes (l : Launch) (hst : l.stackTraces = false) {D : va_G} {cy : Nat → ClassId} {X : va_W} (S : wPS) (sz : Nat) (o1 : Nat) (h_o1 : ok9 S o1) (x1 : Int32) (x2 : Int32) (x3 : Int32) (hGs : gearsOk S o1) (hHs : hobsOk S o1) (h16 : S.n (S.f (S.f o1 6) 0) = 16) (h4 : S.n (S.f (S.f o1 6) 1) = 4) (hc : 0 ≤ (S.I (S.f o1 6) 2).toInt ∧ (S.I (S.f o1 6) 2).toInt ≤ 16) : vx_Met l yX9_indexes wsX9_indexes ({ frames := 7, cells := 4, slots := 24, locals := 104 }) (va_Pc [.ref o1, .int x1, .int x2, .int x3] (fun U => U.heap.size = sz ∧ WD D cy X (fun _ => True) S U ∧ NW U ∧ TH (va_A (X ++ PL cy S) sz) U)) (va_Qi (fun r (u : wPS) => f_X9_indexes S o1 x1 x2 x3 = .ok (r, u) ∧ sh S u) (fun u t => WD D cy X (va_A (X ++ PL cy S) sz) u t) (va_A (X ++ PL cy S) sz)) (vx_X (fun (_ : Unit) => True) (fun E _ t => f_X9_indexes S o1 x1 x2 x3 = .error E ∧ WD D cy X (va_A (X ++ PL cy S) sz) S t) (va_A (X ++ PL cy S) sz)) 4 24 (va_A (X ++ PL cy S) sz) := by
  refine vx_ofW (cc := cX9_indexes) (maxL := 6) (ret := (some .boolean)) (by decide) rfl ?_
  intro p e s m args below meth c s₁ B hml hno hv
  obtain ⟨rfl, hsz, ⟨hP, hK, hD0⟩, hN, hTH⟩ := hv
  have hx := B.exec
  have hb := B.bytes
  have hr := B.returns
  have hts := atoms_spec (ws := wsX9_indexes) B.pre
  have hown : s.vm.findClass RX9 = some m.cls := findClass_of_methodNamed B.named
  have hlocks := B.notSynchronized
  subst hsz
  have hD := hD0.self (sz := s.heap.size)
  generalize hAe : va_A (X ++ PL cy S) s.heap.size = A at hD hTH ⊢
  have hA : ∀ q : Nat, s.heap.size ≤ q → A q := fun q h => by rw [← hAe]; exact Or.inr h
  have hS : va_S A s.heap s.heap [] := va_S.rf
  have hl := lv_entry ([.ref o1, .int x1, .int x2, .int x3]) (n := 6) (Nat.le_of_ble_eq_true rfl)
  rw [lg_entry_eq]
  generalize (lg_sl ([.ref o1, .int x1, .int x2, .int x3]) ++ List.replicate (6 - (lg_sl ([.ref o1, .int x1, .int x2, .int x3])).length) Slot.unset).toArray = ls at hl ⊢
  have hl : lv_has ls 6 [(0, .ref o1), (1, .int x1), (2, .int x2), (3, .int x3)] := hl
  refine lv_aload_n hx hb dX9_indexes_0 rfl (lv_at hl 0 rfl) ?_
  refine lv_iload_n hx hb dX9_indexes_1 rfl (lv_at hl 1 rfl) ?_
  have hFc := free_all hD hS hA
  obtain ⟨k1, gk1, hk1⟩ := wGt (cy := cy) X S h_o1.1.1 h_o1.1.2.1
  refine vx_callq (vx_runV (As := [.int x1]) (rest := []) ⟨hx, hb, hml, hown, hts⟩ (c_X9_gearAt l hst (cy := cy) (X := X) (D := D) S _ o1 h_o1 x1 hGs) (cwV 1 hts gX9_indexes_X9_gearAt rfl rfl rfl (by decide +kernel) ⟨Nat.le_of_ble_eq_true rfl, Nat.le_of_ble_eq_true rfl⟩) ⟨fun a U g mk q => ⟨q.1, q.2.1, q.2.2.1.calling, NW.same (u := U) (U := U.calling g mk a) rfl q.2.2.2.1, q.2.2.2.2.calling⟩, va_recv hK hP (ci := 13) (q0 := k1) rfl hk1, fun U hU hW => ⟨rfl, by rw [hU], wd_pre hP hK hD hU hW, hN.warm hW, th_pre hTH hS hFc hU hW⟩⟩ rfl rfl hl.1 rfl (lv_room (Nat.le_of_ble_eq_true rfl)) dX9_indexes_2 ⟨Nat.le_of_ble_eq_true rfl, Nat.le_of_ble_eq_true rfl⟩) hS (fun q _ h => hFc q h) hFc (fun q _ h => hFc q h) (fun E ce q9 u t H1 locs ht hvm hw hB hz1 hk1 hS hq9 hce hcl => ?_) (fun r2 u t H1 locs ht hvm hw hB hz1 hk1 hS => ?_)
  · obtain ⟨c3, hB2⟩ := hB
    obtain ⟨hP, hD⟩ := wd_post hFc ht hB2
    exact vx_out (fun x h => (hno x h).elim) hlocks hq9 hce hcl (fun t2 ht2 hA2 => ⟨(), trivial, ⟨(by show f_X9_indexes S o1 x1 x2 x3 = .error E; unfold f_X9_indexes; rw [eB_er c3]), wd_end hP hK hD ht2 hA2⟩, hS.F ht2⟩) hS.2.2 (Nat.le_of_ble_eq_true rfl) (Nat.le_of_ble_eq_true rfl)
  · obtain ⟨r2, rfl, c4, o5⟩ := hw
    obtain ⟨hP, hD⟩ := wd_post hFc ht hB
    generalize H1 = H at hP hS ⊢
    refine W.eq (g2 := F0 m 5 ls [.ref r2]) rfl ?_
    refine lv_astore (lv' := [(4, .ref r2), (0, .ref o1), (1, .int x1), (2, .int x2), (3, .int x3)]) hx hb dX9_indexes_5 hl (by decide) rfl (fun ls hl => ?_)
    refine lv_aload_n hx hb dX9_indexes_7 rfl (lv_at hl 1 rfl) ?_
    refine lv_iload_n hx hb dX9_indexes_8 rfl (lv_at hl 3 rfl) ?_
    have hFc := free_all hD hS hA
    obtain ⟨k6, gk6, hk6⟩ := wGt (cy := cy) X S h_o1.1.1 h_o1.1.2.1
    refine vx_callq (vx_runV (As := [.int x2]) (rest := []) ⟨hx, hb, hml, hown, hts⟩ (c_X9_hobAt l hst (cy := cy) (X := X) (D := D) S _ o1 h_o1 x2 hHs) (cwV 1 hts gX9_indexes_X9_hobAt rfl rfl rfl (by decide +kernel) ⟨Nat.le_of_ble_eq_true rfl, Nat.le_of_ble_eq_true rfl⟩) ⟨fun a U g mk q => ⟨q.1, q.2.1, q.2.2.1.calling, NW.same (u := U) (U := U.calling g mk a) rfl q.2.2.2.1, q.2.2.2.2.calling⟩, va_recv hK hP (ci := 13) (q0 := k6) rfl hk6, fun U hU hW => ⟨rfl, by rw [hU], wd_pre hP hK hD hU hW, hN.warm hW, th_pre hTH hS hFc hU hW⟩⟩ rfl rfl hl.1 rfl (lv_room (Nat.le_of_ble_eq_true rfl)) dX9_indexes_9 ⟨Nat.le_of_ble_eq_true rfl, Nat.le_of_ble_eq_true rfl⟩) hS (fun q _ h => hFc q h) hFc (fun q _ h => hFc q h) (fun E ce q9 u t H1 locs ht hvm hw hB hz1 hk1 hS hq9 hce hcl => ?_) (fun r7 u t H1 locs ht hvm hw hB hz1 hk1 hS => ?_)
    · obtain ⟨c8, hB2⟩ := hB
      obtain ⟨hP, hD⟩ := wd_post hFc ht hB2
      exact vx_out (fun x h => (hno x h).elim) hlocks hq9 hce hcl (fun t2 ht2 hA2 => ⟨(), trivial, ⟨(by show f_X9_indexes S o1 x1 x2 x3 = .error E; unfold f_X9_indexes; rw [eB_ok c4, eB_er c8]), wd_end hP hK hD ht2 hA2⟩, hS.F ht2⟩) hS.2.2 (Nat.le_of_ble_eq_true rfl) (Nat.le_of_ble_eq_true rfl)
    · obtain ⟨r7, rfl, c9, o10⟩ := hw
      obtain ⟨hP, hD⟩ := wd_post hFc ht hB
      generalize H1 = H at hP hS ⊢
      refine W.eq (g2 := F0 m 12 ls [.ref r7]) rfl ?_
      refine lv_astore (lv' := [(5, .ref r7), (4, .ref r2), (0, .ref o1), (1, .int x1), (2, .int x2), (3, .int x3)]) hx hb dX9_indexes_12 hl (by decide) rfl (fun ls hl => ?_)
      refine lv_iload_n hx hb dX9_indexes_14 rfl (lv_at hl 5 rfl) ?_
      refine lv_iconst (v := 0) hx hb dX9_indexes_15 (by decide) ?_
      refine lv_ldc (own := RX9) (v := 999999) hx hb hown (hts (.constant RX9 244 (999999)) (by decide +kernel)) dX9_indexes_16 ?_
      have hFc := free_all hD hS hA
      refine vx_callv (vx_runS (As := [.int x3, .int (0 : Int32), .int (999999 : Int32)]) (rest := []) ⟨hx, hb, hml, hown, hts⟩ (c_X9_needRange l hst (cy := cy) (X := X) (D := D) S _ x3 (0 : Int32) (999999 : Int32)) (cwS 3 hts gX9_indexes_X9_needRange rfl rfl rfl (by decide +kernel) ⟨Nat.le_of_ble_eq_true rfl, Nat.le_of_ble_eq_true rfl⟩) ⟨fun a U g mk q => ⟨q.1, q.2.1, q.2.2.1.calling, NW.same (u := U) (U := U.calling g mk a) rfl q.2.2.2.1, q.2.2.2.2.calling⟩, fun U hU hW => ⟨rfl, by rw [hU], wd_pre hP hK hD hU hW, hN.warm hW, th_pre hTH hS hFc hU hW⟩⟩ rfl rfl hl.1 rfl (lv_room (Nat.le_of_ble_eq_true rfl)) dX9_indexes_18 ⟨Nat.le_of_ble_eq_true rfl, Nat.le_of_ble_eq_true rfl⟩) hS (fun q _ h => hFc q h) hFc (fun q _ h => hFc q h) (fun E ce q9 u t H1 locs ht hvm hw hB hz1 hk1 hS hq9 hce hcl => ?_) (fun u t H1 locs ht hvm hw hB hz1 hk1 hS => ?_)
      · obtain ⟨c12, hB2⟩ := hB
        obtain ⟨hP, hD⟩ := wd_post hFc ht hB2
        exact vx_out (fun x h => (hno x h).elim) hlocks hq9 hce hcl (fun t2 ht2 hA2 => ⟨(), trivial, ⟨(by show f_X9_indexes S o1 x1 x2 x3 = .error E; unfold f_X9_indexes; rw [eB_ok c4, eB_ok c9, eB_er c12]), wd_end hP hK hD ht2 hA2⟩, hS.F ht2⟩) hS.2.2 (Nat.le_of_ble_eq_true rfl) (Nat.le_of_ble_eq_true rfl)
      · have c13 := hw
        obtain ⟨hP, hD⟩ := wd_post hFc ht hB
        generalize H1 = H at hP hS ⊢
        refine lv_aload_n hx hb dX9_indexes_21 rfl (lv_at hl 2 rfl) ?_
        have hFc := free_all hD hS hA
        obtain ⟨k14, gk14, hk14⟩ := wGt (cy := cy) X S h_o1.1.1 h_o1.1.2.1
        refine vx_callv (vx_runV (As := []) (rest := []) ⟨hx, hb, hml, hown, hts⟩ (c_X9_needFourWheels l hst (cy := cy) (X := X) (D := D) S _ o1 h_o1) (cwV 0 hts gX9_indexes_X9_needFourWheels rfl rfl rfl (by decide +kernel) ⟨Nat.le_of_ble_eq_true rfl, Nat.le_of_ble_eq_true rfl⟩) ⟨fun a U g mk q => ⟨q.1, q.2.1, q.2.2.1.calling, NW.same (u := U) (U := U.calling g mk a) rfl q.2.2.2.1, q.2.2.2.2.calling⟩, va_recv hK hP (ci := 13) (q0 := k14) rfl hk14, fun U hU hW => ⟨rfl, by rw [hU], wd_pre hP hK hD hU hW, hN.warm hW, th_pre hTH hS hFc hU hW⟩⟩ rfl rfl hl.1 rfl (lv_room (Nat.le_of_ble_eq_true rfl)) dX9_indexes_22 ⟨Nat.le_of_ble_eq_true rfl, Nat.le_of_ble_eq_true rfl⟩) hS (fun q _ h => hFc q h) hFc (fun q _ h => hFc q h) (fun E ce q9 u t H1 locs ht hvm hw hB hz1 hk1 hS hq9 hce hcl => ?_) (fun u t H1 locs ht hvm hw hB hz1 hk1 hS => ?_)
        · obtain ⟨c16, hB2⟩ := hB
          obtain ⟨hP, hD⟩ := wd_post hFc ht hB2
          exact vx_out (fun x h => (hno x h).elim) hlocks hq9 hce hcl (fun t2 ht2 hA2 => ⟨(), trivial, ⟨(by show f_X9_indexes S o1 x1 x2 x3 = .error E; unfold f_X9_indexes; rw [eB_ok c4, eB_ok c9, eB_ok c13, eB_er c16]), wd_end hP hK hD ht2 hA2⟩, hS.F ht2⟩) hS.2.2 (Nat.le_of_ble_eq_true rfl) (Nat.le_of_ble_eq_true rfl)
        · have c17 := hw
          obtain ⟨hP, hD⟩ := wd_post hFc ht hB
          generalize H1 = H at hP hS ⊢
          refine lv_aload_n hx hb dX9_indexes_25 rfl (lv_at hl 2 rfl) ?_
          obtain ⟨k18, gk18, hk18⟩ := wGt (cy := cy) X S h_o1.1.1 h_o1.1.2.1
          simp only [kE, h_o1.2.2.2.2.1.1] at hk18
          refine va_get (D := D) (ci := 13) (v := .ref (S.f o1 6)) (C := RX9) (T := TX9) (N := 11) hx hb hts (by decide +kernel) hown hK hP k18 hk18 rfl 6 (by decide) (hts (.fieldLink RX9 30 "Hobhouse" "box" "LHobhouse$Box;") (by decide +kernel)) (fun _ h9 => h9) rfl dX9_indexes_26 ?_
          refine lv_aload_n hx hb dX9_indexes_29 rfl (lv_at hl 2 rfl) ?_
          obtain ⟨k19, gk19, hk19⟩ := wGt (cy := cy) X S h_o1.1.1 h_o1.1.2.1
          refine va_get (D := D) (ci := 13) (v := .int (S.I o1 9)) (C := RX9) (T := TX9) (N := 11) hx hb hts (by decide +kernel) hown hK hP k19 hk19 rfl 9 (by decide) (hts (.fieldLink RX9 48 "Hobhouse" "constant" "I") (by decide +kernel)) (fun _ h9 => h9) rfl dX9_indexes_30 ?_
          refine lv_aload hx hb dX9_indexes_33 (lv_at hl 0 rfl) ?_
          obtain ⟨k20, gk20, hk20⟩ := wGt (cy := cy) X S o10.1.1 o10.1.2.1
          refine va_get (D := D) (ci := 7) (v := .int (S.I r7 1)) (C := RX3) (T := TX3) (N := 6) hx hb hts (by decide +kernel) hown hK hP k20 hk20 rfl 1 (by decide) (hts (.fieldLink RX9 261 "Hobhouse$Hob" "starts" "I") (by decide +kernel)) (fun _ h9 => h9) rfl dX9_indexes_35 ?_
          refine lv_imul hx hb dX9_indexes_38 ?_
          refine lv_i2l hx hb dX9_indexes_39 rfl ?_
          refine lv_aload hx hb dX9_indexes_40 (lv_at hl 1 rfl) ?_
          obtain ⟨k21, gk21, hk21⟩ := wGt (cy := cy) X S o5.1.1 o5.1.2.1
          refine va_get (D := D) (ci := 6) (v := .int (S.I r2 1)) (C := RX2) (T := TX2) (N := 20) hx hb hts (by decide +kernel) hown hK hP k21 hk21 rfl 1 (by decide) (hts (.fieldLink RX9 100 "Hobhouse$Gear" "teeth" "I") (by decide +kernel)) (fun _ h9 => h9) rfl dX9_indexes_42 ?_
          refine lv_i2l hx hb dX9_indexes_45 rfl ?_
          have hFc := free_all hD hS hA
          obtain ⟨k22, gk22, hk22⟩ := wGt (cy := cy) X S h_o1.2.2.2.2.1.2.1.1 h_o1.2.2.2.2.1.2.1.2.1
          refine va_callv (va_runV (As := [.long (((S.I o1 9) * (S.I r7 1)).toInt64), .long ((S.I r2 1).toInt64)]) (rest := []) ⟨hx, hb, hml, hown, hts⟩ (c_X0_search l (cy := cy) (X := X) (D := D) S _ (S.f o1 6) h_o1.2.2.2.2.1.2 (((S.I o1 9) * (S.I r7 1)).toInt64) ((S.I r2 1).toInt64) h16 h4 hc) (cwV 2 hts gX9_indexes_X0_search rfl rfl rfl (by decide +kernel) ⟨Nat.le_of_ble_eq_true rfl, Nat.le_of_ble_eq_true rfl⟩) ⟨fun a U g mk q => ⟨q.1, q.2.1, q.2.2.1.calling, NW.same (u := U) (U := U.calling g mk a) rfl q.2.2.2⟩, va_recv hK hP (ci := 4) (q0 := k22) rfl hk22, fun U hU hW => ⟨rfl, by rw [hU], wd_pre hP hK hD hU hW, hN.warm hW⟩⟩ rfl rfl hl.1 rfl (lv_room (Nat.le_of_ble_eq_true rfl)) dX9_indexes_46 ⟨Nat.le_of_ble_eq_true rfl, Nat.le_of_ble_eq_true rfl⟩) hS (fun q _ h => hFc q h) hFc (fun u t H1 locs ht hvm hw hB hz1 hk1 hS => ?_)
          obtain ⟨hP, hD⟩ := wd_post hFc ht hB
          generalize H1 = H at hP hS ⊢
          obtain ⟨hw1, shq24⟩ := hw
          obtain rfl : u = f_X0_search S (S.f o1 6) (((S.I o1 9) * (S.I r7 1)).toInt64) ((S.I r2 1).toInt64) := hw1
          refine lv_aload_n hx hb dX9_indexes_49 rfl (lv_at hl 2 rfl) ?_
          obtain ⟨k25, gk25, hk25⟩ := wGt (cy := cy) X (f_X0_search S (S.f o1 6) (((S.I o1 9) * (S.I r7 1)).toInt64) ((S.I r2 1).toInt64)) (shq24.L h_o1.1.1) (shq24.K h_o1.1.2.1)
          simp only [kE, (shq24.F h_o1.2.2.2.2.1.1)] at hk25
          refine va_get (D := D) (ci := 13) (v := .ref (S.f o1 6)) (C := RX9) (T := TX9) (N := 11) hx hb hts (by decide +kernel) hown hK hP k25 hk25 rfl 6 (by decide) (hts (.fieldLink RX9 30 "Hobhouse" "box" "LHobhouse$Box;") (by decide +kernel)) (fun _ h9 => h9) rfl dX9_indexes_50 ?_
          refine lv_iload_n hx hb dX9_indexes_53 rfl (lv_at hl 5 rfl) ?_
          have hFc := free_all hD hS hA
          obtain ⟨k26, gk26, hk26⟩ := wGt (cy := cy) X (f_X0_search S (S.f o1 6) (((S.I o1 9) * (S.I r7 1)).toInt64) ((S.I r2 1).toInt64)) (shq24.L h_o1.2.2.2.2.1.2.1.1) (shq24.K h_o1.2.2.2.2.1.2.1.2.1)
          refine va_calli (va_runV (As := [.int x3]) (rest := []) ⟨hx, hb, hml, hown, hts⟩ (c_X0_isMet l (cy := cy) (X := X) (D := D) (f_X0_search S (S.f o1 6) (((S.I o1 9) * (S.I r7 1)).toInt64) ((S.I r2 1).toInt64)) _ (S.f o1 6) (shq24.k0 h_o1.2.2.2.2.1.2) x3) (cwV 1 hts gX9_indexes_X0_isMet rfl rfl rfl (by decide +kernel) ⟨Nat.le_of_ble_eq_true rfl, Nat.le_of_ble_eq_true rfl⟩) ⟨fun a U g mk q => ⟨q.1, q.2.1, q.2.2.1.calling, NW.same (u := U) (U := U.calling g mk a) rfl q.2.2.2⟩, va_recv hK hP (ci := 4) (q0 := k26) rfl hk26, fun U hU hW => ⟨rfl, by rw [hU], wd_pre hP hK hD hU hW, hN.warm hW⟩⟩ rfl rfl hl.1 rfl (lv_room (Nat.le_of_ble_eq_true rfl)) dX9_indexes_54 ⟨Nat.le_of_ble_eq_true rfl, Nat.le_of_ble_eq_true rfl⟩) hS (fun q _ h => hFc q h) hFc (fun r27 u t H1 locs ht hvm hw hB hz1 hk1 hS => ?_)
          obtain ⟨hP, hD⟩ := wd_post hFc ht hB
          generalize H1 = H at hP hS ⊢
          obtain rfl : r27 = f_X0_isMet (f_X0_search S (S.f o1 6) (((S.I o1 9) * (S.I r7 1)).toInt64) ((S.I r2 1).toInt64)) (S.f o1 6) x3 := hw
          refine vx_ret ?_
          refine W.widen (k := 4) (n := 24) (Nat.le_of_ble_eq_true rfl) (Nat.le_of_ble_eq_true rfl) ?_
          exact W.zret (v := f_X0_isMet (f_X0_search S (S.f o1 6) (((S.I o1 9) * (S.I r7 1)).toInt64) ((S.I r2 1).toInt64)) (S.f o1 6) x3) hx hb hr (f_X0_isMet_b (f_X0_search S (S.f o1 6) (((S.I o1 9) * (S.I r7 1)).toInt64) ((S.I r2 1).toInt64)) (S.f o1 6) x3) (fun t ht hW => ⟨⟨f_X0_isMet (f_X0_search S (S.f o1 6) (((S.I o1 9) * (S.I r7 1)).toInt64) ((S.I r2 1).toInt64)) (S.f o1 6) x3, f_X0_search S (S.f o1 6) (((S.I o1 9) * (S.I r7 1)).toInt64) ((S.I r2 1).toInt64), rfl, (⟨(by show f_X9_indexes S o1 x1 x2 x3 = .ok (f_X0_isMet (f_X0_search S (S.f o1 6) (((S.I o1 9) * (S.I r7 1)).toInt64) ((S.I r2 1).toInt64)) (S.f o1 6) x3, f_X0_search S (S.f o1 6) (((S.I o1 9) * (S.I r7 1)).toInt64) ((S.I r2 1).toInt64)); unfold f_X9_indexes; rw [eB_ok c4, eB_ok c9, eB_ok c13, eB_ok c17]), shq24⟩), wd_end hP hK hD ht hW.alike⟩, hS.F ht⟩) hS.2.2 dX9_indexes_57 hlocks
def f_X9_differs (S : wPS) (o1 : Nat) (x1 : Int32) (x2 : Int32) (x3 : Int32) : Except String (Int32 × wPS) := eB (f_X9_gearAt S o1 x1) (fun r2 => eB (f_X9_hobAt S o1 x2) (fun r7 => eB (f_X9_needRange x3 (0 : Int32) (999999 : Int32)) (fun _ => if (S.I r2 3) = (0 : Int32) then eB (f_X9_allowOnly (0 : Int32)) (fun _ => eB (f_X9_needFourWheels S o1) (fun _ => .ok (f_X0_isMet (f_X0_search S (S.f o1 6) (((if 0 ≤ (S.I r2 3) then (S.I r2 3) else 0 - (S.I r2 3)) * (S.I o1 9)).toInt64) (((S.I r2 2) * (S.I r7 1)).toInt64)) (S.f o1 6) x3, f_X0_search S (S.f o1 6) (((if 0 ≤ (S.I r2 3) then (S.I r2 3) else 0 - (S.I r2 3)) * (S.I o1 9)).toInt64) (((S.I r2 2) * (S.I r7 1)).toInt64)))) else eB (f_X9_allowOnly (1 : Int32)) (fun _ => eB (f_X9_needFourWheels S o1) (fun _ => .ok (f_X0_isMet (f_X0_search S (S.f o1 6) (((if 0 ≤ (S.I r2 3) then (S.I r2 3) else 0 - (S.I r2 3)) * (S.I o1 9)).toInt64) (((S.I r2 2) * (S.I r7 1)).toInt64)) (S.f o1 6) x3, f_X0_search S (S.f o1 6) (((if 0 ≤ (S.I r2 3) then (S.I r2 3) else 0 - (S.I r2 3)) * (S.I o1 9)).toInt64) (((S.I r2 2) * (S.I r7 1)).toInt64)))))))
set_option maxHeartbeats 4000000 in
set_option maxRecDepth 100000 in
theorem c_X9_differs (l : Launch) (hst : l.stackTraces = false) {D : va_G} {cy : Nat → ClassId} {X : va_W} (S : wPS) (sz : Nat) (o1 : Nat) (h_o1 : ok9 S o1) (x1 : Int32) (x2 : Int32) (x3 : Int32) (hGs : gearsOk S o1) (hHs : hobsOk S o1) (h16 : S.n (S.f (S.f o1 6) 0) = 16) (h4 : S.n (S.f (S.f o1 6) 1) = 4) (hc : 0 ≤ (S.I (S.f o1 6) 2).toInt ∧ (S.I (S.f o1 6) 2).toInt ≤ 16) : vx_Met l yX9_differs wsX9_differs ({ frames := 7, cells := 5, slots := 30, locals := 104 }) (va_Pc [.ref o1, .int x1, .int x2, .int x3] (fun U => U.heap.size = sz ∧ WD D cy X (fun _ => True) S U ∧ NW U ∧ TH (va_A (X ++ PL cy S) sz) U)) (va_Qi (fun r (u : wPS) => f_X9_differs S o1 x1 x2 x3 = .ok (r, u) ∧ sh S u) (fun u t => WD D cy X (va_A (X ++ PL cy S) sz) u t) (va_A (X ++ PL cy S) sz)) (vx_X (fun (_ : Unit) => True) (fun E _ t => f_X9_differs S o1 x1 x2 x3 = .error E ∧ WD D cy X (va_A (X ++ PL cy S) sz) S t) (va_A (X ++ PL cy S) sz)) 5 30 (va_A (X ++ PL cy S) sz) := by
  refine vx_ofW (cc := cX9_differs) (maxL := 6) (ret := (some .boolean)) (by decide) rfl ?_
  intro p e s m args below meth c s₁ B hml hno hv
  obtain ⟨rfl, hsz, ⟨hP, hK, hD0⟩, hN, hTH⟩ := hv
  have hx := B.exec
  have hb := B.bytes
  have hr := B.returns
  have hts := atoms_spec (ws := wsX9_differs) B.pre
  have hown : s.vm.findClass RX9 = some m.cls := findClass_of_methodNamed B.named
  have hlocks := B.notSynchronized
  subst hsz
  have hD := hD0.self (sz := s.heap.size)
  generalize hAe : va_A (X ++ PL cy S) s.heap.size = A at hD hTH ⊢
  have hA : ∀ q : Nat, s.heap.size ≤ q → A q := fun q h => by rw [← hAe]; exact Or.inr h
  have hS : va_S A s.heap s.heap [] := va_S.rf
  have hl := lv_entry ([.ref o1, .int x1, .int x2, .int x3]) (n := 6) (Nat.le_of_ble_eq_true rfl)
  rw [lg_entry_eq]
  generalize (lg_sl ([.ref o1, .int x1, .int x2, .int x3]) ++ List.replicate (6 - (lg_sl ([.ref o1, .int x1, .int x2, .int x3])).length) Slot.unset).toArray = ls at hl ⊢
  have hl : lv_has ls 6 [(0, .ref o1), (1, .int x1), (2, .int x2), (3, .int x3)] := hl
  refine lv_aload_n hx hb dX9_differs_0 rfl (lv_at hl 0 rfl) ?_
  refine lv_iload_n hx hb dX9_differs_1 rfl (lv_at hl 1 rfl) ?_
  have hFc := free_all hD hS hA
  obtain ⟨k1, gk1, hk1⟩ := wGt (cy := cy) X S h_o1.1.1 h_o1.1.2.1
  refine vx_callq (vx_runV (As := [.int x1]) (rest := []) ⟨hx, hb, hml, hown, hts⟩ (c_X9_gearAt l hst (cy := cy) (X := X) (D := D) S _ o1 h_o1 x1 hGs) (cwV 1 hts gX9_differs_X9_gearAt rfl rfl rfl (by decide +kernel) ⟨Nat.le_of_ble_eq_true rfl, Nat.le_of_ble_eq_true rfl⟩) ⟨fun a U g mk q => ⟨q.1, q.2.1, q.2.2.1.calling, NW.same (u := U) (U := U.calling g mk a) rfl q.2.2.2.1, q.2.2.2.2.calling⟩, va_recv hK hP (ci := 13) (q0 := k1) rfl hk1, fun U hU hW => ⟨rfl, by rw [hU], wd_pre hP hK hD hU hW, hN.warm hW, th_pre hTH hS hFc hU hW⟩⟩ rfl rfl hl.1 rfl (lv_room (Nat.le_of_ble_eq_true rfl)) dX9_differs_2 ⟨Nat.le_of_ble_eq_true rfl, Nat.le_of_ble_eq_true rfl⟩) hS (fun q _ h => hFc q h) hFc (fun q _ h => hFc q h) (fun E ce q9 u t H1 locs ht hvm hw hB hz1 hk1 hS hq9 hce hcl => ?_) (fun r2 u t H1 locs ht hvm hw hB hz1 hk1 hS => ?_)
  · obtain ⟨c3, hB2⟩ := hB
    obtain ⟨hP, hD⟩ := wd_post hFc ht hB2
    exact vx_out (fun x h => (hno x h).elim) hlocks hq9 hce hcl (fun t2 ht2 hA2 => ⟨(), trivial, ⟨(by show f_X9_differs S o1 x1 x2 x3 = .error E; unfold f_X9_differs; rw [eB_er c3]), wd_end hP hK hD ht2 hA2⟩, hS.F ht2⟩) hS.2.2 (Nat.le_of_ble_eq_true rfl) (Nat.le_of_ble_eq_true rfl)
  · obtain ⟨r2, rfl, c4, o5⟩ := hw
    obtain ⟨hP, hD⟩ := wd_post hFc ht hB
    generalize H1 = H at hP hS ⊢
    refine W.eq (g2 := F0 m 5 ls [.ref r2]) rfl ?_
    refine lv_astore (lv' := [(4, .ref r2), (0, .ref o1), (1, .int x1), (2, .int x2), (3, .int x3)]) hx hb dX9_differs_5 hl (by decide) rfl (fun ls hl => ?_)
    refine lv_aload_n hx hb dX9_differs_7 rfl (lv_at hl 1 rfl) ?_
    refine lv_iload_n hx hb dX9_differs_8 rfl (lv_at hl 3 rfl) ?_
    have hFc := free_all hD hS hA
    obtain ⟨k6, gk6, hk6⟩ := wGt (cy := cy) X S h_o1.1.1 h_o1.1.2.1
    refine vx_callq (vx_runV (As := [.int x2]) (rest := []) ⟨hx, hb, hml, hown, hts⟩ (c_X9_hobAt l hst (cy := cy) (X := X) (D := D) S _ o1 h_o1 x2 hHs) (cwV 1 hts gX9_differs_X9_hobAt rfl rfl rfl (by decide +kernel) ⟨Nat.le_of_ble_eq_true rfl, Nat.le_of_ble_eq_true rfl⟩) ⟨fun a U g mk q => ⟨q.1, q.2.1, q.2.2.1.calling, NW.same (u := U) (U := U.calling g mk a) rfl q.2.2.2.1, q.2.2.2.2.calling⟩, va_recv hK hP (ci := 13) (q0 := k6) rfl hk6, fun U hU hW => ⟨rfl, by rw [hU], wd_pre hP hK hD hU hW, hN.warm hW, th_pre hTH hS hFc hU hW⟩⟩ rfl rfl hl.1 rfl (lv_room (Nat.le_of_ble_eq_true rfl)) dX9_differs_9 ⟨Nat.le_of_ble_eq_true rfl, Nat.le_of_ble_eq_true rfl⟩) hS (fun q _ h => hFc q h) hFc (fun q _ h => hFc q h) (fun E ce q9 u t H1 locs ht hvm hw hB hz1 hk1 hS hq9 hce hcl => ?_) (fun r7 u t H1 locs ht hvm hw hB hz1 hk1 hS => ?_)
    · obtain ⟨c8, hB2⟩ := hB
      obtain ⟨hP, hD⟩ := wd_post hFc ht hB2
      exact vx_out (fun x h => (hno x h).elim) hlocks hq9 hce hcl (fun t2 ht2 hA2 => ⟨(), trivial, ⟨(by show f_X9_differs S o1 x1 x2 x3 = .error E; unfold f_X9_differs; rw [eB_ok c4, eB_er c8]), wd_end hP hK hD ht2 hA2⟩, hS.F ht2⟩) hS.2.2 (Nat.le_of_ble_eq_true rfl) (Nat.le_of_ble_eq_true rfl)
    · obtain ⟨r7, rfl, c9, o10⟩ := hw
      obtain ⟨hP, hD⟩ := wd_post hFc ht hB
      generalize H1 = H at hP hS ⊢
      refine W.eq (g2 := F0 m 12 ls [.ref r7]) rfl ?_
      refine lv_astore (lv' := [(5, .ref r7), (4, .ref r2), (0, .ref o1), (1, .int x1), (2, .int x2), (3, .int x3)]) hx hb dX9_differs_12 hl (by decide) rfl (fun ls hl => ?_)
      refine lv_iload_n hx hb dX9_differs_14 rfl (lv_at hl 5 rfl) ?_
      refine lv_iconst (v := 0) hx hb dX9_differs_15 (by decide) ?_
      refine lv_ldc (own := RX9) (v := 999999) hx hb hown (hts (.constant RX9 244 (999999)) (by decide +kernel)) dX9_differs_16 ?_
      have hFc := free_all hD hS hA
      refine vx_callv (vx_runS (As := [.int x3, .int (0 : Int32), .int (999999 : Int32)]) (rest := []) ⟨hx, hb, hml, hown, hts⟩ (c_X9_needRange l hst (cy := cy) (X := X) (D := D) S _ x3 (0 : Int32) (999999 : Int32)) (cwS 3 hts gX9_differs_X9_needRange rfl rfl rfl (by decide +kernel) ⟨Nat.le_of_ble_eq_true rfl, Nat.le_of_ble_eq_true rfl⟩) ⟨fun a U g mk q => ⟨q.1, q.2.1, q.2.2.1.calling, NW.same (u := U) (U := U.calling g mk a) rfl q.2.2.2.1, q.2.2.2.2.calling⟩, fun U hU hW => ⟨rfl, by rw [hU], wd_pre hP hK hD hU hW, hN.warm hW, th_pre hTH hS hFc hU hW⟩⟩ rfl rfl hl.1 rfl (lv_room (Nat.le_of_ble_eq_true rfl)) dX9_differs_18 ⟨Nat.le_of_ble_eq_true rfl, Nat.le_of_ble_eq_true rfl⟩) hS (fun q _ h => hFc q h) hFc (fun q _ h => hFc q h) (fun E ce q9 u t H1 locs ht hvm hw hB hz1 hk1 hS hq9 hce hcl => ?_) (fun u t H1 locs ht hvm hw hB hz1 hk1 hS => ?_)
      · obtain ⟨c12, hB2⟩ := hB
        obtain ⟨hP, hD⟩ := wd_post hFc ht hB2
        exact vx_out (fun x h => (hno x h).elim) hlocks hq9 hce hcl (fun t2 ht2 hA2 => ⟨(), trivial, ⟨(by show f_X9_differs S o1 x1 x2 x3 = .error E; unfold f_X9_differs; rw [eB_ok c4, eB_ok c9, eB_er c12]), wd_end hP hK hD ht2 hA2⟩, hS.F ht2⟩) hS.2.2 (Nat.le_of_ble_eq_true rfl) (Nat.le_of_ble_eq_true rfl)
      · have c13 := hw
        obtain ⟨hP, hD⟩ := wd_post hFc ht hB
        generalize H1 = H at hP hS ⊢
        refine lv_aload hx hb dX9_differs_21 (lv_at hl 1 rfl) ?_
        obtain ⟨k14, gk14, hk14⟩ := wGt (cy := cy) X S o5.1.1 o5.1.2.1
        refine va_get (D := D) (ci := 6) (v := .int (S.I r2 3)) (C := RX2) (T := TX2) (N := 20) hx hb hts (by decide +kernel) hown hK hP k14 hk14 rfl 3 (by decide) (hts (.fieldLink RX9 185 "Hobhouse$Gear" "helix" "I") (by decide +kernel)) (fun _ h9 => h9) rfl dX9_differs_23 ?_
        refine lv_if_eq (tgt := 33) hx hb dX9_differs_26 (by decide) (fun c15 => ?_) (fun c15 => ?_)
        · refine lv_iconst (v := 0) hx hb dX9_differs_33 (by decide) ?_
          have hFc := free_all hD hS hA
          refine vx_callv (vx_runS (As := [.int (0 : Int32)]) (rest := []) ⟨hx, hb, hml, hown, hts⟩ (c_X9_allowOnly l hst (cy := cy) (X := X) (D := D) S _ (0 : Int32)) (cwS 1 hts gX9_differs_X9_allowOnly rfl rfl rfl (by decide +kernel) ⟨Nat.le_of_ble_eq_true rfl, Nat.le_of_ble_eq_true rfl⟩) ⟨fun a U g mk q => ⟨q.1, q.2.1, q.2.2.1.calling, NW.same (u := U) (U := U.calling g mk a) rfl q.2.2.2.1, q.2.2.2.2.calling⟩, fun U hU hW => ⟨rfl, by rw [hU], wd_pre hP hK hD hU hW, hN.warm hW, th_pre hTH hS hFc hU hW⟩⟩ rfl rfl hl.1 rfl (lv_room (Nat.le_of_ble_eq_true rfl)) dX9_differs_34 ⟨Nat.le_of_ble_eq_true rfl, Nat.le_of_ble_eq_true rfl⟩) hS (fun q _ h => hFc q h) hFc (fun q _ h => hFc q h) (fun E ce q9 u t H1 locs ht hvm hw hB hz1 hk1 hS hq9 hce hcl => ?_) (fun u t H1 locs ht hvm hw hB hz1 hk1 hS => ?_)
          · obtain ⟨c17, hB2⟩ := hB
            obtain ⟨hP, hD⟩ := wd_post hFc ht hB2
            exact vx_out (fun x h => (hno x h).elim) hlocks hq9 hce hcl (fun t2 ht2 hA2 => ⟨(), trivial, ⟨(by show f_X9_differs S o1 x1 x2 x3 = .error E; unfold f_X9_differs; rw [eB_ok c4, eB_ok c9, eB_ok c13, if_pos c15, eB_er c17]), wd_end hP hK hD ht2 hA2⟩, hS.F ht2⟩) hS.2.2 (Nat.le_of_ble_eq_true rfl) (Nat.le_of_ble_eq_true rfl)
          · have c18 := hw
            obtain ⟨hP, hD⟩ := wd_post hFc ht hB
            generalize H1 = H at hP hS ⊢
            refine lv_aload_n hx hb dX9_differs_37 rfl (lv_at hl 2 rfl) ?_
            have hFc := free_all hD hS hA
            obtain ⟨k19, gk19, hk19⟩ := wGt (cy := cy) X S h_o1.1.1 h_o1.1.2.1
            refine vx_callv (vx_runV (As := []) (rest := []) ⟨hx, hb, hml, hown, hts⟩ (c_X9_needFourWheels l hst (cy := cy) (X := X) (D := D) S _ o1 h_o1) (cwV 0 hts gX9_differs_X9_needFourWheels rfl rfl rfl (by decide +kernel) ⟨Nat.le_of_ble_eq_true rfl, Nat.le_of_ble_eq_true rfl⟩) ⟨fun a U g mk q => ⟨q.1, q.2.1, q.2.2.1.calling, NW.same (u := U) (U := U.calling g mk a) rfl q.2.2.2.1, q.2.2.2.2.calling⟩, va_recv hK hP (ci := 13) (q0 := k19) rfl hk19, fun U hU hW => ⟨rfl, by rw [hU], wd_pre hP hK hD hU hW, hN.warm hW, th_pre hTH hS hFc hU hW⟩⟩ rfl rfl hl.1 rfl (lv_room (Nat.le_of_ble_eq_true rfl)) dX9_differs_38 ⟨Nat.le_of_ble_eq_true rfl, Nat.le_of_ble_eq_true rfl⟩) hS (fun q _ h => hFc q h) hFc (fun q _ h => hFc q h) (fun E ce q9 u t H1 locs ht hvm hw hB hz1 hk1 hS hq9 hce hcl => ?_) (fun u t H1 locs ht hvm hw hB hz1 hk1 hS => ?_)
            · obtain ⟨c21, hB2⟩ := hB
              obtain ⟨hP, hD⟩ := wd_post hFc ht hB2
              exact vx_out (fun x h => (hno x h).elim) hlocks hq9 hce hcl (fun t2 ht2 hA2 => ⟨(), trivial, ⟨(by show f_X9_differs S o1 x1 x2 x3 = .error E; unfold f_X9_differs; rw [eB_ok c4, eB_ok c9, eB_ok c13, if_pos c15, eB_ok c18, eB_er c21]), wd_end hP hK hD ht2 hA2⟩, hS.F ht2⟩) hS.2.2 (Nat.le_of_ble_eq_true rfl) (Nat.le_of_ble_eq_true rfl)
            · have c22 := hw
              obtain ⟨hP, hD⟩ := wd_post hFc ht hB
              generalize H1 = H at hP hS ⊢
              refine lv_aload_n hx hb dX9_differs_41 rfl (lv_at hl 2 rfl) ?_
              obtain ⟨k23, gk23, hk23⟩ := wGt (cy := cy) X S h_o1.1.1 h_o1.1.2.1
              simp only [kE, h_o1.2.2.2.2.1.1] at hk23
              refine va_get (D := D) (ci := 13) (v := .ref (S.f o1 6)) (C := RX9) (T := TX9) (N := 11) hx hb hts (by decide +kernel) hown hK hP k23 hk23 rfl 6 (by decide) (hts (.fieldLink RX9 30 "Hobhouse" "box" "LHobhouse$Box;") (by decide +kernel)) (fun _ h9 => h9) rfl dX9_differs_42 ?_
              refine lv_aload hx hb dX9_differs_45 (lv_at hl 1 rfl) ?_
              obtain ⟨k24, gk24, hk24⟩ := wGt (cy := cy) X S o5.1.1 o5.1.2.1
              refine va_get (D := D) (ci := 6) (v := .int (S.I r2 3)) (C := RX2) (T := TX2) (N := 20) hx hb hts (by decide +kernel) hown hK hP k24 hk24 rfl 3 (by decide) (hts (.fieldLink RX9 185 "Hobhouse$Gear" "helix" "I") (by decide +kernel)) (fun _ h9 => h9) rfl dX9_differs_47 ?_
              refine va_mabs hx hb (hml.trans hl.1.symm) hown (hts (.methodLink RX9 188 Lib.Math.abs.name) (by decide +kernel)) (hts (.static Lib.Math.abs.name) (by decide +kernel)) (hts (.initialized "java/lang/Math") (by decide +kernel)) (hts (.code Lib.Math.abs.name Lib.Math.abs.code 1 (some .int)) (by decide +kernel)) (Nat.le_of_ble_eq_true rfl) (Nat.le_of_ble_eq_true rfl) (Nat.le_of_ble_eq_true rfl) (Nat.le_of_ble_eq_true rfl) dX9_differs_50 ?_
              refine lv_aload_n hx hb dX9_differs_53 rfl (lv_at hl 2 rfl) ?_
              obtain ⟨k25, gk25, hk25⟩ := wGt (cy := cy) X S h_o1.1.1 h_o1.1.2.1
              refine va_get (D := D) (ci := 13) (v := .int (S.I o1 9)) (C := RX9) (T := TX9) (N := 11) hx hb hts (by decide +kernel) hown hK hP k25 hk25 rfl 9 (by decide) (hts (.fieldLink RX9 48 "Hobhouse" "constant" "I") (by decide +kernel)) (fun _ h9 => h9) rfl dX9_differs_54 ?_
              refine lv_imul hx hb dX9_differs_57 ?_
              refine lv_i2l hx hb dX9_differs_58 rfl ?_
              refine lv_aload hx hb dX9_differs_59 (lv_at hl 1 rfl) ?_
              obtain ⟨k26, gk26, hk26⟩ := wGt (cy := cy) X S o5.1.1 o5.1.2.1
              refine va_get (D := D) (ci := 6) (v := .int (S.I r2 2)) (C := RX2) (T := TX2) (N := 20) hx hb hts (by decide +kernel) hown hK hP k26 hk26 rfl 2 (by decide) (hts (.fieldLink RX9 165 "Hobhouse$Gear" "module" "I") (by decide +kernel)) (fun _ h9 => h9) rfl dX9_differs_61 ?_
              refine lv_aload hx hb dX9_differs_64 (lv_at hl 0 rfl) ?_
              obtain ⟨k27, gk27, hk27⟩ := wGt (cy := cy) X S o10.1.1 o10.1.2.1
              refine va_get (D := D) (ci := 7) (v := .int (S.I r7 1)) (C := RX3) (T := TX3) (N := 6) hx hb hts (by decide +kernel) hown hK hP k27 hk27 rfl 1 (by decide) (hts (.fieldLink RX9 261 "Hobhouse$Hob" "starts" "I") (by decide +kernel)) (fun _ h9 => h9) rfl dX9_differs_66 ?_
              refine lv_imul hx hb dX9_differs_69 ?_
              refine lv_i2l hx hb dX9_differs_70 rfl ?_
              have hFc := free_all hD hS hA
              obtain ⟨k28, gk28, hk28⟩ := wGt (cy := cy) X S h_o1.2.2.2.2.1.2.1.1 h_o1.2.2.2.2.1.2.1.2.1
              refine va_callv (va_runV (As := [.long (((if 0 ≤ (S.I r2 3) then (S.I r2 3) else 0 - (S.I r2 3)) * (S.I o1 9)).toInt64), .long (((S.I r2 2) * (S.I r7 1)).toInt64)]) (rest := []) ⟨hx, hb, hml, hown, hts⟩ (c_X0_search l (cy := cy) (X := X) (D := D) S _ (S.f o1 6) h_o1.2.2.2.2.1.2 (((if 0 ≤ (S.I r2 3) then (S.I r2 3) else 0 - (S.I r2 3)) * (S.I o1 9)).toInt64) (((S.I r2 2) * (S.I r7 1)).toInt64) h16 h4 hc) (cwV 2 hts gX9_differs_X0_search rfl rfl rfl (by decide +kernel) ⟨Nat.le_of_ble_eq_true rfl, Nat.le_of_ble_eq_true rfl⟩) ⟨fun a U g mk q => ⟨q.1, q.2.1, q.2.2.1.calling, NW.same (u := U) (U := U.calling g mk a) rfl q.2.2.2⟩, va_recv hK hP (ci := 4) (q0 := k28) rfl hk28, fun U hU hW => ⟨rfl, by rw [hU], wd_pre hP hK hD hU hW, hN.warm hW⟩⟩ rfl rfl hl.1 rfl (lv_room (Nat.le_of_ble_eq_true rfl)) dX9_differs_71 ⟨Nat.le_of_ble_eq_true rfl, Nat.le_of_ble_eq_true rfl⟩) hS (fun q _ h => hFc q h) hFc (fun u t H1 locs ht hvm hw hB hz1 hk1 hS => ?_)
              obtain ⟨hP, hD⟩ := wd_post hFc ht hB
              generalize H1 = H at hP hS ⊢
              obtain ⟨hw1, shq30⟩ := hw
              obtain rfl : u = f_X0_search S (S.f o1 6) (((if 0 ≤ (S.I r2 3) then (S.I r2 3) else 0 - (S.I r2 3)) * (S.I o1 9)).toInt64) (((S.I r2 2) * (S.I r7 1)).toInt64) := hw1
              refine lv_aload_n hx hb dX9_differs_74 rfl (lv_at hl 2 rfl) ?_
              obtain ⟨k31, gk31, hk31⟩ := wGt (cy := cy) X (f_X0_search S (S.f o1 6) (((if 0 ≤ (S.I r2 3) then (S.I r2 3) else 0 - (S.I r2 3)) * (S.I o1 9)).toInt64) (((S.I r2 2) * (S.I r7 1)).toInt64)) (shq30.L h_o1.1.1) (shq30.K h_o1.1.2.1)
              simp only [kE, (shq30.F h_o1.2.2.2.2.1.1)] at hk31
              refine va_get (D := D) (ci := 13) (v := .ref (S.f o1 6)) (C := RX9) (T := TX9) (N := 11) hx hb hts (by decide +kernel) hown hK hP k31 hk31 rfl 6 (by decide) (hts (.fieldLink RX9 30 "Hobhouse" "box" "LHobhouse$Box;") (by decide +kernel)) (fun _ h9 => h9) rfl dX9_differs_75 ?_
              refine lv_iload_n hx hb dX9_differs_78 rfl (lv_at hl 5 rfl) ?_
              have hFc := free_all hD hS hA
              obtain ⟨k32, gk32, hk32⟩ := wGt (cy := cy) X (f_X0_search S (S.f o1 6) (((if 0 ≤ (S.I r2 3) then (S.I r2 3) else 0 - (S.I r2 3)) * (S.I o1 9)).toInt64) (((S.I r2 2) * (S.I r7 1)).toInt64)) (shq30.L h_o1.2.2.2.2.1.2.1.1) (shq30.K h_o1.2.2.2.2.1.2.1.2.1)
              refine va_calli (va_runV (As := [.int x3]) (rest := []) ⟨hx, hb, hml, hown, hts⟩ (c_X0_isMet l (cy := cy) (X := X) (D := D) (f_X0_search S (S.f o1 6) (((if 0 ≤ (S.I r2 3) then (S.I r2 3) else 0 - (S.I r2 3)) * (S.I o1 9)).toInt64) (((S.I r2 2) * (S.I r7 1)).toInt64)) _ (S.f o1 6) (shq30.k0 h_o1.2.2.2.2.1.2) x3) (cwV 1 hts gX9_differs_X0_isMet rfl rfl rfl (by decide +kernel) ⟨Nat.le_of_ble_eq_true rfl, Nat.le_of_ble_eq_true rfl⟩) ⟨fun a U g mk q => ⟨q.1, q.2.1, q.2.2.1.calling, NW.same (u := U) (U := U.calling g mk a) rfl q.2.2.2⟩, va_recv hK hP (ci := 4) (q0 := k32) rfl hk32, fun U hU hW => ⟨rfl, by rw [hU], wd_pre hP hK hD hU hW, hN.warm hW⟩⟩ rfl rfl hl.1 rfl (lv_room (Nat.le_of_ble_eq_true rfl)) dX9_differs_79 ⟨Nat.le_of_ble_eq_true rfl, Nat.le_of_ble_eq_true rfl⟩) hS (fun q _ h => hFc q h) hFc (fun r33 u t H1 locs ht hvm hw hB hz1 hk1 hS => ?_)
              obtain ⟨hP, hD⟩ := wd_post hFc ht hB
              generalize H1 = H at hP hS ⊢
              obtain rfl : r33 = f_X0_isMet (f_X0_search S (S.f o1 6) (((if 0 ≤ (S.I r2 3) then (S.I r2 3) else 0 - (S.I r2 3)) * (S.I o1 9)).toInt64) (((S.I r2 2) * (S.I r7 1)).toInt64)) (S.f o1 6) x3 := hw
              refine vx_ret ?_
              refine W.widen (k := 5) (n := 30) (Nat.le_of_ble_eq_true rfl) (Nat.le_of_ble_eq_true rfl) ?_
              exact W.zret (v := f_X0_isMet (f_X0_search S (S.f o1 6) (((if 0 ≤ (S.I r2 3) then (S.I r2 3) else 0 - (S.I r2 3)) * (S.I o1 9)).toInt64) (((S.I r2 2) * (S.I r7 1)).toInt64)) (S.f o1 6) x3) hx hb hr (f_X0_isMet_b (f_X0_search S (S.f o1 6) (((if 0 ≤ (S.I r2 3) then (S.I r2 3) else 0 - (S.I r2 3)) * (S.I o1 9)).toInt64) (((S.I r2 2) * (S.I r7 1)).toInt64)) (S.f o1 6) x3) (fun t ht hW => ⟨⟨f_X0_isMet (f_X0_search S (S.f o1 6) (((if 0 ≤ (S.I r2 3) then (S.I r2 3) else 0 - (S.I r2 3)) * (S.I o1 9)).toInt64) (((S.I r2 2) * (S.I r7 1)).toInt64)) (S.f o1 6) x3, f_X0_search S (S.f o1 6) (((if 0 ≤ (S.I r2 3) then (S.I r2 3) else 0 - (S.I r2 3)) * (S.I o1 9)).toInt64) (((S.I r2 2) * (S.I r7 1)).toInt64), rfl, (⟨(by show f_X9_differs S o1 x1 x2 x3 = .ok (f_X0_isMet (f_X0_search S (S.f o1 6) (((if 0 ≤ (S.I r2 3) then (S.I r2 3) else 0 - (S.I r2 3)) * (S.I o1 9)).toInt64) (((S.I r2 2) * (S.I r7 1)).toInt64)) (S.f o1 6) x3, f_X0_search S (S.f o1 6) (((if 0 ≤ (S.I r2 3) then (S.I r2 3) else 0 - (S.I r2 3)) * (S.I o1 9)).toInt64) (((S.I r2 2) * (S.I r7 1)).toInt64)); unfold f_X9_differs; rw [eB_ok c4, eB_ok c9, eB_ok c13, if_pos c15, eB_ok c18, eB_ok c22]), shq30⟩), wd_end hP hK hD ht hW.alike⟩, hS.F ht⟩) hS.2.2 dX9_differs_82 hlocks
        · refine lv_iconst (v := 1) hx hb dX9_differs_29 (by decide) ?_
          refine lv_goto (tgt := 34) hx hb dX9_differs_30 (by decide) ?_
          have hFc := free_all hD hS hA
          refine vx_callv (vx_runS (As := [.int (1 : Int32)]) (rest := []) ⟨hx, hb, hml, hown, hts⟩ (c_X9_allowOnly l hst (cy := cy) (X := X) (D := D) S _ (1 : Int32)) (cwS 1 hts gX9_differs_X9_allowOnly rfl rfl rfl (by decide +kernel) ⟨Nat.le_of_ble_eq_true rfl, Nat.le_of_ble_eq_true rfl⟩) ⟨fun a U g mk q => ⟨q.1, q.2.1, q.2.2.1.calling, NW.same (u := U) (U := U.calling g mk a) rfl q.2.2.2.1, q.2.2.2.2.calling⟩, fun U hU hW => ⟨rfl, by rw [hU], wd_pre hP hK hD hU hW, hN.warm hW, th_pre hTH hS hFc hU hW⟩⟩ rfl rfl hl.1 rfl (lv_room (Nat.le_of_ble_eq_true rfl)) dX9_differs_34 ⟨Nat.le_of_ble_eq_true rfl, Nat.le_of_ble_eq_true rfl⟩) hS (fun q _ h => hFc q h) hFc (fun q _ h => hFc q h) (fun E ce q9 u t H1 locs ht hvm hw hB hz1 hk1 hS hq9 hce hcl => ?_) (fun u t H1 locs ht hvm hw hB hz1 hk1 hS => ?_)
          · obtain ⟨c35, hB2⟩ := hB
            obtain ⟨hP, hD⟩ := wd_post hFc ht hB2
            exact vx_out (fun x h => (hno x h).elim) hlocks hq9 hce hcl (fun t2 ht2 hA2 => ⟨(), trivial, ⟨(by show f_X9_differs S o1 x1 x2 x3 = .error E; unfold f_X9_differs; rw [eB_ok c4, eB_ok c9, eB_ok c13, if_neg c15, eB_er c35]), wd_end hP hK hD ht2 hA2⟩, hS.F ht2⟩) hS.2.2 (Nat.le_of_ble_eq_true rfl) (Nat.le_of_ble_eq_true rfl)
          · have c36 := hw
            obtain ⟨hP, hD⟩ := wd_post hFc ht hB
            generalize H1 = H at hP hS ⊢
            refine lv_aload_n hx hb dX9_differs_37 rfl (lv_at hl 2 rfl) ?_
            have hFc := free_all hD hS hA
            obtain ⟨k37, gk37, hk37⟩ := wGt (cy := cy) X S h_o1.1.1 h_o1.1.2.1
            refine vx_callv (vx_runV (As := []) (rest := []) ⟨hx, hb, hml, hown, hts⟩ (c_X9_needFourWheels l hst (cy := cy) (X := X) (D := D) S _ o1 h_o1) (cwV 0 hts gX9_differs_X9_needFourWheels rfl rfl rfl (by decide +kernel) ⟨Nat.le_of_ble_eq_true rfl, Nat.le_of_ble_eq_true rfl⟩) ⟨fun a U g mk q => ⟨q.1, q.2.1, q.2.2.1.calling, NW.same (u := U) (U := U.calling g mk a) rfl q.2.2.2.1, q.2.2.2.2.calling⟩, va_recv hK hP (ci := 13) (q0 := k37) rfl hk37, fun U hU hW => ⟨rfl, by rw [hU], wd_pre hP hK hD hU hW, hN.warm hW, th_pre hTH hS hFc hU hW⟩⟩ rfl rfl hl.1 rfl (lv_room (Nat.le_of_ble_eq_true rfl)) dX9_differs_38 ⟨Nat.le_of_ble_eq_true rfl, Nat.le_of_ble_eq_true rfl⟩) hS (fun q _ h => hFc q h) hFc (fun q _ h => hFc q h) (fun E ce q9 u t H1 locs ht hvm hw hB hz1 hk1 hS hq9 hce hcl => ?_) (fun u t H1 locs ht hvm hw hB hz1 hk1 hS => ?_)
            · obtain ⟨c39, hB2⟩ := hB
              obtain ⟨hP, hD⟩ := wd_post hFc ht hB2
              exact vx_out (fun x h => (hno x h).elim) hlocks hq9 hce hcl (fun t2 ht2 hA2 => ⟨(), trivial, ⟨(by show f_X9_differs S o1 x1 x2 x3 = .error E; unfold f_X9_differs; rw [eB_ok c4, eB_ok c9, eB_ok c13, if_neg c15, eB_ok c36, eB_er c39]), wd_end hP hK hD ht2 hA2⟩, hS.F ht2⟩) hS.2.2 (Nat.le_of_ble_eq_true rfl) (Nat.le_of_ble_eq_true rfl)
            · have c40 := hw
              obtain ⟨hP, hD⟩ := wd_post hFc ht hB
              generalize H1 = H at hP hS ⊢
              refine lv_aload_n hx hb dX9_differs_41 rfl (lv_at hl 2 rfl) ?_
              obtain ⟨k41, gk41, hk41⟩ := wGt (cy := cy) X S h_o1.1.1 h_o1.1.2.1
              simp only [kE, h_o1.2.2.2.2.1.1] at hk41
              refine va_get (D := D) (ci := 13) (v := .ref (S.f o1 6)) (C := RX9) (T := TX9) (N := 11) hx hb hts (by decide +kernel) hown hK hP k41 hk41 rfl 6 (by decide) (hts (.fieldLink RX9 30 "Hobhouse" "box" "LHobhouse$Box;") (by decide +kernel)) (fun _ h9 => h9) rfl dX9_differs_42 ?_
              refine lv_aload hx hb dX9_differs_45 (lv_at hl 1 rfl) ?_
              obtain ⟨k42, gk42, hk42⟩ := wGt (cy := cy) X S o5.1.1 o5.1.2.1
              refine va_get (D := D) (ci := 6) (v := .int (S.I r2 3)) (C := RX2) (T := TX2) (N := 20) hx hb hts (by decide +kernel) hown hK hP k42 hk42 rfl 3 (by decide) (hts (.fieldLink RX9 185 "Hobhouse$Gear" "helix" "I") (by decide +kernel)) (fun _ h9 => h9) rfl dX9_differs_47 ?_
              refine va_mabs hx hb (hml.trans hl.1.symm) hown (hts (.methodLink RX9 188 Lib.Math.abs.name) (by decide +kernel)) (hts (.static Lib.Math.abs.name) (by decide +kernel)) (hts (.initialized "java/lang/Math") (by decide +kernel)) (hts (.code Lib.Math.abs.name Lib.Math.abs.code 1 (some .int)) (by decide +kernel)) (Nat.le_of_ble_eq_true rfl) (Nat.le_of_ble_eq_true rfl) (Nat.le_of_ble_eq_true rfl) (Nat.le_of_ble_eq_true rfl) dX9_differs_50 ?_
              refine lv_aload_n hx hb dX9_differs_53 rfl (lv_at hl 2 rfl) ?_
              obtain ⟨k43, gk43, hk43⟩ := wGt (cy := cy) X S h_o1.1.1 h_o1.1.2.1
              refine va_get (D := D) (ci := 13) (v := .int (S.I o1 9)) (C := RX9) (T := TX9) (N := 11) hx hb hts (by decide +kernel) hown hK hP k43 hk43 rfl 9 (by decide) (hts (.fieldLink RX9 48 "Hobhouse" "constant" "I") (by decide +kernel)) (fun _ h9 => h9) rfl dX9_differs_54 ?_
              refine lv_imul hx hb dX9_differs_57 ?_
              refine lv_i2l hx hb dX9_differs_58 rfl ?_
              refine lv_aload hx hb dX9_differs_59 (lv_at hl 1 rfl) ?_
              obtain ⟨k44, gk44, hk44⟩ := wGt (cy := cy) X S o5.1.1 o5.1.2.1
              refine va_get (D := D) (ci := 6) (v := .int (S.I r2 2)) (C := RX2) (T := TX2) (N := 20) hx hb hts (by decide +kernel) hown hK hP k44 hk44 rfl 2 (by decide) (hts (.fieldLink RX9 165 "Hobhouse$Gear" "module" "I") (by decide +kernel)) (fun _ h9 => h9) rfl dX9_differs_61 ?_
              refine lv_aload hx hb dX9_differs_64 (lv_at hl 0 rfl) ?_
              obtain ⟨k45, gk45, hk45⟩ := wGt (cy := cy) X S o10.1.1 o10.1.2.1
              refine va_get (D := D) (ci := 7) (v := .int (S.I r7 1)) (C := RX3) (T := TX3) (N := 6) hx hb hts (by decide +kernel) hown hK hP k45 hk45 rfl 1 (by decide) (hts (.fieldLink RX9 261 "Hobhouse$Hob" "starts" "I") (by decide +kernel)) (fun _ h9 => h9) rfl dX9_differs_66 ?_
              refine lv_imul hx hb dX9_differs_69 ?_
              refine lv_i2l hx hb dX9_differs_70 rfl ?_
              have hFc := free_all hD hS hA
              obtain ⟨k46, gk46, hk46⟩ := wGt (cy := cy) X S h_o1.2.2.2.2.1.2.1.1 h_o1.2.2.2.2.1.2.1.2.1
              refine va_callv (va_runV (As := [.long (((if 0 ≤ (S.I r2 3) then (S.I r2 3) else 0 - (S.I r2 3)) * (S.I o1 9)).toInt64), .long (((S.I r2 2) * (S.I r7 1)).toInt64)]) (rest := []) ⟨hx, hb, hml, hown, hts⟩ (c_X0_search l (cy := cy) (X := X) (D := D) S _ (S.f o1 6) h_o1.2.2.2.2.1.2 (((if 0 ≤ (S.I r2 3) then (S.I r2 3) else 0 - (S.I r2 3)) * (S.I o1 9)).toInt64) (((S.I r2 2) * (S.I r7 1)).toInt64) h16 h4 hc) (cwV 2 hts gX9_differs_X0_search rfl rfl rfl (by decide +kernel) ⟨Nat.le_of_ble_eq_true rfl, Nat.le_of_ble_eq_true rfl⟩) ⟨fun a U g mk q => ⟨q.1, q.2.1, q.2.2.1.calling, NW.same (u := U) (U := U.calling g mk a) rfl q.2.2.2⟩, va_recv hK hP (ci := 4) (q0 := k46) rfl hk46, fun U hU hW => ⟨rfl, by rw [hU], wd_pre hP hK hD hU hW, hN.warm hW⟩⟩ rfl rfl hl.1 rfl (lv_room (Nat.le_of_ble_eq_true rfl)) dX9_differs_71 ⟨Nat.le_of_ble_eq_true rfl, Nat.le_of_ble_eq_true rfl⟩) hS (fun q _ h => hFc q h) hFc (fun u t H1 locs ht hvm hw hB hz1 hk1 hS => ?_)
              obtain ⟨hP, hD⟩ := wd_post hFc ht hB
              generalize H1 = H at hP hS ⊢
              obtain ⟨hw1, shq48⟩ := hw
              obtain rfl : u = f_X0_search S (S.f o1 6) (((if 0 ≤ (S.I r2 3) then (S.I r2 3) else 0 - (S.I r2 3)) * (S.I o1 9)).toInt64) (((S.I r2 2) * (S.I r7 1)).toInt64) := hw1
              refine lv_aload_n hx hb dX9_differs_74 rfl (lv_at hl 2 rfl) ?_
              obtain ⟨k49, gk49, hk49⟩ := wGt (cy := cy) X (f_X0_search S (S.f o1 6) (((if 0 ≤ (S.I r2 3) then (S.I r2 3) else 0 - (S.I r2 3)) * (S.I o1 9)).toInt64) (((S.I r2 2) * (S.I r7 1)).toInt64)) (shq48.L h_o1.1.1) (shq48.K h_o1.1.2.1)
              simp only [kE, (shq48.F h_o1.2.2.2.2.1.1)] at hk49
              refine va_get (D := D) (ci := 13) (v := .ref (S.f o1 6)) (C := RX9) (T := TX9) (N := 11) hx hb hts (by decide +kernel) hown hK hP k49 hk49 rfl 6 (by decide) (hts (.fieldLink RX9 30 "Hobhouse" "box" "LHobhouse$Box;") (by decide +kernel)) (fun _ h9 => h9) rfl dX9_differs_75 ?_
              refine lv_iload_n hx hb dX9_differs_78 rfl (lv_at hl 5 rfl) ?_
              have hFc := free_all hD hS hA
              obtain ⟨k50, gk50, hk50⟩ := wGt (cy := cy) X (f_X0_search S (S.f o1 6) (((if 0 ≤ (S.I r2 3) then (S.I r2 3) else 0 - (S.I r2 3)) * (S.I o1 9)).toInt64) (((S.I r2 2) * (S.I r7 1)).toInt64)) (shq48.L h_o1.2.2.2.2.1.2.1.1) (shq48.K h_o1.2.2.2.2.1.2.1.2.1)
              refine va_calli (va_runV (As := [.int x3]) (rest := []) ⟨hx, hb, hml, hown, hts⟩ (c_X0_isMet l (cy := cy) (X := X) (D := D) (f_X0_search S (S.f o1 6) (((if 0 ≤ (S.I r2 3) then (S.I r2 3) else 0 - (S.I r2 3)) * (S.I o1 9)).toInt64) (((S.I r2 2) * (S.I r7 1)).toInt64)) _ (S.f o1 6) (shq48.k0 h_o1.2.2.2.2.1.2) x3) (cwV 1 hts gX9_differs_X0_isMet rfl rfl rfl (by decide +kernel) ⟨Nat.le_of_ble_eq_true rfl, Nat.le_of_ble_eq_true rfl⟩) ⟨fun a U g mk q => ⟨q.1, q.2.1, q.2.2.1.calling, NW.same (u := U) (U := U.calling g mk a) rfl q.2.2.2⟩, va_recv hK hP (ci := 4) (q0 := k50) rfl hk50, fun U hU hW => ⟨rfl, by rw [hU], wd_pre hP hK hD hU hW, hN.warm hW⟩⟩ rfl rfl hl.1 rfl (lv_room (Nat.le_of_ble_eq_true rfl)) dX9_differs_79 ⟨Nat.le_of_ble_eq_true rfl, Nat.le_of_ble_eq_true rfl⟩) hS (fun q _ h => hFc q h) hFc (fun r51 u t H1 locs ht hvm hw hB hz1 hk1 hS => ?_)
              obtain ⟨hP, hD⟩ := wd_post hFc ht hB
              generalize H1 = H at hP hS ⊢
              obtain rfl : r51 = f_X0_isMet (f_X0_search S (S.f o1 6) (((if 0 ≤ (S.I r2 3) then (S.I r2 3) else 0 - (S.I r2 3)) * (S.I o1 9)).toInt64) (((S.I r2 2) * (S.I r7 1)).toInt64)) (S.f o1 6) x3 := hw
              refine vx_ret ?_
              refine W.widen (k := 5) (n := 30) (Nat.le_of_ble_eq_true rfl) (Nat.le_of_ble_eq_true rfl) ?_
              exact W.zret (v := f_X0_isMet (f_X0_search S (S.f o1 6) (((if 0 ≤ (S.I r2 3) then (S.I r2 3) else 0 - (S.I r2 3)) * (S.I o1 9)).toInt64) (((S.I r2 2) * (S.I r7 1)).toInt64)) (S.f o1 6) x3) hx hb hr (f_X0_isMet_b (f_X0_search S (S.f o1 6) (((if 0 ≤ (S.I r2 3) then (S.I r2 3) else 0 - (S.I r2 3)) * (S.I o1 9)).toInt64) (((S.I r2 2) * (S.I r7 1)).toInt64)) (S.f o1 6) x3) (fun t ht hW => ⟨⟨f_X0_isMet (f_X0_search S (S.f o1 6) (((if 0 ≤ (S.I r2 3) then (S.I r2 3) else 0 - (S.I r2 3)) * (S.I o1 9)).toInt64) (((S.I r2 2) * (S.I r7 1)).toInt64)) (S.f o1 6) x3, f_X0_search S (S.f o1 6) (((if 0 ≤ (S.I r2 3) then (S.I r2 3) else 0 - (S.I r2 3)) * (S.I o1 9)).toInt64) (((S.I r2 2) * (S.I r7 1)).toInt64), rfl, (⟨(by show f_X9_differs S o1 x1 x2 x3 = .ok (f_X0_isMet (f_X0_search S (S.f o1 6) (((if 0 ≤ (S.I r2 3) then (S.I r2 3) else 0 - (S.I r2 3)) * (S.I o1 9)).toInt64) (((S.I r2 2) * (S.I r7 1)).toInt64)) (S.f o1 6) x3, f_X0_search S (S.f o1 6) (((if 0 ≤ (S.I r2 3) then (S.I r2 3) else 0 - (S.I r2 3)) * (S.I o1 9)).toInt64) (((S.I r2 2) * (S.I r7 1)).toInt64)); unfold f_X9_differs; rw [eB_ok c4, eB_ok c9, eB_ok c13, if_neg c15, eB_ok c36, eB_ok c40]), shq48⟩), wd_end hP hK hD ht hW.alike⟩, hS.F ht⟩) hS.2.2 dX9_differs_82 hlocks
def f_X9_inStep (S : wPS) (o1 : Nat) (x1 : Int32) (x2 : Int32) (x3 : Int32) (x4 : Int32) : Except String Int32 := eB (f_X9_needTeeth x1) (fun _ => eB (f_X9_needTeeth x2) (fun _ => eB (f_X9_needRange x3 (0 : Int32) (2147483647 : Int32)) (fun _ => eB (f_X9_needRange x4 (1 : Int32) (9999 : Int32)) (fun _ => if (lg_cmp ((x3.toInt64 * ((f_X9_commonMultiple x1 x2).toInt64)) - (x3.toInt64 * ((f_X9_commonMultiple x1 x2).toInt64)) / x4.toInt64 * x4.toInt64) (0 : Int64)) = (0 : Int32) then .ok (1 : Int32) else .ok (0 : Int32)))))
set_option maxHeartbeats 4000000 in
set_option maxRecDepth 100000 in
theorem c_X9_inStep (l : Launch) (hst : l.stackTraces = false) {D : va_G} {cy : Nat → ClassId} {X : va_W} (S : wPS) (sz : Nat) (o1 : Nat) (h_o1 : ok9 S o1) (x1 : Int32) (x2 : Int32) (x3 : Int32) (x4 : Int32) (hcd : ¬ f_X9_commonDivisor x1 x2 = 0) : vx_Met l yX9_inStep wsX9_inStep ({ frames := 8, cells := 4, slots := 24, locals := 124 }) (va_Pc [.ref o1, .int x1, .int x2, .int x3, .int x4] (fun U => U.heap.size = sz ∧ WD D cy X (fun _ => True) S U ∧ NW U ∧ TH (va_A (X ++ PL cy S) sz) U)) (va_Qi (fun r (_ : Unit) => f_X9_inStep S o1 x1 x2 x3 x4 = .ok r) (fun _ t => WD D cy X (va_A (X ++ PL cy S) sz) S t) (va_A (X ++ PL cy S) sz)) (vx_X (fun (_ : Unit) => True) (fun E _ t => f_X9_inStep S o1 x1 x2 x3 x4 = .error E ∧ WD D cy X (va_A (X ++ PL cy S) sz) S t) (va_A (X ++ PL cy S) sz)) 4 24 (va_A (X ++ PL cy S) sz) := by
  refine vx_ofW (cc := cX9_inStep) (maxL := 5) (ret := (some .boolean)) (by decide) rfl ?_
  intro p e s m args below meth c s₁ B hml hno hv
  obtain ⟨rfl, hsz, ⟨hP, hK, hD0⟩, hN, hTH⟩ := hv
  have hx := B.exec
  have hb := B.bytes
  have hr := B.returns
  have hts := atoms_spec (ws := wsX9_inStep) B.pre
  have hown : s.vm.findClass RX9 = some m.cls := findClass_of_methodNamed B.named
  have hlocks := B.notSynchronized
  subst hsz
  have hD := hD0.self (sz := s.heap.size)
  generalize hAe : va_A (X ++ PL cy S) s.heap.size = A at hD hTH ⊢
  have hA : ∀ q : Nat, s.heap.size ≤ q → A q := fun q h => by rw [← hAe]; exact Or.inr h
  have hS : va_S A s.heap s.heap [] := va_S.rf
  have hl := lv_entry ([.ref o1, .int x1, .int x2, .int x3, .int x4]) (n := 5) (Nat.le_of_ble_eq_true rfl)
  rw [lg_entry_eq]
  generalize (lg_sl ([.ref o1, .int x1, .int x2, .int x3, .int x4]) ++ List.replicate (5 - (lg_sl ([.ref o1, .int x1, .int x2, .int x3, .int x4])).length) Slot.unset).toArray = ls at hl ⊢
  have hl : lv_has ls 5 [(0, .ref o1), (1, .int x1), (2, .int x2), (3, .int x3), (4, .int x4)] := hl
  refine lv_iload_n hx hb dX9_inStep_0 rfl (lv_at hl 1 rfl) ?_
  have hFc := free_all hD hS hA
  refine vx_callv (vx_runS (As := [.int x1]) (rest := []) ⟨hx, hb, hml, hown, hts⟩ (c_X9_needTeeth l hst (cy := cy) (X := X) (D := D) S _ x1) (cwS 1 hts gX9_inStep_X9_needTeeth rfl rfl rfl (by decide +kernel) ⟨Nat.le_of_ble_eq_true rfl, Nat.le_of_ble_eq_true rfl⟩) ⟨fun a U g mk q => ⟨q.1, q.2.1, q.2.2.1.calling, NW.same (u := U) (U := U.calling g mk a) rfl q.2.2.2.1, q.2.2.2.2.calling⟩, fun U hU hW => ⟨rfl, by rw [hU], wd_pre hP hK hD hU hW, hN.warm hW, th_pre hTH hS hFc hU hW⟩⟩ rfl rfl hl.1 rfl (lv_room (Nat.le_of_ble_eq_true rfl)) dX9_inStep_1 ⟨Nat.le_of_ble_eq_true rfl, Nat.le_of_ble_eq_true rfl⟩) hS (fun q _ h => hFc q h) hFc (fun q _ h => hFc q h) (fun E ce q9 u t H1 locs ht hvm hw hB hz1 hk1 hS hq9 hce hcl => ?_) (fun u t H1 locs ht hvm hw hB hz1 hk1 hS => ?_)
  · obtain ⟨c2, hB2⟩ := hB
    obtain ⟨hP, hD⟩ := wd_post hFc ht hB2
    exact vx_out (fun x h => (hno x h).elim) hlocks hq9 hce hcl (fun t2 ht2 hA2 => ⟨(), trivial, ⟨(by show f_X9_inStep S o1 x1 x2 x3 x4 = .error E; unfold f_X9_inStep; rw [eB_er c2]), wd_end hP hK hD ht2 hA2⟩, hS.F ht2⟩) hS.2.2 (Nat.le_of_ble_eq_true rfl) (Nat.le_of_ble_eq_true rfl)
  · have c3 := hw
    obtain ⟨hP, hD⟩ := wd_post hFc ht hB
    generalize H1 = H at hP hS ⊢
    refine lv_iload_n hx hb dX9_inStep_4 rfl (lv_at hl 2 rfl) ?_
    have hFc := free_all hD hS hA
    refine vx_callv (vx_runS (As := [.int x2]) (rest := []) ⟨hx, hb, hml, hown, hts⟩ (c_X9_needTeeth l hst (cy := cy) (X := X) (D := D) S _ x2) (cwS 1 hts gX9_inStep_X9_needTeeth rfl rfl rfl (by decide +kernel) ⟨Nat.le_of_ble_eq_true rfl, Nat.le_of_ble_eq_true rfl⟩) ⟨fun a U g mk q => ⟨q.1, q.2.1, q.2.2.1.calling, NW.same (u := U) (U := U.calling g mk a) rfl q.2.2.2.1, q.2.2.2.2.calling⟩, fun U hU hW => ⟨rfl, by rw [hU], wd_pre hP hK hD hU hW, hN.warm hW, th_pre hTH hS hFc hU hW⟩⟩ rfl rfl hl.1 rfl (lv_room (Nat.le_of_ble_eq_true rfl)) dX9_inStep_5 ⟨Nat.le_of_ble_eq_true rfl, Nat.le_of_ble_eq_true rfl⟩) hS (fun q _ h => hFc q h) hFc (fun q _ h => hFc q h) (fun E ce q9 u t H1 locs ht hvm hw hB hz1 hk1 hS hq9 hce hcl => ?_) (fun u t H1 locs ht hvm hw hB hz1 hk1 hS => ?_)
    · obtain ⟨c5, hB2⟩ := hB
      obtain ⟨hP, hD⟩ := wd_post hFc ht hB2
      exact vx_out (fun x h => (hno x h).elim) hlocks hq9 hce hcl (fun t2 ht2 hA2 => ⟨(), trivial, ⟨(by show f_X9_inStep S o1 x1 x2 x3 x4 = .error E; unfold f_X9_inStep; rw [eB_ok c3, eB_er c5]), wd_end hP hK hD ht2 hA2⟩, hS.F ht2⟩) hS.2.2 (Nat.le_of_ble_eq_true rfl) (Nat.le_of_ble_eq_true rfl)
    · have c6 := hw
      obtain ⟨hP, hD⟩ := wd_post hFc ht hB
      generalize H1 = H at hP hS ⊢
      refine lv_iload_n hx hb dX9_inStep_8 rfl (lv_at hl 3 rfl) ?_
      refine lv_iconst (v := 0) hx hb dX9_inStep_9 (by decide) ?_
      refine lv_ldcw (own := RX9) (v := 2147483647) hx hb hown (hts (.constant RX9 304 (2147483647)) (by decide +kernel)) dX9_inStep_10 ?_
      have hFc := free_all hD hS hA
      refine vx_callv (vx_runS (As := [.int x3, .int (0 : Int32), .int (2147483647 : Int32)]) (rest := []) ⟨hx, hb, hml, hown, hts⟩ (c_X9_needRange l hst (cy := cy) (X := X) (D := D) S _ x3 (0 : Int32) (2147483647 : Int32)) (cwS 3 hts gX9_inStep_X9_needRange rfl rfl rfl (by decide +kernel) ⟨Nat.le_of_ble_eq_true rfl, Nat.le_of_ble_eq_true rfl⟩) ⟨fun a U g mk q => ⟨q.1, q.2.1, q.2.2.1.calling, NW.same (u := U) (U := U.calling g mk a) rfl q.2.2.2.1, q.2.2.2.2.calling⟩, fun U hU hW => ⟨rfl, by rw [hU], wd_pre hP hK hD hU hW, hN.warm hW, th_pre hTH hS hFc hU hW⟩⟩ rfl rfl hl.1 rfl (lv_room (Nat.le_of_ble_eq_true rfl)) dX9_inStep_13 ⟨Nat.le_of_ble_eq_true rfl, Nat.le_of_ble_eq_true rfl⟩) hS (fun q _ h => hFc q h) hFc (fun q _ h => hFc q h) (fun E ce q9 u t H1 locs ht hvm hw hB hz1 hk1 hS hq9 hce hcl => ?_) (fun u t H1 locs ht hvm hw hB hz1 hk1 hS => ?_)
      · obtain ⟨c8, hB2⟩ := hB
        obtain ⟨hP, hD⟩ := wd_post hFc ht hB2
        exact vx_out (fun x h => (hno x h).elim) hlocks hq9 hce hcl (fun t2 ht2 hA2 => ⟨(), trivial, ⟨(by show f_X9_inStep S o1 x1 x2 x3 x4 = .error E; unfold f_X9_inStep; rw [eB_ok c3, eB_ok c6, eB_er c8]), wd_end hP hK hD ht2 hA2⟩, hS.F ht2⟩) hS.2.2 (Nat.le_of_ble_eq_true rfl) (Nat.le_of_ble_eq_true rfl)
      · have c9 := hw
        obtain ⟨hP, hD⟩ := wd_post hFc ht hB
        generalize H1 = H at hP hS ⊢
        refine lv_iload hx hb dX9_inStep_16 (lv_at hl 4 rfl) ?_
        refine lv_iconst (v := 1) hx hb dX9_inStep_18 (by decide) ?_
        refine lv_sipush (v := 9999) hx hb dX9_inStep_19 (by decide +kernel) ?_
        have hFc := free_all hD hS hA
        refine vx_callv (vx_runS (As := [.int x4, .int (1 : Int32), .int (9999 : Int32)]) (rest := []) ⟨hx, hb, hml, hown, hts⟩ (c_X9_needRange l hst (cy := cy) (X := X) (D := D) S _ x4 (1 : Int32) (9999 : Int32)) (cwS 3 hts gX9_inStep_X9_needRange rfl rfl rfl (by decide +kernel) ⟨Nat.le_of_ble_eq_true rfl, Nat.le_of_ble_eq_true rfl⟩) ⟨fun a U g mk q => ⟨q.1, q.2.1, q.2.2.1.calling, NW.same (u := U) (U := U.calling g mk a) rfl q.2.2.2.1, q.2.2.2.2.calling⟩, fun U hU hW => ⟨rfl, by rw [hU], wd_pre hP hK hD hU hW, hN.warm hW, th_pre hTH hS hFc hU hW⟩⟩ rfl rfl hl.1 rfl (lv_room (Nat.le_of_ble_eq_true rfl)) dX9_inStep_22 ⟨Nat.le_of_ble_eq_true rfl, Nat.le_of_ble_eq_true rfl⟩) hS (fun q _ h => hFc q h) hFc (fun q _ h => hFc q h) (fun E ce q9 u t H1 locs ht hvm hw hB hz1 hk1 hS hq9 hce hcl => ?_) (fun u t H1 locs ht hvm hw hB hz1 hk1 hS => ?_)
        · obtain ⟨c11, hB2⟩ := hB
          obtain ⟨hP, hD⟩ := wd_post hFc ht hB2
          exact vx_out (fun x h => (hno x h).elim) hlocks hq9 hce hcl (fun t2 ht2 hA2 => ⟨(), trivial, ⟨(by show f_X9_inStep S o1 x1 x2 x3 x4 = .error E; unfold f_X9_inStep; rw [eB_ok c3, eB_ok c6, eB_ok c9, eB_er c11]), wd_end hP hK hD ht2 hA2⟩, hS.F ht2⟩) hS.2.2 (Nat.le_of_ble_eq_true rfl) (Nat.le_of_ble_eq_true rfl)
        · have c12 := hw
          obtain ⟨hP, hD⟩ := wd_post hFc ht hB
          generalize H1 = H at hP hS ⊢
          refine lv_iload_n hx hb dX9_inStep_25 rfl (lv_at hl 3 rfl) ?_
          refine lv_i2l hx hb dX9_inStep_26 rfl ?_
          refine lv_iload_n hx hb dX9_inStep_27 rfl (lv_at hl 1 rfl) ?_
          refine lv_iload_n hx hb dX9_inStep_28 rfl (lv_at hl 2 rfl) ?_
          have hFc := free_all hD hS hA
          refine va_calli (va_runS (As := [.int x1, .int x2]) (rest := [.long x3.toInt64]) ⟨hx, hb, hml, hown, hts⟩ (c_X9_commonMultiple l (cy := cy) (X := X) (D := D) S _ x1 x2 hcd) (cwS 2 hts gX9_inStep_X9_commonMultiple rfl rfl rfl (by decide +kernel) ⟨Nat.le_of_ble_eq_true rfl, Nat.le_of_ble_eq_true rfl⟩) ⟨fun a U g mk q => ⟨q.1, q.2.1, q.2.2.1.calling, NW.same (u := U) (U := U.calling g mk a) rfl q.2.2.2⟩, fun U hU hW => ⟨rfl, by rw [hU], wd_pre hP hK hD hU hW, hN.warm hW⟩⟩ rfl rfl hl.1 rfl (lv_room (Nat.le_of_ble_eq_true rfl)) dX9_inStep_29 ⟨Nat.le_of_ble_eq_true rfl, Nat.le_of_ble_eq_true rfl⟩) hS (fun q _ h => hFc q h) hFc (fun r13 u t H1 locs ht hvm hw hB hz1 hk1 hS => ?_)
          obtain ⟨hP, hD⟩ := wd_post hFc ht hB
          generalize H1 = H at hP hS ⊢
          obtain rfl : r13 = f_X9_commonMultiple x1 x2 := hw
          refine lv_i2l hx hb dX9_inStep_32 rfl ?_
          refine lv_lmul hx hb dX9_inStep_33 ?_
          refine lv_iload hx hb dX9_inStep_34 (lv_at hl 4 rfl) ?_
          refine lv_i2l hx hb dX9_inStep_36 rfl ?_
          refine lv_lrem hx hb dX9_inStep_37 (ne64 (nr_ne c12)) ?_
          refine lv_lconst (v := 0) hx hb dX9_inStep_38 (by decide) ?_
          refine W.lcmp hx hb dX9_inStep_39 ?_
          refine lv_if_ne (tgt := 47) hx hb dX9_inStep_40 (by decide) (fun c14 => ?_) (fun c14 => ?_)
          · refine lv_iconst (v := 0) hx hb dX9_inStep_47 (by decide) ?_
            refine vx_ret ?_
            refine W.widen (k := 4) (n := 24) (Nat.le_of_ble_eq_true rfl) (Nat.le_of_ble_eq_true rfl) ?_
            exact W.zret (v := (0 : Int32)) hx hb hr (by rfl) (fun t ht hW => ⟨⟨(0 : Int32), (), rfl, (by show f_X9_inStep S o1 x1 x2 x3 x4 = .ok (0 : Int32); unfold f_X9_inStep; rw [eB_ok c3, eB_ok c6, eB_ok c9, eB_ok c12, if_neg c14]), wd_end hP hK hD ht hW.alike⟩, hS.F ht⟩) hS.2.2 dX9_inStep_48 hlocks
          · refine lv_iconst (v := 1) hx hb dX9_inStep_43 (by decide) ?_
            refine lv_goto (tgt := 48) hx hb dX9_inStep_44 (by decide) ?_
            refine vx_ret ?_
            refine W.widen (k := 4) (n := 24) (Nat.le_of_ble_eq_true rfl) (Nat.le_of_ble_eq_true rfl) ?_
            exact W.zret (v := (1 : Int32)) hx hb hr (by rfl) (fun t ht hW => ⟨⟨(1 : Int32), (), rfl, (by show f_X9_inStep S o1 x1 x2 x3 x4 = .ok (1 : Int32); unfold f_X9_inStep; rw [eB_ok c3, eB_ok c6, eB_ok c9, eB_ok c12, if_pos c14]), wd_end hP hK hD ht hW.alike⟩, hS.F ht⟩) hS.2.2 dX9_inStep_48 hlocks
