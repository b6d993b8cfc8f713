theorem gn_len {S : wPS} {o : Nat} (h : gnum S o) : S.n (S.f (S.f o 5) 0) ≤ 1000000 := by
  have h1 := h.2.2.2.2.2.2.2.2.1
  have h2 := h.2.1
  rw [h1]; omega
theorem gn_q {S : wPS} {o : Nat} (h : gnum S o) : S.n (S.f (S.f o 5) 1) = S.n (S.f (S.f o 5) 0) := h.2.2.2.2.2.2.2.2.2.trans h.2.2.2.2.2.2.2.2.1.symm
theorem le_big {x v : Int32} (h : x ≤ v) (hv : v.toInt ≤ 1000000) : x ≤ 1000000 := (t_le 1000000 rfl).mpr (Int.le_trans (Int32.le_iff_toInt_le.mp h) hv)
theorem le_teeth {S : wPS} {o : Nat} {x : Int32} (h : ¬ S.I o 1 < x) (g : gnum S o) : x ≤ 1000000 := by
  refine (t_le (n := 1000000) 1000000 rfl).mpr ?_
  have h1 : ¬ (S.I o 1).toInt < x.toInt := fun q => h (Int32.lt_iff_toInt_lt.mpr q)
  have h2 := g.2.1
  omega
def f_X9_life (S : wPS) (o1 : Nat) (x1 : Int32) (x2 : Int32) : Except String Int64 := eB (f_X9_gearAt S o1 x1) (fun r2 => eB (f_X9_needRange x2 (1 : Int32) (999999 : Int32)) (fun _ => .ok (f_X2_lifeUnder S r2 x2.toInt64)))
set_option maxHeartbeats 4000000 in
set_option maxRecDepth 100000 in
theorem c_X9_life (l : Launch) (hst : l.stackTraces = false) {D : va_G} {cy : Nat → ClassId} {X : va_W} (S : wPS) (sz : Nat) (o1 : Nat) (h_o1 : ok9 S o1) (x1 : Int32) (x2 : Int32) (hGs : gearsOk S o1) (hgn : ∀ r : Nat, ok2 S r → gnum S r) : vx_Met l yX9_life wsX9_life ({ frames := 7, cells := 2, slots := 12, locals := 106 }) (va_Pc [.ref o1, .int x1, .int x2] (fun U => U.heap.size = sz ∧ WD D cy X (fun _ => True) S U ∧ NW U ∧ TH (va_A (X ++ PL cy S) sz) U)) (va_Ql (fun r (_ : Unit) => f_X9_life S o1 x1 x2 = .ok r) (fun _ t => WD D cy X (va_A (X ++ PL cy S) sz) S t) (va_A (X ++ PL cy S) sz)) (vx_X (fun (_ : Unit) => True) (fun E _ t => f_X9_life S o1 x1 x2 = .error E ∧ WD D cy X (va_A (X ++ PL cy S) sz) S t) (va_A (X ++ PL cy S) sz)) 2 12 (va_A (X ++ PL cy S) sz) := by
  refine vx_ofW (cc := cX9_life) (maxL := 4) (ret := (some .long)) (by decide) rfl ?_
  intro p e s m args below meth c s₁ B hml hno hv
  obtain ⟨rfl, hsz, ⟨hP, hK, hD0⟩, hN, hTH⟩ := hv
  have hx := B.exec
  have hb := B.bytes
  have hr := B.returns
  have hts := atoms_spec (ws := wsX9_life) B.pre
  have hown : s.vm.findClass RX9 = some m.cls := findClass_of_methodNamed B.named
  have hlocks := B.notSynchronized
  subst hsz
  have hD := hD0.self (sz := s.heap.size)
  generalize hAe : va_A (X ++ PL cy S) s.heap.size = A at hD hTH ⊢
  have hA : ∀ q : Nat, s.heap.size ≤ q → A q := fun q h => by rw [← hAe]; exact Or.inr h
  have hS : va_S A s.heap s.heap [] := va_S.rf
  have hl := lv_entry ([.ref o1, .int x1, .int x2]) (n := 4) (Nat.le_of_ble_eq_true rfl)
  rw [lg_entry_eq]
  generalize (lg_sl ([.ref o1, .int x1, .int x2]) ++ List.replicate (4 - (lg_sl ([.ref o1, .int x1, .int x2])).length) Slot.unset).toArray = ls at hl ⊢
  have hl : lv_has ls 4 [(0, .ref o1), (1, .int x1), (2, .int x2)] := hl
  refine lv_aload_n hx hb dX9_life_0 rfl (lv_at hl 0 rfl) ?_
  refine lv_iload_n hx hb dX9_life_1 rfl (lv_at hl 1 rfl) ?_
  have hFc := free_all hD hS hA
  obtain ⟨k1, gk1, hk1⟩ := wGt (cy := cy) X S h_o1.1.1 h_o1.1.2.1
  refine vx_callq (vx_runV (As := [.int x1]) (rest := []) ⟨hx, hb, hml, hown, hts⟩ (c_X9_gearAt l hst (cy := cy) (X := X) (D := D) S _ o1 h_o1 x1 hGs) (cwV 1 hts gX9_life_X9_gearAt rfl rfl rfl (by decide +kernel) ⟨Nat.le_of_ble_eq_true rfl, Nat.le_of_ble_eq_true rfl⟩) ⟨fun a U g mk q => ⟨q.1, q.2.1, q.2.2.1.calling, NW.same (u := U) (U := U.calling g mk a) rfl q.2.2.2.1, q.2.2.2.2.calling⟩, va_recv hK hP (ci := 13) (q0 := k1) rfl hk1, fun U hU hW => ⟨rfl, by rw [hU], wd_pre hP hK hD hU hW, hN.warm hW, th_pre hTH hS hFc hU hW⟩⟩ rfl rfl hl.1 rfl (lv_room (Nat.le_of_ble_eq_true rfl)) dX9_life_2 ⟨Nat.le_of_ble_eq_true rfl, Nat.le_of_ble_eq_true rfl⟩) hS (fun q _ h => hFc q h) hFc (fun q _ h => hFc q h) (fun E ce q9 u t H1 locs ht hvm hw hB hz1 hk1 hS hq9 hce hcl => ?_) (fun r2 u t H1 locs ht hvm hw hB hz1 hk1 hS => ?_)
  · obtain ⟨c3, hB2⟩ := hB
    obtain ⟨hP, hD⟩ := wd_post hFc ht hB2
    exact vx_out (fun x h => (hno x h).elim) hlocks hq9 hce hcl (fun t2 ht2 hA2 => ⟨(), trivial, ⟨(by show f_X9_life S o1 x1 x2 = .error E; unfold f_X9_life; rw [eB_er c3]), wd_end hP hK hD ht2 hA2⟩, hS.F ht2⟩) hS.2.2 (Nat.le_of_ble_eq_true rfl) (Nat.le_of_ble_eq_true rfl)
  · obtain ⟨r2, rfl, c4, o5⟩ := hw
    obtain ⟨hP, hD⟩ := wd_post hFc ht hB
    generalize H1 = H at hP hS ⊢
    refine W.eq (g2 := F0 m 5 ls [.ref r2]) rfl ?_
    refine lv_astore_n (lv' := [(3, .ref r2), (0, .ref o1), (1, .int x1), (2, .int x2)]) hx hb dX9_life_5 rfl hl (by decide) rfl (fun ls hl => ?_)
    refine lv_iload_n hx hb dX9_life_6 rfl (lv_at hl 3 rfl) ?_
    refine lv_iconst (v := 1) hx hb dX9_life_7 (by decide) ?_
    refine lv_ldc (own := RX9) (v := 999999) hx hb hown (hts (.constant RX9 244 (999999)) (by decide +kernel)) dX9_life_8 ?_
    have hFc := free_all hD hS hA
    refine vx_callv (vx_runS (As := [.int x2, .int (1 : Int32), .int (999999 : Int32)]) (rest := []) ⟨hx, hb, hml, hown, hts⟩ (c_X9_needRange l hst (cy := cy) (X := X) (D := D) S _ x2 (1 : Int32) (999999 : Int32)) (cwS 3 hts gX9_life_X9_needRange rfl rfl rfl (by decide +kernel) ⟨Nat.le_of_ble_eq_true rfl, Nat.le_of_ble_eq_true rfl⟩) ⟨fun a U g mk q => ⟨q.1, q.2.1, q.2.2.1.calling, NW.same (u := U) (U := U.calling g mk a) rfl q.2.2.2.1, q.2.2.2.2.calling⟩, fun U hU hW => ⟨rfl, by rw [hU], wd_pre hP hK hD hU hW, hN.warm hW, th_pre hTH hS hFc hU hW⟩⟩ rfl rfl hl.1 rfl (lv_room (Nat.le_of_ble_eq_true rfl)) dX9_life_10 ⟨Nat.le_of_ble_eq_true rfl, Nat.le_of_ble_eq_true rfl⟩) hS (fun q _ h => hFc q h) hFc (fun q _ h => hFc q h) (fun E ce q9 u t H1 locs ht hvm hw hB hz1 hk1 hS hq9 hce hcl => ?_) (fun u t H1 locs ht hvm hw hB hz1 hk1 hS => ?_)
    · obtain ⟨c7, hB2⟩ := hB
      obtain ⟨hP, hD⟩ := wd_post hFc ht hB2
      exact vx_out (fun x h => (hno x h).elim) hlocks hq9 hce hcl (fun t2 ht2 hA2 => ⟨(), trivial, ⟨(by show f_X9_life S o1 x1 x2 = .error E; unfold f_X9_life; rw [eB_ok c4, eB_er c7]), wd_end hP hK hD ht2 hA2⟩, hS.F ht2⟩) hS.2.2 (Nat.le_of_ble_eq_true rfl) (Nat.le_of_ble_eq_true rfl)
    · have c8 := hw
      obtain ⟨hP, hD⟩ := wd_post hFc ht hB
      generalize H1 = H at hP hS ⊢
      refine lv_aload_n hx hb dX9_life_13 rfl (lv_at hl 0 rfl) ?_
      refine lv_iload_n hx hb dX9_life_14 rfl (lv_at hl 3 rfl) ?_
      refine lv_i2l hx hb dX9_life_15 rfl ?_
      have hFc := free_all hD hS hA
      obtain ⟨k9, gk9, hk9⟩ := wGt (cy := cy) X S o5.1.1 o5.1.2.1
      refine va_calll (va_runV (As := [.long x2.toInt64]) (rest := []) ⟨hx, hb, hml, hown, hts⟩ (c_X2_lifeUnder l (cy := cy) (X := X) (D := D) S _ r2 o5 x2.toInt64 (gn_b1 (hgn _ o5)) (gn_b2 (hgn _ o5)) (gn_b3 (hgn _ o5)) (gn_b4 (hgn _ o5)) (fun _ => ne64 (nr_ne c8))) (cwV 1 hts gX9_life_X2_lifeUnder rfl rfl rfl (by decide +kernel) ⟨Nat.le_of_ble_eq_true rfl, Nat.le_of_ble_eq_true rfl⟩) ⟨fun a U g mk q => ⟨q.1, q.2.1, q.2.2.1.calling, NW.same (u := U) (U := U.calling g mk a) rfl q.2.2.2⟩, va_recv hK hP (ci := 6) (q0 := k9) rfl hk9, fun U hU hW => ⟨rfl, by rw [hU], wd_pre hP hK hD hU hW, hN.warm hW⟩⟩ rfl rfl hl.1 rfl (lv_room (Nat.le_of_ble_eq_true rfl)) dX9_life_16 ⟨Nat.le_of_ble_eq_true rfl, Nat.le_of_ble_eq_true rfl⟩) hS (fun q _ h => hFc q h) hFc (fun r10 u t H1 locs ht hvm hw hB hz1 hk1 hS => ?_)
      obtain ⟨hP, hD⟩ := wd_post hFc ht hB
      generalize H1 = H at hP hS ⊢
      obtain rfl : r10 = f_X2_lifeUnder S r2 x2.toInt64 := hw
      refine vx_ret ?_
      refine W.widen (k := 2) (n := 12) (Nat.le_of_ble_eq_true rfl) (Nat.le_of_ble_eq_true rfl) ?_
      exact W.lret (v := f_X2_lifeUnder S r2 x2.toInt64) hx hb hr (fun t ht hW => ⟨⟨f_X2_lifeUnder S r2 x2.toInt64, (), rfl, (by show f_X9_life S o1 x1 x2 = .ok (f_X2_lifeUnder S r2 x2.toInt64); unfold f_X9_life; rw [eB_ok c4, eB_ok c8]), wd_end hP hK hD ht hW.alike⟩, hS.F ht⟩) hS.2.2 dX9_life_19 hlocks
def f_X9_part (S : wPS) (o1 : Nat) (x1 : Int32) (x2 : Int32) : Except String Int32 := eB (f_X9_gearAt S o1 x1) (fun r2 => if x2 < (1 : Int32) then .error "java/lang/IllegalArgumentException" else if (S.I r2 1) < x2 then .error "java/lang/IllegalArgumentException" else if ((S.I r2 1) - (S.I r2 1) / x2 * x2) = (0 : Int32) then .ok (f_X1_partOf S (S.f r2 5) x2) else .error "java/lang/IllegalArgumentException")
set_option maxRecDepth 20000 in
theorem s_X9_part_IAE : ∀ w ∈ (vx_atS RX9 114 "java/lang/IllegalArgumentException" ["java/lang/RuntimeException", "java/lang/Exception"]).filter goodWord, w ∈ wsX9_part := fun w h => List.mem_cons_of_mem _ (List.mem_append_left _ (List.mem_append_left _ (List.mem_append_right _ h)))
set_option maxHeartbeats 4000000 in
set_option maxRecDepth 100000 in
theorem c_X9_part (l : Launch) (hst : l.stackTraces = false) {D : va_G} {cy : Nat → ClassId} {X : va_W} (S : wPS) (sz : Nat) (o1 : Nat) (h_o1 : ok9 S o1) (x1 : Int32) (x2 : Int32) (hGs : gearsOk S o1) (hgn : ∀ r : Nat, ok2 S r → gnum S r) : vx_Met l yX9_part wsX9_part ({ frames := 7, cells := 2, slots := 12, locals := 103 }) (va_Pc [.ref o1, .int x1, .int x2] (fun U => U.heap.size = sz ∧ WD D cy X (fun _ => True) S U ∧ NW U ∧ TH (va_A (X ++ PL cy S) sz) U)) (va_Qi (fun r (_ : Unit) => f_X9_part S o1 x1 x2 = .ok r) (fun _ t => WD D cy X (va_A (X ++ PL cy S) sz) S t) (va_A (X ++ PL cy S) sz)) (vx_X (fun (_ : Unit) => True) (fun E _ t => f_X9_part S o1 x1 x2 = .error E ∧ WD D cy X (va_A (X ++ PL cy S) sz) S t) (va_A (X ++ PL cy S) sz)) 2 12 (va_A (X ++ PL cy S) sz) := by
  refine vx_ofW (cc := cX9_part) (maxL := 4) (ret := (some .int)) (by decide) rfl ?_
  intro p e s m args below meth c s₁ B hml hno hv
  obtain ⟨rfl, hsz, ⟨hP, hK, hD0⟩, hN, hTH⟩ := hv
  have hx := B.exec
  have hb := B.bytes
  have hr := B.returns
  have hts := atoms_spec (ws := wsX9_part) B.pre
  have hown : s.vm.findClass RX9 = some m.cls := findClass_of_methodNamed B.named
  have hlocks := B.notSynchronized
  subst hsz
  have hD := hD0.self (sz := s.heap.size)
  generalize hAe : va_A (X ++ PL cy S) s.heap.size = A at hD hTH ⊢
  have hA : ∀ q : Nat, s.heap.size ≤ q → A q := fun q h => by rw [← hAe]; exact Or.inr h
  have hS : va_S A s.heap s.heap [] := va_S.rf
  have hl := lv_entry ([.ref o1, .int x1, .int x2]) (n := 4) (Nat.le_of_ble_eq_true rfl)
  rw [lg_entry_eq]
  generalize (lg_sl ([.ref o1, .int x1, .int x2]) ++ List.replicate (4 - (lg_sl ([.ref o1, .int x1, .int x2])).length) Slot.unset).toArray = ls at hl ⊢
  have hl : lv_has ls 4 [(0, .ref o1), (1, .int x1), (2, .int x2)] := hl
  refine lv_aload_n hx hb dX9_part_0 rfl (lv_at hl 0 rfl) ?_
  refine lv_iload_n hx hb dX9_part_1 rfl (lv_at hl 1 rfl) ?_
  have hFc := free_all hD hS hA
  obtain ⟨k1, gk1, hk1⟩ := wGt (cy := cy) X S h_o1.1.1 h_o1.1.2.1
  refine vx_callq (vx_runV (As := [.int x1]) (rest := []) ⟨hx, hb, hml, hown, hts⟩ (c_X9_gearAt l hst (cy := cy) (X := X) (D := D) S _ o1 h_o1 x1 hGs) (cwV 1 hts gX9_part_X9_gearAt rfl rfl rfl (by decide +kernel) ⟨Nat.le_of_ble_eq_true rfl, Nat.le_of_ble_eq_true rfl⟩) ⟨fun a U g mk q => ⟨q.1, q.2.1, q.2.2.1.calling, NW.same (u := U) (U := U.calling g mk a) rfl q.2.2.2.1, q.2.2.2.2.calling⟩, va_recv hK hP (ci := 13) (q0 := k1) rfl hk1, fun U hU hW => ⟨rfl, by rw [hU], wd_pre hP hK hD hU hW, hN.warm hW, th_pre hTH hS hFc hU hW⟩⟩ rfl rfl hl.1 rfl (lv_room (Nat.le_of_ble_eq_true rfl)) dX9_part_2 ⟨Nat.le_of_ble_eq_true rfl, Nat.le_of_ble_eq_true rfl⟩) hS (fun q _ h => hFc q h) hFc (fun q _ h => hFc q h) (fun E ce q9 u t H1 locs ht hvm hw hB hz1 hk1 hS hq9 hce hcl => ?_) (fun r2 u t H1 locs ht hvm hw hB hz1 hk1 hS => ?_)
  · obtain ⟨c3, hB2⟩ := hB
    obtain ⟨hP, hD⟩ := wd_post hFc ht hB2
    exact vx_out (fun x h => (hno x h).elim) hlocks hq9 hce hcl (fun t2 ht2 hA2 => ⟨(), trivial, ⟨(by show f_X9_part S o1 x1 x2 = .error E; unfold f_X9_part; rw [eB_er c3]), wd_end hP hK hD ht2 hA2⟩, hS.F ht2⟩) hS.2.2 (Nat.le_of_ble_eq_true rfl) (Nat.le_of_ble_eq_true rfl)
  · obtain ⟨r2, rfl, c4, o5⟩ := hw
    obtain ⟨hP, hD⟩ := wd_post hFc ht hB
    generalize H1 = H at hP hS ⊢
    refine W.eq (g2 := F0 m 5 ls [.ref r2]) rfl ?_
    refine lv_astore_n (lv' := [(3, .ref r2), (0, .ref o1), (1, .int x1), (2, .int x2)]) hx hb dX9_part_5 rfl hl (by decide) rfl (fun ls hl => ?_)
    refine lv_iload_n hx hb dX9_part_6 rfl (lv_at hl 3 rfl) ?_
    refine lv_iconst (v := 1) hx hb dX9_part_7 (by decide) ?_
    refine lv_icmp_lt (tgt := 28) hx hb dX9_part_8 (by decide) (fun c6 => ?_) (fun c6 => ?_)
    · obtain ⟨sa, hsa⟩ := hTH.2.2 (RX9, 354, "there is no such period") (by decide +kernel)
      exact vx_throwSW hx hb hst (names := ["java/lang/RuntimeException", "java/lang/Exception"]) hown (by decide +kernel) (by decide +kernel) (hts (.classLink RX9 110 "java/lang/IllegalArgumentException") (by decide +kernel)) (hts (.initialized "java/lang/IllegalArgumentException") (by decide +kernel)) hsa (th_at (B := exW_X9_IAE) (fun w h => hts w (s_X9_part_IAE w h)) rfl (by simp only [exW, List.mem_append]; intro w h; simp [h]) hTH.2.1) (List.forall_mem_cons.mpr ⟨by decide +kernel, List.forall_mem_cons.mpr ⟨by decide +kernel, exW_X9_IAE_ok⟩⟩) hTH.1.1 hTH.1.2 hS (hl.1.trans hml.symm) dX9_part_28 dX9_part_31 dX9_part_32 dX9_part_35 dX9_part_38 (fun x h => (hno x h).elim) (Nat.le_of_ble_eq_true rfl) (Nat.le_of_ble_eq_true rfl) (Nat.le_of_ble_eq_true rfl) (Nat.le_of_ble_eq_true rfl) hlocks (fun t hA2 h1 h2 => ⟨(), trivial, ⟨(by show f_X9_part S o1 x1 x2 = .error "java/lang/IllegalArgumentException"; unfold f_X9_part; rw [eB_ok c4, if_pos c6]), wd_exc hP hK hD hA2 h2⟩, exc_F hS h1 h2⟩) hS.2.2 (Nat.le_of_ble_eq_true rfl) (Nat.le_of_ble_eq_true rfl)
    · refine lv_iload_n hx hb dX9_part_11 rfl (lv_at hl 3 rfl) ?_
      refine lv_aload_n hx hb dX9_part_12 rfl (lv_at hl 0 rfl) ?_
      obtain ⟨k7, gk7, hk7⟩ := wGt (cy := cy) X S o5.1.1 o5.1.2.1
      refine va_get (D := D) (ci := 6) (v := .int (S.I r2 1)) (C := RX2) (T := TX2) (N := 20) hx hb hts (by decide +kernel) hown hK hP k7 hk7 rfl 1 (by decide) (hts (.fieldLink RX9 100 "Hobhouse$Gear" "teeth" "I") (by decide +kernel)) (fun _ h9 => h9) rfl dX9_part_13 ?_
      refine lv_icmp_gt (tgt := 28) hx hb dX9_part_16 (by decide) (fun c8 => ?_) (fun c8 => ?_)
      · obtain ⟨sa, hsa⟩ := hTH.2.2 (RX9, 354, "there is no such period") (by decide +kernel)
        exact vx_throwSW hx hb hst (names := ["java/lang/RuntimeException", "java/lang/Exception"]) hown (by decide +kernel) (by decide +kernel) (hts (.classLink RX9 110 "java/lang/IllegalArgumentException") (by decide +kernel)) (hts (.initialized "java/lang/IllegalArgumentException") (by decide +kernel)) hsa (th_at (B := exW_X9_IAE) (fun w h => hts w (s_X9_part_IAE w h)) rfl (by simp only [exW, List.mem_append]; intro w h; simp [h]) hTH.2.1) (List.forall_mem_cons.mpr ⟨by decide +kernel, List.forall_mem_cons.mpr ⟨by decide +kernel, exW_X9_IAE_ok⟩⟩) hTH.1.1 hTH.1.2 hS (hl.1.trans hml.symm) dX9_part_28 dX9_part_31 dX9_part_32 dX9_part_35 dX9_part_38 (fun x h => (hno x h).elim) (Nat.le_of_ble_eq_true rfl) (Nat.le_of_ble_eq_true rfl) (Nat.le_of_ble_eq_true rfl) (Nat.le_of_ble_eq_true rfl) hlocks (fun t hA2 h1 h2 => ⟨(), trivial, ⟨(by show f_X9_part S o1 x1 x2 = .error "java/lang/IllegalArgumentException"; unfold f_X9_part; rw [eB_ok c4, if_neg c6, if_pos c8]), wd_exc hP hK hD hA2 h2⟩, exc_F hS h1 h2⟩) hS.2.2 (Nat.le_of_ble_eq_true rfl) (Nat.le_of_ble_eq_true rfl)
      · refine lv_aload_n hx hb dX9_part_19 rfl (lv_at hl 0 rfl) ?_
        obtain ⟨k9, gk9, hk9⟩ := wGt (cy := cy) X S o5.1.1 o5.1.2.1
        refine va_get (D := D) (ci := 6) (v := .int (S.I r2 1)) (C := RX2) (T := TX2) (N := 20) hx hb hts (by decide +kernel) hown hK hP k9 hk9 rfl 1 (by decide) (hts (.fieldLink RX9 100 "Hobhouse$Gear" "teeth" "I") (by decide +kernel)) (fun _ h9 => h9) rfl dX9_part_20 ?_
        refine lv_iload_n hx hb dX9_part_23 rfl (lv_at hl 3 rfl) ?_
        refine lv_irem hx hb dX9_part_24 (ne_of c6) ?_
        refine lv_if_eq (tgt := 39) hx hb dX9_part_25 (by decide) (fun c10 => ?_) (fun c10 => ?_)
        · refine lv_aload_n hx hb dX9_part_39 rfl (lv_at hl 0 rfl) ?_
          obtain ⟨k11, gk11, hk11⟩ := wGt (cy := cy) X S o5.1.1 o5.1.2.1
          simp only [kE, o5.2.1.1] at hk11
          refine va_get (D := D) (ci := 6) (v := .ref (S.f r2 5)) (C := RX2) (T := TX2) (N := 20) hx hb hts (by decide +kernel) hown hK hP k11 hk11 rfl 5 (by decide) (hts (.fieldLink RX9 339 "Hobhouse$Gear" "chart" "LHobhouse$Chart;") (by decide +kernel)) (fun _ h9 => h9) rfl dX9_part_40 ?_
          refine lv_iload_n hx hb dX9_part_43 rfl (lv_at hl 3 rfl) ?_
          have hFc := free_all hD hS hA
          obtain ⟨k12, gk12, hk12⟩ := wGt (cy := cy) X S o5.2.1.2.1.1 o5.2.1.2.1.2.1
          refine va_calli (va_runV (As := [.int x2]) (rest := []) ⟨hx, hb, hml, hown, hts⟩ (c_X1_partOf l (cy := cy) (X := X) (D := D) S _ (S.f r2 5) o5.2.1.2 x2 (le_teeth c8 (hgn _ (by assumption))) (gn_len (hgn _ (by assumption)))) (cwV 1 hts gX9_part_X1_partOf rfl rfl rfl (by decide +kernel) ⟨Nat.le_of_ble_eq_true rfl, Nat.le_of_ble_eq_true rfl⟩) ⟨fun a U g mk q => ⟨q.1, q.2.1, q.2.2.1.calling, NW.same (u := U) (U := U.calling g mk a) rfl q.2.2.2⟩, va_recv hK hP (ci := 5) (q0 := k12) rfl hk12, fun U hU hW => ⟨rfl, by rw [hU], wd_pre hP hK hD hU hW, hN.warm hW⟩⟩ rfl rfl hl.1 rfl (lv_room (Nat.le_of_ble_eq_true rfl)) dX9_part_44 ⟨Nat.le_of_ble_eq_true rfl, Nat.le_of_ble_eq_true rfl⟩) hS (fun q _ h => hFc q h) hFc (fun r13 u t H1 locs ht hvm hw hB hz1 hk1 hS => ?_)
          obtain ⟨hP, hD⟩ := wd_post hFc ht hB
          generalize H1 = H at hP hS ⊢
          obtain rfl : r13 = f_X1_partOf S (S.f r2 5) x2 := hw
          refine vx_ret ?_
          refine W.widen (k := 2) (n := 12) (Nat.le_of_ble_eq_true rfl) (Nat.le_of_ble_eq_true rfl) ?_
          exact W.iret (v := f_X1_partOf S (S.f r2 5) x2) hx hb hr (fun t ht hW => ⟨⟨f_X1_partOf S (S.f r2 5) x2, (), rfl, (by show f_X9_part S o1 x1 x2 = .ok (f_X1_partOf S (S.f r2 5) x2); unfold f_X9_part; rw [eB_ok c4, if_neg c6, if_neg c8, if_pos c10]), wd_end hP hK hD ht hW.alike⟩, hS.F ht⟩) hS.2.2 dX9_part_47 hlocks
        · obtain ⟨sa, hsa⟩ := hTH.2.2 (RX9, 354, "there is no such period") (by decide +kernel)
          exact vx_throwSW hx hb hst (names := ["java/lang/RuntimeException", "java/lang/Exception"]) hown (by decide +kernel) (by decide +kernel) (hts (.classLink RX9 110 "java/lang/IllegalArgumentException") (by decide +kernel)) (hts (.initialized "java/lang/IllegalArgumentException") (by decide +kernel)) hsa (th_at (B := exW_X9_IAE) (fun w h => hts w (s_X9_part_IAE w h)) rfl (by simp only [exW, List.mem_append]; intro w h; simp [h]) hTH.2.1) (List.forall_mem_cons.mpr ⟨by decide +kernel, List.forall_mem_cons.mpr ⟨by decide +kernel, exW_X9_IAE_ok⟩⟩) hTH.1.1 hTH.1.2 hS (hl.1.trans hml.symm) dX9_part_28 dX9_part_31 dX9_part_32 dX9_part_35 dX9_part_38 (fun x h => (hno x h).elim) (Nat.le_of_ble_eq_true rfl) (Nat.le_of_ble_eq_true rfl) (Nat.le_of_ble_eq_true rfl) (Nat.le_of_ble_eq_true rfl) hlocks (fun t hA2 h1 h2 => ⟨(), trivial, ⟨(by show f_X9_part S o1 x1 x2 = .error "java/lang/IllegalArgumentException"; unfold f_X9_part; rw [eB_ok c4, if_neg c6, if_neg c8, if_neg c10]), wd_exc hP hK hD hA2 h2⟩, exc_F hS h1 h2⟩) hS.2.2 (Nat.le_of_ble_eq_true rfl) (Nat.le_of_ble_eq_true rfl)
def f_X9_chart (S : wPS) (o1 : Nat) (x1 : Int32) (x2 : Int32) (x3 : Int32) : Except String (Int32 × wPS) := eB (f_X9_gearAt S o1 x1) (fun r2 => eB (f_X9_needRange x2 (0 : Int32) ((S.I r2 1) - (1 : Int32))) (fun _ => eB (f_X9_needRange x3 (-500 : Int32) (500 : Int32)) (fun _ => .ok ((f_X1_tell S (S.f r2 5) x2 x3).1, (f_X1_tell S (S.f r2 5) x2 x3).2))))
set_option maxHeartbeats 4000000 in
set_option maxRecDepth 100000 in
theorem c_X9_chart (l : Launch) (hst : l.stackTraces = false) {D : va_G} {cy : Nat → ClassId} {X : va_W} (S : wPS) (sz : Nat) (o1 : Nat) (h_o1 : ok9 S o1) (x1 : Int32) (x2 : Int32) (x3 : Int32) (hGs : gearsOk S o1) (hgn : ∀ r : Nat, ok2 S r → gnum S r) : vx_Met l yX9_chart wsX9_chart ({ frames := 7, cells := 3, slots := 18, locals := 104 }) (va_Pc [.ref o1, .int x1, .int x2, .int x3] (fun U => U.heap.size = sz ∧ WD D cy X (fun _ => True) S U ∧ NW U ∧ TH (va_A (X ++ PL cy S) sz) U)) (va_Qi (fun r (u : wPS) => f_X9_chart S o1 x1 x2 x3 = .ok (r, u) ∧ sh S u) (fun u t => WD D cy X (va_A (X ++ PL cy S) sz) u t) (va_A (X ++ PL cy S) sz)) (vx_X (fun (_ : Unit) => True) (fun E _ t => f_X9_chart S o1 x1 x2 x3 = .error E ∧ WD D cy X (va_A (X ++ PL cy S) sz) S t) (va_A (X ++ PL cy S) sz)) 3 18 (va_A (X ++ PL cy S) sz) := by
  refine vx_ofW (cc := cX9_chart) (maxL := 5) (ret := (some .int)) (by decide) rfl ?_
  intro p e s m args below meth c s₁ B hml hno hv
  obtain ⟨rfl, hsz, ⟨hP, hK, hD0⟩, hN, hTH⟩ := hv
  have hx := B.exec
  have hb := B.bytes
  have hr := B.returns
  have hts := atoms_spec (ws := wsX9_chart) B.pre
  have hown : s.vm.findClass RX9 = some m.cls := findClass_of_methodNamed B.named
  have hlocks := B.notSynchronized
  subst hsz
  have hD := hD0.self (sz := s.heap.size)
  generalize hAe : va_A (X ++ PL cy S) s.heap.size = A at hD hTH ⊢
  have hA : ∀ q : Nat, s.heap.size ≤ q → A q := fun q h => by rw [← hAe]; exact Or.inr h
  have hS : va_S A s.heap s.heap [] := va_S.rf
  have hl := lv_entry ([.ref o1, .int x1, .int x2, .int x3]) (n := 5) (Nat.le_of_ble_eq_true rfl)
  rw [lg_entry_eq]
  generalize (lg_sl ([.ref o1, .int x1, .int x2, .int x3]) ++ List.replicate (5 - (lg_sl ([.ref o1, .int x1, .int x2, .int x3])).length) Slot.unset).toArray = ls at hl ⊢
  have hl : lv_has ls 5 [(0, .ref o1), (1, .int x1), (2, .int x2), (3, .int x3)] := hl
  refine lv_aload_n hx hb dX9_chart_0 rfl (lv_at hl 0 rfl) ?_
  refine lv_iload_n hx hb dX9_chart_1 rfl (lv_at hl 1 rfl) ?_
  have hFc := free_all hD hS hA
  obtain ⟨k1, gk1, hk1⟩ := wGt (cy := cy) X S h_o1.1.1 h_o1.1.2.1
  refine vx_callq (vx_runV (As := [.int x1]) (rest := []) ⟨hx, hb, hml, hown, hts⟩ (c_X9_gearAt l hst (cy := cy) (X := X) (D := D) S _ o1 h_o1 x1 hGs) (cwV 1 hts gX9_chart_X9_gearAt rfl rfl rfl (by decide +kernel) ⟨Nat.le_of_ble_eq_true rfl, Nat.le_of_ble_eq_true rfl⟩) ⟨fun a U g mk q => ⟨q.1, q.2.1, q.2.2.1.calling, NW.same (u := U) (U := U.calling g mk a) rfl q.2.2.2.1, q.2.2.2.2.calling⟩, va_recv hK hP (ci := 13) (q0 := k1) rfl hk1, fun U hU hW => ⟨rfl, by rw [hU], wd_pre hP hK hD hU hW, hN.warm hW, th_pre hTH hS hFc hU hW⟩⟩ rfl rfl hl.1 rfl (lv_room (Nat.le_of_ble_eq_true rfl)) dX9_chart_2 ⟨Nat.le_of_ble_eq_true rfl, Nat.le_of_ble_eq_true rfl⟩) hS (fun q _ h => hFc q h) hFc (fun q _ h => hFc q h) (fun E ce q9 u t H1 locs ht hvm hw hB hz1 hk1 hS hq9 hce hcl => ?_) (fun r2 u t H1 locs ht hvm hw hB hz1 hk1 hS => ?_)
  · obtain ⟨c3, hB2⟩ := hB
    obtain ⟨hP, hD⟩ := wd_post hFc ht hB2
    exact vx_out (fun x h => (hno x h).elim) hlocks hq9 hce hcl (fun t2 ht2 hA2 => ⟨(), trivial, ⟨(by show f_X9_chart S o1 x1 x2 x3 = .error E; unfold f_X9_chart; rw [eB_er c3]), wd_end hP hK hD ht2 hA2⟩, hS.F ht2⟩) hS.2.2 (Nat.le_of_ble_eq_true rfl) (Nat.le_of_ble_eq_true rfl)
  · obtain ⟨r2, rfl, c4, o5⟩ := hw
    obtain ⟨hP, hD⟩ := wd_post hFc ht hB
    generalize H1 = H at hP hS ⊢
    refine W.eq (g2 := F0 m 5 ls [.ref r2]) rfl ?_
    refine lv_astore (lv' := [(4, .ref r2), (0, .ref o1), (1, .int x1), (2, .int x2), (3, .int x3)]) hx hb dX9_chart_5 hl (by decide) rfl (fun ls hl => ?_)
    refine lv_iload_n hx hb dX9_chart_7 rfl (lv_at hl 3 rfl) ?_
    refine lv_iconst (v := 0) hx hb dX9_chart_8 (by decide) ?_
    refine lv_aload hx hb dX9_chart_9 (lv_at hl 0 rfl) ?_
    obtain ⟨k6, gk6, hk6⟩ := wGt (cy := cy) X S o5.1.1 o5.1.2.1
    refine va_get (D := D) (ci := 6) (v := .int (S.I r2 1)) (C := RX2) (T := TX2) (N := 20) hx hb hts (by decide +kernel) hown hK hP k6 hk6 rfl 1 (by decide) (hts (.fieldLink RX9 100 "Hobhouse$Gear" "teeth" "I") (by decide +kernel)) (fun _ h9 => h9) rfl dX9_chart_11 ?_
    refine lv_iconst (v := 1) hx hb dX9_chart_14 (by decide) ?_
    refine lv_isub hx hb dX9_chart_15 ?_
    have hFc := free_all hD hS hA
    refine vx_callv (vx_runS (As := [.int x2, .int (0 : Int32), .int ((S.I r2 1) - (1 : Int32))]) (rest := []) ⟨hx, hb, hml, hown, hts⟩ (c_X9_needRange l hst (cy := cy) (X := X) (D := D) S _ x2 (0 : Int32) ((S.I r2 1) - (1 : Int32))) (cwS 3 hts gX9_chart_X9_needRange rfl rfl rfl (by decide +kernel) ⟨Nat.le_of_ble_eq_true rfl, Nat.le_of_ble_eq_true rfl⟩) ⟨fun a U g mk q => ⟨q.1, q.2.1, q.2.2.1.calling, NW.same (u := U) (U := U.calling g mk a) rfl q.2.2.2.1, q.2.2.2.2.calling⟩, fun U hU hW => ⟨rfl, by rw [hU], wd_pre hP hK hD hU hW, hN.warm hW, th_pre hTH hS hFc hU hW⟩⟩ rfl rfl hl.1 rfl (lv_room (Nat.le_of_ble_eq_true rfl)) dX9_chart_16 ⟨Nat.le_of_ble_eq_true rfl, Nat.le_of_ble_eq_true rfl⟩) hS (fun q _ h => hFc q h) hFc (fun q _ h => hFc q h) (fun E ce q9 u t H1 locs ht hvm hw hB hz1 hk1 hS hq9 hce hcl => ?_) (fun u t H1 locs ht hvm hw hB hz1 hk1 hS => ?_)
    · obtain ⟨c8, hB2⟩ := hB
      obtain ⟨hP, hD⟩ := wd_post hFc ht hB2
      exact vx_out (fun x h => (hno x h).elim) hlocks hq9 hce hcl (fun t2 ht2 hA2 => ⟨(), trivial, ⟨(by show f_X9_chart S o1 x1 x2 x3 = .error E; unfold f_X9_chart; rw [eB_ok c4, eB_er c8]), wd_end hP hK hD ht2 hA2⟩, hS.F ht2⟩) hS.2.2 (Nat.le_of_ble_eq_true rfl) (Nat.le_of_ble_eq_true rfl)
    · have c9 := hw
      obtain ⟨hP, hD⟩ := wd_post hFc ht hB
      generalize H1 = H at hP hS ⊢
      refine lv_iload_n hx hb dX9_chart_19 rfl (lv_at hl 4 rfl) ?_
      refine lv_sipush (v := -500) hx hb dX9_chart_20 (by decide +kernel) ?_
      refine lv_sipush (v := 500) hx hb dX9_chart_23 (by decide +kernel) ?_
      have hFc := free_all hD hS hA
      refine vx_callv (vx_runS (As := [.int x3, .int (-500 : Int32), .int (500 : Int32)]) (rest := []) ⟨hx, hb, hml, hown, hts⟩ (c_X9_needRange l hst (cy := cy) (X := X) (D := D) S _ x3 (-500 : Int32) (500 : Int32)) (cwS 3 hts gX9_chart_X9_needRange rfl rfl rfl (by decide +kernel) ⟨Nat.le_of_ble_eq_true rfl, Nat.le_of_ble_eq_true rfl⟩) ⟨fun a U g mk q => ⟨q.1, q.2.1, q.2.2.1.calling, NW.same (u := U) (U := U.calling g mk a) rfl q.2.2.2.1, q.2.2.2.2.calling⟩, fun U hU hW => ⟨rfl, by rw [hU], wd_pre hP hK hD hU hW, hN.warm hW, th_pre hTH hS hFc hU hW⟩⟩ rfl rfl hl.1 rfl (lv_room (Nat.le_of_ble_eq_true rfl)) dX9_chart_26 ⟨Nat.le_of_ble_eq_true rfl, Nat.le_of_ble_eq_true rfl⟩) hS (fun q _ h => hFc q h) hFc (fun q _ h => hFc q h) (fun E ce q9 u t H1 locs ht hvm hw hB hz1 hk1 hS hq9 hce hcl => ?_) (fun u t H1 locs ht hvm hw hB hz1 hk1 hS => ?_)
      · obtain ⟨c11, hB2⟩ := hB
        obtain ⟨hP, hD⟩ := wd_post hFc ht hB2
        exact vx_out (fun x h => (hno x h).elim) hlocks hq9 hce hcl (fun t2 ht2 hA2 => ⟨(), trivial, ⟨(by show f_X9_chart S o1 x1 x2 x3 = .error E; unfold f_X9_chart; rw [eB_ok c4, eB_ok c9, eB_er c11]), wd_end hP hK hD ht2 hA2⟩, hS.F ht2⟩) hS.2.2 (Nat.le_of_ble_eq_true rfl) (Nat.le_of_ble_eq_true rfl)
      · have c12 := hw
        obtain ⟨hP, hD⟩ := wd_post hFc ht hB
        generalize H1 = H at hP hS ⊢
        refine lv_aload hx hb dX9_chart_29 (lv_at hl 0 rfl) ?_
        obtain ⟨k13, gk13, hk13⟩ := wGt (cy := cy) X S o5.1.1 o5.1.2.1
        simp only [kE, o5.2.1.1] at hk13
        refine va_get (D := D) (ci := 6) (v := .ref (S.f r2 5)) (C := RX2) (T := TX2) (N := 20) hx hb hts (by decide +kernel) hown hK hP k13 hk13 rfl 5 (by decide) (hts (.fieldLink RX9 339 "Hobhouse$Gear" "chart" "LHobhouse$Chart;") (by decide +kernel)) (fun _ h9 => h9) rfl dX9_chart_31 ?_
        refine lv_iload_n hx hb dX9_chart_34 rfl (lv_at hl 3 rfl) ?_
        refine lv_iload_n hx hb dX9_chart_35 rfl (lv_at hl 4 rfl) ?_
        have hFc := free_all hD hS hA
        obtain ⟨k14, gk14, hk14⟩ := wGt (cy := cy) X S o5.2.1.2.1.1 o5.2.1.2.1.2.1
        refine va_calli (va_runV (As := [.int x2, .int x3]) (rest := []) ⟨hx, hb, hml, hown, hts⟩ (c_X1_tell l (cy := cy) (X := X) (D := D) S _ (S.f r2 5) o5.2.1.2 x2 x3 (gn_len (hgn _ (by assumption))) (gn_q (hgn _ (by assumption)))) (cwV 2 hts gX9_chart_X1_tell rfl rfl rfl (by decide +kernel) ⟨Nat.le_of_ble_eq_true rfl, Nat.le_of_ble_eq_true rfl⟩) ⟨fun a U g mk q => ⟨q.1, q.2.1, q.2.2.1.calling, NW.same (u := U) (U := U.calling g mk a) rfl q.2.2.2⟩, va_recv hK hP (ci := 5) (q0 := k14) rfl hk14, fun U hU hW => ⟨rfl, by rw [hU], wd_pre hP hK hD hU hW, hN.warm hW⟩⟩ rfl rfl hl.1 rfl (lv_room (Nat.le_of_ble_eq_true rfl)) dX9_chart_36 ⟨Nat.le_of_ble_eq_true rfl, Nat.le_of_ble_eq_true rfl⟩) hS (fun q _ h => hFc q h) hFc (fun r15 u t H1 locs ht hvm hw hB hz1 hk1 hS => ?_)
        obtain ⟨hP, hD⟩ := wd_post hFc ht hB
        generalize H1 = H at hP hS ⊢
        obtain ⟨hw1, shq16⟩ := hw
        obtain rfl : r15 = (f_X1_tell S (S.f r2 5) x2 x3).1 := congrArg Prod.fst hw1
        obtain rfl : u = (f_X1_tell S (S.f r2 5) x2 x3).2 := congrArg Prod.snd hw1
        refine vx_ret ?_
        refine W.widen (k := 3) (n := 18) (Nat.le_of_ble_eq_true rfl) (Nat.le_of_ble_eq_true rfl) ?_
        exact W.iret (v := (f_X1_tell S (S.f r2 5) x2 x3).1) hx hb hr (fun t ht hW => ⟨⟨(f_X1_tell S (S.f r2 5) x2 x3).1, (f_X1_tell S (S.f r2 5) x2 x3).2, rfl, (⟨(by show f_X9_chart S o1 x1 x2 x3 = .ok ((f_X1_tell S (S.f r2 5) x2 x3).1, (f_X1_tell S (S.f r2 5) x2 x3).2); unfold f_X9_chart; rw [eB_ok c4, eB_ok c9, eB_ok c12]), shq16⟩), wd_end hP hK hD ht hW.alike⟩, hS.F ht⟩) hS.2.2 dX9_chart_39 hlocks
def f_X9_note (S : wPS) (o1 : Nat) (x1 : Int32) (x2 : Int32) (x3 : Int32) : Except String Int32 := eB (f_X9_gearAt S o1 x1) (fun r2 => eB (f_X9_gearAt S o1 x2) (fun r7 => eB (f_X9_needRange x3 (1 : Int32) (200 : Int32)) (fun _ => eB (f_X9_needPair S r2 r7) (fun _ => .ok (if 0 ≤ ((f_X1_partOf S (S.f r2 5) x3) - (f_X1_partOf S (S.f r7 5) x3)) then ((f_X1_partOf S (S.f r2 5) x3) - (f_X1_partOf S (S.f r7 5) x3)) else 0 - ((f_X1_partOf S (S.f r2 5) x3) - (f_X1_partOf S (S.f r7 5) x3)))))))
set_option maxHeartbeats 4000000 in
set_option maxRecDepth 100000 in
theorem c_X9_note (l : Launch) (hst : l.stackTraces = false) {D : va_G} {cy : Nat → ClassId} {X : va_W} (S : wPS) (sz : Nat) (o1 : Nat) (h_o1 : ok9 S o1) (x1 : Int32) (x2 : Int32) (x3 : Int32) (hGs : gearsOk S o1) (hgn : ∀ r : Nat, ok2 S r → gnum S r) : vx_Met l yX9_note wsX9_note ({ frames := 8, cells := 4, slots := 24, locals := 123 }) (va_Pc [.ref o1, .int x1, .int x2, .int x3] (fun U => U.heap.size = sz ∧ WD D cy X (fun _ => True) S U ∧ NW U ∧ TH (va_A (X ++ PL cy S) sz) U)) (va_Qi (fun r (_ : Unit) => f_X9_note S o1 x1 x2 x3 = .ok r) (fun _ t => WD D cy X (va_A (X ++ PL cy S) sz) S t) (va_A (X ++ PL cy S) sz)) (vx_X (fun (_ : Unit) => True) (fun E _ t => f_X9_note S o1 x1 x2 x3 = .error E ∧ WD D cy X (va_A (X ++ PL cy S) sz) S t) (va_A (X ++ PL cy S) sz)) 4 24 (va_A (X ++ PL cy S) sz) := by
  refine vx_ofW (cc := cX9_note) (maxL := 6) (ret := (some .int)) (by decide) rfl ?_
  intro p e s m args below meth c s₁ B hml hno hv
  obtain ⟨rfl, hsz, ⟨hP, hK, hD0⟩, hN, hTH⟩ := hv
  have hx := B.exec
  have hb := B.bytes
  have hr := B.returns
  have hts := atoms_spec (ws := wsX9_note) B.pre
  have hown : s.vm.findClass RX9 = some m.cls := findClass_of_methodNamed B.named
  have hlocks := B.notSynchronized
  subst hsz
  have hD := hD0.self (sz := s.heap.size)
  generalize hAe : va_A (X ++ PL cy S) s.heap.size = A at hD hTH ⊢
  have hA : ∀ q : Nat, s.heap.size ≤ q → A q := fun q h => by rw [← hAe]; exact Or.inr h
  have hS : va_S A s.heap s.heap [] := va_S.rf
  have hl := lv_entry ([.ref o1, .int x1, .int x2, .int x3]) (n := 6) (Nat.le_of_ble_eq_true rfl)
  rw [lg_entry_eq]
  generalize (lg_sl ([.ref o1, .int x1, .int x2, .int x3]) ++ List.replicate (6 - (lg_sl ([.ref o1, .int x1, .int x2, .int x3])).length) Slot.unset).toArray = ls at hl ⊢
  have hl : lv_has ls 6 [(0, .ref o1), (1, .int x1), (2, .int x2), (3, .int x3)] := hl
  refine lv_aload_n hx hb dX9_note_0 rfl (lv_at hl 0 rfl) ?_
  refine lv_iload_n hx hb dX9_note_1 rfl (lv_at hl 1 rfl) ?_
  have hFc := free_all hD hS hA
  obtain ⟨k1, gk1, hk1⟩ := wGt (cy := cy) X S h_o1.1.1 h_o1.1.2.1
  refine vx_callq (vx_runV (As := [.int x1]) (rest := []) ⟨hx, hb, hml, hown, hts⟩ (c_X9_gearAt l hst (cy := cy) (X := X) (D := D) S _ o1 h_o1 x1 hGs) (cwV 1 hts gX9_note_X9_gearAt rfl rfl rfl (by decide +kernel) ⟨Nat.le_of_ble_eq_true rfl, Nat.le_of_ble_eq_true rfl⟩) ⟨fun a U g mk q => ⟨q.1, q.2.1, q.2.2.1.calling, NW.same (u := U) (U := U.calling g mk a) rfl q.2.2.2.1, q.2.2.2.2.calling⟩, va_recv hK hP (ci := 13) (q0 := k1) rfl hk1, fun U hU hW => ⟨rfl, by rw [hU], wd_pre hP hK hD hU hW, hN.warm hW, th_pre hTH hS hFc hU hW⟩⟩ rfl rfl hl.1 rfl (lv_room (Nat.le_of_ble_eq_true rfl)) dX9_note_2 ⟨Nat.le_of_ble_eq_true rfl, Nat.le_of_ble_eq_true rfl⟩) hS (fun q _ h => hFc q h) hFc (fun q _ h => hFc q h) (fun E ce q9 u t H1 locs ht hvm hw hB hz1 hk1 hS hq9 hce hcl => ?_) (fun r2 u t H1 locs ht hvm hw hB hz1 hk1 hS => ?_)
  · obtain ⟨c3, hB2⟩ := hB
    obtain ⟨hP, hD⟩ := wd_post hFc ht hB2
    exact vx_out (fun x h => (hno x h).elim) hlocks hq9 hce hcl (fun t2 ht2 hA2 => ⟨(), trivial, ⟨(by show f_X9_note S o1 x1 x2 x3 = .error E; unfold f_X9_note; rw [eB_er c3]), wd_end hP hK hD ht2 hA2⟩, hS.F ht2⟩) hS.2.2 (Nat.le_of_ble_eq_true rfl) (Nat.le_of_ble_eq_true rfl)
  · obtain ⟨r2, rfl, c4, o5⟩ := hw
    obtain ⟨hP, hD⟩ := wd_post hFc ht hB
    generalize H1 = H at hP hS ⊢
    refine W.eq (g2 := F0 m 5 ls [.ref r2]) rfl ?_
    refine lv_astore (lv' := [(4, .ref r2), (0, .ref o1), (1, .int x1), (2, .int x2), (3, .int x3)]) hx hb dX9_note_5 hl (by decide) rfl (fun ls hl => ?_)
    refine lv_aload_n hx hb dX9_note_7 rfl (lv_at hl 1 rfl) ?_
    refine lv_iload_n hx hb dX9_note_8 rfl (lv_at hl 3 rfl) ?_
    have hFc := free_all hD hS hA
    obtain ⟨k6, gk6, hk6⟩ := wGt (cy := cy) X S h_o1.1.1 h_o1.1.2.1
    refine vx_callq (vx_runV (As := [.int x2]) (rest := []) ⟨hx, hb, hml, hown, hts⟩ (c_X9_gearAt l hst (cy := cy) (X := X) (D := D) S _ o1 h_o1 x2 hGs) (cwV 1 hts gX9_note_X9_gearAt rfl rfl rfl (by decide +kernel) ⟨Nat.le_of_ble_eq_true rfl, Nat.le_of_ble_eq_true rfl⟩) ⟨fun a U g mk q => ⟨q.1, q.2.1, q.2.2.1.calling, NW.same (u := U) (U := U.calling g mk a) rfl q.2.2.2.1, q.2.2.2.2.calling⟩, va_recv hK hP (ci := 13) (q0 := k6) rfl hk6, fun U hU hW => ⟨rfl, by rw [hU], wd_pre hP hK hD hU hW, hN.warm hW, th_pre hTH hS hFc hU hW⟩⟩ rfl rfl hl.1 rfl (lv_room (Nat.le_of_ble_eq_true rfl)) dX9_note_9 ⟨Nat.le_of_ble_eq_true rfl, Nat.le_of_ble_eq_true rfl⟩) hS (fun q _ h => hFc q h) hFc (fun q _ h => hFc q h) (fun E ce q9 u t H1 locs ht hvm hw hB hz1 hk1 hS hq9 hce hcl => ?_) (fun r7 u t H1 locs ht hvm hw hB hz1 hk1 hS => ?_)
    · obtain ⟨c8, hB2⟩ := hB
      obtain ⟨hP, hD⟩ := wd_post hFc ht hB2
      exact vx_out (fun x h => (hno x h).elim) hlocks hq9 hce hcl (fun t2 ht2 hA2 => ⟨(), trivial, ⟨(by show f_X9_note S o1 x1 x2 x3 = .error E; unfold f_X9_note; rw [eB_ok c4, eB_er c8]), wd_end hP hK hD ht2 hA2⟩, hS.F ht2⟩) hS.2.2 (Nat.le_of_ble_eq_true rfl) (Nat.le_of_ble_eq_true rfl)
    · obtain ⟨r7, rfl, c9, o10⟩ := hw
      obtain ⟨hP, hD⟩ := wd_post hFc ht hB
      generalize H1 = H at hP hS ⊢
      refine W.eq (g2 := F0 m 12 ls [.ref r7]) rfl ?_
      refine lv_astore (lv' := [(5, .ref r7), (4, .ref r2), (0, .ref o1), (1, .int x1), (2, .int x2), (3, .int x3)]) hx hb dX9_note_12 hl (by decide) rfl (fun ls hl => ?_)
      refine lv_iload_n hx hb dX9_note_14 rfl (lv_at hl 5 rfl) ?_
      refine lv_iconst (v := 1) hx hb dX9_note_15 (by decide) ?_
      refine lv_sipush (v := 200) hx hb dX9_note_16 (by decide +kernel) ?_
      have hFc := free_all hD hS hA
      refine vx_callv (vx_runS (As := [.int x3, .int (1 : Int32), .int (200 : Int32)]) (rest := []) ⟨hx, hb, hml, hown, hts⟩ (c_X9_needRange l hst (cy := cy) (X := X) (D := D) S _ x3 (1 : Int32) (200 : Int32)) (cwS 3 hts gX9_note_X9_needRange rfl rfl rfl (by decide +kernel) ⟨Nat.le_of_ble_eq_true rfl, Nat.le_of_ble_eq_true rfl⟩) ⟨fun a U g mk q => ⟨q.1, q.2.1, q.2.2.1.calling, NW.same (u := U) (U := U.calling g mk a) rfl q.2.2.2.1, q.2.2.2.2.calling⟩, fun U hU hW => ⟨rfl, by rw [hU], wd_pre hP hK hD hU hW, hN.warm hW, th_pre hTH hS hFc hU hW⟩⟩ rfl rfl hl.1 rfl (lv_room (Nat.le_of_ble_eq_true rfl)) dX9_note_19 ⟨Nat.le_of_ble_eq_true rfl, Nat.le_of_ble_eq_true rfl⟩) hS (fun q _ h => hFc q h) hFc (fun q _ h => hFc q h) (fun E ce q9 u t H1 locs ht hvm hw hB hz1 hk1 hS hq9 hce hcl => ?_) (fun u t H1 locs ht hvm hw hB hz1 hk1 hS => ?_)
      · obtain ⟨c12, hB2⟩ := hB
        obtain ⟨hP, hD⟩ := wd_post hFc ht hB2
        exact vx_out (fun x h => (hno x h).elim) hlocks hq9 hce hcl (fun t2 ht2 hA2 => ⟨(), trivial, ⟨(by show f_X9_note S o1 x1 x2 x3 = .error E; unfold f_X9_note; rw [eB_ok c4, eB_ok c9, eB_er c12]), wd_end hP hK hD ht2 hA2⟩, hS.F ht2⟩) hS.2.2 (Nat.le_of_ble_eq_true rfl) (Nat.le_of_ble_eq_true rfl)
      · have c13 := hw
        obtain ⟨hP, hD⟩ := wd_post hFc ht hB
        generalize H1 = H at hP hS ⊢
        refine lv_aload hx hb dX9_note_22 (lv_at hl 1 rfl) ?_
        refine lv_aload hx hb dX9_note_24 (lv_at hl 0 rfl) ?_
        have hFc := free_all hD hS hA
        refine vx_callv (vx_runS (As := [.ref r2, .ref r7]) (rest := []) ⟨hx, hb, hml, hown, hts⟩ (c_X9_needPair l hst (cy := cy) (X := X) (D := D) S _ r2 o5 r7 o10) (cwS 2 hts gX9_note_X9_needPair rfl rfl rfl (by decide +kernel) ⟨Nat.le_of_ble_eq_true rfl, Nat.le_of_ble_eq_true rfl⟩) ⟨fun a U g mk q => ⟨q.1, q.2.1, q.2.2.1.calling, NW.same (u := U) (U := U.calling g mk a) rfl q.2.2.2.1, q.2.2.2.2.calling⟩, fun U hU hW => ⟨rfl, by rw [hU], wd_pre hP hK hD hU hW, hN.warm hW, th_pre hTH hS hFc hU hW⟩⟩ rfl rfl hl.1 rfl (lv_room (Nat.le_of_ble_eq_true rfl)) dX9_note_26 ⟨Nat.le_of_ble_eq_true rfl, Nat.le_of_ble_eq_true rfl⟩) hS (fun q _ h => hFc q h) hFc (fun q _ h => hFc q h) (fun E ce q9 u t H1 locs ht hvm hw hB hz1 hk1 hS hq9 hce hcl => ?_) (fun u t H1 locs ht hvm hw hB hz1 hk1 hS => ?_)
        · obtain ⟨c15, hB2⟩ := hB
          obtain ⟨hP, hD⟩ := wd_post hFc ht hB2
          exact vx_out (fun x h => (hno x h).elim) hlocks hq9 hce hcl (fun t2 ht2 hA2 => ⟨(), trivial, ⟨(by show f_X9_note S o1 x1 x2 x3 = .error E; unfold f_X9_note; rw [eB_ok c4, eB_ok c9, eB_ok c13, eB_er c15]), wd_end hP hK hD ht2 hA2⟩, hS.F ht2⟩) hS.2.2 (Nat.le_of_ble_eq_true rfl) (Nat.le_of_ble_eq_true rfl)
        · have c16 := hw
          obtain ⟨hP, hD⟩ := wd_post hFc ht hB
          generalize H1 = H at hP hS ⊢
          refine lv_aload hx hb dX9_note_29 (lv_at hl 1 rfl) ?_
          obtain ⟨k17, gk17, hk17⟩ := wGt (cy := cy) X S o5.1.1 o5.1.2.1
          simp only [kE, o5.2.1.1] at hk17
          refine va_get (D := D) (ci := 6) (v := .ref (S.f r2 5)) (C := RX2) (T := TX2) (N := 20) hx hb hts (by decide +kernel) hown hK hP k17 hk17 rfl 5 (by decide) (hts (.fieldLink RX9 339 "Hobhouse$Gear" "chart" "LHobhouse$Chart;") (by decide +kernel)) (fun _ h9 => h9) rfl dX9_note_31 ?_
          refine lv_iload_n hx hb dX9_note_34 rfl (lv_at hl 5 rfl) ?_
          have hFc := free_all hD hS hA
          obtain ⟨k18, gk18, hk18⟩ := wGt (cy := cy) X S o5.2.1.2.1.1 o5.2.1.2.1.2.1
          refine va_calli (va_runV (As := [.int x3]) (rest := []) ⟨hx, hb, hml, hown, hts⟩ (c_X1_partOf l (cy := cy) (X := X) (D := D) S _ (S.f r2 5) o5.2.1.2 x3 (le_big (nr_ok c13).2 (by decide)) (gn_len (hgn _ (by assumption)))) (cwV 1 hts gX9_note_X1_partOf rfl rfl rfl (by decide +kernel) ⟨Nat.le_of_ble_eq_true rfl, Nat.le_of_ble_eq_true rfl⟩) ⟨fun a U g mk q => ⟨q.1, q.2.1, q.2.2.1.calling, NW.same (u := U) (U := U.calling g mk a) rfl q.2.2.2⟩, va_recv hK hP (ci := 5) (q0 := k18) rfl hk18, fun U hU hW => ⟨rfl, by rw [hU], wd_pre hP hK hD hU hW, hN.warm hW⟩⟩ rfl rfl hl.1 rfl (lv_room (Nat.le_of_ble_eq_true rfl)) dX9_note_35 ⟨Nat.le_of_ble_eq_true rfl, Nat.le_of_ble_eq_true rfl⟩) hS (fun q _ h => hFc q h) hFc (fun r19 u t H1 locs ht hvm hw hB hz1 hk1 hS => ?_)
          obtain ⟨hP, hD⟩ := wd_post hFc ht hB
          generalize H1 = H at hP hS ⊢
          obtain rfl : r19 = f_X1_partOf S (S.f r2 5) x3 := hw
          refine lv_aload hx hb dX9_note_38 (lv_at hl 0 rfl) ?_
          obtain ⟨k20, gk20, hk20⟩ := wGt (cy := cy) X S o10.1.1 o10.1.2.1
          simp only [kE, o10.2.1.1] at hk20
          refine va_get (D := D) (ci := 6) (v := .ref (S.f r7 5)) (C := RX2) (T := TX2) (N := 20) hx hb hts (by decide +kernel) hown hK hP k20 hk20 rfl 5 (by decide) (hts (.fieldLink RX9 339 "Hobhouse$Gear" "chart" "LHobhouse$Chart;") (by decide +kernel)) (fun _ h9 => h9) rfl dX9_note_40 ?_
          refine lv_iload_n hx hb dX9_note_43 rfl (lv_at hl 5 rfl) ?_
          have hFc := free_all hD hS hA
          obtain ⟨k21, gk21, hk21⟩ := wGt (cy := cy) X S o10.2.1.2.1.1 o10.2.1.2.1.2.1
          refine va_calli (va_runV (As := [.int x3]) (rest := [.int (f_X1_partOf S (S.f r2 5) x3)]) ⟨hx, hb, hml, hown, hts⟩ (c_X1_partOf l (cy := cy) (X := X) (D := D) S _ (S.f r7 5) o10.2.1.2 x3 (le_big (nr_ok c13).2 (by decide)) (gn_len (hgn _ (by assumption)))) (cwV 1 hts gX9_note_X1_partOf rfl rfl rfl (by decide +kernel) ⟨Nat.le_of_ble_eq_true rfl, Nat.le_of_ble_eq_true rfl⟩) ⟨fun a U g mk q => ⟨q.1, q.2.1, q.2.2.1.calling, NW.same (u := U) (U := U.calling g mk a) rfl q.2.2.2⟩, va_recv hK hP (ci := 5) (q0 := k21) rfl hk21, fun U hU hW => ⟨rfl, by rw [hU], wd_pre hP hK hD hU hW, hN.warm hW⟩⟩ rfl rfl hl.1 rfl (lv_room (Nat.le_of_ble_eq_true rfl)) dX9_note_44 ⟨Nat.le_of_ble_eq_true rfl, Nat.le_of_ble_eq_true rfl⟩) hS (fun q _ h => hFc q h) hFc (fun r22 u t H1 locs ht hvm hw hB hz1 hk1 hS => ?_)
          obtain ⟨hP, hD⟩ := wd_post hFc ht hB
          generalize H1 = H at hP hS ⊢
          obtain rfl : r22 = f_X1_partOf S (S.f r7 5) x3 := hw
          refine lv_isub hx hb dX9_note_47 ?_
          refine va_mabs hx hb (hml.trans hl.1.symm) hown (hts (.methodLink RX9 188 Lib.Math.abs.name) (by decide +kernel)) (hts (.static Lib.Math.abs.name) (by decide +kernel)) (hts (.initialized "java/lang/Math") (by decide +kernel)) (hts (.code Lib.Math.abs.name Lib.Math.abs.code 1 (some .int)) (by decide +kernel)) (Nat.le_of_ble_eq_true rfl) (Nat.le_of_ble_eq_true rfl) (Nat.le_of_ble_eq_true rfl) (Nat.le_of_ble_eq_true rfl) dX9_note_48 ?_
          refine vx_ret ?_
          refine W.widen (k := 4) (n := 24) (Nat.le_of_ble_eq_true rfl) (Nat.le_of_ble_eq_true rfl) ?_
          exact W.iret (v := (if 0 ≤ ((f_X1_partOf S (S.f r2 5) x3) - (f_X1_partOf S (S.f r7 5) x3)) then ((f_X1_partOf S (S.f r2 5) x3) - (f_X1_partOf S (S.f r7 5) x3)) else 0 - ((f_X1_partOf S (S.f r2 5) x3) - (f_X1_partOf S (S.f r7 5) x3)))) hx hb hr (fun t ht hW => ⟨⟨(if 0 ≤ ((f_X1_partOf S (S.f r2 5) x3) - (f_X1_partOf S (S.f r7 5) x3)) then ((f_X1_partOf S (S.f r2 5) x3) - (f_X1_partOf S (S.f r7 5) x3)) else 0 - ((f_X1_partOf S (S.f r2 5) x3) - (f_X1_partOf S (S.f r7 5) x3))), (), rfl, (by show f_X9_note S o1 x1 x2 x3 = .ok (if 0 ≤ ((f_X1_partOf S (S.f r2 5) x3) - (f_X1_partOf S (S.f r7 5) x3)) then ((f_X1_partOf S (S.f r2 5) x3) - (f_X1_partOf S (S.f r7 5) x3)) else 0 - ((f_X1_partOf S (S.f r2 5) x3) - (f_X1_partOf S (S.f r7 5) x3))); unfold f_X9_note; rw [eB_ok c4, eB_ok c9, eB_ok c13, eB_ok c16]), wd_end hP hK hD ht hW.alike⟩, hS.F ht⟩) hS.2.2 dX9_note_51 hlocks
