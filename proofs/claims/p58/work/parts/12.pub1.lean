def f_X9_needPair (S : wPS) (o1 : Nat) (o2 : Nat) : Except String Unit := if (some o1 : Option Nat) = some o2 then eB (f_X9_allowOnly (0 : Int32)) (fun _ => .error "") else if (f_X2_pairsWith S o1 o2) = (0 : Int32) then eB (f_X9_allowOnly (0 : Int32)) (fun _ => .error "") else eB (f_X9_allowOnly (1 : Int32)) (fun _ => .ok ())
theorem hd_X9_needPair : yX9_needPair.cls = RX9 ∧ yX9_needPair.cls ≠ "java/lang/invoke/MethodHandle" ∧ yX9_needPair.cls ≠ "java/lang/invoke/VarHandle" ∧ (parseMethodDescriptor yX9_needPair.desc).map (fun d => d.parameters.length) = some 2 := by decide +kernel
set_option maxHeartbeats 4000000 in
set_option maxRecDepth 100000 in
theorem c_X9_needPair (l : Launch) (hst : l.stackTraces = false) {D : va_G} {cy : Nat → ClassId} {X : va_W} (S : wPS) (sz : Nat) (o1 : Nat) (h_o1 : isA S o1 2) (o2 : Nat) (h_o2 : isA S o2 2)  : vx_Met l yX9_needPair wsX9_needPair ({ frames := 7, cells := 1, slots := 6, locals := 102 }) (va_Pc [.ref o1, .ref o2] (fun U => U.heap.size = sz ∧ WD D cy X (fun _ => True) S U ∧ NW U ∧ TH (va_A (X ++ PL cy S) sz) U)) (va_Qv (fun (_ : Unit) => f_X9_needPair S o1 o2 = .ok ()) (fun _ t => WD D cy X (va_A (X ++ PL cy S) sz) S t) (va_A (X ++ PL cy S) sz)) (vx_X (fun (_ : Unit) => True) (fun E _ t => f_X9_needPair S o1 o2 = .error E ∧ E ∈ ["java/lang/UnsupportedOperationException"] ∧ WD D cy X (va_A (X ++ PL cy S) sz) S t) (va_A (X ++ PL cy S) sz)) 1 6 (va_A (X ++ PL cy S) sz) := by
  refine vx_ofW (cc := cX9_needPair) (maxL := 2) (ret := none) (by decide) rfl ?_
  intro p e s m args below meth c s₁ B hml hno hv
  obtain ⟨rfl, hsz, ⟨hP, hK, hD0⟩, hN, hTH⟩ := hv
  have hx := B.exec
  have hb := B.bytes
  have hr := B.returns
  have hts := atoms_spec (ws := wsX9_needPair) B.pre
  have hown : s.vm.findClass RX9 = some m.cls := findClass_of_methodNamed (x := yX9_needPair) B.named
  have hlocks := B.notSynchronized
  subst hsz
  have hD := hD0.self (sz := s.heap.size)
  generalize hAe : va_A (X ++ PL cy S) s.heap.size = A at hD hTH ⊢
  have hA : ∀ q : Nat, s.heap.size ≤ q → A q := fun q h => by rw [← hAe]; exact Or.inr h
  have hS : va_S A s.heap s.heap [] := va_S.rf
  have hl := lv_entry ([.ref o1, .ref o2]) (n := 2) (Nat.le_of_ble_eq_true rfl)
  rw [lg_entry_eq]
  generalize (lg_sl ([.ref o1, .ref o2]) ++ List.replicate (2 - (lg_sl ([.ref o1, .ref o2])).length) Slot.unset).toArray = ls at hl ⊢
  have hl : lv_has ls 2 [(0, .ref o1), (1, .ref o2)] := hl
  refine lv_aload_n hx hb dX9_needPair_0 rfl (lv_at hl 0 rfl) ?_
  refine lv_aload_n hx hb dX9_needPair_1 rfl (lv_at hl 1 rfl) ?_
  refine lv_acmp_eq (rx := some o1) (ry := some o2) (tgt := 17) hx hb dX9_needPair_2 (by decide) (fun c1 => ?_) (fun c1 => ?_)
  · refine lv_iconst (v := 0) hx hb dX9_needPair_17 (by decide) ?_
    have l32_0 : (0 : Int32).toInt = 0 := rfl
    have hFc := free_all hD hS hA
    refine vx_callv (vx_runS (As := [.int (0 : Int32)]) (rest := []) ⟨hx, hb, hml, hown, hts⟩ (c_X9_allowOnly l hst (cy := cy) (X := X) (D := D) S _ (0 : Int32)) (cwS 1 hts gX9_needPair_X9_allowOnly rfl rfl rfl hd_X9_allowOnly ⟨Nat.le_of_ble_eq_true rfl, Nat.le_of_ble_eq_true rfl⟩) (pSt hP hK hD hN hTH hS hFc) rfl rfl hl.1 rfl (lv_room (Nat.le_of_ble_eq_true rfl)) dX9_needPair_18 ⟨Nat.le_of_ble_eq_true rfl, Nat.le_of_ble_eq_true rfl⟩) hS (fun q _ h => hFc q h) hFc (fun q _ h => hFc q h) (fun E ce q9 u t H1 locs ht hvm hw hB hz1 hk1 hS hq9 hce hcl => ?_) (fun u t H1 locs ht hvm hw hB hz1 hk1 hS => ?_)
    · obtain ⟨c3, hEc3, hB2⟩ := hB
      obtain ⟨hP, hD⟩ := wd_post hFc ht hB2
      exact vx_out (fun x h => (hno x h).elim) hlocks hq9 hce hcl (fun t2 ht2 hA2 => ⟨(), trivial, ⟨(by show f_X9_needPair S o1 o2 = .error E; unfold f_X9_needPair; rw [if_pos c1, eB_er c3]), (el_in (by decide) hEc3), wd_end hP hK hD ht2 hA2⟩, hS.F ht2⟩) hS.2.2 (Nat.le_of_ble_eq_true rfl) (Nat.le_of_ble_eq_true rfl)
    · have c4 := hw
      obtain ⟨hP, hD⟩ := wd_post hFc ht hB
      generalize H1 = H at hP hS ⊢
      exact absurd rfl (ao_i c4)
  · refine lv_aload_n hx hb dX9_needPair_5 rfl (lv_at hl 0 rfl) ?_
    refine lv_aload_n hx hb dX9_needPair_6 rfl (lv_at hl 1 rfl) ?_
    have hFc := free_all hD hS hA
    obtain ⟨k5, gk5, hk5⟩ := wGt (cy := cy) X S h_o1.1 h_o1.2.1
    refine va_calli (va_runV (As := [.ref o2]) (rest := []) ⟨hx, hb, hml, hown, hts⟩ (c_X2_pairsWith l (cy := cy) (X := X) (D := D) S _ o1 h_o1 o2 h_o2) (cwV 1 hts gX9_needPair_X2_pairsWith rfl rfl rfl hd_X2_pairsWith ⟨Nat.le_of_ble_eq_true rfl, Nat.le_of_ble_eq_true rfl⟩) (pV (va_recv hK hP (q := (RX2, TX2, 20)) (ci := 6) (q0 := k5) rfl hk5) hP hK hD hN) rfl rfl hl.1 rfl (lv_room (Nat.le_of_ble_eq_true rfl)) dX9_needPair_7 ⟨(Nat.zero_le _), (Nat.zero_le _)⟩) hS (fun q _ h => hFc q h) hFc (fun r6 u t H1 locs ht hvm hw hB hz1 hk1 hS => ?_)
    have c7 := hw
    obtain ⟨hP, hD⟩ := wd_post hFc ht hB
    generalize H1 = H at hP hS ⊢
    obtain rfl : f_X2_pairsWith S o1 o2 = r6 := c7.symm
    refine lv_if_eq (tgt := 17) hx hb dX9_needPair_10 (by decide) (fun c8 => ?_) (fun c8 => ?_)
    · have c8i : (f_X2_pairsWith S o1 o2).toInt = 0 := eq_v rfl rfl c8
      refine lv_iconst (v := 0) hx hb dX9_needPair_17 (by decide) ?_
      have l32_0 : (0 : Int32).toInt = 0 := rfl
      have hFc := free_all hD hS hA
      refine vx_callv (vx_runS (As := [.int (0 : Int32)]) (rest := []) ⟨hx, hb, hml, hown, hts⟩ (c_X9_allowOnly l hst (cy := cy) (X := X) (D := D) S _ (0 : Int32)) (cwS 1 hts gX9_needPair_X9_allowOnly rfl rfl rfl hd_X9_allowOnly ⟨Nat.le_of_ble_eq_true rfl, Nat.le_of_ble_eq_true rfl⟩) (pSt hP hK hD hN hTH hS hFc) rfl rfl hl.1 rfl (lv_room (Nat.le_of_ble_eq_true rfl)) dX9_needPair_18 ⟨Nat.le_of_ble_eq_true rfl, Nat.le_of_ble_eq_true rfl⟩) hS (fun q _ h => hFc q h) hFc (fun q _ h => hFc q h) (fun E ce q9 u t H1 locs ht hvm hw hB hz1 hk1 hS hq9 hce hcl => ?_) (fun u t H1 locs ht hvm hw hB hz1 hk1 hS => ?_)
      · obtain ⟨c10, hEc10, hB2⟩ := hB
        obtain ⟨hP, hD⟩ := wd_post hFc ht hB2
        exact vx_out (fun x h => (hno x h).elim) hlocks hq9 hce hcl (fun t2 ht2 hA2 => ⟨(), trivial, ⟨(by show f_X9_needPair S o1 o2 = .error E; unfold f_X9_needPair; rw [if_neg c1, if_pos c8, eB_er c10]), (el_in (by decide) hEc10), wd_end hP hK hD ht2 hA2⟩, hS.F ht2⟩) hS.2.2 (Nat.le_of_ble_eq_true rfl) (Nat.le_of_ble_eq_true rfl)
      · have c11 := hw
        obtain ⟨hP, hD⟩ := wd_post hFc ht hB
        generalize H1 = H at hP hS ⊢
        exact absurd rfl (ao_i c11)
    · have c8i : ¬ (f_X2_pairsWith S o1 o2).toInt = 0 := neq_v rfl rfl c8
      refine lv_iconst (v := 1) hx hb dX9_needPair_13 (by decide) ?_
      refine lv_goto (tgt := 18) hx hb dX9_needPair_14 (by decide) ?_
      have l32_1 : (1 : Int32).toInt = 1 := rfl
      have hFc := free_all hD hS hA
      refine vx_callv (vx_runS (As := [.int (1 : Int32)]) (rest := []) ⟨hx, hb, hml, hown, hts⟩ (c_X9_allowOnly l hst (cy := cy) (X := X) (D := D) S _ (1 : Int32)) (cwS 1 hts gX9_needPair_X9_allowOnly rfl rfl rfl hd_X9_allowOnly ⟨Nat.le_of_ble_eq_true rfl, Nat.le_of_ble_eq_true rfl⟩) (pSt hP hK hD hN hTH hS hFc) rfl rfl hl.1 rfl (lv_room (Nat.le_of_ble_eq_true rfl)) dX9_needPair_18 ⟨Nat.le_of_ble_eq_true rfl, Nat.le_of_ble_eq_true rfl⟩) hS (fun q _ h => hFc q h) hFc (fun q _ h => hFc q h) (fun E ce q9 u t H1 locs ht hvm hw hB hz1 hk1 hS hq9 hce hcl => ?_) (fun u t H1 locs ht hvm hw hB hz1 hk1 hS => ?_)
      · obtain ⟨c13, hEc13, hB2⟩ := hB
        obtain ⟨hP, hD⟩ := wd_post hFc ht hB2
        exact vx_out (fun x h => (hno x h).elim) hlocks hq9 hce hcl (fun t2 ht2 hA2 => ⟨(), trivial, ⟨(by show f_X9_needPair S o1 o2 = .error E; unfold f_X9_needPair; rw [if_neg c1, if_neg c8, eB_er c13]), (el_in (by decide) hEc13), wd_end hP hK hD ht2 hA2⟩, hS.F ht2⟩) hS.2.2 (Nat.le_of_ble_eq_true rfl) (Nat.le_of_ble_eq_true rfl)
      · have c14 := hw
        obtain ⟨hP, hD⟩ := wd_post hFc ht hB
        generalize H1 = H at hP hS ⊢
        have i15 := ao_i c14
        refine vx_ret ?_
        refine W.widen (k := 1) (n := 6) (Nat.le_of_ble_eq_true rfl) (Nat.le_of_ble_eq_true rfl) ?_
        exact W.vret hx hb hr (fun t ht hW9 => ⟨⟨(), rfl, (by show f_X9_needPair S o1 o2 = .ok (); unfold f_X9_needPair; rw [if_neg c1, if_neg c8, eB_ok c14]), wd_end hP hK hD ht hW9.alike⟩, hS.F ht⟩) hS.2.2 dX9_needPair_21 hlocks
def f_X9_overlapOf (S : wPS) (o1 : Nat) (o2 : Nat) : Int64 := ((((if (S.I o2 4) < (S.I o1 4) then (S.I o2 4) else (S.I o1 4)).toInt64) * ((if 0 ≤ (S.I o1 3) then (S.I o1 3) else 0 - (S.I o1 3)).toInt64)) * (113 : Int64)) / ((355 : Int64) * ((S.I o1 2).toInt64))
theorem hi_X9_overlapOf_X2 : ∀ w ∈ u_ws RX2 TX2 20, w ∈ wsX9_overlapOf := by decide +kernel
theorem hd_X9_overlapOf : yX9_overlapOf.cls = RX9 ∧ yX9_overlapOf.cls ≠ "java/lang/invoke/MethodHandle" ∧ yX9_overlapOf.cls ≠ "java/lang/invoke/VarHandle" ∧ (parseMethodDescriptor yX9_overlapOf.desc).map (fun d => d.parameters.length) = some 2 := by decide +kernel
set_option maxHeartbeats 4000000 in
set_option maxRecDepth 100000 in
theorem c_X9_overlapOf (l : Launch) {D : va_G} {cy : Nat → ClassId} {X : va_W} (S : wPS) (sz : Nat) (o1 : Nat) (h_o1 : isA S o1 2) (o2 : Nat) (h_o2 : isA S o2 2) (hW : wtB S [])  : Met l yX9_overlapOf wsX9_overlapOf ({ frames := 1, cells := 0, slots := 0, locals := 15 }) (va_Pc [.ref o1, .ref o2] (fun U => U.heap.size = sz ∧ WD D cy X (fun _ => True) S U ∧ NW U)) (va_Ql (fun r (_ : Unit) => r = f_X9_overlapOf S o1 o2) (fun _ t => WD D cy X (va_A (X ++ PL cy S) sz) S t) (va_A (X ++ PL cy S) sz)) 0 0 (va_A (X ++ PL cy S) sz) := by
  refine Met.ofW (cc := cX9_overlapOf) (maxL := 4) (ret := (some .long)) (by decide) rfl ?_
  intro p e s m args below meth c s₁ B hml hv
  obtain ⟨rfl, hsz, ⟨hP, hK, hD0⟩, hN⟩ := hv
  have hx := B.exec
  have hb := B.bytes
  have hr := B.returns
  have hts := atoms_spec (ws := wsX9_overlapOf) B.pre
  have hown : s.vm.findClass RX9 = some m.cls := findClass_of_methodNamed (x := yX9_overlapOf) B.named
  have hlocks := B.notSynchronized
  subst hsz
  have hD := hD0.self (sz := s.heap.size)
  generalize hAe : va_A (X ++ PL cy S) s.heap.size = A at hD ⊢
  have hA : ∀ q : Nat, s.heap.size ≤ q → A q := fun q h => by rw [← hAe]; exact Or.inr h
  have hS : va_S A s.heap s.heap [] := va_S.rf
  have hl := lv_entry ([.ref o1, .ref o2]) (n := 4) (Nat.le_of_ble_eq_true rfl)
  rw [lg_entry_eq]
  generalize (lg_sl ([.ref o1, .ref o2]) ++ List.replicate (4 - (lg_sl ([.ref o1, .ref o2])).length) Slot.unset).toArray = ls at hl ⊢
  have hl : lv_has ls 4 [(0, .ref o1), (1, .ref o2)] := hl
  refine lv_aload_n hx hb dX9_overlapOf_0 rfl (lv_at hl 0 rfl) ?_
  obtain ⟨k1, gk1, hk1⟩ := wGt (cy := cy) X S h_o1.1 h_o1.2.1
  have i2 := ((hW.at h_o1 List.not_mem_nil).to_2 h_o1.2.1).R4
  refine va_get (D := D) (ci := 6) (v := .int (S.I o1 4)) (C := RX2) (T := TX2) (N := 20) hx hb hts hi_X9_overlapOf_X2 hown hK hP k1 hk1 rfl 4 (by decide) (hts (.fieldLink RX9 160 "Hobhouse$Gear" "width" "I") (by decide +kernel)) (fun _ h9 => h9) rfl dX9_overlapOf_1 ?_
  refine lv_aload_n hx hb dX9_overlapOf_4 rfl (lv_at hl 1 rfl) ?_
  obtain ⟨k3, gk3, hk3⟩ := wGt (cy := cy) X S h_o2.1 h_o2.2.1
  have i4 := ((hW.at h_o2 List.not_mem_nil).to_2 h_o2.2.1).R4
  refine va_get (D := D) (ci := 6) (v := .int (S.I o2 4)) (C := RX2) (T := TX2) (N := 20) hx hb hts hi_X9_overlapOf_X2 hown hK hP k3 hk3 rfl 4 (by decide) (hts (.fieldLink RX9 160 "Hobhouse$Gear" "width" "I") (by decide +kernel)) (fun _ h9 => h9) rfl dX9_overlapOf_5 ?_
  refine va_mmin hx hb (hml.trans hl.1.symm) hown (hts (.methodLink RX9 181 Lib.Math.min.name) (by decide +kernel)) (hts (.static Lib.Math.min.name) (by decide +kernel)) (hts (.initialized "java/lang/Math") (by decide +kernel)) (hts (.code Lib.Math.min.name Lib.Math.min.code 2 (some .int)) (by decide +kernel)) (Nat.le_of_ble_eq_true rfl) (Nat.le_of_ble_eq_true rfl) (Nat.zero_le _) (Nat.zero_le _) dX9_overlapOf_8 ?_
  refine lv_i2l hx hb dX9_overlapOf_11 rfl ?_
  refine lv_lstore_n (lv' := [(2, .long ((if (S.I o2 4) < (S.I o1 4) then (S.I o2 4) else (S.I o1 4)).toInt64)), (0, .ref o1), (1, .ref o2)]) hx hb dX9_overlapOf_12 rfl hl (by decide) rfl (fun ls hl => ?_)
  refine lv_lload_n hx hb dX9_overlapOf_13 rfl (lv_at hl 0 rfl) ?_
  refine lv_aload_n hx hb dX9_overlapOf_14 rfl (lv_at hl 1 rfl) ?_
  obtain ⟨k5, gk5, hk5⟩ := wGt (cy := cy) X S h_o1.1 h_o1.2.1
  have i6 := ((hW.at h_o1 List.not_mem_nil).to_2 h_o1.2.1).R3
  refine va_get (D := D) (ci := 6) (v := .int (S.I o1 3)) (C := RX2) (T := TX2) (N := 20) hx hb hts hi_X9_overlapOf_X2 hown hK hP k5 hk5 rfl 3 (by decide) (hts (.fieldLink RX9 185 "Hobhouse$Gear" "helix" "I") (by decide +kernel)) (fun _ h9 => h9) rfl dX9_overlapOf_15 ?_
  refine va_mabs hx hb (hml.trans hl.1.symm) hown (hts (.methodLink RX9 188 Lib.Math.abs.name) (by decide +kernel)) (hts (.static Lib.Math.abs.name) (by decide +kernel)) (hts (.initialized "java/lang/Math") (by decide +kernel)) (hts (.code Lib.Math.abs.name Lib.Math.abs.code 1 (some .int)) (by decide +kernel)) (Nat.le_of_ble_eq_true rfl) (Nat.le_of_ble_eq_true rfl) (Nat.zero_le _) (Nat.zero_le _) dX9_overlapOf_18 ?_
  refine lv_i2l hx hb dX9_overlapOf_21 rfl ?_
  refine lv_lmul hx hb dX9_overlapOf_22 ?_
  refine lv_ldc2 (own := RX9) (v := 113) hx hb hown (hts (.constantLong RX9 177 (113)) (by decide +kernel)) dX9_overlapOf_23 ?_
  refine lv_lmul hx hb dX9_overlapOf_26 ?_
  refine lv_ldc2 (own := RX9) (v := 355) hx hb hown (hts (.constantLong RX9 190 (355)) (by decide +kernel)) dX9_overlapOf_27 ?_
  refine lv_aload_n hx hb dX9_overlapOf_30 rfl (lv_at hl 1 rfl) ?_
  obtain ⟨k7, gk7, hk7⟩ := wGt (cy := cy) X S h_o1.1 h_o1.2.1
  have i8 := ((hW.at h_o1 List.not_mem_nil).to_2 h_o1.2.1).R2
  refine va_get (D := D) (ci := 6) (v := .int (S.I o1 2)) (C := RX2) (T := TX2) (N := 20) hx hb hts hi_X9_overlapOf_X2 hown hK hP k7 hk7 rfl 2 (by decide) (hts (.fieldLink RX9 165 "Hobhouse$Gear" "module" "I") (by decide +kernel)) (fun _ h9 => h9) rfl dX9_overlapOf_31 ?_
  refine lv_i2l hx hb dX9_overlapOf_34 rfl ?_
  refine lv_lmul hx hb dX9_overlapOf_35 ?_
  refine lv_ldiv hx hb dX9_overlapOf_36 (km_nz rfl ((hW.at h_o1 List.not_mem_nil).to_2 h_o1.2.1).R2) ?_
  refine W.widen (k := 0) (n := 0) (Nat.le_of_ble_eq_true rfl) (Nat.le_of_ble_eq_true rfl) ?_
  exact W.lret (v := ((((if (S.I o2 4) < (S.I o1 4) then (S.I o2 4) else (S.I o1 4)).toInt64) * ((if 0 ≤ (S.I o1 3) then (S.I o1 3) else 0 - (S.I o1 3)).toInt64)) * (113 : Int64)) / ((355 : Int64) * ((S.I o1 2).toInt64))) hx hb hr (fun t ht hW9 => ⟨⟨((((if (S.I o2 4) < (S.I o1 4) then (S.I o2 4) else (S.I o1 4)).toInt64) * ((if 0 ≤ (S.I o1 3) then (S.I o1 3) else 0 - (S.I o1 3)).toInt64)) * (113 : Int64)) / ((355 : Int64) * ((S.I o1 2).toInt64)), (), rfl, (by show (((((if (S.I o2 4) < (S.I o1 4) then (S.I o2 4) else (S.I o1 4)).toInt64) * ((if 0 ≤ (S.I o1 3) then (S.I o1 3) else 0 - (S.I o1 3)).toInt64)) * (113 : Int64)) / ((355 : Int64) * ((S.I o1 2).toInt64))) = f_X9_overlapOf S o1 o2; unfold f_X9_overlapOf; rfl), wd_end hP hK hD ht hW9.alike⟩, hS.F ht⟩) hS.2.2 dX9_overlapOf_37 hlocks
def f_X9_contactOf (S : wPS) (o1 : Nat) (o2 : Nat) : Int64 := if (lg_cmp (((f_X2_lineAt S o1 (S.I o1 7)) + (f_X2_lineAt S o2 (S.I o2 7))) - (f_X9_root ((((16 : Int64) * (((f_X2_pitchDiameter S o1).toInt64) + ((f_X2_pitchDiameter S o2).toInt64))) * (((f_X2_pitchDiameter S o1).toInt64) + ((f_X2_pitchDiameter S o2).toInt64))) / (137 : Int64)))) (0 : Int64)) ≤ (0 : Int32) then (0 : Int64) else if (0 : Int32) < (lg_cmp ((f_X9_root ((((7810 : Int64) * ((S.I o1 2).toInt64)) * ((7810 : Int64) * ((S.I o1 2).toInt64))) / (137 : Int64))) / (113 : Int64)) (0 : Int64)) then ((1000 : Int64) * (((f_X2_lineAt S o1 (S.I o1 7)) + (f_X2_lineAt S o2 (S.I o2 7))) - (f_X9_root ((((16 : Int64) * (((f_X2_pitchDiameter S o1).toInt64) + ((f_X2_pitchDiameter S o2).toInt64))) * (((f_X2_pitchDiameter S o1).toInt64) + ((f_X2_pitchDiameter S o2).toInt64))) / (137 : Int64))))) / ((f_X9_root ((((7810 : Int64) * ((S.I o1 2).toInt64)) * ((7810 : Int64) * ((S.I o1 2).toInt64))) / (137 : Int64))) / (113 : Int64)) else (0 : Int64)
theorem hi_X9_contactOf_X2 : ∀ w ∈ u_ws RX2 TX2 20, w ∈ wsX9_contactOf := by decide +kernel
theorem hd_X9_contactOf : yX9_contactOf.cls = RX9 ∧ yX9_contactOf.cls ≠ "java/lang/invoke/MethodHandle" ∧ yX9_contactOf.cls ≠ "java/lang/invoke/VarHandle" ∧ (parseMethodDescriptor yX9_contactOf.desc).map (fun d => d.parameters.length) = some 2 := by decide +kernel
set_option maxHeartbeats 4000000 in
set_option maxRecDepth 100000 in
theorem c_X9_contactOf (l : Launch) {D : va_G} {cy : Nat → ClassId} {X : va_W} (S : wPS) (sz : Nat) (o1 : Nat) (h_o1 : isA S o1 2) (o2 : Nat) (h_o2 : isA S o2 2)  : Met l yX9_contactOf wsX9_contactOf ({ frames := 3, cells := 0, slots := 0, locals := 68 }) (va_Pc [.ref o1, .ref o2] (fun U => U.heap.size = sz ∧ WD D cy X (fun _ => True) S U ∧ NW U)) (va_Ql (fun r (_ : Unit) => r = f_X9_contactOf S o1 o2) (fun _ t => WD D cy X (va_A (X ++ PL cy S) sz) S t) (va_A (X ++ PL cy S) sz)) 0 0 (va_A (X ++ PL cy S) sz) := by
  refine Met.ofW (cc := cX9_contactOf) (maxL := 10) (ret := (some .long)) (by decide) rfl ?_
  intro p e s m args below meth c s₁ B hml hv
  obtain ⟨rfl, hsz, ⟨hP, hK, hD0⟩, hN⟩ := hv
  have hx := B.exec
  have hb := B.bytes
  have hr := B.returns
  have hts := atoms_spec (ws := wsX9_contactOf) B.pre
  have hown : s.vm.findClass RX9 = some m.cls := findClass_of_methodNamed (x := yX9_contactOf) B.named
  have hlocks := B.notSynchronized
  subst hsz
  have hD := hD0.self (sz := s.heap.size)
  generalize hAe : va_A (X ++ PL cy S) s.heap.size = A at hD ⊢
  have hA : ∀ q : Nat, s.heap.size ≤ q → A q := fun q h => by rw [← hAe]; exact Or.inr h
  have hS : va_S A s.heap s.heap [] := va_S.rf
  have hl := lv_entry ([.ref o1, .ref o2]) (n := 10) (Nat.le_of_ble_eq_true rfl)
  rw [lg_entry_eq]
  generalize (lg_sl ([.ref o1, .ref o2]) ++ List.replicate (10 - (lg_sl ([.ref o1, .ref o2])).length) Slot.unset).toArray = ls at hl ⊢
  have hl : lv_has ls 10 [(0, .ref o1), (1, .ref o2)] := hl
  refine lv_aload_n hx hb dX9_contactOf_0 rfl (lv_at hl 0 rfl) ?_
  have hFc := free_all hD hS hA
  obtain ⟨k1, gk1, hk1⟩ := wGt (cy := cy) X S h_o1.1 h_o1.2.1
  refine va_calli (va_runV (As := []) (rest := []) ⟨hx, hb, hml, hown, hts⟩ (c_X2_pitchDiameter l (cy := cy) (X := X) (D := D) S _ o1 h_o1) (cwV 0 hts gX9_contactOf_X2_pitchDiameter rfl rfl rfl hd_X2_pitchDiameter ⟨Nat.le_of_ble_eq_true rfl, Nat.le_of_ble_eq_true rfl⟩) (pV (va_recv hK hP (q := (RX2, TX2, 20)) (ci := 6) (q0 := k1) rfl hk1) hP hK hD hN) rfl rfl hl.1 rfl (lv_room (Nat.le_of_ble_eq_true rfl)) dX9_contactOf_1 ⟨(Nat.zero_le _), (Nat.zero_le _)⟩) hS (fun q _ h => hFc q h) hFc (fun r2 u t H1 locs ht hvm hw hB hz1 hk1 hS => ?_)
  have c3 := hw
  obtain ⟨hP, hD⟩ := wd_post hFc ht hB
  generalize H1 = H at hP hS ⊢
  obtain rfl : f_X2_pitchDiameter S o1 = r2 := c3.symm
  refine lv_i2l hx hb dX9_contactOf_4 rfl ?_
  refine lv_aload_n hx hb dX9_contactOf_5 rfl (lv_at hl 1 rfl) ?_
  have hFc := free_all hD hS hA
  obtain ⟨k4, gk4, hk4⟩ := wGt (cy := cy) X S h_o2.1 h_o2.2.1
  refine va_calli (va_runV (As := []) (rest := [.long ((f_X2_pitchDiameter S o1).toInt64)]) ⟨hx, hb, hml, hown, hts⟩ (c_X2_pitchDiameter l (cy := cy) (X := X) (D := D) S _ o2 h_o2) (cwV 0 hts gX9_contactOf_X2_pitchDiameter rfl rfl rfl hd_X2_pitchDiameter ⟨Nat.le_of_ble_eq_true rfl, Nat.le_of_ble_eq_true rfl⟩) (pV (va_recv hK hP (q := (RX2, TX2, 20)) (ci := 6) (q0 := k4) rfl hk4) hP hK hD hN) rfl rfl hl.1 rfl (lv_room (Nat.le_of_ble_eq_true rfl)) dX9_contactOf_6 ⟨(Nat.zero_le _), (Nat.zero_le _)⟩) hS (fun q _ h => hFc q h) hFc (fun r5 u t H1 locs ht hvm hw hB hz1 hk1 hS => ?_)
  have c6 := hw
  obtain ⟨hP, hD⟩ := wd_post hFc ht hB
  generalize H1 = H at hP hS ⊢
  obtain rfl : f_X2_pitchDiameter S o2 = r5 := c6.symm
  refine lv_i2l hx hb dX9_contactOf_9 rfl ?_
  refine lv_ladd hx hb dX9_contactOf_10 ?_
  refine lv_lstore_n (lv' := [(2, .long (((f_X2_pitchDiameter S o1).toInt64) + ((f_X2_pitchDiameter S o2).toInt64))), (0, .ref o1), (1, .ref o2)]) hx hb dX9_contactOf_11 rfl hl (by decide) rfl (fun ls hl => ?_)
  refine lv_aload_n hx hb dX9_contactOf_12 rfl (lv_at hl 1 rfl) ?_
  refine lv_aload_n hx hb dX9_contactOf_13 rfl (lv_at hl 1 rfl) ?_
  obtain ⟨k7, gk7, hk7⟩ := wGt (cy := cy) X S h_o1.1 h_o1.2.1
  refine va_get (D := D) (ci := 6) (v := .int (S.I o1 7)) (C := RX2) (T := TX2) (N := 20) hx hb hts hi_X9_contactOf_X2 hown hK hP k7 hk7 rfl 7 (by decide) (hts (.fieldLink RX9 89 "Hobhouse$Gear" "shift" "I") (by decide +kernel)) (fun _ h9 => h9) rfl dX9_contactOf_14 ?_
  have hFc := free_all hD hS hA
  obtain ⟨k8, gk8, hk8⟩ := wGt (cy := cy) X S h_o1.1 h_o1.2.1
  refine va_calll (va_runV (As := [.int (S.I o1 7)]) (rest := []) ⟨hx, hb, hml, hown, hts⟩ (c_X2_lineAt l (cy := cy) (X := X) (D := D) S _ o1 h_o1 (S.I o1 7)) (cwV 1 hts gX9_contactOf_X2_lineAt rfl rfl rfl hd_X2_lineAt ⟨Nat.le_of_ble_eq_true rfl, Nat.le_of_ble_eq_true rfl⟩) (pV (va_recv hK hP (q := (RX2, TX2, 20)) (ci := 6) (q0 := k8) rfl hk8) hP hK hD hN) rfl rfl hl.1 rfl (lv_room (Nat.le_of_ble_eq_true rfl)) dX9_contactOf_17 ⟨(Nat.zero_le _), (Nat.zero_le _)⟩) hS (fun q _ h => hFc q h) hFc (fun r9 u t H1 locs ht hvm hw hB hz1 hk1 hS => ?_)
  have c10 := hw
  obtain ⟨hP, hD⟩ := wd_post hFc ht hB
  generalize H1 = H at hP hS ⊢
  obtain rfl : f_X2_lineAt S o1 (S.I o1 7) = r9 := c10.symm
  refine lv_aload_n hx hb dX9_contactOf_20 rfl (lv_at hl 2 rfl) ?_
  refine lv_aload_n hx hb dX9_contactOf_21 rfl (lv_at hl 2 rfl) ?_
  obtain ⟨k11, gk11, hk11⟩ := wGt (cy := cy) X S h_o2.1 h_o2.2.1
  refine va_get (D := D) (ci := 6) (v := .int (S.I o2 7)) (C := RX2) (T := TX2) (N := 20) hx hb hts hi_X9_contactOf_X2 hown hK hP k11 hk11 rfl 7 (by decide) (hts (.fieldLink RX9 89 "Hobhouse$Gear" "shift" "I") (by decide +kernel)) (fun _ h9 => h9) rfl dX9_contactOf_22 ?_
  have hFc := free_all hD hS hA
  obtain ⟨k12, gk12, hk12⟩ := wGt (cy := cy) X S h_o2.1 h_o2.2.1
  refine va_calll (va_runV (As := [.int (S.I o2 7)]) (rest := [.long (f_X2_lineAt S o1 (S.I o1 7))]) ⟨hx, hb, hml, hown, hts⟩ (c_X2_lineAt l (cy := cy) (X := X) (D := D) S _ o2 h_o2 (S.I o2 7)) (cwV 1 hts gX9_contactOf_X2_lineAt rfl rfl rfl hd_X2_lineAt ⟨Nat.le_of_ble_eq_true rfl, Nat.le_of_ble_eq_true rfl⟩) (pV (va_recv hK hP (q := (RX2, TX2, 20)) (ci := 6) (q0 := k12) rfl hk12) hP hK hD hN) rfl rfl hl.1 rfl (lv_room (Nat.le_of_ble_eq_true rfl)) dX9_contactOf_25 ⟨(Nat.zero_le _), (Nat.zero_le _)⟩) hS (fun q _ h => hFc q h) hFc (fun r13 u t H1 locs ht hvm hw hB hz1 hk1 hS => ?_)
  have c14 := hw
  obtain ⟨hP, hD⟩ := wd_post hFc ht hB
  generalize H1 = H at hP hS ⊢
  obtain rfl : f_X2_lineAt S o2 (S.I o2 7) = r13 := c14.symm
  refine lv_ladd hx hb dX9_contactOf_28 ?_
  refine lv_ldc2 (own := RX9) (v := 16) hx hb hown (hts (.constantLong RX9 171 (16)) (by decide +kernel)) dX9_contactOf_29 ?_
  refine lv_lload_n hx hb dX9_contactOf_32 rfl (lv_at hl 0 rfl) ?_
  refine lv_lmul hx hb dX9_contactOf_33 ?_
  refine lv_lload_n hx hb dX9_contactOf_34 rfl (lv_at hl 0 rfl) ?_
  refine lv_lmul hx hb dX9_contactOf_35 ?_
  refine lv_ldc2 (own := RX9) (v := 137) hx hb hown (hts (.constantLong RX9 173 (137)) (by decide +kernel)) dX9_contactOf_36 ?_
  refine lv_ldiv hx hb dX9_contactOf_39 (by decide) ?_
  have hFc := free_all hD hS hA
  refine va_calll (va_runS (As := [.long ((((16 : Int64) * (((f_X2_pitchDiameter S o1).toInt64) + ((f_X2_pitchDiameter S o2).toInt64))) * (((f_X2_pitchDiameter S o1).toInt64) + ((f_X2_pitchDiameter S o2).toInt64))) / (137 : Int64))]) (rest := [.long ((f_X2_lineAt S o1 (S.I o1 7)) + (f_X2_lineAt S o2 (S.I o2 7)))]) ⟨hx, hb, hml, hown, hts⟩ (c_X9_root l (cy := cy) (X := X) (D := D) S _ ((((16 : Int64) * (((f_X2_pitchDiameter S o1).toInt64) + ((f_X2_pitchDiameter S o2).toInt64))) * (((f_X2_pitchDiameter S o1).toInt64) + ((f_X2_pitchDiameter S o2).toInt64))) / (137 : Int64))) (cwS 1 hts gX9_contactOf_X9_root rfl rfl rfl hd_X9_root ⟨Nat.le_of_ble_eq_true rfl, Nat.le_of_ble_eq_true rfl⟩) (pS hP hK hD hN) rfl rfl hl.1 rfl (lv_room (Nat.le_of_ble_eq_true rfl)) dX9_contactOf_40 ⟨(Nat.zero_le _), (Nat.zero_le _)⟩) hS (fun q _ h => hFc q h) hFc (fun r15 u t H1 locs ht hvm hw hB hz1 hk1 hS => ?_)
  have c16 := hw
  obtain ⟨hP, hD⟩ := wd_post hFc ht hB
  generalize H1 = H at hP hS ⊢
  obtain rfl : f_X9_root ((((16 : Int64) * (((f_X2_pitchDiameter S o1).toInt64) + ((f_X2_pitchDiameter S o2).toInt64))) * (((f_X2_pitchDiameter S o1).toInt64) + ((f_X2_pitchDiameter S o2).toInt64))) / (137 : Int64)) = r15 := c16.symm
  refine lv_lsub hx hb dX9_contactOf_43 ?_
  refine lv_lstore (lv' := [(4, .long (((f_X2_lineAt S o1 (S.I o1 7)) + (f_X2_lineAt S o2 (S.I o2 7))) - (f_X9_root ((((16 : Int64) * (((f_X2_pitchDiameter S o1).toInt64) + ((f_X2_pitchDiameter S o2).toInt64))) * (((f_X2_pitchDiameter S o1).toInt64) + ((f_X2_pitchDiameter S o2).toInt64))) / (137 : Int64))))), (2, .long (((f_X2_pitchDiameter S o1).toInt64) + ((f_X2_pitchDiameter S o2).toInt64))), (0, .ref o1), (1, .ref o2)]) hx hb dX9_contactOf_44 hl (by decide) rfl (fun ls hl => ?_)
  refine lv_ldc2 (own := RX9) (v := 7810) hx hb hown (hts (.constantLong RX9 175 (7810)) (by decide +kernel)) dX9_contactOf_46 ?_
  refine lv_aload_n hx hb dX9_contactOf_49 rfl (lv_at hl 2 rfl) ?_
  obtain ⟨k17, gk17, hk17⟩ := wGt (cy := cy) X S h_o1.1 h_o1.2.1
  refine va_get (D := D) (ci := 6) (v := .int (S.I o1 2)) (C := RX2) (T := TX2) (N := 20) hx hb hts hi_X9_contactOf_X2 hown hK hP k17 hk17 rfl 2 (by decide) (hts (.fieldLink RX9 165 "Hobhouse$Gear" "module" "I") (by decide +kernel)) (fun _ h9 => h9) rfl dX9_contactOf_50 ?_
  refine lv_i2l hx hb dX9_contactOf_53 rfl ?_
  refine lv_lmul hx hb dX9_contactOf_54 ?_
  refine lv_lstore (lv' := [(6, .long ((7810 : Int64) * ((S.I o1 2).toInt64))), (4, .long (((f_X2_lineAt S o1 (S.I o1 7)) + (f_X2_lineAt S o2 (S.I o2 7))) - (f_X9_root ((((16 : Int64) * (((f_X2_pitchDiameter S o1).toInt64) + ((f_X2_pitchDiameter S o2).toInt64))) * (((f_X2_pitchDiameter S o1).toInt64) + ((f_X2_pitchDiameter S o2).toInt64))) / (137 : Int64))))), (2, .long (((f_X2_pitchDiameter S o1).toInt64) + ((f_X2_pitchDiameter S o2).toInt64))), (0, .ref o1), (1, .ref o2)]) hx hb dX9_contactOf_55 hl (by decide) rfl (fun ls hl => ?_)
  refine lv_lload hx hb dX9_contactOf_57 (lv_at hl 0 rfl) ?_
  refine lv_lload hx hb dX9_contactOf_59 (lv_at hl 0 rfl) ?_
  refine lv_lmul hx hb dX9_contactOf_61 ?_
  refine lv_ldc2 (own := RX9) (v := 137) hx hb hown (hts (.constantLong RX9 173 (137)) (by decide +kernel)) dX9_contactOf_62 ?_
  refine lv_ldiv hx hb dX9_contactOf_65 (by decide) ?_
  have hFc := free_all hD hS hA
  refine va_calll (va_runS (As := [.long ((((7810 : Int64) * ((S.I o1 2).toInt64)) * ((7810 : Int64) * ((S.I o1 2).toInt64))) / (137 : Int64))]) (rest := []) ⟨hx, hb, hml, hown, hts⟩ (c_X9_root l (cy := cy) (X := X) (D := D) S _ ((((7810 : Int64) * ((S.I o1 2).toInt64)) * ((7810 : Int64) * ((S.I o1 2).toInt64))) / (137 : Int64))) (cwS 1 hts gX9_contactOf_X9_root rfl rfl rfl hd_X9_root ⟨Nat.le_of_ble_eq_true rfl, Nat.le_of_ble_eq_true rfl⟩) (pS hP hK hD hN) rfl rfl hl.1 rfl (lv_room (Nat.le_of_ble_eq_true rfl)) dX9_contactOf_66 ⟨(Nat.zero_le _), (Nat.zero_le _)⟩) hS (fun q _ h => hFc q h) hFc (fun r18 u t H1 locs ht hvm hw hB hz1 hk1 hS => ?_)
  have c19 := hw
  obtain ⟨hP, hD⟩ := wd_post hFc ht hB
  generalize H1 = H at hP hS ⊢
  obtain rfl : f_X9_root ((((7810 : Int64) * ((S.I o1 2).toInt64)) * ((7810 : Int64) * ((S.I o1 2).toInt64))) / (137 : Int64)) = r18 := c19.symm
  refine lv_ldc2 (own := RX9) (v := 113) hx hb hown (hts (.constantLong RX9 177 (113)) (by decide +kernel)) dX9_contactOf_69 ?_
  refine lv_ldiv hx hb dX9_contactOf_72 (by decide) ?_
  refine lv_lstore (lv' := [(8, .long ((f_X9_root ((((7810 : Int64) * ((S.I o1 2).toInt64)) * ((7810 : Int64) * ((S.I o1 2).toInt64))) / (137 : Int64))) / (113 : Int64))), (6, .long ((7810 : Int64) * ((S.I o1 2).toInt64))), (4, .long (((f_X2_lineAt S o1 (S.I o1 7)) + (f_X2_lineAt S o2 (S.I o2 7))) - (f_X9_root ((((16 : Int64) * (((f_X2_pitchDiameter S o1).toInt64) + ((f_X2_pitchDiameter S o2).toInt64))) * (((f_X2_pitchDiameter S o1).toInt64) + ((f_X2_pitchDiameter S o2).toInt64))) / (137 : Int64))))), (2, .long (((f_X2_pitchDiameter S o1).toInt64) + ((f_X2_pitchDiameter S o2).toInt64))), (0, .ref o1), (1, .ref o2)]) hx hb dX9_contactOf_73 hl (by decide) rfl (fun ls hl => ?_)
  refine lv_lload hx hb dX9_contactOf_75 (lv_at hl 2 rfl) ?_
  refine lv_lconst (v := 0) hx hb dX9_contactOf_77 (by decide) ?_
  refine W.lcmp hx hb dX9_contactOf_78 ?_
  refine lv_if_le (tgt := 89) hx hb dX9_contactOf_79 (by decide) (fun c20 => ?_) (fun c20 => ?_)
  · refine lv_lconst (v := 0) hx hb dX9_contactOf_89 (by decide) ?_
    refine lv_goto (tgt := 102) hx hb dX9_contactOf_90 (by decide) ?_
    refine W.widen (k := 0) (n := 0) (Nat.le_of_ble_eq_true rfl) (Nat.le_of_ble_eq_true rfl) ?_
    exact W.lret (v := (0 : Int64)) hx hb hr (fun t ht hW9 => ⟨⟨(0 : Int64), (), rfl, (by show (0 : Int64) = f_X9_contactOf S o1 o2; unfold f_X9_contactOf; rw [if_pos c20]), wd_end hP hK hD ht hW9.alike⟩, hS.F ht⟩) hS.2.2 dX9_contactOf_102 hlocks
  · refine lv_lload hx hb dX9_contactOf_82 (lv_at hl 0 rfl) ?_
    refine lv_lconst (v := 0) hx hb dX9_contactOf_84 (by decide) ?_
    refine W.lcmp hx hb dX9_contactOf_85 ?_
    refine lv_if_gt (tgt := 93) hx hb dX9_contactOf_86 (by decide) (fun c21 => ?_) (fun c21 => ?_)
    · refine lv_ldc2 (own := RX9) (v := 1000) hx hb hown (hts (.constantLong RX9 179 (1000)) (by decide +kernel)) dX9_contactOf_93 ?_
      refine lv_lload hx hb dX9_contactOf_96 (lv_at hl 2 rfl) ?_
      refine lv_lmul hx hb dX9_contactOf_98 ?_
      refine lv_lload hx hb dX9_contactOf_99 (lv_at hl 0 rfl) ?_
      refine lv_ldiv hx hb dX9_contactOf_101 (nz_gt0 c21) ?_
      refine W.widen (k := 0) (n := 0) (Nat.le_of_ble_eq_true rfl) (Nat.le_of_ble_eq_true rfl) ?_
      exact W.lret (v := ((1000 : Int64) * (((f_X2_lineAt S o1 (S.I o1 7)) + (f_X2_lineAt S o2 (S.I o2 7))) - (f_X9_root ((((16 : Int64) * (((f_X2_pitchDiameter S o1).toInt64) + ((f_X2_pitchDiameter S o2).toInt64))) * (((f_X2_pitchDiameter S o1).toInt64) + ((f_X2_pitchDiameter S o2).toInt64))) / (137 : Int64))))) / ((f_X9_root ((((7810 : Int64) * ((S.I o1 2).toInt64)) * ((7810 : Int64) * ((S.I o1 2).toInt64))) / (137 : Int64))) / (113 : Int64))) hx hb hr (fun t ht hW9 => ⟨⟨((1000 : Int64) * (((f_X2_lineAt S o1 (S.I o1 7)) + (f_X2_lineAt S o2 (S.I o2 7))) - (f_X9_root ((((16 : Int64) * (((f_X2_pitchDiameter S o1).toInt64) + ((f_X2_pitchDiameter S o2).toInt64))) * (((f_X2_pitchDiameter S o1).toInt64) + ((f_X2_pitchDiameter S o2).toInt64))) / (137 : Int64))))) / ((f_X9_root ((((7810 : Int64) * ((S.I o1 2).toInt64)) * ((7810 : Int64) * ((S.I o1 2).toInt64))) / (137 : Int64))) / (113 : Int64)), (), rfl, (by show (((1000 : Int64) * (((f_X2_lineAt S o1 (S.I o1 7)) + (f_X2_lineAt S o2 (S.I o2 7))) - (f_X9_root ((((16 : Int64) * (((f_X2_pitchDiameter S o1).toInt64) + ((f_X2_pitchDiameter S o2).toInt64))) * (((f_X2_pitchDiameter S o1).toInt64) + ((f_X2_pitchDiameter S o2).toInt64))) / (137 : Int64))))) / ((f_X9_root ((((7810 : Int64) * ((S.I o1 2).toInt64)) * ((7810 : Int64) * ((S.I o1 2).toInt64))) / (137 : Int64))) / (113 : Int64))) = f_X9_contactOf S o1 o2; unfold f_X9_contactOf; rw [if_neg c20, if_pos c21]), wd_end hP hK hD ht hW9.alike⟩, hS.F ht⟩) hS.2.2 dX9_contactOf_102 hlocks
    · refine lv_lconst (v := 0) hx hb dX9_contactOf_89 (by decide) ?_
      refine lv_goto (tgt := 102) hx hb dX9_contactOf_90 (by decide) ?_
      refine W.widen (k := 0) (n := 0) (Nat.le_of_ble_eq_true rfl) (Nat.le_of_ble_eq_true rfl) ?_
      exact W.lret (v := (0 : Int64)) hx hb hr (fun t ht hW9 => ⟨⟨(0 : Int64), (), rfl, (by show (0 : Int64) = f_X9_contactOf S o1 o2; unfold f_X9_contactOf; rw [if_neg c20, if_neg c21]), wd_end hP hK hD ht hW9.alike⟩, hS.F ht⟩) hS.2.2 dX9_contactOf_102 hlocks
def f_X9_balancedShift_L10 (S : wPS) (o1 : Nat) (o2 : Nat) : Nat → Int32 → Int64 → Int32 → Int32 × Int64 × Int32
  | 0, w10_2, w10_3, w10_5 => (w10_2, w10_3, w10_5)
  | n + 1, w10_2, w10_3, w10_5 => if (100 : Int32) < w10_5 then (w10_2, w10_3, w10_5) else if (f_X2_isGoodAt S o1 (f_X9_nearestToZero w10_5)) = (0 : Int32) then f_X9_balancedShift_L10 S o1 o2 n w10_2 w10_3 (w10_5 + (1 : Int32)) else if (f_X2_isGoodAt S o2 (-(f_X9_nearestToZero w10_5))) = (0 : Int32) then f_X9_balancedShift_L10 S o1 o2 n w10_2 w10_3 (w10_5 + (1 : Int32)) else if (0 : Int32) ≤ (lg_cmp (if 0 < ((f_X2_wayAt S o1 (f_X9_nearestToZero w10_5)) - (f_X2_wayAt S o2 (-(f_X9_nearestToZero w10_5)))) then ((f_X2_wayAt S o1 (f_X9_nearestToZero w10_5)) - (f_X2_wayAt S o2 (-(f_X9_nearestToZero w10_5)))) else -((f_X2_wayAt S o1 (f_X9_nearestToZero w10_5)) - (f_X2_wayAt S o2 (-(f_X9_nearestToZero w10_5))))) w10_3) then f_X9_balancedShift_L10 S o1 o2 n w10_2 w10_3 (w10_5 + (1 : Int32)) else f_X9_balancedShift_L10 S o1 o2 n (f_X9_nearestToZero w10_5) (if 0 < ((f_X2_wayAt S o1 (f_X9_nearestToZero w10_5)) - (f_X2_wayAt S o2 (-(f_X9_nearestToZero w10_5)))) then ((f_X2_wayAt S o1 (f_X9_nearestToZero w10_5)) - (f_X2_wayAt S o2 (-(f_X9_nearestToZero w10_5)))) else -((f_X2_wayAt S o1 (f_X9_nearestToZero w10_5)) - (f_X2_wayAt S o2 (-(f_X9_nearestToZero w10_5))))) (w10_5 + (1 : Int32))
theorem f_X9_balancedShift_L10_s (S : wPS) (o1 : Nat) (o2 : Nat) (n : Nat) (w10_2 : Int32) (w10_3 : Int64) (w10_5 : Int32) : f_X9_balancedShift_L10 S o1 o2 (n + 1) w10_2 w10_3 w10_5 = if (100 : Int32) < w10_5 then (w10_2, w10_3, w10_5) else if (f_X2_isGoodAt S o1 (f_X9_nearestToZero w10_5)) = (0 : Int32) then f_X9_balancedShift_L10 S o1 o2 n w10_2 w10_3 (w10_5 + (1 : Int32)) else if (f_X2_isGoodAt S o2 (-(f_X9_nearestToZero w10_5))) = (0 : Int32) then f_X9_balancedShift_L10 S o1 o2 n w10_2 w10_3 (w10_5 + (1 : Int32)) else if (0 : Int32) ≤ (lg_cmp (if 0 < ((f_X2_wayAt S o1 (f_X9_nearestToZero w10_5)) - (f_X2_wayAt S o2 (-(f_X9_nearestToZero w10_5)))) then ((f_X2_wayAt S o1 (f_X9_nearestToZero w10_5)) - (f_X2_wayAt S o2 (-(f_X9_nearestToZero w10_5)))) else -((f_X2_wayAt S o1 (f_X9_nearestToZero w10_5)) - (f_X2_wayAt S o2 (-(f_X9_nearestToZero w10_5))))) w10_3) then f_X9_balancedShift_L10 S o1 o2 n w10_2 w10_3 (w10_5 + (1 : Int32)) else f_X9_balancedShift_L10 S o1 o2 n (f_X9_nearestToZero w10_5) (if 0 < ((f_X2_wayAt S o1 (f_X9_nearestToZero w10_5)) - (f_X2_wayAt S o2 (-(f_X9_nearestToZero w10_5)))) then ((f_X2_wayAt S o1 (f_X9_nearestToZero w10_5)) - (f_X2_wayAt S o2 (-(f_X9_nearestToZero w10_5)))) else -((f_X2_wayAt S o1 (f_X9_nearestToZero w10_5)) - (f_X2_wayAt S o2 (-(f_X9_nearestToZero w10_5))))) (w10_5 + (1 : Int32)) := rfl
def f_X9_balancedShift (S : wPS) (o1 : Nat) (o2 : Nat) : Int32 := l3 (f_X9_balancedShift_L10 S o1 o2 103 (51 : Int32) (9223372036854775807 : Int64) (0 : Int32)) (fun z24 z25 z26 => z24)
theorem hd_X9_balancedShift : yX9_balancedShift.cls = RX9 ∧ yX9_balancedShift.cls ≠ "java/lang/invoke/MethodHandle" ∧ yX9_balancedShift.cls ≠ "java/lang/invoke/VarHandle" ∧ (parseMethodDescriptor yX9_balancedShift.desc).map (fun d => d.parameters.length) = some 2 := by decide +kernel
set_option maxHeartbeats 4000000 in
set_option maxRecDepth 100000 in
theorem c_X9_balancedShift (l : Launch) {D : va_G} {cy : Nat → ClassId} {X : va_W} (S : wPS) (sz : Nat) (o1 : Nat) (h_o1 : isA S o1 2) (o2 : Nat) (h_o2 : isA S o2 2)  : Met l yX9_balancedShift wsX9_balancedShift ({ frames := 4, cells := 0, slots := 0, locals := 91 }) (va_Pc [.ref o1, .ref o2] (fun U => U.heap.size = sz ∧ WD D cy X (fun _ => True) S U ∧ NW U)) (va_Qi (fun r (_ : Unit) => r = f_X9_balancedShift S o1 o2) (fun _ t => WD D cy X (va_A (X ++ PL cy S) sz) S t) (va_A (X ++ PL cy S) sz)) 0 0 (va_A (X ++ PL cy S) sz) := by
  refine Met.ofW (cc := cX9_balancedShift) (maxL := 9) (ret := (some .int)) (by decide) rfl ?_
  intro p e s m args below meth c s₁ B hml hv
  obtain ⟨rfl, hsz, ⟨hP, hK, hD0⟩, hN⟩ := hv
  have hx := B.exec
  have hb := B.bytes
  have hr := B.returns
  have hts := atoms_spec (ws := wsX9_balancedShift) B.pre
  have hown : s.vm.findClass RX9 = some m.cls := findClass_of_methodNamed (x := yX9_balancedShift) B.named
  have hlocks := B.notSynchronized
  subst hsz
  have hD := hD0.self (sz := s.heap.size)
  generalize hAe : va_A (X ++ PL cy S) s.heap.size = A at hD ⊢
  have hA : ∀ q : Nat, s.heap.size ≤ q → A q := fun q h => by rw [← hAe]; exact Or.inr h
  have hS : va_S A s.heap s.heap [] := va_S.rf
  have hl := lv_entry ([.ref o1, .ref o2]) (n := 9) (Nat.le_of_ble_eq_true rfl)
  rw [lg_entry_eq]
  generalize (lg_sl ([.ref o1, .ref o2]) ++ List.replicate (9 - (lg_sl ([.ref o1, .ref o2])).length) Slot.unset).toArray = ls at hl ⊢
  have hl : lv_has ls 9 [(0, .ref o1), (1, .ref o2)] := hl
  refine lv_bipush (v := 51) hx hb dX9_balancedShift_0 (by decide +kernel) ?_
  refine lv_istore_n (lv' := [(2, .int (51 : Int32)), (0, .ref o1), (1, .ref o2)]) hx hb dX9_balancedShift_2 rfl hl (by decide) rfl (fun ls hl => ?_)
  refine lv_ldc2 (own := RX9) (v := 9223372036854775807) hx hb hown (hts (.constantLong RX9 192 (9223372036854775807)) (by decide +kernel)) dX9_balancedShift_3 ?_
  refine lv_lstore_n (lv' := [(3, .long (9223372036854775807 : Int64)), (2, .int (51 : Int32)), (0, .ref o1), (1, .ref o2)]) hx hb dX9_balancedShift_6 rfl hl (by decide) rfl (fun ls hl => ?_)
  refine lv_iconst (v := 0) hx hb dX9_balancedShift_7 (by decide) ?_
  refine lv_istore (lv' := [(5, .int (0 : Int32)), (3, .long (9223372036854775807 : Int64)), (2, .int (51 : Int32)), (0, .ref o1), (1, .ref o2)]) hx hb dX9_balancedShift_8 hl (by decide) rfl (fun ls hl => ?_)
  have l32_0 : (0 : Int32).toInt = 0 := rfl
  have loop10 : ∀ (n : Nat) (w10_2 : Int32) (w10_3 : Int64) (w10_5 : Int32) (H : Heap) (locs : List Loc) (ls : Array Slot), (102 - w10_5.toInt).toNat < n → 0 ≤ w10_5.toInt ∧ w10_5.toInt ≤ 101 → va_P D vwCl (X ++ PL cy S) H → va_S A s.heap H locs → lv_has ls 9 [(5, .int w10_5), (3, .long w10_3), (2, .int w10_2), (0, .ref o1), (1, .ref o2)] → (∀ (w10_2x : Int32) (w10_3x : Int64) (w10_5x : Int32) (H : Heap) (locs : List Loc) (ls : Array Slot), 0 ≤ w10_5x.toInt ∧ w10_5x.toInt ≤ 101 → va_P D vwCl (X ++ PL cy S) H → va_S A s.heap H locs → lv_has ls 9 [(5, .int w10_5x), (3, .long w10_3x), (2, .int w10_2x), (0, .ref o1), (1, .ref o2)] → f_X9_balancedShift_L10 S o1 o2 n w10_2 w10_3 w10_5 = (w10_2x, w10_3x, w10_5x) → W p l e (headSpec wsX9_balancedShift ({ frames := 4, cells := 0, slots := 0, locals := 91 } : Room)).room s m [.ref o1, .ref o2].toArray below meth c H locs 0 0 (MQ below (va_Qi (fun r (_ : Unit) => r = f_X9_balancedShift S o1 o2) (fun _ t => WD D cy X A S t) A) [.ref o1, .ref o2].toArray s 0 0 A) (F0 m 81 ls [])) → W p l e (headSpec wsX9_balancedShift ({ frames := 4, cells := 0, slots := 0, locals := 91 } : Room)).room s m [.ref o1, .ref o2].toArray below meth c H locs 0 0 (MQ below (va_Qi (fun r (_ : Unit) => r = f_X9_balancedShift S o1 o2) (fun _ t => WD D cy X A S t) A) [.ref o1, .ref o2].toArray s 0 0 A) (F0 m 10 ls []) := by
    intro n10
    induction n10 with
    | zero => intro w10_2 w10_3 w10_5 H locs ls hm; exact absurd hm (Nat.not_lt_zero _)
    | succ n10 ih10 =>
      intro w10_2 w10_3 w10_5 H locs ls hm10 hi10 hP hS hl ko10
      refine lv_iload hx hb dX9_balancedShift_10 (lv_at hl 0 rfl) ?_
      refine lv_bipush (v := 100) hx hb dX9_balancedShift_12 (by decide +kernel) ?_
      refine lv_icmp_gt (tgt := 81) hx hb dX9_balancedShift_14 (by decide) (fun c1 => ?_) (fun c1 => ?_)
      · have c1i : 100 < w10_5.toInt := lt_v rfl rfl c1
        exact ko10 w10_2 w10_3 w10_5 _ _ _ (by omega) hP hS (lv_sub hl [0, 1, 2, 3, 4] rfl) (by rw [f_X9_balancedShift_L10_s, if_pos c1])
      · have c1i : w10_5.toInt ≤ 100 := nlt_v rfl rfl c1
        refine lv_iload hx hb dX9_balancedShift_17 (lv_at hl 0 rfl) ?_
        have hFc := free_all hD hS hA
        refine va_calli (va_runS (As := [.int w10_5]) (rest := []) ⟨hx, hb, hml, hown, hts⟩ (c_X9_nearestToZero l (cy := cy) (X := X) (D := D) S _ w10_5) (cwS 1 hts gX9_balancedShift_X9_nearestToZero rfl rfl rfl hd_X9_nearestToZero ⟨Nat.le_of_ble_eq_true rfl, Nat.le_of_ble_eq_true rfl⟩) (pS hP hK hD hN) rfl rfl hl.1 rfl (lv_room (Nat.le_of_ble_eq_true rfl)) dX9_balancedShift_19 ⟨(Nat.zero_le _), (Nat.zero_le _)⟩) hS (fun q _ h => hFc q h) hFc (fun r2 u t H1 locs ht hvm hw hB hz1 hk1 hS => ?_)
        have c3 := hw
        obtain ⟨hP, hD⟩ := wd_post hFc ht hB
        generalize H1 = H at hP hS ⊢
        obtain rfl : f_X9_nearestToZero w10_5 = r2 := c3.symm
        refine lv_istore (lv' := [(6, .int (f_X9_nearestToZero w10_5)), (5, .int w10_5), (3, .long w10_3), (2, .int w10_2), (0, .ref o1), (1, .ref o2)]) hx hb dX9_balancedShift_22 hl (by decide) rfl (fun ls hl => ?_)
        refine lv_aload_n hx hb dX9_balancedShift_24 rfl (lv_at hl 4 rfl) ?_
        refine lv_iload hx hb dX9_balancedShift_25 (lv_at hl 0 rfl) ?_
        have hFc := free_all hD hS hA
        obtain ⟨k4, gk4, hk4⟩ := wGt (cy := cy) X S h_o1.1 h_o1.2.1
        refine va_calli (va_runV (As := [.int (f_X9_nearestToZero w10_5)]) (rest := []) ⟨hx, hb, hml, hown, hts⟩ (c_X2_isGoodAt l (cy := cy) (X := X) (D := D) S _ o1 h_o1 (f_X9_nearestToZero w10_5)) (cwV 1 hts gX9_balancedShift_X2_isGoodAt rfl rfl rfl hd_X2_isGoodAt ⟨Nat.le_of_ble_eq_true rfl, Nat.le_of_ble_eq_true rfl⟩) (pV (va_recv hK hP (q := (RX2, TX2, 20)) (ci := 6) (q0 := k4) rfl hk4) hP hK hD hN) rfl rfl hl.1 rfl (lv_room (Nat.le_of_ble_eq_true rfl)) dX9_balancedShift_27 ⟨(Nat.zero_le _), (Nat.zero_le _)⟩) hS (fun q _ h => hFc q h) hFc (fun r5 u t H1 locs ht hvm hw hB hz1 hk1 hS => ?_)
        have c6 := hw
        obtain ⟨hP, hD⟩ := wd_post hFc ht hB
        generalize H1 = H at hP hS ⊢
        obtain rfl : f_X2_isGoodAt S o1 (f_X9_nearestToZero w10_5) = r5 := c6.symm
        refine lv_if_eq (tgt := 75) hx hb dX9_balancedShift_30 (by decide) (fun c7 => ?_) (fun c7 => ?_)
        · have c7i : (f_X2_isGoodAt S o1 (f_X9_nearestToZero w10_5)).toInt = 0 := eq_v rfl rfl c7
          refine lv_iinc (v := w10_5 + (1 : Int32)) (lv' := [(5, .int (w10_5 + (1 : Int32))), (6, .int (f_X9_nearestToZero w10_5)), (3, .long w10_3), (2, .int w10_2), (0, .ref o1), (1, .ref o2)]) hx hb dX9_balancedShift_75 hl (k := 1) rfl (by rfl) (by decide) rfl (fun ls hl => ?_)
          refine lv_goto (tgt := 10) hx hb dX9_balancedShift_78 (by decide) ?_
          have l32_1 : (1 : Int32).toInt = 1 := rfl
          have i8 : (w10_5 + (1 : Int32)).toInt = w10_5.toInt + 1 := t_addr (n := 1) rfl (by omega)
          exact ih10 w10_2 w10_3 (w10_5 + (1 : Int32)) _ _ _ (Nat.lt_of_lt_of_le (by omega) (Nat.le_of_lt_succ hm10)) (by omega) hP hS (lv_sub hl [0, 2, 3, 4, 5] rfl) (fun w10_2y w10_3y w10_5y H9 locs9 ls9 i9 P9 S9 l9 hfe => ko10 w10_2y w10_3y w10_5y H9 locs9 ls9 i9 P9 S9 l9 (Eq.trans (by rw [f_X9_balancedShift_L10_s, if_neg c1, if_pos c7]) hfe))
        · have c7i : ¬ (f_X2_isGoodAt S o1 (f_X9_nearestToZero w10_5)).toInt = 0 := neq_v rfl rfl c7
          refine lv_aload_n hx hb dX9_balancedShift_33 rfl (lv_at hl 5 rfl) ?_
          refine lv_iload hx hb dX9_balancedShift_34 (lv_at hl 0 rfl) ?_
          refine lv_ineg hx hb dX9_balancedShift_36 ?_
          have hFc := free_all hD hS hA
          obtain ⟨k9, gk9, hk9⟩ := wGt (cy := cy) X S h_o2.1 h_o2.2.1
          refine va_calli (va_runV (As := [.int (-(f_X9_nearestToZero w10_5))]) (rest := []) ⟨hx, hb, hml, hown, hts⟩ (c_X2_isGoodAt l (cy := cy) (X := X) (D := D) S _ o2 h_o2 (-(f_X9_nearestToZero w10_5))) (cwV 1 hts gX9_balancedShift_X2_isGoodAt rfl rfl rfl hd_X2_isGoodAt ⟨Nat.le_of_ble_eq_true rfl, Nat.le_of_ble_eq_true rfl⟩) (pV (va_recv hK hP (q := (RX2, TX2, 20)) (ci := 6) (q0 := k9) rfl hk9) hP hK hD hN) rfl rfl hl.1 rfl (lv_room (Nat.le_of_ble_eq_true rfl)) dX9_balancedShift_37 ⟨(Nat.zero_le _), (Nat.zero_le _)⟩) hS (fun q _ h => hFc q h) hFc (fun r10 u t H1 locs ht hvm hw hB hz1 hk1 hS => ?_)
          have c11 := hw
          obtain ⟨hP, hD⟩ := wd_post hFc ht hB
          generalize H1 = H at hP hS ⊢
          obtain rfl : f_X2_isGoodAt S o2 (-(f_X9_nearestToZero w10_5)) = r10 := c11.symm
          refine lv_if_eq (tgt := 75) hx hb dX9_balancedShift_40 (by decide) (fun c12 => ?_) (fun c12 => ?_)
          · have c12i : (f_X2_isGoodAt S o2 (-(f_X9_nearestToZero w10_5))).toInt = 0 := eq_v rfl rfl c12
            refine lv_iinc (v := w10_5 + (1 : Int32)) (lv' := [(5, .int (w10_5 + (1 : Int32))), (6, .int (f_X9_nearestToZero w10_5)), (3, .long w10_3), (2, .int w10_2), (0, .ref o1), (1, .ref o2)]) hx hb dX9_balancedShift_75 hl (k := 1) rfl (by rfl) (by decide) rfl (fun ls hl => ?_)
            refine lv_goto (tgt := 10) hx hb dX9_balancedShift_78 (by decide) ?_
            have l32_1 : (1 : Int32).toInt = 1 := rfl
            have i13 : (w10_5 + (1 : Int32)).toInt = w10_5.toInt + 1 := t_addr (n := 1) rfl (by omega)
            exact ih10 w10_2 w10_3 (w10_5 + (1 : Int32)) _ _ _ (Nat.lt_of_lt_of_le (by omega) (Nat.le_of_lt_succ hm10)) (by omega) hP hS (lv_sub hl [0, 2, 3, 4, 5] rfl) (fun w10_2y w10_3y w10_5y H9 locs9 ls9 i9 P9 S9 l9 hfe => ko10 w10_2y w10_3y w10_5y H9 locs9 ls9 i9 P9 S9 l9 (Eq.trans (by rw [f_X9_balancedShift_L10_s, if_neg c1, if_neg c7, if_pos c12]) hfe))
          · have c12i : ¬ (f_X2_isGoodAt S o2 (-(f_X9_nearestToZero w10_5))).toInt = 0 := neq_v rfl rfl c12
            refine lv_aload_n hx hb dX9_balancedShift_43 rfl (lv_at hl 4 rfl) ?_
            refine lv_iload hx hb dX9_balancedShift_44 (lv_at hl 0 rfl) ?_
            have hFc := free_all hD hS hA
            obtain ⟨k14, gk14, hk14⟩ := wGt (cy := cy) X S h_o1.1 h_o1.2.1
            refine va_calll (va_runV (As := [.int (f_X9_nearestToZero w10_5)]) (rest := []) ⟨hx, hb, hml, hown, hts⟩ (c_X2_wayAt l (cy := cy) (X := X) (D := D) S _ o1 h_o1 (f_X9_nearestToZero w10_5)) (cwV 1 hts gX9_balancedShift_X2_wayAt rfl rfl rfl hd_X2_wayAt ⟨Nat.le_of_ble_eq_true rfl, Nat.le_of_ble_eq_true rfl⟩) (pV (va_recv hK hP (q := (RX2, TX2, 20)) (ci := 6) (q0 := k14) rfl hk14) hP hK hD hN) rfl rfl hl.1 rfl (lv_room (Nat.le_of_ble_eq_true rfl)) dX9_balancedShift_46 ⟨(Nat.zero_le _), (Nat.zero_le _)⟩) hS (fun q _ h => hFc q h) hFc (fun r15 u t H1 locs ht hvm hw hB hz1 hk1 hS => ?_)
            have c16 := hw
            obtain ⟨hP, hD⟩ := wd_post hFc ht hB
            generalize H1 = H at hP hS ⊢
            obtain rfl : f_X2_wayAt S o1 (f_X9_nearestToZero w10_5) = r15 := c16.symm
            refine lv_aload_n hx hb dX9_balancedShift_49 rfl (lv_at hl 5 rfl) ?_
            refine lv_iload hx hb dX9_balancedShift_50 (lv_at hl 0 rfl) ?_
            refine lv_ineg hx hb dX9_balancedShift_52 ?_
            have hFc := free_all hD hS hA
            obtain ⟨k17, gk17, hk17⟩ := wGt (cy := cy) X S h_o2.1 h_o2.2.1
            refine va_calll (va_runV (As := [.int (-(f_X9_nearestToZero w10_5))]) (rest := [.long (f_X2_wayAt S o1 (f_X9_nearestToZero w10_5))]) ⟨hx, hb, hml, hown, hts⟩ (c_X2_wayAt l (cy := cy) (X := X) (D := D) S _ o2 h_o2 (-(f_X9_nearestToZero w10_5))) (cwV 1 hts gX9_balancedShift_X2_wayAt rfl rfl rfl hd_X2_wayAt ⟨Nat.le_of_ble_eq_true rfl, Nat.le_of_ble_eq_true rfl⟩) (pV (va_recv hK hP (q := (RX2, TX2, 20)) (ci := 6) (q0 := k17) rfl hk17) hP hK hD hN) rfl rfl hl.1 rfl (lv_room (Nat.le_of_ble_eq_true rfl)) dX9_balancedShift_53 ⟨(Nat.zero_le _), (Nat.zero_le _)⟩) hS (fun q _ h => hFc q h) hFc (fun r18 u t H1 locs ht hvm hw hB hz1 hk1 hS => ?_)
            have c19 := hw
            obtain ⟨hP, hD⟩ := wd_post hFc ht hB
            generalize H1 = H at hP hS ⊢
            obtain rfl : f_X2_wayAt S o2 (-(f_X9_nearestToZero w10_5)) = r18 := c19.symm
            refine lv_lsub hx hb dX9_balancedShift_56 ?_
            refine va_mabs_long hx hb (hml.trans hl.1.symm) hown (hts (.methodLink RX9 140 Lib.MathLoose.abs_long.x) (by decide +kernel)) (hts (.static Lib.MathLoose.abs_long.x) (by decide +kernel)) (hts (.initialized "java/lang/Math") (by decide +kernel)) (hts (.code Lib.MathLoose.abs_long.x Lib.MathLoose.abs_long.code 2 (some .long)) (by decide +kernel)) (Nat.le_of_ble_eq_true rfl) (Nat.le_of_ble_eq_true rfl) (Nat.zero_le _) (Nat.zero_le _) dX9_balancedShift_57 ?_
            refine lv_lstore (lv' := [(7, .long (if 0 < ((f_X2_wayAt S o1 (f_X9_nearestToZero w10_5)) - (f_X2_wayAt S o2 (-(f_X9_nearestToZero w10_5)))) then ((f_X2_wayAt S o1 (f_X9_nearestToZero w10_5)) - (f_X2_wayAt S o2 (-(f_X9_nearestToZero w10_5)))) else -((f_X2_wayAt S o1 (f_X9_nearestToZero w10_5)) - (f_X2_wayAt S o2 (-(f_X9_nearestToZero w10_5)))))), (6, .int (f_X9_nearestToZero w10_5)), (5, .int w10_5), (3, .long w10_3), (2, .int w10_2), (0, .ref o1), (1, .ref o2)]) hx hb dX9_balancedShift_60 hl (by decide) rfl (fun ls hl => ?_)
            refine lv_lload hx hb dX9_balancedShift_62 (lv_at hl 0 rfl) ?_
            refine lv_lload_n hx hb dX9_balancedShift_64 rfl (lv_at hl 3 rfl) ?_
            refine W.lcmp hx hb dX9_balancedShift_65 ?_
            refine lv_if_ge (tgt := 75) hx hb dX9_balancedShift_66 (by decide) (fun c20 => ?_) (fun c20 => ?_)
            · have c20i := lc_ge c20
              refine lv_iinc (v := w10_5 + (1 : Int32)) (lv' := [(5, .int (w10_5 + (1 : Int32))), (7, .long (if 0 < ((f_X2_wayAt S o1 (f_X9_nearestToZero w10_5)) - (f_X2_wayAt S o2 (-(f_X9_nearestToZero w10_5)))) then ((f_X2_wayAt S o1 (f_X9_nearestToZero w10_5)) - (f_X2_wayAt S o2 (-(f_X9_nearestToZero w10_5)))) else -((f_X2_wayAt S o1 (f_X9_nearestToZero w10_5)) - (f_X2_wayAt S o2 (-(f_X9_nearestToZero w10_5)))))), (6, .int (f_X9_nearestToZero w10_5)), (3, .long w10_3), (2, .int w10_2), (0, .ref o1), (1, .ref o2)]) hx hb dX9_balancedShift_75 hl (k := 2) rfl (by rfl) (by decide) rfl (fun ls hl => ?_)
              refine lv_goto (tgt := 10) hx hb dX9_balancedShift_78 (by decide) ?_
              have l32_1 : (1 : Int32).toInt = 1 := rfl
              have i21 : (w10_5 + (1 : Int32)).toInt = w10_5.toInt + 1 := t_addr (n := 1) rfl (by omega)
              exact ih10 w10_2 w10_3 (w10_5 + (1 : Int32)) _ _ _ (Nat.lt_of_lt_of_le (by omega) (Nat.le_of_lt_succ hm10)) (by omega) hP hS (lv_sub hl [0, 3, 4, 5, 6] rfl) (fun w10_2y w10_3y w10_5y H9 locs9 ls9 i9 P9 S9 l9 hfe => ko10 w10_2y w10_3y w10_5y H9 locs9 ls9 i9 P9 S9 l9 (Eq.trans (by rw [f_X9_balancedShift_L10_s, if_neg c1, if_neg c7, if_neg c12, if_pos c20]) hfe))
            · have c20i := lc_nge c20
              refine lv_lload hx hb dX9_balancedShift_69 (lv_at hl 0 rfl) ?_
              refine lv_lstore_n (lv' := [(3, .long (if 0 < ((f_X2_wayAt S o1 (f_X9_nearestToZero w10_5)) - (f_X2_wayAt S o2 (-(f_X9_nearestToZero w10_5)))) then ((f_X2_wayAt S o1 (f_X9_nearestToZero w10_5)) - (f_X2_wayAt S o2 (-(f_X9_nearestToZero w10_5)))) else -((f_X2_wayAt S o1 (f_X9_nearestToZero w10_5)) - (f_X2_wayAt S o2 (-(f_X9_nearestToZero w10_5)))))), (7, .long (if 0 < ((f_X2_wayAt S o1 (f_X9_nearestToZero w10_5)) - (f_X2_wayAt S o2 (-(f_X9_nearestToZero w10_5)))) then ((f_X2_wayAt S o1 (f_X9_nearestToZero w10_5)) - (f_X2_wayAt S o2 (-(f_X9_nearestToZero w10_5)))) else -((f_X2_wayAt S o1 (f_X9_nearestToZero w10_5)) - (f_X2_wayAt S o2 (-(f_X9_nearestToZero w10_5)))))), (6, .int (f_X9_nearestToZero w10_5)), (5, .int w10_5), (2, .int w10_2), (0, .ref o1), (1, .ref o2)]) hx hb dX9_balancedShift_71 rfl hl (by decide) rfl (fun ls hl => ?_)
              refine lv_iload hx hb dX9_balancedShift_72 (lv_at hl 2 rfl) ?_
              refine lv_istore_n (lv' := [(2, .int (f_X9_nearestToZero w10_5)), (3, .long (if 0 < ((f_X2_wayAt S o1 (f_X9_nearestToZero w10_5)) - (f_X2_wayAt S o2 (-(f_X9_nearestToZero w10_5)))) then ((f_X2_wayAt S o1 (f_X9_nearestToZero w10_5)) - (f_X2_wayAt S o2 (-(f_X9_nearestToZero w10_5)))) else -((f_X2_wayAt S o1 (f_X9_nearestToZero w10_5)) - (f_X2_wayAt S o2 (-(f_X9_nearestToZero w10_5)))))), (7, .long (if 0 < ((f_X2_wayAt S o1 (f_X9_nearestToZero w10_5)) - (f_X2_wayAt S o2 (-(f_X9_nearestToZero w10_5)))) then ((f_X2_wayAt S o1 (f_X9_nearestToZero w10_5)) - (f_X2_wayAt S o2 (-(f_X9_nearestToZero w10_5)))) else -((f_X2_wayAt S o1 (f_X9_nearestToZero w10_5)) - (f_X2_wayAt S o2 (-(f_X9_nearestToZero w10_5)))))), (6, .int (f_X9_nearestToZero w10_5)), (5, .int w10_5), (0, .ref o1), (1, .ref o2)]) hx hb dX9_balancedShift_74 rfl hl (by decide) rfl (fun ls hl => ?_)
              refine lv_iinc (v := w10_5 + (1 : Int32)) (lv' := [(5, .int (w10_5 + (1 : Int32))), (2, .int (f_X9_nearestToZero w10_5)), (3, .long (if 0 < ((f_X2_wayAt S o1 (f_X9_nearestToZero w10_5)) - (f_X2_wayAt S o2 (-(f_X9_nearestToZero w10_5)))) then ((f_X2_wayAt S o1 (f_X9_nearestToZero w10_5)) - (f_X2_wayAt S o2 (-(f_X9_nearestToZero w10_5)))) else -((f_X2_wayAt S o1 (f_X9_nearestToZero w10_5)) - (f_X2_wayAt S o2 (-(f_X9_nearestToZero w10_5)))))), (7, .long (if 0 < ((f_X2_wayAt S o1 (f_X9_nearestToZero w10_5)) - (f_X2_wayAt S o2 (-(f_X9_nearestToZero w10_5)))) then ((f_X2_wayAt S o1 (f_X9_nearestToZero w10_5)) - (f_X2_wayAt S o2 (-(f_X9_nearestToZero w10_5)))) else -((f_X2_wayAt S o1 (f_X9_nearestToZero w10_5)) - (f_X2_wayAt S o2 (-(f_X9_nearestToZero w10_5)))))), (6, .int (f_X9_nearestToZero w10_5)), (0, .ref o1), (1, .ref o2)]) hx hb dX9_balancedShift_75 hl (k := 4) rfl (by rfl) (by decide) rfl (fun ls hl => ?_)
              refine lv_goto (tgt := 10) hx hb dX9_balancedShift_78 (by decide) ?_
              have l32_1 : (1 : Int32).toInt = 1 := rfl
              have i22 : (w10_5 + (1 : Int32)).toInt = w10_5.toInt + 1 := t_addr (n := 1) rfl (by omega)
              exact ih10 (f_X9_nearestToZero w10_5) (if 0 < ((f_X2_wayAt S o1 (f_X9_nearestToZero w10_5)) - (f_X2_wayAt S o2 (-(f_X9_nearestToZero w10_5)))) then ((f_X2_wayAt S o1 (f_X9_nearestToZero w10_5)) - (f_X2_wayAt S o2 (-(f_X9_nearestToZero w10_5)))) else -((f_X2_wayAt S o1 (f_X9_nearestToZero w10_5)) - (f_X2_wayAt S o2 (-(f_X9_nearestToZero w10_5))))) (w10_5 + (1 : Int32)) _ _ _ (Nat.lt_of_lt_of_le (by omega) (Nat.le_of_lt_succ hm10)) (by omega) hP hS (lv_sub hl [0, 2, 1, 5, 6] rfl) (fun w10_2y w10_3y w10_5y H9 locs9 ls9 i9 P9 S9 l9 hfe => ko10 w10_2y w10_3y w10_5y H9 locs9 ls9 i9 P9 S9 l9 (Eq.trans (by rw [f_X9_balancedShift_L10_s, if_neg c1, if_neg c7, if_neg c12, if_neg c20]) hfe))
  refine loop10 103 (51 : Int32) (9223372036854775807 : Int64) (0 : Int32) _ _ _ (by omega) (by omega) hP hS (lv_sub hl [0, 1, 2, 3, 4] rfl) (fun z24 z25 z26 H locs ls hi10 hP hS hl c23 => ?_)
  refine lv_iload_n hx hb dX9_balancedShift_81 rfl (lv_at hl 2 rfl) ?_
  refine W.widen (k := 0) (n := 0) (Nat.le_of_ble_eq_true rfl) (Nat.le_of_ble_eq_true rfl) ?_
  exact W.iret (v := z24) hx hb hr (fun t ht hW9 => ⟨⟨z24, (), rfl, (by show z24 = f_X9_balancedShift S o1 o2; unfold f_X9_balancedShift; rw [l3_eq c23]), wd_end hP hK hD ht hW9.alike⟩, hS.F ht⟩) hS.2.2 dX9_balancedShift_82 hlocks
def f_X9_diameter (S : wPS) (o1 : Nat) (x1 : Int32) : Except String Int32 := eB (f_X9_gearAt S o1 x1) (fun r2 => .ok (f_X2_pitchDiameter S r2))
theorem hd_X9_diameter : yX9_diameter.cls = RX9 ∧ yX9_diameter.cls ≠ "java/lang/invoke/MethodHandle" ∧ yX9_diameter.cls ≠ "java/lang/invoke/VarHandle" ∧ (parseMethodDescriptor yX9_diameter.desc).map (fun d => d.parameters.length) = some 1 := by decide +kernel
set_option maxHeartbeats 4000000 in
set_option maxRecDepth 100000 in
theorem c_X9_diameter (l : Launch) (hst : l.stackTraces = false) {D : va_G} {cy : Nat → ClassId} {X : va_W} (S : wPS) (sz : Nat) (o1 : Nat) (h_o1 : isA S o1 9) (x1 : Int32) (hW : wtB S [])  : vx_Met l yX9_diameter wsX9_diameter ({ frames := 7, cells := 1, slots := 6, locals := 103 }) (va_Pc [.ref o1, .int x1] (fun U => U.heap.size = sz ∧ WD D cy X (fun _ => True) S U ∧ NW U ∧ TH (va_A (X ++ PL cy S) sz) U)) (va_Qi (fun r (_ : Unit) => f_X9_diameter S o1 x1 = .ok r) (fun _ t => WD D cy X (va_A (X ++ PL cy S) sz) S t) (va_A (X ++ PL cy S) sz)) (vx_X (fun (_ : Unit) => True) (fun E _ t => f_X9_diameter S o1 x1 = .error E ∧ E ∈ ["java/lang/IndexOutOfBoundsException"] ∧ WD D cy X (va_A (X ++ PL cy S) sz) S t) (va_A (X ++ PL cy S) sz)) 1 6 (va_A (X ++ PL cy S) sz) := by
  refine vx_ofW (cc := cX9_diameter) (maxL := 2) (ret := (some .int)) (by decide) rfl ?_
  intro p e s m args below meth c s₁ B hml hno hv
  obtain ⟨rfl, hsz, ⟨hP, hK, hD0⟩, hN, hTH⟩ := hv
  have hx := B.exec
  have hb := B.bytes
  have hr := B.returns
  have hts := atoms_spec (ws := wsX9_diameter) B.pre
  have hown : s.vm.findClass RX9 = some m.cls := findClass_of_methodNamed (x := yX9_diameter) B.named
  have hlocks := B.notSynchronized
  subst hsz
  have hD := hD0.self (sz := s.heap.size)
  generalize hAe : va_A (X ++ PL cy S) s.heap.size = A at hD hTH ⊢
  have hA : ∀ q : Nat, s.heap.size ≤ q → A q := fun q h => by rw [← hAe]; exact Or.inr h
  have hS : va_S A s.heap s.heap [] := va_S.rf
  have hl := lv_entry ([.ref o1, .int x1]) (n := 2) (Nat.le_of_ble_eq_true rfl)
  rw [lg_entry_eq]
  generalize (lg_sl ([.ref o1, .int x1]) ++ List.replicate (2 - (lg_sl ([.ref o1, .int x1])).length) Slot.unset).toArray = ls at hl ⊢
  have hl : lv_has ls 2 [(0, .ref o1), (1, .int x1)] := hl
  refine lv_aload_n hx hb dX9_diameter_0 rfl (lv_at hl 0 rfl) ?_
  refine lv_iload_n hx hb dX9_diameter_1 rfl (lv_at hl 1 rfl) ?_
  have hFc := free_all hD hS hA
  obtain ⟨k1, gk1, hk1⟩ := wGt (cy := cy) X S h_o1.1 h_o1.2.1
  refine vx_callq (vx_runV (As := [.int x1]) (rest := []) ⟨hx, hb, hml, hown, hts⟩ (c_X9_gearAt l hst (cy := cy) (X := X) (D := D) S _ o1 h_o1 x1 (hW)) (cwV 1 hts gX9_diameter_X9_gearAt rfl rfl rfl hd_X9_gearAt ⟨Nat.le_of_ble_eq_true rfl, Nat.le_of_ble_eq_true rfl⟩) (pVt (va_recv hK hP (q := (RX9, TX9, 11)) (ci := 13) (q0 := k1) rfl hk1) hP hK hD hN hTH hS hFc) rfl rfl hl.1 rfl (lv_room (Nat.le_of_ble_eq_true rfl)) dX9_diameter_2 ⟨Nat.le_of_ble_eq_true rfl, Nat.le_of_ble_eq_true rfl⟩) hS (fun q _ h => hFc q h) hFc (fun q _ h => hFc q h) (fun E ce q9 u t H1 locs ht hvm hw hB hz1 hk1 hS hq9 hce hcl => ?_) (fun r2 u t H1 locs ht hvm hw hB hz1 hk1 hS => ?_)
  · obtain ⟨c3, hEc3, hB2⟩ := hB
    obtain ⟨hP, hD⟩ := wd_post hFc ht hB2
    exact vx_out (fun x h => (hno x h).elim) hlocks hq9 hce hcl (fun t2 ht2 hA2 => ⟨(), trivial, ⟨(by show f_X9_diameter S o1 x1 = .error E; unfold f_X9_diameter; rw [eB_er c3]), (el_in (by decide) hEc3), wd_end hP hK hD ht2 hA2⟩, hS.F ht2⟩) hS.2.2 (Nat.le_of_ble_eq_true rfl) (Nat.le_of_ble_eq_true rfl)
  · obtain ⟨r2, rfl, c4, o5⟩ := hw
    obtain ⟨hP, hD⟩ := wd_post hFc ht hB
    generalize H1 = H at hP hS ⊢
    refine W.eq (g2 := F0 m 5 ls [.ref r2]) rfl ?_
    have hFc := free_all hD hS hA
    obtain ⟨k6, gk6, hk6⟩ := wGt (cy := cy) X S o5.1 o5.2.1
    refine va_calli (va_runV (As := []) (rest := []) ⟨hx, hb, hml, hown, hts⟩ (c_X2_pitchDiameter l (cy := cy) (X := X) (D := D) S _ r2 o5) (cwV 0 hts gX9_diameter_X2_pitchDiameter rfl rfl rfl hd_X2_pitchDiameter ⟨Nat.le_of_ble_eq_true rfl, Nat.le_of_ble_eq_true rfl⟩) (pV (va_recv hK hP (q := (RX2, TX2, 20)) (ci := 6) (q0 := k6) rfl hk6) hP hK hD hN) rfl rfl hl.1 rfl (lv_room (Nat.le_of_ble_eq_true rfl)) dX9_diameter_5 ⟨Nat.le_of_ble_eq_true rfl, Nat.le_of_ble_eq_true rfl⟩) hS (fun q _ h => hFc q h) hFc (fun r7 u t H1 locs ht hvm hw hB hz1 hk1 hS => ?_)
    have c8 := hw
    obtain ⟨hP, hD⟩ := wd_post hFc ht hB
    generalize H1 = H at hP hS ⊢
    obtain rfl : f_X2_pitchDiameter S r2 = r7 := c8.symm
    have i9 := pd_i ((hW.at o5 List.not_mem_nil).to_2 o5.2.1)
    refine vx_ret ?_
    refine W.widen (k := 1) (n := 6) (Nat.le_of_ble_eq_true rfl) (Nat.le_of_ble_eq_true rfl) ?_
    exact W.iret (v := f_X2_pitchDiameter S r2) hx hb hr (fun t ht hW9 => ⟨⟨f_X2_pitchDiameter S r2, (), rfl, (by show f_X9_diameter S o1 x1 = .ok (f_X2_pitchDiameter S r2); unfold f_X9_diameter; rw [eB_ok c4]), wd_end hP hK hD ht hW9.alike⟩, hS.F ht⟩) hS.2.2 dX9_diameter_8 hlocks
def f_X9_tip (S : wPS) (o1 : Nat) (x1 : Int32) : Except String Int32 := eB (f_X9_gearAt S o1 x1) (fun r2 => .ok (f_X2_tipAt S r2 (S.I r2 7)))
theorem hi_X9_tip_X2 : ∀ w ∈ u_ws RX2 TX2 20, w ∈ wsX9_tip := by decide +kernel
theorem hd_X9_tip : yX9_tip.cls = RX9 ∧ yX9_tip.cls ≠ "java/lang/invoke/MethodHandle" ∧ yX9_tip.cls ≠ "java/lang/invoke/VarHandle" ∧ (parseMethodDescriptor yX9_tip.desc).map (fun d => d.parameters.length) = some 1 := by decide +kernel
set_option maxHeartbeats 4000000 in
set_option maxRecDepth 100000 in
theorem c_X9_tip (l : Launch) (hst : l.stackTraces = false) {D : va_G} {cy : Nat → ClassId} {X : va_W} (S : wPS) (sz : Nat) (o1 : Nat) (h_o1 : isA S o1 9) (x1 : Int32) (hW : wtB S [])  : vx_Met l yX9_tip wsX9_tip ({ frames := 7, cells := 1, slots := 6, locals := 103 }) (va_Pc [.ref o1, .int x1] (fun U => U.heap.size = sz ∧ WD D cy X (fun _ => True) S U ∧ NW U ∧ TH (va_A (X ++ PL cy S) sz) U)) (va_Qi (fun r (_ : Unit) => f_X9_tip S o1 x1 = .ok r) (fun _ t => WD D cy X (va_A (X ++ PL cy S) sz) S t) (va_A (X ++ PL cy S) sz)) (vx_X (fun (_ : Unit) => True) (fun E _ t => f_X9_tip S o1 x1 = .error E ∧ E ∈ ["java/lang/IndexOutOfBoundsException"] ∧ WD D cy X (va_A (X ++ PL cy S) sz) S t) (va_A (X ++ PL cy S) sz)) 1 6 (va_A (X ++ PL cy S) sz) := by
  refine vx_ofW (cc := cX9_tip) (maxL := 3) (ret := (some .int)) (by decide) rfl ?_
  intro p e s m args below meth c s₁ B hml hno hv
  obtain ⟨rfl, hsz, ⟨hP, hK, hD0⟩, hN, hTH⟩ := hv
  have hx := B.exec
  have hb := B.bytes
  have hr := B.returns
  have hts := atoms_spec (ws := wsX9_tip) B.pre
  have hown : s.vm.findClass RX9 = some m.cls := findClass_of_methodNamed (x := yX9_tip) B.named
  have hlocks := B.notSynchronized
  subst hsz
  have hD := hD0.self (sz := s.heap.size)
  generalize hAe : va_A (X ++ PL cy S) s.heap.size = A at hD hTH ⊢
  have hA : ∀ q : Nat, s.heap.size ≤ q → A q := fun q h => by rw [← hAe]; exact Or.inr h
  have hS : va_S A s.heap s.heap [] := va_S.rf
  have hl := lv_entry ([.ref o1, .int x1]) (n := 3) (Nat.le_of_ble_eq_true rfl)
  rw [lg_entry_eq]
  generalize (lg_sl ([.ref o1, .int x1]) ++ List.replicate (3 - (lg_sl ([.ref o1, .int x1])).length) Slot.unset).toArray = ls at hl ⊢
  have hl : lv_has ls 3 [(0, .ref o1), (1, .int x1)] := hl
  refine lv_aload_n hx hb dX9_tip_0 rfl (lv_at hl 0 rfl) ?_
  refine lv_iload_n hx hb dX9_tip_1 rfl (lv_at hl 1 rfl) ?_
  have hFc := free_all hD hS hA
  obtain ⟨k1, gk1, hk1⟩ := wGt (cy := cy) X S h_o1.1 h_o1.2.1
  refine vx_callq (vx_runV (As := [.int x1]) (rest := []) ⟨hx, hb, hml, hown, hts⟩ (c_X9_gearAt l hst (cy := cy) (X := X) (D := D) S _ o1 h_o1 x1 (hW)) (cwV 1 hts gX9_tip_X9_gearAt rfl rfl rfl hd_X9_gearAt ⟨Nat.le_of_ble_eq_true rfl, Nat.le_of_ble_eq_true rfl⟩) (pVt (va_recv hK hP (q := (RX9, TX9, 11)) (ci := 13) (q0 := k1) rfl hk1) hP hK hD hN hTH hS hFc) rfl rfl hl.1 rfl (lv_room (Nat.le_of_ble_eq_true rfl)) dX9_tip_2 ⟨Nat.le_of_ble_eq_true rfl, Nat.le_of_ble_eq_true rfl⟩) hS (fun q _ h => hFc q h) hFc (fun q _ h => hFc q h) (fun E ce q9 u t H1 locs ht hvm hw hB hz1 hk1 hS hq9 hce hcl => ?_) (fun r2 u t H1 locs ht hvm hw hB hz1 hk1 hS => ?_)
  · obtain ⟨c3, hEc3, hB2⟩ := hB
    obtain ⟨hP, hD⟩ := wd_post hFc ht hB2
    exact vx_out (fun x h => (hno x h).elim) hlocks hq9 hce hcl (fun t2 ht2 hA2 => ⟨(), trivial, ⟨(by show f_X9_tip S o1 x1 = .error E; unfold f_X9_tip; rw [eB_er c3]), (el_in (by decide) hEc3), wd_end hP hK hD ht2 hA2⟩, hS.F ht2⟩) hS.2.2 (Nat.le_of_ble_eq_true rfl) (Nat.le_of_ble_eq_true rfl)
  · obtain ⟨r2, rfl, c4, o5⟩ := hw
    obtain ⟨hP, hD⟩ := wd_post hFc ht hB
    generalize H1 = H at hP hS ⊢
    refine W.eq (g2 := F0 m 5 ls [.ref r2]) rfl ?_
    refine lv_astore_n (lv' := [(2, .ref r2), (0, .ref o1), (1, .int x1)]) hx hb dX9_tip_5 rfl hl (by decide) rfl (fun ls hl => ?_)
    refine lv_aload_n hx hb dX9_tip_6 rfl (lv_at hl 0 rfl) ?_
    refine lv_aload_n hx hb dX9_tip_7 rfl (lv_at hl 0 rfl) ?_
    obtain ⟨k6, gk6, hk6⟩ := wGt (cy := cy) X S o5.1 o5.2.1
    refine va_get (D := D) (ci := 6) (v := .int (S.I r2 7)) (C := RX2) (T := TX2) (N := 20) hx hb hts hi_X9_tip_X2 hown hK hP k6 hk6 rfl 7 (by decide) (hts (.fieldLink RX9 89 "Hobhouse$Gear" "shift" "I") (by decide +kernel)) (fun _ h9 => h9) rfl dX9_tip_8 ?_
    have hFc := free_all hD hS hA
    obtain ⟨k7, gk7, hk7⟩ := wGt (cy := cy) X S o5.1 o5.2.1
    refine va_calli (va_runV (As := [.int (S.I r2 7)]) (rest := []) ⟨hx, hb, hml, hown, hts⟩ (c_X2_tipAt l (cy := cy) (X := X) (D := D) S _ r2 o5 (S.I r2 7)) (cwV 1 hts gX9_tip_X2_tipAt rfl rfl rfl hd_X2_tipAt ⟨Nat.le_of_ble_eq_true rfl, Nat.le_of_ble_eq_true rfl⟩) (pV (va_recv hK hP (q := (RX2, TX2, 20)) (ci := 6) (q0 := k7) rfl hk7) hP hK hD hN) rfl rfl hl.1 rfl (lv_room (Nat.le_of_ble_eq_true rfl)) dX9_tip_11 ⟨Nat.le_of_ble_eq_true rfl, Nat.le_of_ble_eq_true rfl⟩) hS (fun q _ h => hFc q h) hFc (fun r8 u t H1 locs ht hvm hw hB hz1 hk1 hS => ?_)
    have c9 := hw
    obtain ⟨hP, hD⟩ := wd_post hFc ht hB
    generalize H1 = H at hP hS ⊢
    obtain rfl : f_X2_tipAt S r2 (S.I r2 7) = r8 := c9.symm
    refine vx_ret ?_
    refine W.widen (k := 1) (n := 6) (Nat.le_of_ble_eq_true rfl) (Nat.le_of_ble_eq_true rfl) ?_
    exact W.iret (v := f_X2_tipAt S r2 (S.I r2 7)) hx hb hr (fun t ht hW9 => ⟨⟨f_X2_tipAt S r2 (S.I r2 7), (), rfl, (by show f_X9_tip S o1 x1 = .ok (f_X2_tipAt S r2 (S.I r2 7)); unfold f_X9_tip; rw [eB_ok c4]), wd_end hP hK hD ht hW9.alike⟩, hS.F ht⟩) hS.2.2 dX9_tip_14 hlocks
def f_X9_isUndercut (S : wPS) (o1 : Nat) (x1 : Int32) : Except String Int32 := eB (f_X9_gearAt S o1 x1) (fun r2 => .ok (f_X9_undercuts (S.I r2 1) (S.I r2 7)))
theorem hi_X9_isUndercut_X2 : ∀ w ∈ u_ws RX2 TX2 20, w ∈ wsX9_isUndercut := by decide +kernel
theorem hd_X9_isUndercut : yX9_isUndercut.cls = RX9 ∧ yX9_isUndercut.cls ≠ "java/lang/invoke/MethodHandle" ∧ yX9_isUndercut.cls ≠ "java/lang/invoke/VarHandle" ∧ (parseMethodDescriptor yX9_isUndercut.desc).map (fun d => d.parameters.length) = some 1 := by decide +kernel
set_option maxHeartbeats 4000000 in
set_option maxRecDepth 100000 in
theorem c_X9_isUndercut (l : Launch) (hst : l.stackTraces = false) {D : va_G} {cy : Nat → ClassId} {X : va_W} (S : wPS) (sz : Nat) (o1 : Nat) (h_o1 : isA S o1 9) (x1 : Int32) (hW : wtB S [])  : vx_Met l yX9_isUndercut wsX9_isUndercut ({ frames := 7, cells := 1, slots := 6, locals := 103 }) (va_Pc [.ref o1, .int x1] (fun U => U.heap.size = sz ∧ WD D cy X (fun _ => True) S U ∧ NW U ∧ TH (va_A (X ++ PL cy S) sz) U)) (va_Qi (fun r (_ : Unit) => f_X9_isUndercut S o1 x1 = .ok r) (fun _ t => WD D cy X (va_A (X ++ PL cy S) sz) S t) (va_A (X ++ PL cy S) sz)) (vx_X (fun (_ : Unit) => True) (fun E _ t => f_X9_isUndercut S o1 x1 = .error E ∧ E ∈ ["java/lang/IndexOutOfBoundsException"] ∧ WD D cy X (va_A (X ++ PL cy S) sz) S t) (va_A (X ++ PL cy S) sz)) 1 6 (va_A (X ++ PL cy S) sz) := by
  refine vx_ofW (cc := cX9_isUndercut) (maxL := 3) (ret := (some .boolean)) (by decide) rfl ?_
  intro p e s m args below meth c s₁ B hml hno hv
  obtain ⟨rfl, hsz, ⟨hP, hK, hD0⟩, hN, hTH⟩ := hv
  have hx := B.exec
  have hb := B.bytes
  have hr := B.returns
  have hts := atoms_spec (ws := wsX9_isUndercut) B.pre
  have hown : s.vm.findClass RX9 = some m.cls := findClass_of_methodNamed (x := yX9_isUndercut) B.named
  have hlocks := B.notSynchronized
  subst hsz
  have hD := hD0.self (sz := s.heap.size)
  generalize hAe : va_A (X ++ PL cy S) s.heap.size = A at hD hTH ⊢
  have hA : ∀ q : Nat, s.heap.size ≤ q → A q := fun q h => by rw [← hAe]; exact Or.inr h
  have hS : va_S A s.heap s.heap [] := va_S.rf
  have hl := lv_entry ([.ref o1, .int x1]) (n := 3) (Nat.le_of_ble_eq_true rfl)
  rw [lg_entry_eq]
  generalize (lg_sl ([.ref o1, .int x1]) ++ List.replicate (3 - (lg_sl ([.ref o1, .int x1])).length) Slot.unset).toArray = ls at hl ⊢
  have hl : lv_has ls 3 [(0, .ref o1), (1, .int x1)] := hl
  refine lv_aload_n hx hb dX9_isUndercut_0 rfl (lv_at hl 0 rfl) ?_
  refine lv_iload_n hx hb dX9_isUndercut_1 rfl (lv_at hl 1 rfl) ?_
  have hFc := free_all hD hS hA
  obtain ⟨k1, gk1, hk1⟩ := wGt (cy := cy) X S h_o1.1 h_o1.2.1
  refine vx_callq (vx_runV (As := [.int x1]) (rest := []) ⟨hx, hb, hml, hown, hts⟩ (c_X9_gearAt l hst (cy := cy) (X := X) (D := D) S _ o1 h_o1 x1 (hW)) (cwV 1 hts gX9_isUndercut_X9_gearAt rfl rfl rfl hd_X9_gearAt ⟨Nat.le_of_ble_eq_true rfl, Nat.le_of_ble_eq_true rfl⟩) (pVt (va_recv hK hP (q := (RX9, TX9, 11)) (ci := 13) (q0 := k1) rfl hk1) hP hK hD hN hTH hS hFc) rfl rfl hl.1 rfl (lv_room (Nat.le_of_ble_eq_true rfl)) dX9_isUndercut_2 ⟨Nat.le_of_ble_eq_true rfl, Nat.le_of_ble_eq_true rfl⟩) hS (fun q _ h => hFc q h) hFc (fun q _ h => hFc q h) (fun E ce q9 u t H1 locs ht hvm hw hB hz1 hk1 hS hq9 hce hcl => ?_) (fun r2 u t H1 locs ht hvm hw hB hz1 hk1 hS => ?_)
  · obtain ⟨c3, hEc3, hB2⟩ := hB
    obtain ⟨hP, hD⟩ := wd_post hFc ht hB2
    exact vx_out (fun x h => (hno x h).elim) hlocks hq9 hce hcl (fun t2 ht2 hA2 => ⟨(), trivial, ⟨(by show f_X9_isUndercut S o1 x1 = .error E; unfold f_X9_isUndercut; rw [eB_er c3]), (el_in (by decide) hEc3), wd_end hP hK hD ht2 hA2⟩, hS.F ht2⟩) hS.2.2 (Nat.le_of_ble_eq_true rfl) (Nat.le_of_ble_eq_true rfl)
  · obtain ⟨r2, rfl, c4, o5⟩ := hw
    obtain ⟨hP, hD⟩ := wd_post hFc ht hB
    generalize H1 = H at hP hS ⊢
    refine W.eq (g2 := F0 m 5 ls [.ref r2]) rfl ?_
    refine lv_astore_n (lv' := [(2, .ref r2), (0, .ref o1), (1, .int x1)]) hx hb dX9_isUndercut_5 rfl hl (by decide) rfl (fun ls hl => ?_)
    refine lv_aload_n hx hb dX9_isUndercut_6 rfl (lv_at hl 0 rfl) ?_
    obtain ⟨k6, gk6, hk6⟩ := wGt (cy := cy) X S o5.1 o5.2.1
    have i7 := ((hW.at o5 List.not_mem_nil).to_2 o5.2.1).R1
    refine va_get (D := D) (ci := 6) (v := .int (S.I r2 1)) (C := RX2) (T := TX2) (N := 20) hx hb hts hi_X9_isUndercut_X2 hown hK hP k6 hk6 rfl 1 (by decide) (hts (.fieldLink RX9 100 "Hobhouse$Gear" "teeth" "I") (by decide +kernel)) (fun _ h9 => h9) rfl dX9_isUndercut_7 ?_
    refine lv_aload_n hx hb dX9_isUndercut_10 rfl (lv_at hl 0 rfl) ?_
    obtain ⟨k8, gk8, hk8⟩ := wGt (cy := cy) X S o5.1 o5.2.1
    refine va_get (D := D) (ci := 6) (v := .int (S.I r2 7)) (C := RX2) (T := TX2) (N := 20) hx hb hts hi_X9_isUndercut_X2 hown hK hP k8 hk8 rfl 7 (by decide) (hts (.fieldLink RX9 89 "Hobhouse$Gear" "shift" "I") (by decide +kernel)) (fun _ h9 => h9) rfl dX9_isUndercut_11 ?_
    have hFc := free_all hD hS hA
    refine va_calli (va_runS (As := [.int (S.I r2 1), .int (S.I r2 7)]) (rest := []) ⟨hx, hb, hml, hown, hts⟩ (c_X9_undercuts l (cy := cy) (X := X) (D := D) S _ (S.I r2 1) (S.I r2 7)) (cwS 2 hts gX9_isUndercut_X9_undercuts rfl rfl rfl hd_X9_undercuts ⟨Nat.le_of_ble_eq_true rfl, Nat.le_of_ble_eq_true rfl⟩) (pS hP hK hD hN) rfl rfl hl.1 rfl (lv_room (Nat.le_of_ble_eq_true rfl)) dX9_isUndercut_14 ⟨Nat.le_of_ble_eq_true rfl, Nat.le_of_ble_eq_true rfl⟩) hS (fun q _ h => hFc q h) hFc (fun r9 u t H1 locs ht hvm hw hB hz1 hk1 hS => ?_)
    have c10 := hw
    obtain ⟨hP, hD⟩ := wd_post hFc ht hB
    generalize H1 = H at hP hS ⊢
    obtain rfl : f_X9_undercuts (S.I r2 1) (S.I r2 7) = r9 := c10.symm
    refine vx_ret ?_
    refine W.widen (k := 1) (n := 6) (Nat.le_of_ble_eq_true rfl) (Nat.le_of_ble_eq_true rfl) ?_
    exact W.zret (v := f_X9_undercuts (S.I r2 1) (S.I r2 7)) hx hb hr (f_X9_undercuts_b (S.I r2 1) (S.I r2 7)) (fun t ht hW9 => ⟨⟨f_X9_undercuts (S.I r2 1) (S.I r2 7), (), rfl, (by show f_X9_isUndercut S o1 x1 = .ok (f_X9_undercuts (S.I r2 1) (S.I r2 7)); unfold f_X9_isUndercut; rw [eB_ok c4]), wd_end hP hK hD ht hW9.alike⟩, hS.F ht⟩) hS.2.2 dX9_isUndercut_17 hlocks
def f_X9_isSharp (S : wPS) (o1 : Nat) (x1 : Int32) : Except String Int32 := eB (f_X9_gearAt S o1 x1) (fun r2 => .ok (f_X9_sharpens (S.I r2 1) (S.I r2 7)))
theorem hi_X9_isSharp_X2 : ∀ w ∈ u_ws RX2 TX2 20, w ∈ wsX9_isSharp := by decide +kernel
theorem hd_X9_isSharp : yX9_isSharp.cls = RX9 ∧ yX9_isSharp.cls ≠ "java/lang/invoke/MethodHandle" ∧ yX9_isSharp.cls ≠ "java/lang/invoke/VarHandle" ∧ (parseMethodDescriptor yX9_isSharp.desc).map (fun d => d.parameters.length) = some 1 := by decide +kernel
set_option maxHeartbeats 4000000 in
set_option maxRecDepth 100000 in
theorem c_X9_isSharp (l : Launch) (hst : l.stackTraces = false) {D : va_G} {cy : Nat → ClassId} {X : va_W} (S : wPS) (sz : Nat) (o1 : Nat) (h_o1 : isA S o1 9) (x1 : Int32) (hW : wtB S [])  : vx_Met l yX9_isSharp wsX9_isSharp ({ frames := 7, cells := 1, slots := 6, locals := 103 }) (va_Pc [.ref o1, .int x1] (fun U => U.heap.size = sz ∧ WD D cy X (fun _ => True) S U ∧ NW U ∧ TH (va_A (X ++ PL cy S) sz) U)) (va_Qi (fun r (_ : Unit) => f_X9_isSharp S o1 x1 = .ok r) (fun _ t => WD D cy X (va_A (X ++ PL cy S) sz) S t) (va_A (X ++ PL cy S) sz)) (vx_X (fun (_ : Unit) => True) (fun E _ t => f_X9_isSharp S o1 x1 = .error E ∧ E ∈ ["java/lang/IndexOutOfBoundsException"] ∧ WD D cy X (va_A (X ++ PL cy S) sz) S t) (va_A (X ++ PL cy S) sz)) 1 6 (va_A (X ++ PL cy S) sz) := by
  refine vx_ofW (cc := cX9_isSharp) (maxL := 3) (ret := (some .boolean)) (by decide) rfl ?_
  intro p e s m args below meth c s₁ B hml hno hv
  obtain ⟨rfl, hsz, ⟨hP, hK, hD0⟩, hN, hTH⟩ := hv
  have hx := B.exec
  have hb := B.bytes
  have hr := B.returns
  have hts := atoms_spec (ws := wsX9_isSharp) B.pre
  have hown : s.vm.findClass RX9 = some m.cls := findClass_of_methodNamed (x := yX9_isSharp) B.named
  have hlocks := B.notSynchronized
  subst hsz
  have hD := hD0.self (sz := s.heap.size)
  generalize hAe : va_A (X ++ PL cy S) s.heap.size = A at hD hTH ⊢
  have hA : ∀ q : Nat, s.heap.size ≤ q → A q := fun q h => by rw [← hAe]; exact Or.inr h
  have hS : va_S A s.heap s.heap [] := va_S.rf
  have hl := lv_entry ([.ref o1, .int x1]) (n := 3) (Nat.le_of_ble_eq_true rfl)
  rw [lg_entry_eq]
  generalize (lg_sl ([.ref o1, .int x1]) ++ List.replicate (3 - (lg_sl ([.ref o1, .int x1])).length) Slot.unset).toArray = ls at hl ⊢
  have hl : lv_has ls 3 [(0, .ref o1), (1, .int x1)] := hl
  refine lv_aload_n hx hb dX9_isSharp_0 rfl (lv_at hl 0 rfl) ?_
  refine lv_iload_n hx hb dX9_isSharp_1 rfl (lv_at hl 1 rfl) ?_
  have hFc := free_all hD hS hA
  obtain ⟨k1, gk1, hk1⟩ := wGt (cy := cy) X S h_o1.1 h_o1.2.1
  refine vx_callq (vx_runV (As := [.int x1]) (rest := []) ⟨hx, hb, hml, hown, hts⟩ (c_X9_gearAt l hst (cy := cy) (X := X) (D := D) S _ o1 h_o1 x1 (hW)) (cwV 1 hts gX9_isSharp_X9_gearAt rfl rfl rfl hd_X9_gearAt ⟨Nat.le_of_ble_eq_true rfl, Nat.le_of_ble_eq_true rfl⟩) (pVt (va_recv hK hP (q := (RX9, TX9, 11)) (ci := 13) (q0 := k1) rfl hk1) hP hK hD hN hTH hS hFc) rfl rfl hl.1 rfl (lv_room (Nat.le_of_ble_eq_true rfl)) dX9_isSharp_2 ⟨Nat.le_of_ble_eq_true rfl, Nat.le_of_ble_eq_true rfl⟩) hS (fun q _ h => hFc q h) hFc (fun q _ h => hFc q h) (fun E ce q9 u t H1 locs ht hvm hw hB hz1 hk1 hS hq9 hce hcl => ?_) (fun r2 u t H1 locs ht hvm hw hB hz1 hk1 hS => ?_)
  · obtain ⟨c3, hEc3, hB2⟩ := hB
    obtain ⟨hP, hD⟩ := wd_post hFc ht hB2
    exact vx_out (fun x h => (hno x h).elim) hlocks hq9 hce hcl (fun t2 ht2 hA2 => ⟨(), trivial, ⟨(by show f_X9_isSharp S o1 x1 = .error E; unfold f_X9_isSharp; rw [eB_er c3]), (el_in (by decide) hEc3), wd_end hP hK hD ht2 hA2⟩, hS.F ht2⟩) hS.2.2 (Nat.le_of_ble_eq_true rfl) (Nat.le_of_ble_eq_true rfl)
  · obtain ⟨r2, rfl, c4, o5⟩ := hw
    obtain ⟨hP, hD⟩ := wd_post hFc ht hB
    generalize H1 = H at hP hS ⊢
    refine W.eq (g2 := F0 m 5 ls [.ref r2]) rfl ?_
    refine lv_astore_n (lv' := [(2, .ref r2), (0, .ref o1), (1, .int x1)]) hx hb dX9_isSharp_5 rfl hl (by decide) rfl (fun ls hl => ?_)
    refine lv_aload_n hx hb dX9_isSharp_6 rfl (lv_at hl 0 rfl) ?_
    obtain ⟨k6, gk6, hk6⟩ := wGt (cy := cy) X S o5.1 o5.2.1
    have i7 := ((hW.at o5 List.not_mem_nil).to_2 o5.2.1).R1
    refine va_get (D := D) (ci := 6) (v := .int (S.I r2 1)) (C := RX2) (T := TX2) (N := 20) hx hb hts hi_X9_isSharp_X2 hown hK hP k6 hk6 rfl 1 (by decide) (hts (.fieldLink RX9 100 "Hobhouse$Gear" "teeth" "I") (by decide +kernel)) (fun _ h9 => h9) rfl dX9_isSharp_7 ?_
    refine lv_aload_n hx hb dX9_isSharp_10 rfl (lv_at hl 0 rfl) ?_
    obtain ⟨k8, gk8, hk8⟩ := wGt (cy := cy) X S o5.1 o5.2.1
    refine va_get (D := D) (ci := 6) (v := .int (S.I r2 7)) (C := RX2) (T := TX2) (N := 20) hx hb hts hi_X9_isSharp_X2 hown hK hP k8 hk8 rfl 7 (by decide) (hts (.fieldLink RX9 89 "Hobhouse$Gear" "shift" "I") (by decide +kernel)) (fun _ h9 => h9) rfl dX9_isSharp_11 ?_
    have hFc := free_all hD hS hA
    refine va_calli (va_runS (As := [.int (S.I r2 1), .int (S.I r2 7)]) (rest := []) ⟨hx, hb, hml, hown, hts⟩ (c_X9_sharpens l (cy := cy) (X := X) (D := D) S _ (S.I r2 1) (S.I r2 7)) (cwS 2 hts gX9_isSharp_X9_sharpens rfl rfl rfl hd_X9_sharpens ⟨Nat.le_of_ble_eq_true rfl, Nat.le_of_ble_eq_true rfl⟩) (pS hP hK hD hN) rfl rfl hl.1 rfl (lv_room (Nat.le_of_ble_eq_true rfl)) dX9_isSharp_14 ⟨Nat.le_of_ble_eq_true rfl, Nat.le_of_ble_eq_true rfl⟩) hS (fun q _ h => hFc q h) hFc (fun r9 u t H1 locs ht hvm hw hB hz1 hk1 hS => ?_)
    have c10 := hw
    obtain ⟨hP, hD⟩ := wd_post hFc ht hB
    generalize H1 = H at hP hS ⊢
    obtain rfl : f_X9_sharpens (S.I r2 1) (S.I r2 7) = r9 := c10.symm
    refine vx_ret ?_
    refine W.widen (k := 1) (n := 6) (Nat.le_of_ble_eq_true rfl) (Nat.le_of_ble_eq_true rfl) ?_
    exact W.zret (v := f_X9_sharpens (S.I r2 1) (S.I r2 7)) hx hb hr (f_X9_sharpens_b (S.I r2 1) (S.I r2 7)) (fun t ht hW9 => ⟨⟨f_X9_sharpens (S.I r2 1) (S.I r2 7), (), rfl, (by show f_X9_isSharp S o1 x1 = .ok (f_X9_sharpens (S.I r2 1) (S.I r2 7)); unfold f_X9_isSharp; rw [eB_ok c4]), wd_end hP hK hD ht hW9.alike⟩, hS.F ht⟩) hS.2.2 dX9_isSharp_17 hlocks
def f_X9_caseOf (S : wPS) (o1 : Nat) (x1 : Int32) : Except String Int32 := eB (f_X9_gearAt S o1 x1) (fun r2 => .ok (S.I r2 15))
theorem hi_X9_caseOf_X2 : ∀ w ∈ u_ws RX2 TX2 20, w ∈ wsX9_caseOf := by decide +kernel
theorem hd_X9_caseOf : yX9_caseOf.cls = RX9 ∧ yX9_caseOf.cls ≠ "java/lang/invoke/MethodHandle" ∧ yX9_caseOf.cls ≠ "java/lang/invoke/VarHandle" ∧ (parseMethodDescriptor yX9_caseOf.desc).map (fun d => d.parameters.length) = some 1 := by decide +kernel
set_option maxHeartbeats 4000000 in
set_option maxRecDepth 100000 in
theorem c_X9_caseOf (l : Launch) (hst : l.stackTraces = false) {D : va_G} {cy : Nat → ClassId} {X : va_W} (S : wPS) (sz : Nat) (o1 : Nat) (h_o1 : isA S o1 9) (x1 : Int32) (hW : wtB S [])  : vx_Met l yX9_caseOf wsX9_caseOf ({ frames := 7, cells := 1, slots := 6, locals := 103 }) (va_Pc [.ref o1, .int x1] (fun U => U.heap.size = sz ∧ WD D cy X (fun _ => True) S U ∧ NW U ∧ TH (va_A (X ++ PL cy S) sz) U)) (va_Qi (fun r (_ : Unit) => f_X9_caseOf S o1 x1 = .ok r) (fun _ t => WD D cy X (va_A (X ++ PL cy S) sz) S t) (va_A (X ++ PL cy S) sz)) (vx_X (fun (_ : Unit) => True) (fun E _ t => f_X9_caseOf S o1 x1 = .error E ∧ E ∈ ["java/lang/IndexOutOfBoundsException"] ∧ WD D cy X (va_A (X ++ PL cy S) sz) S t) (va_A (X ++ PL cy S) sz)) 1 6 (va_A (X ++ PL cy S) sz) := by
  refine vx_ofW (cc := cX9_caseOf) (maxL := 2) (ret := (some .int)) (by decide) rfl ?_
  intro p e s m args below meth c s₁ B hml hno hv
  obtain ⟨rfl, hsz, ⟨hP, hK, hD0⟩, hN, hTH⟩ := hv
  have hx := B.exec
  have hb := B.bytes
  have hr := B.returns
  have hts := atoms_spec (ws := wsX9_caseOf) B.pre
  have hown : s.vm.findClass RX9 = some m.cls := findClass_of_methodNamed (x := yX9_caseOf) B.named
  have hlocks := B.notSynchronized
  subst hsz
  have hD := hD0.self (sz := s.heap.size)
  generalize hAe : va_A (X ++ PL cy S) s.heap.size = A at hD hTH ⊢
  have hA : ∀ q : Nat, s.heap.size ≤ q → A q := fun q h => by rw [← hAe]; exact Or.inr h
  have hS : va_S A s.heap s.heap [] := va_S.rf
  have hl := lv_entry ([.ref o1, .int x1]) (n := 2) (Nat.le_of_ble_eq_true rfl)
  rw [lg_entry_eq]
  generalize (lg_sl ([.ref o1, .int x1]) ++ List.replicate (2 - (lg_sl ([.ref o1, .int x1])).length) Slot.unset).toArray = ls at hl ⊢
  have hl : lv_has ls 2 [(0, .ref o1), (1, .int x1)] := hl
  refine lv_aload_n hx hb dX9_caseOf_0 rfl (lv_at hl 0 rfl) ?_
  refine lv_iload_n hx hb dX9_caseOf_1 rfl (lv_at hl 1 rfl) ?_
  have hFc := free_all hD hS hA
  obtain ⟨k1, gk1, hk1⟩ := wGt (cy := cy) X S h_o1.1 h_o1.2.1
  refine vx_callq (vx_runV (As := [.int x1]) (rest := []) ⟨hx, hb, hml, hown, hts⟩ (c_X9_gearAt l hst (cy := cy) (X := X) (D := D) S _ o1 h_o1 x1 (hW)) (cwV 1 hts gX9_caseOf_X9_gearAt rfl rfl rfl hd_X9_gearAt ⟨Nat.le_of_ble_eq_true rfl, Nat.le_of_ble_eq_true rfl⟩) (pVt (va_recv hK hP (q := (RX9, TX9, 11)) (ci := 13) (q0 := k1) rfl hk1) hP hK hD hN hTH hS hFc) rfl rfl hl.1 rfl (lv_room (Nat.le_of_ble_eq_true rfl)) dX9_caseOf_2 ⟨Nat.le_of_ble_eq_true rfl, Nat.le_of_ble_eq_true rfl⟩) hS (fun q _ h => hFc q h) hFc (fun q _ h => hFc q h) (fun E ce q9 u t H1 locs ht hvm hw hB hz1 hk1 hS hq9 hce hcl => ?_) (fun r2 u t H1 locs ht hvm hw hB hz1 hk1 hS => ?_)
  · obtain ⟨c3, hEc3, hB2⟩ := hB
    obtain ⟨hP, hD⟩ := wd_post hFc ht hB2
    exact vx_out (fun x h => (hno x h).elim) hlocks hq9 hce hcl (fun t2 ht2 hA2 => ⟨(), trivial, ⟨(by show f_X9_caseOf S o1 x1 = .error E; unfold f_X9_caseOf; rw [eB_er c3]), (el_in (by decide) hEc3), wd_end hP hK hD ht2 hA2⟩, hS.F ht2⟩) hS.2.2 (Nat.le_of_ble_eq_true rfl) (Nat.le_of_ble_eq_true rfl)
  · obtain ⟨r2, rfl, c4, o5⟩ := hw
    obtain ⟨hP, hD⟩ := wd_post hFc ht hB
    generalize H1 = H at hP hS ⊢
    refine W.eq (g2 := F0 m 5 ls [.ref r2]) rfl ?_
    obtain ⟨k6, gk6, hk6⟩ := wGt (cy := cy) X S o5.1 o5.2.1
    refine va_get (D := D) (ci := 6) (v := .int (S.I r2 15)) (C := RX2) (T := TX2) (N := 20) hx hb hts hi_X9_caseOf_X2 hown hK hP k6 hk6 rfl 15 (by decide) (hts (.fieldLink RX9 321 "Hobhouse$Gear" "caseDepth" "I") (by decide +kernel)) (fun _ h9 => h9) rfl dX9_caseOf_5 ?_
    refine vx_ret ?_
    refine W.widen (k := 1) (n := 6) (Nat.le_of_ble_eq_true rfl) (Nat.le_of_ble_eq_true rfl) ?_
    exact W.iret (v := S.I r2 15) hx hb hr (fun t ht hW9 => ⟨⟨S.I r2 15, (), rfl, (by show f_X9_caseOf S o1 x1 = .ok (S.I r2 15); unfold f_X9_caseOf; rw [eB_ok c4]), wd_end hP hK hD ht hW9.alike⟩, hS.F ht⟩) hS.2.2 dX9_caseOf_8 hlocks
def f_X9_total (S : wPS) (o1 : Nat) (x1 : Int32) : Except String Int32 := eB (f_X9_gearAt S o1 x1) (fun r2 => .ok (S.I (S.f r2 5) 2))
theorem hi_X9_total_X1 : ∀ w ∈ u_ws RX1 TX1 3, w ∈ wsX9_total := by decide +kernel
theorem hi_X9_total_X2 : ∀ w ∈ u_ws RX2 TX2 20, w ∈ wsX9_total := by decide +kernel
theorem hd_X9_total : yX9_total.cls = RX9 ∧ yX9_total.cls ≠ "java/lang/invoke/MethodHandle" ∧ yX9_total.cls ≠ "java/lang/invoke/VarHandle" ∧ (parseMethodDescriptor yX9_total.desc).map (fun d => d.parameters.length) = some 1 := by decide +kernel
set_option maxHeartbeats 4000000 in
set_option maxRecDepth 100000 in
theorem c_X9_total (l : Launch) (hst : l.stackTraces = false) {D : va_G} {cy : Nat → ClassId} {X : va_W} (S : wPS) (sz : Nat) (o1 : Nat) (h_o1 : isA S o1 9) (x1 : Int32) (hW : wtB S [])  : vx_Met l yX9_total wsX9_total ({ frames := 7, cells := 1, slots := 6, locals := 103 }) (va_Pc [.ref o1, .int x1] (fun U => U.heap.size = sz ∧ WD D cy X (fun _ => True) S U ∧ NW U ∧ TH (va_A (X ++ PL cy S) sz) U)) (va_Qi (fun r (_ : Unit) => f_X9_total S o1 x1 = .ok r) (fun _ t => WD D cy X (va_A (X ++ PL cy S) sz) S t) (va_A (X ++ PL cy S) sz)) (vx_X (fun (_ : Unit) => True) (fun E _ t => f_X9_total S o1 x1 = .error E ∧ E ∈ ["java/lang/IndexOutOfBoundsException"] ∧ WD D cy X (va_A (X ++ PL cy S) sz) S t) (va_A (X ++ PL cy S) sz)) 1 6 (va_A (X ++ PL cy S) sz) := by
  refine vx_ofW (cc := cX9_total) (maxL := 2) (ret := (some .int)) (by decide) rfl ?_
  intro p e s m args below meth c s₁ B hml hno hv
  obtain ⟨rfl, hsz, ⟨hP, hK, hD0⟩, hN, hTH⟩ := hv
  have hx := B.exec
  have hb := B.bytes
  have hr := B.returns
  have hts := atoms_spec (ws := wsX9_total) B.pre
  have hown : s.vm.findClass RX9 = some m.cls := findClass_of_methodNamed (x := yX9_total) B.named
  have hlocks := B.notSynchronized
  subst hsz
  have hD := hD0.self (sz := s.heap.size)
  generalize hAe : va_A (X ++ PL cy S) s.heap.size = A at hD hTH ⊢
  have hA : ∀ q : Nat, s.heap.size ≤ q → A q := fun q h => by rw [← hAe]; exact Or.inr h
  have hS : va_S A s.heap s.heap [] := va_S.rf
  have hl := lv_entry ([.ref o1, .int x1]) (n := 2) (Nat.le_of_ble_eq_true rfl)
  rw [lg_entry_eq]
  generalize (lg_sl ([.ref o1, .int x1]) ++ List.replicate (2 - (lg_sl ([.ref o1, .int x1])).length) Slot.unset).toArray = ls at hl ⊢
  have hl : lv_has ls 2 [(0, .ref o1), (1, .int x1)] := hl
  refine lv_aload_n hx hb dX9_total_0 rfl (lv_at hl 0 rfl) ?_
  refine lv_iload_n hx hb dX9_total_1 rfl (lv_at hl 1 rfl) ?_
  have hFc := free_all hD hS hA
  obtain ⟨k1, gk1, hk1⟩ := wGt (cy := cy) X S h_o1.1 h_o1.2.1
  refine vx_callq (vx_runV (As := [.int x1]) (rest := []) ⟨hx, hb, hml, hown, hts⟩ (c_X9_gearAt l hst (cy := cy) (X := X) (D := D) S _ o1 h_o1 x1 (hW)) (cwV 1 hts gX9_total_X9_gearAt rfl rfl rfl hd_X9_gearAt ⟨Nat.le_of_ble_eq_true rfl, Nat.le_of_ble_eq_true rfl⟩) (pVt (va_recv hK hP (q := (RX9, TX9, 11)) (ci := 13) (q0 := k1) rfl hk1) hP hK hD hN hTH hS hFc) rfl rfl hl.1 rfl (lv_room (Nat.le_of_ble_eq_true rfl)) dX9_total_2 ⟨Nat.le_of_ble_eq_true rfl, Nat.le_of_ble_eq_true rfl⟩) hS (fun q _ h => hFc q h) hFc (fun q _ h => hFc q h) (fun E ce q9 u t H1 locs ht hvm hw hB hz1 hk1 hS hq9 hce hcl => ?_) (fun r2 u t H1 locs ht hvm hw hB hz1 hk1 hS => ?_)
  · obtain ⟨c3, hEc3, hB2⟩ := hB
    obtain ⟨hP, hD⟩ := wd_post hFc ht hB2
    exact vx_out (fun x h => (hno x h).elim) hlocks hq9 hce hcl (fun t2 ht2 hA2 => ⟨(), trivial, ⟨(by show f_X9_total S o1 x1 = .error E; unfold f_X9_total; rw [eB_er c3]), (el_in (by decide) hEc3), wd_end hP hK hD ht2 hA2⟩, hS.F ht2⟩) hS.2.2 (Nat.le_of_ble_eq_true rfl) (Nat.le_of_ble_eq_true rfl)
  · obtain ⟨r2, rfl, c4, o5⟩ := hw
    obtain ⟨hP, hD⟩ := wd_post hFc ht hB
    generalize H1 = H at hP hS ⊢
    refine W.eq (g2 := F0 m 5 ls [.ref r2]) rfl ?_
    have F6 := ((hW.at o5 List.not_mem_nil).to_2 o5.2.1).F5
    obtain ⟨k7, gk7, hk7⟩ := wGt (cy := cy) X S o5.1 o5.2.1
    simp only [kE, F6.1] at hk7
    refine va_get (D := D) (ci := 6) (v := .ref (S.f r2 5)) (C := RX2) (T := TX2) (N := 20) hx hb hts hi_X9_total_X2 hown hK hP k7 hk7 rfl 5 (by decide) (hts (.fieldLink RX9 339 "Hobhouse$Gear" "chart" "LHobhouse$Chart;") (by decide +kernel)) (fun _ h9 => h9) rfl dX9_total_5 ?_
    obtain ⟨k8, gk8, hk8⟩ := wGt (cy := cy) X S F6.2.1 F6.2.2.1
    refine va_get (D := D) (ci := 5) (v := .int (S.I (S.f r2 5) 2)) (C := RX1) (T := TX1) (N := 3) hx hb hts hi_X9_total_X1 hown hK hP k8 hk8 rfl 2 (by decide) (hts (.fieldLink RX9 348 "Hobhouse$Chart" "spread" "I") (by decide +kernel)) (fun _ h9 => h9) rfl dX9_total_8 ?_
    refine vx_ret ?_
    refine W.widen (k := 1) (n := 6) (Nat.le_of_ble_eq_true rfl) (Nat.le_of_ble_eq_true rfl) ?_
    exact W.iret (v := S.I (S.f r2 5) 2) hx hb hr (fun t ht hW9 => ⟨⟨S.I (S.f r2 5) 2, (), rfl, (by show f_X9_total S o1 x1 = .ok (S.I (S.f r2 5) 2); unfold f_X9_total; rw [eB_ok c4]), wd_end hP hK hD ht hW9.alike⟩, hS.F ht⟩) hS.2.2 dX9_total_11 hlocks
def f_X9_mate (S : wPS) (o1 : Nat) (x1 : Int32) : Except String Int32 := eB (f_X9_gearAt S o1 x1) (fun r2 => if (S.I r2 19) = (-1 : Int32) then .error "java/util/NoSuchElementException" else .ok (S.I r2 19))
set_option maxRecDepth 20000 in
theorem s_X9_mate_NSEE : ∀ w ∈ (vx_atI RX9 154 "java/util/NoSuchElementException" ["java/lang/RuntimeException", "java/lang/Exception"]).filter goodWord, w ∈ wsX9_mate := fun w h => List.mem_cons_of_mem _ (List.mem_append_left _ (List.mem_append_right _ h))
theorem hi_X9_mate_X2 : ∀ w ∈ u_ws RX2 TX2 20, w ∈ wsX9_mate := by decide +kernel
theorem hd_X9_mate : yX9_mate.cls = RX9 ∧ yX9_mate.cls ≠ "java/lang/invoke/MethodHandle" ∧ yX9_mate.cls ≠ "java/lang/invoke/VarHandle" ∧ (parseMethodDescriptor yX9_mate.desc).map (fun d => d.parameters.length) = some 1 := by decide +kernel
set_option maxHeartbeats 4000000 in
set_option maxRecDepth 100000 in
theorem c_X9_mate (l : Launch) (hst : l.stackTraces = false) {D : va_G} {cy : Nat → ClassId} {X : va_W} (S : wPS) (sz : Nat) (o1 : Nat) (h_o1 : isA S o1 9) (x1 : Int32) (hW : wtB S [])  : vx_Met l yX9_mate wsX9_mate ({ frames := 7, cells := 2, slots := 12, locals := 103 }) (va_Pc [.ref o1, .int x1] (fun U => U.heap.size = sz ∧ WD D cy X (fun _ => True) S U ∧ NW U ∧ TH (va_A (X ++ PL cy S) sz) U)) (va_Qi (fun r (_ : Unit) => f_X9_mate S o1 x1 = .ok r) (fun _ t => WD D cy X (va_A (X ++ PL cy S) sz) S t) (va_A (X ++ PL cy S) sz)) (vx_X (fun (_ : Unit) => True) (fun E _ t => f_X9_mate S o1 x1 = .error E ∧ E ∈ ["java/lang/IndexOutOfBoundsException", "java/util/NoSuchElementException"] ∧ WD D cy X (va_A (X ++ PL cy S) sz) S t) (va_A (X ++ PL cy S) sz)) 2 12 (va_A (X ++ PL cy S) sz) := by
  refine vx_ofW (cc := cX9_mate) (maxL := 3) (ret := (some .int)) (by decide) rfl ?_
  intro p e s m args below meth c s₁ B hml hno hv
  obtain ⟨rfl, hsz, ⟨hP, hK, hD0⟩, hN, hTH⟩ := hv
  have hx := B.exec
  have hb := B.bytes
  have hr := B.returns
  have hts := atoms_spec (ws := wsX9_mate) B.pre
  have hown : s.vm.findClass RX9 = some m.cls := findClass_of_methodNamed (x := yX9_mate) B.named
  have hlocks := B.notSynchronized
  subst hsz
  have hD := hD0.self (sz := s.heap.size)
  generalize hAe : va_A (X ++ PL cy S) s.heap.size = A at hD hTH ⊢
  have hA : ∀ q : Nat, s.heap.size ≤ q → A q := fun q h => by rw [← hAe]; exact Or.inr h
  have hS : va_S A s.heap s.heap [] := va_S.rf
  have hl := lv_entry ([.ref o1, .int x1]) (n := 3) (Nat.le_of_ble_eq_true rfl)
  rw [lg_entry_eq]
  generalize (lg_sl ([.ref o1, .int x1]) ++ List.replicate (3 - (lg_sl ([.ref o1, .int x1])).length) Slot.unset).toArray = ls at hl ⊢
  have hl : lv_has ls 3 [(0, .ref o1), (1, .int x1)] := hl
  refine lv_aload_n hx hb dX9_mate_0 rfl (lv_at hl 0 rfl) ?_
  refine lv_iload_n hx hb dX9_mate_1 rfl (lv_at hl 1 rfl) ?_
  have hFc := free_all hD hS hA
  obtain ⟨k1, gk1, hk1⟩ := wGt (cy := cy) X S h_o1.1 h_o1.2.1
  refine vx_callq (vx_runV (As := [.int x1]) (rest := []) ⟨hx, hb, hml, hown, hts⟩ (c_X9_gearAt l hst (cy := cy) (X := X) (D := D) S _ o1 h_o1 x1 (hW)) (cwV 1 hts gX9_mate_X9_gearAt rfl rfl rfl hd_X9_gearAt ⟨Nat.le_of_ble_eq_true rfl, Nat.le_of_ble_eq_true rfl⟩) (pVt (va_recv hK hP (q := (RX9, TX9, 11)) (ci := 13) (q0 := k1) rfl hk1) hP hK hD hN hTH hS hFc) rfl rfl hl.1 rfl (lv_room (Nat.le_of_ble_eq_true rfl)) dX9_mate_2 ⟨Nat.le_of_ble_eq_true rfl, Nat.le_of_ble_eq_true rfl⟩) hS (fun q _ h => hFc q h) hFc (fun q _ h => hFc q h) (fun E ce q9 u t H1 locs ht hvm hw hB hz1 hk1 hS hq9 hce hcl => ?_) (fun r2 u t H1 locs ht hvm hw hB hz1 hk1 hS => ?_)
  · obtain ⟨c3, hEc3, hB2⟩ := hB
    obtain ⟨hP, hD⟩ := wd_post hFc ht hB2
    exact vx_out (fun x h => (hno x h).elim) hlocks hq9 hce hcl (fun t2 ht2 hA2 => ⟨(), trivial, ⟨(by show f_X9_mate S o1 x1 = .error E; unfold f_X9_mate; rw [eB_er c3]), (el_in (by decide) hEc3), wd_end hP hK hD ht2 hA2⟩, hS.F ht2⟩) hS.2.2 (Nat.le_of_ble_eq_true rfl) (Nat.le_of_ble_eq_true rfl)
  · obtain ⟨r2, rfl, c4, o5⟩ := hw
    obtain ⟨hP, hD⟩ := wd_post hFc ht hB
    generalize H1 = H at hP hS ⊢
    refine W.eq (g2 := F0 m 5 ls [.ref r2]) rfl ?_
    refine lv_astore_n (lv' := [(2, .ref r2), (0, .ref o1), (1, .int x1)]) hx hb dX9_mate_5 rfl hl (by decide) rfl (fun ls hl => ?_)
    refine lv_aload_n hx hb dX9_mate_6 rfl (lv_at hl 0 rfl) ?_
    obtain ⟨k6, gk6, hk6⟩ := wGt (cy := cy) X S o5.1 o5.2.1
    refine va_get (D := D) (ci := 6) (v := .int (S.I r2 19)) (C := RX2) (T := TX2) (N := 20) hx hb hts hi_X9_mate_X2 hown hK hP k6 hk6 rfl 19 (by decide) (hts (.fieldLink RX9 396 "Hobhouse$Gear" "mateNumber" "I") (by decide +kernel)) (fun _ h9 => h9) rfl dX9_mate_7 ?_
    refine lv_iconst (v := -1) hx hb dX9_mate_10 (by decide) ?_
    refine lv_icmp_ne (tgt := 25) hx hb dX9_mate_11 (by decide) (fun c7 => ?_) (fun c7 => ?_)
    · have c7i : ¬ (S.I r2 19).toInt = -1 := neq_v rfl rfl c7
      refine lv_aload_n hx hb dX9_mate_25 rfl (lv_at hl 0 rfl) ?_
      obtain ⟨k8, gk8, hk8⟩ := wGt (cy := cy) X S o5.1 o5.2.1
      refine va_get (D := D) (ci := 6) (v := .int (S.I r2 19)) (C := RX2) (T := TX2) (N := 20) hx hb hts hi_X9_mate_X2 hown hK hP k8 hk8 rfl 19 (by decide) (hts (.fieldLink RX9 396 "Hobhouse$Gear" "mateNumber" "I") (by decide +kernel)) (fun _ h9 => h9) rfl dX9_mate_26 ?_
      refine vx_ret ?_
      refine W.widen (k := 2) (n := 12) (Nat.le_of_ble_eq_true rfl) (Nat.le_of_ble_eq_true rfl) ?_
      exact W.iret (v := S.I r2 19) hx hb hr (fun t ht hW9 => ⟨⟨S.I r2 19, (), rfl, (by show f_X9_mate S o1 x1 = .ok (S.I r2 19); unfold f_X9_mate; rw [eB_ok c4, if_neg c7]), wd_end hP hK hD ht hW9.alike⟩, hS.F ht⟩) hS.2.2 dX9_mate_29 hlocks
    · have c7i : (S.I r2 19).toInt = -1 := eq_v rfl rfl c7
      obtain ⟨sa, hsa⟩ := hTH.2.2 (RX9, 417, "the gear is in no set") (by decide +kernel)
      exact vx_throwIW hx hb hst hown (by decide +kernel) (by decide +kernel) (hts (.classLink RX9 150 "java/util/NoSuchElementException") (by decide +kernel)) (hts (.initialized "java/util/NoSuchElementException") (by decide +kernel)) hsa (th_at (B := exW_X9_NSEE) (fun w h => hts w (s_X9_mate_NSEE w h)) rfl (by simp only [exW, List.mem_append]; intro w h; simp [h]) hTH.2.1) (List.forall_mem_cons.mpr ⟨by decide +kernel, List.forall_mem_cons.mpr ⟨by decide +kernel, exW_X9_NSEE_ok⟩⟩) hTH.1.1 hTH.1.2 hS (hl.1.trans hml.symm) dX9_mate_14 dX9_mate_17 dX9_mate_18 dX9_mate_21 dX9_mate_24 (fun x h => (hno x h).elim) (Nat.le_of_ble_eq_true rfl) (Nat.le_of_ble_eq_true rfl) (Nat.le_of_ble_eq_true rfl) (Nat.le_of_ble_eq_true rfl) hlocks (fun t hA2 h1 h2 => ⟨(), trivial, ⟨(by show f_X9_mate S o1 x1 = .error "java/util/NoSuchElementException"; unfold f_X9_mate; rw [eB_ok c4, if_pos c7]), (by decide), wd_exc hP hK hD hA2 h2⟩, exc_F hS h1 h2⟩) hS.2.2 (Nat.le_of_ble_eq_true rfl) (Nat.le_of_ble_eq_true rfl)
def f_X9_damage (S : wPS) (o1 : Nat) (x1 : Int32) : Except String Int64 := eB (f_X9_gearAt S o1 x1) (fun r2 => .ok (S.J r2 18))
theorem hi_X9_damage_X2 : ∀ w ∈ u_ws RX2 TX2 20, w ∈ wsX9_damage := by decide +kernel
theorem hd_X9_damage : yX9_damage.cls = RX9 ∧ yX9_damage.cls ≠ "java/lang/invoke/MethodHandle" ∧ yX9_damage.cls ≠ "java/lang/invoke/VarHandle" ∧ (parseMethodDescriptor yX9_damage.desc).map (fun d => d.parameters.length) = some 1 := by decide +kernel
set_option maxHeartbeats 4000000 in
set_option maxRecDepth 100000 in
theorem c_X9_damage (l : Launch) (hst : l.stackTraces = false) {D : va_G} {cy : Nat → ClassId} {X : va_W} (S : wPS) (sz : Nat) (o1 : Nat) (h_o1 : isA S o1 9) (x1 : Int32) (hW : wtB S [])  : vx_Met l yX9_damage wsX9_damage ({ frames := 7, cells := 1, slots := 6, locals := 103 }) (va_Pc [.ref o1, .int x1] (fun U => U.heap.size = sz ∧ WD D cy X (fun _ => True) S U ∧ NW U ∧ TH (va_A (X ++ PL cy S) sz) U)) (va_Ql (fun r (_ : Unit) => f_X9_damage S o1 x1 = .ok r) (fun _ t => WD D cy X (va_A (X ++ PL cy S) sz) S t) (va_A (X ++ PL cy S) sz)) (vx_X (fun (_ : Unit) => True) (fun E _ t => f_X9_damage S o1 x1 = .error E ∧ E ∈ ["java/lang/IndexOutOfBoundsException"] ∧ WD D cy X (va_A (X ++ PL cy S) sz) S t) (va_A (X ++ PL cy S) sz)) 1 6 (va_A (X ++ PL cy S) sz) := by
  refine vx_ofW (cc := cX9_damage) (maxL := 2) (ret := (some .long)) (by decide) rfl ?_
  intro p e s m args below meth c s₁ B hml hno hv
  obtain ⟨rfl, hsz, ⟨hP, hK, hD0⟩, hN, hTH⟩ := hv
  have hx := B.exec
  have hb := B.bytes
  have hr := B.returns
  have hts := atoms_spec (ws := wsX9_damage) B.pre
  have hown : s.vm.findClass RX9 = some m.cls := findClass_of_methodNamed (x := yX9_damage) B.named
  have hlocks := B.notSynchronized
  subst hsz
  have hD := hD0.self (sz := s.heap.size)
  generalize hAe : va_A (X ++ PL cy S) s.heap.size = A at hD hTH ⊢
  have hA : ∀ q : Nat, s.heap.size ≤ q → A q := fun q h => by rw [← hAe]; exact Or.inr h
  have hS : va_S A s.heap s.heap [] := va_S.rf
  have hl := lv_entry ([.ref o1, .int x1]) (n := 2) (Nat.le_of_ble_eq_true rfl)
  rw [lg_entry_eq]
  generalize (lg_sl ([.ref o1, .int x1]) ++ List.replicate (2 - (lg_sl ([.ref o1, .int x1])).length) Slot.unset).toArray = ls at hl ⊢
  have hl : lv_has ls 2 [(0, .ref o1), (1, .int x1)] := hl
  refine lv_aload_n hx hb dX9_damage_0 rfl (lv_at hl 0 rfl) ?_
  refine lv_iload_n hx hb dX9_damage_1 rfl (lv_at hl 1 rfl) ?_
  have hFc := free_all hD hS hA
  obtain ⟨k1, gk1, hk1⟩ := wGt (cy := cy) X S h_o1.1 h_o1.2.1
  refine vx_callq (vx_runV (As := [.int x1]) (rest := []) ⟨hx, hb, hml, hown, hts⟩ (c_X9_gearAt l hst (cy := cy) (X := X) (D := D) S _ o1 h_o1 x1 (hW)) (cwV 1 hts gX9_damage_X9_gearAt rfl rfl rfl hd_X9_gearAt ⟨Nat.le_of_ble_eq_true rfl, Nat.le_of_ble_eq_true rfl⟩) (pVt (va_recv hK hP (q := (RX9, TX9, 11)) (ci := 13) (q0 := k1) rfl hk1) hP hK hD hN hTH hS hFc) rfl rfl hl.1 rfl (lv_room (Nat.le_of_ble_eq_true rfl)) dX9_damage_2 ⟨Nat.le_of_ble_eq_true rfl, Nat.le_of_ble_eq_true rfl⟩) hS (fun q _ h => hFc q h) hFc (fun q _ h => hFc q h) (fun E ce q9 u t H1 locs ht hvm hw hB hz1 hk1 hS hq9 hce hcl => ?_) (fun r2 u t H1 locs ht hvm hw hB hz1 hk1 hS => ?_)
  · obtain ⟨c3, hEc3, hB2⟩ := hB
    obtain ⟨hP, hD⟩ := wd_post hFc ht hB2
    exact vx_out (fun x h => (hno x h).elim) hlocks hq9 hce hcl (fun t2 ht2 hA2 => ⟨(), trivial, ⟨(by show f_X9_damage S o1 x1 = .error E; unfold f_X9_damage; rw [eB_er c3]), (el_in (by decide) hEc3), wd_end hP hK hD ht2 hA2⟩, hS.F ht2⟩) hS.2.2 (Nat.le_of_ble_eq_true rfl) (Nat.le_of_ble_eq_true rfl)
  · obtain ⟨r2, rfl, c4, o5⟩ := hw
    obtain ⟨hP, hD⟩ := wd_post hFc ht hB
    generalize H1 = H at hP hS ⊢
    refine W.eq (g2 := F0 m 5 ls [.ref r2]) rfl ?_
    obtain ⟨k6, gk6, hk6⟩ := wGt (cy := cy) X S o5.1 o5.2.1
    refine va_get (D := D) (ci := 6) (v := .long (S.J r2 18)) (C := RX2) (T := TX2) (N := 20) hx hb hts hi_X9_damage_X2 hown hK hP k6 hk6 rfl 18 (by decide) (hts (.fieldLink RX9 387 "Hobhouse$Gear" "hurt" "J") (by decide +kernel)) (fun _ h9 => h9) rfl dX9_damage_5 ?_
    refine vx_ret ?_
    refine W.widen (k := 1) (n := 6) (Nat.le_of_ble_eq_true rfl) (Nat.le_of_ble_eq_true rfl) ?_
    exact W.lret (v := S.J r2 18) hx hb hr (fun t ht hW9 => ⟨⟨S.J r2 18, (), rfl, (by show f_X9_damage S o1 x1 = .ok (S.J r2 18); unfold f_X9_damage; rw [eB_ok c4]), wd_end hP hK hD ht hW9.alike⟩, hS.F ht⟩) hS.2.2 dX9_damage_8 hlocks
def f_X9_stateOf (S : wPS) (o1 : Nat) (x1 : Int32) : Except String Int32 := eB (f_X9_gearAt S o1 x1) (fun r2 => if (f_X2_isBroken S r2) = (0 : Int32) then if (S.I r2 17) = (0 : Int32) then if (S.I r2 16) = (0 : Int32) then if (S.I r2 13) = (0 : Int32) then if (S.I r2 9) = (0 : Int32) then .ok (98 : Int32) else .ok (99 : Int32) else .ok (104 : Int32) else .ok (103 : Int32) else .ok (120 : Int32) else .ok (47 : Int32))
theorem hi_X9_stateOf_X2 : ∀ w ∈ u_ws RX2 TX2 20, w ∈ wsX9_stateOf := by decide +kernel
theorem hd_X9_stateOf : yX9_stateOf.cls = RX9 ∧ yX9_stateOf.cls ≠ "java/lang/invoke/MethodHandle" ∧ yX9_stateOf.cls ≠ "java/lang/invoke/VarHandle" ∧ (parseMethodDescriptor yX9_stateOf.desc).map (fun d => d.parameters.length) = some 1 := by decide +kernel
set_option maxHeartbeats 4000000 in
set_option maxRecDepth 100000 in
theorem c_X9_stateOf (l : Launch) (hst : l.stackTraces = false) {D : va_G} {cy : Nat → ClassId} {X : va_W} (S : wPS) (sz : Nat) (o1 : Nat) (h_o1 : isA S o1 9) (x1 : Int32) (hW : wtB S [])  : vx_Met l yX9_stateOf wsX9_stateOf ({ frames := 7, cells := 1, slots := 6, locals := 103 }) (va_Pc [.ref o1, .int x1] (fun U => U.heap.size = sz ∧ WD D cy X (fun _ => True) S U ∧ NW U ∧ TH (va_A (X ++ PL cy S) sz) U)) (va_Qi (fun r (_ : Unit) => f_X9_stateOf S o1 x1 = .ok r) (fun _ t => WD D cy X (va_A (X ++ PL cy S) sz) S t) (va_A (X ++ PL cy S) sz)) (vx_X (fun (_ : Unit) => True) (fun E _ t => f_X9_stateOf S o1 x1 = .error E ∧ E ∈ ["java/lang/IndexOutOfBoundsException"] ∧ WD D cy X (va_A (X ++ PL cy S) sz) S t) (va_A (X ++ PL cy S) sz)) 1 6 (va_A (X ++ PL cy S) sz) := by
  refine vx_ofW (cc := cX9_stateOf) (maxL := 3) (ret := (some .char)) (by decide) rfl ?_
  intro p e s m args below meth c s₁ B hml hno hv
  obtain ⟨rfl, hsz, ⟨hP, hK, hD0⟩, hN, hTH⟩ := hv
  have hx := B.exec
  have hb := B.bytes
  have hr := B.returns
  have hts := atoms_spec (ws := wsX9_stateOf) B.pre
  have hown : s.vm.findClass RX9 = some m.cls := findClass_of_methodNamed (x := yX9_stateOf) B.named
  have hlocks := B.notSynchronized
  subst hsz
  have hD := hD0.self (sz := s.heap.size)
  generalize hAe : va_A (X ++ PL cy S) s.heap.size = A at hD hTH ⊢
  have hA : ∀ q : Nat, s.heap.size ≤ q → A q := fun q h => by rw [← hAe]; exact Or.inr h
  have hS : va_S A s.heap s.heap [] := va_S.rf
  have hl := lv_entry ([.ref o1, .int x1]) (n := 3) (Nat.le_of_ble_eq_true rfl)
  rw [lg_entry_eq]
  generalize (lg_sl ([.ref o1, .int x1]) ++ List.replicate (3 - (lg_sl ([.ref o1, .int x1])).length) Slot.unset).toArray = ls at hl ⊢
  have hl : lv_has ls 3 [(0, .ref o1), (1, .int x1)] := hl
  refine lv_aload_n hx hb dX9_stateOf_0 rfl (lv_at hl 0 rfl) ?_
  refine lv_iload_n hx hb dX9_stateOf_1 rfl (lv_at hl 1 rfl) ?_
  have hFc := free_all hD hS hA
  obtain ⟨k1, gk1, hk1⟩ := wGt (cy := cy) X S h_o1.1 h_o1.2.1
  refine vx_callq (vx_runV (As := [.int x1]) (rest := []) ⟨hx, hb, hml, hown, hts⟩ (c_X9_gearAt l hst (cy := cy) (X := X) (D := D) S _ o1 h_o1 x1 (hW)) (cwV 1 hts gX9_stateOf_X9_gearAt rfl rfl rfl hd_X9_gearAt ⟨Nat.le_of_ble_eq_true rfl, Nat.le_of_ble_eq_true rfl⟩) (pVt (va_recv hK hP (q := (RX9, TX9, 11)) (ci := 13) (q0 := k1) rfl hk1) hP hK hD hN hTH hS hFc) rfl rfl hl.1 rfl (lv_room (Nat.le_of_ble_eq_true rfl)) dX9_stateOf_2 ⟨Nat.le_of_ble_eq_true rfl, Nat.le_of_ble_eq_true rfl⟩) hS (fun q _ h => hFc q h) hFc (fun q _ h => hFc q h) (fun E ce q9 u t H1 locs ht hvm hw hB hz1 hk1 hS hq9 hce hcl => ?_) (fun r2 u t H1 locs ht hvm hw hB hz1 hk1 hS => ?_)
  · obtain ⟨c3, hEc3, hB2⟩ := hB
    obtain ⟨hP, hD⟩ := wd_post hFc ht hB2
    exact vx_out (fun x h => (hno x h).elim) hlocks hq9 hce hcl (fun t2 ht2 hA2 => ⟨(), trivial, ⟨(by show f_X9_stateOf S o1 x1 = .error E; unfold f_X9_stateOf; rw [eB_er c3]), (el_in (by decide) hEc3), wd_end hP hK hD ht2 hA2⟩, hS.F ht2⟩) hS.2.2 (Nat.le_of_ble_eq_true rfl) (Nat.le_of_ble_eq_true rfl)
  · obtain ⟨r2, rfl, c4, o5⟩ := hw
    obtain ⟨hP, hD⟩ := wd_post hFc ht hB
    generalize H1 = H at hP hS ⊢
    refine W.eq (g2 := F0 m 5 ls [.ref r2]) rfl ?_
    refine lv_astore_n (lv' := [(2, .ref r2), (0, .ref o1), (1, .int x1)]) hx hb dX9_stateOf_5 rfl hl (by decide) rfl (fun ls hl => ?_)
    refine lv_aload_n hx hb dX9_stateOf_6 rfl (lv_at hl 0 rfl) ?_
    have hFc := free_all hD hS hA
    obtain ⟨k6, gk6, hk6⟩ := wGt (cy := cy) X S o5.1 o5.2.1
    refine va_calli (va_runV (As := []) (rest := []) ⟨hx, hb, hml, hown, hts⟩ (c_X2_isBroken l (cy := cy) (X := X) (D := D) S _ r2 o5) (cwV 0 hts gX9_stateOf_X2_isBroken rfl rfl rfl hd_X2_isBroken ⟨Nat.le_of_ble_eq_true rfl, Nat.le_of_ble_eq_true rfl⟩) (pV (va_recv hK hP (q := (RX2, TX2, 20)) (ci := 6) (q0 := k6) rfl hk6) hP hK hD hN) rfl rfl hl.1 rfl (lv_room (Nat.le_of_ble_eq_true rfl)) dX9_stateOf_7 ⟨Nat.le_of_ble_eq_true rfl, Nat.le_of_ble_eq_true rfl⟩) hS (fun q _ h => hFc q h) hFc (fun r7 u t H1 locs ht hvm hw hB hz1 hk1 hS => ?_)
    have c8 := hw
    obtain ⟨hP, hD⟩ := wd_post hFc ht hB
    generalize H1 = H at hP hS ⊢
    obtain rfl : f_X2_isBroken S r2 = r7 := c8.symm
    refine lv_if_eq (tgt := 16) hx hb dX9_stateOf_10 (by decide) (fun c9 => ?_) (fun c9 => ?_)
    · have c9i : (f_X2_isBroken S r2).toInt = 0 := eq_v rfl rfl c9
      refine lv_aload_n hx hb dX9_stateOf_16 rfl (lv_at hl 0 rfl) ?_
      obtain ⟨k10, gk10, hk10⟩ := wGt (cy := cy) X S o5.1 o5.2.1
      have i11 := ((hW.at o5 List.not_mem_nil).to_2 o5.2.1).R17
      refine va_get (D := D) (ci := 6) (v := .int (S.I r2 17)) (C := RX2) (T := TX2) (N := 20) hx hb hts hi_X9_stateOf_X2 hown hK hP k10 hk10 rfl 17 (by decide) (hts (.fieldLink RX9 333 "Hobhouse$Gear" "isScrap" "Z") (by decide +kernel)) (fun _ h9 => h9) rfl dX9_stateOf_17 ?_
      refine lv_if_eq (tgt := 26) hx hb dX9_stateOf_20 (by decide) (fun c12 => ?_) (fun c12 => ?_)
      · have c12i : (S.I r2 17).toInt = 0 := eq_v rfl rfl c12
        refine lv_aload_n hx hb dX9_stateOf_26 rfl (lv_at hl 0 rfl) ?_
        obtain ⟨k13, gk13, hk13⟩ := wGt (cy := cy) X S o5.1 o5.2.1
        have i14 := ((hW.at o5 List.not_mem_nil).to_2 o5.2.1).R16
        refine va_get (D := D) (ci := 6) (v := .int (S.I r2 16)) (C := RX2) (T := TX2) (N := 20) hx hb hts hi_X9_stateOf_X2 hown hK hP k13 hk13 rfl 16 (by decide) (hts (.fieldLink RX9 336 "Hobhouse$Gear" "isGround" "Z") (by decide +kernel)) (fun _ h9 => h9) rfl dX9_stateOf_27 ?_
        refine lv_if_eq (tgt := 36) hx hb dX9_stateOf_30 (by decide) (fun c15 => ?_) (fun c15 => ?_)
        · have c15i : (S.I r2 16).toInt = 0 := eq_v rfl rfl c15
          refine lv_aload_n hx hb dX9_stateOf_36 rfl (lv_at hl 0 rfl) ?_
          obtain ⟨k16, gk16, hk16⟩ := wGt (cy := cy) X S o5.1 o5.2.1
          have i17 := ((hW.at o5 List.not_mem_nil).to_2 o5.2.1).R13
          refine va_get (D := D) (ci := 6) (v := .int (S.I r2 13)) (C := RX2) (T := TX2) (N := 20) hx hb hts hi_X9_stateOf_X2 hown hK hP k16 hk16 rfl 13 (by decide) (hts (.fieldLink RX9 314 "Hobhouse$Gear" "isHardened" "Z") (by decide +kernel)) (fun _ h9 => h9) rfl dX9_stateOf_37 ?_
          refine lv_if_eq (tgt := 46) hx hb dX9_stateOf_40 (by decide) (fun c18 => ?_) (fun c18 => ?_)
          · have c18i : (S.I r2 13).toInt = 0 := eq_v rfl rfl c18
            refine lv_aload_n hx hb dX9_stateOf_46 rfl (lv_at hl 0 rfl) ?_
            obtain ⟨k19, gk19, hk19⟩ := wGt (cy := cy) X S o5.1 o5.2.1
            have i20 := ((hW.at o5 List.not_mem_nil).to_2 o5.2.1).R9
            refine va_get (D := D) (ci := 6) (v := .int (S.I r2 9)) (C := RX2) (T := TX2) (N := 20) hx hb hts hi_X9_stateOf_X2 hown hK hP k19 hk19 rfl 9 (by decide) (hts (.fieldLink RX9 81 "Hobhouse$Gear" "isCut" "Z") (by decide +kernel)) (fun _ h9 => h9) rfl dX9_stateOf_47 ?_
            refine lv_if_eq (tgt := 58) hx hb dX9_stateOf_50 (by decide) (fun c21 => ?_) (fun c21 => ?_)
            · have c21i : (S.I r2 9).toInt = 0 := eq_v rfl rfl c21
              refine lv_bipush (v := 98) hx hb dX9_stateOf_58 (by decide +kernel) ?_
              refine vx_ret ?_
              refine W.widen (k := 1) (n := 6) (Nat.le_of_ble_eq_true rfl) (Nat.le_of_ble_eq_true rfl) ?_
              exact W.zret (v := (98 : Int32)) hx hb hr (by rfl) (fun t ht hW9 => ⟨⟨(98 : Int32), (), rfl, (by show f_X9_stateOf S o1 x1 = .ok (98 : Int32); unfold f_X9_stateOf; rw [eB_ok c4, if_pos c9, if_pos c12, if_pos c15, if_pos c18, if_pos c21]), wd_end hP hK hD ht hW9.alike⟩, hS.F ht⟩) hS.2.2 dX9_stateOf_60 hlocks
            · have c21i : ¬ (S.I r2 9).toInt = 0 := neq_v rfl rfl c21
              refine lv_bipush (v := 99) hx hb dX9_stateOf_53 (by decide +kernel) ?_
              refine lv_goto (tgt := 60) hx hb dX9_stateOf_55 (by decide) ?_
              refine vx_ret ?_
              refine W.widen (k := 1) (n := 6) (Nat.le_of_ble_eq_true rfl) (Nat.le_of_ble_eq_true rfl) ?_
              exact W.zret (v := (99 : Int32)) hx hb hr (by rfl) (fun t ht hW9 => ⟨⟨(99 : Int32), (), rfl, (by show f_X9_stateOf S o1 x1 = .ok (99 : Int32); unfold f_X9_stateOf; rw [eB_ok c4, if_pos c9, if_pos c12, if_pos c15, if_pos c18, if_neg c21]), wd_end hP hK hD ht hW9.alike⟩, hS.F ht⟩) hS.2.2 dX9_stateOf_60 hlocks
          · have c18i : ¬ (S.I r2 13).toInt = 0 := neq_v rfl rfl c18
            refine lv_bipush (v := 104) hx hb dX9_stateOf_43 (by decide +kernel) ?_
            refine vx_ret ?_
            refine W.widen (k := 1) (n := 6) (Nat.le_of_ble_eq_true rfl) (Nat.le_of_ble_eq_true rfl) ?_
            exact W.zret (v := (104 : Int32)) hx hb hr (by rfl) (fun t ht hW9 => ⟨⟨(104 : Int32), (), rfl, (by show f_X9_stateOf S o1 x1 = .ok (104 : Int32); unfold f_X9_stateOf; rw [eB_ok c4, if_pos c9, if_pos c12, if_pos c15, if_neg c18]), wd_end hP hK hD ht hW9.alike⟩, hS.F ht⟩) hS.2.2 dX9_stateOf_45 hlocks
        · have c15i : ¬ (S.I r2 16).toInt = 0 := neq_v rfl rfl c15
          refine lv_bipush (v := 103) hx hb dX9_stateOf_33 (by decide +kernel) ?_
          refine vx_ret ?_
          refine W.widen (k := 1) (n := 6) (Nat.le_of_ble_eq_true rfl) (Nat.le_of_ble_eq_true rfl) ?_
          exact W.zret (v := (103 : Int32)) hx hb hr (by rfl) (fun t ht hW9 => ⟨⟨(103 : Int32), (), rfl, (by show f_X9_stateOf S o1 x1 = .ok (103 : Int32); unfold f_X9_stateOf; rw [eB_ok c4, if_pos c9, if_pos c12, if_neg c15]), wd_end hP hK hD ht hW9.alike⟩, hS.F ht⟩) hS.2.2 dX9_stateOf_35 hlocks
      · have c12i : ¬ (S.I r2 17).toInt = 0 := neq_v rfl rfl c12
        refine lv_bipush (v := 120) hx hb dX9_stateOf_23 (by decide +kernel) ?_
        refine vx_ret ?_
        refine W.widen (k := 1) (n := 6) (Nat.le_of_ble_eq_true rfl) (Nat.le_of_ble_eq_true rfl) ?_
        exact W.zret (v := (120 : Int32)) hx hb hr (by rfl) (fun t ht hW9 => ⟨⟨(120 : Int32), (), rfl, (by show f_X9_stateOf S o1 x1 = .ok (120 : Int32); unfold f_X9_stateOf; rw [eB_ok c4, if_pos c9, if_neg c12]), wd_end hP hK hD ht hW9.alike⟩, hS.F ht⟩) hS.2.2 dX9_stateOf_25 hlocks
    · have c9i : ¬ (f_X2_isBroken S r2).toInt = 0 := neq_v rfl rfl c9
      refine lv_bipush (v := 47) hx hb dX9_stateOf_13 (by decide +kernel) ?_
      refine vx_ret ?_
      refine W.widen (k := 1) (n := 6) (Nat.le_of_ble_eq_true rfl) (Nat.le_of_ble_eq_true rfl) ?_
      exact W.zret (v := (47 : Int32)) hx hb hr (by rfl) (fun t ht hW9 => ⟨⟨(47 : Int32), (), rfl, (by show f_X9_stateOf S o1 x1 = .ok (47 : Int32); unfold f_X9_stateOf; rw [eB_ok c4, if_neg c9]), wd_end hP hK hD ht hW9.alike⟩, hS.F ht⟩) hS.2.2 dX9_stateOf_15 hlocks
def f_X9_isClean (S : wPS) (o1 : Nat) (x1 : Int32) : Except String Int32 := eB (f_X9_gearAt S o1 x1) (fun r2 => eB (f_X9_allowOnly (S.I r2 13)) (fun _ => .ok (S.I r2 14)))
theorem hi_X9_isClean_X2 : ∀ w ∈ u_ws RX2 TX2 20, w ∈ wsX9_isClean := by decide +kernel
theorem hd_X9_isClean : yX9_isClean.cls = RX9 ∧ yX9_isClean.cls ≠ "java/lang/invoke/MethodHandle" ∧ yX9_isClean.cls ≠ "java/lang/invoke/VarHandle" ∧ (parseMethodDescriptor yX9_isClean.desc).map (fun d => d.parameters.length) = some 1 := by decide +kernel
set_option maxHeartbeats 4000000 in
set_option maxRecDepth 100000 in
theorem c_X9_isClean (l : Launch) (hst : l.stackTraces = false) {D : va_G} {cy : Nat → ClassId} {X : va_W} (S : wPS) (sz : Nat) (o1 : Nat) (h_o1 : isA S o1 9) (x1 : Int32) (hW : wtB S [])  : vx_Met l yX9_isClean wsX9_isClean ({ frames := 7, cells := 2, slots := 12, locals := 103 }) (va_Pc [.ref o1, .int x1] (fun U => U.heap.size = sz ∧ WD D cy X (fun _ => True) S U ∧ NW U ∧ TH (va_A (X ++ PL cy S) sz) U)) (va_Qi (fun r (_ : Unit) => f_X9_isClean S o1 x1 = .ok r) (fun _ t => WD D cy X (va_A (X ++ PL cy S) sz) S t) (va_A (X ++ PL cy S) sz)) (vx_X (fun (_ : Unit) => True) (fun E _ t => f_X9_isClean S o1 x1 = .error E ∧ E ∈ ["java/lang/IndexOutOfBoundsException", "java/lang/UnsupportedOperationException"] ∧ WD D cy X (va_A (X ++ PL cy S) sz) S t) (va_A (X ++ PL cy S) sz)) 2 12 (va_A (X ++ PL cy S) sz) := by
  refine vx_ofW (cc := cX9_isClean) (maxL := 3) (ret := (some .boolean)) (by decide) rfl ?_
  intro p e s m args below meth c s₁ B hml hno hv
  obtain ⟨rfl, hsz, ⟨hP, hK, hD0⟩, hN, hTH⟩ := hv
  have hx := B.exec
  have hb := B.bytes
  have hr := B.returns
  have hts := atoms_spec (ws := wsX9_isClean) B.pre
  have hown : s.vm.findClass RX9 = some m.cls := findClass_of_methodNamed (x := yX9_isClean) B.named
  have hlocks := B.notSynchronized
  subst hsz
  have hD := hD0.self (sz := s.heap.size)
  generalize hAe : va_A (X ++ PL cy S) s.heap.size = A at hD hTH ⊢
  have hA : ∀ q : Nat, s.heap.size ≤ q → A q := fun q h => by rw [← hAe]; exact Or.inr h
  have hS : va_S A s.heap s.heap [] := va_S.rf
  have hl := lv_entry ([.ref o1, .int x1]) (n := 3) (Nat.le_of_ble_eq_true rfl)
  rw [lg_entry_eq]
  generalize (lg_sl ([.ref o1, .int x1]) ++ List.replicate (3 - (lg_sl ([.ref o1, .int x1])).length) Slot.unset).toArray = ls at hl ⊢
  have hl : lv_has ls 3 [(0, .ref o1), (1, .int x1)] := hl
  refine lv_aload_n hx hb dX9_isClean_0 rfl (lv_at hl 0 rfl) ?_
  refine lv_iload_n hx hb dX9_isClean_1 rfl (lv_at hl 1 rfl) ?_
  have hFc := free_all hD hS hA
  obtain ⟨k1, gk1, hk1⟩ := wGt (cy := cy) X S h_o1.1 h_o1.2.1
  refine vx_callq (vx_runV (As := [.int x1]) (rest := []) ⟨hx, hb, hml, hown, hts⟩ (c_X9_gearAt l hst (cy := cy) (X := X) (D := D) S _ o1 h_o1 x1 (hW)) (cwV 1 hts gX9_isClean_X9_gearAt rfl rfl rfl hd_X9_gearAt ⟨Nat.le_of_ble_eq_true rfl, Nat.le_of_ble_eq_true rfl⟩) (pVt (va_recv hK hP (q := (RX9, TX9, 11)) (ci := 13) (q0 := k1) rfl hk1) hP hK hD hN hTH hS hFc) rfl rfl hl.1 rfl (lv_room (Nat.le_of_ble_eq_true rfl)) dX9_isClean_2 ⟨Nat.le_of_ble_eq_true rfl, Nat.le_of_ble_eq_true rfl⟩) hS (fun q _ h => hFc q h) hFc (fun q _ h => hFc q h) (fun E ce q9 u t H1 locs ht hvm hw hB hz1 hk1 hS hq9 hce hcl => ?_) (fun r2 u t H1 locs ht hvm hw hB hz1 hk1 hS => ?_)
  · obtain ⟨c3, hEc3, hB2⟩ := hB
    obtain ⟨hP, hD⟩ := wd_post hFc ht hB2
    exact vx_out (fun x h => (hno x h).elim) hlocks hq9 hce hcl (fun t2 ht2 hA2 => ⟨(), trivial, ⟨(by show f_X9_isClean S o1 x1 = .error E; unfold f_X9_isClean; rw [eB_er c3]), (el_in (by decide) hEc3), wd_end hP hK hD ht2 hA2⟩, hS.F ht2⟩) hS.2.2 (Nat.le_of_ble_eq_true rfl) (Nat.le_of_ble_eq_true rfl)
  · obtain ⟨r2, rfl, c4, o5⟩ := hw
    obtain ⟨hP, hD⟩ := wd_post hFc ht hB
    generalize H1 = H at hP hS ⊢
    refine W.eq (g2 := F0 m 5 ls [.ref r2]) rfl ?_
    refine lv_astore_n (lv' := [(2, .ref r2), (0, .ref o1), (1, .int x1)]) hx hb dX9_isClean_5 rfl hl (by decide) rfl (fun ls hl => ?_)
    refine lv_aload_n hx hb dX9_isClean_6 rfl (lv_at hl 0 rfl) ?_
    obtain ⟨k6, gk6, hk6⟩ := wGt (cy := cy) X S o5.1 o5.2.1
    have i7 := ((hW.at o5 List.not_mem_nil).to_2 o5.2.1).R13
    refine va_get (D := D) (ci := 6) (v := .int (S.I r2 13)) (C := RX2) (T := TX2) (N := 20) hx hb hts hi_X9_isClean_X2 hown hK hP k6 hk6 rfl 13 (by decide) (hts (.fieldLink RX9 314 "Hobhouse$Gear" "isHardened" "Z") (by decide +kernel)) (fun _ h9 => h9) rfl dX9_isClean_7 ?_
    have hFc := free_all hD hS hA
    refine vx_callv (vx_runS (As := [.int (S.I r2 13)]) (rest := []) ⟨hx, hb, hml, hown, hts⟩ (c_X9_allowOnly l hst (cy := cy) (X := X) (D := D) S _ (S.I r2 13)) (cwS 1 hts gX9_isClean_X9_allowOnly rfl rfl rfl hd_X9_allowOnly ⟨Nat.le_of_ble_eq_true rfl, Nat.le_of_ble_eq_true rfl⟩) (pSt hP hK hD hN hTH hS hFc) rfl rfl hl.1 rfl (lv_room (Nat.le_of_ble_eq_true rfl)) dX9_isClean_10 ⟨Nat.le_of_ble_eq_true rfl, Nat.le_of_ble_eq_true rfl⟩) hS (fun q _ h => hFc q h) hFc (fun q _ h => hFc q h) (fun E ce q9 u t H1 locs ht hvm hw hB hz1 hk1 hS hq9 hce hcl => ?_) (fun u t H1 locs ht hvm hw hB hz1 hk1 hS => ?_)
    · obtain ⟨c9, hEc9, hB2⟩ := hB
      obtain ⟨hP, hD⟩ := wd_post hFc ht hB2
      exact vx_out (fun x h => (hno x h).elim) hlocks hq9 hce hcl (fun t2 ht2 hA2 => ⟨(), trivial, ⟨(by show f_X9_isClean S o1 x1 = .error E; unfold f_X9_isClean; rw [eB_ok c4, eB_er c9]), (el_in (by decide) hEc9), wd_end hP hK hD ht2 hA2⟩, hS.F ht2⟩) hS.2.2 (Nat.le_of_ble_eq_true rfl) (Nat.le_of_ble_eq_true rfl)
    · have c10 := hw
      obtain ⟨hP, hD⟩ := wd_post hFc ht hB
      generalize H1 = H at hP hS ⊢
      have i11 := ao_i c10
      refine lv_aload_n hx hb dX9_isClean_13 rfl (lv_at hl 0 rfl) ?_
      obtain ⟨k12, gk12, hk12⟩ := wGt (cy := cy) X S o5.1 o5.2.1
      have i13 := ((hW.at o5 List.not_mem_nil).to_2 o5.2.1).R14
      refine va_get (D := D) (ci := 6) (v := .int (S.I r2 14)) (C := RX2) (T := TX2) (N := 20) hx hb hts hi_X9_isClean_X2 hown hK hP k12 hk12 rfl 14 (by decide) (hts (.fieldLink RX9 324 "Hobhouse$Gear" "hadStockEnough" "Z") (by decide +kernel)) (fun _ h9 => h9) rfl dX9_isClean_14 ?_
      refine vx_ret ?_
      refine W.widen (k := 2) (n := 12) (Nat.le_of_ble_eq_true rfl) (Nat.le_of_ble_eq_true rfl) ?_
      exact W.zret (v := S.I r2 14) hx hb hr (nar_z (by omega)) (fun t ht hW9 => ⟨⟨S.I r2 14, (), rfl, (by show f_X9_isClean S o1 x1 = .ok (S.I r2 14); unfold f_X9_isClean; rw [eB_ok c4, eB_ok c10]), wd_end hP hK hD ht hW9.alike⟩, hS.F ht⟩) hS.2.2 dX9_isClean_17 hlocks
def f_X9_doPair (S : wPS) (o1 : Nat) (x1 : Int32) (x2 : Int32) : Except String Int32 := eB (f_X9_gearAt S o1 x1) (fun r2 => eB (f_X9_gearAt S o1 x2) (fun r7 => if (some r2 : Option Nat) = some r7 then .error "java/lang/IllegalArgumentException" else .ok (f_X2_pairsWith S r2 r7)))
set_option maxRecDepth 20000 in
theorem s_X9_doPair_IAE : ∀ w ∈ (vx_atS RX9 114 "java/lang/IllegalArgumentException" ["java/lang/RuntimeException", "java/lang/Exception"]).filter goodWord, w ∈ wsX9_doPair := fun w h => List.mem_cons_of_mem _ (List.mem_append_left _ (List.mem_append_right _ h))
theorem hd_X9_doPair : yX9_doPair.cls = RX9 ∧ yX9_doPair.cls ≠ "java/lang/invoke/MethodHandle" ∧ yX9_doPair.cls ≠ "java/lang/invoke/VarHandle" ∧ (parseMethodDescriptor yX9_doPair.desc).map (fun d => d.parameters.length) = some 2 := by decide +kernel
set_option maxHeartbeats 4000000 in
set_option maxRecDepth 100000 in
theorem c_X9_doPair (l : Launch) (hst : l.stackTraces = false) {D : va_G} {cy : Nat → ClassId} {X : va_W} (S : wPS) (sz : Nat) (o1 : Nat) (h_o1 : isA S o1 9) (x1 : Int32) (x2 : Int32) (hW : wtB S [])  : vx_Met l yX9_doPair wsX9_doPair ({ frames := 7, cells := 3, slots := 18, locals := 103 }) (va_Pc [.ref o1, .int x1, .int x2] (fun U => U.heap.size = sz ∧ WD D cy X (fun _ => True) S U ∧ NW U ∧ TH (va_A (X ++ PL cy S) sz) U)) (va_Qi (fun r (_ : Unit) => f_X9_doPair S o1 x1 x2 = .ok r) (fun _ t => WD D cy X (va_A (X ++ PL cy S) sz) S t) (va_A (X ++ PL cy S) sz)) (vx_X (fun (_ : Unit) => True) (fun E _ t => f_X9_doPair S o1 x1 x2 = .error E ∧ E ∈ ["java/lang/IllegalArgumentException", "java/lang/IndexOutOfBoundsException"] ∧ WD D cy X (va_A (X ++ PL cy S) sz) S t) (va_A (X ++ PL cy S) sz)) 3 18 (va_A (X ++ PL cy S) sz) := by
  refine vx_ofW (cc := cX9_doPair) (maxL := 5) (ret := (some .boolean)) (by decide) rfl ?_
  intro p e s m args below meth c s₁ B hml hno hv
  obtain ⟨rfl, hsz, ⟨hP, hK, hD0⟩, hN, hTH⟩ := hv
  have hx := B.exec
  have hb := B.bytes
  have hr := B.returns
  have hts := atoms_spec (ws := wsX9_doPair) B.pre
  have hown : s.vm.findClass RX9 = some m.cls := findClass_of_methodNamed (x := yX9_doPair) B.named
  have hlocks := B.notSynchronized
  subst hsz
  have hD := hD0.self (sz := s.heap.size)
  generalize hAe : va_A (X ++ PL cy S) s.heap.size = A at hD hTH ⊢
  have hA : ∀ q : Nat, s.heap.size ≤ q → A q := fun q h => by rw [← hAe]; exact Or.inr h
  have hS : va_S A s.heap s.heap [] := va_S.rf
  have hl := lv_entry ([.ref o1, .int x1, .int x2]) (n := 5) (Nat.le_of_ble_eq_true rfl)
  rw [lg_entry_eq]
  generalize (lg_sl ([.ref o1, .int x1, .int x2]) ++ List.replicate (5 - (lg_sl ([.ref o1, .int x1, .int x2])).length) Slot.unset).toArray = ls at hl ⊢
  have hl : lv_has ls 5 [(0, .ref o1), (1, .int x1), (2, .int x2)] := hl
  refine lv_aload_n hx hb dX9_doPair_0 rfl (lv_at hl 0 rfl) ?_
  refine lv_iload_n hx hb dX9_doPair_1 rfl (lv_at hl 1 rfl) ?_
  have hFc := free_all hD hS hA
  obtain ⟨k1, gk1, hk1⟩ := wGt (cy := cy) X S h_o1.1 h_o1.2.1
  refine vx_callq (vx_runV (As := [.int x1]) (rest := []) ⟨hx, hb, hml, hown, hts⟩ (c_X9_gearAt l hst (cy := cy) (X := X) (D := D) S _ o1 h_o1 x1 (hW)) (cwV 1 hts gX9_doPair_X9_gearAt rfl rfl rfl hd_X9_gearAt ⟨Nat.le_of_ble_eq_true rfl, Nat.le_of_ble_eq_true rfl⟩) (pVt (va_recv hK hP (q := (RX9, TX9, 11)) (ci := 13) (q0 := k1) rfl hk1) hP hK hD hN hTH hS hFc) rfl rfl hl.1 rfl (lv_room (Nat.le_of_ble_eq_true rfl)) dX9_doPair_2 ⟨Nat.le_of_ble_eq_true rfl, Nat.le_of_ble_eq_true rfl⟩) hS (fun q _ h => hFc q h) hFc (fun q _ h => hFc q h) (fun E ce q9 u t H1 locs ht hvm hw hB hz1 hk1 hS hq9 hce hcl => ?_) (fun r2 u t H1 locs ht hvm hw hB hz1 hk1 hS => ?_)
  · obtain ⟨c3, hEc3, hB2⟩ := hB
    obtain ⟨hP, hD⟩ := wd_post hFc ht hB2
    exact vx_out (fun x h => (hno x h).elim) hlocks hq9 hce hcl (fun t2 ht2 hA2 => ⟨(), trivial, ⟨(by show f_X9_doPair S o1 x1 x2 = .error E; unfold f_X9_doPair; rw [eB_er c3]), (el_in (by decide) hEc3), wd_end hP hK hD ht2 hA2⟩, hS.F ht2⟩) hS.2.2 (Nat.le_of_ble_eq_true rfl) (Nat.le_of_ble_eq_true rfl)
  · obtain ⟨r2, rfl, c4, o5⟩ := hw
    obtain ⟨hP, hD⟩ := wd_post hFc ht hB
    generalize H1 = H at hP hS ⊢
    refine W.eq (g2 := F0 m 5 ls [.ref r2]) rfl ?_
    refine lv_astore_n (lv' := [(3, .ref r2), (0, .ref o1), (1, .int x1), (2, .int x2)]) hx hb dX9_doPair_5 rfl hl (by decide) rfl (fun ls hl => ?_)
    refine lv_aload_n hx hb dX9_doPair_6 rfl (lv_at hl 1 rfl) ?_
    refine lv_iload_n hx hb dX9_doPair_7 rfl (lv_at hl 3 rfl) ?_
    have hFc := free_all hD hS hA
    obtain ⟨k6, gk6, hk6⟩ := wGt (cy := cy) X S h_o1.1 h_o1.2.1
    refine vx_callq (vx_runV (As := [.int x2]) (rest := []) ⟨hx, hb, hml, hown, hts⟩ (c_X9_gearAt l hst (cy := cy) (X := X) (D := D) S _ o1 h_o1 x2 (hW)) (cwV 1 hts gX9_doPair_X9_gearAt rfl rfl rfl hd_X9_gearAt ⟨Nat.le_of_ble_eq_true rfl, Nat.le_of_ble_eq_true rfl⟩) (pVt (va_recv hK hP (q := (RX9, TX9, 11)) (ci := 13) (q0 := k6) rfl hk6) hP hK hD hN hTH hS hFc) rfl rfl hl.1 rfl (lv_room (Nat.le_of_ble_eq_true rfl)) dX9_doPair_8 ⟨Nat.le_of_ble_eq_true rfl, Nat.le_of_ble_eq_true rfl⟩) hS (fun q _ h => hFc q h) hFc (fun q _ h => hFc q h) (fun E ce q9 u t H1 locs ht hvm hw hB hz1 hk1 hS hq9 hce hcl => ?_) (fun r7 u t H1 locs ht hvm hw hB hz1 hk1 hS => ?_)
    · obtain ⟨c8, hEc8, hB2⟩ := hB
      obtain ⟨hP, hD⟩ := wd_post hFc ht hB2
      exact vx_out (fun x h => (hno x h).elim) hlocks hq9 hce hcl (fun t2 ht2 hA2 => ⟨(), trivial, ⟨(by show f_X9_doPair S o1 x1 x2 = .error E; unfold f_X9_doPair; rw [eB_ok c4, eB_er c8]), (el_in (by decide) hEc8), wd_end hP hK hD ht2 hA2⟩, hS.F ht2⟩) hS.2.2 (Nat.le_of_ble_eq_true rfl) (Nat.le_of_ble_eq_true rfl)
    · obtain ⟨r7, rfl, c9, o10⟩ := hw
      obtain ⟨hP, hD⟩ := wd_post hFc ht hB
      generalize H1 = H at hP hS ⊢
      refine W.eq (g2 := F0 m 11 ls [.ref r7]) rfl ?_
      refine lv_astore (lv' := [(4, .ref r7), (3, .ref r2), (0, .ref o1), (1, .int x1), (2, .int x2)]) hx hb dX9_doPair_11 hl (by decide) rfl (fun ls hl => ?_)
      refine lv_aload_n hx hb dX9_doPair_13 rfl (lv_at hl 1 rfl) ?_
      refine lv_aload hx hb dX9_doPair_14 (lv_at hl 0 rfl) ?_
      refine lv_acmp_ne (rx := some r2) (ry := some r7) (tgt := 29) hx hb dX9_doPair_16 (by decide) (fun c11 => ?_) (fun c11 => ?_)
      · refine lv_aload_n hx hb dX9_doPair_29 rfl (lv_at hl 1 rfl) ?_
        refine lv_aload hx hb dX9_doPair_30 (lv_at hl 0 rfl) ?_
        have hFc := free_all hD hS hA
        obtain ⟨k12, gk12, hk12⟩ := wGt (cy := cy) X S o5.1 o5.2.1
        refine va_calli (va_runV (As := [.ref r7]) (rest := []) ⟨hx, hb, hml, hown, hts⟩ (c_X2_pairsWith l (cy := cy) (X := X) (D := D) S _ r2 o5 r7 o10) (cwV 1 hts gX9_doPair_X2_pairsWith rfl rfl rfl hd_X2_pairsWith ⟨Nat.le_of_ble_eq_true rfl, Nat.le_of_ble_eq_true rfl⟩) (pV (va_recv hK hP (q := (RX2, TX2, 20)) (ci := 6) (q0 := k12) rfl hk12) hP hK hD hN) rfl rfl hl.1 rfl (lv_room (Nat.le_of_ble_eq_true rfl)) dX9_doPair_32 ⟨Nat.le_of_ble_eq_true rfl, Nat.le_of_ble_eq_true rfl⟩) hS (fun q _ h => hFc q h) hFc (fun r13 u t H1 locs ht hvm hw hB hz1 hk1 hS => ?_)
        have c14 := hw
        obtain ⟨hP, hD⟩ := wd_post hFc ht hB
        generalize H1 = H at hP hS ⊢
        obtain rfl : f_X2_pairsWith S r2 r7 = r13 := c14.symm
        refine vx_ret ?_
        refine W.widen (k := 3) (n := 18) (Nat.le_of_ble_eq_true rfl) (Nat.le_of_ble_eq_true rfl) ?_
        exact W.zret (v := f_X2_pairsWith S r2 r7) hx hb hr (f_X2_pairsWith_b S r2 r7) (fun t ht hW9 => ⟨⟨f_X2_pairsWith S r2 r7, (), rfl, (by show f_X9_doPair S o1 x1 x2 = .ok (f_X2_pairsWith S r2 r7); unfold f_X9_doPair; rw [eB_ok c4, eB_ok c9, if_neg c11]), wd_end hP hK hD ht hW9.alike⟩, hS.F ht⟩) hS.2.2 dX9_doPair_35 hlocks
      · obtain ⟨sa, hsa⟩ := hTH.2.2 (RX9, 112, "both gears are the same") (by decide +kernel)
        exact vx_throwS hx hb hst (names := ["java/lang/RuntimeException", "java/lang/Exception"]) hown (by decide +kernel) (by decide +kernel) (hts (.classLink RX9 110 "java/lang/IllegalArgumentException") (by decide +kernel)) (hts (.initialized "java/lang/IllegalArgumentException") (by decide +kernel)) hsa (th_at (B := exW_X9_IAE) (fun w h => hts w (s_X9_doPair_IAE w h)) rfl (by simp only [exW, List.mem_append]; intro w h; simp [h]) hTH.2.1) (List.forall_mem_cons.mpr ⟨by decide +kernel, List.forall_mem_cons.mpr ⟨by decide +kernel, exW_X9_IAE_ok⟩⟩) hTH.1.1 hTH.1.2 hS (hl.1.trans hml.symm) dX9_doPair_19 dX9_doPair_22 dX9_doPair_23 dX9_doPair_25 dX9_doPair_28 (fun x h => (hno x h).elim) (Nat.le_of_ble_eq_true rfl) (Nat.le_of_ble_eq_true rfl) (Nat.le_of_ble_eq_true rfl) (Nat.le_of_ble_eq_true rfl) hlocks (fun t hA2 h1 h2 => ⟨(), trivial, ⟨(by show f_X9_doPair S o1 x1 x2 = .error "java/lang/IllegalArgumentException"; unfold f_X9_doPair; rw [eB_ok c4, eB_ok c9, if_pos c11]), (by decide), wd_exc hP hK hD hA2 h2⟩, exc_F hS h1 h2⟩) hS.2.2 (Nat.le_of_ble_eq_true rfl) (Nat.le_of_ble_eq_true rfl)
def f_X9_fewest_L10 (S : wPS) (o1 : Nat) (x1 : Int32) : Nat → Int32 → Int32
  | 0, w10_2 => w10_2
  | n + 1, w10_2 => if (200 : Int32) ≤ w10_2 then w10_2 else if (f_X9_undercuts w10_2 x1) = (0 : Int32) then w10_2 else f_X9_fewest_L10 S o1 x1 n (w10_2 + (1 : Int32))
theorem f_X9_fewest_L10_s (S : wPS) (o1 : Nat) (x1 : Int32) (n : Nat) (w10_2 : Int32) : f_X9_fewest_L10 S o1 x1 (n + 1) w10_2 = if (200 : Int32) ≤ w10_2 then w10_2 else if (f_X9_undercuts w10_2 x1) = (0 : Int32) then w10_2 else f_X9_fewest_L10 S o1 x1 n (w10_2 + (1 : Int32)) := rfl
def f_X9_fewest (S : wPS) (o1 : Nat) (x1 : Int32) : Except String Int32 := eB (f_X9_needRange x1 (-100 : Int32) (100 : Int32)) (fun _ => l1 (f_X9_fewest_L10 S o1 x1 256 (1 : Int32)) (fun z13 => .ok z13))
theorem hd_X9_fewest : yX9_fewest.cls = RX9 ∧ yX9_fewest.cls ≠ "java/lang/invoke/MethodHandle" ∧ yX9_fewest.cls ≠ "java/lang/invoke/VarHandle" ∧ (parseMethodDescriptor yX9_fewest.desc).map (fun d => d.parameters.length) = some 1 := by decide +kernel
set_option maxHeartbeats 4000000 in
set_option maxRecDepth 100000 in
theorem c_X9_fewest (l : Launch) (hst : l.stackTraces = false) {D : va_G} {cy : Nat → ClassId} {X : va_W} (S : wPS) (sz : Nat) (o1 : Nat) (h_o1 : isA S o1 9) (x1 : Int32) (hW : wtB S [])  : vx_Met l yX9_fewest wsX9_fewest ({ frames := 7, cells := 1, slots := 6, locals := 104 }) (va_Pc [.ref o1, .int x1] (fun U => U.heap.size = sz ∧ WD D cy X (fun _ => True) S U ∧ NW U ∧ TH (va_A (X ++ PL cy S) sz) U)) (va_Qi (fun r (_ : Unit) => f_X9_fewest S o1 x1 = .ok r) (fun _ t => WD D cy X (va_A (X ++ PL cy S) sz) S t) (va_A (X ++ PL cy S) sz)) (vx_X (fun (_ : Unit) => True) (fun E _ t => f_X9_fewest S o1 x1 = .error E ∧ E ∈ ["java/lang/IllegalArgumentException"] ∧ WD D cy X (va_A (X ++ PL cy S) sz) S t) (va_A (X ++ PL cy S) sz)) 1 6 (va_A (X ++ PL cy S) sz) := by
  refine vx_ofW (cc := cX9_fewest) (maxL := 3) (ret := (some .int)) (by decide) rfl ?_
  intro p e s m args below meth c s₁ B hml hno hv
  obtain ⟨rfl, hsz, ⟨hP, hK, hD0⟩, hN, hTH⟩ := hv
  have hx := B.exec
  have hb := B.bytes
  have hr := B.returns
  have hts := atoms_spec (ws := wsX9_fewest) B.pre
  have hown : s.vm.findClass RX9 = some m.cls := findClass_of_methodNamed (x := yX9_fewest) B.named
  have hlocks := B.notSynchronized
  subst hsz
  have hD := hD0.self (sz := s.heap.size)
  generalize hAe : va_A (X ++ PL cy S) s.heap.size = A at hD hTH ⊢
  have hA : ∀ q : Nat, s.heap.size ≤ q → A q := fun q h => by rw [← hAe]; exact Or.inr h
  have hS : va_S A s.heap s.heap [] := va_S.rf
  have hl := lv_entry ([.ref o1, .int x1]) (n := 3) (Nat.le_of_ble_eq_true rfl)
  rw [lg_entry_eq]
  generalize (lg_sl ([.ref o1, .int x1]) ++ List.replicate (3 - (lg_sl ([.ref o1, .int x1])).length) Slot.unset).toArray = ls at hl ⊢
  have hl : lv_has ls 3 [(0, .ref o1), (1, .int x1)] := hl
  refine lv_iload_n hx hb dX9_fewest_0 rfl (lv_at hl 1 rfl) ?_
  refine lv_bipush (v := -100) hx hb dX9_fewest_1 (by decide +kernel) ?_
  refine lv_bipush (v := 100) hx hb dX9_fewest_3 (by decide +kernel) ?_
  have l32_100 : (100 : Int32).toInt = 100 := rfl
  have hFc := free_all hD hS hA
  refine vx_callv (vx_runS (As := [.int x1, .int (-100 : Int32), .int (100 : Int32)]) (rest := []) ⟨hx, hb, hml, hown, hts⟩ (c_X9_needRange l hst (cy := cy) (X := X) (D := D) S _ x1 (-100 : Int32) (100 : Int32)) (cwS 3 hts gX9_fewest_X9_needRange rfl rfl rfl hd_X9_needRange ⟨Nat.le_of_ble_eq_true rfl, Nat.le_of_ble_eq_true rfl⟩) (pSt hP hK hD hN hTH hS hFc) rfl rfl hl.1 rfl (lv_room (Nat.le_of_ble_eq_true rfl)) dX9_fewest_5 ⟨Nat.le_of_ble_eq_true rfl, Nat.le_of_ble_eq_true rfl⟩) hS (fun q _ h => hFc q h) hFc (fun q _ h => hFc q h) (fun E ce q9 u t H1 locs ht hvm hw hB hz1 hk1 hS hq9 hce hcl => ?_) (fun u t H1 locs ht hvm hw hB hz1 hk1 hS => ?_)
  · obtain ⟨c2, hEc2, hB2⟩ := hB
    obtain ⟨hP, hD⟩ := wd_post hFc ht hB2
    exact vx_out (fun x h => (hno x h).elim) hlocks hq9 hce hcl (fun t2 ht2 hA2 => ⟨(), trivial, ⟨(by show f_X9_fewest S o1 x1 = .error E; unfold f_X9_fewest; rw [eB_er c2]), (el_in (by decide) hEc2), wd_end hP hK hD ht2 hA2⟩, hS.F ht2⟩) hS.2.2 (Nat.le_of_ble_eq_true rfl) (Nat.le_of_ble_eq_true rfl)
  · have c3 := hw
    obtain ⟨hP, hD⟩ := wd_post hFc ht hB
    generalize H1 = H at hP hS ⊢
    have i4 := nr_i c3
    have i4l := i4.1
    have i4h := i4.2
    have l5 : (-100 : Int32).toInt = -100 := rfl
    have l6 : (100 : Int32).toInt = 100 := rfl
    refine lv_iconst (v := 1) hx hb dX9_fewest_8 (by decide) ?_
    refine lv_istore_n (lv' := [(2, .int (1 : Int32)), (0, .ref o1), (1, .int x1)]) hx hb dX9_fewest_9 rfl hl (by decide) rfl (fun ls hl => ?_)
    have l32_1 : (1 : Int32).toInt = 1 := rfl
    have loop10 : ∀ (n : Nat) (w10_2 : Int32) (H : Heap) (locs : List Loc) (ls : Array Slot), (200 - w10_2.toInt).toNat < n → 1 ≤ w10_2.toInt ∧ w10_2.toInt ≤ 200 → va_P D vwCl (X ++ PL cy S) H → va_S A s.heap H locs → lv_has ls 3 [(2, .int w10_2), (0, .ref o1), (1, .int x1)] → (∀ (w10_2x : Int32) (H : Heap) (locs : List Loc) (ls : Array Slot), 1 ≤ w10_2x.toInt ∧ w10_2x.toInt ≤ 200 → va_P D vwCl (X ++ PL cy S) H → va_S A s.heap H locs → lv_has ls 3 [(2, .int w10_2x), (0, .ref o1), (1, .int x1)] → f_X9_fewest_L10 S o1 x1 n w10_2 = w10_2x → W p l e (headSpec wsX9_fewest ({ frames := 7, cells := 1, slots := 6, locals := 104 } : Room)).room s m [.ref o1, .int x1].toArray below meth c H locs 1 6 (vx_MQ below (va_Qi (fun r (_ : Unit) => f_X9_fewest S o1 x1 = .ok r) (fun _ t => WD D cy X A S t) A) (vx_X (fun (_ : Unit) => True) (fun E _ t => f_X9_fewest S o1 x1 = .error E ∧ E ∈ ["java/lang/IllegalArgumentException"] ∧ WD D cy X A S t) A) [.ref o1, .int x1].toArray s 1 6 A) (F0 m 31 ls [])) → W p l e (headSpec wsX9_fewest ({ frames := 7, cells := 1, slots := 6, locals := 104 } : Room)).room s m [.ref o1, .int x1].toArray below meth c H locs 1 6 (vx_MQ below (va_Qi (fun r (_ : Unit) => f_X9_fewest S o1 x1 = .ok r) (fun _ t => WD D cy X A S t) A) (vx_X (fun (_ : Unit) => True) (fun E _ t => f_X9_fewest S o1 x1 = .error E ∧ E ∈ ["java/lang/IllegalArgumentException"] ∧ WD D cy X A S t) A) [.ref o1, .int x1].toArray s 1 6 A) (F0 m 10 ls []) := by
      intro n10
      induction n10 with
      | zero => intro w10_2 H locs ls hm; exact absurd hm (Nat.not_lt_zero _)
      | succ n10 ih10 =>
        intro w10_2 H locs ls hm10 hi10 hP hS hl ko10
        refine lv_iload_n hx hb dX9_fewest_10 rfl (lv_at hl 0 rfl) ?_
        refine lv_sipush (v := 200) hx hb dX9_fewest_11 (by decide +kernel) ?_
        refine lv_icmp_ge (tgt := 31) hx hb dX9_fewest_14 (by decide) (fun c7 => ?_) (fun c7 => ?_)
        · have c7i : 200 ≤ w10_2.toInt := le_v rfl rfl c7
          exact ko10 w10_2 _ _ _ (by omega) hP hS (lv_sub hl [0, 1, 2] rfl) (by rw [f_X9_fewest_L10_s, if_pos c7])
        · have c7i : w10_2.toInt < 200 := nle_v rfl rfl c7
          refine lv_iload_n hx hb dX9_fewest_17 rfl (lv_at hl 0 rfl) ?_
          refine lv_iload_n hx hb dX9_fewest_18 rfl (lv_at hl 2 rfl) ?_
          have hFc := free_all hD hS hA
          refine va_calli (va_runS (As := [.int w10_2, .int x1]) (rest := []) ⟨hx, hb, hml, hown, hts⟩ (c_X9_undercuts l (cy := cy) (X := X) (D := D) S _ w10_2 x1) (cwS 2 hts gX9_fewest_X9_undercuts rfl rfl rfl hd_X9_undercuts ⟨Nat.le_of_ble_eq_true rfl, Nat.le_of_ble_eq_true rfl⟩) (pS hP hK hD hN) rfl rfl hl.1 rfl (lv_room (Nat.le_of_ble_eq_true rfl)) dX9_fewest_19 ⟨Nat.le_of_ble_eq_true rfl, Nat.le_of_ble_eq_true rfl⟩) hS (fun q _ h => hFc q h) hFc (fun r8 u t H1 locs ht hvm hw hB hz1 hk1 hS => ?_)
          have c9 := hw
          obtain ⟨hP, hD⟩ := wd_post hFc ht hB
          generalize H1 = H at hP hS ⊢
          obtain rfl : f_X9_undercuts w10_2 x1 = r8 := c9.symm
          refine lv_if_eq (tgt := 31) hx hb dX9_fewest_22 (by decide) (fun c10 => ?_) (fun c10 => ?_)
          · have c10i : (f_X9_undercuts w10_2 x1).toInt = 0 := eq_v rfl rfl c10
            exact ko10 w10_2 _ _ _ (by omega) hP hS (lv_sub hl [0, 1, 2] rfl) (by rw [f_X9_fewest_L10_s, if_neg c7, if_pos c10])
          · have c10i : ¬ (f_X9_undercuts w10_2 x1).toInt = 0 := neq_v rfl rfl c10
            refine lv_iinc (v := w10_2 + (1 : Int32)) (lv' := [(2, .int (w10_2 + (1 : Int32))), (0, .ref o1), (1, .int x1)]) hx hb dX9_fewest_25 hl (k := 0) rfl (by rfl) (by decide) rfl (fun ls hl => ?_)
            refine lv_goto (tgt := 10) hx hb dX9_fewest_28 (by decide) ?_
            have i11 : (w10_2 + (1 : Int32)).toInt = w10_2.toInt + 1 := t_addr (n := 1) rfl (by omega)
            exact ih10 (w10_2 + (1 : Int32)) _ _ _ (Nat.lt_of_lt_of_le (by omega) (Nat.le_of_lt_succ hm10)) (by omega) hP hS (lv_sub hl [0, 1, 2] rfl) (fun w10_2y H9 locs9 ls9 i9 P9 S9 l9 hfe => ko10 w10_2y H9 locs9 ls9 i9 P9 S9 l9 (Eq.trans (by rw [f_X9_fewest_L10_s, if_neg c7, if_neg c10]) hfe))
    refine loop10 256 (1 : Int32) _ _ _ (by omega) (by omega) hP hS (lv_sub hl [0, 1, 2] rfl) (fun z13 H locs ls hi10 hP hS hl c12 => ?_)
    refine lv_iload_n hx hb dX9_fewest_31 rfl (lv_at hl 0 rfl) ?_
    refine vx_ret ?_
    refine W.widen (k := 1) (n := 6) (Nat.le_of_ble_eq_true rfl) (Nat.le_of_ble_eq_true rfl) ?_
    exact W.iret (v := z13) hx hb hr (fun t ht hW9 => ⟨⟨z13, (), rfl, (by show f_X9_fewest S o1 x1 = .ok z13; unfold f_X9_fewest; rw [eB_ok c3, l1_eq c12]), wd_end hP hK hD ht hW9.alike⟩, hS.F ht⟩) hS.2.2 dX9_fewest_32 hlocks
