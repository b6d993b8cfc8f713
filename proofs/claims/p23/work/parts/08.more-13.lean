def f_X9_contactOf (S : wPS) (o1 : Nat) (o2 : Nat) : Int64 := if (lg_cmp (((f_X2_lineAt S o1 (S.I o1 7)) + (f_X2_lineAt S o2 (S.I o2 7))) - (f_X9_root ((((16 : Int64) * (((f_X2_pitchDiameter S o1).toInt64) + ((f_X2_pitchDiameter S o2).toInt64))) * (((f_X2_pitchDiameter S o1).toInt64) + ((f_X2_pitchDiameter S o2).toInt64))) / (137 : Int64)))) (0 : Int64)) ≤ (0 : Int32) then (0 : Int64) else if (0 : Int32) < (lg_cmp ((f_X9_root ((((7810 : Int64) * ((S.I o1 2).toInt64)) * ((7810 : Int64) * ((S.I o1 2).toInt64))) / (137 : Int64))) / (113 : Int64)) (0 : Int64)) then ((1000 : Int64) * (((f_X2_lineAt S o1 (S.I o1 7)) + (f_X2_lineAt S o2 (S.I o2 7))) - (f_X9_root ((((16 : Int64) * (((f_X2_pitchDiameter S o1).toInt64) + ((f_X2_pitchDiameter S o2).toInt64))) * (((f_X2_pitchDiameter S o1).toInt64) + ((f_X2_pitchDiameter S o2).toInt64))) / (137 : Int64))))) / ((f_X9_root ((((7810 : Int64) * ((S.I o1 2).toInt64)) * ((7810 : Int64) * ((S.I o1 2).toInt64))) / (137 : Int64))) / (113 : Int64)) else (0 : Int64)
set_option maxHeartbeats 4000000 in
set_option maxRecDepth 100000 in
theorem c_X9_contactOf (l : Launch) {D : va_G} {cy : Nat → ClassId} {X : va_W} (S : wPS) (sz : Nat) (o1 : Nat) (h_o1 : ok2 S o1) (o2 : Nat) (h_o2 : ok2 S o2)  : Met l yX9_contactOf wsX9_contactOf ({ frames := 3, cells := 0, slots := 0, locals := 68 }) (va_Pc [.ref o1, .ref o2] (fun U => U.heap.size = sz ∧ WD D cy X (fun _ => True) S U ∧ NW U)) (va_Ql (fun r (_ : Unit) => r = f_X9_contactOf S o1 o2) (fun _ t => WD D cy X (va_A (X ++ PL cy S) sz) S t) (va_A (X ++ PL cy S) sz)) 0 0 (va_A (X ++ PL cy S) sz) := by
  refine Met.ofW (cc := cX9_contactOf) (maxL := 10) (ret := (some .long)) (by decide) rfl ?_
  intro p e s m args below meth c s₁ B hml hv
  obtain ⟨rfl, hsz, ⟨hP, hK, hD0⟩, hN⟩ := hv
  have hx := B.exec
  have hb := B.bytes
  have hr := B.returns
  have hts := atoms_spec (ws := wsX9_contactOf) B.pre
  have hown : s.vm.findClass RX9 = some m.cls := findClass_of_methodNamed B.named
  have hlocks := B.notSynchronized
  subst hsz
  have hD := hD0.self (sz := s.heap.size)
  generalize hAe : va_A (X ++ PL cy S) s.heap.size = A at hD ⊢
  have hA : ∀ q : Nat, s.heap.size ≤ q → A q := fun q h => by rw [← hAe]; exact Or.inr h
  have hS : va_S A s.heap s.heap [] := va_S.rf
  have hl := lv_entry ([.ref o1, .ref o2]) (n := 10) (Nat.le_of_ble_eq_true rfl)
  rw [lg_entry_eq]
  generalize (lg_sl ([.ref o1, .ref o2]) ++ List.replicate (10 - (lg_sl ([.ref o1, .ref o2])).length) Slot.unset).toArray = ls at hl ⊢
  have hl : lv_has ls 10 [(0, .ref o1), (1, .ref o2)] := hl
  refine lv_aload_n hx hb dX9_contactOf_0 rfl (lv_at hl 0 rfl) ?_
  have hFc := free_all hD hS hA
  obtain ⟨k1, gk1, hk1⟩ := wGt (cy := cy) X S h_o1.1.1 h_o1.1.2.1
  refine va_calli (va_runV (As := []) (rest := []) ⟨hx, hb, hml, hown, hts⟩ (c_X2_pitchDiameter l (cy := cy) (X := X) (D := D) S _ o1 h_o1) (cwV 0 hts gX9_contactOf_X2_pitchDiameter rfl rfl rfl (by decide +kernel) ⟨Nat.le_of_ble_eq_true rfl, Nat.le_of_ble_eq_true rfl⟩) ⟨fun a U g mk q => ⟨q.1, q.2.1, q.2.2.1.calling, NW.same (u := U) (U := U.calling g mk a) rfl q.2.2.2⟩, va_recv hK hP (ci := 6) (q0 := k1) rfl hk1, fun U hU hW => ⟨rfl, by rw [hU], wd_pre hP hK hD hU hW, hN.warm hW⟩⟩ rfl rfl hl.1 rfl (lv_room (Nat.le_of_ble_eq_true rfl)) dX9_contactOf_1 ⟨(Nat.zero_le _), (Nat.zero_le _)⟩) hS (fun q _ h => hFc q h) hFc (fun r2 u t H1 locs ht hvm hw hB hz1 hk1 hS => ?_)
  obtain ⟨hP, hD⟩ := wd_post hFc ht hB
  generalize H1 = H at hP hS ⊢
  obtain rfl : r2 = f_X2_pitchDiameter S o1 := hw
  refine lv_i2l hx hb dX9_contactOf_4 rfl ?_
  refine lv_aload_n hx hb dX9_contactOf_5 rfl (lv_at hl 1 rfl) ?_
  have hFc := free_all hD hS hA
  obtain ⟨k3, gk3, hk3⟩ := wGt (cy := cy) X S h_o2.1.1 h_o2.1.2.1
  refine va_calli (va_runV (As := []) (rest := [.long ((f_X2_pitchDiameter S o1).toInt64)]) ⟨hx, hb, hml, hown, hts⟩ (c_X2_pitchDiameter l (cy := cy) (X := X) (D := D) S _ o2 h_o2) (cwV 0 hts gX9_contactOf_X2_pitchDiameter rfl rfl rfl (by decide +kernel) ⟨Nat.le_of_ble_eq_true rfl, Nat.le_of_ble_eq_true rfl⟩) ⟨fun a U g mk q => ⟨q.1, q.2.1, q.2.2.1.calling, NW.same (u := U) (U := U.calling g mk a) rfl q.2.2.2⟩, va_recv hK hP (ci := 6) (q0 := k3) rfl hk3, fun U hU hW => ⟨rfl, by rw [hU], wd_pre hP hK hD hU hW, hN.warm hW⟩⟩ rfl rfl hl.1 rfl (lv_room (Nat.le_of_ble_eq_true rfl)) dX9_contactOf_6 ⟨(Nat.zero_le _), (Nat.zero_le _)⟩) hS (fun q _ h => hFc q h) hFc (fun r4 u t H1 locs ht hvm hw hB hz1 hk1 hS => ?_)
  obtain ⟨hP, hD⟩ := wd_post hFc ht hB
  generalize H1 = H at hP hS ⊢
  obtain rfl : r4 = f_X2_pitchDiameter S o2 := hw
  refine lv_i2l hx hb dX9_contactOf_9 rfl ?_
  refine lv_ladd hx hb dX9_contactOf_10 ?_
  refine lv_lstore_n (lv' := [(2, .long (((f_X2_pitchDiameter S o1).toInt64) + ((f_X2_pitchDiameter S o2).toInt64))), (0, .ref o1), (1, .ref o2)]) hx hb dX9_contactOf_11 rfl hl (by decide) rfl (fun ls hl => ?_)
  refine lv_aload_n hx hb dX9_contactOf_12 rfl (lv_at hl 1 rfl) ?_
  refine lv_aload_n hx hb dX9_contactOf_13 rfl (lv_at hl 1 rfl) ?_
  obtain ⟨k5, gk5, hk5⟩ := wGt (cy := cy) X S h_o1.1.1 h_o1.1.2.1
  refine va_get (D := D) (ci := 6) (v := .int (S.I o1 7)) (C := RX2) (T := TX2) (N := 20) hx hb hts (by decide +kernel) hown hK hP k5 hk5 rfl 7 (by decide) (hts (.fieldLink RX9 89 "Hobhouse$Gear" "shift" "I") (by decide +kernel)) (fun _ h9 => h9) rfl dX9_contactOf_14 ?_
  have hFc := free_all hD hS hA
  obtain ⟨k6, gk6, hk6⟩ := wGt (cy := cy) X S h_o1.1.1 h_o1.1.2.1
  refine va_calll (va_runV (As := [.int (S.I o1 7)]) (rest := []) ⟨hx, hb, hml, hown, hts⟩ (c_X2_lineAt l (cy := cy) (X := X) (D := D) S _ o1 h_o1 (S.I o1 7)) (cwV 1 hts gX9_contactOf_X2_lineAt rfl rfl rfl (by decide +kernel) ⟨Nat.le_of_ble_eq_true rfl, Nat.le_of_ble_eq_true rfl⟩) ⟨fun a U g mk q => ⟨q.1, q.2.1, q.2.2.1.calling, NW.same (u := U) (U := U.calling g mk a) rfl q.2.2.2⟩, va_recv hK hP (ci := 6) (q0 := k6) rfl hk6, fun U hU hW => ⟨rfl, by rw [hU], wd_pre hP hK hD hU hW, hN.warm hW⟩⟩ rfl rfl hl.1 rfl (lv_room (Nat.le_of_ble_eq_true rfl)) dX9_contactOf_17 ⟨(Nat.zero_le _), (Nat.zero_le _)⟩) hS (fun q _ h => hFc q h) hFc (fun r7 u t H1 locs ht hvm hw hB hz1 hk1 hS => ?_)
  obtain ⟨hP, hD⟩ := wd_post hFc ht hB
  generalize H1 = H at hP hS ⊢
  obtain rfl : r7 = f_X2_lineAt S o1 (S.I o1 7) := hw
  refine lv_aload_n hx hb dX9_contactOf_20 rfl (lv_at hl 2 rfl) ?_
  refine lv_aload_n hx hb dX9_contactOf_21 rfl (lv_at hl 2 rfl) ?_
  obtain ⟨k8, gk8, hk8⟩ := wGt (cy := cy) X S h_o2.1.1 h_o2.1.2.1
  refine va_get (D := D) (ci := 6) (v := .int (S.I o2 7)) (C := RX2) (T := TX2) (N := 20) hx hb hts (by decide +kernel) hown hK hP k8 hk8 rfl 7 (by decide) (hts (.fieldLink RX9 89 "Hobhouse$Gear" "shift" "I") (by decide +kernel)) (fun _ h9 => h9) rfl dX9_contactOf_22 ?_
  have hFc := free_all hD hS hA
  obtain ⟨k9, gk9, hk9⟩ := wGt (cy := cy) X S h_o2.1.1 h_o2.1.2.1
  refine va_calll (va_runV (As := [.int (S.I o2 7)]) (rest := [.long (f_X2_lineAt S o1 (S.I o1 7))]) ⟨hx, hb, hml, hown, hts⟩ (c_X2_lineAt l (cy := cy) (X := X) (D := D) S _ o2 h_o2 (S.I o2 7)) (cwV 1 hts gX9_contactOf_X2_lineAt rfl rfl rfl (by decide +kernel) ⟨Nat.le_of_ble_eq_true rfl, Nat.le_of_ble_eq_true rfl⟩) ⟨fun a U g mk q => ⟨q.1, q.2.1, q.2.2.1.calling, NW.same (u := U) (U := U.calling g mk a) rfl q.2.2.2⟩, va_recv hK hP (ci := 6) (q0 := k9) rfl hk9, fun U hU hW => ⟨rfl, by rw [hU], wd_pre hP hK hD hU hW, hN.warm hW⟩⟩ rfl rfl hl.1 rfl (lv_room (Nat.le_of_ble_eq_true rfl)) dX9_contactOf_25 ⟨(Nat.zero_le _), (Nat.zero_le _)⟩) hS (fun q _ h => hFc q h) hFc (fun r10 u t H1 locs ht hvm hw hB hz1 hk1 hS => ?_)
  obtain ⟨hP, hD⟩ := wd_post hFc ht hB
  generalize H1 = H at hP hS ⊢
  obtain rfl : r10 = f_X2_lineAt S o2 (S.I o2 7) := hw
  refine lv_ladd hx hb dX9_contactOf_28 ?_
  refine lv_ldc2 (own := RX9) (v := 16) hx hb hown (hts (.constantLong RX9 171 (16)) (by decide +kernel)) dX9_contactOf_29 ?_
  refine lv_lload_n hx hb dX9_contactOf_32 rfl (lv_at hl 0 rfl) ?_
  refine lv_lmul hx hb dX9_contactOf_33 ?_
  refine lv_lload_n hx hb dX9_contactOf_34 rfl (lv_at hl 0 rfl) ?_
  refine lv_lmul hx hb dX9_contactOf_35 ?_
  refine lv_ldc2 (own := RX9) (v := 137) hx hb hown (hts (.constantLong RX9 173 (137)) (by decide +kernel)) dX9_contactOf_36 ?_
  refine lv_ldiv hx hb dX9_contactOf_39 (by decide) ?_
  have hFc := free_all hD hS hA
  refine va_calll (va_runS (As := [.long ((((16 : Int64) * (((f_X2_pitchDiameter S o1).toInt64) + ((f_X2_pitchDiameter S o2).toInt64))) * (((f_X2_pitchDiameter S o1).toInt64) + ((f_X2_pitchDiameter S o2).toInt64))) / (137 : Int64))]) (rest := [.long ((f_X2_lineAt S o1 (S.I o1 7)) + (f_X2_lineAt S o2 (S.I o2 7)))]) ⟨hx, hb, hml, hown, hts⟩ (c_X9_root l (cy := cy) (X := X) (D := D) S _ ((((16 : Int64) * (((f_X2_pitchDiameter S o1).toInt64) + ((f_X2_pitchDiameter S o2).toInt64))) * (((f_X2_pitchDiameter S o1).toInt64) + ((f_X2_pitchDiameter S o2).toInt64))) / (137 : Int64))) (cwS 1 hts gX9_contactOf_X9_root rfl rfl rfl (by decide +kernel) ⟨Nat.le_of_ble_eq_true rfl, Nat.le_of_ble_eq_true rfl⟩) ⟨fun a U g mk q => ⟨q.1, q.2.1, q.2.2.1.calling, NW.same (u := U) (U := U.calling g mk a) rfl q.2.2.2⟩, fun U hU hW => ⟨rfl, by rw [hU], wd_pre hP hK hD hU hW, hN.warm hW⟩⟩ rfl rfl hl.1 rfl (lv_room (Nat.le_of_ble_eq_true rfl)) dX9_contactOf_40 ⟨(Nat.zero_le _), (Nat.zero_le _)⟩) hS (fun q _ h => hFc q h) hFc (fun r11 u t H1 locs ht hvm hw hB hz1 hk1 hS => ?_)
  obtain ⟨hP, hD⟩ := wd_post hFc ht hB
  generalize H1 = H at hP hS ⊢
  obtain rfl : r11 = f_X9_root ((((16 : Int64) * (((f_X2_pitchDiameter S o1).toInt64) + ((f_X2_pitchDiameter S o2).toInt64))) * (((f_X2_pitchDiameter S o1).toInt64) + ((f_X2_pitchDiameter S o2).toInt64))) / (137 : Int64)) := hw
  refine lv_lsub hx hb dX9_contactOf_43 ?_
  refine lv_lstore (lv' := [(4, .long (((f_X2_lineAt S o1 (S.I o1 7)) + (f_X2_lineAt S o2 (S.I o2 7))) - (f_X9_root ((((16 : Int64) * (((f_X2_pitchDiameter S o1).toInt64) + ((f_X2_pitchDiameter S o2).toInt64))) * (((f_X2_pitchDiameter S o1).toInt64) + ((f_X2_pitchDiameter S o2).toInt64))) / (137 : Int64))))), (2, .long (((f_X2_pitchDiameter S o1).toInt64) + ((f_X2_pitchDiameter S o2).toInt64))), (0, .ref o1), (1, .ref o2)]) hx hb dX9_contactOf_44 hl (by decide) rfl (fun ls hl => ?_)
  refine lv_ldc2 (own := RX9) (v := 7810) hx hb hown (hts (.constantLong RX9 175 (7810)) (by decide +kernel)) dX9_contactOf_46 ?_
  refine lv_aload_n hx hb dX9_contactOf_49 rfl (lv_at hl 2 rfl) ?_
  obtain ⟨k12, gk12, hk12⟩ := wGt (cy := cy) X S h_o1.1.1 h_o1.1.2.1
  refine va_get (D := D) (ci := 6) (v := .int (S.I o1 2)) (C := RX2) (T := TX2) (N := 20) hx hb hts (by decide +kernel) hown hK hP k12 hk12 rfl 2 (by decide) (hts (.fieldLink RX9 165 "Hobhouse$Gear" "module" "I") (by decide +kernel)) (fun _ h9 => h9) rfl dX9_contactOf_50 ?_
  refine lv_i2l hx hb dX9_contactOf_53 rfl ?_
  refine lv_lmul hx hb dX9_contactOf_54 ?_
  refine lv_lstore (lv' := [(6, .long ((7810 : Int64) * ((S.I o1 2).toInt64))), (4, .long (((f_X2_lineAt S o1 (S.I o1 7)) + (f_X2_lineAt S o2 (S.I o2 7))) - (f_X9_root ((((16 : Int64) * (((f_X2_pitchDiameter S o1).toInt64) + ((f_X2_pitchDiameter S o2).toInt64))) * (((f_X2_pitchDiameter S o1).toInt64) + ((f_X2_pitchDiameter S o2).toInt64))) / (137 : Int64))))), (2, .long (((f_X2_pitchDiameter S o1).toInt64) + ((f_X2_pitchDiameter S o2).toInt64))), (0, .ref o1), (1, .ref o2)]) hx hb dX9_contactOf_55 hl (by decide) rfl (fun ls hl => ?_)
  refine lv_lload hx hb dX9_contactOf_57 (lv_at hl 0 rfl) ?_
  refine lv_lload hx hb dX9_contactOf_59 (lv_at hl 0 rfl) ?_
  refine lv_lmul hx hb dX9_contactOf_61 ?_
  refine lv_ldc2 (own := RX9) (v := 137) hx hb hown (hts (.constantLong RX9 173 (137)) (by decide +kernel)) dX9_contactOf_62 ?_
  refine lv_ldiv hx hb dX9_contactOf_65 (by decide) ?_
  have hFc := free_all hD hS hA
  refine va_calll (va_runS (As := [.long ((((7810 : Int64) * ((S.I o1 2).toInt64)) * ((7810 : Int64) * ((S.I o1 2).toInt64))) / (137 : Int64))]) (rest := []) ⟨hx, hb, hml, hown, hts⟩ (c_X9_root l (cy := cy) (X := X) (D := D) S _ ((((7810 : Int64) * ((S.I o1 2).toInt64)) * ((7810 : Int64) * ((S.I o1 2).toInt64))) / (137 : Int64))) (cwS 1 hts gX9_contactOf_X9_root rfl rfl rfl (by decide +kernel) ⟨Nat.le_of_ble_eq_true rfl, Nat.le_of_ble_eq_true rfl⟩) ⟨fun a U g mk q => ⟨q.1, q.2.1, q.2.2.1.calling, NW.same (u := U) (U := U.calling g mk a) rfl q.2.2.2⟩, fun U hU hW => ⟨rfl, by rw [hU], wd_pre hP hK hD hU hW, hN.warm hW⟩⟩ rfl rfl hl.1 rfl (lv_room (Nat.le_of_ble_eq_true rfl)) dX9_contactOf_66 ⟨(Nat.zero_le _), (Nat.zero_le _)⟩) hS (fun q _ h => hFc q h) hFc (fun r13 u t H1 locs ht hvm hw hB hz1 hk1 hS => ?_)
  obtain ⟨hP, hD⟩ := wd_post hFc ht hB
  generalize H1 = H at hP hS ⊢
  obtain rfl : r13 = f_X9_root ((((7810 : Int64) * ((S.I o1 2).toInt64)) * ((7810 : Int64) * ((S.I o1 2).toInt64))) / (137 : Int64)) := hw
  refine lv_ldc2 (own := RX9) (v := 113) hx hb hown (hts (.constantLong RX9 177 (113)) (by decide +kernel)) dX9_contactOf_69 ?_
  refine lv_ldiv hx hb dX9_contactOf_72 (by decide) ?_
  refine lv_lstore (lv' := [(8, .long ((f_X9_root ((((7810 : Int64) * ((S.I o1 2).toInt64)) * ((7810 : Int64) * ((S.I o1 2).toInt64))) / (137 : Int64))) / (113 : Int64))), (6, .long ((7810 : Int64) * ((S.I o1 2).toInt64))), (4, .long (((f_X2_lineAt S o1 (S.I o1 7)) + (f_X2_lineAt S o2 (S.I o2 7))) - (f_X9_root ((((16 : Int64) * (((f_X2_pitchDiameter S o1).toInt64) + ((f_X2_pitchDiameter S o2).toInt64))) * (((f_X2_pitchDiameter S o1).toInt64) + ((f_X2_pitchDiameter S o2).toInt64))) / (137 : Int64))))), (2, .long (((f_X2_pitchDiameter S o1).toInt64) + ((f_X2_pitchDiameter S o2).toInt64))), (0, .ref o1), (1, .ref o2)]) hx hb dX9_contactOf_73 hl (by decide) rfl (fun ls hl => ?_)
  refine lv_lload hx hb dX9_contactOf_75 (lv_at hl 2 rfl) ?_
  refine lv_lconst (v := 0) hx hb dX9_contactOf_77 (by decide) ?_
  refine W.lcmp hx hb dX9_contactOf_78 ?_
  refine lv_if_le (tgt := 89) hx hb dX9_contactOf_79 (by decide) (fun c14 => ?_) (fun c14 => ?_)
  · refine lv_lconst (v := 0) hx hb dX9_contactOf_89 (by decide) ?_
    refine lv_goto (tgt := 102) hx hb dX9_contactOf_90 (by decide) ?_
    exact W.lret (v := (0 : Int64)) hx hb hr (fun t ht hW => ⟨⟨(0 : Int64), (), rfl, (by show (0 : Int64) = f_X9_contactOf S o1 o2; unfold f_X9_contactOf; rw [if_pos c14]), wd_end hP hK hD ht hW.alike⟩, hS.F ht⟩) hS.2.2 dX9_contactOf_102 hlocks
  · refine lv_lload hx hb dX9_contactOf_82 (lv_at hl 0 rfl) ?_
    refine lv_lconst (v := 0) hx hb dX9_contactOf_84 (by decide) ?_
    refine W.lcmp hx hb dX9_contactOf_85 ?_
    refine lv_if_gt (tgt := 93) hx hb dX9_contactOf_86 (by decide) (fun c15 => ?_) (fun c15 => ?_)
    · refine lv_ldc2 (own := RX9) (v := 1000) hx hb hown (hts (.constantLong RX9 179 (1000)) (by decide +kernel)) dX9_contactOf_93 ?_
      refine lv_lload hx hb dX9_contactOf_96 (lv_at hl 2 rfl) ?_
      refine lv_lmul hx hb dX9_contactOf_98 ?_
      refine lv_lload hx hb dX9_contactOf_99 (lv_at hl 0 rfl) ?_
      refine lv_ldiv hx hb dX9_contactOf_101 (ne_gt c15) ?_
      exact W.lret (v := ((1000 : Int64) * (((f_X2_lineAt S o1 (S.I o1 7)) + (f_X2_lineAt S o2 (S.I o2 7))) - (f_X9_root ((((16 : Int64) * (((f_X2_pitchDiameter S o1).toInt64) + ((f_X2_pitchDiameter S o2).toInt64))) * (((f_X2_pitchDiameter S o1).toInt64) + ((f_X2_pitchDiameter S o2).toInt64))) / (137 : Int64))))) / ((f_X9_root ((((7810 : Int64) * ((S.I o1 2).toInt64)) * ((7810 : Int64) * ((S.I o1 2).toInt64))) / (137 : Int64))) / (113 : Int64))) hx hb hr (fun t ht hW => ⟨⟨((1000 : Int64) * (((f_X2_lineAt S o1 (S.I o1 7)) + (f_X2_lineAt S o2 (S.I o2 7))) - (f_X9_root ((((16 : Int64) * (((f_X2_pitchDiameter S o1).toInt64) + ((f_X2_pitchDiameter S o2).toInt64))) * (((f_X2_pitchDiameter S o1).toInt64) + ((f_X2_pitchDiameter S o2).toInt64))) / (137 : Int64))))) / ((f_X9_root ((((7810 : Int64) * ((S.I o1 2).toInt64)) * ((7810 : Int64) * ((S.I o1 2).toInt64))) / (137 : Int64))) / (113 : Int64)), (), rfl, (by show (((1000 : Int64) * (((f_X2_lineAt S o1 (S.I o1 7)) + (f_X2_lineAt S o2 (S.I o2 7))) - (f_X9_root ((((16 : Int64) * (((f_X2_pitchDiameter S o1).toInt64) + ((f_X2_pitchDiameter S o2).toInt64))) * (((f_X2_pitchDiameter S o1).toInt64) + ((f_X2_pitchDiameter S o2).toInt64))) / (137 : Int64))))) / ((f_X9_root ((((7810 : Int64) * ((S.I o1 2).toInt64)) * ((7810 : Int64) * ((S.I o1 2).toInt64))) / (137 : Int64))) / (113 : Int64))) = f_X9_contactOf S o1 o2; unfold f_X9_contactOf; rw [if_neg c14, if_pos c15]), wd_end hP hK hD ht hW.alike⟩, hS.F ht⟩) hS.2.2 dX9_contactOf_102 hlocks
    · refine lv_lconst (v := 0) hx hb dX9_contactOf_89 (by decide) ?_
      refine lv_goto (tgt := 102) hx hb dX9_contactOf_90 (by decide) ?_
      exact W.lret (v := (0 : Int64)) hx hb hr (fun t ht hW => ⟨⟨(0 : Int64), (), rfl, (by show (0 : Int64) = f_X9_contactOf S o1 o2; unfold f_X9_contactOf; rw [if_neg c14, if_neg c15]), wd_end hP hK hD ht hW.alike⟩, hS.F ht⟩) hS.2.2 dX9_contactOf_102 hlocks
