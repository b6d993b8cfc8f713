theorem pd_i {S : wPS} {o : Nat} (h : ok_2 S o) : 3000 ≤ (f_X2_pitchDiameter S o).toInt ∧ (f_X2_pitchDiameter S o).toInt ≤ 2000000 := by
  have h1 := h.R1
  have h2 := h.R2
  have h9 : 6 * 500 ≤ (S.I o 1).toInt * (S.I o 2).toInt := Int.mul_le_mul h1.1 h2.1 (by omega) (by omega)
  have h8 : (S.I o 1).toInt * (S.I o 2).toInt ≤ 200 * 10000 := Int.mul_le_mul h1.2 h2.2 (by omega) (by omega)
  unfold f_X2_pitchDiameter
  rw [t_mulx (by omega)]
  omega
theorem wm_nz {x y : Int32} {a b : Int} (hx : 1000 ≤ x.toInt ∧ x.toInt ≤ 99999) (hy : 500 ≤ y.toInt ∧ y.toInt ≤ 10000) : ¬ x.toInt64 * y.toInt64 = 0 := fun e => by
  have h9 : 1000 * 500 ≤ x.toInt * y.toInt := Int.mul_le_mul hx.1 hy.1 (by omega) (by omega)
  have h8 : x.toInt * y.toInt ≤ 99999 * 10000 := Int.mul_le_mul hx.2 hy.2 (by omega) (by omega)
  have h1 : (x.toInt64 * y.toInt64).toInt = (0 : Int64).toInt := by rw [e]
  rw [Int64.toInt_mul, Int32.toInt_toInt64, Int32.toInt_toInt64, Int.bmod_eq_of_le (by omega) (by omega)] at h1
  have h4 : (0 : Int64).toInt = 0 := rfl
  rw [h4] at h1
  omega
theorem km_nz {y : Int32} {k : Int64} (hk : k.toInt = 355) (hy : 500 ≤ y.toInt ∧ y.toInt ≤ 10000) : ¬ k * y.toInt64 = 0 := fun e => by
  have h1 : (k * y.toInt64).toInt = (0 : Int64).toInt := by rw [e]
  rw [Int64.toInt_mul, Int32.toInt_toInt64, hk, Int.bmod_eq_of_le (by omega) (by omega)] at h1
  have h4 : (0 : Int64).toInt = 0 := rfl
  rw [h4] at h1
  omega
theorem lc_nz0 {x : Int64} {b : Int32} (h : 0 < lg_cmp x b.toInt64) (hb : 0 ≤ b.toInt) : ¬ x = 0 := fun e => by
  have h1 := lc_gt h
  rw [e, i64_i] at h1
  have h4 : (0 : Int64).toInt = 0 := rfl
  rw [h4] at h1
  omega
theorem nz_gt {x : Int64} (h : ¬ lg_cmp x 0 ≤ 0) : ¬ x = 0 := fun e => by
  have h1 := lc_nle h
  rw [e] at h1
  omega
theorem nz_gt0 {x : Int64} (h : 0 < lg_cmp x 0) : ¬ x = 0 := fun e => by
  have h1 := lc_gt h
  rw [e] at h1
  omega
theorem nz_le {x : Int64} (h : ¬ lg_cmp x 0 ≤ 0) : ¬ x = 0 := nz_gt h
def f_X2_bearsTorque (S : wPS) (o1 : Nat) (x1 : Int32) : Int32 := if (S.I o1 15) = (0 : Int32) then if (0 : Int32) < (lg_cmp (((((((2000000 : Int64) * x1.toInt64) / ((f_X2_pitchDiameter S o1).toInt64)) * (((S.I o1 1) + (20 : Int32)).toInt64)) / ((S.I o1 1).toInt64)) * (1000000 : Int64)) / (((S.I o1 4).toInt64) * ((S.I o1 2).toInt64))) (200 : Int64)) then (0 : Int32) else if (0 : Int32) < (lg_cmp (f_X9_root (((((((2000000 : Int64) * x1.toInt64) / ((f_X2_pitchDiameter S o1).toInt64)) * (1000000 : Int64)) / ((f_X2_pitchDiameter S o1).toInt64)) * (100000 : Int64)) / ((S.I o1 4).toInt64))) (600 : Int64)) then (0 : Int32) else (1 : Int32) else if ((S.I o1 2) / (6 : Int32)) ≤ (S.I o1 15) then if (0 : Int32) < (lg_cmp (((((((2000000 : Int64) * x1.toInt64) / ((f_X2_pitchDiameter S o1).toInt64)) * (((S.I o1 1) + (20 : Int32)).toInt64)) / ((S.I o1 1).toInt64)) * (1000000 : Int64)) / (((S.I o1 4).toInt64) * ((S.I o1 2).toInt64))) (400 : Int64)) then (0 : Int32) else if (0 : Int32) < (lg_cmp (f_X9_root (((((((2000000 : Int64) * x1.toInt64) / ((f_X2_pitchDiameter S o1).toInt64)) * (1000000 : Int64)) / ((f_X2_pitchDiameter S o1).toInt64)) * (100000 : Int64)) / ((S.I o1 4).toInt64))) (1400 : Int64)) then (0 : Int32) else (1 : Int32) else if (0 : Int32) < (lg_cmp (((((((2000000 : Int64) * x1.toInt64) / ((f_X2_pitchDiameter S o1).toInt64)) * (((S.I o1 1) + (20 : Int32)).toInt64)) / ((S.I o1 1).toInt64)) * (1000000 : Int64)) / (((S.I o1 4).toInt64) * ((S.I o1 2).toInt64))) (300 : Int64)) then (0 : Int32) else if (0 : Int32) < (lg_cmp (f_X9_root (((((((2000000 : Int64) * x1.toInt64) / ((f_X2_pitchDiameter S o1).toInt64)) * (1000000 : Int64)) / ((f_X2_pitchDiameter S o1).toInt64)) * (100000 : Int64)) / ((S.I o1 4).toInt64))) (1000 : Int64)) then (0 : Int32) else (1 : Int32)
theorem f_X2_bearsTorque_b (S : wPS) (o1 : Nat) (x1 : Int32) : narrow .boolean (.int (f_X2_bearsTorque S o1 x1)) = .int (f_X2_bearsTorque S o1 x1) := by
  unfold f_X2_bearsTorque; (repeat' split) <;> rfl
theorem hi_X2_bearsTorque_X2 : ∀ w ∈ u_ws RX2 TX2 20, w ∈ wsX2_bearsTorque := by decide +kernel
theorem hd_X2_bearsTorque : yX2_bearsTorque.cls = RX2 ∧ yX2_bearsTorque.cls ≠ "java/lang/invoke/MethodHandle" ∧ yX2_bearsTorque.cls ≠ "java/lang/invoke/VarHandle" ∧ (parseMethodDescriptor yX2_bearsTorque.desc).map (fun d => d.parameters.length) = some 1 := by decide +kernel
set_option maxHeartbeats 4000000 in
set_option maxRecDepth 100000 in
theorem c_X2_bearsTorque (l : Launch) {D : va_G} {cy : Nat → ClassId} {X : va_W} (S : wPS) (sz : Nat) (o1 : Nat) (h_o1 : isA S o1 2) (x1 : Int32) (hW : wtB S [])  : Met l yX2_bearsTorque wsX2_bearsTorque ({ frames := 1, cells := 0, slots := 0, locals := 26 }) (va_Pc [.ref o1, .int x1] (fun U => U.heap.size = sz ∧ WD D cy X (fun _ => True) S U ∧ NW U)) (va_Qi (fun r (_ : Unit) => r = f_X2_bearsTorque S o1 x1) (fun _ t => WD D cy X (va_A (X ++ PL cy S) sz) S t) (va_A (X ++ PL cy S) sz)) 0 0 (va_A (X ++ PL cy S) sz) := by
  refine Met.ofW (cc := cX2_bearsTorque) (maxL := 10) (ret := (some .boolean)) (by decide) rfl ?_
  intro p e s m args below meth c s₁ B hml hv
  obtain ⟨rfl, hsz, ⟨hP, hK, hD0⟩, hN⟩ := hv
  have hx := B.exec
  have hb := B.bytes
  have hr := B.returns
  have hts := atoms_spec (ws := wsX2_bearsTorque) B.pre
  have hown : s.vm.findClass RX2 = some m.cls := findClass_of_methodNamed (x := yX2_bearsTorque) B.named
  have hlocks := B.notSynchronized
  subst hsz
  have hD := hD0.self (sz := s.heap.size)
  generalize hAe : va_A (X ++ PL cy S) s.heap.size = A at hD ⊢
  have hA : ∀ q : Nat, s.heap.size ≤ q → A q := fun q h => by rw [← hAe]; exact Or.inr h
  have hS : va_S A s.heap s.heap [] := va_S.rf
  have hl := lv_entry ([.ref o1, .int x1]) (n := 10) (Nat.le_of_ble_eq_true rfl)
  rw [lg_entry_eq]
  generalize (lg_sl ([.ref o1, .int x1]) ++ List.replicate (10 - (lg_sl ([.ref o1, .int x1])).length) Slot.unset).toArray = ls at hl ⊢
  have hl : lv_has ls 10 [(0, .ref o1), (1, .int x1)] := hl
  refine lv_aload_n hx hb dX2_bearsTorque_0 rfl (lv_at hl 0 rfl) ?_
  have hFc := free_all hD hS hA
  obtain ⟨k1, gk1, hk1⟩ := wGt (cy := cy) X S h_o1.1 h_o1.2.1
  refine va_calli (va_runV (As := []) (rest := []) ⟨hx, hb, hml, hown, hts⟩ (c_X2_pitchDiameter l (cy := cy) (X := X) (D := D) S _ o1 h_o1) (cwV 0 hts gX2_bearsTorque_X2_pitchDiameter rfl rfl rfl hd_X2_pitchDiameter ⟨Nat.le_of_ble_eq_true rfl, Nat.le_of_ble_eq_true rfl⟩) (pV (va_recv hK hP (q := (RX2, TX2, 20)) (ci := 6) (q0 := k1) rfl hk1) hP hK hD hN) rfl rfl hl.1 rfl (lv_room (Nat.le_of_ble_eq_true rfl)) dX2_bearsTorque_1 ⟨(Nat.zero_le _), (Nat.zero_le _)⟩) hS (fun q _ h => hFc q h) hFc (fun r2 u t H1 locs ht hvm hw hB hz1 hk1 hS => ?_)
  have c3 := hw
  obtain ⟨hP, hD⟩ := wd_post hFc ht hB
  generalize H1 = H at hP hS ⊢
  obtain rfl : f_X2_pitchDiameter S o1 = r2 := c3.symm
  have i4 := pd_i ((hW.at h_o1 List.not_mem_nil).to_2 h_o1.2.1)
  refine lv_i2l hx hb dX2_bearsTorque_4 rfl ?_
  refine lv_lstore_n (lv' := [(2, .long ((f_X2_pitchDiameter S o1).toInt64)), (0, .ref o1), (1, .int x1)]) hx hb dX2_bearsTorque_5 rfl hl (by decide) rfl (fun ls hl => ?_)
  refine lv_ldc2 (own := RX2) (v := 2000000) hx hb hown (hts (.constantLong RX2 145 (2000000)) (by decide +kernel)) dX2_bearsTorque_6 ?_
  refine lv_iload_n hx hb dX2_bearsTorque_9 rfl (lv_at hl 2 rfl) ?_
  refine lv_i2l hx hb dX2_bearsTorque_10 rfl ?_
  refine lv_lmul hx hb dX2_bearsTorque_11 ?_
  refine lv_lload_n hx hb dX2_bearsTorque_12 rfl (lv_at hl 0 rfl) ?_
  refine lv_ldiv hx hb dX2_bearsTorque_13 (nz_l (by omega)) ?_
  refine lv_lstore (lv' := [(4, .long (((2000000 : Int64) * x1.toInt64) / ((f_X2_pitchDiameter S o1).toInt64))), (2, .long ((f_X2_pitchDiameter S o1).toInt64)), (0, .ref o1), (1, .int x1)]) hx hb dX2_bearsTorque_14 hl (by decide) rfl (fun ls hl => ?_)
  refine lv_lload hx hb dX2_bearsTorque_16 (lv_at hl 0 rfl) ?_
  refine lv_aload_n hx hb dX2_bearsTorque_18 rfl (lv_at hl 2 rfl) ?_
  obtain ⟨k5, gk5, hk5⟩ := wGt (cy := cy) X S h_o1.1 h_o1.2.1
  have i6 := ((hW.at h_o1 List.not_mem_nil).to_2 h_o1.2.1).R1
  refine va_get (D := D) (ci := 6) (v := .int (S.I o1 1)) (C := RX2) (T := TX2) (N := 20) hx hb hts hi_X2_bearsTorque_X2 hown hK hP k5 hk5 rfl 1 (by decide) (hts (.fieldLink RX2 15 "Hobhouse$Gear" "teeth" "I") (by decide +kernel)) (fun _ h9 => h9) rfl dX2_bearsTorque_19 ?_
  refine lv_bipush (v := 20) hx hb dX2_bearsTorque_22 (by decide +kernel) ?_
  refine lv_iadd hx hb dX2_bearsTorque_24 ?_
  refine lv_i2l hx hb dX2_bearsTorque_25 rfl ?_
  refine lv_lmul hx hb dX2_bearsTorque_26 ?_
  refine lv_aload_n hx hb dX2_bearsTorque_27 rfl (lv_at hl 2 rfl) ?_
  obtain ⟨k7, gk7, hk7⟩ := wGt (cy := cy) X S h_o1.1 h_o1.2.1
  refine va_get (D := D) (ci := 6) (v := .int (S.I o1 1)) (C := RX2) (T := TX2) (N := 20) hx hb hts hi_X2_bearsTorque_X2 hown hK hP k7 hk7 rfl 1 (by decide) (hts (.fieldLink RX2 15 "Hobhouse$Gear" "teeth" "I") (by decide +kernel)) (fun _ h9 => h9) rfl dX2_bearsTorque_28 ?_
  refine lv_i2l hx hb dX2_bearsTorque_31 rfl ?_
  refine lv_ldiv hx hb dX2_bearsTorque_32 (nz_l (by omega)) ?_
  refine lv_ldc2 (own := RX2) (v := 1000000) hx hb hown (hts (.constantLong RX2 86 (1000000)) (by decide +kernel)) dX2_bearsTorque_33 ?_
  refine lv_lmul hx hb dX2_bearsTorque_36 ?_
  refine lv_aload_n hx hb dX2_bearsTorque_37 rfl (lv_at hl 2 rfl) ?_
  obtain ⟨k8, gk8, hk8⟩ := wGt (cy := cy) X S h_o1.1 h_o1.2.1
  have i9 := ((hW.at h_o1 List.not_mem_nil).to_2 h_o1.2.1).R4
  refine va_get (D := D) (ci := 6) (v := .int (S.I o1 4)) (C := RX2) (T := TX2) (N := 20) hx hb hts hi_X2_bearsTorque_X2 hown hK hP k8 hk8 rfl 4 (by decide) (hts (.fieldLink RX2 24 "Hobhouse$Gear" "width" "I") (by decide +kernel)) (fun _ h9 => h9) rfl dX2_bearsTorque_38 ?_
  refine lv_i2l hx hb dX2_bearsTorque_41 rfl ?_
  refine lv_aload_n hx hb dX2_bearsTorque_42 rfl (lv_at hl 2 rfl) ?_
  obtain ⟨k10, gk10, hk10⟩ := wGt (cy := cy) X S h_o1.1 h_o1.2.1
  have i11 := ((hW.at h_o1 List.not_mem_nil).to_2 h_o1.2.1).R2
  refine va_get (D := D) (ci := 6) (v := .int (S.I o1 2)) (C := RX2) (T := TX2) (N := 20) hx hb hts hi_X2_bearsTorque_X2 hown hK hP k10 hk10 rfl 2 (by decide) (hts (.fieldLink RX2 18 "Hobhouse$Gear" "module" "I") (by decide +kernel)) (fun _ h9 => h9) rfl dX2_bearsTorque_43 ?_
  refine lv_i2l hx hb dX2_bearsTorque_46 rfl ?_
  refine lv_lmul hx hb dX2_bearsTorque_47 ?_
  refine lv_ldiv hx hb dX2_bearsTorque_48 (wm_nz (a := 0) (b := 0) ((hW.at h_o1 List.not_mem_nil).to_2 h_o1.2.1).R4 ((hW.at h_o1 List.not_mem_nil).to_2 h_o1.2.1).R2) ?_
  refine lv_lstore (lv' := [(6, .long (((((((2000000 : Int64) * x1.toInt64) / ((f_X2_pitchDiameter S o1).toInt64)) * (((S.I o1 1) + (20 : Int32)).toInt64)) / ((S.I o1 1).toInt64)) * (1000000 : Int64)) / (((S.I o1 4).toInt64) * ((S.I o1 2).toInt64)))), (4, .long (((2000000 : Int64) * x1.toInt64) / ((f_X2_pitchDiameter S o1).toInt64))), (2, .long ((f_X2_pitchDiameter S o1).toInt64)), (0, .ref o1), (1, .int x1)]) hx hb dX2_bearsTorque_49 hl (by decide) rfl (fun ls hl => ?_)
  refine lv_lload hx hb dX2_bearsTorque_51 (lv_at hl 1 rfl) ?_
  refine lv_ldc2 (own := RX2) (v := 1000000) hx hb hown (hts (.constantLong RX2 86 (1000000)) (by decide +kernel)) dX2_bearsTorque_53 ?_
  refine lv_lmul hx hb dX2_bearsTorque_56 ?_
  refine lv_lload_n hx hb dX2_bearsTorque_57 rfl (lv_at hl 2 rfl) ?_
  refine lv_ldiv hx hb dX2_bearsTorque_58 (nz_l (by omega)) ?_
  refine lv_ldc2 (own := RX2) (v := 100000) hx hb hown (hts (.constantLong RX2 147 (100000)) (by decide +kernel)) dX2_bearsTorque_59 ?_
  refine lv_lmul hx hb dX2_bearsTorque_62 ?_
  refine lv_aload_n hx hb dX2_bearsTorque_63 rfl (lv_at hl 3 rfl) ?_
  obtain ⟨k12, gk12, hk12⟩ := wGt (cy := cy) X S h_o1.1 h_o1.2.1
  refine va_get (D := D) (ci := 6) (v := .int (S.I o1 4)) (C := RX2) (T := TX2) (N := 20) hx hb hts hi_X2_bearsTorque_X2 hown hK hP k12 hk12 rfl 4 (by decide) (hts (.fieldLink RX2 24 "Hobhouse$Gear" "width" "I") (by decide +kernel)) (fun _ h9 => h9) rfl dX2_bearsTorque_64 ?_
  refine lv_i2l hx hb dX2_bearsTorque_67 rfl ?_
  refine lv_ldiv hx hb dX2_bearsTorque_68 (nz_l (by omega)) ?_
  have hFc := free_all hD hS hA
  refine va_calll (va_runSN (As := [.long (((((((2000000 : Int64) * x1.toInt64) / ((f_X2_pitchDiameter S o1).toInt64)) * (1000000 : Int64)) / ((f_X2_pitchDiameter S o1).toInt64)) * (100000 : Int64)) / ((S.I o1 4).toInt64))]) (rest := []) ⟨hx, hb, hml, hown, hts⟩ (c_X9_root l (cy := cy) (X := X) (D := D) S _ (((((((2000000 : Int64) * x1.toInt64) / ((f_X2_pitchDiameter S o1).toInt64)) * (1000000 : Int64)) / ((f_X2_pitchDiameter S o1).toInt64)) * (100000 : Int64)) / ((S.I o1 4).toInt64))) ⟨va_cnB 1 hts gX2_bearsTorque_X9_root_n72 rfl rfl rfl (hN (.methodLinkNest RX2 72 yX9_root RX9) (by decide +kernel)) (hts (.initialized RX9) (by decide +kernel)) (by decide +kernel) ⟨Nat.le_of_ble_eq_true rfl, Nat.le_of_ble_eq_true rfl⟩, hts (.static yX9_root) (by decide +kernel), trivial⟩ (pS hP hK hD hN) rfl rfl hl.1 rfl (lv_room (Nat.le_of_ble_eq_true rfl)) dX2_bearsTorque_69 ⟨(Nat.zero_le _), (Nat.zero_le _)⟩) hS (fun q _ h => hFc q h) hFc (fun r13 u t H1 locs ht hvm hw hB hz1 hk1 hS => ?_)
  have c14 := hw
  obtain ⟨hP, hD⟩ := wd_post hFc ht hB
  generalize H1 = H at hP hS ⊢
  obtain rfl : f_X9_root (((((((2000000 : Int64) * x1.toInt64) / ((f_X2_pitchDiameter S o1).toInt64)) * (1000000 : Int64)) / ((f_X2_pitchDiameter S o1).toInt64)) * (100000 : Int64)) / ((S.I o1 4).toInt64)) = r13 := c14.symm
  refine lv_lstore (lv' := [(8, .long (f_X9_root (((((((2000000 : Int64) * x1.toInt64) / ((f_X2_pitchDiameter S o1).toInt64)) * (1000000 : Int64)) / ((f_X2_pitchDiameter S o1).toInt64)) * (100000 : Int64)) / ((S.I o1 4).toInt64)))), (6, .long (((((((2000000 : Int64) * x1.toInt64) / ((f_X2_pitchDiameter S o1).toInt64)) * (((S.I o1 1) + (20 : Int32)).toInt64)) / ((S.I o1 1).toInt64)) * (1000000 : Int64)) / (((S.I o1 4).toInt64) * ((S.I o1 2).toInt64)))), (4, .long (((2000000 : Int64) * x1.toInt64) / ((f_X2_pitchDiameter S o1).toInt64))), (2, .long ((f_X2_pitchDiameter S o1).toInt64)), (0, .ref o1), (1, .int x1)]) hx hb dX2_bearsTorque_72 hl (by decide) rfl (fun ls hl => ?_)
  refine lv_aload_n hx hb dX2_bearsTorque_74 rfl (lv_at hl 4 rfl) ?_
  obtain ⟨k15, gk15, hk15⟩ := wGt (cy := cy) X S h_o1.1 h_o1.2.1
  refine va_get (D := D) (ci := 6) (v := .int (S.I o1 15)) (C := RX2) (T := TX2) (N := 20) hx hb hts hi_X2_bearsTorque_X2 hown hK hP k15 hk15 rfl 15 (by decide) (hts (.fieldLink RX2 116 "Hobhouse$Gear" "caseDepth" "I") (by decide +kernel)) (fun _ h9 => h9) rfl dX2_bearsTorque_75 ?_
  refine lv_if_ne (tgt := 105) hx hb dX2_bearsTorque_78 (by decide) (fun c16 => ?_) (fun c16 => ?_)
  · have c16i : ¬ (S.I o1 15).toInt = 0 := neq_v rfl rfl c16
    refine lv_aload_n hx hb dX2_bearsTorque_105 rfl (lv_at hl 4 rfl) ?_
    obtain ⟨k17, gk17, hk17⟩ := wGt (cy := cy) X S h_o1.1 h_o1.2.1
    refine va_get (D := D) (ci := 6) (v := .int (S.I o1 15)) (C := RX2) (T := TX2) (N := 20) hx hb hts hi_X2_bearsTorque_X2 hown hK hP k17 hk17 rfl 15 (by decide) (hts (.fieldLink RX2 116 "Hobhouse$Gear" "caseDepth" "I") (by decide +kernel)) (fun _ h9 => h9) rfl dX2_bearsTorque_106 ?_
    refine lv_aload_n hx hb dX2_bearsTorque_109 rfl (lv_at hl 4 rfl) ?_
    obtain ⟨k18, gk18, hk18⟩ := wGt (cy := cy) X S h_o1.1 h_o1.2.1
    refine va_get (D := D) (ci := 6) (v := .int (S.I o1 2)) (C := RX2) (T := TX2) (N := 20) hx hb hts hi_X2_bearsTorque_X2 hown hK hP k18 hk18 rfl 2 (by decide) (hts (.fieldLink RX2 18 "Hobhouse$Gear" "module" "I") (by decide +kernel)) (fun _ h9 => h9) rfl dX2_bearsTorque_110 ?_
    refine lv_bipush (v := 6) hx hb dX2_bearsTorque_113 (by decide +kernel) ?_
    refine lv_idiv hx hb dX2_bearsTorque_115 (by decide) ?_
    refine lv_icmp_ge (tgt := 143) hx hb dX2_bearsTorque_116 (by decide) (fun c19 => ?_) (fun c19 => ?_)
    · have c19i : ((S.I o1 2) / (6 : Int32)).toInt ≤ (S.I o1 15).toInt := le_v rfl rfl c19
      refine lv_lload hx hb dX2_bearsTorque_143 (lv_at hl 1 rfl) ?_
      refine lv_ldc2 (own := RX2) (v := 400) hx hb hown (hts (.constantLong RX2 157 (400)) (by decide +kernel)) dX2_bearsTorque_145 ?_
      refine W.lcmp hx hb dX2_bearsTorque_148 ?_
      refine lv_if_gt (tgt := 165) hx hb dX2_bearsTorque_149 (by decide) (fun c20 => ?_) (fun c20 => ?_)
      · refine lv_iconst (v := 0) hx hb dX2_bearsTorque_165 (by decide) ?_
        refine W.widen (k := 0) (n := 0) (Nat.le_of_ble_eq_true rfl) (Nat.le_of_ble_eq_true rfl) ?_
        exact W.zret (v := (0 : Int32)) hx hb hr (by rfl) (fun t ht hW9 => ⟨⟨(0 : Int32), (), rfl, (by show (0 : Int32) = f_X2_bearsTorque S o1 x1; unfold f_X2_bearsTorque; rw [if_neg c16, if_pos c19, if_pos c20]), wd_end hP hK hD ht hW9.alike⟩, hS.F ht⟩) hS.2.2 dX2_bearsTorque_166 hlocks
      · refine lv_lload hx hb dX2_bearsTorque_152 (lv_at hl 0 rfl) ?_
        refine lv_ldc2 (own := RX2) (v := 1400) hx hb hown (hts (.constantLong RX2 159 (1400)) (by decide +kernel)) dX2_bearsTorque_154 ?_
        refine W.lcmp hx hb dX2_bearsTorque_157 ?_
        refine lv_if_gt (tgt := 165) hx hb dX2_bearsTorque_158 (by decide) (fun c21 => ?_) (fun c21 => ?_)
        · refine lv_iconst (v := 0) hx hb dX2_bearsTorque_165 (by decide) ?_
          refine W.widen (k := 0) (n := 0) (Nat.le_of_ble_eq_true rfl) (Nat.le_of_ble_eq_true rfl) ?_
          exact W.zret (v := (0 : Int32)) hx hb hr (by rfl) (fun t ht hW9 => ⟨⟨(0 : Int32), (), rfl, (by show (0 : Int32) = f_X2_bearsTorque S o1 x1; unfold f_X2_bearsTorque; rw [if_neg c16, if_pos c19, if_neg c20, if_pos c21]), wd_end hP hK hD ht hW9.alike⟩, hS.F ht⟩) hS.2.2 dX2_bearsTorque_166 hlocks
        · refine lv_iconst (v := 1) hx hb dX2_bearsTorque_161 (by decide) ?_
          refine lv_goto (tgt := 166) hx hb dX2_bearsTorque_162 (by decide) ?_
          refine W.widen (k := 0) (n := 0) (Nat.le_of_ble_eq_true rfl) (Nat.le_of_ble_eq_true rfl) ?_
          exact W.zret (v := (1 : Int32)) hx hb hr (by rfl) (fun t ht hW9 => ⟨⟨(1 : Int32), (), rfl, (by show (1 : Int32) = f_X2_bearsTorque S o1 x1; unfold f_X2_bearsTorque; rw [if_neg c16, if_pos c19, if_neg c20, if_neg c21]), wd_end hP hK hD ht hW9.alike⟩, hS.F ht⟩) hS.2.2 dX2_bearsTorque_166 hlocks
    · have c19i : (S.I o1 15).toInt < ((S.I o1 2) / (6 : Int32)).toInt := nle_v rfl rfl c19
      refine lv_lload hx hb dX2_bearsTorque_119 (lv_at hl 1 rfl) ?_
      refine lv_ldc2 (own := RX2) (v := 300) hx hb hown (hts (.constantLong RX2 153 (300)) (by decide +kernel)) dX2_bearsTorque_121 ?_
      refine W.lcmp hx hb dX2_bearsTorque_124 ?_
      refine lv_if_gt (tgt := 141) hx hb dX2_bearsTorque_125 (by decide) (fun c22 => ?_) (fun c22 => ?_)
      · refine lv_iconst (v := 0) hx hb dX2_bearsTorque_141 (by decide) ?_
        refine W.widen (k := 0) (n := 0) (Nat.le_of_ble_eq_true rfl) (Nat.le_of_ble_eq_true rfl) ?_
        exact W.zret (v := (0 : Int32)) hx hb hr (by rfl) (fun t ht hW9 => ⟨⟨(0 : Int32), (), rfl, (by show (0 : Int32) = f_X2_bearsTorque S o1 x1; unfold f_X2_bearsTorque; rw [if_neg c16, if_neg c19, if_pos c22]), wd_end hP hK hD ht hW9.alike⟩, hS.F ht⟩) hS.2.2 dX2_bearsTorque_142 hlocks
      · refine lv_lload hx hb dX2_bearsTorque_128 (lv_at hl 0 rfl) ?_
        refine lv_ldc2 (own := RX2) (v := 1000) hx hb hown (hts (.constantLong RX2 155 (1000)) (by decide +kernel)) dX2_bearsTorque_130 ?_
        refine W.lcmp hx hb dX2_bearsTorque_133 ?_
        refine lv_if_gt (tgt := 141) hx hb dX2_bearsTorque_134 (by decide) (fun c23 => ?_) (fun c23 => ?_)
        · refine lv_iconst (v := 0) hx hb dX2_bearsTorque_141 (by decide) ?_
          refine W.widen (k := 0) (n := 0) (Nat.le_of_ble_eq_true rfl) (Nat.le_of_ble_eq_true rfl) ?_
          exact W.zret (v := (0 : Int32)) hx hb hr (by rfl) (fun t ht hW9 => ⟨⟨(0 : Int32), (), rfl, (by show (0 : Int32) = f_X2_bearsTorque S o1 x1; unfold f_X2_bearsTorque; rw [if_neg c16, if_neg c19, if_neg c22, if_pos c23]), wd_end hP hK hD ht hW9.alike⟩, hS.F ht⟩) hS.2.2 dX2_bearsTorque_142 hlocks
        · refine lv_iconst (v := 1) hx hb dX2_bearsTorque_137 (by decide) ?_
          refine lv_goto (tgt := 142) hx hb dX2_bearsTorque_138 (by decide) ?_
          refine W.widen (k := 0) (n := 0) (Nat.le_of_ble_eq_true rfl) (Nat.le_of_ble_eq_true rfl) ?_
          exact W.zret (v := (1 : Int32)) hx hb hr (by rfl) (fun t ht hW9 => ⟨⟨(1 : Int32), (), rfl, (by show (1 : Int32) = f_X2_bearsTorque S o1 x1; unfold f_X2_bearsTorque; rw [if_neg c16, if_neg c19, if_neg c22, if_neg c23]), wd_end hP hK hD ht hW9.alike⟩, hS.F ht⟩) hS.2.2 dX2_bearsTorque_142 hlocks
  · have c16i : (S.I o1 15).toInt = 0 := eq_v rfl rfl c16
    refine lv_lload hx hb dX2_bearsTorque_81 (lv_at hl 1 rfl) ?_
    refine lv_ldc2 (own := RX2) (v := 200) hx hb hown (hts (.constantLong RX2 149 (200)) (by decide +kernel)) dX2_bearsTorque_83 ?_
    refine W.lcmp hx hb dX2_bearsTorque_86 ?_
    refine lv_if_gt (tgt := 103) hx hb dX2_bearsTorque_87 (by decide) (fun c24 => ?_) (fun c24 => ?_)
    · refine lv_iconst (v := 0) hx hb dX2_bearsTorque_103 (by decide) ?_
      refine W.widen (k := 0) (n := 0) (Nat.le_of_ble_eq_true rfl) (Nat.le_of_ble_eq_true rfl) ?_
      exact W.zret (v := (0 : Int32)) hx hb hr (by rfl) (fun t ht hW9 => ⟨⟨(0 : Int32), (), rfl, (by show (0 : Int32) = f_X2_bearsTorque S o1 x1; unfold f_X2_bearsTorque; rw [if_pos c16, if_pos c24]), wd_end hP hK hD ht hW9.alike⟩, hS.F ht⟩) hS.2.2 dX2_bearsTorque_104 hlocks
    · refine lv_lload hx hb dX2_bearsTorque_90 (lv_at hl 0 rfl) ?_
      refine lv_ldc2 (own := RX2) (v := 600) hx hb hown (hts (.constantLong RX2 151 (600)) (by decide +kernel)) dX2_bearsTorque_92 ?_
      refine W.lcmp hx hb dX2_bearsTorque_95 ?_
      refine lv_if_gt (tgt := 103) hx hb dX2_bearsTorque_96 (by decide) (fun c25 => ?_) (fun c25 => ?_)
      · refine lv_iconst (v := 0) hx hb dX2_bearsTorque_103 (by decide) ?_
        refine W.widen (k := 0) (n := 0) (Nat.le_of_ble_eq_true rfl) (Nat.le_of_ble_eq_true rfl) ?_
        exact W.zret (v := (0 : Int32)) hx hb hr (by rfl) (fun t ht hW9 => ⟨⟨(0 : Int32), (), rfl, (by show (0 : Int32) = f_X2_bearsTorque S o1 x1; unfold f_X2_bearsTorque; rw [if_pos c16, if_neg c24, if_pos c25]), wd_end hP hK hD ht hW9.alike⟩, hS.F ht⟩) hS.2.2 dX2_bearsTorque_104 hlocks
      · refine lv_iconst (v := 1) hx hb dX2_bearsTorque_99 (by decide) ?_
        refine lv_goto (tgt := 104) hx hb dX2_bearsTorque_100 (by decide) ?_
        refine W.widen (k := 0) (n := 0) (Nat.le_of_ble_eq_true rfl) (Nat.le_of_ble_eq_true rfl) ?_
        exact W.zret (v := (1 : Int32)) hx hb hr (by rfl) (fun t ht hW9 => ⟨⟨(1 : Int32), (), rfl, (by show (1 : Int32) = f_X2_bearsTorque S o1 x1; unfold f_X2_bearsTorque; rw [if_pos c16, if_neg c24, if_neg c25]), wd_end hP hK hD ht hW9.alike⟩, hS.F ht⟩) hS.2.2 dX2_bearsTorque_104 hlocks
def f_X2_borneTorque_L7 (S : wPS) (o1 : Nat) : Nat → Int32 → Int32 → Int32 → Int32 × Int32 × Int32
  | 0, w7_1, w7_2, w7_3 => (w7_1, w7_2, w7_3)
  | n + 1, w7_1, w7_2, w7_3 => if (32 : Int32) ≤ w7_3 then (w7_1, w7_2, w7_3) else if w7_2 ≤ w7_1 then (w7_1, w7_2, w7_3) else if (f_X2_bearsTorque S o1 (((w7_1 + w7_2) + (1 : Int32)) / (2 : Int32))) = (0 : Int32) then f_X2_borneTorque_L7 S o1 n w7_1 ((((w7_1 + w7_2) + (1 : Int32)) / (2 : Int32)) - (1 : Int32)) (w7_3 + (1 : Int32)) else f_X2_borneTorque_L7 S o1 n (((w7_1 + w7_2) + (1 : Int32)) / (2 : Int32)) w7_2 (w7_3 + (1 : Int32))
theorem f_X2_borneTorque_L7_s (S : wPS) (o1 : Nat) (n : Nat) (w7_1 : Int32) (w7_2 : Int32) (w7_3 : Int32) : f_X2_borneTorque_L7 S o1 (n + 1) w7_1 w7_2 w7_3 = if (32 : Int32) ≤ w7_3 then (w7_1, w7_2, w7_3) else if w7_2 ≤ w7_1 then (w7_1, w7_2, w7_3) else if (f_X2_bearsTorque S o1 (((w7_1 + w7_2) + (1 : Int32)) / (2 : Int32))) = (0 : Int32) then f_X2_borneTorque_L7 S o1 n w7_1 ((((w7_1 + w7_2) + (1 : Int32)) / (2 : Int32)) - (1 : Int32)) (w7_3 + (1 : Int32)) else f_X2_borneTorque_L7 S o1 n (((w7_1 + w7_2) + (1 : Int32)) / (2 : Int32)) w7_2 (w7_3 + (1 : Int32)) := rfl
def f_X2_borneTorque (S : wPS) (o1 : Nat) : Int32 := l3 (f_X2_borneTorque_L7 S o1 33 (0 : Int32) (100000 : Int32) (0 : Int32)) (fun z17 z18 z19 => z17)
theorem hd_X2_borneTorque : yX2_borneTorque.cls = RX2 ∧ yX2_borneTorque.cls ≠ "java/lang/invoke/MethodHandle" ∧ yX2_borneTorque.cls ≠ "java/lang/invoke/VarHandle" ∧ (parseMethodDescriptor yX2_borneTorque.desc).map (fun d => d.parameters.length) = some 0 := by decide +kernel
set_option maxHeartbeats 4000000 in
set_option maxRecDepth 100000 in
theorem c_X2_borneTorque (l : Launch) {D : va_G} {cy : Nat → ClassId} {X : va_W} (S : wPS) (sz : Nat) (o1 : Nat) (h_o1 : isA S o1 2) (hW : wtB S [])  : Met l yX2_borneTorque wsX2_borneTorque ({ frames := 2, cells := 0, slots := 0, locals := 55 }) (va_Pc [.ref o1] (fun U => U.heap.size = sz ∧ WD D cy X (fun _ => True) S U ∧ NW U)) (va_Qi (fun r (_ : Unit) => r = f_X2_borneTorque S o1 ∧ 0 ≤ r.toInt ∧ r.toInt ≤ 100000) (fun _ t => WD D cy X (va_A (X ++ PL cy S) sz) S t) (va_A (X ++ PL cy S) sz)) 0 0 (va_A (X ++ PL cy S) sz) := by
  refine Met.ofW (cc := cX2_borneTorque) (maxL := 5) (ret := (some .int)) (by decide) rfl ?_
  intro p e s m args below meth c s₁ B hml hv
  obtain ⟨rfl, hsz, ⟨hP, hK, hD0⟩, hN⟩ := hv
  have hx := B.exec
  have hb := B.bytes
  have hr := B.returns
  have hts := atoms_spec (ws := wsX2_borneTorque) B.pre
  have hown : s.vm.findClass RX2 = some m.cls := findClass_of_methodNamed (x := yX2_borneTorque) B.named
  have hlocks := B.notSynchronized
  subst hsz
  have hD := hD0.self (sz := s.heap.size)
  generalize hAe : va_A (X ++ PL cy S) s.heap.size = A at hD ⊢
  have hA : ∀ q : Nat, s.heap.size ≤ q → A q := fun q h => by rw [← hAe]; exact Or.inr h
  have hS : va_S A s.heap s.heap [] := va_S.rf
  have hl := lv_entry ([.ref o1]) (n := 5) (Nat.le_of_ble_eq_true rfl)
  rw [lg_entry_eq]
  generalize (lg_sl ([.ref o1]) ++ List.replicate (5 - (lg_sl ([.ref o1])).length) Slot.unset).toArray = ls at hl ⊢
  have hl : lv_has ls 5 [(0, .ref o1)] := hl
  refine lv_iconst (v := 0) hx hb dX2_borneTorque_0 (by decide) ?_
  refine lv_istore_n (lv' := [(1, .int (0 : Int32)), (0, .ref o1)]) hx hb dX2_borneTorque_1 rfl hl (by decide) rfl (fun ls hl => ?_)
  refine lv_ldc (own := RX2) (v := 100000) hx hb hown (hts (.constant RX2 140 (100000)) (by decide +kernel)) dX2_borneTorque_2 ?_
  refine lv_istore_n (lv' := [(2, .int (100000 : Int32)), (1, .int (0 : Int32)), (0, .ref o1)]) hx hb dX2_borneTorque_4 rfl hl (by decide) rfl (fun ls hl => ?_)
  refine lv_iconst (v := 0) hx hb dX2_borneTorque_5 (by decide) ?_
  refine lv_istore_n (lv' := [(3, .int (0 : Int32)), (2, .int (100000 : Int32)), (1, .int (0 : Int32)), (0, .ref o1)]) hx hb dX2_borneTorque_6 rfl hl (by decide) rfl (fun ls hl => ?_)
  have l32_0 : (0 : Int32).toInt = 0 := rfl
  have l32_100000 : (100000 : Int32).toInt = 100000 := rfl
  have loop7 : ∀ (n : Nat) (w7_1 : Int32) (w7_2 : Int32) (w7_3 : Int32) (H : Heap) (locs : List Loc) (ls : Array Slot), (32 - w7_3.toInt).toNat < n → 0 ≤ w7_3.toInt ∧ w7_3.toInt ≤ 32 ∧ 0 ≤ w7_1.toInt ∧ w7_1.toInt ≤ w7_2.toInt ∧ w7_2.toInt ≤ 100000 → va_P D vwCl (X ++ PL cy S) H → va_S A s.heap H locs → lv_has ls 5 [(3, .int w7_3), (2, .int w7_2), (1, .int w7_1), (0, .ref o1)] → (∀ (w7_1x : Int32) (w7_2x : Int32) (w7_3x : Int32) (H : Heap) (locs : List Loc) (ls : Array Slot), 0 ≤ w7_3x.toInt ∧ w7_3x.toInt ≤ 32 ∧ 0 ≤ w7_1x.toInt ∧ w7_1x.toInt ≤ w7_2x.toInt ∧ w7_2x.toInt ≤ 100000 → va_P D vwCl (X ++ PL cy S) H → va_S A s.heap H locs → lv_has ls 5 [(3, .int w7_3x), (2, .int w7_2x), (1, .int w7_1x), (0, .ref o1)] → f_X2_borneTorque_L7 S o1 n w7_1 w7_2 w7_3 = (w7_1x, w7_2x, w7_3x) → W p l e (headSpec wsX2_borneTorque ({ frames := 2, cells := 0, slots := 0, locals := 55 } : Room)).room s m [.ref o1].toArray below meth c H locs 0 0 (MQ below (va_Qi (fun r (_ : Unit) => r = f_X2_borneTorque S o1 ∧ 0 ≤ r.toInt ∧ r.toInt ≤ 100000) (fun _ t => WD D cy X A S t) A) [.ref o1].toArray s 0 0 A) (F0 m 53 ls [])) → W p l e (headSpec wsX2_borneTorque ({ frames := 2, cells := 0, slots := 0, locals := 55 } : Room)).room s m [.ref o1].toArray below meth c H locs 0 0 (MQ below (va_Qi (fun r (_ : Unit) => r = f_X2_borneTorque S o1 ∧ 0 ≤ r.toInt ∧ r.toInt ≤ 100000) (fun _ t => WD D cy X A S t) A) [.ref o1].toArray s 0 0 A) (F0 m 7 ls []) := by
    intro n7
    induction n7 with
    | zero => intro w7_1 w7_2 w7_3 H locs ls hm; exact absurd hm (Nat.not_lt_zero _)
    | succ n7 ih7 =>
      intro w7_1 w7_2 w7_3 H locs ls hm7 hi7 hP hS hl ko7
      refine lv_iload_n hx hb dX2_borneTorque_7 rfl (lv_at hl 0 rfl) ?_
      refine lv_bipush (v := 32) hx hb dX2_borneTorque_8 (by decide +kernel) ?_
      refine lv_icmp_ge (tgt := 53) hx hb dX2_borneTorque_10 (by decide) (fun c1 => ?_) (fun c1 => ?_)
      · have c1i : 32 ≤ w7_3.toInt := le_v rfl rfl c1
        exact ko7 w7_1 w7_2 w7_3 _ _ _ (by omega) hP hS (lv_sub hl [0, 1, 2, 3] rfl) (by rw [f_X2_borneTorque_L7_s, if_pos c1])
      · have c1i : w7_3.toInt < 32 := nle_v rfl rfl c1
        refine lv_iload_n hx hb dX2_borneTorque_13 rfl (lv_at hl 2 rfl) ?_
        refine lv_iload_n hx hb dX2_borneTorque_14 rfl (lv_at hl 1 rfl) ?_
        refine lv_icmp_ge (tgt := 53) hx hb dX2_borneTorque_15 (by decide) (fun c2 => ?_) (fun c2 => ?_)
        · have c2i : w7_2.toInt ≤ w7_1.toInt := le_v rfl rfl c2
          exact ko7 w7_1 w7_2 w7_3 _ _ _ (by omega) hP hS (lv_sub hl [0, 1, 2, 3] rfl) (by rw [f_X2_borneTorque_L7_s, if_neg c1, if_pos c2])
        · have c2i : w7_1.toInt < w7_2.toInt := nle_v rfl rfl c2
          refine lv_iload_n hx hb dX2_borneTorque_18 rfl (lv_at hl 2 rfl) ?_
          refine lv_iload_n hx hb dX2_borneTorque_19 rfl (lv_at hl 1 rfl) ?_
          refine lv_iadd hx hb dX2_borneTorque_20 ?_
          refine lv_iconst (v := 1) hx hb dX2_borneTorque_21 (by decide) ?_
          refine lv_iadd hx hb dX2_borneTorque_22 ?_
          refine lv_iconst (v := 2) hx hb dX2_borneTorque_23 (by decide) ?_
          refine lv_idiv hx hb dX2_borneTorque_24 (by decide) ?_
          refine lv_istore (lv' := [(4, .int (((w7_1 + w7_2) + (1 : Int32)) / (2 : Int32))), (3, .int w7_3), (2, .int w7_2), (1, .int w7_1), (0, .ref o1)]) hx hb dX2_borneTorque_25 hl (by decide) rfl (fun ls hl => ?_)
          refine lv_aload_n hx hb dX2_borneTorque_27 rfl (lv_at hl 4 rfl) ?_
          refine lv_iload hx hb dX2_borneTorque_28 (lv_at hl 0 rfl) ?_
          have l32_1 : (1 : Int32).toInt = 1 := rfl
          have l32_2 : (2 : Int32).toInt = 2 := rfl
          have hFc := free_all hD hS hA
          obtain ⟨k3, gk3, hk3⟩ := wGt (cy := cy) X S h_o1.1 h_o1.2.1
          refine va_calli (va_runV (As := [.int (((w7_1 + w7_2) + (1 : Int32)) / (2 : Int32))]) (rest := []) ⟨hx, hb, hml, hown, hts⟩ (c_X2_bearsTorque l (cy := cy) (X := X) (D := D) S _ o1 h_o1 (((w7_1 + w7_2) + (1 : Int32)) / (2 : Int32)) (hW)) (cwV 1 hts gX2_borneTorque_X2_bearsTorque rfl rfl rfl hd_X2_bearsTorque ⟨Nat.le_of_ble_eq_true rfl, Nat.le_of_ble_eq_true rfl⟩) (pV (va_recv hK hP (q := (RX2, TX2, 20)) (ci := 6) (q0 := k3) rfl hk3) hP hK hD hN) rfl rfl hl.1 rfl (lv_room (Nat.le_of_ble_eq_true rfl)) dX2_borneTorque_30 ⟨(Nat.zero_le _), (Nat.zero_le _)⟩) hS (fun q _ h => hFc q h) hFc (fun r4 u t H1 locs ht hvm hw hB hz1 hk1 hS => ?_)
          have c5 := hw
          obtain ⟨hP, hD⟩ := wd_post hFc ht hB
          generalize H1 = H at hP hS ⊢
          obtain rfl : f_X2_bearsTorque S o1 (((w7_1 + w7_2) + (1 : Int32)) / (2 : Int32)) = r4 := c5.symm
          refine lv_if_eq (tgt := 42) hx hb dX2_borneTorque_33 (by decide) (fun c6 => ?_) (fun c6 => ?_)
          · have c6i : (f_X2_bearsTorque S o1 (((w7_1 + w7_2) + (1 : Int32)) / (2 : Int32))).toInt = 0 := eq_v rfl rfl c6
            refine lv_iload hx hb dX2_borneTorque_42 (lv_at hl 0 rfl) ?_
            refine lv_iconst (v := 1) hx hb dX2_borneTorque_44 (by decide) ?_
            refine lv_isub hx hb dX2_borneTorque_45 ?_
            refine lv_istore_n (lv' := [(2, .int ((((w7_1 + w7_2) + (1 : Int32)) / (2 : Int32)) - (1 : Int32))), (4, .int (((w7_1 + w7_2) + (1 : Int32)) / (2 : Int32))), (3, .int w7_3), (1, .int w7_1), (0, .ref o1)]) hx hb dX2_borneTorque_46 rfl hl (by decide) rfl (fun ls hl => ?_)
            refine lv_iinc (v := w7_3 + (1 : Int32)) (lv' := [(3, .int (w7_3 + (1 : Int32))), (2, .int ((((w7_1 + w7_2) + (1 : Int32)) / (2 : Int32)) - (1 : Int32))), (4, .int (((w7_1 + w7_2) + (1 : Int32)) / (2 : Int32))), (1, .int w7_1), (0, .ref o1)]) hx hb dX2_borneTorque_47 hl (k := 2) rfl (by rfl) (by decide) rfl (fun ls hl => ?_)
            refine lv_goto (tgt := 7) hx hb dX2_borneTorque_50 (by decide) ?_
            have i7 : (w7_1 + w7_2).toInt = w7_1.toInt + w7_2.toInt := t_add (by omega)
            have i8 : ((w7_1 + w7_2) + (1 : Int32)).toInt = (w7_1 + w7_2).toInt + 1 := t_addr (n := 1) rfl (by omega)
            have i9 : (((w7_1 + w7_2) + (1 : Int32)) / (2 : Int32)).toInt = ((w7_1 + w7_2) + (1 : Int32)).toInt / 2 := t_divl rfl (by omega) (by omega)
            have i10 : ((((w7_1 + w7_2) + (1 : Int32)) / (2 : Int32)) - (1 : Int32)).toInt = (((w7_1 + w7_2) + (1 : Int32)) / (2 : Int32)).toInt - 1 := t_subr (n := 1) rfl (by omega)
            have i11 : (w7_3 + (1 : Int32)).toInt = w7_3.toInt + 1 := t_addr (n := 1) rfl (by omega)
            exact ih7 w7_1 ((((w7_1 + w7_2) + (1 : Int32)) / (2 : Int32)) - (1 : Int32)) (w7_3 + (1 : Int32)) _ _ _ (Nat.lt_of_lt_of_le (by omega) (Nat.le_of_lt_succ hm7)) (by omega) hP hS (lv_sub hl [0, 1, 3, 4] rfl) (fun w7_1y w7_2y w7_3y H9 locs9 ls9 i9 P9 S9 l9 hfe => ko7 w7_1y w7_2y w7_3y H9 locs9 ls9 i9 P9 S9 l9 (Eq.trans (by rw [f_X2_borneTorque_L7_s, if_neg c1, if_neg c2, if_pos c6]) hfe))
          · have c6i : ¬ (f_X2_bearsTorque S o1 (((w7_1 + w7_2) + (1 : Int32)) / (2 : Int32))).toInt = 0 := neq_v rfl rfl c6
            refine lv_iload hx hb dX2_borneTorque_36 (lv_at hl 0 rfl) ?_
            refine lv_istore_n (lv' := [(1, .int (((w7_1 + w7_2) + (1 : Int32)) / (2 : Int32))), (4, .int (((w7_1 + w7_2) + (1 : Int32)) / (2 : Int32))), (3, .int w7_3), (2, .int w7_2), (0, .ref o1)]) hx hb dX2_borneTorque_38 rfl hl (by decide) rfl (fun ls hl => ?_)
            refine lv_goto (tgt := 47) hx hb dX2_borneTorque_39 (by decide) ?_
            refine lv_iinc (v := w7_3 + (1 : Int32)) (lv' := [(3, .int (w7_3 + (1 : Int32))), (1, .int (((w7_1 + w7_2) + (1 : Int32)) / (2 : Int32))), (4, .int (((w7_1 + w7_2) + (1 : Int32)) / (2 : Int32))), (2, .int w7_2), (0, .ref o1)]) hx hb dX2_borneTorque_47 hl (k := 2) rfl (by rfl) (by decide) rfl (fun ls hl => ?_)
            refine lv_goto (tgt := 7) hx hb dX2_borneTorque_50 (by decide) ?_
            have i12 : (w7_1 + w7_2).toInt = w7_1.toInt + w7_2.toInt := t_add (by omega)
            have i13 : ((w7_1 + w7_2) + (1 : Int32)).toInt = (w7_1 + w7_2).toInt + 1 := t_addr (n := 1) rfl (by omega)
            have i14 : (((w7_1 + w7_2) + (1 : Int32)) / (2 : Int32)).toInt = ((w7_1 + w7_2) + (1 : Int32)).toInt / 2 := t_divl rfl (by omega) (by omega)
            have i15 : (w7_3 + (1 : Int32)).toInt = w7_3.toInt + 1 := t_addr (n := 1) rfl (by omega)
            exact ih7 (((w7_1 + w7_2) + (1 : Int32)) / (2 : Int32)) w7_2 (w7_3 + (1 : Int32)) _ _ _ (Nat.lt_of_lt_of_le (by omega) (Nat.le_of_lt_succ hm7)) (by omega) hP hS (lv_sub hl [0, 3, 1, 4] rfl) (fun w7_1y w7_2y w7_3y H9 locs9 ls9 i9 P9 S9 l9 hfe => ko7 w7_1y w7_2y w7_3y H9 locs9 ls9 i9 P9 S9 l9 (Eq.trans (by rw [f_X2_borneTorque_L7_s, if_neg c1, if_neg c2, if_neg c6]) hfe))
  refine loop7 33 (0 : Int32) (100000 : Int32) (0 : Int32) _ _ _ (by omega) (by omega) hP hS (lv_sub hl [0, 1, 2, 3] rfl) (fun z17 z18 z19 H locs ls hi7 hP hS hl c16 => ?_)
  refine lv_iload_n hx hb dX2_borneTorque_53 rfl (lv_at hl 2 rfl) ?_
  refine W.widen (k := 0) (n := 0) (Nat.le_of_ble_eq_true rfl) (Nat.le_of_ble_eq_true rfl) ?_
  exact W.iret (v := z17) hx hb hr (fun t ht hW9 => ⟨⟨z17, (), rfl, ⟨(by show z17 = f_X2_borneTorque S o1; unfold f_X2_borneTorque; rw [l3_eq c16]), (by omega)⟩, wd_end hP hK hD ht hW9.alike⟩, hS.F ht⟩) hS.2.2 dX2_borneTorque_54 hlocks
def f_X2_lifeUnder_L24 (S : wPS) (o1 : Nat) (x1 : Int64) : Nat → Int64 → Int32 → Int64 × Int32
  | 0, w24_5, w24_7 => (w24_5, w24_7)
  | n + 1, w24_5, w24_7 => if (6 : Int32) ≤ w24_7 then (w24_5, w24_7) else f_X2_lifeUnder_L24 S o1 x1 n ((w24_5 * ((f_X2_borneTorque S o1).toInt64)) / x1) (w24_7 + (1 : Int32))
theorem f_X2_lifeUnder_L24_s (S : wPS) (o1 : Nat) (x1 : Int64) (n : Nat) (w24_5 : Int64) (w24_7 : Int32) : f_X2_lifeUnder_L24 S o1 x1 (n + 1) w24_5 w24_7 = if (6 : Int32) ≤ w24_7 then (w24_5, w24_7) else f_X2_lifeUnder_L24 S o1 x1 n ((w24_5 * ((f_X2_borneTorque S o1).toInt64)) / x1) (w24_7 + (1 : Int32)) := rfl
def f_X2_lifeUnder (S : wPS) (o1 : Nat) (x1 : Int64) : Int64 := if (0 : Int32) < (lg_cmp x1 ((f_X2_borneTorque S o1).toInt64)) then l2 (f_X2_lifeUnder_L24 S o1 x1 7 (1000000 : Int64) (0 : Int32)) (fun z10 z11 => z10) else (-1 : Int64)
theorem hd_X2_lifeUnder : yX2_lifeUnder.cls = RX2 ∧ yX2_lifeUnder.cls ≠ "java/lang/invoke/MethodHandle" ∧ yX2_lifeUnder.cls ≠ "java/lang/invoke/VarHandle" ∧ (parseMethodDescriptor yX2_lifeUnder.desc).map (fun d => d.parameters.length) = some 1 := by decide +kernel
set_option maxHeartbeats 4000000 in
set_option maxRecDepth 100000 in
theorem c_X2_lifeUnder (l : Launch) {D : va_G} {cy : Nat → ClassId} {X : va_W} (S : wPS) (sz : Nat) (o1 : Nat) (h_o1 : isA S o1 2) (x1 : Int64) (hW : wtB S [])  : Met l yX2_lifeUnder wsX2_lifeUnder ({ frames := 3, cells := 0, slots := 0, locals := 79 }) (va_Pc [.ref o1, .long x1] (fun U => U.heap.size = sz ∧ WD D cy X (fun _ => True) S U ∧ NW U)) (va_Ql (fun r (_ : Unit) => r = f_X2_lifeUnder S o1 x1) (fun _ t => WD D cy X (va_A (X ++ PL cy S) sz) S t) (va_A (X ++ PL cy S) sz)) 0 0 (va_A (X ++ PL cy S) sz) := by
  refine Met.ofW (cc := cX2_lifeUnder) (maxL := 8) (ret := (some .long)) (by decide) rfl ?_
  intro p e s m args below meth c s₁ B hml hv
  obtain ⟨rfl, hsz, ⟨hP, hK, hD0⟩, hN⟩ := hv
  have hx := B.exec
  have hb := B.bytes
  have hr := B.returns
  have hts := atoms_spec (ws := wsX2_lifeUnder) B.pre
  have hown : s.vm.findClass RX2 = some m.cls := findClass_of_methodNamed (x := yX2_lifeUnder) B.named
  have hlocks := B.notSynchronized
  subst hsz
  have hD := hD0.self (sz := s.heap.size)
  generalize hAe : va_A (X ++ PL cy S) s.heap.size = A at hD ⊢
  have hA : ∀ q : Nat, s.heap.size ≤ q → A q := fun q h => by rw [← hAe]; exact Or.inr h
  have hS : va_S A s.heap s.heap [] := va_S.rf
  have hl := lv_entry ([.ref o1, .long x1]) (n := 8) (Nat.le_of_ble_eq_true rfl)
  rw [lg_entry_eq]
  generalize (lg_sl ([.ref o1, .long x1]) ++ List.replicate (8 - (lg_sl ([.ref o1, .long x1])).length) Slot.unset).toArray = ls at hl ⊢
  have hl : lv_has ls 8 [(0, .ref o1), (1, .long x1)] := hl
  refine lv_aload_n hx hb dX2_lifeUnder_0 rfl (lv_at hl 0 rfl) ?_
  have hFc := free_all hD hS hA
  obtain ⟨k1, gk1, hk1⟩ := wGt (cy := cy) X S h_o1.1 h_o1.2.1
  refine va_calli (va_runV (As := []) (rest := []) ⟨hx, hb, hml, hown, hts⟩ (c_X2_borneTorque l (cy := cy) (X := X) (D := D) S _ o1 h_o1 (hW)) (cwV 0 hts gX2_lifeUnder_X2_borneTorque rfl rfl rfl hd_X2_borneTorque ⟨Nat.le_of_ble_eq_true rfl, Nat.le_of_ble_eq_true rfl⟩) (pV (va_recv hK hP (q := (RX2, TX2, 20)) (ci := 6) (q0 := k1) rfl hk1) hP hK hD hN) rfl rfl hl.1 rfl (lv_room (Nat.le_of_ble_eq_true rfl)) dX2_lifeUnder_1 ⟨(Nat.zero_le _), (Nat.zero_le _)⟩) hS (fun q _ h => hFc q h) hFc (fun r2 u t H1 locs ht hvm hw hB hz1 hk1 hS => ?_)
  obtain ⟨c3, y4⟩ := hw
  obtain ⟨hP, hD⟩ := wd_post hFc ht hB
  generalize H1 = H at hP hS ⊢
  obtain rfl : f_X2_borneTorque S o1 = r2 := c3.symm
  refine lv_i2l hx hb dX2_lifeUnder_4 rfl ?_
  refine lv_lstore_n (lv' := [(3, .long ((f_X2_borneTorque S o1).toInt64)), (0, .ref o1), (1, .long x1)]) hx hb dX2_lifeUnder_5 rfl hl (by decide) rfl (fun ls hl => ?_)
  refine lv_lload_n hx hb dX2_lifeUnder_6 rfl (lv_at hl 2 rfl) ?_
  refine lv_lload_n hx hb dX2_lifeUnder_7 rfl (lv_at hl 0 rfl) ?_
  refine W.lcmp hx hb dX2_lifeUnder_8 ?_
  refine lv_if_gt (tgt := 16) hx hb dX2_lifeUnder_9 (by decide) (fun c5 => ?_) (fun c5 => ?_)
  · have c5i := lc_gt c5
    have i6 := i64_i (f_X2_borneTorque S o1)
    refine lv_ldc2 (own := RX2) (v := 1000000) hx hb hown (hts (.constantLong RX2 86 (1000000)) (by decide +kernel)) dX2_lifeUnder_16 ?_
    refine lv_lstore (lv' := [(5, .long (1000000 : Int64)), (3, .long ((f_X2_borneTorque S o1).toInt64)), (0, .ref o1), (1, .long x1)]) hx hb dX2_lifeUnder_19 hl (by decide) rfl (fun ls hl => ?_)
    refine lv_iconst (v := 0) hx hb dX2_lifeUnder_21 (by decide) ?_
    refine lv_istore (lv' := [(7, .int (0 : Int32)), (5, .long (1000000 : Int64)), (3, .long ((f_X2_borneTorque S o1).toInt64)), (0, .ref o1), (1, .long x1)]) hx hb dX2_lifeUnder_22 hl (by decide) rfl (fun ls hl => ?_)
    have l32_0 : (0 : Int32).toInt = 0 := rfl
    have loop24 : ∀ (n : Nat) (w24_5 : Int64) (w24_7 : Int32) (H : Heap) (locs : List Loc) (ls : Array Slot), (6 - w24_7.toInt).toNat < n → 0 ≤ w24_7.toInt ∧ w24_7.toInt ≤ 6 → va_P D vwCl (X ++ PL cy S) H → va_S A s.heap H locs → lv_has ls 8 [(7, .int w24_7), (5, .long w24_5), (3, .long ((f_X2_borneTorque S o1).toInt64)), (0, .ref o1), (1, .long x1)] → (∀ (w24_5x : Int64) (w24_7x : Int32) (H : Heap) (locs : List Loc) (ls : Array Slot), 0 ≤ w24_7x.toInt ∧ w24_7x.toInt ≤ 6 → va_P D vwCl (X ++ PL cy S) H → va_S A s.heap H locs → lv_has ls 8 [(7, .int w24_7x), (5, .long w24_5x), (3, .long ((f_X2_borneTorque S o1).toInt64)), (0, .ref o1), (1, .long x1)] → f_X2_lifeUnder_L24 S o1 x1 n w24_5 w24_7 = (w24_5x, w24_7x) → W p l e (headSpec wsX2_lifeUnder ({ frames := 3, cells := 0, slots := 0, locals := 79 } : Room)).room s m [.ref o1, .long x1].toArray below meth c H locs 0 0 (MQ below (va_Ql (fun r (_ : Unit) => r = f_X2_lifeUnder S o1 x1) (fun _ t => WD D cy X A S t) A) [.ref o1, .long x1].toArray s 0 0 A) (F0 m 45 ls [])) → W p l e (headSpec wsX2_lifeUnder ({ frames := 3, cells := 0, slots := 0, locals := 79 } : Room)).room s m [.ref o1, .long x1].toArray below meth c H locs 0 0 (MQ below (va_Ql (fun r (_ : Unit) => r = f_X2_lifeUnder S o1 x1) (fun _ t => WD D cy X A S t) A) [.ref o1, .long x1].toArray s 0 0 A) (F0 m 24 ls []) := by
      intro n24
      induction n24 with
      | zero => intro w24_5 w24_7 H locs ls hm; exact absurd hm (Nat.not_lt_zero _)
      | succ n24 ih24 =>
        intro w24_5 w24_7 H locs ls hm24 hi24 hP hS hl ko24
        refine lv_iload hx hb dX2_lifeUnder_24 (lv_at hl 0 rfl) ?_
        refine lv_bipush (v := 6) hx hb dX2_lifeUnder_26 (by decide +kernel) ?_
        refine lv_icmp_ge (tgt := 45) hx hb dX2_lifeUnder_28 (by decide) (fun c7 => ?_) (fun c7 => ?_)
        · have c7i : 6 ≤ w24_7.toInt := le_v rfl rfl c7
          exact ko24 w24_5 w24_7 _ _ _ (by omega) hP hS (lv_sub hl [0, 1, 2, 3, 4] rfl) (by rw [f_X2_lifeUnder_L24_s, if_pos c7])
        · have c7i : w24_7.toInt < 6 := nle_v rfl rfl c7
          refine lv_lload hx hb dX2_lifeUnder_31 (lv_at hl 1 rfl) ?_
          refine lv_lload_n hx hb dX2_lifeUnder_33 rfl (lv_at hl 2 rfl) ?_
          refine lv_lmul hx hb dX2_lifeUnder_34 ?_
          refine lv_lload_n hx hb dX2_lifeUnder_35 rfl (lv_at hl 4 rfl) ?_
          refine lv_ldiv hx hb dX2_lifeUnder_36 (lc_nz0 c5 (by omega)) ?_
          refine lv_lstore (lv' := [(5, .long ((w24_5 * ((f_X2_borneTorque S o1).toInt64)) / x1)), (7, .int w24_7), (3, .long ((f_X2_borneTorque S o1).toInt64)), (0, .ref o1), (1, .long x1)]) hx hb dX2_lifeUnder_37 hl (by decide) rfl (fun ls hl => ?_)
          refine lv_iinc (v := w24_7 + (1 : Int32)) (lv' := [(7, .int (w24_7 + (1 : Int32))), (5, .long ((w24_5 * ((f_X2_borneTorque S o1).toInt64)) / x1)), (3, .long ((f_X2_borneTorque S o1).toInt64)), (0, .ref o1), (1, .long x1)]) hx hb dX2_lifeUnder_39 hl (k := 1) rfl (by rfl) (by decide) rfl (fun ls hl => ?_)
          refine lv_goto (tgt := 24) hx hb dX2_lifeUnder_42 (by decide) ?_
          have l32_1 : (1 : Int32).toInt = 1 := rfl
          have i8 : (w24_7 + (1 : Int32)).toInt = w24_7.toInt + 1 := t_addr (n := 1) rfl (by omega)
          exact ih24 ((w24_5 * ((f_X2_borneTorque S o1).toInt64)) / x1) (w24_7 + (1 : Int32)) _ _ _ (Nat.lt_of_lt_of_le (by omega) (Nat.le_of_lt_succ hm24)) (by omega) hP hS (lv_sub hl [0, 1, 2, 3, 4] rfl) (fun w24_5y w24_7y H9 locs9 ls9 i9 P9 S9 l9 hfe => ko24 w24_5y w24_7y H9 locs9 ls9 i9 P9 S9 l9 (Eq.trans (by rw [f_X2_lifeUnder_L24_s, if_neg c7]) hfe))
    refine loop24 7 (1000000 : Int64) (0 : Int32) _ _ _ (by omega) (by omega) hP hS (lv_sub hl [0, 1, 2, 3, 4] rfl) (fun z10 z11 H locs ls hi24 hP hS hl c9 => ?_)
    refine lv_lload hx hb dX2_lifeUnder_45 (lv_at hl 1 rfl) ?_
    refine W.widen (k := 0) (n := 0) (Nat.le_of_ble_eq_true rfl) (Nat.le_of_ble_eq_true rfl) ?_
    exact W.lret (v := z10) hx hb hr (fun t ht hW9 => ⟨⟨z10, (), rfl, (by show z10 = f_X2_lifeUnder S o1 x1; unfold f_X2_lifeUnder; rw [if_pos c5, l2_eq c9]), wd_end hP hK hD ht hW9.alike⟩, hS.F ht⟩) hS.2.2 dX2_lifeUnder_47 hlocks
  · have c5i := lc_ngt c5
    have i12 := i64_i (f_X2_borneTorque S o1)
    refine lv_ldc2 (own := RX2) (v := -1) hx hb hown (hts (.constantLong RX2 164 (-1)) (by decide +kernel)) dX2_lifeUnder_12 ?_
    refine W.widen (k := 0) (n := 0) (Nat.le_of_ble_eq_true rfl) (Nat.le_of_ble_eq_true rfl) ?_
    exact W.lret (v := (-1 : Int64)) hx hb hr (fun t ht hW9 => ⟨⟨(-1 : Int64), (), rfl, (by show (-1 : Int64) = f_X2_lifeUnder S o1 x1; unfold f_X2_lifeUnder; rw [if_neg c5]), wd_end hP hK hD ht hW9.alike⟩, hS.F ht⟩) hS.2.2 dX2_lifeUnder_15 hlocks
def f_X2_turn (S : wPS) (o1 : Nat) (x1 : Int64) (x2 : Int64) : wPS := if (lg_cmp (f_X2_lifeUnder S o1 x1) (0 : Int64)) = (0 : Int32) then l1 (S.sJ o1 18 ((S.J o1 18) + (1000000 : Int64))) (fun S13 => S13) else if (lg_cmp (f_X2_lifeUnder S o1 x1) (0 : Int64)) ≤ (0 : Int32) then S else l1 (S.sJ o1 18 ((S.J o1 18) + (((1000000 : Int64) * x2) / (f_X2_lifeUnder S o1 x1)))) (fun S8 => S8)
theorem hi_X2_turn_X2 : ∀ w ∈ u_ws RX2 TX2 20, w ∈ wsX2_turn := by decide +kernel
theorem hd_X2_turn : yX2_turn.cls = RX2 ∧ yX2_turn.cls ≠ "java/lang/invoke/MethodHandle" ∧ yX2_turn.cls ≠ "java/lang/invoke/VarHandle" ∧ (parseMethodDescriptor yX2_turn.desc).map (fun d => d.parameters.length) = some 2 := by decide +kernel
set_option maxHeartbeats 4000000 in
set_option maxRecDepth 100000 in
theorem c_X2_turn (l : Launch) {D : va_G} {cy : Nat → ClassId} {X : va_W} (S : wPS) (sz : Nat) (o1 : Nat) (h_o1 : isA S o1 2) (x1 : Int64) (x2 : Int64) (hW : wtB S [])  : Met l yX2_turn wsX2_turn ({ frames := 4, cells := 0, slots := 0, locals := 106 }) (va_Pc [.ref o1, .long x1, .long x2] (fun U => U.heap.size = sz ∧ WD D cy X (fun _ => True) S U ∧ NW U)) (va_Qv (fun (u : wPS) => u = f_X2_turn S o1 x1 x2 ∧ stp [(2, 18)] [] [] S u) (fun u t => WD D cy X (va_A (X ++ PL cy S) sz) u t) (va_A (X ++ PL cy S) sz)) 0 0 (va_A (X ++ PL cy S) sz) := by
  refine Met.ofW (cc := cX2_turn) (maxL := 7) (ret := none) (by decide) rfl ?_
  intro p e s m args below meth c s₁ B hml hv
  obtain ⟨rfl, hsz, ⟨hP, hK, hD0⟩, hN⟩ := hv
  have hx := B.exec
  have hb := B.bytes
  have hr := B.returns
  have hts := atoms_spec (ws := wsX2_turn) B.pre
  have hown : s.vm.findClass RX2 = some m.cls := findClass_of_methodNamed (x := yX2_turn) B.named
  have hlocks := B.notSynchronized
  subst hsz
  have hD := hD0.self (sz := s.heap.size)
  generalize hAe : va_A (X ++ PL cy S) s.heap.size = A at hD ⊢
  have hA : ∀ q : Nat, s.heap.size ≤ q → A q := fun q h => by rw [← hAe]; exact Or.inr h
  have hS : va_S A s.heap s.heap [] := va_S.rf
  have hl := lv_entry ([.ref o1, .long x1, .long x2]) (n := 7) (Nat.le_of_ble_eq_true rfl)
  rw [lg_entry_eq]
  generalize (lg_sl ([.ref o1, .long x1, .long x2]) ++ List.replicate (7 - (lg_sl ([.ref o1, .long x1, .long x2])).length) Slot.unset).toArray = ls at hl ⊢
  have hl : lv_has ls 7 [(0, .ref o1), (1, .long x1), (3, .long x2)] := hl
  have t0 : stp [(2, 18)] [] [] S S := stp.rf hW
  refine lv_aload_n hx hb dX2_turn_0 rfl (lv_at hl 0 rfl) ?_
  refine lv_lload_n hx hb dX2_turn_1 rfl (lv_at hl 1 rfl) ?_
  have hFc := free_all hD hS hA
  obtain ⟨k1, gk1, hk1⟩ := wGt (cy := cy) X S h_o1.1 h_o1.2.1
  refine va_calll (va_runV (As := [.long x1]) (rest := []) ⟨hx, hb, hml, hown, hts⟩ (c_X2_lifeUnder l (cy := cy) (X := X) (D := D) S _ o1 h_o1 x1 (hW)) (cwV 1 hts gX2_turn_X2_lifeUnder rfl rfl rfl hd_X2_lifeUnder ⟨Nat.le_of_ble_eq_true rfl, Nat.le_of_ble_eq_true rfl⟩) (pV (va_recv hK hP (q := (RX2, TX2, 20)) (ci := 6) (q0 := k1) rfl hk1) hP hK hD hN) rfl rfl hl.1 rfl (lv_room (Nat.le_of_ble_eq_true rfl)) dX2_turn_2 ⟨(Nat.zero_le _), (Nat.zero_le _)⟩) hS (fun q _ h => hFc q h) hFc (fun r2 u t H1 locs ht hvm hw hB hz1 hk1 hS => ?_)
  have c3 := hw
  obtain ⟨hP, hD⟩ := wd_post hFc ht hB
  generalize H1 = H at hP hS ⊢
  obtain rfl : f_X2_lifeUnder S o1 x1 = r2 := c3.symm
  refine lv_lstore (lv' := [(5, .long (f_X2_lifeUnder S o1 x1)), (0, .ref o1), (1, .long x1), (3, .long x2)]) hx hb dX2_turn_5 hl (by decide) rfl (fun ls hl => ?_)
  refine lv_lload hx hb dX2_turn_7 (lv_at hl 0 rfl) ?_
  refine lv_lconst (v := 0) hx hb dX2_turn_9 (by decide) ?_
  refine W.lcmp hx hb dX2_turn_10 ?_
  refine lv_if_ne (tgt := 29) hx hb dX2_turn_11 (by decide) (fun c4 => ?_) (fun c4 => ?_)
  · refine lv_lload hx hb dX2_turn_29 (lv_at hl 0 rfl) ?_
    refine lv_lconst (v := 0) hx hb dX2_turn_31 (by decide) ?_
    refine W.lcmp hx hb dX2_turn_32 ?_
    refine lv_if_le (tgt := 53) hx hb dX2_turn_33 (by decide) (fun c5 => ?_) (fun c5 => ?_)
    · have c5i := lc_le c5
      refine W.widen (k := 0) (n := 0) (Nat.le_of_ble_eq_true rfl) (Nat.le_of_ble_eq_true rfl) ?_
      exact W.vret hx hb hr (fun t ht hW9 => ⟨⟨S, rfl, ⟨(by show S = f_X2_turn S o1 x1 x2; unfold f_X2_turn; rw [if_neg c4, if_pos c5]), t0⟩, wd_end hP hK hD ht hW9.alike⟩, hS.F ht⟩) hS.2.2 dX2_turn_53 hlocks
    · have c5i := lc_nle c5
      refine lv_aload_n hx hb dX2_turn_36 rfl (lv_at hl 1 rfl) ?_
      refine lv_dup hx hb dX2_turn_37 rfl ?_
      obtain ⟨k6, gk6, hk6⟩ := wGt (cy := cy) X S h_o1.1 h_o1.2.1
      refine va_get (D := D) (ci := 6) (v := .long (S.J o1 18)) (C := RX2) (T := TX2) (N := 20) hx hb hts hi_X2_turn_X2 hown hK hP k6 hk6 rfl 18 (by decide) (hts (.fieldLink RX2 82 "Hobhouse$Gear" "hurt" "J") (by decide +kernel)) (fun _ h9 => h9) rfl dX2_turn_38 ?_
      refine lv_ldc2 (own := RX2) (v := 1000000) hx hb hown (hts (.constantLong RX2 86 (1000000)) (by decide +kernel)) dX2_turn_41 ?_
      refine lv_lload_n hx hb dX2_turn_44 rfl (lv_at hl 3 rfl) ?_
      refine lv_lmul hx hb dX2_turn_45 ?_
      refine lv_lload hx hb dX2_turn_46 (lv_at hl 0 rfl) ?_
      refine lv_ldiv hx hb dX2_turn_48 (nz_le c5) ?_
      refine lv_ladd hx hb dX2_turn_49 ?_
      obtain ⟨k7, gk7, hk7⟩ := wGt (cy := cy) X S h_o1.1 h_o1.2.1
      refine va_put (D := D) (ci := 6) (v := .long ((S.J o1 18) + (((1000000 : Int64) * x2) / (f_X2_lifeUnder S o1 x1)))) (ty := .long) (C := RX2) (T := TX2) (N := 20) hx hb hts hi_X2_turn_X2 tyX2 tyX2_ok nmX2 hown hK hP hD hS k7 hk7 rfl 18 (by decide) (hts (.fieldLink RX2 82 "Hobhouse$Gear" "hurt" "J") (by decide +kernel)) (fun _ h9 => h9) rfl (by decide +kernel) (rfl) (rfl) (Nat.le_of_ble_eq_true rfl) dX2_turn_50 (fun H locs hP2 hD2 hS => ?_)
      have e9 := wPuJ (cy := cy) (j := 18) (v := ((S.J o1 18) + (((1000000 : Int64) * x2) / (f_X2_lifeUnder S o1 x1)))) hD h_o1.1 h_o1.2.1 gk7 rfl
      obtain ⟨S8, hS8⟩ : ∃ z, S.sJ o1 18 ((S.J o1 18) + (((1000000 : Int64) * x2) / (f_X2_lifeUnder S o1 x1))) = z := ⟨_, rfl⟩
      have hP : va_P D vwCl (X ++ PL cy S8) H := by rw [← hS8, ← e9]; exact hP2
      have hD : va_D A (X ++ PL cy S8) := by rw [← hS8, ← e9]; exact hD2
      have xe9 : ext S S8 := by rw [← hS8]; exact ext.sJ _ _ _ _
      have t10 : stp [(2, 18)] [] [] S S8 := by rw [← hS8]; exact t0.J 18 ((S.J o1 18) + (((1000000 : Int64) * x2) / (f_X2_lifeUnder S o1 x1))) h_o1 (by decide)
      refine W.widen (k := 0) (n := 0) (Nat.le_of_ble_eq_true rfl) (Nat.le_of_ble_eq_true rfl) ?_
      exact W.vret hx hb hr (fun t ht hW9 => ⟨⟨S8, rfl, ⟨(by show S8 = f_X2_turn S o1 x1 x2; unfold f_X2_turn; rw [if_neg c4, if_neg c5, l1_eq hS8]), t10⟩, wd_end hP hK hD ht hW9.alike⟩, hS.F ht⟩) hS.2.2 dX2_turn_53 hlocks
  · refine lv_aload_n hx hb dX2_turn_14 rfl (lv_at hl 1 rfl) ?_
    refine lv_dup hx hb dX2_turn_15 rfl ?_
    obtain ⟨k11, gk11, hk11⟩ := wGt (cy := cy) X S h_o1.1 h_o1.2.1
    refine va_get (D := D) (ci := 6) (v := .long (S.J o1 18)) (C := RX2) (T := TX2) (N := 20) hx hb hts hi_X2_turn_X2 hown hK hP k11 hk11 rfl 18 (by decide) (hts (.fieldLink RX2 82 "Hobhouse$Gear" "hurt" "J") (by decide +kernel)) (fun _ h9 => h9) rfl dX2_turn_16 ?_
    refine lv_ldc2 (own := RX2) (v := 1000000) hx hb hown (hts (.constantLong RX2 86 (1000000)) (by decide +kernel)) dX2_turn_19 ?_
    refine lv_ladd hx hb dX2_turn_22 ?_
    obtain ⟨k12, gk12, hk12⟩ := wGt (cy := cy) X S h_o1.1 h_o1.2.1
    refine va_put (D := D) (ci := 6) (v := .long ((S.J o1 18) + (1000000 : Int64))) (ty := .long) (C := RX2) (T := TX2) (N := 20) hx hb hts hi_X2_turn_X2 tyX2 tyX2_ok nmX2 hown hK hP hD hS k12 hk12 rfl 18 (by decide) (hts (.fieldLink RX2 82 "Hobhouse$Gear" "hurt" "J") (by decide +kernel)) (fun _ h9 => h9) rfl (by decide +kernel) (rfl) (rfl) (Nat.le_of_ble_eq_true rfl) dX2_turn_23 (fun H locs hP2 hD2 hS => ?_)
    have e9 := wPuJ (cy := cy) (j := 18) (v := ((S.J o1 18) + (1000000 : Int64))) hD h_o1.1 h_o1.2.1 gk12 rfl
    obtain ⟨S13, hS13⟩ : ∃ z, S.sJ o1 18 ((S.J o1 18) + (1000000 : Int64)) = z := ⟨_, rfl⟩
    have hP : va_P D vwCl (X ++ PL cy S13) H := by rw [← hS13, ← e9]; exact hP2
    have hD : va_D A (X ++ PL cy S13) := by rw [← hS13, ← e9]; exact hD2
    have xe14 : ext S S13 := by rw [← hS13]; exact ext.sJ _ _ _ _
    have t15 : stp [(2, 18)] [] [] S S13 := by rw [← hS13]; exact t0.J 18 ((S.J o1 18) + (1000000 : Int64)) h_o1 (by decide)
    refine lv_goto (tgt := 53) hx hb dX2_turn_26 (by decide) ?_
    refine W.widen (k := 0) (n := 0) (Nat.le_of_ble_eq_true rfl) (Nat.le_of_ble_eq_true rfl) ?_
    exact W.vret hx hb hr (fun t ht hW9 => ⟨⟨S13, rfl, ⟨(by show S13 = f_X2_turn S o1 x1 x2; unfold f_X2_turn; rw [if_pos c4, l1_eq hS13]), t15⟩, wd_end hP hK hD ht hW9.alike⟩, hS.F ht⟩) hS.2.2 dX2_turn_53 hlocks
def f_X2_heat (S : wPS) (o1 : Nat) (x1 : Int32) (x2 : Int32) : (Int32 × wPS) := if x2 = (0 : Int32) then l1 (S.sI o1 13 (1 : Int32)) (fun S9 => if (S9.I o1 12) < ((((((f_X2_pitchDiameter S o1).toInt64) * (3 : Int64)) / (10000 : Int64)).toInt32) + ((((((f_X2_pitchDiameter S o1).toInt64) * ((f_X2_pitchDiameter S o1).toInt64)) / ((S.I o1 4).toInt64)) / (2000 : Int64)).toInt32)) then l1 (S9.sI o1 14 (0 : Int32)) (fun S15 => l1 (S15.sI o1 15 ((f_X9_root (x1.toInt64 * (250000 : Int64))).toInt32)) (fun S21 => ((((((f_X2_pitchDiameter S o1).toInt64) * (3 : Int64)) / (10000 : Int64)).toInt32) + ((((((f_X2_pitchDiameter S o1).toInt64) * ((f_X2_pitchDiameter S o1).toInt64)) / ((S.I o1 4).toInt64)) / (2000 : Int64)).toInt32), S21))) else l1 (S9.sI o1 14 (1 : Int32)) (fun S25 => l1 (S25.sI o1 15 ((f_X9_root (x1.toInt64 * (250000 : Int64))).toInt32)) (fun S31 => ((((((f_X2_pitchDiameter S o1).toInt64) * (3 : Int64)) / (10000 : Int64)).toInt32) + ((((((f_X2_pitchDiameter S o1).toInt64) * ((f_X2_pitchDiameter S o1).toInt64)) / ((S.I o1 4).toInt64)) / (2000 : Int64)).toInt32), S31)))) else l1 (S.sI o1 13 (1 : Int32)) (fun S35 => if (S35.I o1 12) < ((((((f_X2_pitchDiameter S o1).toInt64) * (3 : Int64)) / (10000 : Int64)).toInt32) + (((((((f_X2_pitchDiameter S o1).toInt64) * ((f_X2_pitchDiameter S o1).toInt64)) / ((S.I o1 4).toInt64)) / (2000 : Int64)).toInt32) / (2 : Int32))) then l1 (S35.sI o1 14 (0 : Int32)) (fun S41 => l1 (S41.sI o1 15 ((f_X9_root (x1.toInt64 * (250000 : Int64))).toInt32)) (fun S47 => ((((((f_X2_pitchDiameter S o1).toInt64) * (3 : Int64)) / (10000 : Int64)).toInt32) + (((((((f_X2_pitchDiameter S o1).toInt64) * ((f_X2_pitchDiameter S o1).toInt64)) / ((S.I o1 4).toInt64)) / (2000 : Int64)).toInt32) / (2 : Int32)), S47))) else l1 (S35.sI o1 14 (1 : Int32)) (fun S51 => l1 (S51.sI o1 15 ((f_X9_root (x1.toInt64 * (250000 : Int64))).toInt32)) (fun S57 => ((((((f_X2_pitchDiameter S o1).toInt64) * (3 : Int64)) / (10000 : Int64)).toInt32) + (((((((f_X2_pitchDiameter S o1).toInt64) * ((f_X2_pitchDiameter S o1).toInt64)) / ((S.I o1 4).toInt64)) / (2000 : Int64)).toInt32) / (2 : Int32)), S57))))
theorem hi_X2_heat_X2 : ∀ w ∈ u_ws RX2 TX2 20, w ∈ wsX2_heat := by decide +kernel
theorem hd_X2_heat : yX2_heat.cls = RX2 ∧ yX2_heat.cls ≠ "java/lang/invoke/MethodHandle" ∧ yX2_heat.cls ≠ "java/lang/invoke/VarHandle" ∧ (parseMethodDescriptor yX2_heat.desc).map (fun d => d.parameters.length) = some 2 := by decide +kernel
set_option maxHeartbeats 4000000 in
set_option maxRecDepth 100000 in
theorem c_X2_heat (l : Launch) {D : va_G} {cy : Nat → ClassId} {X : va_W} (S : wPS) (sz : Nat) (o1 : Nat) (h_o1 : isA S o1 2) (x1 : Int32) (x2 : Int32) (hW : wtB S [])  : Met l yX2_heat wsX2_heat ({ frames := 1, cells := 0, slots := 0, locals := 26 }) (va_Pc [.ref o1, .int x1, .int x2] (fun U => U.heap.size = sz ∧ WD D cy X (fun _ => True) S U ∧ NW U)) (va_Qi (fun r (u : wPS) => (r, u) = f_X2_heat S o1 x1 x2 ∧ stp [(2, 13), (2, 14), (2, 15)] [] [] S u) (fun u t => WD D cy X (va_A (X ++ PL cy S) sz) u t) (va_A (X ++ PL cy S) sz)) 0 0 (va_A (X ++ PL cy S) sz) := by
  refine Met.ofW (cc := cX2_heat) (maxL := 8) (ret := (some .int)) (by decide) rfl ?_
  intro p e s m args below meth c s₁ B hml hv
  obtain ⟨rfl, hsz, ⟨hP, hK, hD0⟩, hN⟩ := hv
  have hx := B.exec
  have hb := B.bytes
  have hr := B.returns
  have hts := atoms_spec (ws := wsX2_heat) B.pre
  have hown : s.vm.findClass RX2 = some m.cls := findClass_of_methodNamed (x := yX2_heat) B.named
  have hlocks := B.notSynchronized
  subst hsz
  have hD := hD0.self (sz := s.heap.size)
  generalize hAe : va_A (X ++ PL cy S) s.heap.size = A at hD ⊢
  have hA : ∀ q : Nat, s.heap.size ≤ q → A q := fun q h => by rw [← hAe]; exact Or.inr h
  have hS : va_S A s.heap s.heap [] := va_S.rf
  have hl := lv_entry ([.ref o1, .int x1, .int x2]) (n := 8) (Nat.le_of_ble_eq_true rfl)
  rw [lg_entry_eq]
  generalize (lg_sl ([.ref o1, .int x1, .int x2]) ++ List.replicate (8 - (lg_sl ([.ref o1, .int x1, .int x2])).length) Slot.unset).toArray = ls at hl ⊢
  have hl : lv_has ls 8 [(0, .ref o1), (1, .int x1), (2, .int x2)] := hl
  have t0 : stp [(2, 13), (2, 14), (2, 15)] [] [] S S := stp.rf hW
  refine lv_aload_n hx hb dX2_heat_0 rfl (lv_at hl 0 rfl) ?_
  have hFc := free_all hD hS hA
  obtain ⟨k1, gk1, hk1⟩ := wGt (cy := cy) X S h_o1.1 h_o1.2.1
  refine va_calli (va_runV (As := []) (rest := []) ⟨hx, hb, hml, hown, hts⟩ (c_X2_pitchDiameter l (cy := cy) (X := X) (D := D) S _ o1 h_o1) (cwV 0 hts gX2_heat_X2_pitchDiameter rfl rfl rfl hd_X2_pitchDiameter ⟨Nat.le_of_ble_eq_true rfl, Nat.le_of_ble_eq_true rfl⟩) (pV (va_recv hK hP (q := (RX2, TX2, 20)) (ci := 6) (q0 := k1) rfl hk1) hP hK hD hN) rfl rfl hl.1 rfl (lv_room (Nat.le_of_ble_eq_true rfl)) dX2_heat_1 ⟨(Nat.zero_le _), (Nat.zero_le _)⟩) hS (fun q _ h => hFc q h) hFc (fun r2 u t H1 locs ht hvm hw hB hz1 hk1 hS => ?_)
  have c3 := hw
  obtain ⟨hP, hD⟩ := wd_post hFc ht hB
  generalize H1 = H at hP hS ⊢
  obtain rfl : f_X2_pitchDiameter S o1 = r2 := c3.symm
  have i4 := pd_i ((hW.at h_o1 List.not_mem_nil).to_2 h_o1.2.1)
  refine lv_i2l hx hb dX2_heat_4 rfl ?_
  refine lv_lstore_n (lv' := [(3, .long ((f_X2_pitchDiameter S o1).toInt64)), (0, .ref o1), (1, .int x1), (2, .int x2)]) hx hb dX2_heat_5 rfl hl (by decide) rfl (fun ls hl => ?_)
  refine lv_lload_n hx hb dX2_heat_6 rfl (lv_at hl 0 rfl) ?_
  refine lv_ldc2 (own := RX2) (v := 3) hx hb hown (hts (.constantLong RX2 99 (3)) (by decide +kernel)) dX2_heat_7 ?_
  refine lv_lmul hx hb dX2_heat_10 ?_
  refine lv_ldc2 (own := RX2) (v := 10000) hx hb hown (hts (.constantLong RX2 101 (10000)) (by decide +kernel)) dX2_heat_11 ?_
  refine lv_ldiv hx hb dX2_heat_14 (by decide) ?_
  refine lv_l2i hx hb dX2_heat_15 rfl ?_
  refine lv_istore (lv' := [(5, .int (((((f_X2_pitchDiameter S o1).toInt64) * (3 : Int64)) / (10000 : Int64)).toInt32)), (3, .long ((f_X2_pitchDiameter S o1).toInt64)), (0, .ref o1), (1, .int x1), (2, .int x2)]) hx hb dX2_heat_16 hl (by decide) rfl (fun ls hl => ?_)
  refine lv_lload_n hx hb dX2_heat_18 rfl (lv_at hl 1 rfl) ?_
  refine lv_lload_n hx hb dX2_heat_19 rfl (lv_at hl 1 rfl) ?_
  refine lv_lmul hx hb dX2_heat_20 ?_
  refine lv_aload_n hx hb dX2_heat_21 rfl (lv_at hl 2 rfl) ?_
  obtain ⟨k5, gk5, hk5⟩ := wGt (cy := cy) X S h_o1.1 h_o1.2.1
  have i6 := ((hW.at h_o1 List.not_mem_nil).to_2 h_o1.2.1).R4
  refine va_get (D := D) (ci := 6) (v := .int (S.I o1 4)) (C := RX2) (T := TX2) (N := 20) hx hb hts hi_X2_heat_X2 hown hK hP k5 hk5 rfl 4 (by decide) (hts (.fieldLink RX2 24 "Hobhouse$Gear" "width" "I") (by decide +kernel)) (fun _ h9 => h9) rfl dX2_heat_22 ?_
  refine lv_i2l hx hb dX2_heat_25 rfl ?_
  refine lv_ldiv hx hb dX2_heat_26 (nz_l (by omega)) ?_
  refine lv_ldc2 (own := RX2) (v := 2000) hx hb hown (hts (.constantLong RX2 103 (2000)) (by decide +kernel)) dX2_heat_27 ?_
  refine lv_ldiv hx hb dX2_heat_30 (by decide) ?_
  refine lv_l2i hx hb dX2_heat_31 rfl ?_
  refine lv_istore (lv' := [(6, .int ((((((f_X2_pitchDiameter S o1).toInt64) * ((f_X2_pitchDiameter S o1).toInt64)) / ((S.I o1 4).toInt64)) / (2000 : Int64)).toInt32)), (5, .int (((((f_X2_pitchDiameter S o1).toInt64) * (3 : Int64)) / (10000 : Int64)).toInt32)), (3, .long ((f_X2_pitchDiameter S o1).toInt64)), (0, .ref o1), (1, .int x1), (2, .int x2)]) hx hb dX2_heat_32 hl (by decide) rfl (fun ls hl => ?_)
  refine lv_iload hx hb dX2_heat_34 (lv_at hl 1 rfl) ?_
  refine lv_iload_n hx hb dX2_heat_36 rfl (lv_at hl 5 rfl) ?_
  refine lv_if_eq (tgt := 47) hx hb dX2_heat_37 (by decide) (fun c7 => ?_) (fun c7 => ?_)
  · have c7i : x2.toInt = 0 := eq_v rfl rfl c7
    refine lv_iload hx hb dX2_heat_47 (lv_at hl 0 rfl) ?_
    refine lv_iadd hx hb dX2_heat_49 ?_
    refine lv_istore (lv' := [(7, .int ((((((f_X2_pitchDiameter S o1).toInt64) * (3 : Int64)) / (10000 : Int64)).toInt32) + ((((((f_X2_pitchDiameter S o1).toInt64) * ((f_X2_pitchDiameter S o1).toInt64)) / ((S.I o1 4).toInt64)) / (2000 : Int64)).toInt32))), (6, .int ((((((f_X2_pitchDiameter S o1).toInt64) * ((f_X2_pitchDiameter S o1).toInt64)) / ((S.I o1 4).toInt64)) / (2000 : Int64)).toInt32)), (5, .int (((((f_X2_pitchDiameter S o1).toInt64) * (3 : Int64)) / (10000 : Int64)).toInt32)), (3, .long ((f_X2_pitchDiameter S o1).toInt64)), (0, .ref o1), (1, .int x1), (2, .int x2)]) hx hb dX2_heat_50 hl (by decide) rfl (fun ls hl => ?_)
    refine lv_aload_n hx hb dX2_heat_52 rfl (lv_at hl 4 rfl) ?_
    refine lv_iconst (v := 1) hx hb dX2_heat_53 (by decide) ?_
    have l32_1 : (1 : Int32).toInt = 1 := rfl
    obtain ⟨k8, gk8, hk8⟩ := wGt (cy := cy) X S h_o1.1 h_o1.2.1
    refine va_put (D := D) (ci := 6) (v := .int (1 : Int32)) (ty := .boolean) (C := RX2) (T := TX2) (N := 20) hx hb hts hi_X2_heat_X2 tyX2 tyX2_ok nmX2 hown hK hP hD hS k8 hk8 rfl 13 (by decide) (hts (.fieldLink RX2 105 "Hobhouse$Gear" "isHardened" "Z") (by decide +kernel)) (fun _ h9 => h9) rfl (by decide +kernel) (by rfl) (by rfl) (Nat.le_of_ble_eq_true rfl) dX2_heat_54 (fun H locs hP2 hD2 hS => ?_)
    have e9 := wPuI (cy := cy) (j := 13) (v := (1 : Int32)) hD h_o1.1 h_o1.2.1 gk8 rfl
    obtain ⟨S9, hS9⟩ : ∃ z, S.sI o1 13 (1 : Int32) = z := ⟨_, rfl⟩
    have hP : va_P D vwCl (X ++ PL cy S9) H := by rw [← hS9, ← e9]; exact hP2
    have hD : va_D A (X ++ PL cy S9) := by rw [← hS9, ← e9]; exact hD2
    have xe10 : ext S S9 := by rw [← hS9]; exact ext.sI _ _ _ _
    have t11 : stp [(2, 13), (2, 14), (2, 15)] [] [] S S9 := by rw [← hS9]; exact t0.I 13 (1 : Int32) h_o1 (by decide) (⟨by decide, by decide⟩) (Or.inl (by decide))
    refine lv_aload_n hx hb dX2_heat_57 rfl (lv_at hl 4 rfl) ?_
    refine lv_aload_n hx hb dX2_heat_58 rfl (lv_at hl 4 rfl) ?_
    obtain ⟨k12, gk12, hk12⟩ := wGt (cy := cy) X S9 (xe10.A h_o1).1 (xe10.A h_o1).2.1
    refine va_get (D := D) (ci := 6) (v := .int (S9.I o1 12)) (C := RX2) (T := TX2) (N := 20) hx hb hts hi_X2_heat_X2 hown hK hP k12 hk12 rfl 12 (by decide) (hts (.fieldLink RX2 108 "Hobhouse$Gear" "stock" "I") (by decide +kernel)) (fun _ h9 => h9) rfl dX2_heat_59 ?_
    refine lv_iload hx hb dX2_heat_62 (lv_at hl 0 rfl) ?_
    refine lv_icmp_lt (tgt := 71) hx hb dX2_heat_64 (by decide) (fun c13 => ?_) (fun c13 => ?_)
    · have c13i : (S9.I o1 12).toInt < ((((((f_X2_pitchDiameter S o1).toInt64) * (3 : Int64)) / (10000 : Int64)).toInt32) + ((((((f_X2_pitchDiameter S o1).toInt64) * ((f_X2_pitchDiameter S o1).toInt64)) / ((S.I o1 4).toInt64)) / (2000 : Int64)).toInt32)).toInt := lt_v rfl rfl c13
      refine lv_iconst (v := 0) hx hb dX2_heat_71 (by decide) ?_
      have l32_0 : (0 : Int32).toInt = 0 := rfl
      obtain ⟨k14, gk14, hk14⟩ := wGt (cy := cy) X S9 (xe10.A h_o1).1 (xe10.A h_o1).2.1
      refine va_put (D := D) (ci := 6) (v := .int (0 : Int32)) (ty := .boolean) (C := RX2) (T := TX2) (N := 20) hx hb hts hi_X2_heat_X2 tyX2 tyX2_ok nmX2 hown hK hP hD hS k14 hk14 rfl 14 (by decide) (hts (.fieldLink RX2 111 "Hobhouse$Gear" "hadStockEnough" "Z") (by decide +kernel)) (fun _ h9 => h9) rfl (by decide +kernel) (by rfl) (by rfl) (Nat.le_of_ble_eq_true rfl) dX2_heat_72 (fun H locs hP2 hD2 hS => ?_)
      have e9 := wPuI (cy := cy) (j := 14) (v := (0 : Int32)) hD (xe10.A h_o1).1 (xe10.A h_o1).2.1 gk14 rfl
      obtain ⟨S15, hS15⟩ : ∃ z, S9.sI o1 14 (0 : Int32) = z := ⟨_, rfl⟩
      have hP : va_P D vwCl (X ++ PL cy S15) H := by rw [← hS15, ← e9]; exact hP2
      have hD : va_D A (X ++ PL cy S15) := by rw [← hS15, ← e9]; exact hD2
      have xe16 : ext S9 S15 := by rw [← hS15]; exact ext.sI _ _ _ _
      have t17 : stp [(2, 13), (2, 14), (2, 15)] [] [] S S15 := by rw [← hS15]; exact t11.I 14 (0 : Int32) (xe10.A h_o1) (by decide) (⟨by decide, by decide⟩) (Or.inl (by decide))
      refine lv_aload_n hx hb dX2_heat_75 rfl (lv_at hl 4 rfl) ?_
      refine lv_iload_n hx hb dX2_heat_76 rfl (lv_at hl 5 rfl) ?_
      refine lv_i2l hx hb dX2_heat_77 rfl ?_
      refine lv_ldc2 (own := RX2) (v := 250000) hx hb hown (hts (.constantLong RX2 114 (250000)) (by decide +kernel)) dX2_heat_78 ?_
      refine lv_lmul hx hb dX2_heat_81 ?_
      have hFc := free_all hD hS hA
      refine va_calll (va_runSN (As := [.long (x1.toInt64 * (250000 : Int64))]) (rest := [.ref o1]) ⟨hx, hb, hml, hown, hts⟩ (c_X9_root l (cy := cy) (X := X) (D := D) S15 _ (x1.toInt64 * (250000 : Int64))) ⟨va_cnB 1 hts gX2_heat_X9_root_n72 rfl rfl rfl (hN (.methodLinkNest RX2 72 yX9_root RX9) (by decide +kernel)) (hts (.initialized RX9) (by decide +kernel)) (by decide +kernel) ⟨Nat.le_of_ble_eq_true rfl, Nat.le_of_ble_eq_true rfl⟩, hts (.static yX9_root) (by decide +kernel), trivial⟩ (pS hP hK hD hN) rfl rfl hl.1 rfl (lv_room (Nat.le_of_ble_eq_true rfl)) dX2_heat_82 ⟨(Nat.zero_le _), (Nat.zero_le _)⟩) hS (fun q _ h => hFc q h) hFc (fun r18 u t H1 locs ht hvm hw hB hz1 hk1 hS => ?_)
      have c19 := hw
      obtain ⟨hP, hD⟩ := wd_post hFc ht hB
      generalize H1 = H at hP hS ⊢
      obtain rfl : f_X9_root (x1.toInt64 * (250000 : Int64)) = r18 := c19.symm
      refine lv_l2i hx hb dX2_heat_85 rfl ?_
      obtain ⟨k20, gk20, hk20⟩ := wGt (cy := cy) X S15 (xe16.A (xe10.A h_o1)).1 (xe16.A (xe10.A h_o1)).2.1
      refine va_put (D := D) (ci := 6) (v := .int ((f_X9_root (x1.toInt64 * (250000 : Int64))).toInt32)) (ty := .int) (C := RX2) (T := TX2) (N := 20) hx hb hts hi_X2_heat_X2 tyX2 tyX2_ok nmX2 hown hK hP hD hS k20 hk20 rfl 15 (by decide) (hts (.fieldLink RX2 116 "Hobhouse$Gear" "caseDepth" "I") (by decide +kernel)) (fun _ h9 => h9) rfl (by decide +kernel) (rfl) (rfl) (Nat.le_of_ble_eq_true rfl) dX2_heat_86 (fun H locs hP2 hD2 hS => ?_)
      have e9 := wPuI (cy := cy) (j := 15) (v := ((f_X9_root (x1.toInt64 * (250000 : Int64))).toInt32)) hD (xe16.A (xe10.A h_o1)).1 (xe16.A (xe10.A h_o1)).2.1 gk20 rfl
      obtain ⟨S21, hS21⟩ : ∃ z, S15.sI o1 15 ((f_X9_root (x1.toInt64 * (250000 : Int64))).toInt32) = z := ⟨_, rfl⟩
      have hP : va_P D vwCl (X ++ PL cy S21) H := by rw [← hS21, ← e9]; exact hP2
      have hD : va_D A (X ++ PL cy S21) := by rw [← hS21, ← e9]; exact hD2
      have xe22 : ext S15 S21 := by rw [← hS21]; exact ext.sI _ _ _ _
      have t23 : stp [(2, 13), (2, 14), (2, 15)] [] [] S S21 := by rw [← hS21]; exact t17.I 15 ((f_X9_root (x1.toInt64 * (250000 : Int64))).toInt32) (xe16.A (xe10.A h_o1)) (by decide) (trivial) (Or.inl (by decide))
      refine lv_iload hx hb dX2_heat_89 (lv_at hl 0 rfl) ?_
      refine W.widen (k := 0) (n := 0) (Nat.le_of_ble_eq_true rfl) (Nat.le_of_ble_eq_true rfl) ?_
      exact W.iret (v := (((((f_X2_pitchDiameter S o1).toInt64) * (3 : Int64)) / (10000 : Int64)).toInt32) + ((((((f_X2_pitchDiameter S o1).toInt64) * ((f_X2_pitchDiameter S o1).toInt64)) / ((S.I o1 4).toInt64)) / (2000 : Int64)).toInt32)) hx hb hr (fun t ht hW9 => ⟨⟨(((((f_X2_pitchDiameter S o1).toInt64) * (3 : Int64)) / (10000 : Int64)).toInt32) + ((((((f_X2_pitchDiameter S o1).toInt64) * ((f_X2_pitchDiameter S o1).toInt64)) / ((S.I o1 4).toInt64)) / (2000 : Int64)).toInt32), S21, rfl, ⟨(by show ((((((f_X2_pitchDiameter S o1).toInt64) * (3 : Int64)) / (10000 : Int64)).toInt32) + ((((((f_X2_pitchDiameter S o1).toInt64) * ((f_X2_pitchDiameter S o1).toInt64)) / ((S.I o1 4).toInt64)) / (2000 : Int64)).toInt32), S21) = f_X2_heat S o1 x1 x2; unfold f_X2_heat; rw [if_pos c7, l1_eq hS9, if_pos c13, l1_eq hS15, l1_eq hS21]), t23⟩, wd_end hP hK hD ht hW9.alike⟩, hS.F ht⟩) hS.2.2 dX2_heat_91 hlocks
    · have c13i : ((((((f_X2_pitchDiameter S o1).toInt64) * (3 : Int64)) / (10000 : Int64)).toInt32) + ((((((f_X2_pitchDiameter S o1).toInt64) * ((f_X2_pitchDiameter S o1).toInt64)) / ((S.I o1 4).toInt64)) / (2000 : Int64)).toInt32)).toInt ≤ (S9.I o1 12).toInt := nlt_v rfl rfl c13
      refine lv_iconst (v := 1) hx hb dX2_heat_67 (by decide) ?_
      refine lv_goto (tgt := 72) hx hb dX2_heat_68 (by decide) ?_
      obtain ⟨k24, gk24, hk24⟩ := wGt (cy := cy) X S9 (xe10.A h_o1).1 (xe10.A h_o1).2.1
      refine va_put (D := D) (ci := 6) (v := .int (1 : Int32)) (ty := .boolean) (C := RX2) (T := TX2) (N := 20) hx hb hts hi_X2_heat_X2 tyX2 tyX2_ok nmX2 hown hK hP hD hS k24 hk24 rfl 14 (by decide) (hts (.fieldLink RX2 111 "Hobhouse$Gear" "hadStockEnough" "Z") (by decide +kernel)) (fun _ h9 => h9) rfl (by decide +kernel) (by rfl) (by rfl) (Nat.le_of_ble_eq_true rfl) dX2_heat_72 (fun H locs hP2 hD2 hS => ?_)
      have e9 := wPuI (cy := cy) (j := 14) (v := (1 : Int32)) hD (xe10.A h_o1).1 (xe10.A h_o1).2.1 gk24 rfl
      obtain ⟨S25, hS25⟩ : ∃ z, S9.sI o1 14 (1 : Int32) = z := ⟨_, rfl⟩
      have hP : va_P D vwCl (X ++ PL cy S25) H := by rw [← hS25, ← e9]; exact hP2
      have hD : va_D A (X ++ PL cy S25) := by rw [← hS25, ← e9]; exact hD2
      have xe26 : ext S9 S25 := by rw [← hS25]; exact ext.sI _ _ _ _
      have t27 : stp [(2, 13), (2, 14), (2, 15)] [] [] S S25 := by rw [← hS25]; exact t11.I 14 (1 : Int32) (xe10.A h_o1) (by decide) (⟨by decide, by decide⟩) (Or.inl (by decide))
      refine lv_aload_n hx hb dX2_heat_75 rfl (lv_at hl 4 rfl) ?_
      refine lv_iload_n hx hb dX2_heat_76 rfl (lv_at hl 5 rfl) ?_
      refine lv_i2l hx hb dX2_heat_77 rfl ?_
      refine lv_ldc2 (own := RX2) (v := 250000) hx hb hown (hts (.constantLong RX2 114 (250000)) (by decide +kernel)) dX2_heat_78 ?_
      refine lv_lmul hx hb dX2_heat_81 ?_
      have hFc := free_all hD hS hA
      refine va_calll (va_runSN (As := [.long (x1.toInt64 * (250000 : Int64))]) (rest := [.ref o1]) ⟨hx, hb, hml, hown, hts⟩ (c_X9_root l (cy := cy) (X := X) (D := D) S25 _ (x1.toInt64 * (250000 : Int64))) ⟨va_cnB 1 hts gX2_heat_X9_root_n72 rfl rfl rfl (hN (.methodLinkNest RX2 72 yX9_root RX9) (by decide +kernel)) (hts (.initialized RX9) (by decide +kernel)) (by decide +kernel) ⟨Nat.le_of_ble_eq_true rfl, Nat.le_of_ble_eq_true rfl⟩, hts (.static yX9_root) (by decide +kernel), trivial⟩ (pS hP hK hD hN) rfl rfl hl.1 rfl (lv_room (Nat.le_of_ble_eq_true rfl)) dX2_heat_82 ⟨(Nat.zero_le _), (Nat.zero_le _)⟩) hS (fun q _ h => hFc q h) hFc (fun r28 u t H1 locs ht hvm hw hB hz1 hk1 hS => ?_)
      have c29 := hw
      obtain ⟨hP, hD⟩ := wd_post hFc ht hB
      generalize H1 = H at hP hS ⊢
      obtain rfl : f_X9_root (x1.toInt64 * (250000 : Int64)) = r28 := c29.symm
      refine lv_l2i hx hb dX2_heat_85 rfl ?_
      obtain ⟨k30, gk30, hk30⟩ := wGt (cy := cy) X S25 (xe26.A (xe10.A h_o1)).1 (xe26.A (xe10.A h_o1)).2.1
      refine va_put (D := D) (ci := 6) (v := .int ((f_X9_root (x1.toInt64 * (250000 : Int64))).toInt32)) (ty := .int) (C := RX2) (T := TX2) (N := 20) hx hb hts hi_X2_heat_X2 tyX2 tyX2_ok nmX2 hown hK hP hD hS k30 hk30 rfl 15 (by decide) (hts (.fieldLink RX2 116 "Hobhouse$Gear" "caseDepth" "I") (by decide +kernel)) (fun _ h9 => h9) rfl (by decide +kernel) (rfl) (rfl) (Nat.le_of_ble_eq_true rfl) dX2_heat_86 (fun H locs hP2 hD2 hS => ?_)
      have e9 := wPuI (cy := cy) (j := 15) (v := ((f_X9_root (x1.toInt64 * (250000 : Int64))).toInt32)) hD (xe26.A (xe10.A h_o1)).1 (xe26.A (xe10.A h_o1)).2.1 gk30 rfl
      obtain ⟨S31, hS31⟩ : ∃ z, S25.sI o1 15 ((f_X9_root (x1.toInt64 * (250000 : Int64))).toInt32) = z := ⟨_, rfl⟩
      have hP : va_P D vwCl (X ++ PL cy S31) H := by rw [← hS31, ← e9]; exact hP2
      have hD : va_D A (X ++ PL cy S31) := by rw [← hS31, ← e9]; exact hD2
      have xe32 : ext S25 S31 := by rw [← hS31]; exact ext.sI _ _ _ _
      have t33 : stp [(2, 13), (2, 14), (2, 15)] [] [] S S31 := by rw [← hS31]; exact t27.I 15 ((f_X9_root (x1.toInt64 * (250000 : Int64))).toInt32) (xe26.A (xe10.A h_o1)) (by decide) (trivial) (Or.inl (by decide))
      refine lv_iload hx hb dX2_heat_89 (lv_at hl 0 rfl) ?_
      refine W.widen (k := 0) (n := 0) (Nat.le_of_ble_eq_true rfl) (Nat.le_of_ble_eq_true rfl) ?_
      exact W.iret (v := (((((f_X2_pitchDiameter S o1).toInt64) * (3 : Int64)) / (10000 : Int64)).toInt32) + ((((((f_X2_pitchDiameter S o1).toInt64) * ((f_X2_pitchDiameter S o1).toInt64)) / ((S.I o1 4).toInt64)) / (2000 : Int64)).toInt32)) hx hb hr (fun t ht hW9 => ⟨⟨(((((f_X2_pitchDiameter S o1).toInt64) * (3 : Int64)) / (10000 : Int64)).toInt32) + ((((((f_X2_pitchDiameter S o1).toInt64) * ((f_X2_pitchDiameter S o1).toInt64)) / ((S.I o1 4).toInt64)) / (2000 : Int64)).toInt32), S31, rfl, ⟨(by show ((((((f_X2_pitchDiameter S o1).toInt64) * (3 : Int64)) / (10000 : Int64)).toInt32) + ((((((f_X2_pitchDiameter S o1).toInt64) * ((f_X2_pitchDiameter S o1).toInt64)) / ((S.I o1 4).toInt64)) / (2000 : Int64)).toInt32), S31) = f_X2_heat S o1 x1 x2; unfold f_X2_heat; rw [if_pos c7, l1_eq hS9, if_neg c13, l1_eq hS25, l1_eq hS31]), t33⟩, wd_end hP hK hD ht hW9.alike⟩, hS.F ht⟩) hS.2.2 dX2_heat_91 hlocks
  · have c7i : ¬ x2.toInt = 0 := neq_v rfl rfl c7
    refine lv_iload hx hb dX2_heat_40 (lv_at hl 0 rfl) ?_
    refine lv_iconst (v := 2) hx hb dX2_heat_42 (by decide) ?_
    refine lv_idiv hx hb dX2_heat_43 (by decide) ?_
    refine lv_goto (tgt := 49) hx hb dX2_heat_44 (by decide) ?_
    refine lv_iadd hx hb dX2_heat_49 ?_
    refine lv_istore (lv' := [(7, .int ((((((f_X2_pitchDiameter S o1).toInt64) * (3 : Int64)) / (10000 : Int64)).toInt32) + (((((((f_X2_pitchDiameter S o1).toInt64) * ((f_X2_pitchDiameter S o1).toInt64)) / ((S.I o1 4).toInt64)) / (2000 : Int64)).toInt32) / (2 : Int32)))), (6, .int ((((((f_X2_pitchDiameter S o1).toInt64) * ((f_X2_pitchDiameter S o1).toInt64)) / ((S.I o1 4).toInt64)) / (2000 : Int64)).toInt32)), (5, .int (((((f_X2_pitchDiameter S o1).toInt64) * (3 : Int64)) / (10000 : Int64)).toInt32)), (3, .long ((f_X2_pitchDiameter S o1).toInt64)), (0, .ref o1), (1, .int x1), (2, .int x2)]) hx hb dX2_heat_50 hl (by decide) rfl (fun ls hl => ?_)
    refine lv_aload_n hx hb dX2_heat_52 rfl (lv_at hl 4 rfl) ?_
    refine lv_iconst (v := 1) hx hb dX2_heat_53 (by decide) ?_
    have l32_1 : (1 : Int32).toInt = 1 := rfl
    obtain ⟨k34, gk34, hk34⟩ := wGt (cy := cy) X S h_o1.1 h_o1.2.1
    refine va_put (D := D) (ci := 6) (v := .int (1 : Int32)) (ty := .boolean) (C := RX2) (T := TX2) (N := 20) hx hb hts hi_X2_heat_X2 tyX2 tyX2_ok nmX2 hown hK hP hD hS k34 hk34 rfl 13 (by decide) (hts (.fieldLink RX2 105 "Hobhouse$Gear" "isHardened" "Z") (by decide +kernel)) (fun _ h9 => h9) rfl (by decide +kernel) (by rfl) (by rfl) (Nat.le_of_ble_eq_true rfl) dX2_heat_54 (fun H locs hP2 hD2 hS => ?_)
    have e9 := wPuI (cy := cy) (j := 13) (v := (1 : Int32)) hD h_o1.1 h_o1.2.1 gk34 rfl
    obtain ⟨S35, hS35⟩ : ∃ z, S.sI o1 13 (1 : Int32) = z := ⟨_, rfl⟩
    have hP : va_P D vwCl (X ++ PL cy S35) H := by rw [← hS35, ← e9]; exact hP2
    have hD : va_D A (X ++ PL cy S35) := by rw [← hS35, ← e9]; exact hD2
    have xe36 : ext S S35 := by rw [← hS35]; exact ext.sI _ _ _ _
    have t37 : stp [(2, 13), (2, 14), (2, 15)] [] [] S S35 := by rw [← hS35]; exact t0.I 13 (1 : Int32) h_o1 (by decide) (⟨by decide, by decide⟩) (Or.inl (by decide))
    refine lv_aload_n hx hb dX2_heat_57 rfl (lv_at hl 4 rfl) ?_
    refine lv_aload_n hx hb dX2_heat_58 rfl (lv_at hl 4 rfl) ?_
    obtain ⟨k38, gk38, hk38⟩ := wGt (cy := cy) X S35 (xe36.A h_o1).1 (xe36.A h_o1).2.1
    refine va_get (D := D) (ci := 6) (v := .int (S35.I o1 12)) (C := RX2) (T := TX2) (N := 20) hx hb hts hi_X2_heat_X2 hown hK hP k38 hk38 rfl 12 (by decide) (hts (.fieldLink RX2 108 "Hobhouse$Gear" "stock" "I") (by decide +kernel)) (fun _ h9 => h9) rfl dX2_heat_59 ?_
    refine lv_iload hx hb dX2_heat_62 (lv_at hl 0 rfl) ?_
    refine lv_icmp_lt (tgt := 71) hx hb dX2_heat_64 (by decide) (fun c39 => ?_) (fun c39 => ?_)
    · have c39i : (S35.I o1 12).toInt < ((((((f_X2_pitchDiameter S o1).toInt64) * (3 : Int64)) / (10000 : Int64)).toInt32) + (((((((f_X2_pitchDiameter S o1).toInt64) * ((f_X2_pitchDiameter S o1).toInt64)) / ((S.I o1 4).toInt64)) / (2000 : Int64)).toInt32) / (2 : Int32))).toInt := lt_v rfl rfl c39
      refine lv_iconst (v := 0) hx hb dX2_heat_71 (by decide) ?_
      have l32_0 : (0 : Int32).toInt = 0 := rfl
      obtain ⟨k40, gk40, hk40⟩ := wGt (cy := cy) X S35 (xe36.A h_o1).1 (xe36.A h_o1).2.1
      refine va_put (D := D) (ci := 6) (v := .int (0 : Int32)) (ty := .boolean) (C := RX2) (T := TX2) (N := 20) hx hb hts hi_X2_heat_X2 tyX2 tyX2_ok nmX2 hown hK hP hD hS k40 hk40 rfl 14 (by decide) (hts (.fieldLink RX2 111 "Hobhouse$Gear" "hadStockEnough" "Z") (by decide +kernel)) (fun _ h9 => h9) rfl (by decide +kernel) (by rfl) (by rfl) (Nat.le_of_ble_eq_true rfl) dX2_heat_72 (fun H locs hP2 hD2 hS => ?_)
      have e9 := wPuI (cy := cy) (j := 14) (v := (0 : Int32)) hD (xe36.A h_o1).1 (xe36.A h_o1).2.1 gk40 rfl
      obtain ⟨S41, hS41⟩ : ∃ z, S35.sI o1 14 (0 : Int32) = z := ⟨_, rfl⟩
      have hP : va_P D vwCl (X ++ PL cy S41) H := by rw [← hS41, ← e9]; exact hP2
      have hD : va_D A (X ++ PL cy S41) := by rw [← hS41, ← e9]; exact hD2
      have xe42 : ext S35 S41 := by rw [← hS41]; exact ext.sI _ _ _ _
      have t43 : stp [(2, 13), (2, 14), (2, 15)] [] [] S S41 := by rw [← hS41]; exact t37.I 14 (0 : Int32) (xe36.A h_o1) (by decide) (⟨by decide, by decide⟩) (Or.inl (by decide))
      refine lv_aload_n hx hb dX2_heat_75 rfl (lv_at hl 4 rfl) ?_
      refine lv_iload_n hx hb dX2_heat_76 rfl (lv_at hl 5 rfl) ?_
      refine lv_i2l hx hb dX2_heat_77 rfl ?_
      refine lv_ldc2 (own := RX2) (v := 250000) hx hb hown (hts (.constantLong RX2 114 (250000)) (by decide +kernel)) dX2_heat_78 ?_
      refine lv_lmul hx hb dX2_heat_81 ?_
      have hFc := free_all hD hS hA
      refine va_calll (va_runSN (As := [.long (x1.toInt64 * (250000 : Int64))]) (rest := [.ref o1]) ⟨hx, hb, hml, hown, hts⟩ (c_X9_root l (cy := cy) (X := X) (D := D) S41 _ (x1.toInt64 * (250000 : Int64))) ⟨va_cnB 1 hts gX2_heat_X9_root_n72 rfl rfl rfl (hN (.methodLinkNest RX2 72 yX9_root RX9) (by decide +kernel)) (hts (.initialized RX9) (by decide +kernel)) (by decide +kernel) ⟨Nat.le_of_ble_eq_true rfl, Nat.le_of_ble_eq_true rfl⟩, hts (.static yX9_root) (by decide +kernel), trivial⟩ (pS hP hK hD hN) rfl rfl hl.1 rfl (lv_room (Nat.le_of_ble_eq_true rfl)) dX2_heat_82 ⟨(Nat.zero_le _), (Nat.zero_le _)⟩) hS (fun q _ h => hFc q h) hFc (fun r44 u t H1 locs ht hvm hw hB hz1 hk1 hS => ?_)
      have c45 := hw
      obtain ⟨hP, hD⟩ := wd_post hFc ht hB
      generalize H1 = H at hP hS ⊢
      obtain rfl : f_X9_root (x1.toInt64 * (250000 : Int64)) = r44 := c45.symm
      refine lv_l2i hx hb dX2_heat_85 rfl ?_
      obtain ⟨k46, gk46, hk46⟩ := wGt (cy := cy) X S41 (xe42.A (xe36.A h_o1)).1 (xe42.A (xe36.A h_o1)).2.1
      refine va_put (D := D) (ci := 6) (v := .int ((f_X9_root (x1.toInt64 * (250000 : Int64))).toInt32)) (ty := .int) (C := RX2) (T := TX2) (N := 20) hx hb hts hi_X2_heat_X2 tyX2 tyX2_ok nmX2 hown hK hP hD hS k46 hk46 rfl 15 (by decide) (hts (.fieldLink RX2 116 "Hobhouse$Gear" "caseDepth" "I") (by decide +kernel)) (fun _ h9 => h9) rfl (by decide +kernel) (rfl) (rfl) (Nat.le_of_ble_eq_true rfl) dX2_heat_86 (fun H locs hP2 hD2 hS => ?_)
      have e9 := wPuI (cy := cy) (j := 15) (v := ((f_X9_root (x1.toInt64 * (250000 : Int64))).toInt32)) hD (xe42.A (xe36.A h_o1)).1 (xe42.A (xe36.A h_o1)).2.1 gk46 rfl
      obtain ⟨S47, hS47⟩ : ∃ z, S41.sI o1 15 ((f_X9_root (x1.toInt64 * (250000 : Int64))).toInt32) = z := ⟨_, rfl⟩
      have hP : va_P D vwCl (X ++ PL cy S47) H := by rw [← hS47, ← e9]; exact hP2
      have hD : va_D A (X ++ PL cy S47) := by rw [← hS47, ← e9]; exact hD2
      have xe48 : ext S41 S47 := by rw [← hS47]; exact ext.sI _ _ _ _
      have t49 : stp [(2, 13), (2, 14), (2, 15)] [] [] S S47 := by rw [← hS47]; exact t43.I 15 ((f_X9_root (x1.toInt64 * (250000 : Int64))).toInt32) (xe42.A (xe36.A h_o1)) (by decide) (trivial) (Or.inl (by decide))
      refine lv_iload hx hb dX2_heat_89 (lv_at hl 0 rfl) ?_
      refine W.widen (k := 0) (n := 0) (Nat.le_of_ble_eq_true rfl) (Nat.le_of_ble_eq_true rfl) ?_
      exact W.iret (v := (((((f_X2_pitchDiameter S o1).toInt64) * (3 : Int64)) / (10000 : Int64)).toInt32) + (((((((f_X2_pitchDiameter S o1).toInt64) * ((f_X2_pitchDiameter S o1).toInt64)) / ((S.I o1 4).toInt64)) / (2000 : Int64)).toInt32) / (2 : Int32))) hx hb hr (fun t ht hW9 => ⟨⟨(((((f_X2_pitchDiameter S o1).toInt64) * (3 : Int64)) / (10000 : Int64)).toInt32) + (((((((f_X2_pitchDiameter S o1).toInt64) * ((f_X2_pitchDiameter S o1).toInt64)) / ((S.I o1 4).toInt64)) / (2000 : Int64)).toInt32) / (2 : Int32)), S47, rfl, ⟨(by show ((((((f_X2_pitchDiameter S o1).toInt64) * (3 : Int64)) / (10000 : Int64)).toInt32) + (((((((f_X2_pitchDiameter S o1).toInt64) * ((f_X2_pitchDiameter S o1).toInt64)) / ((S.I o1 4).toInt64)) / (2000 : Int64)).toInt32) / (2 : Int32)), S47) = f_X2_heat S o1 x1 x2; unfold f_X2_heat; rw [if_neg c7, l1_eq hS35, if_pos c39, l1_eq hS41, l1_eq hS47]), t49⟩, wd_end hP hK hD ht hW9.alike⟩, hS.F ht⟩) hS.2.2 dX2_heat_91 hlocks
    · have c39i : ((((((f_X2_pitchDiameter S o1).toInt64) * (3 : Int64)) / (10000 : Int64)).toInt32) + (((((((f_X2_pitchDiameter S o1).toInt64) * ((f_X2_pitchDiameter S o1).toInt64)) / ((S.I o1 4).toInt64)) / (2000 : Int64)).toInt32) / (2 : Int32))).toInt ≤ (S35.I o1 12).toInt := nlt_v rfl rfl c39
      refine lv_iconst (v := 1) hx hb dX2_heat_67 (by decide) ?_
      refine lv_goto (tgt := 72) hx hb dX2_heat_68 (by decide) ?_
      obtain ⟨k50, gk50, hk50⟩ := wGt (cy := cy) X S35 (xe36.A h_o1).1 (xe36.A h_o1).2.1
      refine va_put (D := D) (ci := 6) (v := .int (1 : Int32)) (ty := .boolean) (C := RX2) (T := TX2) (N := 20) hx hb hts hi_X2_heat_X2 tyX2 tyX2_ok nmX2 hown hK hP hD hS k50 hk50 rfl 14 (by decide) (hts (.fieldLink RX2 111 "Hobhouse$Gear" "hadStockEnough" "Z") (by decide +kernel)) (fun _ h9 => h9) rfl (by decide +kernel) (by rfl) (by rfl) (Nat.le_of_ble_eq_true rfl) dX2_heat_72 (fun H locs hP2 hD2 hS => ?_)
      have e9 := wPuI (cy := cy) (j := 14) (v := (1 : Int32)) hD (xe36.A h_o1).1 (xe36.A h_o1).2.1 gk50 rfl
      obtain ⟨S51, hS51⟩ : ∃ z, S35.sI o1 14 (1 : Int32) = z := ⟨_, rfl⟩
      have hP : va_P D vwCl (X ++ PL cy S51) H := by rw [← hS51, ← e9]; exact hP2
      have hD : va_D A (X ++ PL cy S51) := by rw [← hS51, ← e9]; exact hD2
      have xe52 : ext S35 S51 := by rw [← hS51]; exact ext.sI _ _ _ _
      have t53 : stp [(2, 13), (2, 14), (2, 15)] [] [] S S51 := by rw [← hS51]; exact t37.I 14 (1 : Int32) (xe36.A h_o1) (by decide) (⟨by decide, by decide⟩) (Or.inl (by decide))
      refine lv_aload_n hx hb dX2_heat_75 rfl (lv_at hl 4 rfl) ?_
      refine lv_iload_n hx hb dX2_heat_76 rfl (lv_at hl 5 rfl) ?_
      refine lv_i2l hx hb dX2_heat_77 rfl ?_
      refine lv_ldc2 (own := RX2) (v := 250000) hx hb hown (hts (.constantLong RX2 114 (250000)) (by decide +kernel)) dX2_heat_78 ?_
      refine lv_lmul hx hb dX2_heat_81 ?_
      have hFc := free_all hD hS hA
      refine va_calll (va_runSN (As := [.long (x1.toInt64 * (250000 : Int64))]) (rest := [.ref o1]) ⟨hx, hb, hml, hown, hts⟩ (c_X9_root l (cy := cy) (X := X) (D := D) S51 _ (x1.toInt64 * (250000 : Int64))) ⟨va_cnB 1 hts gX2_heat_X9_root_n72 rfl rfl rfl (hN (.methodLinkNest RX2 72 yX9_root RX9) (by decide +kernel)) (hts (.initialized RX9) (by decide +kernel)) (by decide +kernel) ⟨Nat.le_of_ble_eq_true rfl, Nat.le_of_ble_eq_true rfl⟩, hts (.static yX9_root) (by decide +kernel), trivial⟩ (pS hP hK hD hN) rfl rfl hl.1 rfl (lv_room (Nat.le_of_ble_eq_true rfl)) dX2_heat_82 ⟨(Nat.zero_le _), (Nat.zero_le _)⟩) hS (fun q _ h => hFc q h) hFc (fun r54 u t H1 locs ht hvm hw hB hz1 hk1 hS => ?_)
      have c55 := hw
      obtain ⟨hP, hD⟩ := wd_post hFc ht hB
      generalize H1 = H at hP hS ⊢
      obtain rfl : f_X9_root (x1.toInt64 * (250000 : Int64)) = r54 := c55.symm
      refine lv_l2i hx hb dX2_heat_85 rfl ?_
      obtain ⟨k56, gk56, hk56⟩ := wGt (cy := cy) X S51 (xe52.A (xe36.A h_o1)).1 (xe52.A (xe36.A h_o1)).2.1
      refine va_put (D := D) (ci := 6) (v := .int ((f_X9_root (x1.toInt64 * (250000 : Int64))).toInt32)) (ty := .int) (C := RX2) (T := TX2) (N := 20) hx hb hts hi_X2_heat_X2 tyX2 tyX2_ok nmX2 hown hK hP hD hS k56 hk56 rfl 15 (by decide) (hts (.fieldLink RX2 116 "Hobhouse$Gear" "caseDepth" "I") (by decide +kernel)) (fun _ h9 => h9) rfl (by decide +kernel) (rfl) (rfl) (Nat.le_of_ble_eq_true rfl) dX2_heat_86 (fun H locs hP2 hD2 hS => ?_)
      have e9 := wPuI (cy := cy) (j := 15) (v := ((f_X9_root (x1.toInt64 * (250000 : Int64))).toInt32)) hD (xe52.A (xe36.A h_o1)).1 (xe52.A (xe36.A h_o1)).2.1 gk56 rfl
      obtain ⟨S57, hS57⟩ : ∃ z, S51.sI o1 15 ((f_X9_root (x1.toInt64 * (250000 : Int64))).toInt32) = z := ⟨_, rfl⟩
      have hP : va_P D vwCl (X ++ PL cy S57) H := by rw [← hS57, ← e9]; exact hP2
      have hD : va_D A (X ++ PL cy S57) := by rw [← hS57, ← e9]; exact hD2
      have xe58 : ext S51 S57 := by rw [← hS57]; exact ext.sI _ _ _ _
      have t59 : stp [(2, 13), (2, 14), (2, 15)] [] [] S S57 := by rw [← hS57]; exact t53.I 15 ((f_X9_root (x1.toInt64 * (250000 : Int64))).toInt32) (xe52.A (xe36.A h_o1)) (by decide) (trivial) (Or.inl (by decide))
      refine lv_iload hx hb dX2_heat_89 (lv_at hl 0 rfl) ?_
      refine W.widen (k := 0) (n := 0) (Nat.le_of_ble_eq_true rfl) (Nat.le_of_ble_eq_true rfl) ?_
      exact W.iret (v := (((((f_X2_pitchDiameter S o1).toInt64) * (3 : Int64)) / (10000 : Int64)).toInt32) + (((((((f_X2_pitchDiameter S o1).toInt64) * ((f_X2_pitchDiameter S o1).toInt64)) / ((S.I o1 4).toInt64)) / (2000 : Int64)).toInt32) / (2 : Int32))) hx hb hr (fun t ht hW9 => ⟨⟨(((((f_X2_pitchDiameter S o1).toInt64) * (3 : Int64)) / (10000 : Int64)).toInt32) + (((((((f_X2_pitchDiameter S o1).toInt64) * ((f_X2_pitchDiameter S o1).toInt64)) / ((S.I o1 4).toInt64)) / (2000 : Int64)).toInt32) / (2 : Int32)), S57, rfl, ⟨(by show ((((((f_X2_pitchDiameter S o1).toInt64) * (3 : Int64)) / (10000 : Int64)).toInt32) + (((((((f_X2_pitchDiameter S o1).toInt64) * ((f_X2_pitchDiameter S o1).toInt64)) / ((S.I o1 4).toInt64)) / (2000 : Int64)).toInt32) / (2 : Int32)), S57) = f_X2_heat S o1 x1 x2; unfold f_X2_heat; rw [if_neg c7, l1_eq hS35, if_neg c39, l1_eq hS51, l1_eq hS57]), t59⟩, wd_end hP hK hD ht hW9.alike⟩, hS.F ht⟩) hS.2.2 dX2_heat_91 hlocks
def f_X2_takeOff (S : wPS) (o1 : Nat) (x1 : Int32) (x2 : Int32) : wPS := l1 (S.sI o1 12 ((S.I o1 12) - x1)) (fun S3 => l1 (S3.sI o1 15 (if (0 : Int32) < ((S3.I o1 15) - x1) then ((S3.I o1 15) - x1) else (0 : Int32))) (fun S8 => if (S8.I o1 12) = (0 : Int32) then l1 (S8.sI o1 16 (1 : Int32)) (fun S37 => if (30 : Int32) < x1 then l1 (S37.sI o1 17 (1 : Int32)) (fun S42 => S42) else if x1 ≤ (20 : Int32) then l1 (S37.sI o1 17 (0 : Int32)) (fun S47 => S47) else if x2 ≤ (100 : Int32) then l1 (S37.sI o1 17 (0 : Int32)) (fun S52 => S52) else l1 (S37.sI o1 17 (1 : Int32)) (fun S56 => S56)) else l1 (S8.sI o1 16 (0 : Int32)) (fun S14 => if (30 : Int32) < x1 then l1 (S14.sI o1 17 (1 : Int32)) (fun S19 => S19) else if x1 ≤ (20 : Int32) then l1 (S14.sI o1 17 (0 : Int32)) (fun S24 => S24) else if x2 ≤ (100 : Int32) then l1 (S14.sI o1 17 (0 : Int32)) (fun S29 => S29) else l1 (S14.sI o1 17 (1 : Int32)) (fun S33 => S33))))
theorem hi_X2_takeOff_X2 : ∀ w ∈ u_ws RX2 TX2 20, w ∈ wsX2_takeOff := by decide +kernel
theorem hd_X2_takeOff : yX2_takeOff.cls = RX2 ∧ yX2_takeOff.cls ≠ "java/lang/invoke/MethodHandle" ∧ yX2_takeOff.cls ≠ "java/lang/invoke/VarHandle" ∧ (parseMethodDescriptor yX2_takeOff.desc).map (fun d => d.parameters.length) = some 2 := by decide +kernel
set_option maxHeartbeats 4000000 in
set_option maxRecDepth 100000 in
theorem c_X2_takeOff (l : Launch) {D : va_G} {cy : Nat → ClassId} {X : va_W} (S : wPS) (sz : Nat) (o1 : Nat) (h_o1 : isA S o1 2) (x1 : Int32) (x2 : Int32) (hW : wtB S [])  : Met l yX2_takeOff wsX2_takeOff ({ frames := 1, cells := 0, slots := 0, locals := 14 }) (va_Pc [.ref o1, .int x1, .int x2] (fun U => U.heap.size = sz ∧ WD D cy X (fun _ => True) S U ∧ NW U)) (va_Qv (fun (u : wPS) => u = f_X2_takeOff S o1 x1 x2 ∧ stp [(2, 12), (2, 15), (2, 16), (2, 17)] [] [] S u) (fun u t => WD D cy X (va_A (X ++ PL cy S) sz) u t) (va_A (X ++ PL cy S) sz)) 0 0 (va_A (X ++ PL cy S) sz) := by
  refine Met.ofW (cc := cX2_takeOff) (maxL := 3) (ret := none) (by decide) rfl ?_
  intro p e s m args below meth c s₁ B hml hv
  obtain ⟨rfl, hsz, ⟨hP, hK, hD0⟩, hN⟩ := hv
  have hx := B.exec
  have hb := B.bytes
  have hr := B.returns
  have hts := atoms_spec (ws := wsX2_takeOff) B.pre
  have hown : s.vm.findClass RX2 = some m.cls := findClass_of_methodNamed (x := yX2_takeOff) B.named
  have hlocks := B.notSynchronized
  subst hsz
  have hD := hD0.self (sz := s.heap.size)
  generalize hAe : va_A (X ++ PL cy S) s.heap.size = A at hD ⊢
  have hA : ∀ q : Nat, s.heap.size ≤ q → A q := fun q h => by rw [← hAe]; exact Or.inr h
  have hS : va_S A s.heap s.heap [] := va_S.rf
  have hl := lv_entry ([.ref o1, .int x1, .int x2]) (n := 3) (Nat.le_of_ble_eq_true rfl)
  rw [lg_entry_eq]
  generalize (lg_sl ([.ref o1, .int x1, .int x2]) ++ List.replicate (3 - (lg_sl ([.ref o1, .int x1, .int x2])).length) Slot.unset).toArray = ls at hl ⊢
  have hl : lv_has ls 3 [(0, .ref o1), (1, .int x1), (2, .int x2)] := hl
  have t0 : stp [(2, 12), (2, 15), (2, 16), (2, 17)] [] [] S S := stp.rf hW
  refine lv_aload_n hx hb dX2_takeOff_0 rfl (lv_at hl 0 rfl) ?_
  refine lv_dup hx hb dX2_takeOff_1 rfl ?_
  obtain ⟨k1, gk1, hk1⟩ := wGt (cy := cy) X S h_o1.1 h_o1.2.1
  refine va_get (D := D) (ci := 6) (v := .int (S.I o1 12)) (C := RX2) (T := TX2) (N := 20) hx hb hts hi_X2_takeOff_X2 hown hK hP k1 hk1 rfl 12 (by decide) (hts (.fieldLink RX2 108 "Hobhouse$Gear" "stock" "I") (by decide +kernel)) (fun _ h9 => h9) rfl dX2_takeOff_2 ?_
  refine lv_iload_n hx hb dX2_takeOff_5 rfl (lv_at hl 1 rfl) ?_
  refine lv_isub hx hb dX2_takeOff_6 ?_
  obtain ⟨k2, gk2, hk2⟩ := wGt (cy := cy) X S h_o1.1 h_o1.2.1
  refine va_put (D := D) (ci := 6) (v := .int ((S.I o1 12) - x1)) (ty := .int) (C := RX2) (T := TX2) (N := 20) hx hb hts hi_X2_takeOff_X2 tyX2 tyX2_ok nmX2 hown hK hP hD hS k2 hk2 rfl 12 (by decide) (hts (.fieldLink RX2 108 "Hobhouse$Gear" "stock" "I") (by decide +kernel)) (fun _ h9 => h9) rfl (by decide +kernel) (rfl) (rfl) (Nat.le_of_ble_eq_true rfl) dX2_takeOff_7 (fun H locs hP2 hD2 hS => ?_)
  have e9 := wPuI (cy := cy) (j := 12) (v := ((S.I o1 12) - x1)) hD h_o1.1 h_o1.2.1 gk2 rfl
  obtain ⟨S3, hS3⟩ : ∃ z, S.sI o1 12 ((S.I o1 12) - x1) = z := ⟨_, rfl⟩
  have hP : va_P D vwCl (X ++ PL cy S3) H := by rw [← hS3, ← e9]; exact hP2
  have hD : va_D A (X ++ PL cy S3) := by rw [← hS3, ← e9]; exact hD2
  have xe4 : ext S S3 := by rw [← hS3]; exact ext.sI _ _ _ _
  have t5 : stp [(2, 12), (2, 15), (2, 16), (2, 17)] [] [] S S3 := by rw [← hS3]; exact t0.I 12 ((S.I o1 12) - x1) h_o1 (by decide) (trivial) (Or.inl (by decide))
  refine lv_aload_n hx hb dX2_takeOff_10 rfl (lv_at hl 0 rfl) ?_
  refine lv_iconst (v := 0) hx hb dX2_takeOff_11 (by decide) ?_
  refine lv_aload_n hx hb dX2_takeOff_12 rfl (lv_at hl 0 rfl) ?_
  obtain ⟨k6, gk6, hk6⟩ := wGt (cy := cy) X S3 (xe4.A h_o1).1 (xe4.A h_o1).2.1
  refine va_get (D := D) (ci := 6) (v := .int (S3.I o1 15)) (C := RX2) (T := TX2) (N := 20) hx hb hts hi_X2_takeOff_X2 hown hK hP k6 hk6 rfl 15 (by decide) (hts (.fieldLink RX2 116 "Hobhouse$Gear" "caseDepth" "I") (by decide +kernel)) (fun _ h9 => h9) rfl dX2_takeOff_13 ?_
  refine lv_iload_n hx hb dX2_takeOff_16 rfl (lv_at hl 1 rfl) ?_
  refine lv_isub hx hb dX2_takeOff_17 ?_
  refine va_mmax hx hb (hml.trans hl.1.symm) hown (hts (.methodLink RX2 119 Lib.Math.max.name) (by decide +kernel)) (hts (.static Lib.Math.max.name) (by decide +kernel)) (hts (.initialized "java/lang/Math") (by decide +kernel)) (hts (.code Lib.Math.max.name Lib.Math.max.code 2 (some .int)) (by decide +kernel)) (Nat.le_of_ble_eq_true rfl) (Nat.le_of_ble_eq_true rfl) (Nat.zero_le _) (Nat.zero_le _) dX2_takeOff_18 ?_
  obtain ⟨k7, gk7, hk7⟩ := wGt (cy := cy) X S3 (xe4.A h_o1).1 (xe4.A h_o1).2.1
  refine va_put (D := D) (ci := 6) (v := .int (if (0 : Int32) < ((S3.I o1 15) - x1) then ((S3.I o1 15) - x1) else (0 : Int32))) (ty := .int) (C := RX2) (T := TX2) (N := 20) hx hb hts hi_X2_takeOff_X2 tyX2 tyX2_ok nmX2 hown hK hP hD hS k7 hk7 rfl 15 (by decide) (hts (.fieldLink RX2 116 "Hobhouse$Gear" "caseDepth" "I") (by decide +kernel)) (fun _ h9 => h9) rfl (by decide +kernel) (rfl) (rfl) (Nat.le_of_ble_eq_true rfl) dX2_takeOff_21 (fun H locs hP2 hD2 hS => ?_)
  have e9 := wPuI (cy := cy) (j := 15) (v := (if (0 : Int32) < ((S3.I o1 15) - x1) then ((S3.I o1 15) - x1) else (0 : Int32))) hD (xe4.A h_o1).1 (xe4.A h_o1).2.1 gk7 rfl
  obtain ⟨S8, hS8⟩ : ∃ z, S3.sI o1 15 (if (0 : Int32) < ((S3.I o1 15) - x1) then ((S3.I o1 15) - x1) else (0 : Int32)) = z := ⟨_, rfl⟩
  have hP : va_P D vwCl (X ++ PL cy S8) H := by rw [← hS8, ← e9]; exact hP2
  have hD : va_D A (X ++ PL cy S8) := by rw [← hS8, ← e9]; exact hD2
  have xe9 : ext S3 S8 := by rw [← hS8]; exact ext.sI _ _ _ _
  have t10 : stp [(2, 12), (2, 15), (2, 16), (2, 17)] [] [] S S8 := by rw [← hS8]; exact t5.I 15 (if (0 : Int32) < ((S3.I o1 15) - x1) then ((S3.I o1 15) - x1) else (0 : Int32)) (xe4.A h_o1) (by decide) (trivial) (Or.inl (by decide))
  refine lv_aload_n hx hb dX2_takeOff_24 rfl (lv_at hl 0 rfl) ?_
  refine lv_aload_n hx hb dX2_takeOff_25 rfl (lv_at hl 0 rfl) ?_
  obtain ⟨k11, gk11, hk11⟩ := wGt (cy := cy) X S8 (xe9.A (xe4.A h_o1)).1 (xe9.A (xe4.A h_o1)).2.1
  refine va_get (D := D) (ci := 6) (v := .int (S8.I o1 12)) (C := RX2) (T := TX2) (N := 20) hx hb hts hi_X2_takeOff_X2 hown hK hP k11 hk11 rfl 12 (by decide) (hts (.fieldLink RX2 108 "Hobhouse$Gear" "stock" "I") (by decide +kernel)) (fun _ h9 => h9) rfl dX2_takeOff_26 ?_
  refine lv_if_ne (tgt := 36) hx hb dX2_takeOff_29 (by decide) (fun c12 => ?_) (fun c12 => ?_)
  · have c12i : ¬ (S8.I o1 12).toInt = 0 := neq_v rfl rfl c12
    refine lv_iconst (v := 0) hx hb dX2_takeOff_36 (by decide) ?_
    have l32_0 : (0 : Int32).toInt = 0 := rfl
    obtain ⟨k13, gk13, hk13⟩ := wGt (cy := cy) X S8 (xe9.A (xe4.A h_o1)).1 (xe9.A (xe4.A h_o1)).2.1
    refine va_put (D := D) (ci := 6) (v := .int (0 : Int32)) (ty := .boolean) (C := RX2) (T := TX2) (N := 20) hx hb hts hi_X2_takeOff_X2 tyX2 tyX2_ok nmX2 hown hK hP hD hS k13 hk13 rfl 16 (by decide) (hts (.fieldLink RX2 125 "Hobhouse$Gear" "isGround" "Z") (by decide +kernel)) (fun _ h9 => h9) rfl (by decide +kernel) (by rfl) (by rfl) (Nat.le_of_ble_eq_true rfl) dX2_takeOff_37 (fun H locs hP2 hD2 hS => ?_)
    have e9 := wPuI (cy := cy) (j := 16) (v := (0 : Int32)) hD (xe9.A (xe4.A h_o1)).1 (xe9.A (xe4.A h_o1)).2.1 gk13 rfl
    obtain ⟨S14, hS14⟩ : ∃ z, S8.sI o1 16 (0 : Int32) = z := ⟨_, rfl⟩
    have hP : va_P D vwCl (X ++ PL cy S14) H := by rw [← hS14, ← e9]; exact hP2
    have hD : va_D A (X ++ PL cy S14) := by rw [← hS14, ← e9]; exact hD2
    have xe15 : ext S8 S14 := by rw [← hS14]; exact ext.sI _ _ _ _
    have t16 : stp [(2, 12), (2, 15), (2, 16), (2, 17)] [] [] S S14 := by rw [← hS14]; exact t10.I 16 (0 : Int32) (xe9.A (xe4.A h_o1)) (by decide) (⟨by decide, by decide⟩) (Or.inl (by decide))
    refine lv_aload_n hx hb dX2_takeOff_40 rfl (lv_at hl 0 rfl) ?_
    refine lv_iload_n hx hb dX2_takeOff_41 rfl (lv_at hl 1 rfl) ?_
    refine lv_bipush (v := 30) hx hb dX2_takeOff_42 (by decide +kernel) ?_
    refine lv_icmp_gt (tgt := 59) hx hb dX2_takeOff_44 (by decide) (fun c17 => ?_) (fun c17 => ?_)
    · have c17i : 30 < x1.toInt := lt_v rfl rfl c17
      refine lv_iconst (v := 1) hx hb dX2_takeOff_59 (by decide) ?_
      refine lv_goto (tgt := 64) hx hb dX2_takeOff_60 (by decide) ?_
      have l32_1 : (1 : Int32).toInt = 1 := rfl
      obtain ⟨k18, gk18, hk18⟩ := wGt (cy := cy) X S14 (xe15.A (xe9.A (xe4.A h_o1))).1 (xe15.A (xe9.A (xe4.A h_o1))).2.1
      refine va_put (D := D) (ci := 6) (v := .int (1 : Int32)) (ty := .boolean) (C := RX2) (T := TX2) (N := 20) hx hb hts hi_X2_takeOff_X2 tyX2 tyX2_ok nmX2 hown hK hP hD hS k18 hk18 rfl 17 (by decide) (hts (.fieldLink RX2 92 "Hobhouse$Gear" "isScrap" "Z") (by decide +kernel)) (fun _ h9 => h9) rfl (by decide +kernel) (by rfl) (by rfl) (Nat.le_of_ble_eq_true rfl) dX2_takeOff_64 (fun H locs hP2 hD2 hS => ?_)
      have e9 := wPuI (cy := cy) (j := 17) (v := (1 : Int32)) hD (xe15.A (xe9.A (xe4.A h_o1))).1 (xe15.A (xe9.A (xe4.A h_o1))).2.1 gk18 rfl
      obtain ⟨S19, hS19⟩ : ∃ z, S14.sI o1 17 (1 : Int32) = z := ⟨_, rfl⟩
      have hP : va_P D vwCl (X ++ PL cy S19) H := by rw [← hS19, ← e9]; exact hP2
      have hD : va_D A (X ++ PL cy S19) := by rw [← hS19, ← e9]; exact hD2
      have xe20 : ext S14 S19 := by rw [← hS19]; exact ext.sI _ _ _ _
      have t21 : stp [(2, 12), (2, 15), (2, 16), (2, 17)] [] [] S S19 := by rw [← hS19]; exact t16.I 17 (1 : Int32) (xe15.A (xe9.A (xe4.A h_o1))) (by decide) (⟨by decide, by decide⟩) (Or.inl (by decide))
      refine W.widen (k := 0) (n := 0) (Nat.le_of_ble_eq_true rfl) (Nat.le_of_ble_eq_true rfl) ?_
      exact W.vret hx hb hr (fun t ht hW9 => ⟨⟨S19, rfl, ⟨(by show S19 = f_X2_takeOff S o1 x1 x2; unfold f_X2_takeOff; rw [l1_eq hS3, l1_eq hS8, if_neg c12, l1_eq hS14, if_pos c17, l1_eq hS19]), t21⟩, wd_end hP hK hD ht hW9.alike⟩, hS.F ht⟩) hS.2.2 dX2_takeOff_67 hlocks
    · have c17i : x1.toInt ≤ 30 := nlt_v rfl rfl c17
      refine lv_iload_n hx hb dX2_takeOff_47 rfl (lv_at hl 1 rfl) ?_
      refine lv_bipush (v := 20) hx hb dX2_takeOff_48 (by decide +kernel) ?_
      refine lv_icmp_le (tgt := 63) hx hb dX2_takeOff_50 (by decide) (fun c22 => ?_) (fun c22 => ?_)
      · have c22i : x1.toInt ≤ 20 := le_v rfl rfl c22
        refine lv_iconst (v := 0) hx hb dX2_takeOff_63 (by decide) ?_
        obtain ⟨k23, gk23, hk23⟩ := wGt (cy := cy) X S14 (xe15.A (xe9.A (xe4.A h_o1))).1 (xe15.A (xe9.A (xe4.A h_o1))).2.1
        refine va_put (D := D) (ci := 6) (v := .int (0 : Int32)) (ty := .boolean) (C := RX2) (T := TX2) (N := 20) hx hb hts hi_X2_takeOff_X2 tyX2 tyX2_ok nmX2 hown hK hP hD hS k23 hk23 rfl 17 (by decide) (hts (.fieldLink RX2 92 "Hobhouse$Gear" "isScrap" "Z") (by decide +kernel)) (fun _ h9 => h9) rfl (by decide +kernel) (by rfl) (by rfl) (Nat.le_of_ble_eq_true rfl) dX2_takeOff_64 (fun H locs hP2 hD2 hS => ?_)
        have e9 := wPuI (cy := cy) (j := 17) (v := (0 : Int32)) hD (xe15.A (xe9.A (xe4.A h_o1))).1 (xe15.A (xe9.A (xe4.A h_o1))).2.1 gk23 rfl
        obtain ⟨S24, hS24⟩ : ∃ z, S14.sI o1 17 (0 : Int32) = z := ⟨_, rfl⟩
        have hP : va_P D vwCl (X ++ PL cy S24) H := by rw [← hS24, ← e9]; exact hP2
        have hD : va_D A (X ++ PL cy S24) := by rw [← hS24, ← e9]; exact hD2
        have xe25 : ext S14 S24 := by rw [← hS24]; exact ext.sI _ _ _ _
        have t26 : stp [(2, 12), (2, 15), (2, 16), (2, 17)] [] [] S S24 := by rw [← hS24]; exact t16.I 17 (0 : Int32) (xe15.A (xe9.A (xe4.A h_o1))) (by decide) (⟨by decide, by decide⟩) (Or.inl (by decide))
        refine W.widen (k := 0) (n := 0) (Nat.le_of_ble_eq_true rfl) (Nat.le_of_ble_eq_true rfl) ?_
        exact W.vret hx hb hr (fun t ht hW9 => ⟨⟨S24, rfl, ⟨(by show S24 = f_X2_takeOff S o1 x1 x2; unfold f_X2_takeOff; rw [l1_eq hS3, l1_eq hS8, if_neg c12, l1_eq hS14, if_neg c17, if_pos c22, l1_eq hS24]), t26⟩, wd_end hP hK hD ht hW9.alike⟩, hS.F ht⟩) hS.2.2 dX2_takeOff_67 hlocks
      · have c22i : 20 < x1.toInt := nle_v rfl rfl c22
        refine lv_iload_n hx hb dX2_takeOff_53 rfl (lv_at hl 2 rfl) ?_
        refine lv_bipush (v := 100) hx hb dX2_takeOff_54 (by decide +kernel) ?_
        refine lv_icmp_le (tgt := 63) hx hb dX2_takeOff_56 (by decide) (fun c27 => ?_) (fun c27 => ?_)
        · have c27i : x2.toInt ≤ 100 := le_v rfl rfl c27
          refine lv_iconst (v := 0) hx hb dX2_takeOff_63 (by decide) ?_
          obtain ⟨k28, gk28, hk28⟩ := wGt (cy := cy) X S14 (xe15.A (xe9.A (xe4.A h_o1))).1 (xe15.A (xe9.A (xe4.A h_o1))).2.1
          refine va_put (D := D) (ci := 6) (v := .int (0 : Int32)) (ty := .boolean) (C := RX2) (T := TX2) (N := 20) hx hb hts hi_X2_takeOff_X2 tyX2 tyX2_ok nmX2 hown hK hP hD hS k28 hk28 rfl 17 (by decide) (hts (.fieldLink RX2 92 "Hobhouse$Gear" "isScrap" "Z") (by decide +kernel)) (fun _ h9 => h9) rfl (by decide +kernel) (by rfl) (by rfl) (Nat.le_of_ble_eq_true rfl) dX2_takeOff_64 (fun H locs hP2 hD2 hS => ?_)
          have e9 := wPuI (cy := cy) (j := 17) (v := (0 : Int32)) hD (xe15.A (xe9.A (xe4.A h_o1))).1 (xe15.A (xe9.A (xe4.A h_o1))).2.1 gk28 rfl
          obtain ⟨S29, hS29⟩ : ∃ z, S14.sI o1 17 (0 : Int32) = z := ⟨_, rfl⟩
          have hP : va_P D vwCl (X ++ PL cy S29) H := by rw [← hS29, ← e9]; exact hP2
          have hD : va_D A (X ++ PL cy S29) := by rw [← hS29, ← e9]; exact hD2
          have xe30 : ext S14 S29 := by rw [← hS29]; exact ext.sI _ _ _ _
          have t31 : stp [(2, 12), (2, 15), (2, 16), (2, 17)] [] [] S S29 := by rw [← hS29]; exact t16.I 17 (0 : Int32) (xe15.A (xe9.A (xe4.A h_o1))) (by decide) (⟨by decide, by decide⟩) (Or.inl (by decide))
          refine W.widen (k := 0) (n := 0) (Nat.le_of_ble_eq_true rfl) (Nat.le_of_ble_eq_true rfl) ?_
          exact W.vret hx hb hr (fun t ht hW9 => ⟨⟨S29, rfl, ⟨(by show S29 = f_X2_takeOff S o1 x1 x2; unfold f_X2_takeOff; rw [l1_eq hS3, l1_eq hS8, if_neg c12, l1_eq hS14, if_neg c17, if_neg c22, if_pos c27, l1_eq hS29]), t31⟩, wd_end hP hK hD ht hW9.alike⟩, hS.F ht⟩) hS.2.2 dX2_takeOff_67 hlocks
        · have c27i : 100 < x2.toInt := nle_v rfl rfl c27
          refine lv_iconst (v := 1) hx hb dX2_takeOff_59 (by decide) ?_
          refine lv_goto (tgt := 64) hx hb dX2_takeOff_60 (by decide) ?_
          have l32_1 : (1 : Int32).toInt = 1 := rfl
          obtain ⟨k32, gk32, hk32⟩ := wGt (cy := cy) X S14 (xe15.A (xe9.A (xe4.A h_o1))).1 (xe15.A (xe9.A (xe4.A h_o1))).2.1
          refine va_put (D := D) (ci := 6) (v := .int (1 : Int32)) (ty := .boolean) (C := RX2) (T := TX2) (N := 20) hx hb hts hi_X2_takeOff_X2 tyX2 tyX2_ok nmX2 hown hK hP hD hS k32 hk32 rfl 17 (by decide) (hts (.fieldLink RX2 92 "Hobhouse$Gear" "isScrap" "Z") (by decide +kernel)) (fun _ h9 => h9) rfl (by decide +kernel) (by rfl) (by rfl) (Nat.le_of_ble_eq_true rfl) dX2_takeOff_64 (fun H locs hP2 hD2 hS => ?_)
          have e9 := wPuI (cy := cy) (j := 17) (v := (1 : Int32)) hD (xe15.A (xe9.A (xe4.A h_o1))).1 (xe15.A (xe9.A (xe4.A h_o1))).2.1 gk32 rfl
          obtain ⟨S33, hS33⟩ : ∃ z, S14.sI o1 17 (1 : Int32) = z := ⟨_, rfl⟩
          have hP : va_P D vwCl (X ++ PL cy S33) H := by rw [← hS33, ← e9]; exact hP2
          have hD : va_D A (X ++ PL cy S33) := by rw [← hS33, ← e9]; exact hD2
          have xe34 : ext S14 S33 := by rw [← hS33]; exact ext.sI _ _ _ _
          have t35 : stp [(2, 12), (2, 15), (2, 16), (2, 17)] [] [] S S33 := by rw [← hS33]; exact t16.I 17 (1 : Int32) (xe15.A (xe9.A (xe4.A h_o1))) (by decide) (⟨by decide, by decide⟩) (Or.inl (by decide))
          refine W.widen (k := 0) (n := 0) (Nat.le_of_ble_eq_true rfl) (Nat.le_of_ble_eq_true rfl) ?_
          exact W.vret hx hb hr (fun t ht hW9 => ⟨⟨S33, rfl, ⟨(by show S33 = f_X2_takeOff S o1 x1 x2; unfold f_X2_takeOff; rw [l1_eq hS3, l1_eq hS8, if_neg c12, l1_eq hS14, if_neg c17, if_neg c22, if_neg c27, l1_eq hS33]), t35⟩, wd_end hP hK hD ht hW9.alike⟩, hS.F ht⟩) hS.2.2 dX2_takeOff_67 hlocks
  · have c12i : (S8.I o1 12).toInt = 0 := eq_v rfl rfl c12
    refine lv_iconst (v := 1) hx hb dX2_takeOff_32 (by decide) ?_
    refine lv_goto (tgt := 37) hx hb dX2_takeOff_33 (by decide) ?_
    have l32_1 : (1 : Int32).toInt = 1 := rfl
    obtain ⟨k36, gk36, hk36⟩ := wGt (cy := cy) X S8 (xe9.A (xe4.A h_o1)).1 (xe9.A (xe4.A h_o1)).2.1
    refine va_put (D := D) (ci := 6) (v := .int (1 : Int32)) (ty := .boolean) (C := RX2) (T := TX2) (N := 20) hx hb hts hi_X2_takeOff_X2 tyX2 tyX2_ok nmX2 hown hK hP hD hS k36 hk36 rfl 16 (by decide) (hts (.fieldLink RX2 125 "Hobhouse$Gear" "isGround" "Z") (by decide +kernel)) (fun _ h9 => h9) rfl (by decide +kernel) (by rfl) (by rfl) (Nat.le_of_ble_eq_true rfl) dX2_takeOff_37 (fun H locs hP2 hD2 hS => ?_)
    have e9 := wPuI (cy := cy) (j := 16) (v := (1 : Int32)) hD (xe9.A (xe4.A h_o1)).1 (xe9.A (xe4.A h_o1)).2.1 gk36 rfl
    obtain ⟨S37, hS37⟩ : ∃ z, S8.sI o1 16 (1 : Int32) = z := ⟨_, rfl⟩
    have hP : va_P D vwCl (X ++ PL cy S37) H := by rw [← hS37, ← e9]; exact hP2
    have hD : va_D A (X ++ PL cy S37) := by rw [← hS37, ← e9]; exact hD2
    have xe38 : ext S8 S37 := by rw [← hS37]; exact ext.sI _ _ _ _
    have t39 : stp [(2, 12), (2, 15), (2, 16), (2, 17)] [] [] S S37 := by rw [← hS37]; exact t10.I 16 (1 : Int32) (xe9.A (xe4.A h_o1)) (by decide) (⟨by decide, by decide⟩) (Or.inl (by decide))
    refine lv_aload_n hx hb dX2_takeOff_40 rfl (lv_at hl 0 rfl) ?_
    refine lv_iload_n hx hb dX2_takeOff_41 rfl (lv_at hl 1 rfl) ?_
    refine lv_bipush (v := 30) hx hb dX2_takeOff_42 (by decide +kernel) ?_
    refine lv_icmp_gt (tgt := 59) hx hb dX2_takeOff_44 (by decide) (fun c40 => ?_) (fun c40 => ?_)
    · have c40i : 30 < x1.toInt := lt_v rfl rfl c40
      refine lv_iconst (v := 1) hx hb dX2_takeOff_59 (by decide) ?_
      refine lv_goto (tgt := 64) hx hb dX2_takeOff_60 (by decide) ?_
      obtain ⟨k41, gk41, hk41⟩ := wGt (cy := cy) X S37 (xe38.A (xe9.A (xe4.A h_o1))).1 (xe38.A (xe9.A (xe4.A h_o1))).2.1
      refine va_put (D := D) (ci := 6) (v := .int (1 : Int32)) (ty := .boolean) (C := RX2) (T := TX2) (N := 20) hx hb hts hi_X2_takeOff_X2 tyX2 tyX2_ok nmX2 hown hK hP hD hS k41 hk41 rfl 17 (by decide) (hts (.fieldLink RX2 92 "Hobhouse$Gear" "isScrap" "Z") (by decide +kernel)) (fun _ h9 => h9) rfl (by decide +kernel) (by rfl) (by rfl) (Nat.le_of_ble_eq_true rfl) dX2_takeOff_64 (fun H locs hP2 hD2 hS => ?_)
      have e9 := wPuI (cy := cy) (j := 17) (v := (1 : Int32)) hD (xe38.A (xe9.A (xe4.A h_o1))).1 (xe38.A (xe9.A (xe4.A h_o1))).2.1 gk41 rfl
      obtain ⟨S42, hS42⟩ : ∃ z, S37.sI o1 17 (1 : Int32) = z := ⟨_, rfl⟩
      have hP : va_P D vwCl (X ++ PL cy S42) H := by rw [← hS42, ← e9]; exact hP2
      have hD : va_D A (X ++ PL cy S42) := by rw [← hS42, ← e9]; exact hD2
      have xe43 : ext S37 S42 := by rw [← hS42]; exact ext.sI _ _ _ _
      have t44 : stp [(2, 12), (2, 15), (2, 16), (2, 17)] [] [] S S42 := by rw [← hS42]; exact t39.I 17 (1 : Int32) (xe38.A (xe9.A (xe4.A h_o1))) (by decide) (⟨by decide, by decide⟩) (Or.inl (by decide))
      refine W.widen (k := 0) (n := 0) (Nat.le_of_ble_eq_true rfl) (Nat.le_of_ble_eq_true rfl) ?_
      exact W.vret hx hb hr (fun t ht hW9 => ⟨⟨S42, rfl, ⟨(by show S42 = f_X2_takeOff S o1 x1 x2; unfold f_X2_takeOff; rw [l1_eq hS3, l1_eq hS8, if_pos c12, l1_eq hS37, if_pos c40, l1_eq hS42]), t44⟩, wd_end hP hK hD ht hW9.alike⟩, hS.F ht⟩) hS.2.2 dX2_takeOff_67 hlocks
    · have c40i : x1.toInt ≤ 30 := nlt_v rfl rfl c40
      refine lv_iload_n hx hb dX2_takeOff_47 rfl (lv_at hl 1 rfl) ?_
      refine lv_bipush (v := 20) hx hb dX2_takeOff_48 (by decide +kernel) ?_
      refine lv_icmp_le (tgt := 63) hx hb dX2_takeOff_50 (by decide) (fun c45 => ?_) (fun c45 => ?_)
      · have c45i : x1.toInt ≤ 20 := le_v rfl rfl c45
        refine lv_iconst (v := 0) hx hb dX2_takeOff_63 (by decide) ?_
        have l32_0 : (0 : Int32).toInt = 0 := rfl
        obtain ⟨k46, gk46, hk46⟩ := wGt (cy := cy) X S37 (xe38.A (xe9.A (xe4.A h_o1))).1 (xe38.A (xe9.A (xe4.A h_o1))).2.1
        refine va_put (D := D) (ci := 6) (v := .int (0 : Int32)) (ty := .boolean) (C := RX2) (T := TX2) (N := 20) hx hb hts hi_X2_takeOff_X2 tyX2 tyX2_ok nmX2 hown hK hP hD hS k46 hk46 rfl 17 (by decide) (hts (.fieldLink RX2 92 "Hobhouse$Gear" "isScrap" "Z") (by decide +kernel)) (fun _ h9 => h9) rfl (by decide +kernel) (by rfl) (by rfl) (Nat.le_of_ble_eq_true rfl) dX2_takeOff_64 (fun H locs hP2 hD2 hS => ?_)
        have e9 := wPuI (cy := cy) (j := 17) (v := (0 : Int32)) hD (xe38.A (xe9.A (xe4.A h_o1))).1 (xe38.A (xe9.A (xe4.A h_o1))).2.1 gk46 rfl
        obtain ⟨S47, hS47⟩ : ∃ z, S37.sI o1 17 (0 : Int32) = z := ⟨_, rfl⟩
        have hP : va_P D vwCl (X ++ PL cy S47) H := by rw [← hS47, ← e9]; exact hP2
        have hD : va_D A (X ++ PL cy S47) := by rw [← hS47, ← e9]; exact hD2
        have xe48 : ext S37 S47 := by rw [← hS47]; exact ext.sI _ _ _ _
        have t49 : stp [(2, 12), (2, 15), (2, 16), (2, 17)] [] [] S S47 := by rw [← hS47]; exact t39.I 17 (0 : Int32) (xe38.A (xe9.A (xe4.A h_o1))) (by decide) (⟨by decide, by decide⟩) (Or.inl (by decide))
        refine W.widen (k := 0) (n := 0) (Nat.le_of_ble_eq_true rfl) (Nat.le_of_ble_eq_true rfl) ?_
        exact W.vret hx hb hr (fun t ht hW9 => ⟨⟨S47, rfl, ⟨(by show S47 = f_X2_takeOff S o1 x1 x2; unfold f_X2_takeOff; rw [l1_eq hS3, l1_eq hS8, if_pos c12, l1_eq hS37, if_neg c40, if_pos c45, l1_eq hS47]), t49⟩, wd_end hP hK hD ht hW9.alike⟩, hS.F ht⟩) hS.2.2 dX2_takeOff_67 hlocks
      · have c45i : 20 < x1.toInt := nle_v rfl rfl c45
        refine lv_iload_n hx hb dX2_takeOff_53 rfl (lv_at hl 2 rfl) ?_
        refine lv_bipush (v := 100) hx hb dX2_takeOff_54 (by decide +kernel) ?_
        refine lv_icmp_le (tgt := 63) hx hb dX2_takeOff_56 (by decide) (fun c50 => ?_) (fun c50 => ?_)
        · have c50i : x2.toInt ≤ 100 := le_v rfl rfl c50
          refine lv_iconst (v := 0) hx hb dX2_takeOff_63 (by decide) ?_
          have l32_0 : (0 : Int32).toInt = 0 := rfl
          obtain ⟨k51, gk51, hk51⟩ := wGt (cy := cy) X S37 (xe38.A (xe9.A (xe4.A h_o1))).1 (xe38.A (xe9.A (xe4.A h_o1))).2.1
          refine va_put (D := D) (ci := 6) (v := .int (0 : Int32)) (ty := .boolean) (C := RX2) (T := TX2) (N := 20) hx hb hts hi_X2_takeOff_X2 tyX2 tyX2_ok nmX2 hown hK hP hD hS k51 hk51 rfl 17 (by decide) (hts (.fieldLink RX2 92 "Hobhouse$Gear" "isScrap" "Z") (by decide +kernel)) (fun _ h9 => h9) rfl (by decide +kernel) (by rfl) (by rfl) (Nat.le_of_ble_eq_true rfl) dX2_takeOff_64 (fun H locs hP2 hD2 hS => ?_)
          have e9 := wPuI (cy := cy) (j := 17) (v := (0 : Int32)) hD (xe38.A (xe9.A (xe4.A h_o1))).1 (xe38.A (xe9.A (xe4.A h_o1))).2.1 gk51 rfl
          obtain ⟨S52, hS52⟩ : ∃ z, S37.sI o1 17 (0 : Int32) = z := ⟨_, rfl⟩
          have hP : va_P D vwCl (X ++ PL cy S52) H := by rw [← hS52, ← e9]; exact hP2
          have hD : va_D A (X ++ PL cy S52) := by rw [← hS52, ← e9]; exact hD2
          have xe53 : ext S37 S52 := by rw [← hS52]; exact ext.sI _ _ _ _
          have t54 : stp [(2, 12), (2, 15), (2, 16), (2, 17)] [] [] S S52 := by rw [← hS52]; exact t39.I 17 (0 : Int32) (xe38.A (xe9.A (xe4.A h_o1))) (by decide) (⟨by decide, by decide⟩) (Or.inl (by decide))
          refine W.widen (k := 0) (n := 0) (Nat.le_of_ble_eq_true rfl) (Nat.le_of_ble_eq_true rfl) ?_
          exact W.vret hx hb hr (fun t ht hW9 => ⟨⟨S52, rfl, ⟨(by show S52 = f_X2_takeOff S o1 x1 x2; unfold f_X2_takeOff; rw [l1_eq hS3, l1_eq hS8, if_pos c12, l1_eq hS37, if_neg c40, if_neg c45, if_pos c50, l1_eq hS52]), t54⟩, wd_end hP hK hD ht hW9.alike⟩, hS.F ht⟩) hS.2.2 dX2_takeOff_67 hlocks
        · have c50i : 100 < x2.toInt := nle_v rfl rfl c50
          refine lv_iconst (v := 1) hx hb dX2_takeOff_59 (by decide) ?_
          refine lv_goto (tgt := 64) hx hb dX2_takeOff_60 (by decide) ?_
          obtain ⟨k55, gk55, hk55⟩ := wGt (cy := cy) X S37 (xe38.A (xe9.A (xe4.A h_o1))).1 (xe38.A (xe9.A (xe4.A h_o1))).2.1
          refine va_put (D := D) (ci := 6) (v := .int (1 : Int32)) (ty := .boolean) (C := RX2) (T := TX2) (N := 20) hx hb hts hi_X2_takeOff_X2 tyX2 tyX2_ok nmX2 hown hK hP hD hS k55 hk55 rfl 17 (by decide) (hts (.fieldLink RX2 92 "Hobhouse$Gear" "isScrap" "Z") (by decide +kernel)) (fun _ h9 => h9) rfl (by decide +kernel) (by rfl) (by rfl) (Nat.le_of_ble_eq_true rfl) dX2_takeOff_64 (fun H locs hP2 hD2 hS => ?_)
          have e9 := wPuI (cy := cy) (j := 17) (v := (1 : Int32)) hD (xe38.A (xe9.A (xe4.A h_o1))).1 (xe38.A (xe9.A (xe4.A h_o1))).2.1 gk55 rfl
          obtain ⟨S56, hS56⟩ : ∃ z, S37.sI o1 17 (1 : Int32) = z := ⟨_, rfl⟩
          have hP : va_P D vwCl (X ++ PL cy S56) H := by rw [← hS56, ← e9]; exact hP2
          have hD : va_D A (X ++ PL cy S56) := by rw [← hS56, ← e9]; exact hD2
          have xe57 : ext S37 S56 := by rw [← hS56]; exact ext.sI _ _ _ _
          have t58 : stp [(2, 12), (2, 15), (2, 16), (2, 17)] [] [] S S56 := by rw [← hS56]; exact t39.I 17 (1 : Int32) (xe38.A (xe9.A (xe4.A h_o1))) (by decide) (⟨by decide, by decide⟩) (Or.inl (by decide))
          refine W.widen (k := 0) (n := 0) (Nat.le_of_ble_eq_true rfl) (Nat.le_of_ble_eq_true rfl) ?_
          exact W.vret hx hb hr (fun t ht hW9 => ⟨⟨S56, rfl, ⟨(by show S56 = f_X2_takeOff S o1 x1 x2; unfold f_X2_takeOff; rw [l1_eq hS3, l1_eq hS8, if_pos c12, l1_eq hS37, if_neg c40, if_neg c45, if_neg c50, l1_eq hS56]), t58⟩, wd_end hP hK hD ht hW9.alike⟩, hS.F ht⟩) hS.2.2 dX2_takeOff_67 hlocks
