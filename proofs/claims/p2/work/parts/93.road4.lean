set_option maxHeartbeats 4000000 in
set_option maxRecDepth 100000 in
theorem road_48 {p : Program} {l : Launch} {e : Env} {s : State} {m : MethodId} {below : List Frame} {meth : Method} {c : Code} {b L : Nat} {xs : Nat → Int32} {D : va_G} {cy : Nat → ClassId} {c8 c9 : ClassId} {e0 mi : Nat} {Q : State → Prop} {qo qd o1 o2 : Nat} (C0 : LC p l s m c b L xs D cy c8 c9 e0 mi) (hL9 : L ≤ 2560) {S : wPS} {fo : Nat → Int64} {fd : Nat → UInt64} {H : Heap} {locs : List Loc} {ls : Array Slot} {cells slots : Nat} {i : Int32} (hi : 0 ≤ i.toInt ∧ i.toInt + 5 ≤ L) (hI : LI D cy c8 c9 e0 (fun q => s.heap.size ≤ q) o1 o2 qo qd fo fd S H) (hS : va_S (fun q => s.heap.size ≤ q) s.heap H locs) (hc : cells + 40 ≤ room_1.cells) (hs : slots + 1200 ≤ room_1.slots) (hl : lv_has ls 9 [(5, .int i), (4, .ref qd), (3, .ref qo), (2, .ref o1), (1, .ref o2), (0, .ref b)]) (kk : ∀ (S2 : wPS) (fo2 : Nat → Int64) (fd2 : Nat → UInt64) (H2 : Heap) (locs2 : List Loc) (ls2 : Array Slot), LI D cy c8 c9 e0 (fun q => s.heap.size ≤ q) o1 o2 qo qd fo2 fd2 S2 H2 → va_S (fun q => s.heap.size ≤ q) s.heap H2 locs2 → lv_has ls2 9 [(5, .int i), (4, .ref qd), (3, .ref qo), (2, .ref o1), (1, .ref o2), (0, .ref b)] → W p l e room_1 s m #[Value.ref b] below meth c H2 locs2 (cells + 40) (slots + 1200) Q (F0 m 2924 ls2 [])) : W p l e room_1 s m #[Value.ref b] below meth c H locs cells slots Q (F0 m 2408 ls []) := by
  obtain ⟨hx, hb, hml, hown, hts, hX, hbl, hN, hTH, hOU, hKX, hst, hNC⟩ := id C0
  obtain ⟨hP, hD, hW, h_o2, h_o1, h77, hMV, hIV, hR_RG⟩ := hI
  have hK := kX hKX
  have hA : ∀ q : Nat, s.heap.size ≤ q → (fun q : Nat => s.heap.size ≤ q) q := fun _ h => h
  have hbA : ¬ (fun q : Nat => s.heap.size ≤ q) b := Nat.not_le.mpr hbl
  refine lv_aload_n hx hb dL_law_2408 rfl (lv_at hl 4 rfl) ?_
  refine lv_aload_n hx hb dL_law_2409 rfl (lv_at hl 5 rfl) ?_
  refine lv_iload hx hb dL_law_2410 (lv_at hl 0 rfl) ?_
  refine lv_iconst (v := 1) hx hb dL_law_2412 (by decide) ?_
  refine lv_iadd hx hb dL_law_2413 ?_
  have l32_1 : (1 : Int32).toInt = 1 := rfl
  have i1 : (i + (1 : Int32)).toInt = i.toInt + 1 := t_addr (n := 1) rfl (by omega)
  refine va_sld hx hb hX hbl hbA hS (inb (m := L) rfl (by omega) (by omega)) dL_law_2414 ?_
  obtain ⟨y2, ey2⟩ : ∃ z : Int32, xs (i + (1 : Int32)).toNatClampNeg = z := ⟨_, rfl⟩
  rw [ey2]
  refine lv_aload_n hx hb dL_law_2415 rfl (lv_at hl 5 rfl) ?_
  refine lv_iload hx hb dL_law_2416 (lv_at hl 0 rfl) ?_
  refine lv_iconst (v := 2) hx hb dL_law_2418 (by decide) ?_
  refine lv_iadd hx hb dL_law_2419 ?_
  have l32_2 : (2 : Int32).toInt = 2 := rfl
  have i3 : (i + (2 : Int32)).toInt = i.toInt + 2 := t_addr (n := 2) rfl (by omega)
  refine va_sld hx hb hX hbl hbA hS (inb (m := L) rfl (by omega) (by omega)) dL_law_2420 ?_
  obtain ⟨y4, ey4⟩ : ∃ z : Int32, xs (i + (2 : Int32)).toNatClampNeg = z := ⟨_, rfl⟩
  rw [ey4]
  refine lv_aload_n hx hb dL_law_2421 rfl (lv_at hl 5 rfl) ?_
  refine lv_iload hx hb dL_law_2422 (lv_at hl 0 rfl) ?_
  refine lv_iconst (v := 3) hx hb dL_law_2424 (by decide) ?_
  refine lv_iadd hx hb dL_law_2425 ?_
  have l32_3 : (3 : Int32).toInt = 3 := rfl
  have i5 : (i + (3 : Int32)).toInt = i.toInt + 3 := t_addr (n := 3) rfl (by omega)
  refine va_sld hx hb hX hbl hbA hS (inb (m := L) rfl (by omega) (by omega)) dL_law_2426 ?_
  obtain ⟨y6, ey6⟩ : ∃ z : Int32, xs (i + (3 : Int32)).toNatClampNeg = z := ⟨_, rfl⟩
  rw [ey6]
  refine lv_aload_n hx hb dL_law_2427 rfl (lv_at hl 5 rfl) ?_
  refine lv_iload hx hb dL_law_2428 (lv_at hl 0 rfl) ?_
  refine lv_iconst (v := 4) hx hb dL_law_2430 (by decide) ?_
  refine lv_iadd hx hb dL_law_2431 ?_
  have l32_4 : (4 : Int32).toInt = 4 := rfl
  have i7 : (i + (4 : Int32)).toInt = i.toInt + 4 := t_addr (n := 4) rfl (by omega)
  refine va_sld hx hb hX hbl hbA hS (inb (m := L) rfl (by omega) (by omega)) dL_law_2432 ?_
  obtain ⟨y8, ey8⟩ : ∃ z : Int32, xs (i + (4 : Int32)).toNatClampNeg = z := ⟨_, rfl⟩
  rw [ey8]
  refine lv_aload_n hx hb dL_law_2433 rfl (lv_at hl 2 rfl) ?_
  have hFc := free_all hD hS hA
  refine va_calli (vx_runSW (As := [.ref o2, .int y2, .int y4, .int y6, .int y8, .ref qo]) (rest := []) ⟨hx, hb, hml, hown, hts⟩ (c_L_run l hst (e0 := e0) (mi := mi) (D := D) (cy := cy) (c8 := c8) (c9 := c9) qo qd fo fd S _ o2 h_o2 y2 y4 y6 y8 (hW)) (vx_cwSW 6 hts gL_law_L_run rfl rfl rfl (by decide +kernel) ⟨Nat.le_of_ble_eq_true rfl, Nat.le_of_ble_eq_true rfl⟩) ⟨fun a U g mk q => ⟨q.1, q.2.1, q.2.2.1.calling, NW.same (u := U) (U := U.calling g mk a) rfl q.2.2.2.1, q.2.2.2.2.1.calling, q.2.2.2.2.2.1.calling, q.2.2.2.2.2.2.calling⟩, fun U hU hW => ⟨rfl, by rw [hU], wx_pre hP hKX hD hU hW, hN.warm hW, th_pre hTH hS hFc hU hW, ou_pre hOU hS hFc hU hW, hNC.moved hW.alike⟩⟩ rfl rfl hl.1 rfl (lv_room (Nat.le_of_ble_eq_true rfl)) dL_law_2434 ⟨by omega, by omega⟩) hS (fun q _ h => hFc q h) hFc (fun r9 u t H1 locs ht hvm hw hB hz1 hk1 hS => ?_)
  obtain ⟨S10, f11⟩ := u
  have w12 := hw
  obtain ⟨hP, hD⟩ := wx_post hFc ht hB
  generalize H1 = H at hP hS ⊢
  have w12 : stp [(2, 18)] [] [] S S10 := w12
  have v13 : IV S10 o1 := IV.keep w12 hW h_o1 (by decide) (by decide) hIV
  have v14 : MV S10 o1 := MV.keep w12 hW h_o1 (by decide) (by decide) hMV
  have v15 : (RG o2) S10 o1 := RG.keep w12 hW h_o1 (by decide) (by decide) hR_RG
  have xe16 : ext S S10 := w12.x
  refine lv_istore (lv' := [(6, .int r9), (5, .int i), (4, .ref qd), (3, .ref qo), (2, .ref o1), (1, .ref o2), (0, .ref b)]) hx hb dL_law_2437 hl (by decide) rfl (fun ls hl => ?_)
  refine lv_aload_n hx hb dL_law_2439 rfl (lv_at hl 4 rfl) ?_
  refine lv_aload_n hx hb dL_law_2440 rfl (lv_at hl 6 rfl) ?_
  refine lv_iload hx hb dL_law_2441 (lv_at hl 1 rfl) ?_
  refine lv_iconst (v := 1) hx hb dL_law_2443 (by decide) ?_
  refine lv_iadd hx hb dL_law_2444 ?_
  refine va_sld hx hb hX hbl hbA hS (inb (m := L) rfl (by omega) (by omega)) dL_law_2445 ?_
  rw [ey2]
  refine lv_aload_n hx hb dL_law_2446 rfl (lv_at hl 6 rfl) ?_
  refine lv_iload hx hb dL_law_2447 (lv_at hl 1 rfl) ?_
  refine lv_iconst (v := 2) hx hb dL_law_2449 (by decide) ?_
  refine lv_iadd hx hb dL_law_2450 ?_
  refine va_sld hx hb hX hbl hbA hS (inb (m := L) rfl (by omega) (by omega)) dL_law_2451 ?_
  rw [ey4]
  refine lv_aload_n hx hb dL_law_2452 rfl (lv_at hl 6 rfl) ?_
  refine lv_iload hx hb dL_law_2453 (lv_at hl 1 rfl) ?_
  refine lv_iconst (v := 3) hx hb dL_law_2455 (by decide) ?_
  refine lv_iadd hx hb dL_law_2456 ?_
  refine va_sld hx hb hX hbl hbA hS (inb (m := L) rfl (by omega) (by omega)) dL_law_2457 ?_
  rw [ey6]
  refine lv_aload_n hx hb dL_law_2458 rfl (lv_at hl 6 rfl) ?_
  refine lv_iload hx hb dL_law_2459 (lv_at hl 1 rfl) ?_
  refine lv_iconst (v := 4) hx hb dL_law_2461 (by decide) ?_
  refine lv_iadd hx hb dL_law_2462 ?_
  refine va_sld hx hb hX hbl hbA hS (inb (m := L) rfl (by omega) (by omega)) dL_law_2463 ?_
  rw [ey8]
  have hFc := free_all hD hS hA
  obtain ⟨k18, gk18, hk18⟩ := wGt (cy := cy) (XO c8 c9 qo qd f11 fd) S10 (xe16.A h_o1).1 (xe16.A h_o1).2.1
  refine va_calli (va_runV (As := [.int y2, .int y4, .int y6, .int y8]) (rest := []) ⟨hx, hb, hml, hown, hts⟩ (c_X12_run l (cy := cy) (X := (XO c8 c9 qo qd f11 fd)) (D := D) S10 _ o1 (xe16.A h_o1) y2 y4 y6 y8 (w12.w)) (cwV 4 hts gL_law_X12_run rfl rfl rfl hd_X12_run ⟨Nat.le_of_ble_eq_true rfl, Nat.le_of_ble_eq_true rfl⟩) ⟨fun a U g mk q => ⟨q.1, q.2.1, q.2.2.1.calling, NW.same (u := U) (U := U.calling g mk a) rfl q.2.2.2⟩, va_recv hK hP (q := (RX12, TX12, 34)) (ci := 16) (q0 := k18) rfl hk18, fun U hU hW => ⟨rfl, by rw [hU], wd_pre hP hK hD hU hW, hN.warm hW⟩⟩ rfl rfl hl.1 rfl (lv_room (Nat.le_of_ble_eq_true rfl)) dL_law_2464 ⟨by omega, by omega⟩) hS (fun q _ h => hFc q h) hFc (fun r17 u t H1 locs ht hvm hw hB hz1 hk1 hS => ?_)
  have w19 := hw
  obtain ⟨hP, hD⟩ := wd_post hFc ht hB
  generalize H1 = H at hP hS ⊢
  obtain ⟨S20, rfl⟩ : ∃ z, z = u := ⟨_, rfl⟩
  have v21 : IV S20 o1 := IV.keep w19 w12.w (xe16.A h_o1) (by decide) (by decide) v13
  have v22 : MV S20 o1 := MV.keep w19 w12.w (xe16.A h_o1) (by decide) (by decide) v14
  have v23 : (RG o2) S20 o1 := RG.keep w19 w12.w (xe16.A h_o1) (by decide) (by decide) v15
  have xe24 : ext S10 S20 := w19.x
  refine lv_istore (lv' := [(7, .int r17), (6, .int r9), (5, .int i), (4, .ref qd), (3, .ref qo), (2, .ref o1), (1, .ref o2), (0, .ref b)]) hx hb dL_law_2467 hl (by decide) rfl (fun ls hl => ?_)
  refine lv_goto (tgt := 2924) hx hb dL_law_2469 (by decide) ?_
  refine W.widen (k := cells + 40) (n := slots + 1200) (by omega) (by omega) ?_
  exact kk S20 f11 fd H _ ls ⟨hP, hD, w19.w, ((xe16.tr xe24).A h_o2), (xe24.A (xe16.A h_o1)), ((xe16.tr xe24).F h_o1 (by decide) h77), v22, v21, v23⟩ hS (lv_sub hl [2, 3, 4, 5, 6, 7] rfl)
set_option maxHeartbeats 4000000 in
set_option maxRecDepth 100000 in
theorem road_49 {p : Program} {l : Launch} {e : Env} {s : State} {m : MethodId} {below : List Frame} {meth : Method} {c : Code} {b L : Nat} {xs : Nat → Int32} {D : va_G} {cy : Nat → ClassId} {c8 c9 : ClassId} {e0 mi : Nat} {Q : State → Prop} {qo qd o1 o2 : Nat} (C0 : LC p l s m c b L xs D cy c8 c9 e0 mi) (hL9 : L ≤ 2560) {S : wPS} {fo : Nat → Int64} {fd : Nat → UInt64} {H : Heap} {locs : List Loc} {ls : Array Slot} {cells slots : Nat} {i : Int32} (hi : 0 ≤ i.toInt ∧ i.toInt + 5 ≤ L) (hI : LI D cy c8 c9 e0 (fun q => s.heap.size ≤ q) o1 o2 qo qd fo fd S H) (hS : va_S (fun q => s.heap.size ≤ q) s.heap H locs) (hc : cells + 40 ≤ room_1.cells) (hs : slots + 1200 ≤ room_1.slots) (hl : lv_has ls 9 [(5, .int i), (4, .ref qd), (3, .ref qo), (2, .ref o1), (1, .ref o2), (0, .ref b)]) (kk : ∀ (S2 : wPS) (fo2 : Nat → Int64) (fd2 : Nat → UInt64) (H2 : Heap) (locs2 : List Loc) (ls2 : Array Slot), LI D cy c8 c9 e0 (fun q => s.heap.size ≤ q) o1 o2 qo qd fo2 fd2 S2 H2 → va_S (fun q => s.heap.size ≤ q) s.heap H2 locs2 → lv_has ls2 9 [(5, .int i), (4, .ref qd), (3, .ref qo), (2, .ref o1), (1, .ref o2), (0, .ref b)] → W p l e room_1 s m #[Value.ref b] below meth c H2 locs2 (cells + 40) (slots + 1200) Q (F0 m 2924 ls2 [])) : W p l e room_1 s m #[Value.ref b] below meth c H locs cells slots Q (F0 m 2472 ls []) := by
  obtain ⟨hx, hb, hml, hown, hts, hX, hbl, hN, hTH, hOU, hKX, hst, hNC⟩ := id C0
  obtain ⟨hP, hD, hW, h_o2, h_o1, h77, hMV, hIV, hR_RG⟩ := hI
  have hK := kX hKX
  have hA : ∀ q : Nat, s.heap.size ≤ q → (fun q : Nat => s.heap.size ≤ q) q := fun _ h => h
  have hbA : ¬ (fun q : Nat => s.heap.size ≤ q) b := Nat.not_le.mpr hbl
  refine lv_aload_n hx hb dL_law_2472 rfl (lv_at hl 4 rfl) ?_
  refine lv_aload_n hx hb dL_law_2473 rfl (lv_at hl 5 rfl) ?_
  refine lv_iload hx hb dL_law_2474 (lv_at hl 0 rfl) ?_
  refine lv_iconst (v := 1) hx hb dL_law_2476 (by decide) ?_
  refine lv_iadd hx hb dL_law_2477 ?_
  have l32_1 : (1 : Int32).toInt = 1 := rfl
  have i1 : (i + (1 : Int32)).toInt = i.toInt + 1 := t_addr (n := 1) rfl (by omega)
  refine va_sld hx hb hX hbl hbA hS (inb (m := L) rfl (by omega) (by omega)) dL_law_2478 ?_
  obtain ⟨y2, ey2⟩ : ∃ z : Int32, xs (i + (1 : Int32)).toNatClampNeg = z := ⟨_, rfl⟩
  rw [ey2]
  refine lv_aload_n hx hb dL_law_2479 rfl (lv_at hl 2 rfl) ?_
  have hFc := free_all hD hS hA
  refine va_calli (vx_runSW (As := [.ref o2, .int y2, .ref qo]) (rest := []) ⟨hx, hb, hml, hown, hts⟩ (c_L_damage l hst (e0 := e0) (mi := mi) (D := D) (cy := cy) (c8 := c8) (c9 := c9) qo qd fo fd S _ o2 h_o2 y2 (hW)) (vx_cwSW 3 hts gL_law_L_damage rfl rfl rfl (by decide +kernel) ⟨Nat.le_of_ble_eq_true rfl, Nat.le_of_ble_eq_true rfl⟩) ⟨fun a U g mk q => ⟨q.1, q.2.1, q.2.2.1.calling, NW.same (u := U) (U := U.calling g mk a) rfl q.2.2.2.1, q.2.2.2.2.1.calling, q.2.2.2.2.2.1.calling, q.2.2.2.2.2.2.calling⟩, fun U hU hW => ⟨rfl, by rw [hU], wx_pre hP hKX hD hU hW, hN.warm hW, th_pre hTH hS hFc hU hW, ou_pre hOU hS hFc hU hW, hNC.moved hW.alike⟩⟩ rfl rfl hl.1 rfl (lv_room (Nat.le_of_ble_eq_true rfl)) dL_law_2480 ⟨by omega, by omega⟩) hS (fun q _ h => hFc q h) hFc (fun r3 u t H1 locs ht hvm hw hB hz1 hk1 hS => ?_)
  obtain ⟨S4, f5⟩ := u
  have w6 := hw
  obtain ⟨hP, hD⟩ := wx_post hFc ht hB
  generalize H1 = H at hP hS ⊢
  have w6 : stp ([] : List (Nat × Nat)) [] [] S S4 := w6
  have v7 : IV S4 o1 := IV.keep w6 hW h_o1 (by decide) (by decide) hIV
  have v8 : MV S4 o1 := MV.keep w6 hW h_o1 (by decide) (by decide) hMV
  have v9 : (RG o2) S4 o1 := RG.keep w6 hW h_o1 (by decide) (by decide) hR_RG
  have xe10 : ext S S4 := w6.x
  refine lv_istore (lv' := [(6, .int r3), (5, .int i), (4, .ref qd), (3, .ref qo), (2, .ref o1), (1, .ref o2), (0, .ref b)]) hx hb dL_law_2483 hl (by decide) rfl (fun ls hl => ?_)
  refine lv_aload_n hx hb dL_law_2485 rfl (lv_at hl 4 rfl) ?_
  refine lv_aload_n hx hb dL_law_2486 rfl (lv_at hl 6 rfl) ?_
  refine lv_iload hx hb dL_law_2487 (lv_at hl 1 rfl) ?_
  refine lv_iconst (v := 1) hx hb dL_law_2489 (by decide) ?_
  refine lv_iadd hx hb dL_law_2490 ?_
  refine va_sld hx hb hX hbl hbA hS (inb (m := L) rfl (by omega) (by omega)) dL_law_2491 ?_
  rw [ey2]
  have hFc := free_all hD hS hA
  obtain ⟨k12, gk12, hk12⟩ := wGt (cy := cy) (XO c8 c9 qo qd f5 fd) S4 (xe10.A h_o1).1 (xe10.A h_o1).2.1
  refine va_calll (va_runV (As := [.int y2]) (rest := []) ⟨hx, hb, hml, hown, hts⟩ (c_X12_damage l (cy := cy) (X := (XO c8 c9 qo qd f5 fd)) (D := D) S4 _ o1 (xe10.A h_o1) y2 (w6.w)) (cwV 1 hts gL_law_X12_damage rfl rfl rfl hd_X12_damage ⟨Nat.le_of_ble_eq_true rfl, Nat.le_of_ble_eq_true rfl⟩) ⟨fun a U g mk q => ⟨q.1, q.2.1, q.2.2.1.calling, NW.same (u := U) (U := U.calling g mk a) rfl q.2.2.2⟩, va_recv hK hP (q := (RX12, TX12, 34)) (ci := 16) (q0 := k12) rfl hk12, fun U hU hW => ⟨rfl, by rw [hU], wd_pre hP hK hD hU hW, hN.warm hW⟩⟩ rfl rfl hl.1 rfl (lv_room (Nat.le_of_ble_eq_true rfl)) dL_law_2492 ⟨by omega, by omega⟩) hS (fun q _ h => hFc q h) hFc (fun r11 u t H1 locs ht hvm hw hB hz1 hk1 hS => ?_)
  have w13 := hw
  obtain ⟨hP, hD⟩ := wd_post hFc ht hB
  generalize H1 = H at hP hS ⊢
  obtain ⟨S14, rfl⟩ : ∃ z, z = u := ⟨_, rfl⟩
  have v15 : IV S14 o1 := IV.keep w13 w6.w (xe10.A h_o1) (by decide) (by decide) v7
  have v16 : MV S14 o1 := MV.keep w13 w6.w (xe10.A h_o1) (by decide) (by decide) v8
  have v17 : (RG o2) S14 o1 := RG.keep w13 w6.w (xe10.A h_o1) (by decide) (by decide) v9
  have xe18 : ext S4 S14 := w13.x
  refine lv_lstore (lv' := [(7, .long r11), (6, .int r3), (5, .int i), (4, .ref qd), (3, .ref qo), (2, .ref o1), (1, .ref o2), (0, .ref b)]) hx hb dL_law_2495 hl (by decide) rfl (fun ls hl => ?_)
  refine lv_goto (tgt := 2924) hx hb dL_law_2497 (by decide) ?_
  refine W.widen (k := cells + 40) (n := slots + 1200) (by omega) (by omega) ?_
  exact kk S14 f5 fd H _ ls ⟨hP, hD, w13.w, ((xe10.tr xe18).A h_o2), (xe18.A (xe10.A h_o1)), ((xe10.tr xe18).F h_o1 (by decide) h77), v16, v15, v17⟩ hS (lv_sub hl [2, 3, 4, 5, 6, 7] rfl)
set_option maxHeartbeats 4000000 in
set_option maxRecDepth 100000 in
theorem road_50 {p : Program} {l : Launch} {e : Env} {s : State} {m : MethodId} {below : List Frame} {meth : Method} {c : Code} {b L : Nat} {xs : Nat → Int32} {D : va_G} {cy : Nat → ClassId} {c8 c9 : ClassId} {e0 mi : Nat} {Q : State → Prop} {qo qd o1 o2 : Nat} (C0 : LC p l s m c b L xs D cy c8 c9 e0 mi) (hL9 : L ≤ 2560) {S : wPS} {fo : Nat → Int64} {fd : Nat → UInt64} {H : Heap} {locs : List Loc} {ls : Array Slot} {cells slots : Nat} {i : Int32} (hi : 0 ≤ i.toInt ∧ i.toInt + 5 ≤ L) (hI : LI D cy c8 c9 e0 (fun q => s.heap.size ≤ q) o1 o2 qo qd fo fd S H) (hS : va_S (fun q => s.heap.size ≤ q) s.heap H locs) (hc : cells + 40 ≤ room_1.cells) (hs : slots + 1200 ≤ room_1.slots) (hl : lv_has ls 9 [(5, .int i), (4, .ref qd), (3, .ref qo), (2, .ref o1), (1, .ref o2), (0, .ref b)]) (kk : ∀ (S2 : wPS) (fo2 : Nat → Int64) (fd2 : Nat → UInt64) (H2 : Heap) (locs2 : List Loc) (ls2 : Array Slot), LI D cy c8 c9 e0 (fun q => s.heap.size ≤ q) o1 o2 qo qd fo2 fd2 S2 H2 → va_S (fun q => s.heap.size ≤ q) s.heap H2 locs2 → lv_has ls2 9 [(5, .int i), (4, .ref qd), (3, .ref qo), (2, .ref o1), (1, .ref o2), (0, .ref b)] → W p l e room_1 s m #[Value.ref b] below meth c H2 locs2 (cells + 40) (slots + 1200) Q (F0 m 2924 ls2 [])) : W p l e room_1 s m #[Value.ref b] below meth c H locs cells slots Q (F0 m 2500 ls []) := by
  obtain ⟨hx, hb, hml, hown, hts, hX, hbl, hN, hTH, hOU, hKX, hst, hNC⟩ := id C0
  obtain ⟨hP, hD, hW, h_o2, h_o1, h77, hMV, hIV, hR_RG⟩ := hI
  have hK := kX hKX
  have hA : ∀ q : Nat, s.heap.size ≤ q → (fun q : Nat => s.heap.size ≤ q) q := fun _ h => h
  have hbA : ¬ (fun q : Nat => s.heap.size ≤ q) b := Nat.not_le.mpr hbl
  refine lv_aload_n hx hb dL_law_2500 rfl (lv_at hl 4 rfl) ?_
  refine lv_aload_n hx hb dL_law_2501 rfl (lv_at hl 5 rfl) ?_
  refine lv_iload hx hb dL_law_2502 (lv_at hl 0 rfl) ?_
  refine lv_iconst (v := 1) hx hb dL_law_2504 (by decide) ?_
  refine lv_iadd hx hb dL_law_2505 ?_
  have l32_1 : (1 : Int32).toInt = 1 := rfl
  have i1 : (i + (1 : Int32)).toInt = i.toInt + 1 := t_addr (n := 1) rfl (by omega)
  refine va_sld hx hb hX hbl hbA hS (inb (m := L) rfl (by omega) (by omega)) dL_law_2506 ?_
  obtain ⟨y2, ey2⟩ : ∃ z : Int32, xs (i + (1 : Int32)).toNatClampNeg = z := ⟨_, rfl⟩
  rw [ey2]
  refine lv_aload_n hx hb dL_law_2507 rfl (lv_at hl 5 rfl) ?_
  refine lv_iload hx hb dL_law_2508 (lv_at hl 0 rfl) ?_
  refine lv_iconst (v := 2) hx hb dL_law_2510 (by decide) ?_
  refine lv_iadd hx hb dL_law_2511 ?_
  have l32_2 : (2 : Int32).toInt = 2 := rfl
  have i3 : (i + (2 : Int32)).toInt = i.toInt + 2 := t_addr (n := 2) rfl (by omega)
  refine va_sld hx hb hX hbl hbA hS (inb (m := L) rfl (by omega) (by omega)) dL_law_2512 ?_
  obtain ⟨y4, ey4⟩ : ∃ z : Int32, xs (i + (2 : Int32)).toNatClampNeg = z := ⟨_, rfl⟩
  rw [ey4]
  refine lv_aload_n hx hb dL_law_2513 rfl (lv_at hl 5 rfl) ?_
  refine lv_iload hx hb dL_law_2514 (lv_at hl 0 rfl) ?_
  refine lv_iconst (v := 3) hx hb dL_law_2516 (by decide) ?_
  refine lv_iadd hx hb dL_law_2517 ?_
  have l32_3 : (3 : Int32).toInt = 3 := rfl
  have i5 : (i + (3 : Int32)).toInt = i.toInt + 3 := t_addr (n := 3) rfl (by omega)
  refine va_sld hx hb hX hbl hbA hS (inb (m := L) rfl (by omega) (by omega)) dL_law_2518 ?_
  obtain ⟨y6, ey6⟩ : ∃ z : Int32, xs (i + (3 : Int32)).toNatClampNeg = z := ⟨_, rfl⟩
  rw [ey6]
  refine lv_aload_n hx hb dL_law_2519 rfl (lv_at hl 2 rfl) ?_
  have hFc := free_all hD hS hA
  refine va_calli (vx_runSW (As := [.ref o2, .int y2, .int y4, .int y6, .ref qo]) (rest := []) ⟨hx, hb, hml, hown, hts⟩ (c_L_match l hst (e0 := e0) (mi := mi) (D := D) (cy := cy) (c8 := c8) (c9 := c9) qo qd fo fd S _ o2 h_o2 y2 y4 y6 (hW)) (vx_cwSW 5 hts gL_law_L_match rfl rfl rfl (by decide +kernel) ⟨Nat.le_of_ble_eq_true rfl, Nat.le_of_ble_eq_true rfl⟩) ⟨fun a U g mk q => ⟨q.1, q.2.1, q.2.2.1.calling, NW.same (u := U) (U := U.calling g mk a) rfl q.2.2.2.1, q.2.2.2.2.1.calling, q.2.2.2.2.2.1.calling, q.2.2.2.2.2.2.calling⟩, fun U hU hW => ⟨rfl, by rw [hU], wx_pre hP hKX hD hU hW, hN.warm hW, th_pre hTH hS hFc hU hW, ou_pre hOU hS hFc hU hW, hNC.moved hW.alike⟩⟩ rfl rfl hl.1 rfl (lv_room (Nat.le_of_ble_eq_true rfl)) dL_law_2520 ⟨by omega, by omega⟩) hS (fun q _ h => hFc q h) hFc (fun r7 u t H1 locs ht hvm hw hB hz1 hk1 hS => ?_)
  obtain ⟨S8, f9⟩ := u
  have w10 := hw
  obtain ⟨hP, hD⟩ := wx_post hFc ht hB
  generalize H1 = H at hP hS ⊢
  have w10 : stp [(2, 19), (4, 6), (4, 7), (4, 8), (6, 4), (17, 100), (18, 100), (24, 101)] [] [] S S8 := w10
  have v11 : IV S8 o1 := IV.keep w10 hW h_o1 (by decide) (by decide) hIV
  have v12 : MV S8 o1 := MV.keep w10 hW h_o1 (by decide) (by decide) hMV
  have v13 : (RG o2) S8 o1 := RG.keep w10 hW h_o1 (by decide) (by decide) hR_RG
  have xe14 : ext S S8 := w10.x
  refine lv_istore (lv' := [(6, .int r7), (5, .int i), (4, .ref qd), (3, .ref qo), (2, .ref o1), (1, .ref o2), (0, .ref b)]) hx hb dL_law_2523 hl (by decide) rfl (fun ls hl => ?_)
  refine lv_aload_n hx hb dL_law_2525 rfl (lv_at hl 4 rfl) ?_
  refine lv_aload_n hx hb dL_law_2526 rfl (lv_at hl 6 rfl) ?_
  refine lv_iload hx hb dL_law_2527 (lv_at hl 1 rfl) ?_
  refine lv_iconst (v := 1) hx hb dL_law_2529 (by decide) ?_
  refine lv_iadd hx hb dL_law_2530 ?_
  refine va_sld hx hb hX hbl hbA hS (inb (m := L) rfl (by omega) (by omega)) dL_law_2531 ?_
  rw [ey2]
  refine lv_aload_n hx hb dL_law_2532 rfl (lv_at hl 6 rfl) ?_
  refine lv_iload hx hb dL_law_2533 (lv_at hl 1 rfl) ?_
  refine lv_iconst (v := 2) hx hb dL_law_2535 (by decide) ?_
  refine lv_iadd hx hb dL_law_2536 ?_
  refine va_sld hx hb hX hbl hbA hS (inb (m := L) rfl (by omega) (by omega)) dL_law_2537 ?_
  rw [ey4]
  refine lv_aload_n hx hb dL_law_2538 rfl (lv_at hl 6 rfl) ?_
  refine lv_iload hx hb dL_law_2539 (lv_at hl 1 rfl) ?_
  refine lv_iconst (v := 3) hx hb dL_law_2541 (by decide) ?_
  refine lv_iadd hx hb dL_law_2542 ?_
  refine va_sld hx hb hX hbl hbA hS (inb (m := L) rfl (by omega) (by omega)) dL_law_2543 ?_
  rw [ey6]
  have hFc := free_all hD hS hA
  obtain ⟨k16, gk16, hk16⟩ := wGt (cy := cy) (XO c8 c9 qo qd f9 fd) S8 (xe14.A h_o1).1 (xe14.A h_o1).2.1
  refine va_calli (va_runV (As := [.int y2, .int y4, .int y6]) (rest := []) ⟨hx, hb, hml, hown, hts⟩ (c_X12_match l (cy := cy) (X := (XO c8 c9 qo qd f9 fd)) (D := D) S8 _ o1 (xe14.A h_o1) y2 y4 y6 (w10.w) (by omega) (by omega)) (cwV 3 hts gL_law_X12_match rfl rfl rfl hd_X12_match ⟨Nat.le_of_ble_eq_true rfl, Nat.le_of_ble_eq_true rfl⟩) ⟨fun a U g mk q => ⟨q.1, q.2.1, q.2.2.1.calling, NW.same (u := U) (U := U.calling g mk a) rfl q.2.2.2⟩, va_recv hK hP (q := (RX12, TX12, 34)) (ci := 16) (q0 := k16) rfl hk16, fun U hU hW => ⟨rfl, by rw [hU], wd_pre hP hK hD hU hW, hN.warm hW⟩⟩ rfl rfl hl.1 rfl (lv_room (Nat.le_of_ble_eq_true rfl)) dL_law_2544 ⟨by omega, by omega⟩) hS (fun q _ h => hFc q h) hFc (fun r15 u t H1 locs ht hvm hw hB hz1 hk1 hS => ?_)
  obtain ⟨w17, y18, y19⟩ := hw
  obtain ⟨hP, hD⟩ := wd_post hFc ht hB
  generalize H1 = H at hP hS ⊢
  obtain ⟨S20, rfl⟩ : ∃ z, z = u := ⟨_, rfl⟩
  have v21 : IV S20 o1 := y18
  have v22 : MV S20 o1 := y19
  have v23 : (RG o2) S20 o1 := RG.keep w17 w10.w (xe14.A h_o1) (by decide) (by decide) v13
  have xe24 : ext S8 S20 := w17.x
  refine lv_istore (lv' := [(7, .int r15), (6, .int r7), (5, .int i), (4, .ref qd), (3, .ref qo), (2, .ref o1), (1, .ref o2), (0, .ref b)]) hx hb dL_law_2547 hl (by decide) rfl (fun ls hl => ?_)
  refine lv_goto (tgt := 2924) hx hb dL_law_2549 (by decide) ?_
  refine W.widen (k := cells + 40) (n := slots + 1200) (by omega) (by omega) ?_
  exact kk S20 f9 fd H _ ls ⟨hP, hD, w17.w, ((xe14.tr xe24).A h_o2), (xe24.A (xe14.A h_o1)), ((xe14.tr xe24).F h_o1 (by decide) h77), v22, v21, v23⟩ hS (lv_sub hl [2, 3, 4, 5, 6, 7] rfl)
set_option maxHeartbeats 4000000 in
set_option maxRecDepth 100000 in
theorem road_51 {p : Program} {l : Launch} {e : Env} {s : State} {m : MethodId} {below : List Frame} {meth : Method} {c : Code} {b L : Nat} {xs : Nat → Int32} {D : va_G} {cy : Nat → ClassId} {c8 c9 : ClassId} {e0 mi : Nat} {Q : State → Prop} {qo qd o1 o2 : Nat} (C0 : LC p l s m c b L xs D cy c8 c9 e0 mi) (hL9 : L ≤ 2560) {S : wPS} {fo : Nat → Int64} {fd : Nat → UInt64} {H : Heap} {locs : List Loc} {ls : Array Slot} {cells slots : Nat} {i : Int32} (hi : 0 ≤ i.toInt ∧ i.toInt + 5 ≤ L) (hI : LI D cy c8 c9 e0 (fun q => s.heap.size ≤ q) o1 o2 qo qd fo fd S H) (hS : va_S (fun q => s.heap.size ≤ q) s.heap H locs) (hc : cells + 40 ≤ room_1.cells) (hs : slots + 1200 ≤ room_1.slots) (hl : lv_has ls 9 [(5, .int i), (4, .ref qd), (3, .ref qo), (2, .ref o1), (1, .ref o2), (0, .ref b)]) (kk : ∀ (S2 : wPS) (fo2 : Nat → Int64) (fd2 : Nat → UInt64) (H2 : Heap) (locs2 : List Loc) (ls2 : Array Slot), LI D cy c8 c9 e0 (fun q => s.heap.size ≤ q) o1 o2 qo qd fo2 fd2 S2 H2 → va_S (fun q => s.heap.size ≤ q) s.heap H2 locs2 → lv_has ls2 9 [(5, .int i), (4, .ref qd), (3, .ref qo), (2, .ref o1), (1, .ref o2), (0, .ref b)] → W p l e room_1 s m #[Value.ref b] below meth c H2 locs2 (cells + 40) (slots + 1200) Q (F0 m 2924 ls2 [])) : W p l e room_1 s m #[Value.ref b] below meth c H locs cells slots Q (F0 m 2552 ls []) := by
  obtain ⟨hx, hb, hml, hown, hts, hX, hbl, hN, hTH, hOU, hKX, hst, hNC⟩ := id C0
  obtain ⟨hP, hD, hW, h_o2, h_o1, h77, hMV, hIV, hR_RG⟩ := hI
  have hK := kX hKX
  have hA : ∀ q : Nat, s.heap.size ≤ q → (fun q : Nat => s.heap.size ≤ q) q := fun _ h => h
  have hbA : ¬ (fun q : Nat => s.heap.size ≤ q) b := Nat.not_le.mpr hbl
  refine lv_aload_n hx hb dL_law_2552 rfl (lv_at hl 4 rfl) ?_
  refine lv_aload_n hx hb dL_law_2553 rfl (lv_at hl 5 rfl) ?_
  refine lv_iload hx hb dL_law_2554 (lv_at hl 0 rfl) ?_
  refine lv_iconst (v := 1) hx hb dL_law_2556 (by decide) ?_
  refine lv_iadd hx hb dL_law_2557 ?_
  have l32_1 : (1 : Int32).toInt = 1 := rfl
  have i1 : (i + (1 : Int32)).toInt = i.toInt + 1 := t_addr (n := 1) rfl (by omega)
  refine va_sld hx hb hX hbl hbA hS (inb (m := L) rfl (by omega) (by omega)) dL_law_2558 ?_
  obtain ⟨y2, ey2⟩ : ∃ z : Int32, xs (i + (1 : Int32)).toNatClampNeg = z := ⟨_, rfl⟩
  rw [ey2]
  refine lv_aload_n hx hb dL_law_2559 rfl (lv_at hl 2 rfl) ?_
  have hFc := free_all hD hS hA
  refine va_calli (vx_runSW (As := [.ref o2, .int y2, .ref qo]) (rest := []) ⟨hx, hb, hml, hown, hts⟩ (c_L_mate l hst (e0 := e0) (mi := mi) (D := D) (cy := cy) (c8 := c8) (c9 := c9) qo qd fo fd S _ o2 h_o2 y2 (hW)) (vx_cwSW 3 hts gL_law_L_mate rfl rfl rfl (by decide +kernel) ⟨Nat.le_of_ble_eq_true rfl, Nat.le_of_ble_eq_true rfl⟩) ⟨fun a U g mk q => ⟨q.1, q.2.1, q.2.2.1.calling, NW.same (u := U) (U := U.calling g mk a) rfl q.2.2.2.1, q.2.2.2.2.1.calling, q.2.2.2.2.2.1.calling, q.2.2.2.2.2.2.calling⟩, fun U hU hW => ⟨rfl, by rw [hU], wx_pre hP hKX hD hU hW, hN.warm hW, th_pre hTH hS hFc hU hW, ou_pre hOU hS hFc hU hW, hNC.moved hW.alike⟩⟩ rfl rfl hl.1 rfl (lv_room (Nat.le_of_ble_eq_true rfl)) dL_law_2560 ⟨by omega, by omega⟩) hS (fun q _ h => hFc q h) hFc (fun r3 u t H1 locs ht hvm hw hB hz1 hk1 hS => ?_)
  obtain ⟨S4, f5⟩ := u
  have w6 := hw
  obtain ⟨hP, hD⟩ := wx_post hFc ht hB
  generalize H1 = H at hP hS ⊢
  have w6 : stp ([] : List (Nat × Nat)) [] [] S S4 := w6
  have v7 : IV S4 o1 := IV.keep w6 hW h_o1 (by decide) (by decide) hIV
  have v8 : MV S4 o1 := MV.keep w6 hW h_o1 (by decide) (by decide) hMV
  have v9 : (RG o2) S4 o1 := RG.keep w6 hW h_o1 (by decide) (by decide) hR_RG
  have xe10 : ext S S4 := w6.x
  refine lv_istore (lv' := [(6, .int r3), (5, .int i), (4, .ref qd), (3, .ref qo), (2, .ref o1), (1, .ref o2), (0, .ref b)]) hx hb dL_law_2563 hl (by decide) rfl (fun ls hl => ?_)
  refine lv_aload_n hx hb dL_law_2565 rfl (lv_at hl 4 rfl) ?_
  refine lv_aload_n hx hb dL_law_2566 rfl (lv_at hl 6 rfl) ?_
  refine lv_iload hx hb dL_law_2567 (lv_at hl 1 rfl) ?_
  refine lv_iconst (v := 1) hx hb dL_law_2569 (by decide) ?_
  refine lv_iadd hx hb dL_law_2570 ?_
  refine va_sld hx hb hX hbl hbA hS (inb (m := L) rfl (by omega) (by omega)) dL_law_2571 ?_
  rw [ey2]
  have hFc := free_all hD hS hA
  obtain ⟨k12, gk12, hk12⟩ := wGt (cy := cy) (XO c8 c9 qo qd f5 fd) S4 (xe10.A h_o1).1 (xe10.A h_o1).2.1
  refine va_calli (va_runV (As := [.int y2]) (rest := []) ⟨hx, hb, hml, hown, hts⟩ (c_X12_mate l (cy := cy) (X := (XO c8 c9 qo qd f5 fd)) (D := D) S4 _ o1 (xe10.A h_o1) y2 (w6.w)) (cwV 1 hts gL_law_X12_mate rfl rfl rfl hd_X12_mate ⟨Nat.le_of_ble_eq_true rfl, Nat.le_of_ble_eq_true rfl⟩) ⟨fun a U g mk q => ⟨q.1, q.2.1, q.2.2.1.calling, NW.same (u := U) (U := U.calling g mk a) rfl q.2.2.2⟩, va_recv hK hP (q := (RX12, TX12, 34)) (ci := 16) (q0 := k12) rfl hk12, fun U hU hW => ⟨rfl, by rw [hU], wd_pre hP hK hD hU hW, hN.warm hW⟩⟩ rfl rfl hl.1 rfl (lv_room (Nat.le_of_ble_eq_true rfl)) dL_law_2572 ⟨by omega, by omega⟩) hS (fun q _ h => hFc q h) hFc (fun r11 u t H1 locs ht hvm hw hB hz1 hk1 hS => ?_)
  have w13 := hw
  obtain ⟨hP, hD⟩ := wd_post hFc ht hB
  generalize H1 = H at hP hS ⊢
  obtain ⟨S14, rfl⟩ : ∃ z, z = u := ⟨_, rfl⟩
  have v15 : IV S14 o1 := IV.keep w13 w6.w (xe10.A h_o1) (by decide) (by decide) v7
  have v16 : MV S14 o1 := MV.keep w13 w6.w (xe10.A h_o1) (by decide) (by decide) v8
  have v17 : (RG o2) S14 o1 := RG.keep w13 w6.w (xe10.A h_o1) (by decide) (by decide) v9
  have xe18 : ext S4 S14 := w13.x
  refine lv_istore (lv' := [(7, .int r11), (6, .int r3), (5, .int i), (4, .ref qd), (3, .ref qo), (2, .ref o1), (1, .ref o2), (0, .ref b)]) hx hb dL_law_2575 hl (by decide) rfl (fun ls hl => ?_)
  refine lv_goto (tgt := 2924) hx hb dL_law_2577 (by decide) ?_
  refine W.widen (k := cells + 40) (n := slots + 1200) (by omega) (by omega) ?_
  exact kk S14 f5 fd H _ ls ⟨hP, hD, w13.w, ((xe10.tr xe18).A h_o2), (xe18.A (xe10.A h_o1)), ((xe10.tr xe18).F h_o1 (by decide) h77), v16, v15, v17⟩ hS (lv_sub hl [2, 3, 4, 5, 6, 7] rfl)
set_option maxHeartbeats 4000000 in
set_option maxRecDepth 100000 in
theorem road_52 {p : Program} {l : Launch} {e : Env} {s : State} {m : MethodId} {below : List Frame} {meth : Method} {c : Code} {b L : Nat} {xs : Nat → Int32} {D : va_G} {cy : Nat → ClassId} {c8 c9 : ClassId} {e0 mi : Nat} {Q : State → Prop} {qo qd o1 o2 : Nat} (C0 : LC p l s m c b L xs D cy c8 c9 e0 mi) (hL9 : L ≤ 2560) {S : wPS} {fo : Nat → Int64} {fd : Nat → UInt64} {H : Heap} {locs : List Loc} {ls : Array Slot} {cells slots : Nat} {i : Int32} (hi : 0 ≤ i.toInt ∧ i.toInt + 5 ≤ L) (hI : LI D cy c8 c9 e0 (fun q => s.heap.size ≤ q) o1 o2 qo qd fo fd S H) (hS : va_S (fun q => s.heap.size ≤ q) s.heap H locs) (hc : cells + 40 ≤ room_1.cells) (hs : slots + 1200 ≤ room_1.slots) (hl : lv_has ls 9 [(5, .int i), (4, .ref qd), (3, .ref qo), (2, .ref o1), (1, .ref o2), (0, .ref b)]) (kk : ∀ (S2 : wPS) (fo2 : Nat → Int64) (fd2 : Nat → UInt64) (H2 : Heap) (locs2 : List Loc) (ls2 : Array Slot), LI D cy c8 c9 e0 (fun q => s.heap.size ≤ q) o1 o2 qo qd fo2 fd2 S2 H2 → va_S (fun q => s.heap.size ≤ q) s.heap H2 locs2 → lv_has ls2 9 [(5, .int i), (4, .ref qd), (3, .ref qo), (2, .ref o1), (1, .ref o2), (0, .ref b)] → W p l e room_1 s m #[Value.ref b] below meth c H2 locs2 (cells + 40) (slots + 1200) Q (F0 m 2924 ls2 [])) : W p l e room_1 s m #[Value.ref b] below meth c H locs cells slots Q (F0 m 2580 ls []) := by
  obtain ⟨hx, hb, hml, hown, hts, hX, hbl, hN, hTH, hOU, hKX, hst, hNC⟩ := id C0
  obtain ⟨hP, hD, hW, h_o2, h_o1, h77, hMV, hIV, hR_RG⟩ := hI
  have hK := kX hKX
  have hA : ∀ q : Nat, s.heap.size ≤ q → (fun q : Nat => s.heap.size ≤ q) q := fun _ h => h
  have hbA : ¬ (fun q : Nat => s.heap.size ≤ q) b := Nat.not_le.mpr hbl
  refine lv_aload_n hx hb dL_law_2580 rfl (lv_at hl 4 rfl) ?_
  refine lv_aload_n hx hb dL_law_2581 rfl (lv_at hl 5 rfl) ?_
  refine lv_iload hx hb dL_law_2582 (lv_at hl 0 rfl) ?_
  refine lv_iconst (v := 1) hx hb dL_law_2584 (by decide) ?_
  refine lv_iadd hx hb dL_law_2585 ?_
  have l32_1 : (1 : Int32).toInt = 1 := rfl
  have i1 : (i + (1 : Int32)).toInt = i.toInt + 1 := t_addr (n := 1) rfl (by omega)
  refine va_sld hx hb hX hbl hbA hS (inb (m := L) rfl (by omega) (by omega)) dL_law_2586 ?_
  obtain ⟨y2, ey2⟩ : ∃ z : Int32, xs (i + (1 : Int32)).toNatClampNeg = z := ⟨_, rfl⟩
  rw [ey2]
  refine lv_aload_n hx hb dL_law_2587 rfl (lv_at hl 2 rfl) ?_
  have hFc := free_all hD hS hA
  refine va_calli (vx_runSW (As := [.ref o2, .int y2, .ref qo]) (rest := []) ⟨hx, hb, hml, hown, hts⟩ (c_L_separate l hst (e0 := e0) (mi := mi) (D := D) (cy := cy) (c8 := c8) (c9 := c9) qo qd fo fd S _ o2 h_o2 y2 (hW)) (vx_cwSW 3 hts gL_law_L_separate rfl rfl rfl (by decide +kernel) ⟨Nat.le_of_ble_eq_true rfl, Nat.le_of_ble_eq_true rfl⟩) ⟨fun a U g mk q => ⟨q.1, q.2.1, q.2.2.1.calling, NW.same (u := U) (U := U.calling g mk a) rfl q.2.2.2.1, q.2.2.2.2.1.calling, q.2.2.2.2.2.1.calling, q.2.2.2.2.2.2.calling⟩, fun U hU hW => ⟨rfl, by rw [hU], wx_pre hP hKX hD hU hW, hN.warm hW, th_pre hTH hS hFc hU hW, ou_pre hOU hS hFc hU hW, hNC.moved hW.alike⟩⟩ rfl rfl hl.1 rfl (lv_room (Nat.le_of_ble_eq_true rfl)) dL_law_2588 ⟨by omega, by omega⟩) hS (fun q _ h => hFc q h) hFc (fun r3 u t H1 locs ht hvm hw hB hz1 hk1 hS => ?_)
  obtain ⟨S4, f5⟩ := u
  have w6 := hw
  obtain ⟨hP, hD⟩ := wx_post hFc ht hB
  generalize H1 = H at hP hS ⊢
  have w6 : stp [(2, 19)] [] [] S S4 := w6
  have v7 : IV S4 o1 := IV.keep w6 hW h_o1 (by decide) (by decide) hIV
  have v8 : MV S4 o1 := MV.keep w6 hW h_o1 (by decide) (by decide) hMV
  have v9 : (RG o2) S4 o1 := RG.keep w6 hW h_o1 (by decide) (by decide) hR_RG
  have xe10 : ext S S4 := w6.x
  refine lv_istore (lv' := [(6, .int r3), (5, .int i), (4, .ref qd), (3, .ref qo), (2, .ref o1), (1, .ref o2), (0, .ref b)]) hx hb dL_law_2591 hl (by decide) rfl (fun ls hl => ?_)
  refine lv_aload_n hx hb dL_law_2593 rfl (lv_at hl 4 rfl) ?_
  refine lv_aload_n hx hb dL_law_2594 rfl (lv_at hl 6 rfl) ?_
  refine lv_iload hx hb dL_law_2595 (lv_at hl 1 rfl) ?_
  refine lv_iconst (v := 1) hx hb dL_law_2597 (by decide) ?_
  refine lv_iadd hx hb dL_law_2598 ?_
  refine va_sld hx hb hX hbl hbA hS (inb (m := L) rfl (by omega) (by omega)) dL_law_2599 ?_
  rw [ey2]
  have hFc := free_all hD hS hA
  obtain ⟨k12, gk12, hk12⟩ := wGt (cy := cy) (XO c8 c9 qo qd f5 fd) S4 (xe10.A h_o1).1 (xe10.A h_o1).2.1
  refine va_calli (va_runV (As := [.int y2]) (rest := []) ⟨hx, hb, hml, hown, hts⟩ (c_X12_separate l (cy := cy) (X := (XO c8 c9 qo qd f5 fd)) (D := D) S4 _ o1 (xe10.A h_o1) y2 (w6.w) (by omega) (by omega)) (cwV 1 hts gL_law_X12_separate rfl rfl rfl hd_X12_separate ⟨Nat.le_of_ble_eq_true rfl, Nat.le_of_ble_eq_true rfl⟩) ⟨fun a U g mk q => ⟨q.1, q.2.1, q.2.2.1.calling, NW.same (u := U) (U := U.calling g mk a) rfl q.2.2.2⟩, va_recv hK hP (q := (RX12, TX12, 34)) (ci := 16) (q0 := k12) rfl hk12, fun U hU hW => ⟨rfl, by rw [hU], wd_pre hP hK hD hU hW, hN.warm hW⟩⟩ rfl rfl hl.1 rfl (lv_room (Nat.le_of_ble_eq_true rfl)) dL_law_2600 ⟨by omega, by omega⟩) hS (fun q _ h => hFc q h) hFc (fun r11 u t H1 locs ht hvm hw hB hz1 hk1 hS => ?_)
  obtain ⟨w13, y14, y15⟩ := hw
  obtain ⟨hP, hD⟩ := wd_post hFc ht hB
  generalize H1 = H at hP hS ⊢
  obtain ⟨S16, rfl⟩ : ∃ z, z = u := ⟨_, rfl⟩
  have v17 : IV S16 o1 := y14
  have v18 : MV S16 o1 := y15
  have v19 : (RG o2) S16 o1 := RG.keep w13 w6.w (xe10.A h_o1) (by decide) (by decide) v9
  have xe20 : ext S4 S16 := w13.x
  refine lv_istore (lv' := [(7, .int r11), (6, .int r3), (5, .int i), (4, .ref qd), (3, .ref qo), (2, .ref o1), (1, .ref o2), (0, .ref b)]) hx hb dL_law_2603 hl (by decide) rfl (fun ls hl => ?_)
  refine lv_goto (tgt := 2924) hx hb dL_law_2605 (by decide) ?_
  refine W.widen (k := cells + 40) (n := slots + 1200) (by omega) (by omega) ?_
  exact kk S16 f5 fd H _ ls ⟨hP, hD, w13.w, ((xe10.tr xe20).A h_o2), (xe20.A (xe10.A h_o1)), ((xe10.tr xe20).F h_o1 (by decide) h77), v18, v17, v19⟩ hS (lv_sub hl [2, 3, 4, 5, 6, 7] rfl)
set_option maxHeartbeats 4000000 in
set_option maxRecDepth 100000 in
theorem road_53 {p : Program} {l : Launch} {e : Env} {s : State} {m : MethodId} {below : List Frame} {meth : Method} {c : Code} {b L : Nat} {xs : Nat → Int32} {D : va_G} {cy : Nat → ClassId} {c8 c9 : ClassId} {e0 mi : Nat} {Q : State → Prop} {qo qd o1 o2 : Nat} (C0 : LC p l s m c b L xs D cy c8 c9 e0 mi) (hL9 : L ≤ 2560) {S : wPS} {fo : Nat → Int64} {fd : Nat → UInt64} {H : Heap} {locs : List Loc} {ls : Array Slot} {cells slots : Nat} {i : Int32} (hi : 0 ≤ i.toInt ∧ i.toInt + 5 ≤ L) (hI : LI D cy c8 c9 e0 (fun q => s.heap.size ≤ q) o1 o2 qo qd fo fd S H) (hS : va_S (fun q => s.heap.size ≤ q) s.heap H locs) (hc : cells + 40 ≤ room_1.cells) (hs : slots + 1200 ≤ room_1.slots) (hl : lv_has ls 9 [(5, .int i), (4, .ref qd), (3, .ref qo), (2, .ref o1), (1, .ref o2), (0, .ref b)]) (kk : ∀ (S2 : wPS) (fo2 : Nat → Int64) (fd2 : Nat → UInt64) (H2 : Heap) (locs2 : List Loc) (ls2 : Array Slot), LI D cy c8 c9 e0 (fun q => s.heap.size ≤ q) o1 o2 qo qd fo2 fd2 S2 H2 → va_S (fun q => s.heap.size ≤ q) s.heap H2 locs2 → lv_has ls2 9 [(5, .int i), (4, .ref qd), (3, .ref qo), (2, .ref o1), (1, .ref o2), (0, .ref b)] → W p l e room_1 s m #[Value.ref b] below meth c H2 locs2 (cells + 40) (slots + 1200) Q (F0 m 2924 ls2 [])) : W p l e room_1 s m #[Value.ref b] below meth c H locs cells slots Q (F0 m 2608 ls []) := by
  obtain ⟨hx, hb, hml, hown, hts, hX, hbl, hN, hTH, hOU, hKX, hst, hNC⟩ := id C0
  obtain ⟨hP, hD, hW, h_o2, h_o1, h77, hMV, hIV, hR_RG⟩ := hI
  have hK := kX hKX
  have hA : ∀ q : Nat, s.heap.size ≤ q → (fun q : Nat => s.heap.size ≤ q) q := fun _ h => h
  have hbA : ¬ (fun q : Nat => s.heap.size ≤ q) b := Nat.not_le.mpr hbl
  refine lv_aload_n hx hb dL_law_2608 rfl (lv_at hl 4 rfl) ?_
  refine lv_aload_n hx hb dL_law_2609 rfl (lv_at hl 5 rfl) ?_
  refine lv_iload hx hb dL_law_2610 (lv_at hl 0 rfl) ?_
  refine lv_iconst (v := 1) hx hb dL_law_2612 (by decide) ?_
  refine lv_iadd hx hb dL_law_2613 ?_
  have l32_1 : (1 : Int32).toInt = 1 := rfl
  have i1 : (i + (1 : Int32)).toInt = i.toInt + 1 := t_addr (n := 1) rfl (by omega)
  refine va_sld hx hb hX hbl hbA hS (inb (m := L) rfl (by omega) (by omega)) dL_law_2614 ?_
  obtain ⟨y2, ey2⟩ : ∃ z : Int32, xs (i + (1 : Int32)).toNatClampNeg = z := ⟨_, rfl⟩
  rw [ey2]
  refine lv_i2c hx hb dL_law_2615 rfl ?_
  refine lv_aload_n hx hb dL_law_2616 rfl (lv_at hl 5 rfl) ?_
  refine lv_iload hx hb dL_law_2617 (lv_at hl 0 rfl) ?_
  refine lv_iconst (v := 2) hx hb dL_law_2619 (by decide) ?_
  refine lv_iadd hx hb dL_law_2620 ?_
  have l32_2 : (2 : Int32).toInt = 2 := rfl
  have i3 : (i + (2 : Int32)).toInt = i.toInt + 2 := t_addr (n := 2) rfl (by omega)
  refine va_sld hx hb hX hbl hbA hS (inb (m := L) rfl (by omega) (by omega)) dL_law_2621 ?_
  obtain ⟨y4, ey4⟩ : ∃ z : Int32, xs (i + (2 : Int32)).toNatClampNeg = z := ⟨_, rfl⟩
  rw [ey4]
  refine lv_aload_n hx hb dL_law_2622 rfl (lv_at hl 2 rfl) ?_
  have hFc := free_all hD hS hA
  refine va_calli (vx_runSW (As := [.ref o2, .int ((y2.toUInt32 % 65536).toInt32), .int y4, .ref qo]) (rest := []) ⟨hx, hb, hml, hown, hts⟩ (c_L_machine l hst (e0 := e0) (mi := mi) (D := D) (cy := cy) (c8 := c8) (c9 := c9) qo qd fo fd S _ o2 h_o2 ((y2.toUInt32 % 65536).toInt32) y4 (hW)) (vx_cwSW 4 hts gL_law_L_machine rfl rfl rfl (by decide +kernel) ⟨Nat.le_of_ble_eq_true rfl, Nat.le_of_ble_eq_true rfl⟩) ⟨fun a U g mk q => ⟨q.1, q.2.1, q.2.2.1.calling, NW.same (u := U) (U := U.calling g mk a) rfl q.2.2.2.1, q.2.2.2.2.1.calling, q.2.2.2.2.2.1.calling, q.2.2.2.2.2.2.calling⟩, fun U hU hW => ⟨rfl, by rw [hU], wx_pre hP hKX hD hU hW, hN.warm hW, th_pre hTH hS hFc hU hW, ou_pre hOU hS hFc hU hW, hNC.moved hW.alike⟩⟩ rfl rfl hl.1 rfl (lv_room (Nat.le_of_ble_eq_true rfl)) dL_law_2623 ⟨by omega, by omega⟩) hS (fun q _ h => hFc q h) hFc (fun r5 u t H1 locs ht hvm hw hB hz1 hk1 hS => ?_)
  obtain ⟨S6, f7⟩ := u
  have w8 := hw
  obtain ⟨hP, hD⟩ := wx_post hFc ht hB
  generalize H1 = H at hP hS ⊢
  have w8 : stp [(9, 5), (21, 101)] [] [] S S6 := w8
  have v9 : IV S6 o1 := IV.keep w8 hW h_o1 (by decide) (by decide) hIV
  have v10 : MV S6 o1 := MV.keep w8 hW h_o1 (by decide) (by decide) hMV
  have v11 : (RG o2) S6 o1 := RG.keep w8 hW h_o1 (by decide) (by decide) hR_RG
  have xe12 : ext S S6 := w8.x
  refine lv_istore (lv' := [(6, .int r5), (5, .int i), (4, .ref qd), (3, .ref qo), (2, .ref o1), (1, .ref o2), (0, .ref b)]) hx hb dL_law_2626 hl (by decide) rfl (fun ls hl => ?_)
  refine lv_aload_n hx hb dL_law_2628 rfl (lv_at hl 4 rfl) ?_
  refine lv_aload_n hx hb dL_law_2629 rfl (lv_at hl 6 rfl) ?_
  refine lv_iload hx hb dL_law_2630 (lv_at hl 1 rfl) ?_
  refine lv_iconst (v := 1) hx hb dL_law_2632 (by decide) ?_
  refine lv_iadd hx hb dL_law_2633 ?_
  refine va_sld hx hb hX hbl hbA hS (inb (m := L) rfl (by omega) (by omega)) dL_law_2634 ?_
  rw [ey2]
  refine lv_i2c hx hb dL_law_2635 rfl ?_
  refine lv_aload_n hx hb dL_law_2636 rfl (lv_at hl 6 rfl) ?_
  refine lv_iload hx hb dL_law_2637 (lv_at hl 1 rfl) ?_
  refine lv_iconst (v := 2) hx hb dL_law_2639 (by decide) ?_
  refine lv_iadd hx hb dL_law_2640 ?_
  refine va_sld hx hb hX hbl hbA hS (inb (m := L) rfl (by omega) (by omega)) dL_law_2641 ?_
  rw [ey4]
  have hFc := free_all hD hS hA
  obtain ⟨k14, gk14, hk14⟩ := wGt (cy := cy) (XO c8 c9 qo qd f7 fd) S6 (xe12.A h_o1).1 (xe12.A h_o1).2.1
  refine va_calli (va_runV (As := [.int ((y2.toUInt32 % 65536).toInt32), .int y4]) (rest := []) ⟨hx, hb, hml, hown, hts⟩ (c_X12_machine l (cy := cy) (X := (XO c8 c9 qo qd f7 fd)) (D := D) S6 _ o1 (xe12.A h_o1) ((y2.toUInt32 % 65536).toInt32) y4 (w8.w)) (cwV 2 hts gL_law_X12_machine rfl rfl rfl hd_X12_machine ⟨Nat.le_of_ble_eq_true rfl, Nat.le_of_ble_eq_true rfl⟩) ⟨fun a U g mk q => ⟨q.1, q.2.1, q.2.2.1.calling, NW.same (u := U) (U := U.calling g mk a) rfl q.2.2.2⟩, va_recv hK hP (q := (RX12, TX12, 34)) (ci := 16) (q0 := k14) rfl hk14, fun U hU hW => ⟨rfl, by rw [hU], wd_pre hP hK hD hU hW, hN.warm hW⟩⟩ rfl rfl hl.1 rfl (lv_room (Nat.le_of_ble_eq_true rfl)) dL_law_2642 ⟨by omega, by omega⟩) hS (fun q _ h => hFc q h) hFc (fun r13 u t H1 locs ht hvm hw hB hz1 hk1 hS => ?_)
  obtain ⟨c15, w16⟩ := hw
  obtain ⟨hP, hD⟩ := wd_post hFc ht hB
  generalize H1 = H at hP hS ⊢
  obtain ⟨S17, rfl⟩ : ∃ z, z = u := ⟨_, rfl⟩
  have v18 : IV S17 o1 := IV.keep w16 w8.w (xe12.A h_o1) (by decide) (by decide) v9
  have v19 : MV S17 o1 := MV.keep w16 w8.w (xe12.A h_o1) (by decide) (by decide) v10
  have v20 : (RG o2) S17 o1 := RG.keep w16 w8.w (xe12.A h_o1) (by decide) (by decide) v11
  have xe21 : ext S6 S17 := w16.x
  refine lv_istore (lv' := [(7, .int r13), (6, .int r5), (5, .int i), (4, .ref qd), (3, .ref qo), (2, .ref o1), (1, .ref o2), (0, .ref b)]) hx hb dL_law_2645 hl (by decide) rfl (fun ls hl => ?_)
  refine lv_goto (tgt := 2924) hx hb dL_law_2647 (by decide) ?_
  refine W.widen (k := cells + 40) (n := slots + 1200) (by omega) (by omega) ?_
  exact kk S17 f7 fd H _ ls ⟨hP, hD, w16.w, ((xe12.tr xe21).A h_o2), (xe21.A (xe12.A h_o1)), ((xe12.tr xe21).F h_o1 (by decide) h77), v19, v18, v20⟩ hS (lv_sub hl [2, 3, 4, 5, 6, 7] rfl)
set_option maxHeartbeats 4000000 in
set_option maxRecDepth 100000 in
theorem road_54 {p : Program} {l : Launch} {e : Env} {s : State} {m : MethodId} {below : List Frame} {meth : Method} {c : Code} {b L : Nat} {xs : Nat → Int32} {D : va_G} {cy : Nat → ClassId} {c8 c9 : ClassId} {e0 mi : Nat} {Q : State → Prop} {qo qd o1 o2 : Nat} (C0 : LC p l s m c b L xs D cy c8 c9 e0 mi) (hL9 : L ≤ 2560) {S : wPS} {fo : Nat → Int64} {fd : Nat → UInt64} {H : Heap} {locs : List Loc} {ls : Array Slot} {cells slots : Nat} {i : Int32} (hi : 0 ≤ i.toInt ∧ i.toInt + 5 ≤ L) (hI : LI D cy c8 c9 e0 (fun q => s.heap.size ≤ q) o1 o2 qo qd fo fd S H) (hS : va_S (fun q => s.heap.size ≤ q) s.heap H locs) (hc : cells + 40 ≤ room_1.cells) (hs : slots + 1200 ≤ room_1.slots) (hl : lv_has ls 9 [(5, .int i), (4, .ref qd), (3, .ref qo), (2, .ref o1), (1, .ref o2), (0, .ref b)]) (kk : ∀ (S2 : wPS) (fo2 : Nat → Int64) (fd2 : Nat → UInt64) (H2 : Heap) (locs2 : List Loc) (ls2 : Array Slot), LI D cy c8 c9 e0 (fun q => s.heap.size ≤ q) o1 o2 qo qd fo2 fd2 S2 H2 → va_S (fun q => s.heap.size ≤ q) s.heap H2 locs2 → lv_has ls2 9 [(5, .int i), (4, .ref qd), (3, .ref qo), (2, .ref o1), (1, .ref o2), (0, .ref b)] → W p l e room_1 s m #[Value.ref b] below meth c H2 locs2 (cells + 40) (slots + 1200) Q (F0 m 2924 ls2 [])) : W p l e room_1 s m #[Value.ref b] below meth c H locs cells slots Q (F0 m 2650 ls []) := by
  obtain ⟨hx, hb, hml, hown, hts, hX, hbl, hN, hTH, hOU, hKX, hst, hNC⟩ := id C0
  obtain ⟨hP, hD, hW, h_o2, h_o1, h77, hMV, hIV, hR_RG⟩ := hI
  have hK := kX hKX
  have hA : ∀ q : Nat, s.heap.size ≤ q → (fun q : Nat => s.heap.size ≤ q) q := fun _ h => h
  have hbA : ¬ (fun q : Nat => s.heap.size ≤ q) b := Nat.not_le.mpr hbl
  refine lv_aload_n hx hb dL_law_2650 rfl (lv_at hl 4 rfl) ?_
  refine lv_aload_n hx hb dL_law_2651 rfl (lv_at hl 5 rfl) ?_
  refine lv_iload hx hb dL_law_2652 (lv_at hl 0 rfl) ?_
  refine lv_iconst (v := 1) hx hb dL_law_2654 (by decide) ?_
  refine lv_iadd hx hb dL_law_2655 ?_
  have l32_1 : (1 : Int32).toInt = 1 := rfl
  have i1 : (i + (1 : Int32)).toInt = i.toInt + 1 := t_addr (n := 1) rfl (by omega)
  refine va_sld hx hb hX hbl hbA hS (inb (m := L) rfl (by omega) (by omega)) dL_law_2656 ?_
  obtain ⟨y2, ey2⟩ : ∃ z : Int32, xs (i + (1 : Int32)).toNatClampNeg = z := ⟨_, rfl⟩
  rw [ey2]
  refine lv_aload_n hx hb dL_law_2657 rfl (lv_at hl 5 rfl) ?_
  refine lv_iload hx hb dL_law_2658 (lv_at hl 0 rfl) ?_
  refine lv_iconst (v := 2) hx hb dL_law_2660 (by decide) ?_
  refine lv_iadd hx hb dL_law_2661 ?_
  have l32_2 : (2 : Int32).toInt = 2 := rfl
  have i3 : (i + (2 : Int32)).toInt = i.toInt + 2 := t_addr (n := 2) rfl (by omega)
  refine va_sld hx hb hX hbl hbA hS (inb (m := L) rfl (by omega) (by omega)) dL_law_2662 ?_
  obtain ⟨y4, ey4⟩ : ∃ z : Int32, xs (i + (2 : Int32)).toNatClampNeg = z := ⟨_, rfl⟩
  rw [ey4]
  refine lv_aload_n hx hb dL_law_2663 rfl (lv_at hl 2 rfl) ?_
  have hFc := free_all hD hS hA
  refine va_calli (vx_runSW (As := [.ref o2, .int y2, .int y4, .ref qo]) (rest := []) ⟨hx, hb, hml, hown, hts⟩ (c_L_toolsAt l hst (e0 := e0) (mi := mi) (D := D) (cy := cy) (c8 := c8) (c9 := c9) qo qd fo fd S _ o2 h_o2 y2 y4 (hW)) (vx_cwSW 4 hts gL_law_L_toolsAt rfl rfl rfl (by decide +kernel) ⟨Nat.le_of_ble_eq_true rfl, Nat.le_of_ble_eq_true rfl⟩) ⟨fun a U g mk q => ⟨q.1, q.2.1, q.2.2.1.calling, NW.same (u := U) (U := U.calling g mk a) rfl q.2.2.2.1, q.2.2.2.2.1.calling, q.2.2.2.2.2.1.calling, q.2.2.2.2.2.2.calling⟩, fun U hU hW => ⟨rfl, by rw [hU], wx_pre hP hKX hD hU hW, hN.warm hW, th_pre hTH hS hFc hU hW, ou_pre hOU hS hFc hU hW, hNC.moved hW.alike⟩⟩ rfl rfl hl.1 rfl (lv_room (Nat.le_of_ble_eq_true rfl)) dL_law_2664 ⟨by omega, by omega⟩) hS (fun q _ h => hFc q h) hFc (fun r5 u t H1 locs ht hvm hw hB hz1 hk1 hS => ?_)
  obtain ⟨S6, f7⟩ := u
  have w8 := hw
  obtain ⟨hP, hD⟩ := wx_post hFc ht hB
  generalize H1 = H at hP hS ⊢
  have w8 : stp [(7, 2)] [] [] S S6 := w8
  have v9 : IV S6 o1 := IV.keep w8 hW h_o1 (by decide) (by decide) hIV
  have v10 : MV S6 o1 := MV.keep w8 hW h_o1 (by decide) (by decide) hMV
  have v11 : (RG o2) S6 o1 := RG.keep w8 hW h_o1 (by decide) (by decide) hR_RG
  have xe12 : ext S S6 := w8.x
  refine lv_istore (lv' := [(6, .int r5), (5, .int i), (4, .ref qd), (3, .ref qo), (2, .ref o1), (1, .ref o2), (0, .ref b)]) hx hb dL_law_2667 hl (by decide) rfl (fun ls hl => ?_)
  refine lv_aload_n hx hb dL_law_2669 rfl (lv_at hl 4 rfl) ?_
  refine lv_aload_n hx hb dL_law_2670 rfl (lv_at hl 6 rfl) ?_
  refine lv_iload hx hb dL_law_2671 (lv_at hl 1 rfl) ?_
  refine lv_iconst (v := 1) hx hb dL_law_2673 (by decide) ?_
  refine lv_iadd hx hb dL_law_2674 ?_
  refine va_sld hx hb hX hbl hbA hS (inb (m := L) rfl (by omega) (by omega)) dL_law_2675 ?_
  rw [ey2]
  refine lv_aload_n hx hb dL_law_2676 rfl (lv_at hl 6 rfl) ?_
  refine lv_iload hx hb dL_law_2677 (lv_at hl 1 rfl) ?_
  refine lv_iconst (v := 2) hx hb dL_law_2679 (by decide) ?_
  refine lv_iadd hx hb dL_law_2680 ?_
  refine va_sld hx hb hX hbl hbA hS (inb (m := L) rfl (by omega) (by omega)) dL_law_2681 ?_
  rw [ey4]
  have hFc := free_all hD hS hA
  obtain ⟨k14, gk14, hk14⟩ := wGt (cy := cy) (XO c8 c9 qo qd f7 fd) S6 (xe12.A h_o1).1 (xe12.A h_o1).2.1
  refine va_calli (va_runV (As := [.int y2, .int y4]) (rest := []) ⟨hx, hb, hml, hown, hts⟩ (c_X12_toolsAt l (cy := cy) (X := (XO c8 c9 qo qd f7 fd)) (D := D) S6 _ o1 (xe12.A h_o1) y2 y4 (w8.w)) (cwV 2 hts gL_law_X12_toolsAt rfl rfl rfl hd_X12_toolsAt ⟨Nat.le_of_ble_eq_true rfl, Nat.le_of_ble_eq_true rfl⟩) ⟨fun a U g mk q => ⟨q.1, q.2.1, q.2.2.1.calling, NW.same (u := U) (U := U.calling g mk a) rfl q.2.2.2⟩, va_recv hK hP (q := (RX12, TX12, 34)) (ci := 16) (q0 := k14) rfl hk14, fun U hU hW => ⟨rfl, by rw [hU], wd_pre hP hK hD hU hW, hN.warm hW⟩⟩ rfl rfl hl.1 rfl (lv_room (Nat.le_of_ble_eq_true rfl)) dL_law_2682 ⟨by omega, by omega⟩) hS (fun q _ h => hFc q h) hFc (fun r13 u t H1 locs ht hvm hw hB hz1 hk1 hS => ?_)
  have w15 := hw
  obtain ⟨hP, hD⟩ := wd_post hFc ht hB
  generalize H1 = H at hP hS ⊢
  obtain ⟨S16, rfl⟩ : ∃ z, z = u := ⟨_, rfl⟩
  have v17 : IV S16 o1 := IV.keep w15 w8.w (xe12.A h_o1) (by decide) (by decide) v9
  have v18 : MV S16 o1 := MV.keep w15 w8.w (xe12.A h_o1) (by decide) (by decide) v10
  have v19 : (RG o2) S16 o1 := RG.keep w15 w8.w (xe12.A h_o1) (by decide) (by decide) v11
  have xe20 : ext S6 S16 := w15.x
  refine lv_istore (lv' := [(7, .int r13), (6, .int r5), (5, .int i), (4, .ref qd), (3, .ref qo), (2, .ref o1), (1, .ref o2), (0, .ref b)]) hx hb dL_law_2685 hl (by decide) rfl (fun ls hl => ?_)
  refine lv_goto (tgt := 2924) hx hb dL_law_2687 (by decide) ?_
  refine W.widen (k := cells + 40) (n := slots + 1200) (by omega) (by omega) ?_
  exact kk S16 f7 fd H _ ls ⟨hP, hD, w15.w, ((xe12.tr xe20).A h_o2), (xe20.A (xe12.A h_o1)), ((xe12.tr xe20).F h_o1 (by decide) h77), v18, v17, v19⟩ hS (lv_sub hl [2, 3, 4, 5, 6, 7] rfl)
set_option maxHeartbeats 4000000 in
set_option maxRecDepth 100000 in
theorem road_55 {p : Program} {l : Launch} {e : Env} {s : State} {m : MethodId} {below : List Frame} {meth : Method} {c : Code} {b L : Nat} {xs : Nat → Int32} {D : va_G} {cy : Nat → ClassId} {c8 c9 : ClassId} {e0 mi : Nat} {Q : State → Prop} {qo qd o1 o2 : Nat} (C0 : LC p l s m c b L xs D cy c8 c9 e0 mi) (hL9 : L ≤ 2560) {S : wPS} {fo : Nat → Int64} {fd : Nat → UInt64} {H : Heap} {locs : List Loc} {ls : Array Slot} {cells slots : Nat} {i : Int32} (hi : 0 ≤ i.toInt ∧ i.toInt + 5 ≤ L) (hI : LI D cy c8 c9 e0 (fun q => s.heap.size ≤ q) o1 o2 qo qd fo fd S H) (hS : va_S (fun q => s.heap.size ≤ q) s.heap H locs) (hc : cells + 40 ≤ room_1.cells) (hs : slots + 1200 ≤ room_1.slots) (hl : lv_has ls 9 [(5, .int i), (4, .ref qd), (3, .ref qo), (2, .ref o1), (1, .ref o2), (0, .ref b)]) (kk : ∀ (S2 : wPS) (fo2 : Nat → Int64) (fd2 : Nat → UInt64) (H2 : Heap) (locs2 : List Loc) (ls2 : Array Slot), LI D cy c8 c9 e0 (fun q => s.heap.size ≤ q) o1 o2 qo qd fo2 fd2 S2 H2 → va_S (fun q => s.heap.size ≤ q) s.heap H2 locs2 → lv_has ls2 9 [(5, .int i), (4, .ref qd), (3, .ref qo), (2, .ref o1), (1, .ref o2), (0, .ref b)] → W p l e room_1 s m #[Value.ref b] below meth c H2 locs2 (cells + 40) (slots + 1200) Q (F0 m 2924 ls2 [])) : W p l e room_1 s m #[Value.ref b] below meth c H locs cells slots Q (F0 m 2690 ls []) := by
  obtain ⟨hx, hb, hml, hown, hts, hX, hbl, hN, hTH, hOU, hKX, hst, hNC⟩ := id C0
  obtain ⟨hP, hD, hW, h_o2, h_o1, h77, hMV, hIV, hR_RG⟩ := hI
  have hK := kX hKX
  have hA : ∀ q : Nat, s.heap.size ≤ q → (fun q : Nat => s.heap.size ≤ q) q := fun _ h => h
  have hbA : ¬ (fun q : Nat => s.heap.size ≤ q) b := Nat.not_le.mpr hbl
  refine lv_aload_n hx hb dL_law_2690 rfl (lv_at hl 4 rfl) ?_
  refine lv_aload_n hx hb dL_law_2691 rfl (lv_at hl 5 rfl) ?_
  refine lv_iload hx hb dL_law_2692 (lv_at hl 0 rfl) ?_
  refine lv_iconst (v := 1) hx hb dL_law_2694 (by decide) ?_
  refine lv_iadd hx hb dL_law_2695 ?_
  have l32_1 : (1 : Int32).toInt = 1 := rfl
  have i1 : (i + (1 : Int32)).toInt = i.toInt + 1 := t_addr (n := 1) rfl (by omega)
  refine va_sld hx hb hX hbl hbA hS (inb (m := L) rfl (by omega) (by omega)) dL_law_2696 ?_
  obtain ⟨y2, ey2⟩ : ∃ z : Int32, xs (i + (1 : Int32)).toNatClampNeg = z := ⟨_, rfl⟩
  rw [ey2]
  refine lv_aload_n hx hb dL_law_2697 rfl (lv_at hl 5 rfl) ?_
  refine lv_iload hx hb dL_law_2698 (lv_at hl 0 rfl) ?_
  refine lv_iconst (v := 2) hx hb dL_law_2700 (by decide) ?_
  refine lv_iadd hx hb dL_law_2701 ?_
  have l32_2 : (2 : Int32).toInt = 2 := rfl
  have i3 : (i + (2 : Int32)).toInt = i.toInt + 2 := t_addr (n := 2) rfl (by omega)
  refine va_sld hx hb hX hbl hbA hS (inb (m := L) rfl (by omega) (by omega)) dL_law_2702 ?_
  obtain ⟨y4, ey4⟩ : ∃ z : Int32, xs (i + (2 : Int32)).toNatClampNeg = z := ⟨_, rfl⟩
  rw [ey4]
  refine lv_i2c hx hb dL_law_2703 rfl ?_
  refine lv_aload_n hx hb dL_law_2704 rfl (lv_at hl 2 rfl) ?_
  have hFc := free_all hD hS hA
  refine va_calli (vx_runSW (As := [.ref o2, .int y2, .int ((y4.toUInt32 % 65536).toInt32), .ref qo]) (rest := []) ⟨hx, hb, hml, hown, hts⟩ (c_L_route l hst (e0 := e0) (mi := mi) (D := D) (cy := cy) (c8 := c8) (c9 := c9) qo qd fo fd S _ o2 h_o2 y2 ((y4.toUInt32 % 65536).toInt32) (hW)) (vx_cwSW 4 hts gL_law_L_route rfl rfl rfl (by decide +kernel) ⟨Nat.le_of_ble_eq_true rfl, Nat.le_of_ble_eq_true rfl⟩) ⟨fun a U g mk q => ⟨q.1, q.2.1, q.2.2.1.calling, NW.same (u := U) (U := U.calling g mk a) rfl q.2.2.2.1, q.2.2.2.2.1.calling, q.2.2.2.2.2.1.calling, q.2.2.2.2.2.2.calling⟩, fun U hU hW => ⟨rfl, by rw [hU], wx_pre hP hKX hD hU hW, hN.warm hW, th_pre hTH hS hFc hU hW, ou_pre hOU hS hFc hU hW, hNC.moved hW.alike⟩⟩ rfl rfl hl.1 rfl (lv_room (Nat.le_of_ble_eq_true rfl)) dL_law_2705 ⟨by omega, by omega⟩) hS (fun q _ h => hFc q h) hFc (fun r5 u t H1 locs ht hvm hw hB hz1 hk1 hS => ?_)
  obtain ⟨S6, f7⟩ := u
  have w8 := hw
  obtain ⟨hP, hD⟩ := wx_post hFc ht hB
  generalize H1 = H at hP hS ⊢
  have w8 : stp [(13, 3), (15, 100)] [] [] S S6 := w8
  have v9 : IV S6 o1 := IV.keep w8 hW h_o1 (by decide) (by decide) hIV
  have v10 : MV S6 o1 := MV.keep w8 hW h_o1 (by decide) (by decide) hMV
  have v11 : (RG o2) S6 o1 := RG.keep w8 hW h_o1 (by decide) (by decide) hR_RG
  have xe12 : ext S S6 := w8.x
  refine lv_istore (lv' := [(6, .int r5), (5, .int i), (4, .ref qd), (3, .ref qo), (2, .ref o1), (1, .ref o2), (0, .ref b)]) hx hb dL_law_2708 hl (by decide) rfl (fun ls hl => ?_)
  refine lv_aload_n hx hb dL_law_2710 rfl (lv_at hl 4 rfl) ?_
  refine lv_aload_n hx hb dL_law_2711 rfl (lv_at hl 6 rfl) ?_
  refine lv_iload hx hb dL_law_2712 (lv_at hl 1 rfl) ?_
  refine lv_iconst (v := 1) hx hb dL_law_2714 (by decide) ?_
  refine lv_iadd hx hb dL_law_2715 ?_
  refine va_sld hx hb hX hbl hbA hS (inb (m := L) rfl (by omega) (by omega)) dL_law_2716 ?_
  rw [ey2]
  refine lv_aload_n hx hb dL_law_2717 rfl (lv_at hl 6 rfl) ?_
  refine lv_iload hx hb dL_law_2718 (lv_at hl 1 rfl) ?_
  refine lv_iconst (v := 2) hx hb dL_law_2720 (by decide) ?_
  refine lv_iadd hx hb dL_law_2721 ?_
  refine va_sld hx hb hX hbl hbA hS (inb (m := L) rfl (by omega) (by omega)) dL_law_2722 ?_
  rw [ey4]
  refine lv_i2c hx hb dL_law_2723 rfl ?_
  have hFc := free_all hD hS hA
  obtain ⟨k14, gk14, hk14⟩ := wGt (cy := cy) (XO c8 c9 qo qd f7 fd) S6 (xe12.A h_o1).1 (xe12.A h_o1).2.1
  refine va_calli (va_runV (As := [.int y2, .int ((y4.toUInt32 % 65536).toInt32)]) (rest := []) ⟨hx, hb, hml, hown, hts⟩ (c_X12_route l (cy := cy) (X := (XO c8 c9 qo qd f7 fd)) (D := D) S6 _ o1 (xe12.A h_o1) y2 ((y4.toUInt32 % 65536).toInt32) (w8.w)) (cwV 2 hts gL_law_X12_route rfl rfl rfl hd_X12_route ⟨Nat.le_of_ble_eq_true rfl, Nat.le_of_ble_eq_true rfl⟩) ⟨fun a U g mk q => ⟨q.1, q.2.1, q.2.2.1.calling, NW.same (u := U) (U := U.calling g mk a) rfl q.2.2.2⟩, va_recv hK hP (q := (RX12, TX12, 34)) (ci := 16) (q0 := k14) rfl hk14, fun U hU hW => ⟨rfl, by rw [hU], wd_pre hP hK hD hU hW, hN.warm hW⟩⟩ rfl rfl hl.1 rfl (lv_room (Nat.le_of_ble_eq_true rfl)) dL_law_2724 ⟨by omega, by omega⟩) hS (fun q _ h => hFc q h) hFc (fun r13 u t H1 locs ht hvm hw hB hz1 hk1 hS => ?_)
  have w15 := hw
  obtain ⟨hP, hD⟩ := wd_post hFc ht hB
  generalize H1 = H at hP hS ⊢
  obtain ⟨S16, rfl⟩ : ∃ z, z = u := ⟨_, rfl⟩
  have v17 : IV S16 o1 := IV.keep w15 w8.w (xe12.A h_o1) (by decide) (by decide) v9
  have v18 : MV S16 o1 := MV.keep w15 w8.w (xe12.A h_o1) (by decide) (by decide) v10
  have v19 : (RG o2) S16 o1 := RG.keep w15 w8.w (xe12.A h_o1) (by decide) (by decide) v11
  have xe20 : ext S6 S16 := w15.x
  refine lv_istore (lv' := [(7, .int r13), (6, .int r5), (5, .int i), (4, .ref qd), (3, .ref qo), (2, .ref o1), (1, .ref o2), (0, .ref b)]) hx hb dL_law_2727 hl (by decide) rfl (fun ls hl => ?_)
  refine lv_goto (tgt := 2924) hx hb dL_law_2729 (by decide) ?_
  refine W.widen (k := cells + 40) (n := slots + 1200) (by omega) (by omega) ?_
  exact kk S16 f7 fd H _ ls ⟨hP, hD, w15.w, ((xe12.tr xe20).A h_o2), (xe20.A (xe12.A h_o1)), ((xe12.tr xe20).F h_o1 (by decide) h77), v18, v17, v19⟩ hS (lv_sub hl [2, 3, 4, 5, 6, 7] rfl)
set_option maxHeartbeats 4000000 in
set_option maxRecDepth 100000 in
theorem road_56 {p : Program} {l : Launch} {e : Env} {s : State} {m : MethodId} {below : List Frame} {meth : Method} {c : Code} {b L : Nat} {xs : Nat → Int32} {D : va_G} {cy : Nat → ClassId} {c8 c9 : ClassId} {e0 mi : Nat} {Q : State → Prop} {qo qd o1 o2 : Nat} (C0 : LC p l s m c b L xs D cy c8 c9 e0 mi) (hL9 : L ≤ 2560) {S : wPS} {fo : Nat → Int64} {fd : Nat → UInt64} {H : Heap} {locs : List Loc} {ls : Array Slot} {cells slots : Nat} {i : Int32} (hi : 0 ≤ i.toInt ∧ i.toInt + 5 ≤ L) (hI : LI D cy c8 c9 e0 (fun q => s.heap.size ≤ q) o1 o2 qo qd fo fd S H) (hS : va_S (fun q => s.heap.size ≤ q) s.heap H locs) (hc : cells + 40 ≤ room_1.cells) (hs : slots + 1200 ≤ room_1.slots) (hl : lv_has ls 9 [(5, .int i), (4, .ref qd), (3, .ref qo), (2, .ref o1), (1, .ref o2), (0, .ref b)]) (kk : ∀ (S2 : wPS) (fo2 : Nat → Int64) (fd2 : Nat → UInt64) (H2 : Heap) (locs2 : List Loc) (ls2 : Array Slot), LI D cy c8 c9 e0 (fun q => s.heap.size ≤ q) o1 o2 qo qd fo2 fd2 S2 H2 → va_S (fun q => s.heap.size ≤ q) s.heap H2 locs2 → lv_has ls2 9 [(5, .int i), (4, .ref qd), (3, .ref qo), (2, .ref o1), (1, .ref o2), (0, .ref b)] → W p l e room_1 s m #[Value.ref b] below meth c H2 locs2 (cells + 40) (slots + 1200) Q (F0 m 2924 ls2 [])) : W p l e room_1 s m #[Value.ref b] below meth c H locs cells slots Q (F0 m 2732 ls []) := by
  obtain ⟨hx, hb, hml, hown, hts, hX, hbl, hN, hTH, hOU, hKX, hst, hNC⟩ := id C0
  obtain ⟨hP, hD, hW, h_o2, h_o1, h77, hMV, hIV, hR_RG⟩ := hI
  have hK := kX hKX
  have hA : ∀ q : Nat, s.heap.size ≤ q → (fun q : Nat => s.heap.size ≤ q) q := fun _ h => h
  have hbA : ¬ (fun q : Nat => s.heap.size ≤ q) b := Nat.not_le.mpr hbl
  refine lv_aload_n hx hb dL_law_2732 rfl (lv_at hl 4 rfl) ?_
  refine lv_aload_n hx hb dL_law_2733 rfl (lv_at hl 5 rfl) ?_
  refine lv_iload hx hb dL_law_2734 (lv_at hl 0 rfl) ?_
  refine lv_iconst (v := 1) hx hb dL_law_2736 (by decide) ?_
  refine lv_iadd hx hb dL_law_2737 ?_
  have l32_1 : (1 : Int32).toInt = 1 := rfl
  have i1 : (i + (1 : Int32)).toInt = i.toInt + 1 := t_addr (n := 1) rfl (by omega)
  refine va_sld hx hb hX hbl hbA hS (inb (m := L) rfl (by omega) (by omega)) dL_law_2738 ?_
  obtain ⟨y2, ey2⟩ : ∃ z : Int32, xs (i + (1 : Int32)).toNatClampNeg = z := ⟨_, rfl⟩
  rw [ey2]
  refine lv_aload_n hx hb dL_law_2739 rfl (lv_at hl 2 rfl) ?_
  have hFc := free_all hD hS hA
  refine va_calli (vx_runSW (As := [.ref o2, .int y2, .ref qo]) (rest := []) ⟨hx, hb, hml, hown, hts⟩ (c_L_doneAt l hst (e0 := e0) (mi := mi) (D := D) (cy := cy) (c8 := c8) (c9 := c9) qo qd fo fd S _ o2 h_o2 y2 (hW)) (vx_cwSW 3 hts gL_law_L_doneAt rfl rfl rfl (by decide +kernel) ⟨Nat.le_of_ble_eq_true rfl, Nat.le_of_ble_eq_true rfl⟩) ⟨fun a U g mk q => ⟨q.1, q.2.1, q.2.2.1.calling, NW.same (u := U) (U := U.calling g mk a) rfl q.2.2.2.1, q.2.2.2.2.1.calling, q.2.2.2.2.2.1.calling, q.2.2.2.2.2.2.calling⟩, fun U hU hW => ⟨rfl, by rw [hU], wx_pre hP hKX hD hU hW, hN.warm hW, th_pre hTH hS hFc hU hW, ou_pre hOU hS hFc hU hW, hNC.moved hW.alike⟩⟩ rfl rfl hl.1 rfl (lv_room (Nat.le_of_ble_eq_true rfl)) dL_law_2740 ⟨by omega, by omega⟩) hS (fun q _ h => hFc q h) hFc (fun r3 u t H1 locs ht hvm hw hB hz1 hk1 hS => ?_)
  obtain ⟨S4, f5⟩ := u
  have w6 := hw
  obtain ⟨hP, hD⟩ := wx_post hFc ht hB
  generalize H1 = H at hP hS ⊢
  have w6 : stp [(7, 3)] [] [] S S4 := w6
  have v7 : IV S4 o1 := IV.keep w6 hW h_o1 (by decide) (by decide) hIV
  have v8 : MV S4 o1 := MV.keep w6 hW h_o1 (by decide) (by decide) hMV
  have v9 : (RG o2) S4 o1 := RG.keep w6 hW h_o1 (by decide) (by decide) hR_RG
  have xe10 : ext S S4 := w6.x
  refine lv_istore (lv' := [(6, .int r3), (5, .int i), (4, .ref qd), (3, .ref qo), (2, .ref o1), (1, .ref o2), (0, .ref b)]) hx hb dL_law_2743 hl (by decide) rfl (fun ls hl => ?_)
  refine lv_aload_n hx hb dL_law_2745 rfl (lv_at hl 4 rfl) ?_
  refine lv_aload_n hx hb dL_law_2746 rfl (lv_at hl 6 rfl) ?_
  refine lv_iload hx hb dL_law_2747 (lv_at hl 1 rfl) ?_
  refine lv_iconst (v := 1) hx hb dL_law_2749 (by decide) ?_
  refine lv_iadd hx hb dL_law_2750 ?_
  refine va_sld hx hb hX hbl hbA hS (inb (m := L) rfl (by omega) (by omega)) dL_law_2751 ?_
  rw [ey2]
  have hFc := free_all hD hS hA
  obtain ⟨k12, gk12, hk12⟩ := wGt (cy := cy) (XO c8 c9 qo qd f5 fd) S4 (xe10.A h_o1).1 (xe10.A h_o1).2.1
  refine va_calli (va_runV (As := [.int y2]) (rest := []) ⟨hx, hb, hml, hown, hts⟩ (c_X12_doneAt l (cy := cy) (X := (XO c8 c9 qo qd f5 fd)) (D := D) S4 _ o1 (xe10.A h_o1) y2 (w6.w)) (cwV 1 hts gL_law_X12_doneAt rfl rfl rfl hd_X12_doneAt ⟨Nat.le_of_ble_eq_true rfl, Nat.le_of_ble_eq_true rfl⟩) ⟨fun a U g mk q => ⟨q.1, q.2.1, q.2.2.1.calling, NW.same (u := U) (U := U.calling g mk a) rfl q.2.2.2⟩, va_recv hK hP (q := (RX12, TX12, 34)) (ci := 16) (q0 := k12) rfl hk12, fun U hU hW => ⟨rfl, by rw [hU], wd_pre hP hK hD hU hW, hN.warm hW⟩⟩ rfl rfl hl.1 rfl (lv_room (Nat.le_of_ble_eq_true rfl)) dL_law_2752 ⟨by omega, by omega⟩) hS (fun q _ h => hFc q h) hFc (fun r11 u t H1 locs ht hvm hw hB hz1 hk1 hS => ?_)
  have w13 := hw
  obtain ⟨hP, hD⟩ := wd_post hFc ht hB
  generalize H1 = H at hP hS ⊢
  obtain ⟨S14, rfl⟩ : ∃ z, z = u := ⟨_, rfl⟩
  have v15 : IV S14 o1 := IV.keep w13 w6.w (xe10.A h_o1) (by decide) (by decide) v7
  have v16 : MV S14 o1 := MV.keep w13 w6.w (xe10.A h_o1) (by decide) (by decide) v8
  have v17 : (RG o2) S14 o1 := RG.keep w13 w6.w (xe10.A h_o1) (by decide) (by decide) v9
  have xe18 : ext S4 S14 := w13.x
  refine lv_istore (lv' := [(7, .int r11), (6, .int r3), (5, .int i), (4, .ref qd), (3, .ref qo), (2, .ref o1), (1, .ref o2), (0, .ref b)]) hx hb dL_law_2755 hl (by decide) rfl (fun ls hl => ?_)
  refine lv_goto (tgt := 2924) hx hb dL_law_2757 (by decide) ?_
  refine W.widen (k := cells + 40) (n := slots + 1200) (by omega) (by omega) ?_
  exact kk S14 f5 fd H _ ls ⟨hP, hD, w13.w, ((xe10.tr xe18).A h_o2), (xe18.A (xe10.A h_o1)), ((xe10.tr xe18).F h_o1 (by decide) h77), v16, v15, v17⟩ hS (lv_sub hl [2, 3, 4, 5, 6, 7] rfl)
set_option maxHeartbeats 4000000 in
set_option maxRecDepth 100000 in
theorem road_57 {p : Program} {l : Launch} {e : Env} {s : State} {m : MethodId} {below : List Frame} {meth : Method} {c : Code} {b L : Nat} {xs : Nat → Int32} {D : va_G} {cy : Nat → ClassId} {c8 c9 : ClassId} {e0 mi : Nat} {Q : State → Prop} {qo qd o1 o2 : Nat} (C0 : LC p l s m c b L xs D cy c8 c9 e0 mi) (hL9 : L ≤ 2560) {S : wPS} {fo : Nat → Int64} {fd : Nat → UInt64} {H : Heap} {locs : List Loc} {ls : Array Slot} {cells slots : Nat} {i : Int32} (hi : 0 ≤ i.toInt ∧ i.toInt + 5 ≤ L) (hI : LI D cy c8 c9 e0 (fun q => s.heap.size ≤ q) o1 o2 qo qd fo fd S H) (hS : va_S (fun q => s.heap.size ≤ q) s.heap H locs) (hc : cells + 40 ≤ room_1.cells) (hs : slots + 1200 ≤ room_1.slots) (hl : lv_has ls 9 [(5, .int i), (4, .ref qd), (3, .ref qo), (2, .ref o1), (1, .ref o2), (0, .ref b)]) (kk : ∀ (S2 : wPS) (fo2 : Nat → Int64) (fd2 : Nat → UInt64) (H2 : Heap) (locs2 : List Loc) (ls2 : Array Slot), LI D cy c8 c9 e0 (fun q => s.heap.size ≤ q) o1 o2 qo qd fo2 fd2 S2 H2 → va_S (fun q => s.heap.size ≤ q) s.heap H2 locs2 → lv_has ls2 9 [(5, .int i), (4, .ref qd), (3, .ref qo), (2, .ref o1), (1, .ref o2), (0, .ref b)] → W p l e room_1 s m #[Value.ref b] below meth c H2 locs2 (cells + 40) (slots + 1200) Q (F0 m 2924 ls2 [])) : W p l e room_1 s m #[Value.ref b] below meth c H locs cells slots Q (F0 m 2760 ls []) := by
  obtain ⟨hx, hb, hml, hown, hts, hX, hbl, hN, hTH, hOU, hKX, hst, hNC⟩ := id C0
  obtain ⟨hP, hD, hW, h_o2, h_o1, h77, hMV, hIV, hR_RG⟩ := hI
  have hK := kX hKX
  have hA : ∀ q : Nat, s.heap.size ≤ q → (fun q : Nat => s.heap.size ≤ q) q := fun _ h => h
  have hbA : ¬ (fun q : Nat => s.heap.size ≤ q) b := Nat.not_le.mpr hbl
  refine lv_aload_n hx hb dL_law_2760 rfl (lv_at hl 4 rfl) ?_
  refine lv_aload_n hx hb dL_law_2761 rfl (lv_at hl 5 rfl) ?_
  refine lv_iload hx hb dL_law_2762 (lv_at hl 0 rfl) ?_
  refine lv_iconst (v := 1) hx hb dL_law_2764 (by decide) ?_
  refine lv_iadd hx hb dL_law_2765 ?_
  have l32_1 : (1 : Int32).toInt = 1 := rfl
  have i1 : (i + (1 : Int32)).toInt = i.toInt + 1 := t_addr (n := 1) rfl (by omega)
  refine va_sld hx hb hX hbl hbA hS (inb (m := L) rfl (by omega) (by omega)) dL_law_2766 ?_
  obtain ⟨y2, ey2⟩ : ∃ z : Int32, xs (i + (1 : Int32)).toNatClampNeg = z := ⟨_, rfl⟩
  rw [ey2]
  refine lv_aload_n hx hb dL_law_2767 rfl (lv_at hl 5 rfl) ?_
  refine lv_iload hx hb dL_law_2768 (lv_at hl 0 rfl) ?_
  refine lv_iconst (v := 2) hx hb dL_law_2770 (by decide) ?_
  refine lv_iadd hx hb dL_law_2771 ?_
  have l32_2 : (2 : Int32).toInt = 2 := rfl
  have i3 : (i + (2 : Int32)).toInt = i.toInt + 2 := t_addr (n := 2) rfl (by omega)
  refine va_sld hx hb hX hbl hbA hS (inb (m := L) rfl (by omega) (by omega)) dL_law_2772 ?_
  obtain ⟨y4, ey4⟩ : ∃ z : Int32, xs (i + (2 : Int32)).toNatClampNeg = z := ⟨_, rfl⟩
  rw [ey4]
  refine lv_aload_n hx hb dL_law_2773 rfl (lv_at hl 5 rfl) ?_
  refine lv_iload hx hb dL_law_2774 (lv_at hl 0 rfl) ?_
  refine lv_iconst (v := 3) hx hb dL_law_2776 (by decide) ?_
  refine lv_iadd hx hb dL_law_2777 ?_
  have l32_3 : (3 : Int32).toInt = 3 := rfl
  have i5 : (i + (3 : Int32)).toInt = i.toInt + 3 := t_addr (n := 3) rfl (by omega)
  refine va_sld hx hb hX hbl hbA hS (inb (m := L) rfl (by omega) (by omega)) dL_law_2778 ?_
  obtain ⟨y6, ey6⟩ : ∃ z : Int32, xs (i + (3 : Int32)).toNatClampNeg = z := ⟨_, rfl⟩
  rw [ey6]
  refine lv_aload_n hx hb dL_law_2779 rfl (lv_at hl 2 rfl) ?_
  have hFc := free_all hD hS hA
  refine va_calli (vx_runSW (As := [.ref o2, .int y2, .int y4, .int y6, .ref qo]) (rest := []) ⟨hx, hb, hml, hown, hts⟩ (c_L_oldModule l hst (e0 := e0) (mi := mi) (D := D) (cy := cy) (c8 := c8) (c9 := c9) qo qd fo fd S _ o2 h_o2 y2 y4 y6 (hW)) (vx_cwSW 5 hts gL_law_L_oldModule rfl rfl rfl (by decide +kernel) ⟨Nat.le_of_ble_eq_true rfl, Nat.le_of_ble_eq_true rfl⟩) ⟨fun a U g mk q => ⟨q.1, q.2.1, q.2.2.1.calling, NW.same (u := U) (U := U.calling g mk a) rfl q.2.2.2.1, q.2.2.2.2.1.calling, q.2.2.2.2.2.1.calling, q.2.2.2.2.2.2.calling⟩, fun U hU hW => ⟨rfl, by rw [hU], wx_pre hP hKX hD hU hW, hN.warm hW, th_pre hTH hS hFc hU hW, ou_pre hOU hS hFc hU hW, hNC.moved hW.alike⟩⟩ rfl rfl hl.1 rfl (lv_room (Nat.le_of_ble_eq_true rfl)) dL_law_2780 ⟨by omega, by omega⟩) hS (fun q _ h => hFc q h) hFc (fun r7 u t H1 locs ht hvm hw hB hz1 hk1 hS => ?_)
  obtain ⟨S8, f9⟩ := u
  have w10 := hw
  obtain ⟨hP, hD⟩ := wx_post hFc ht hB
  generalize H1 = H at hP hS ⊢
  have w10 : stp [(5, 3), (5, 4), (5, 5)] [] [] S S8 := w10
  have v11 : IV S8 o1 := IV.keep w10 hW h_o1 (by decide) (by decide) hIV
  have v12 : MV S8 o1 := MV.keep w10 hW h_o1 (by decide) (by decide) hMV
  have v13 : (RG o2) S8 o1 := RG.keep w10 hW h_o1 (by decide) (by decide) hR_RG
  have xe14 : ext S S8 := w10.x
  refine lv_istore (lv' := [(6, .int r7), (5, .int i), (4, .ref qd), (3, .ref qo), (2, .ref o1), (1, .ref o2), (0, .ref b)]) hx hb dL_law_2783 hl (by decide) rfl (fun ls hl => ?_)
  refine lv_aload_n hx hb dL_law_2785 rfl (lv_at hl 4 rfl) ?_
  refine lv_aload_n hx hb dL_law_2786 rfl (lv_at hl 6 rfl) ?_
  refine lv_iload hx hb dL_law_2787 (lv_at hl 1 rfl) ?_
  refine lv_iconst (v := 1) hx hb dL_law_2789 (by decide) ?_
  refine lv_iadd hx hb dL_law_2790 ?_
  refine va_sld hx hb hX hbl hbA hS (inb (m := L) rfl (by omega) (by omega)) dL_law_2791 ?_
  rw [ey2]
  refine lv_aload_n hx hb dL_law_2792 rfl (lv_at hl 6 rfl) ?_
  refine lv_iload hx hb dL_law_2793 (lv_at hl 1 rfl) ?_
  refine lv_iconst (v := 2) hx hb dL_law_2795 (by decide) ?_
  refine lv_iadd hx hb dL_law_2796 ?_
  refine va_sld hx hb hX hbl hbA hS (inb (m := L) rfl (by omega) (by omega)) dL_law_2797 ?_
  rw [ey4]
  refine lv_aload_n hx hb dL_law_2798 rfl (lv_at hl 6 rfl) ?_
  refine lv_iload hx hb dL_law_2799 (lv_at hl 1 rfl) ?_
  refine lv_iconst (v := 3) hx hb dL_law_2801 (by decide) ?_
  refine lv_iadd hx hb dL_law_2802 ?_
  refine va_sld hx hb hX hbl hbA hS (inb (m := L) rfl (by omega) (by omega)) dL_law_2803 ?_
  rw [ey6]
  have hFc := free_all hD hS hA
  obtain ⟨k16, gk16, hk16⟩ := wGt (cy := cy) (XO c8 c9 qo qd f9 fd) S8 (xe14.A h_o1).1 (xe14.A h_o1).2.1
  refine va_calli (va_runV (As := [.int y2, .int y4, .int y6]) (rest := []) ⟨hx, hb, hml, hown, hts⟩ (c_X12_oldModule l (cy := cy) (X := (XO c8 c9 qo qd f9 fd)) (D := D) S8 _ o1 (xe14.A h_o1) y2 y4 y6 (w10.w)) (cwV 3 hts gL_law_X12_oldModule rfl rfl rfl hd_X12_oldModule ⟨Nat.le_of_ble_eq_true rfl, Nat.le_of_ble_eq_true rfl⟩) ⟨fun a U g mk q => ⟨q.1, q.2.1, q.2.2.1.calling, NW.same (u := U) (U := U.calling g mk a) rfl q.2.2.2⟩, va_recv hK hP (q := (RX12, TX12, 34)) (ci := 16) (q0 := k16) rfl hk16, fun U hU hW => ⟨rfl, by rw [hU], wd_pre hP hK hD hU hW, hN.warm hW⟩⟩ rfl rfl hl.1 rfl (lv_room (Nat.le_of_ble_eq_true rfl)) dL_law_2804 ⟨by omega, by omega⟩) hS (fun q _ h => hFc q h) hFc (fun r15 u t H1 locs ht hvm hw hB hz1 hk1 hS => ?_)
  have w17 := hw
  obtain ⟨hP, hD⟩ := wd_post hFc ht hB
  generalize H1 = H at hP hS ⊢
  obtain ⟨S18, rfl⟩ : ∃ z, z = u := ⟨_, rfl⟩
  have v19 : IV S18 o1 := IV.keep w17 w10.w (xe14.A h_o1) (by decide) (by decide) v11
  have v20 : MV S18 o1 := MV.keep w17 w10.w (xe14.A h_o1) (by decide) (by decide) v12
  have v21 : (RG o2) S18 o1 := RG.keep w17 w10.w (xe14.A h_o1) (by decide) (by decide) v13
  have xe22 : ext S8 S18 := w17.x
  refine lv_istore (lv' := [(7, .int r15), (6, .int r7), (5, .int i), (4, .ref qd), (3, .ref qo), (2, .ref o1), (1, .ref o2), (0, .ref b)]) hx hb dL_law_2807 hl (by decide) rfl (fun ls hl => ?_)
  refine lv_goto (tgt := 2924) hx hb dL_law_2809 (by decide) ?_
  refine W.widen (k := cells + 40) (n := slots + 1200) (by omega) (by omega) ?_
  exact kk S18 f9 fd H _ ls ⟨hP, hD, w17.w, ((xe14.tr xe22).A h_o2), (xe22.A (xe14.A h_o1)), ((xe14.tr xe22).F h_o1 (by decide) h77), v20, v19, v21⟩ hS (lv_sub hl [2, 3, 4, 5, 6, 7] rfl)
set_option maxHeartbeats 4000000 in
set_option maxRecDepth 100000 in
theorem road_58 {p : Program} {l : Launch} {e : Env} {s : State} {m : MethodId} {below : List Frame} {meth : Method} {c : Code} {b L : Nat} {xs : Nat → Int32} {D : va_G} {cy : Nat → ClassId} {c8 c9 : ClassId} {e0 mi : Nat} {Q : State → Prop} {qo qd o1 o2 : Nat} (C0 : LC p l s m c b L xs D cy c8 c9 e0 mi) (hL9 : L ≤ 2560) {S : wPS} {fo : Nat → Int64} {fd : Nat → UInt64} {H : Heap} {locs : List Loc} {ls : Array Slot} {cells slots : Nat} {i : Int32} (hi : 0 ≤ i.toInt ∧ i.toInt + 5 ≤ L) (hI : LI D cy c8 c9 e0 (fun q => s.heap.size ≤ q) o1 o2 qo qd fo fd S H) (hS : va_S (fun q => s.heap.size ≤ q) s.heap H locs) (hc : cells + 40 ≤ room_1.cells) (hs : slots + 1200 ≤ room_1.slots) (hl : lv_has ls 9 [(5, .int i), (4, .ref qd), (3, .ref qo), (2, .ref o1), (1, .ref o2), (0, .ref b)]) (kk : ∀ (S2 : wPS) (fo2 : Nat → Int64) (fd2 : Nat → UInt64) (H2 : Heap) (locs2 : List Loc) (ls2 : Array Slot), LI D cy c8 c9 e0 (fun q => s.heap.size ≤ q) o1 o2 qo qd fo2 fd2 S2 H2 → va_S (fun q => s.heap.size ≤ q) s.heap H2 locs2 → lv_has ls2 9 [(5, .int i), (4, .ref qd), (3, .ref qo), (2, .ref o1), (1, .ref o2), (0, .ref b)] → W p l e room_1 s m #[Value.ref b] below meth c H2 locs2 (cells + 40) (slots + 1200) Q (F0 m 2924 ls2 [])) : W p l e room_1 s m #[Value.ref b] below meth c H locs cells slots Q (F0 m 2812 ls []) := by
  obtain ⟨hx, hb, hml, hown, hts, hX, hbl, hN, hTH, hOU, hKX, hst, hNC⟩ := id C0
  obtain ⟨hP, hD, hW, h_o2, h_o1, h77, hMV, hIV, hR_RG⟩ := hI
  have hK := kX hKX
  have hA : ∀ q : Nat, s.heap.size ≤ q → (fun q : Nat => s.heap.size ≤ q) q := fun _ h => h
  have hbA : ¬ (fun q : Nat => s.heap.size ≤ q) b := Nat.not_le.mpr hbl
  refine lv_aload_n hx hb dL_law_2812 rfl (lv_at hl 4 rfl) ?_
  refine lv_aload_n hx hb dL_law_2813 rfl (lv_at hl 5 rfl) ?_
  refine lv_iload hx hb dL_law_2814 (lv_at hl 0 rfl) ?_
  refine lv_iconst (v := 1) hx hb dL_law_2816 (by decide) ?_
  refine lv_iadd hx hb dL_law_2817 ?_
  have l32_1 : (1 : Int32).toInt = 1 := rfl
  have i1 : (i + (1 : Int32)).toInt = i.toInt + 1 := t_addr (n := 1) rfl (by omega)
  refine va_sld hx hb hX hbl hbA hS (inb (m := L) rfl (by omega) (by omega)) dL_law_2818 ?_
  obtain ⟨y2, ey2⟩ : ∃ z : Int32, xs (i + (1 : Int32)).toNatClampNeg = z := ⟨_, rfl⟩
  rw [ey2]
  refine lv_aload_n hx hb dL_law_2819 rfl (lv_at hl 5 rfl) ?_
  refine lv_iload hx hb dL_law_2820 (lv_at hl 0 rfl) ?_
  refine lv_iconst (v := 2) hx hb dL_law_2822 (by decide) ?_
  refine lv_iadd hx hb dL_law_2823 ?_
  have l32_2 : (2 : Int32).toInt = 2 := rfl
  have i3 : (i + (2 : Int32)).toInt = i.toInt + 2 := t_addr (n := 2) rfl (by omega)
  refine va_sld hx hb hX hbl hbA hS (inb (m := L) rfl (by omega) (by omega)) dL_law_2824 ?_
  obtain ⟨y4, ey4⟩ : ∃ z : Int32, xs (i + (2 : Int32)).toNatClampNeg = z := ⟨_, rfl⟩
  rw [ey4]
  refine lv_aload_n hx hb dL_law_2825 rfl (lv_at hl 5 rfl) ?_
  refine lv_iload hx hb dL_law_2826 (lv_at hl 0 rfl) ?_
  refine lv_iconst (v := 3) hx hb dL_law_2828 (by decide) ?_
  refine lv_iadd hx hb dL_law_2829 ?_
  have l32_3 : (3 : Int32).toInt = 3 := rfl
  have i5 : (i + (3 : Int32)).toInt = i.toInt + 3 := t_addr (n := 3) rfl (by omega)
  refine va_sld hx hb hX hbl hbA hS (inb (m := L) rfl (by omega) (by omega)) dL_law_2830 ?_
  obtain ⟨y6, ey6⟩ : ∃ z : Int32, xs (i + (3 : Int32)).toNatClampNeg = z := ⟨_, rfl⟩
  rw [ey6]
  refine lv_aload_n hx hb dL_law_2831 rfl (lv_at hl 2 rfl) ?_
  have hFc := free_all hD hS hA
  refine va_calli (vx_runSW (As := [.ref o2, .int y2, .int y4, .int y6, .ref qo]) (rest := []) ⟨hx, hb, hml, hown, hts⟩ (c_L_oldShift l hst (e0 := e0) (mi := mi) (D := D) (cy := cy) (c8 := c8) (c9 := c9) qo qd fo fd S _ o2 h_o2 y2 y4 y6 (hW)) (vx_cwSW 5 hts gL_law_L_oldShift rfl rfl rfl (by decide +kernel) ⟨Nat.le_of_ble_eq_true rfl, Nat.le_of_ble_eq_true rfl⟩) ⟨fun a U g mk q => ⟨q.1, q.2.1, q.2.2.1.calling, NW.same (u := U) (U := U.calling g mk a) rfl q.2.2.2.1, q.2.2.2.2.1.calling, q.2.2.2.2.2.1.calling, q.2.2.2.2.2.2.calling⟩, fun U hU hW => ⟨rfl, by rw [hU], wx_pre hP hKX hD hU hW, hN.warm hW, th_pre hTH hS hFc hU hW, ou_pre hOU hS hFc hU hW, hNC.moved hW.alike⟩⟩ rfl rfl hl.1 rfl (lv_room (Nat.le_of_ble_eq_true rfl)) dL_law_2832 ⟨by omega, by omega⟩) hS (fun q _ h => hFc q h) hFc (fun r7 u t H1 locs ht hvm hw hB hz1 hk1 hS => ?_)
  obtain ⟨S8, f9⟩ := u
  have w10 := hw
  obtain ⟨hP, hD⟩ := wx_post hFc ht hB
  generalize H1 = H at hP hS ⊢
  have w10 : stp [(5, 3), (5, 4), (5, 5)] [] [] S S8 := w10
  have v11 : IV S8 o1 := IV.keep w10 hW h_o1 (by decide) (by decide) hIV
  have v12 : MV S8 o1 := MV.keep w10 hW h_o1 (by decide) (by decide) hMV
  have v13 : (RG o2) S8 o1 := RG.keep w10 hW h_o1 (by decide) (by decide) hR_RG
  have xe14 : ext S S8 := w10.x
  refine lv_istore (lv' := [(6, .int r7), (5, .int i), (4, .ref qd), (3, .ref qo), (2, .ref o1), (1, .ref o2), (0, .ref b)]) hx hb dL_law_2835 hl (by decide) rfl (fun ls hl => ?_)
  refine lv_aload_n hx hb dL_law_2837 rfl (lv_at hl 4 rfl) ?_
  refine lv_aload_n hx hb dL_law_2838 rfl (lv_at hl 6 rfl) ?_
  refine lv_iload hx hb dL_law_2839 (lv_at hl 1 rfl) ?_
  refine lv_iconst (v := 1) hx hb dL_law_2841 (by decide) ?_
  refine lv_iadd hx hb dL_law_2842 ?_
  refine va_sld hx hb hX hbl hbA hS (inb (m := L) rfl (by omega) (by omega)) dL_law_2843 ?_
  rw [ey2]
  refine lv_aload_n hx hb dL_law_2844 rfl (lv_at hl 6 rfl) ?_
  refine lv_iload hx hb dL_law_2845 (lv_at hl 1 rfl) ?_
  refine lv_iconst (v := 2) hx hb dL_law_2847 (by decide) ?_
  refine lv_iadd hx hb dL_law_2848 ?_
  refine va_sld hx hb hX hbl hbA hS (inb (m := L) rfl (by omega) (by omega)) dL_law_2849 ?_
  rw [ey4]
  refine lv_aload_n hx hb dL_law_2850 rfl (lv_at hl 6 rfl) ?_
  refine lv_iload hx hb dL_law_2851 (lv_at hl 1 rfl) ?_
  refine lv_iconst (v := 3) hx hb dL_law_2853 (by decide) ?_
  refine lv_iadd hx hb dL_law_2854 ?_
  refine va_sld hx hb hX hbl hbA hS (inb (m := L) rfl (by omega) (by omega)) dL_law_2855 ?_
  rw [ey6]
  have hFc := free_all hD hS hA
  obtain ⟨k16, gk16, hk16⟩ := wGt (cy := cy) (XO c8 c9 qo qd f9 fd) S8 (xe14.A h_o1).1 (xe14.A h_o1).2.1
  refine va_calli (va_runV (As := [.int y2, .int y4, .int y6]) (rest := []) ⟨hx, hb, hml, hown, hts⟩ (c_X12_oldShift l (cy := cy) (X := (XO c8 c9 qo qd f9 fd)) (D := D) S8 _ o1 (xe14.A h_o1) y2 y4 y6 (w10.w)) (cwV 3 hts gL_law_X12_oldShift rfl rfl rfl hd_X12_oldShift ⟨Nat.le_of_ble_eq_true rfl, Nat.le_of_ble_eq_true rfl⟩) ⟨fun a U g mk q => ⟨q.1, q.2.1, q.2.2.1.calling, NW.same (u := U) (U := U.calling g mk a) rfl q.2.2.2⟩, va_recv hK hP (q := (RX12, TX12, 34)) (ci := 16) (q0 := k16) rfl hk16, fun U hU hW => ⟨rfl, by rw [hU], wd_pre hP hK hD hU hW, hN.warm hW⟩⟩ rfl rfl hl.1 rfl (lv_room (Nat.le_of_ble_eq_true rfl)) dL_law_2856 ⟨by omega, by omega⟩) hS (fun q _ h => hFc q h) hFc (fun r15 u t H1 locs ht hvm hw hB hz1 hk1 hS => ?_)
  have w17 := hw
  obtain ⟨hP, hD⟩ := wd_post hFc ht hB
  generalize H1 = H at hP hS ⊢
  obtain ⟨S18, rfl⟩ : ∃ z, z = u := ⟨_, rfl⟩
  have v19 : IV S18 o1 := IV.keep w17 w10.w (xe14.A h_o1) (by decide) (by decide) v11
  have v20 : MV S18 o1 := MV.keep w17 w10.w (xe14.A h_o1) (by decide) (by decide) v12
  have v21 : (RG o2) S18 o1 := RG.keep w17 w10.w (xe14.A h_o1) (by decide) (by decide) v13
  have xe22 : ext S8 S18 := w17.x
  refine lv_istore (lv' := [(7, .int r15), (6, .int r7), (5, .int i), (4, .ref qd), (3, .ref qo), (2, .ref o1), (1, .ref o2), (0, .ref b)]) hx hb dL_law_2859 hl (by decide) rfl (fun ls hl => ?_)
  refine lv_goto (tgt := 2924) hx hb dL_law_2861 (by decide) ?_
  refine W.widen (k := cells + 40) (n := slots + 1200) (by omega) (by omega) ?_
  exact kk S18 f9 fd H _ ls ⟨hP, hD, w17.w, ((xe14.tr xe22).A h_o2), (xe22.A (xe14.A h_o1)), ((xe14.tr xe22).F h_o1 (by decide) h77), v20, v19, v21⟩ hS (lv_sub hl [2, 3, 4, 5, 6, 7] rfl)
set_option maxHeartbeats 4000000 in
set_option maxRecDepth 100000 in
theorem road_59 {p : Program} {l : Launch} {e : Env} {s : State} {m : MethodId} {below : List Frame} {meth : Method} {c : Code} {b L : Nat} {xs : Nat → Int32} {D : va_G} {cy : Nat → ClassId} {c8 c9 : ClassId} {e0 mi : Nat} {Q : State → Prop} {qo qd o1 o2 : Nat} (C0 : LC p l s m c b L xs D cy c8 c9 e0 mi) (hL9 : L ≤ 2560) {S : wPS} {fo : Nat → Int64} {fd : Nat → UInt64} {H : Heap} {locs : List Loc} {ls : Array Slot} {cells slots : Nat} {i : Int32} (hi : 0 ≤ i.toInt ∧ i.toInt + 5 ≤ L) (hI : LI D cy c8 c9 e0 (fun q => s.heap.size ≤ q) o1 o2 qo qd fo fd S H) (hS : va_S (fun q => s.heap.size ≤ q) s.heap H locs) (hc : cells + 40 ≤ room_1.cells) (hs : slots + 1200 ≤ room_1.slots) (hl : lv_has ls 9 [(5, .int i), (4, .ref qd), (3, .ref qo), (2, .ref o1), (1, .ref o2), (0, .ref b)]) (kk : ∀ (S2 : wPS) (fo2 : Nat → Int64) (fd2 : Nat → UInt64) (H2 : Heap) (locs2 : List Loc) (ls2 : Array Slot), LI D cy c8 c9 e0 (fun q => s.heap.size ≤ q) o1 o2 qo qd fo2 fd2 S2 H2 → va_S (fun q => s.heap.size ≤ q) s.heap H2 locs2 → lv_has ls2 9 [(5, .int i), (4, .ref qd), (3, .ref qo), (2, .ref o1), (1, .ref o2), (0, .ref b)] → W p l e room_1 s m #[Value.ref b] below meth c H2 locs2 (cells + 40) (slots + 1200) Q (F0 m 2924 ls2 [])) : W p l e room_1 s m #[Value.ref b] below meth c H locs cells slots Q (F0 m 2864 ls []) := by
  obtain ⟨hx, hb, hml, hown, hts, hX, hbl, hN, hTH, hOU, hKX, hst, hNC⟩ := id C0
  obtain ⟨hP, hD, hW, h_o2, h_o1, h77, hMV, hIV, hR_RG⟩ := hI
  have hK := kX hKX
  have hA : ∀ q : Nat, s.heap.size ≤ q → (fun q : Nat => s.heap.size ≤ q) q := fun _ h => h
  have hbA : ¬ (fun q : Nat => s.heap.size ≤ q) b := Nat.not_le.mpr hbl
  refine lv_aload_n hx hb dL_law_2864 rfl (lv_at hl 4 rfl) ?_
  have hFc := free_all hD hS hA
  obtain ⟨k2, gk2, hk2⟩ := wGt (cy := cy) (XO c8 c9 qo qd fo fd) S h_o2.1 h_o2.2.1
  refine va_calll (va_runV (As := []) (rest := []) ⟨hx, hb, hml, hown, hts⟩ (c_X9_allDamage l (cy := cy) (X := (XO c8 c9 qo qd fo fd)) (D := D) S _ o2 h_o2 (hW)) (cwV 0 hts gL_law_X9_allDamage rfl rfl rfl hd_X9_allDamage ⟨Nat.le_of_ble_eq_true rfl, Nat.le_of_ble_eq_true rfl⟩) ⟨fun a U g mk q => ⟨q.1, q.2.1, q.2.2.1.calling, NW.same (u := U) (U := U.calling g mk a) rfl q.2.2.2⟩, va_recv hK hP (q := (RX9, TX9, 11)) (ci := 13) (q0 := k2) rfl hk2, fun U hU hW => ⟨rfl, by rw [hU], wd_pre hP hK hD hU hW, hN.warm hW⟩⟩ rfl rfl hl.1 rfl (lv_room (Nat.le_of_ble_eq_true rfl)) dL_law_2865 ⟨by omega, by omega⟩) hS (fun q _ h => hFc q h) hFc (fun r1 u t H1 locs ht hvm hw hB hz1 hk1 hS => ?_)
  have c3 := hw
  obtain ⟨hP, hD⟩ := wd_post hFc ht hB
  generalize H1 = H at hP hS ⊢
  refine lv_pop2_2 hx hb dL_law_2868 rfl ?_
  refine lv_aload_n hx hb dL_law_2869 rfl (lv_at hl 3 rfl) ?_
  have hFc := free_all hD hS hA
  obtain ⟨k5, gk5, hk5⟩ := wGt (cy := cy) (XO c8 c9 qo qd fo fd) S h_o1.1 h_o1.2.1
  refine va_calll (va_runV (As := []) (rest := []) ⟨hx, hb, hml, hown, hts⟩ (c_X12_allDamage l (cy := cy) (X := (XO c8 c9 qo qd fo fd)) (D := D) S _ o1 h_o1 (hW)) (cwV 0 hts gL_law_X12_allDamage rfl rfl rfl hd_X12_allDamage ⟨Nat.le_of_ble_eq_true rfl, Nat.le_of_ble_eq_true rfl⟩) ⟨fun a U g mk q => ⟨q.1, q.2.1, q.2.2.1.calling, NW.same (u := U) (U := U.calling g mk a) rfl q.2.2.2⟩, va_recv hK hP (q := (RX12, TX12, 34)) (ci := 16) (q0 := k5) rfl hk5, fun U hU hW => ⟨rfl, by rw [hU], wd_pre hP hK hD hU hW, hN.warm hW⟩⟩ rfl rfl hl.1 rfl (lv_room (Nat.le_of_ble_eq_true rfl)) dL_law_2870 ⟨by omega, by omega⟩) hS (fun q _ h => hFc q h) hFc (fun r4 u t H1 locs ht hvm hw hB hz1 hk1 hS => ?_)
  have w6 := hw
  obtain ⟨hP, hD⟩ := wd_post hFc ht hB
  generalize H1 = H at hP hS ⊢
  obtain ⟨S7, rfl⟩ : ∃ z, z = u := ⟨_, rfl⟩
  have v8 : IV S7 o1 := IV.keep w6 hW h_o1 (by decide) (by decide) hIV
  have v9 : MV S7 o1 := MV.keep w6 hW h_o1 (by decide) (by decide) hMV
  have v10 : (RG o2) S7 o1 := RG.keep w6 hW h_o1 (by decide) (by decide) hR_RG
  have xe11 : ext S S7 := w6.x
  refine lv_pop2_2 hx hb dL_law_2873 rfl ?_
  refine lv_goto (tgt := 2924) hx hb dL_law_2874 (by decide) ?_
  refine W.widen (k := cells + 40) (n := slots + 1200) (by omega) (by omega) ?_
  exact kk S7 fo fd H _ ls ⟨hP, hD, w6.w, (xe11.A h_o2), (xe11.A h_o1), (xe11.F h_o1 (by decide) h77), v9, v8, v10⟩ hS (lv_sub hl [0, 1, 2, 3, 4, 5] rfl)
set_option maxHeartbeats 4000000 in
set_option maxRecDepth 100000 in
theorem road_60 {p : Program} {l : Launch} {e : Env} {s : State} {m : MethodId} {below : List Frame} {meth : Method} {c : Code} {b L : Nat} {xs : Nat → Int32} {D : va_G} {cy : Nat → ClassId} {c8 c9 : ClassId} {e0 mi : Nat} {Q : State → Prop} {qo qd o1 o2 : Nat} (C0 : LC p l s m c b L xs D cy c8 c9 e0 mi) (hL9 : L ≤ 2560) {S : wPS} {fo : Nat → Int64} {fd : Nat → UInt64} {H : Heap} {locs : List Loc} {ls : Array Slot} {cells slots : Nat} {i : Int32} (hi : 0 ≤ i.toInt ∧ i.toInt + 5 ≤ L) (hI : LI D cy c8 c9 e0 (fun q => s.heap.size ≤ q) o1 o2 qo qd fo fd S H) (hS : va_S (fun q => s.heap.size ≤ q) s.heap H locs) (hc : cells + 40 ≤ room_1.cells) (hs : slots + 1200 ≤ room_1.slots) (hl : lv_has ls 9 [(5, .int i), (4, .ref qd), (3, .ref qo), (2, .ref o1), (1, .ref o2), (0, .ref b)]) (kk : ∀ (S2 : wPS) (fo2 : Nat → Int64) (fd2 : Nat → UInt64) (H2 : Heap) (locs2 : List Loc) (ls2 : Array Slot), LI D cy c8 c9 e0 (fun q => s.heap.size ≤ q) o1 o2 qo qd fo2 fd2 S2 H2 → va_S (fun q => s.heap.size ≤ q) s.heap H2 locs2 → lv_has ls2 9 [(5, .int i), (4, .ref qd), (3, .ref qo), (2, .ref o1), (1, .ref o2), (0, .ref b)] → W p l e room_1 s m #[Value.ref b] below meth c H2 locs2 (cells + 40) (slots + 1200) Q (F0 m 2924 ls2 [])) : W p l e room_1 s m #[Value.ref b] below meth c H locs cells slots Q (F0 m 2877 ls []) := by
  obtain ⟨hx, hb, hml, hown, hts, hX, hbl, hN, hTH, hOU, hKX, hst, hNC⟩ := id C0
  obtain ⟨hP, hD, hW, h_o2, h_o1, h77, hMV, hIV, hR_RG⟩ := hI
  have hK := kX hKX
  have hA : ∀ q : Nat, s.heap.size ≤ q → (fun q : Nat => s.heap.size ≤ q) q := fun _ h => h
  have hbA : ¬ (fun q : Nat => s.heap.size ≤ q) b := Nat.not_le.mpr hbl
  refine lv_aload_n hx hb dL_law_2877 rfl (lv_at hl 4 rfl) ?_
  refine lv_aload hx hb dL_law_2878 (lv_at hl 1 rfl) ?_
  have hFc := free_all hD hS hA
  refine va_calli (vx_runSW (As := [.ref o2, .ref qd]) (rest := []) ⟨hx, hb, hml, hown, hts⟩ (c_L_cutShare l hst (e0 := e0) (mi := mi) (D := D) (cy := cy) (c8 := c8) (c9 := c9) qo qd fo fd S _ o2 h_o2  (hW)) (vx_cwSW 2 hts gL_law_L_cutShare rfl rfl rfl (by decide +kernel) ⟨Nat.le_of_ble_eq_true rfl, Nat.le_of_ble_eq_true rfl⟩) ⟨fun a U g mk q => ⟨q.1, q.2.1, q.2.2.1.calling, NW.same (u := U) (U := U.calling g mk a) rfl q.2.2.2.1, q.2.2.2.2.1.calling, q.2.2.2.2.2.1.calling, q.2.2.2.2.2.2.calling⟩, fun U hU hW => ⟨rfl, by rw [hU], wx_pre hP hKX hD hU hW, hN.warm hW, th_pre hTH hS hFc hU hW, ou_pre hOU hS hFc hU hW, hNC.moved hW.alike⟩⟩ rfl rfl hl.1 rfl (lv_room (Nat.le_of_ble_eq_true rfl)) dL_law_2880 ⟨by omega, by omega⟩) hS (fun q _ h => hFc q h) hFc (fun r1 u t H1 locs ht hvm hw hB hz1 hk1 hS => ?_)
  obtain ⟨S2, f3⟩ := u
  have w4 := hw
  obtain ⟨hP, hD⟩ := wx_post hFc ht hB
  generalize H1 = H at hP hS ⊢
  have w4 : stp ([] : List (Nat × Nat)) [] [] S S2 := w4
  have v5 : IV S2 o1 := IV.keep w4 hW h_o1 (by decide) (by decide) hIV
  have v6 : MV S2 o1 := MV.keep w4 hW h_o1 (by decide) (by decide) hMV
  have v7 : (RG o2) S2 o1 := RG.keep w4 hW h_o1 (by decide) (by decide) hR_RG
  have xe8 : ext S S2 := w4.x
  refine lv_istore (lv' := [(6, .int r1), (5, .int i), (4, .ref qd), (3, .ref qo), (2, .ref o1), (1, .ref o2), (0, .ref b)]) hx hb dL_law_2883 hl (by decide) rfl (fun ls hl => ?_)
  refine lv_aload_n hx hb dL_law_2885 rfl (lv_at hl 4 rfl) ?_
  have hFc := free_all hD hS hA
  obtain ⟨k10, gk10, hk10⟩ := wGt (cy := cy) (XO c8 c9 qo qd fo f3) S2 (xe8.A h_o1).1 (xe8.A h_o1).2.1
  refine va_callf (va_runV (As := []) (rest := []) ⟨hx, hb, hml, hown, hts⟩ (c_X12_cutShare l (cy := cy) (X := (XO c8 c9 qo qd fo f3)) (D := D) S2 _ o1 (xe8.A h_o1) (w4.w)) (cwV 0 hts gL_law_X12_cutShare rfl rfl rfl hd_X12_cutShare ⟨Nat.le_of_ble_eq_true rfl, Nat.le_of_ble_eq_true rfl⟩) ⟨fun a U g mk q => ⟨q.1, q.2.1, q.2.2.1.calling, NW.same (u := U) (U := U.calling g mk a) rfl q.2.2.2⟩, va_recv hK hP (q := (RX12, TX12, 34)) (ci := 16) (q0 := k10) rfl hk10, fun U hU hW => ⟨rfl, by rw [hU], wd_pre hP hK hD hU hW, hN.warm hW⟩⟩ rfl rfl hl.1 rfl (lv_room (Nat.le_of_ble_eq_true rfl)) dL_law_2886 ⟨by omega, by omega⟩) hS (fun q _ h => hFc q h) hFc (fun r9 u t H1 locs ht hvm hw hB hz1 hk1 hS => ?_)
  have w11 := hw
  obtain ⟨hP, hD⟩ := wd_post hFc ht hB
  generalize H1 = H at hP hS ⊢
  obtain ⟨S12, rfl⟩ : ∃ z, z = u := ⟨_, rfl⟩
  have v13 : IV S12 o1 := IV.keep w11 w4.w (xe8.A h_o1) (by decide) (by decide) v5
  have v14 : MV S12 o1 := MV.keep w11 w4.w (xe8.A h_o1) (by decide) (by decide) v6
  have v15 : (RG o2) S12 o1 := RG.keep w11 w4.w (xe8.A h_o1) (by decide) (by decide) v7
  have xe16 : ext S2 S12 := w11.x
  refine lv_fstore (lv' := [(7, .float r9), (6, .int r1), (5, .int i), (4, .ref qd), (3, .ref qo), (2, .ref o1), (1, .ref o2), (0, .ref b)]) hx hb dL_law_2889 hl (by decide) rfl (fun ls hl => ?_)
  refine lv_goto (tgt := 2924) hx hb dL_law_2891 (by decide) ?_
  refine W.widen (k := cells + 40) (n := slots + 1200) (by omega) (by omega) ?_
  exact kk S12 fo f3 H _ ls ⟨hP, hD, w11.w, ((xe8.tr xe16).A h_o2), (xe16.A (xe8.A h_o1)), ((xe8.tr xe16).F h_o1 (by decide) h77), v14, v13, v15⟩ hS (lv_sub hl [2, 3, 4, 5, 6, 7] rfl)
set_option maxHeartbeats 4000000 in
set_option maxRecDepth 100000 in
theorem road_61 {p : Program} {l : Launch} {e : Env} {s : State} {m : MethodId} {below : List Frame} {meth : Method} {c : Code} {b L : Nat} {xs : Nat → Int32} {D : va_G} {cy : Nat → ClassId} {c8 c9 : ClassId} {e0 mi : Nat} {Q : State → Prop} {qo qd o1 o2 : Nat} (C0 : LC p l s m c b L xs D cy c8 c9 e0 mi) (hL9 : L ≤ 2560) {S : wPS} {fo : Nat → Int64} {fd : Nat → UInt64} {H : Heap} {locs : List Loc} {ls : Array Slot} {cells slots : Nat} {i : Int32} (hi : 0 ≤ i.toInt ∧ i.toInt + 5 ≤ L) (hI : LI D cy c8 c9 e0 (fun q => s.heap.size ≤ q) o1 o2 qo qd fo fd S H) (hS : va_S (fun q => s.heap.size ≤ q) s.heap H locs) (hc : cells + 40 ≤ room_1.cells) (hs : slots + 1200 ≤ room_1.slots) (hl : lv_has ls 9 [(5, .int i), (4, .ref qd), (3, .ref qo), (2, .ref o1), (1, .ref o2), (0, .ref b)]) (kk : ∀ (S2 : wPS) (fo2 : Nat → Int64) (fd2 : Nat → UInt64) (H2 : Heap) (locs2 : List Loc) (ls2 : Array Slot), LI D cy c8 c9 e0 (fun q => s.heap.size ≤ q) o1 o2 qo qd fo2 fd2 S2 H2 → va_S (fun q => s.heap.size ≤ q) s.heap H2 locs2 → lv_has ls2 9 [(5, .int i), (4, .ref qd), (3, .ref qo), (2, .ref o1), (1, .ref o2), (0, .ref b)] → W p l e room_1 s m #[Value.ref b] below meth c H2 locs2 (cells + 40) (slots + 1200) Q (F0 m 2924 ls2 [])) : W p l e room_1 s m #[Value.ref b] below meth c H locs cells slots Q (F0 m 2894 ls []) := by
  obtain ⟨hx, hb, hml, hown, hts, hX, hbl, hN, hTH, hOU, hKX, hst, hNC⟩ := id C0
  obtain ⟨hP, hD, hW, h_o2, h_o1, h77, hMV, hIV, hR_RG⟩ := hI
  have hK := kX hKX
  have hA : ∀ q : Nat, s.heap.size ≤ q → (fun q : Nat => s.heap.size ≤ q) q := fun _ h => h
  have hbA : ¬ (fun q : Nat => s.heap.size ≤ q) b := Nat.not_le.mpr hbl
  refine lv_aload_n hx hb dL_law_2894 rfl (lv_at hl 4 rfl) ?_
  refine lv_aload hx hb dL_law_2895 (lv_at hl 1 rfl) ?_
  have hFc := free_all hD hS hA
  refine va_calli (vx_runSW (As := [.ref o2, .ref qd]) (rest := []) ⟨hx, hb, hml, hown, hts⟩ (c_L_meanGrade l hst (e0 := e0) (mi := mi) (D := D) (cy := cy) (c8 := c8) (c9 := c9) qo qd fo fd S _ o2 h_o2  (hW)) (vx_cwSW 2 hts gL_law_L_meanGrade rfl rfl rfl (by decide +kernel) ⟨Nat.le_of_ble_eq_true rfl, Nat.le_of_ble_eq_true rfl⟩) ⟨fun a U g mk q => ⟨q.1, q.2.1, q.2.2.1.calling, NW.same (u := U) (U := U.calling g mk a) rfl q.2.2.2.1, q.2.2.2.2.1.calling, q.2.2.2.2.2.1.calling, q.2.2.2.2.2.2.calling⟩, fun U hU hW => ⟨rfl, by rw [hU], wx_pre hP hKX hD hU hW, hN.warm hW, th_pre hTH hS hFc hU hW, ou_pre hOU hS hFc hU hW, hNC.moved hW.alike⟩⟩ rfl rfl hl.1 rfl (lv_room (Nat.le_of_ble_eq_true rfl)) dL_law_2897 ⟨by omega, by omega⟩) hS (fun q _ h => hFc q h) hFc (fun r1 u t H1 locs ht hvm hw hB hz1 hk1 hS => ?_)
  obtain ⟨S2, f3⟩ := u
  have w4 := hw
  obtain ⟨hP, hD⟩ := wx_post hFc ht hB
  generalize H1 = H at hP hS ⊢
  have w4 : stp ([] : List (Nat × Nat)) [] [] S S2 := w4
  have v5 : IV S2 o1 := IV.keep w4 hW h_o1 (by decide) (by decide) hIV
  have v6 : MV S2 o1 := MV.keep w4 hW h_o1 (by decide) (by decide) hMV
  have v7 : (RG o2) S2 o1 := RG.keep w4 hW h_o1 (by decide) (by decide) hR_RG
  have xe8 : ext S S2 := w4.x
  refine lv_istore (lv' := [(6, .int r1), (5, .int i), (4, .ref qd), (3, .ref qo), (2, .ref o1), (1, .ref o2), (0, .ref b)]) hx hb dL_law_2900 hl (by decide) rfl (fun ls hl => ?_)
  refine lv_aload_n hx hb dL_law_2902 rfl (lv_at hl 4 rfl) ?_
  have hFc := free_all hD hS hA
  obtain ⟨k10, gk10, hk10⟩ := wGt (cy := cy) (XO c8 c9 qo qd fo f3) S2 (xe8.A h_o1).1 (xe8.A h_o1).2.1
  refine va_calld (va_runV (As := []) (rest := []) ⟨hx, hb, hml, hown, hts⟩ (c_X12_meanGrade l (cy := cy) (X := (XO c8 c9 qo qd fo f3)) (D := D) S2 _ o1 (xe8.A h_o1) (w4.w)) (cwV 0 hts gL_law_X12_meanGrade rfl rfl rfl hd_X12_meanGrade ⟨Nat.le_of_ble_eq_true rfl, Nat.le_of_ble_eq_true rfl⟩) ⟨fun a U g mk q => ⟨q.1, q.2.1, q.2.2.1.calling, NW.same (u := U) (U := U.calling g mk a) rfl q.2.2.2⟩, va_recv hK hP (q := (RX12, TX12, 34)) (ci := 16) (q0 := k10) rfl hk10, fun U hU hW => ⟨rfl, by rw [hU], wd_pre hP hK hD hU hW, hN.warm hW⟩⟩ rfl rfl hl.1 rfl (lv_room (Nat.le_of_ble_eq_true rfl)) dL_law_2903 ⟨by omega, by omega⟩) hS (fun q _ h => hFc q h) hFc (fun r9 u t H1 locs ht hvm hw hB hz1 hk1 hS => ?_)
  have w11 := hw
  obtain ⟨hP, hD⟩ := wd_post hFc ht hB
  generalize H1 = H at hP hS ⊢
  obtain ⟨S12, rfl⟩ : ∃ z, z = u := ⟨_, rfl⟩
  have v13 : IV S12 o1 := IV.keep w11 w4.w (xe8.A h_o1) (by decide) (by decide) v5
  have v14 : MV S12 o1 := MV.keep w11 w4.w (xe8.A h_o1) (by decide) (by decide) v6
  have v15 : (RG o2) S12 o1 := RG.keep w11 w4.w (xe8.A h_o1) (by decide) (by decide) v7
  have xe16 : ext S2 S12 := w11.x
  refine lv_dstore (lv' := [(7, .double r9), (6, .int r1), (5, .int i), (4, .ref qd), (3, .ref qo), (2, .ref o1), (1, .ref o2), (0, .ref b)]) hx hb dL_law_2906 hl (by decide) rfl (fun ls hl => ?_)
  refine lv_goto (tgt := 2924) hx hb dL_law_2908 (by decide) ?_
  refine W.widen (k := cells + 40) (n := slots + 1200) (by omega) (by omega) ?_
  exact kk S12 fo f3 H _ ls ⟨hP, hD, w11.w, ((xe8.tr xe16).A h_o2), (xe16.A (xe8.A h_o1)), ((xe8.tr xe16).F h_o1 (by decide) h77), v14, v13, v15⟩ hS (lv_sub hl [2, 3, 4, 5, 6, 7] rfl)
set_option maxHeartbeats 4000000 in
set_option maxRecDepth 100000 in
theorem road_62 {p : Program} {l : Launch} {e : Env} {s : State} {m : MethodId} {below : List Frame} {meth : Method} {c : Code} {b L : Nat} {xs : Nat → Int32} {D : va_G} {cy : Nat → ClassId} {c8 c9 : ClassId} {e0 mi : Nat} {Q : State → Prop} {qo qd o1 o2 : Nat} (C0 : LC p l s m c b L xs D cy c8 c9 e0 mi) (hL9 : L ≤ 2560) {S : wPS} {fo : Nat → Int64} {fd : Nat → UInt64} {H : Heap} {locs : List Loc} {ls : Array Slot} {cells slots : Nat} {i : Int32} (hi : 0 ≤ i.toInt ∧ i.toInt + 5 ≤ L) (hI : LI D cy c8 c9 e0 (fun q => s.heap.size ≤ q) o1 o2 qo qd fo fd S H) (hS : va_S (fun q => s.heap.size ≤ q) s.heap H locs) (hc : cells + 40 ≤ room_1.cells) (hs : slots + 1200 ≤ room_1.slots) (hl : lv_has ls 9 [(5, .int i), (4, .ref qd), (3, .ref qo), (2, .ref o1), (1, .ref o2), (0, .ref b)]) (kk : ∀ (S2 : wPS) (fo2 : Nat → Int64) (fd2 : Nat → UInt64) (H2 : Heap) (locs2 : List Loc) (ls2 : Array Slot), LI D cy c8 c9 e0 (fun q => s.heap.size ≤ q) o1 o2 qo qd fo2 fd2 S2 H2 → va_S (fun q => s.heap.size ≤ q) s.heap H2 locs2 → lv_has ls2 9 [(5, .int i), (4, .ref qd), (3, .ref qo), (2, .ref o1), (1, .ref o2), (0, .ref b)] → W p l e room_1 s m #[Value.ref b] below meth c H2 locs2 (cells + 40) (slots + 1200) Q (F0 m 2924 ls2 [])) : W p l e room_1 s m #[Value.ref b] below meth c H locs cells slots Q (F0 m 2911 ls []) := by
  obtain ⟨hx, hb, hml, hown, hts, hX, hbl, hN, hTH, hOU, hKX, hst, hNC⟩ := id C0
  obtain ⟨hP, hD, hW, h_o2, h_o1, h77, hMV, hIV, hR_RG⟩ := hI
  have hK := kX hKX
  have hA : ∀ q : Nat, s.heap.size ≤ q → (fun q : Nat => s.heap.size ≤ q) q := fun _ h => h
  have hbA : ¬ (fun q : Nat => s.heap.size ≤ q) b := Nat.not_le.mpr hbl
  refine lv_aload_n hx hb dL_law_2911 rfl (lv_at hl 4 rfl) ?_
  have hFc := free_all hD hS hA
  obtain ⟨k2, gk2, hk2⟩ := wGt (cy := cy) (XO c8 c9 qo qd fo fd) S h_o2.1 h_o2.2.1
  refine va_calli (va_runV (As := []) (rest := []) ⟨hx, hb, hml, hown, hts⟩ (c_X9_isSound l (cy := cy) (X := (XO c8 c9 qo qd fo fd)) (D := D) S _ o2 h_o2 (hW)) (cwV 0 hts gL_law_X9_isSound rfl rfl rfl hd_X9_isSound ⟨Nat.le_of_ble_eq_true rfl, Nat.le_of_ble_eq_true rfl⟩) ⟨fun a U g mk q => ⟨q.1, q.2.1, q.2.2.1.calling, NW.same (u := U) (U := U.calling g mk a) rfl q.2.2.2⟩, va_recv hK hP (q := (RX9, TX9, 11)) (ci := 13) (q0 := k2) rfl hk2, fun U hU hW => ⟨rfl, by rw [hU], wd_pre hP hK hD hU hW, hN.warm hW⟩⟩ rfl rfl hl.1 rfl (lv_room (Nat.le_of_ble_eq_true rfl)) dL_law_2912 ⟨by omega, by omega⟩) hS (fun q _ h => hFc q h) hFc (fun r1 u t H1 locs ht hvm hw hB hz1 hk1 hS => ?_)
  have w3 := hw
  obtain ⟨hP, hD⟩ := wd_post hFc ht hB
  generalize H1 = H at hP hS ⊢
  obtain ⟨S4, rfl⟩ : ∃ z, z = u := ⟨_, rfl⟩
  have v5 : IV S4 o1 := IV.keep w3 hW h_o1 (by decide) (by decide) hIV
  have v6 : MV S4 o1 := MV.keep w3 hW h_o1 (by decide) (by decide) hMV
  have v7 : (RG o2) S4 o1 := RG.keep w3 hW h_o1 (by decide) (by decide) hR_RG
  have xe8 : ext S S4 := w3.x
  refine lv_pop hx hb dL_law_2915 rfl ?_
  refine lv_aload_n hx hb dL_law_2916 rfl (lv_at hl 3 rfl) ?_
  have hFc := free_all hD hS hA
  obtain ⟨k10, gk10, hk10⟩ := wGt (cy := cy) (XO c8 c9 qo qd fo fd) S4 (xe8.A h_o1).1 (xe8.A h_o1).2.1
  refine va_calli (va_runV (As := []) (rest := []) ⟨hx, hb, hml, hown, hts⟩ (c_X12_isSound l (cy := cy) (X := (XO c8 c9 qo qd fo fd)) (D := D) S4 _ o1 (xe8.A h_o1) (w3.w)) (cwV 0 hts gL_law_X12_isSound rfl rfl rfl hd_X12_isSound ⟨Nat.le_of_ble_eq_true rfl, Nat.le_of_ble_eq_true rfl⟩) ⟨fun a U g mk q => ⟨q.1, q.2.1, q.2.2.1.calling, NW.same (u := U) (U := U.calling g mk a) rfl q.2.2.2⟩, va_recv hK hP (q := (RX12, TX12, 34)) (ci := 16) (q0 := k10) rfl hk10, fun U hU hW => ⟨rfl, by rw [hU], wd_pre hP hK hD hU hW, hN.warm hW⟩⟩ rfl rfl hl.1 rfl (lv_room (Nat.le_of_ble_eq_true rfl)) dL_law_2917 ⟨by omega, by omega⟩) hS (fun q _ h => hFc q h) hFc (fun r9 u t H1 locs ht hvm hw hB hz1 hk1 hS => ?_)
  obtain ⟨w11, y12⟩ := hw
  obtain ⟨hP, hD⟩ := wd_post hFc ht hB
  generalize H1 = H at hP hS ⊢
  obtain ⟨S13, rfl⟩ : ∃ z, z = u := ⟨_, rfl⟩
  have v14 : IV S13 o1 := IV.keep w11 w3.w (xe8.A h_o1) (by decide) (by decide) v5
  have v15 : MV S13 o1 := MV.keep w11 w3.w (xe8.A h_o1) (by decide) (by decide) v6
  have v16 : (RG o2) S13 o1 := RG.keep w11 w3.w (xe8.A h_o1) (by decide) (by decide) v7
  have xe17 : ext S4 S13 := w11.x
  refine lv_pop hx hb dL_law_2920 rfl ?_
  refine lv_goto (tgt := 2924) hx hb dL_law_2921 (by decide) ?_
  refine W.widen (k := cells + 40) (n := slots + 1200) (by omega) (by omega) ?_
  exact kk S13 fo fd H _ ls ⟨hP, hD, w11.w, ((xe8.tr xe17).A h_o2), (xe17.A (xe8.A h_o1)), ((xe8.tr xe17).F h_o1 (by decide) h77), v15, v14, v16⟩ hS (lv_sub hl [0, 1, 2, 3, 4, 5] rfl)
