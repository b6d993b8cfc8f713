set_option maxHeartbeats 4000000 in
set_option maxRecDepth 100000 in
theorem road_0 {p : Program} {l : Launch} {e : Env} {s : State} {m : MethodId} {below : List Frame} {meth : Method} {c : Code} {b L : Nat} {xs : Nat → Int32} {D : va_G} {cy : Nat → ClassId} {c8 c9 : ClassId} {e0 mi : Nat} {Q : State → Prop} {qo qd o1 o2 : Nat} (C0 : LC p l s m c b L xs D cy c8 c9 e0 mi) (hL9 : L ≤ 2560) {S : wPS} {fo : Nat → Int64} {fd : Nat → UInt64} {H : Heap} {locs : List Loc} {ls : Array Slot} {cells slots : Nat} {i : Int32} (hi : 0 ≤ i.toInt ∧ i.toInt + 5 ≤ L) (hI : LI D cy c8 c9 e0 (fun q => s.heap.size ≤ q) o1 o2 qo qd fo fd S H) (hS : va_S (fun q => s.heap.size ≤ q) s.heap H locs) (hc : cells + 40 ≤ room_1.cells) (hs : slots + 1200 ≤ room_1.slots) (hl : lv_has ls 9 [(5, .int i), (4, .ref qd), (3, .ref qo), (2, .ref o1), (1, .ref o2), (0, .ref b)]) (kk : ∀ (S2 : wPS) (fo2 : Nat → Int64) (fd2 : Nat → UInt64) (H2 : Heap) (locs2 : List Loc) (ls2 : Array Slot), LI D cy c8 c9 e0 (fun q => s.heap.size ≤ q) o1 o2 qo qd fo2 fd2 S2 H2 → va_S (fun q => s.heap.size ≤ q) s.heap H2 locs2 → lv_has ls2 9 [(5, .int i), (4, .ref qd), (3, .ref qo), (2, .ref o1), (1, .ref o2), (0, .ref b)] → W p l e room_1 s m #[Value.ref b] below meth c H2 locs2 (cells + 40) (slots + 1200) Q (F0 m 2924 ls2 [])) : W p l e room_1 s m #[Value.ref b] below meth c H locs cells slots Q (F0 m 312 ls []) := by
  obtain ⟨hx, hb, hml, hown, hts, hX, hbl, hN, hTH, hOU, hKX, hst, hNC⟩ := id C0
  obtain ⟨hP, hD, hW, h_o2, h_o1, h77, hMV, hIV, hR_RG⟩ := hI
  have hK := kX hKX
  have hA : ∀ q : Nat, s.heap.size ≤ q → (fun q : Nat => s.heap.size ≤ q) q := fun _ h => h
  have hbA : ¬ (fun q : Nat => s.heap.size ≤ q) b := Nat.not_le.mpr hbl
  refine lv_aload_n hx hb dL_law_312 rfl (lv_at hl 4 rfl) ?_
  refine lv_aload_n hx hb dL_law_313 rfl (lv_at hl 5 rfl) ?_
  refine lv_iload hx hb dL_law_314 (lv_at hl 0 rfl) ?_
  refine lv_iconst (v := 1) hx hb dL_law_316 (by decide) ?_
  refine lv_iadd hx hb dL_law_317 ?_
  have l32_1 : (1 : Int32).toInt = 1 := rfl
  have i1 : (i + (1 : Int32)).toInt = i.toInt + 1 := t_addr (n := 1) rfl (by omega)
  refine va_sld hx hb hX hbl hbA hS (inb (m := L) rfl (by omega) (by omega)) dL_law_318 ?_
  obtain ⟨y2, ey2⟩ : ∃ z : Int32, xs (i + (1 : Int32)).toNatClampNeg = z := ⟨_, rfl⟩
  rw [ey2]
  refine lv_aload_n hx hb dL_law_319 rfl (lv_at hl 5 rfl) ?_
  refine lv_iload hx hb dL_law_320 (lv_at hl 0 rfl) ?_
  refine lv_iconst (v := 2) hx hb dL_law_322 (by decide) ?_
  refine lv_iadd hx hb dL_law_323 ?_
  have l32_2 : (2 : Int32).toInt = 2 := rfl
  have i3 : (i + (2 : Int32)).toInt = i.toInt + 2 := t_addr (n := 2) rfl (by omega)
  refine va_sld hx hb hX hbl hbA hS (inb (m := L) rfl (by omega) (by omega)) dL_law_324 ?_
  obtain ⟨y4, ey4⟩ : ∃ z : Int32, xs (i + (2 : Int32)).toNatClampNeg = z := ⟨_, rfl⟩
  rw [ey4]
  refine lv_aload_n hx hb dL_law_325 rfl (lv_at hl 5 rfl) ?_
  refine lv_iload hx hb dL_law_326 (lv_at hl 0 rfl) ?_
  refine lv_iconst (v := 3) hx hb dL_law_328 (by decide) ?_
  refine lv_iadd hx hb dL_law_329 ?_
  have l32_3 : (3 : Int32).toInt = 3 := rfl
  have i5 : (i + (3 : Int32)).toInt = i.toInt + 3 := t_addr (n := 3) rfl (by omega)
  refine va_sld hx hb hX hbl hbA hS (inb (m := L) rfl (by omega) (by omega)) dL_law_330 ?_
  obtain ⟨y6, ey6⟩ : ∃ z : Int32, xs (i + (3 : Int32)).toNatClampNeg = z := ⟨_, rfl⟩
  rw [ey6]
  refine lv_aload_n hx hb dL_law_331 rfl (lv_at hl 5 rfl) ?_
  refine lv_iload hx hb dL_law_332 (lv_at hl 0 rfl) ?_
  refine lv_iconst (v := 4) hx hb dL_law_334 (by decide) ?_
  refine lv_iadd hx hb dL_law_335 ?_
  have l32_4 : (4 : Int32).toInt = 4 := rfl
  have i7 : (i + (4 : Int32)).toInt = i.toInt + 4 := t_addr (n := 4) rfl (by omega)
  refine va_sld hx hb hX hbl hbA hS (inb (m := L) rfl (by omega) (by omega)) dL_law_336 ?_
  obtain ⟨y8, ey8⟩ : ∃ z : Int32, xs (i + (4 : Int32)).toNatClampNeg = z := ⟨_, rfl⟩
  rw [ey8]
  refine lv_aload_n hx hb dL_law_337 rfl (lv_at hl 2 rfl) ?_
  have hFc := free_all hD hS hA
  refine va_calli (vx_runSW (As := [.ref o2, .int y2, .int y4, .int y6, .int y8, .ref qo]) (rest := []) ⟨hx, hb, hml, hown, hts⟩ (c_L_gear l hst (e0 := e0) (mi := mi) (D := D) (cy := cy) (c8 := c8) (c9 := c9) qo qd fo fd S _ o2 h_o2 y2 y4 y6 y8 (hW)) (vx_cwSW 6 hts gL_law_L_gear rfl rfl rfl (by decide +kernel) ⟨Nat.le_of_ble_eq_true rfl, Nat.le_of_ble_eq_true rfl⟩) ⟨fun a U g mk q => ⟨q.1, q.2.1, q.2.2.1.calling, NW.same (u := U) (U := U.calling g mk a) rfl q.2.2.2.1, q.2.2.2.2.1.calling, q.2.2.2.2.2.1.calling, q.2.2.2.2.2.2.calling⟩, fun U hU hW => ⟨rfl, by rw [hU], wx_pre hP hKX hD hU hW, hN.warm hW, th_pre hTH hS hFc hU hW, ou_pre hOU hS hFc hU hW, hNC.moved hW.alike⟩⟩ rfl rfl hl.1 rfl (lv_room (Nat.le_of_ble_eq_true rfl)) dL_law_338 ⟨by omega, by omega⟩) hS (fun q _ h => hFc q h) hFc (fun r9 u t H1 locs ht hvm hw hB hz1 hk1 hS => ?_)
  obtain ⟨S10, f11⟩ := u
  obtain ⟨w12, c13⟩ := hw
  obtain ⟨hP, hD⟩ := wx_post hFc ht hB
  generalize H1 = H at hP hS ⊢
  have w12 : stp [(9, 1), (19, 101)] [] [] S S10 := w12
  have v14 : IV S10 o1 := IV.keep w12 hW h_o1 (by decide) (by decide) hIV
  have v15 : MV S10 o1 := MV.keep w12 hW h_o1 (by decide) (by decide) hMV
  have xe17 : ext S S10 := w12.x
  refine lv_istore (lv' := [(6, .int r9), (5, .int i), (4, .ref qd), (3, .ref qo), (2, .ref o1), (1, .ref o2), (0, .ref b)]) hx hb dL_law_341 hl (by decide) rfl (fun ls hl => ?_)
  refine lv_aload_n hx hb dL_law_343 rfl (lv_at hl 4 rfl) ?_
  refine lv_aload_n hx hb dL_law_344 rfl (lv_at hl 6 rfl) ?_
  refine lv_iload hx hb dL_law_345 (lv_at hl 1 rfl) ?_
  refine lv_iconst (v := 1) hx hb dL_law_347 (by decide) ?_
  refine lv_iadd hx hb dL_law_348 ?_
  refine va_sld hx hb hX hbl hbA hS (inb (m := L) rfl (by omega) (by omega)) dL_law_349 ?_
  rw [ey2]
  refine lv_aload_n hx hb dL_law_350 rfl (lv_at hl 6 rfl) ?_
  refine lv_iload hx hb dL_law_351 (lv_at hl 1 rfl) ?_
  refine lv_iconst (v := 2) hx hb dL_law_353 (by decide) ?_
  refine lv_iadd hx hb dL_law_354 ?_
  refine va_sld hx hb hX hbl hbA hS (inb (m := L) rfl (by omega) (by omega)) dL_law_355 ?_
  rw [ey4]
  refine lv_aload_n hx hb dL_law_356 rfl (lv_at hl 6 rfl) ?_
  refine lv_iload hx hb dL_law_357 (lv_at hl 1 rfl) ?_
  refine lv_iconst (v := 3) hx hb dL_law_359 (by decide) ?_
  refine lv_iadd hx hb dL_law_360 ?_
  refine va_sld hx hb hX hbl hbA hS (inb (m := L) rfl (by omega) (by omega)) dL_law_361 ?_
  rw [ey6]
  refine lv_aload_n hx hb dL_law_362 rfl (lv_at hl 6 rfl) ?_
  refine lv_iload hx hb dL_law_363 (lv_at hl 1 rfl) ?_
  refine lv_iconst (v := 4) hx hb dL_law_365 (by decide) ?_
  refine lv_iadd hx hb dL_law_366 ?_
  refine va_sld hx hb hX hbl hbA hS (inb (m := L) rfl (by omega) (by omega)) dL_law_367 ?_
  rw [ey8]
  have hFc := free_all hD hS hA
  obtain ⟨k19, gk19, hk19⟩ := wGt (cy := cy) (XO c8 c9 qo qd f11 fd) S10 (xe17.A h_o1).1 (xe17.A h_o1).2.1
  refine va_calli (va_runV (As := [.int y2, .int y4, .int y6, .int y8]) (rest := []) ⟨hx, hb, hml, hown, hts⟩ (c_X12_gear l (e0 := e0) (mi := mi) (cy := cy) (X := (XO c8 c9 qo qd f11 fd)) (D := D) S10 _ o1 (xe17.A h_o1) y2 y4 y6 y8 (w12.w) (xe17.F h_o1 (by decide) h77)) (cwV 4 hts gL_law_X12_gear rfl rfl rfl hd_X12_gear ⟨Nat.le_of_ble_eq_true rfl, Nat.le_of_ble_eq_true rfl⟩) ⟨fun a U g mk q => ⟨q.1, q.2.1, q.2.2.1.calling, NW.same (u := U) (U := U.calling g mk a) rfl q.2.2.2.1, q.2.2.2.2.calling⟩, va_recv hK hP (q := (RX12, TX12, 34)) (ci := 16) (q0 := k19) rfl hk19, fun U hU hW => ⟨rfl, by rw [hU], wd_pre hP hK hD hU hW, hN.warm hW, ou_pre hOU hS hFc hU hW⟩⟩ rfl rfl hl.1 rfl (lv_room (Nat.le_of_ble_eq_true rfl)) dL_law_368 ⟨by omega, by omega⟩) hS (fun q _ h => hFc q h) hFc (fun r18 u t H1 locs ht hvm hw hB hz1 hk1 hS => ?_)
  obtain ⟨w20, y21, y22, y23, y24⟩ := hw
  obtain ⟨hP, hD⟩ := wd_post hFc ht hB
  generalize H1 = H at hP hS ⊢
  obtain ⟨S25, rfl⟩ : ∃ z, z = u := ⟨_, rfl⟩
  have v26 : IV S25 o1 := IV.keep w20 w12.w (xe17.A h_o1) (by decide) (by decide) v14
  have v27 : MV S25 o1 := MV.gear w20 w12.w (xe17.A h_o1) (by decide) y21 v15
  have xe29 : ext S10 S25 := w20.x
  refine lv_istore (lv' := [(7, .int r18), (6, .int r9), (5, .int i), (4, .ref qd), (3, .ref qo), (2, .ref o1), (1, .ref o2), (0, .ref b)]) hx hb dL_law_371 hl (by decide) rfl (fun ls hl => ?_)
  refine lv_aload_n hx hb dL_law_373 rfl (lv_at hl 5 rfl) ?_
  have hFc := free_all hD hS hA
  obtain ⟨k31, gk31, hk31⟩ := wGt (cy := cy) (XO c8 c9 qo qd f11 fd) S25 (xe29.A (xe17.A h_o1)).1 (xe29.A (xe17.A h_o1)).2.1
  refine va_calli (va_runV (As := []) (rest := []) ⟨hx, hb, hml, hown, hts⟩ (c_X12_thrown l (cy := cy) (X := (XO c8 c9 qo qd f11 fd)) (D := D) S25 _ o1 (xe29.A (xe17.A h_o1))) (cwV 0 hts gL_law_X12_thrown rfl rfl rfl hd_X12_thrown ⟨Nat.le_of_ble_eq_true rfl, Nat.le_of_ble_eq_true rfl⟩) ⟨fun a U g mk q => ⟨q.1, q.2.1, q.2.2.1.calling, NW.same (u := U) (U := U.calling g mk a) rfl q.2.2.2⟩, va_recv hK hP (q := (RX12, TX12, 34)) (ci := 16) (q0 := k31) rfl hk31, fun U hU hW => ⟨rfl, by rw [hU], wd_pre hP hK hD hU hW, hN.warm hW⟩⟩ rfl rfl hl.1 rfl (lv_room (Nat.le_of_ble_eq_true rfl)) dL_law_374 ⟨by omega, by omega⟩) hS (fun q _ h => hFc q h) hFc (fun r30 u t H1 locs ht hvm hw hB hz1 hk1 hS => ?_)
  have c32 := hw
  obtain ⟨hP, hD⟩ := wd_post hFc ht hB
  generalize H1 = H at hP hS ⊢
  refine lv_iload hx hb dL_law_377 (lv_at hl 1 rfl) ?_
  refine lv_icmp_eq (tgt := 384) hx hb dL_law_379 (by decide) (fun c33 => ?_) (fun c33 => ?_)
  · have c33i : r30.toInt = r9.toInt := eq_v rfl rfl c33
    refine lv_iload hx hb dL_law_384 (lv_at hl 1 rfl) ?_
    refine lv_if_ne (tgt := 401) hx hb dL_law_386 (by decide) (fun c34 => ?_) (fun c34 => ?_)
    · have c34i : ¬ r9.toInt = 0 := neq_v rfl rfl c34
      refine lv_goto (tgt := 2924) hx hb dL_law_401 (by decide) ?_
      refine W.widen (k := cells + 40) (n := slots + 1200) (by omega) (by omega) ?_
      have hR9_RG := RG.gear hR_RG h_o1 hW w12 w20 c13 ⟨y22, y23, y24⟩
      exact kk S25 f11 fd H _ ls ⟨hP, hD, w20.w, ((xe17.tr xe29).A h_o2), (xe29.A (xe17.A h_o1)), ((xe17.tr xe29).F h_o1 (by decide) h77), v27, v26, hR9_RG⟩ hS (lv_sub hl [2, 3, 4, 5, 6, 7] rfl)
    · have c34i : r9.toInt = 0 := eq_v rfl rfl c34
      refine lv_aload_n hx hb dL_law_389 rfl (lv_at hl 4 rfl) ?_
      refine lv_iconst (v := 0) hx hb dL_law_390 (by decide) ?_
      refine va_lald hx hb hKX hP 0 8 rfl rfl (inb (m := 1) rfl (by decide) (by decide)) dL_law_391 ?_
      refine lv_iload hx hb dL_law_392 (lv_at hl 0 rfl) ?_
      refine lv_i2l hx hb dL_law_394 rfl ?_
      refine W.lcmp hx hb dL_law_395 ?_
      refine lv_if_eq (tgt := 401) hx hb dL_law_396 (by decide) (fun c35 => ?_) (fun c35 => ?_)
      · refine lv_goto (tgt := 2924) hx hb dL_law_401 (by decide) ?_
        refine W.widen (k := cells + 40) (n := slots + 1200) (by omega) (by omega) ?_
        have hR9_RG := RG.gear hR_RG h_o1 hW w12 w20 c13 ⟨y22, y23, y24⟩
        exact kk S25 f11 fd H _ ls ⟨hP, hD, w20.w, ((xe17.tr xe29).A h_o2), (xe29.A (xe17.A h_o1)), ((xe17.tr xe29).F h_o1 (by decide) h77), v27, v26, hR9_RG⟩ hS (lv_sub hl [2, 3, 4, 5, 6, 7] rfl)
      · refine lv_iconst (v := 0) hx hb dL_law_399 (by decide) ?_
        have hq9 := (eq_gear hR_RG h_o1 hW w12 w20 c13 ⟨y22, y23, y24⟩ c32)
        have hq8 := hq9.2 c34
        try dsimp only at hq8
        exact absurd (by rw [hq8]; exact lcmp_self _) c35
  · have c33i : ¬ r30.toInt = r9.toInt := neq_v rfl rfl c33
    refine lv_iconst (v := 0) hx hb dL_law_382 (by decide) ?_
    have hq9 := (eq_gear hR_RG h_o1 hW w12 w20 c13 ⟨y22, y23, y24⟩ c32)
    exact absurd hq9.1 c33
set_option maxHeartbeats 4000000 in
set_option maxRecDepth 100000 in
theorem road_1 {p : Program} {l : Launch} {e : Env} {s : State} {m : MethodId} {below : List Frame} {meth : Method} {c : Code} {b L : Nat} {xs : Nat → Int32} {D : va_G} {cy : Nat → ClassId} {c8 c9 : ClassId} {e0 mi : Nat} {Q : State → Prop} {qo qd o1 o2 : Nat} (C0 : LC p l s m c b L xs D cy c8 c9 e0 mi) (hL9 : L ≤ 2560) {S : wPS} {fo : Nat → Int64} {fd : Nat → UInt64} {H : Heap} {locs : List Loc} {ls : Array Slot} {cells slots : Nat} {i : Int32} (hi : 0 ≤ i.toInt ∧ i.toInt + 5 ≤ L) (hI : LI D cy c8 c9 e0 (fun q => s.heap.size ≤ q) o1 o2 qo qd fo fd S H) (hS : va_S (fun q => s.heap.size ≤ q) s.heap H locs) (hc : cells + 40 ≤ room_1.cells) (hs : slots + 1200 ≤ room_1.slots) (hl : lv_has ls 9 [(5, .int i), (4, .ref qd), (3, .ref qo), (2, .ref o1), (1, .ref o2), (0, .ref b)]) (kk : ∀ (S2 : wPS) (fo2 : Nat → Int64) (fd2 : Nat → UInt64) (H2 : Heap) (locs2 : List Loc) (ls2 : Array Slot), LI D cy c8 c9 e0 (fun q => s.heap.size ≤ q) o1 o2 qo qd fo2 fd2 S2 H2 → va_S (fun q => s.heap.size ≤ q) s.heap H2 locs2 → lv_has ls2 9 [(5, .int i), (4, .ref qd), (3, .ref qo), (2, .ref o1), (1, .ref o2), (0, .ref b)] → W p l e room_1 s m #[Value.ref b] below meth c H2 locs2 (cells + 40) (slots + 1200) Q (F0 m 2924 ls2 [])) : W p l e room_1 s m #[Value.ref b] below meth c H locs cells slots Q (F0 m 404 ls []) := by
  obtain ⟨hx, hb, hml, hown, hts, hX, hbl, hN, hTH, hOU, hKX, hst, hNC⟩ := id C0
  obtain ⟨hP, hD, hW, h_o2, h_o1, h77, hMV, hIV, hR_RG⟩ := hI
  have hK := kX hKX
  have hA : ∀ q : Nat, s.heap.size ≤ q → (fun q : Nat => s.heap.size ≤ q) q := fun _ h => h
  have hbA : ¬ (fun q : Nat => s.heap.size ≤ q) b := Nat.not_le.mpr hbl
  refine lv_aload_n hx hb dL_law_404 rfl (lv_at hl 4 rfl) ?_
  refine lv_aload_n hx hb dL_law_405 rfl (lv_at hl 5 rfl) ?_
  refine lv_iload hx hb dL_law_406 (lv_at hl 0 rfl) ?_
  refine lv_iconst (v := 1) hx hb dL_law_408 (by decide) ?_
  refine lv_iadd hx hb dL_law_409 ?_
  have l32_1 : (1 : Int32).toInt = 1 := rfl
  have i1 : (i + (1 : Int32)).toInt = i.toInt + 1 := t_addr (n := 1) rfl (by omega)
  refine va_sld hx hb hX hbl hbA hS (inb (m := L) rfl (by omega) (by omega)) dL_law_410 ?_
  obtain ⟨y2, ey2⟩ : ∃ z : Int32, xs (i + (1 : Int32)).toNatClampNeg = z := ⟨_, rfl⟩
  rw [ey2]
  refine lv_aload_n hx hb dL_law_411 rfl (lv_at hl 5 rfl) ?_
  refine lv_iload hx hb dL_law_412 (lv_at hl 0 rfl) ?_
  refine lv_iconst (v := 2) hx hb dL_law_414 (by decide) ?_
  refine lv_iadd hx hb dL_law_415 ?_
  have l32_2 : (2 : Int32).toInt = 2 := rfl
  have i3 : (i + (2 : Int32)).toInt = i.toInt + 2 := t_addr (n := 2) rfl (by omega)
  refine va_sld hx hb hX hbl hbA hS (inb (m := L) rfl (by omega) (by omega)) dL_law_416 ?_
  obtain ⟨y4, ey4⟩ : ∃ z : Int32, xs (i + (2 : Int32)).toNatClampNeg = z := ⟨_, rfl⟩
  rw [ey4]
  refine lv_aload_n hx hb dL_law_417 rfl (lv_at hl 2 rfl) ?_
  have hFc := free_all hD hS hA
  refine va_calli (vx_runSW (As := [.ref o2, .int y2, .int y4, .ref qo]) (rest := []) ⟨hx, hb, hml, hown, hts⟩ (c_L_setShift l hst (e0 := e0) (mi := mi) (D := D) (cy := cy) (c8 := c8) (c9 := c9) qo qd fo fd S _ o2 h_o2 y2 y4 (hW)) (vx_cwSW 4 hts gL_law_L_setShift rfl rfl rfl (by decide +kernel) ⟨Nat.le_of_ble_eq_true rfl, Nat.le_of_ble_eq_true rfl⟩) ⟨fun a U g mk q => ⟨q.1, q.2.1, q.2.2.1.calling, NW.same (u := U) (U := U.calling g mk a) rfl q.2.2.2.1, q.2.2.2.2.1.calling, q.2.2.2.2.2.1.calling, q.2.2.2.2.2.2.calling⟩, fun U hU hW => ⟨rfl, by rw [hU], wx_pre hP hKX hD hU hW, hN.warm hW, th_pre hTH hS hFc hU hW, ou_pre hOU hS hFc hU hW, hNC.moved hW.alike⟩⟩ rfl rfl hl.1 rfl (lv_room (Nat.le_of_ble_eq_true rfl)) dL_law_418 ⟨by omega, by omega⟩) hS (fun q _ h => hFc q h) hFc (fun r5 u t H1 locs ht hvm hw hB hz1 hk1 hS => ?_)
  obtain ⟨S6, f7⟩ := u
  have w8 := hw
  obtain ⟨hP, hD⟩ := wx_post hFc ht hB
  generalize H1 = H at hP hS ⊢
  have w8 : stp [(2, 7)] [] [] S S6 := w8
  have v9 : IV S6 o1 := IV.keep w8 hW h_o1 (by decide) (by decide) hIV
  have v10 : MV S6 o1 := MV.keep w8 hW h_o1 (by decide) (by decide) hMV
  have v11 : (RG o2) S6 o1 := RG.keep w8 hW h_o1 (by decide) (by decide) hR_RG
  have xe12 : ext S S6 := w8.x
  refine lv_istore (lv' := [(6, .int r5), (5, .int i), (4, .ref qd), (3, .ref qo), (2, .ref o1), (1, .ref o2), (0, .ref b)]) hx hb dL_law_421 hl (by decide) rfl (fun ls hl => ?_)
  refine lv_aload_n hx hb dL_law_423 rfl (lv_at hl 4 rfl) ?_
  refine lv_aload_n hx hb dL_law_424 rfl (lv_at hl 6 rfl) ?_
  refine lv_iload hx hb dL_law_425 (lv_at hl 1 rfl) ?_
  refine lv_iconst (v := 1) hx hb dL_law_427 (by decide) ?_
  refine lv_iadd hx hb dL_law_428 ?_
  refine va_sld hx hb hX hbl hbA hS (inb (m := L) rfl (by omega) (by omega)) dL_law_429 ?_
  rw [ey2]
  refine lv_aload_n hx hb dL_law_430 rfl (lv_at hl 6 rfl) ?_
  refine lv_iload hx hb dL_law_431 (lv_at hl 1 rfl) ?_
  refine lv_iconst (v := 2) hx hb dL_law_433 (by decide) ?_
  refine lv_iadd hx hb dL_law_434 ?_
  refine va_sld hx hb hX hbl hbA hS (inb (m := L) rfl (by omega) (by omega)) dL_law_435 ?_
  rw [ey4]
  have hFc := free_all hD hS hA
  obtain ⟨k14, gk14, hk14⟩ := wGt (cy := cy) (XO c8 c9 qo qd f7 fd) S6 (xe12.A h_o1).1 (xe12.A h_o1).2.1
  refine va_calli (va_runV (As := [.int y2, .int y4]) (rest := []) ⟨hx, hb, hml, hown, hts⟩ (c_X12_setShift l (cy := cy) (X := (XO c8 c9 qo qd f7 fd)) (D := D) S6 _ o1 (xe12.A h_o1) y2 y4 (w8.w)) (cwV 2 hts gL_law_X12_setShift rfl rfl rfl hd_X12_setShift ⟨Nat.le_of_ble_eq_true rfl, Nat.le_of_ble_eq_true rfl⟩) ⟨fun a U g mk q => ⟨q.1, q.2.1, q.2.2.1.calling, NW.same (u := U) (U := U.calling g mk a) rfl q.2.2.2⟩, va_recv hK hP (q := (RX12, TX12, 34)) (ci := 16) (q0 := k14) rfl hk14, fun U hU hW => ⟨rfl, by rw [hU], wd_pre hP hK hD hU hW, hN.warm hW⟩⟩ rfl rfl hl.1 rfl (lv_room (Nat.le_of_ble_eq_true rfl)) dL_law_436 ⟨by omega, by omega⟩) hS (fun q _ h => hFc q h) hFc (fun r13 u t H1 locs ht hvm hw hB hz1 hk1 hS => ?_)
  obtain ⟨c15, w16⟩ := hw
  obtain ⟨hP, hD⟩ := wd_post hFc ht hB
  generalize H1 = H at hP hS ⊢
  obtain ⟨S17, rfl⟩ : ∃ z, z = u := ⟨_, rfl⟩
  have v18 : IV S17 o1 := IV.keep w16 w8.w (xe12.A h_o1) (by decide) (by decide) v9
  have v19 : MV S17 o1 := MV.keep w16 w8.w (xe12.A h_o1) (by decide) (by decide) v10
  have v20 : (RG o2) S17 o1 := RG.keep w16 w8.w (xe12.A h_o1) (by decide) (by decide) v11
  have xe21 : ext S6 S17 := w16.x
  refine lv_istore (lv' := [(7, .int r13), (6, .int r5), (5, .int i), (4, .ref qd), (3, .ref qo), (2, .ref o1), (1, .ref o2), (0, .ref b)]) hx hb dL_law_439 hl (by decide) rfl (fun ls hl => ?_)
  refine lv_goto (tgt := 2924) hx hb dL_law_441 (by decide) ?_
  refine W.widen (k := cells + 40) (n := slots + 1200) (by omega) (by omega) ?_
  exact kk S17 f7 fd H _ ls ⟨hP, hD, w16.w, ((xe12.tr xe21).A h_o2), (xe21.A (xe12.A h_o1)), ((xe12.tr xe21).F h_o1 (by decide) h77), v19, v18, v20⟩ hS (lv_sub hl [2, 3, 4, 5, 6, 7] rfl)
set_option maxHeartbeats 4000000 in
set_option maxRecDepth 100000 in
theorem road_2 {p : Program} {l : Launch} {e : Env} {s : State} {m : MethodId} {below : List Frame} {meth : Method} {c : Code} {b L : Nat} {xs : Nat → Int32} {D : va_G} {cy : Nat → ClassId} {c8 c9 : ClassId} {e0 mi : Nat} {Q : State → Prop} {qo qd o1 o2 : Nat} (C0 : LC p l s m c b L xs D cy c8 c9 e0 mi) (hL9 : L ≤ 2560) {S : wPS} {fo : Nat → Int64} {fd : Nat → UInt64} {H : Heap} {locs : List Loc} {ls : Array Slot} {cells slots : Nat} {i : Int32} (hi : 0 ≤ i.toInt ∧ i.toInt + 5 ≤ L) (hI : LI D cy c8 c9 e0 (fun q => s.heap.size ≤ q) o1 o2 qo qd fo fd S H) (hS : va_S (fun q => s.heap.size ≤ q) s.heap H locs) (hc : cells + 40 ≤ room_1.cells) (hs : slots + 1200 ≤ room_1.slots) (hl : lv_has ls 9 [(5, .int i), (4, .ref qd), (3, .ref qo), (2, .ref o1), (1, .ref o2), (0, .ref b)]) (kk : ∀ (S2 : wPS) (fo2 : Nat → Int64) (fd2 : Nat → UInt64) (H2 : Heap) (locs2 : List Loc) (ls2 : Array Slot), LI D cy c8 c9 e0 (fun q => s.heap.size ≤ q) o1 o2 qo qd fo2 fd2 S2 H2 → va_S (fun q => s.heap.size ≤ q) s.heap H2 locs2 → lv_has ls2 9 [(5, .int i), (4, .ref qd), (3, .ref qo), (2, .ref o1), (1, .ref o2), (0, .ref b)] → W p l e room_1 s m #[Value.ref b] below meth c H2 locs2 (cells + 40) (slots + 1200) Q (F0 m 2924 ls2 [])) : W p l e room_1 s m #[Value.ref b] below meth c H locs cells slots Q (F0 m 444 ls []) := by
  obtain ⟨hx, hb, hml, hown, hts, hX, hbl, hN, hTH, hOU, hKX, hst, hNC⟩ := id C0
  obtain ⟨hP, hD, hW, h_o2, h_o1, h77, hMV, hIV, hR_RG⟩ := hI
  have hK := kX hKX
  have hA : ∀ q : Nat, s.heap.size ≤ q → (fun q : Nat => s.heap.size ≤ q) q := fun _ h => h
  have hbA : ¬ (fun q : Nat => s.heap.size ≤ q) b := Nat.not_le.mpr hbl
  refine lv_aload_n hx hb dL_law_444 rfl (lv_at hl 4 rfl) ?_
  refine lv_aload_n hx hb dL_law_445 rfl (lv_at hl 5 rfl) ?_
  refine lv_iload hx hb dL_law_446 (lv_at hl 0 rfl) ?_
  refine lv_iconst (v := 1) hx hb dL_law_448 (by decide) ?_
  refine lv_iadd hx hb dL_law_449 ?_
  have l32_1 : (1 : Int32).toInt = 1 := rfl
  have i1 : (i + (1 : Int32)).toInt = i.toInt + 1 := t_addr (n := 1) rfl (by omega)
  refine va_sld hx hb hX hbl hbA hS (inb (m := L) rfl (by omega) (by omega)) dL_law_450 ?_
  obtain ⟨y2, ey2⟩ : ∃ z : Int32, xs (i + (1 : Int32)).toNatClampNeg = z := ⟨_, rfl⟩
  rw [ey2]
  refine lv_aload_n hx hb dL_law_451 rfl (lv_at hl 2 rfl) ?_
  have hFc := free_all hD hS hA
  refine va_calli (vx_runSW (As := [.ref o2, .int y2, .ref qo]) (rest := []) ⟨hx, hb, hml, hown, hts⟩ (c_L_diameter l hst (e0 := e0) (mi := mi) (D := D) (cy := cy) (c8 := c8) (c9 := c9) qo qd fo fd S _ o2 h_o2 y2 (hW)) (vx_cwSW 3 hts gL_law_L_diameter rfl rfl rfl (by decide +kernel) ⟨Nat.le_of_ble_eq_true rfl, Nat.le_of_ble_eq_true rfl⟩) ⟨fun a U g mk q => ⟨q.1, q.2.1, q.2.2.1.calling, NW.same (u := U) (U := U.calling g mk a) rfl q.2.2.2.1, q.2.2.2.2.1.calling, q.2.2.2.2.2.1.calling, q.2.2.2.2.2.2.calling⟩, fun U hU hW => ⟨rfl, by rw [hU], wx_pre hP hKX hD hU hW, hN.warm hW, th_pre hTH hS hFc hU hW, ou_pre hOU hS hFc hU hW, hNC.moved hW.alike⟩⟩ rfl rfl hl.1 rfl (lv_room (Nat.le_of_ble_eq_true rfl)) dL_law_452 ⟨by omega, by omega⟩) hS (fun q _ h => hFc q h) hFc (fun r3 u t H1 locs ht hvm hw hB hz1 hk1 hS => ?_)
  obtain ⟨S4, f5⟩ := u
  have w6 := hw
  obtain ⟨hP, hD⟩ := wx_post hFc ht hB
  generalize H1 = H at hP hS ⊢
  have w6 : stp ([] : List (Nat × Nat)) [] [] S S4 := w6
  have v7 : IV S4 o1 := IV.keep w6 hW h_o1 (by decide) (by decide) hIV
  have v8 : MV S4 o1 := MV.keep w6 hW h_o1 (by decide) (by decide) hMV
  have v9 : (RG o2) S4 o1 := RG.keep w6 hW h_o1 (by decide) (by decide) hR_RG
  have xe10 : ext S S4 := w6.x
  refine lv_istore (lv' := [(6, .int r3), (5, .int i), (4, .ref qd), (3, .ref qo), (2, .ref o1), (1, .ref o2), (0, .ref b)]) hx hb dL_law_455 hl (by decide) rfl (fun ls hl => ?_)
  refine lv_aload_n hx hb dL_law_457 rfl (lv_at hl 4 rfl) ?_
  refine lv_aload_n hx hb dL_law_458 rfl (lv_at hl 6 rfl) ?_
  refine lv_iload hx hb dL_law_459 (lv_at hl 1 rfl) ?_
  refine lv_iconst (v := 1) hx hb dL_law_461 (by decide) ?_
  refine lv_iadd hx hb dL_law_462 ?_
  refine va_sld hx hb hX hbl hbA hS (inb (m := L) rfl (by omega) (by omega)) dL_law_463 ?_
  rw [ey2]
  have hFc := free_all hD hS hA
  obtain ⟨k12, gk12, hk12⟩ := wGt (cy := cy) (XO c8 c9 qo qd f5 fd) S4 (xe10.A h_o1).1 (xe10.A h_o1).2.1
  refine va_calli (va_runV (As := [.int y2]) (rest := []) ⟨hx, hb, hml, hown, hts⟩ (c_X12_diameter l (cy := cy) (X := (XO c8 c9 qo qd f5 fd)) (D := D) S4 _ o1 (xe10.A h_o1) y2 (w6.w)) (cwV 1 hts gL_law_X12_diameter rfl rfl rfl hd_X12_diameter ⟨Nat.le_of_ble_eq_true rfl, Nat.le_of_ble_eq_true rfl⟩) ⟨fun a U g mk q => ⟨q.1, q.2.1, q.2.2.1.calling, NW.same (u := U) (U := U.calling g mk a) rfl q.2.2.2⟩, va_recv hK hP (q := (RX12, TX12, 34)) (ci := 16) (q0 := k12) rfl hk12, fun U hU hW => ⟨rfl, by rw [hU], wd_pre hP hK hD hU hW, hN.warm hW⟩⟩ rfl rfl hl.1 rfl (lv_room (Nat.le_of_ble_eq_true rfl)) dL_law_464 ⟨by omega, by omega⟩) hS (fun q _ h => hFc q h) hFc (fun r11 u t H1 locs ht hvm hw hB hz1 hk1 hS => ?_)
  obtain ⟨c13, w14⟩ := hw
  obtain ⟨hP, hD⟩ := wd_post hFc ht hB
  generalize H1 = H at hP hS ⊢
  obtain ⟨S15, rfl⟩ : ∃ z, z = u := ⟨_, rfl⟩
  have v16 : IV S15 o1 := IV.keep w14 w6.w (xe10.A h_o1) (by decide) (by decide) v7
  have v17 : MV S15 o1 := MV.keep w14 w6.w (xe10.A h_o1) (by decide) (by decide) v8
  have v18 : (RG o2) S15 o1 := RG.keep w14 w6.w (xe10.A h_o1) (by decide) (by decide) v9
  have xe19 : ext S4 S15 := w14.x
  refine lv_istore (lv' := [(7, .int r11), (6, .int r3), (5, .int i), (4, .ref qd), (3, .ref qo), (2, .ref o1), (1, .ref o2), (0, .ref b)]) hx hb dL_law_467 hl (by decide) rfl (fun ls hl => ?_)
  refine lv_goto (tgt := 2924) hx hb dL_law_469 (by decide) ?_
  refine W.widen (k := cells + 40) (n := slots + 1200) (by omega) (by omega) ?_
  exact kk S15 f5 fd H _ ls ⟨hP, hD, w14.w, ((xe10.tr xe19).A h_o2), (xe19.A (xe10.A h_o1)), ((xe10.tr xe19).F h_o1 (by decide) h77), v17, v16, v18⟩ hS (lv_sub hl [2, 3, 4, 5, 6, 7] rfl)
set_option maxHeartbeats 4000000 in
set_option maxRecDepth 100000 in
theorem road_3 {p : Program} {l : Launch} {e : Env} {s : State} {m : MethodId} {below : List Frame} {meth : Method} {c : Code} {b L : Nat} {xs : Nat → Int32} {D : va_G} {cy : Nat → ClassId} {c8 c9 : ClassId} {e0 mi : Nat} {Q : State → Prop} {qo qd o1 o2 : Nat} (C0 : LC p l s m c b L xs D cy c8 c9 e0 mi) (hL9 : L ≤ 2560) {S : wPS} {fo : Nat → Int64} {fd : Nat → UInt64} {H : Heap} {locs : List Loc} {ls : Array Slot} {cells slots : Nat} {i : Int32} (hi : 0 ≤ i.toInt ∧ i.toInt + 5 ≤ L) (hI : LI D cy c8 c9 e0 (fun q => s.heap.size ≤ q) o1 o2 qo qd fo fd S H) (hS : va_S (fun q => s.heap.size ≤ q) s.heap H locs) (hc : cells + 40 ≤ room_1.cells) (hs : slots + 1200 ≤ room_1.slots) (hl : lv_has ls 9 [(5, .int i), (4, .ref qd), (3, .ref qo), (2, .ref o1), (1, .ref o2), (0, .ref b)]) (kk : ∀ (S2 : wPS) (fo2 : Nat → Int64) (fd2 : Nat → UInt64) (H2 : Heap) (locs2 : List Loc) (ls2 : Array Slot), LI D cy c8 c9 e0 (fun q => s.heap.size ≤ q) o1 o2 qo qd fo2 fd2 S2 H2 → va_S (fun q => s.heap.size ≤ q) s.heap H2 locs2 → lv_has ls2 9 [(5, .int i), (4, .ref qd), (3, .ref qo), (2, .ref o1), (1, .ref o2), (0, .ref b)] → W p l e room_1 s m #[Value.ref b] below meth c H2 locs2 (cells + 40) (slots + 1200) Q (F0 m 2924 ls2 [])) : W p l e room_1 s m #[Value.ref b] below meth c H locs cells slots Q (F0 m 472 ls []) := by
  obtain ⟨hx, hb, hml, hown, hts, hX, hbl, hN, hTH, hOU, hKX, hst, hNC⟩ := id C0
  obtain ⟨hP, hD, hW, h_o2, h_o1, h77, hMV, hIV, hR_RG⟩ := hI
  have hK := kX hKX
  have hA : ∀ q : Nat, s.heap.size ≤ q → (fun q : Nat => s.heap.size ≤ q) q := fun _ h => h
  have hbA : ¬ (fun q : Nat => s.heap.size ≤ q) b := Nat.not_le.mpr hbl
  refine lv_aload_n hx hb dL_law_472 rfl (lv_at hl 4 rfl) ?_
  refine lv_aload_n hx hb dL_law_473 rfl (lv_at hl 5 rfl) ?_
  refine lv_iload hx hb dL_law_474 (lv_at hl 0 rfl) ?_
  refine lv_iconst (v := 1) hx hb dL_law_476 (by decide) ?_
  refine lv_iadd hx hb dL_law_477 ?_
  have l32_1 : (1 : Int32).toInt = 1 := rfl
  have i1 : (i + (1 : Int32)).toInt = i.toInt + 1 := t_addr (n := 1) rfl (by omega)
  refine va_sld hx hb hX hbl hbA hS (inb (m := L) rfl (by omega) (by omega)) dL_law_478 ?_
  obtain ⟨y2, ey2⟩ : ∃ z : Int32, xs (i + (1 : Int32)).toNatClampNeg = z := ⟨_, rfl⟩
  rw [ey2]
  refine lv_aload_n hx hb dL_law_479 rfl (lv_at hl 2 rfl) ?_
  have hFc := free_all hD hS hA
  refine va_calli (vx_runSW (As := [.ref o2, .int y2, .ref qo]) (rest := []) ⟨hx, hb, hml, hown, hts⟩ (c_L_tip l hst (e0 := e0) (mi := mi) (D := D) (cy := cy) (c8 := c8) (c9 := c9) qo qd fo fd S _ o2 h_o2 y2 (hW)) (vx_cwSW 3 hts gL_law_L_tip rfl rfl rfl (by decide +kernel) ⟨Nat.le_of_ble_eq_true rfl, Nat.le_of_ble_eq_true rfl⟩) ⟨fun a U g mk q => ⟨q.1, q.2.1, q.2.2.1.calling, NW.same (u := U) (U := U.calling g mk a) rfl q.2.2.2.1, q.2.2.2.2.1.calling, q.2.2.2.2.2.1.calling, q.2.2.2.2.2.2.calling⟩, fun U hU hW => ⟨rfl, by rw [hU], wx_pre hP hKX hD hU hW, hN.warm hW, th_pre hTH hS hFc hU hW, ou_pre hOU hS hFc hU hW, hNC.moved hW.alike⟩⟩ rfl rfl hl.1 rfl (lv_room (Nat.le_of_ble_eq_true rfl)) dL_law_480 ⟨by omega, by omega⟩) hS (fun q _ h => hFc q h) hFc (fun r3 u t H1 locs ht hvm hw hB hz1 hk1 hS => ?_)
  obtain ⟨S4, f5⟩ := u
  have w6 := hw
  obtain ⟨hP, hD⟩ := wx_post hFc ht hB
  generalize H1 = H at hP hS ⊢
  have w6 : stp ([] : List (Nat × Nat)) [] [] S S4 := w6
  have v7 : IV S4 o1 := IV.keep w6 hW h_o1 (by decide) (by decide) hIV
  have v8 : MV S4 o1 := MV.keep w6 hW h_o1 (by decide) (by decide) hMV
  have v9 : (RG o2) S4 o1 := RG.keep w6 hW h_o1 (by decide) (by decide) hR_RG
  have xe10 : ext S S4 := w6.x
  refine lv_istore (lv' := [(6, .int r3), (5, .int i), (4, .ref qd), (3, .ref qo), (2, .ref o1), (1, .ref o2), (0, .ref b)]) hx hb dL_law_483 hl (by decide) rfl (fun ls hl => ?_)
  refine lv_aload_n hx hb dL_law_485 rfl (lv_at hl 4 rfl) ?_
  refine lv_aload_n hx hb dL_law_486 rfl (lv_at hl 6 rfl) ?_
  refine lv_iload hx hb dL_law_487 (lv_at hl 1 rfl) ?_
  refine lv_iconst (v := 1) hx hb dL_law_489 (by decide) ?_
  refine lv_iadd hx hb dL_law_490 ?_
  refine va_sld hx hb hX hbl hbA hS (inb (m := L) rfl (by omega) (by omega)) dL_law_491 ?_
  rw [ey2]
  have hFc := free_all hD hS hA
  obtain ⟨k12, gk12, hk12⟩ := wGt (cy := cy) (XO c8 c9 qo qd f5 fd) S4 (xe10.A h_o1).1 (xe10.A h_o1).2.1
  refine va_calli (va_runV (As := [.int y2]) (rest := []) ⟨hx, hb, hml, hown, hts⟩ (c_X12_tip l (cy := cy) (X := (XO c8 c9 qo qd f5 fd)) (D := D) S4 _ o1 (xe10.A h_o1) y2 (w6.w)) (cwV 1 hts gL_law_X12_tip rfl rfl rfl hd_X12_tip ⟨Nat.le_of_ble_eq_true rfl, Nat.le_of_ble_eq_true rfl⟩) ⟨fun a U g mk q => ⟨q.1, q.2.1, q.2.2.1.calling, NW.same (u := U) (U := U.calling g mk a) rfl q.2.2.2⟩, va_recv hK hP (q := (RX12, TX12, 34)) (ci := 16) (q0 := k12) rfl hk12, fun U hU hW => ⟨rfl, by rw [hU], wd_pre hP hK hD hU hW, hN.warm hW⟩⟩ rfl rfl hl.1 rfl (lv_room (Nat.le_of_ble_eq_true rfl)) dL_law_492 ⟨by omega, by omega⟩) hS (fun q _ h => hFc q h) hFc (fun r11 u t H1 locs ht hvm hw hB hz1 hk1 hS => ?_)
  obtain ⟨c13, w14⟩ := hw
  obtain ⟨hP, hD⟩ := wd_post hFc ht hB
  generalize H1 = H at hP hS ⊢
  obtain ⟨S15, rfl⟩ : ∃ z, z = u := ⟨_, rfl⟩
  have v16 : IV S15 o1 := IV.keep w14 w6.w (xe10.A h_o1) (by decide) (by decide) v7
  have v17 : MV S15 o1 := MV.keep w14 w6.w (xe10.A h_o1) (by decide) (by decide) v8
  have v18 : (RG o2) S15 o1 := RG.keep w14 w6.w (xe10.A h_o1) (by decide) (by decide) v9
  have xe19 : ext S4 S15 := w14.x
  refine lv_istore (lv' := [(7, .int r11), (6, .int r3), (5, .int i), (4, .ref qd), (3, .ref qo), (2, .ref o1), (1, .ref o2), (0, .ref b)]) hx hb dL_law_495 hl (by decide) rfl (fun ls hl => ?_)
  refine lv_goto (tgt := 2924) hx hb dL_law_497 (by decide) ?_
  refine W.widen (k := cells + 40) (n := slots + 1200) (by omega) (by omega) ?_
  exact kk S15 f5 fd H _ ls ⟨hP, hD, w14.w, ((xe10.tr xe19).A h_o2), (xe19.A (xe10.A h_o1)), ((xe10.tr xe19).F h_o1 (by decide) h77), v17, v16, v18⟩ hS (lv_sub hl [2, 3, 4, 5, 6, 7] rfl)
set_option maxHeartbeats 4000000 in
set_option maxRecDepth 100000 in
theorem road_4 {p : Program} {l : Launch} {e : Env} {s : State} {m : MethodId} {below : List Frame} {meth : Method} {c : Code} {b L : Nat} {xs : Nat → Int32} {D : va_G} {cy : Nat → ClassId} {c8 c9 : ClassId} {e0 mi : Nat} {Q : State → Prop} {qo qd o1 o2 : Nat} (C0 : LC p l s m c b L xs D cy c8 c9 e0 mi) (hL9 : L ≤ 2560) {S : wPS} {fo : Nat → Int64} {fd : Nat → UInt64} {H : Heap} {locs : List Loc} {ls : Array Slot} {cells slots : Nat} {i : Int32} (hi : 0 ≤ i.toInt ∧ i.toInt + 5 ≤ L) (hI : LI D cy c8 c9 e0 (fun q => s.heap.size ≤ q) o1 o2 qo qd fo fd S H) (hS : va_S (fun q => s.heap.size ≤ q) s.heap H locs) (hc : cells + 40 ≤ room_1.cells) (hs : slots + 1200 ≤ room_1.slots) (hl : lv_has ls 9 [(5, .int i), (4, .ref qd), (3, .ref qo), (2, .ref o1), (1, .ref o2), (0, .ref b)]) (kk : ∀ (S2 : wPS) (fo2 : Nat → Int64) (fd2 : Nat → UInt64) (H2 : Heap) (locs2 : List Loc) (ls2 : Array Slot), LI D cy c8 c9 e0 (fun q => s.heap.size ≤ q) o1 o2 qo qd fo2 fd2 S2 H2 → va_S (fun q => s.heap.size ≤ q) s.heap H2 locs2 → lv_has ls2 9 [(5, .int i), (4, .ref qd), (3, .ref qo), (2, .ref o1), (1, .ref o2), (0, .ref b)] → W p l e room_1 s m #[Value.ref b] below meth c H2 locs2 (cells + 40) (slots + 1200) Q (F0 m 2924 ls2 [])) : W p l e room_1 s m #[Value.ref b] below meth c H locs cells slots Q (F0 m 500 ls []) := by
  obtain ⟨hx, hb, hml, hown, hts, hX, hbl, hN, hTH, hOU, hKX, hst, hNC⟩ := id C0
  obtain ⟨hP, hD, hW, h_o2, h_o1, h77, hMV, hIV, hR_RG⟩ := hI
  have hK := kX hKX
  have hA : ∀ q : Nat, s.heap.size ≤ q → (fun q : Nat => s.heap.size ≤ q) q := fun _ h => h
  have hbA : ¬ (fun q : Nat => s.heap.size ≤ q) b := Nat.not_le.mpr hbl
  refine lv_aload_n hx hb dL_law_500 rfl (lv_at hl 4 rfl) ?_
  refine lv_aload_n hx hb dL_law_501 rfl (lv_at hl 5 rfl) ?_
  refine lv_iload hx hb dL_law_502 (lv_at hl 0 rfl) ?_
  refine lv_iconst (v := 1) hx hb dL_law_504 (by decide) ?_
  refine lv_iadd hx hb dL_law_505 ?_
  have l32_1 : (1 : Int32).toInt = 1 := rfl
  have i1 : (i + (1 : Int32)).toInt = i.toInt + 1 := t_addr (n := 1) rfl (by omega)
  refine va_sld hx hb hX hbl hbA hS (inb (m := L) rfl (by omega) (by omega)) dL_law_506 ?_
  obtain ⟨y2, ey2⟩ : ∃ z : Int32, xs (i + (1 : Int32)).toNatClampNeg = z := ⟨_, rfl⟩
  rw [ey2]
  refine lv_aload_n hx hb dL_law_507 rfl (lv_at hl 2 rfl) ?_
  have hFc := free_all hD hS hA
  refine va_calli (vx_runSW (As := [.ref o2, .int y2, .ref qo]) (rest := []) ⟨hx, hb, hml, hown, hts⟩ (c_L_isUndercut l hst (e0 := e0) (mi := mi) (D := D) (cy := cy) (c8 := c8) (c9 := c9) qo qd fo fd S _ o2 h_o2 y2 (hW)) (vx_cwSW 3 hts gL_law_L_isUndercut rfl rfl rfl (by decide +kernel) ⟨Nat.le_of_ble_eq_true rfl, Nat.le_of_ble_eq_true rfl⟩) ⟨fun a U g mk q => ⟨q.1, q.2.1, q.2.2.1.calling, NW.same (u := U) (U := U.calling g mk a) rfl q.2.2.2.1, q.2.2.2.2.1.calling, q.2.2.2.2.2.1.calling, q.2.2.2.2.2.2.calling⟩, fun U hU hW => ⟨rfl, by rw [hU], wx_pre hP hKX hD hU hW, hN.warm hW, th_pre hTH hS hFc hU hW, ou_pre hOU hS hFc hU hW, hNC.moved hW.alike⟩⟩ rfl rfl hl.1 rfl (lv_room (Nat.le_of_ble_eq_true rfl)) dL_law_508 ⟨by omega, by omega⟩) hS (fun q _ h => hFc q h) hFc (fun r3 u t H1 locs ht hvm hw hB hz1 hk1 hS => ?_)
  obtain ⟨S4, f5⟩ := u
  have w6 := hw
  obtain ⟨hP, hD⟩ := wx_post hFc ht hB
  generalize H1 = H at hP hS ⊢
  have w6 : stp ([] : List (Nat × Nat)) [] [] S S4 := w6
  have v7 : IV S4 o1 := IV.keep w6 hW h_o1 (by decide) (by decide) hIV
  have v8 : MV S4 o1 := MV.keep w6 hW h_o1 (by decide) (by decide) hMV
  have v9 : (RG o2) S4 o1 := RG.keep w6 hW h_o1 (by decide) (by decide) hR_RG
  have xe10 : ext S S4 := w6.x
  refine lv_istore (lv' := [(6, .int r3), (5, .int i), (4, .ref qd), (3, .ref qo), (2, .ref o1), (1, .ref o2), (0, .ref b)]) hx hb dL_law_511 hl (by decide) rfl (fun ls hl => ?_)
  refine lv_aload_n hx hb dL_law_513 rfl (lv_at hl 4 rfl) ?_
  refine lv_aload_n hx hb dL_law_514 rfl (lv_at hl 6 rfl) ?_
  refine lv_iload hx hb dL_law_515 (lv_at hl 1 rfl) ?_
  refine lv_iconst (v := 1) hx hb dL_law_517 (by decide) ?_
  refine lv_iadd hx hb dL_law_518 ?_
  refine va_sld hx hb hX hbl hbA hS (inb (m := L) rfl (by omega) (by omega)) dL_law_519 ?_
  rw [ey2]
  have hFc := free_all hD hS hA
  obtain ⟨k12, gk12, hk12⟩ := wGt (cy := cy) (XO c8 c9 qo qd f5 fd) S4 (xe10.A h_o1).1 (xe10.A h_o1).2.1
  refine va_calli (va_runV (As := [.int y2]) (rest := []) ⟨hx, hb, hml, hown, hts⟩ (c_X12_isUndercut l (cy := cy) (X := (XO c8 c9 qo qd f5 fd)) (D := D) S4 _ o1 (xe10.A h_o1) y2 (w6.w)) (cwV 1 hts gL_law_X12_isUndercut rfl rfl rfl hd_X12_isUndercut ⟨Nat.le_of_ble_eq_true rfl, Nat.le_of_ble_eq_true rfl⟩) ⟨fun a U g mk q => ⟨q.1, q.2.1, q.2.2.1.calling, NW.same (u := U) (U := U.calling g mk a) rfl q.2.2.2⟩, va_recv hK hP (q := (RX12, TX12, 34)) (ci := 16) (q0 := k12) rfl hk12, fun U hU hW => ⟨rfl, by rw [hU], wd_pre hP hK hD hU hW, hN.warm hW⟩⟩ rfl rfl hl.1 rfl (lv_room (Nat.le_of_ble_eq_true rfl)) dL_law_520 ⟨by omega, by omega⟩) hS (fun q _ h => hFc q h) hFc (fun r11 u t H1 locs ht hvm hw hB hz1 hk1 hS => ?_)
  obtain ⟨c13, w14, y15⟩ := hw
  obtain ⟨hP, hD⟩ := wd_post hFc ht hB
  generalize H1 = H at hP hS ⊢
  obtain ⟨S16, rfl⟩ : ∃ z, z = u := ⟨_, rfl⟩
  have v17 : IV S16 o1 := IV.keep w14 w6.w (xe10.A h_o1) (by decide) (by decide) v7
  have v18 : MV S16 o1 := MV.keep w14 w6.w (xe10.A h_o1) (by decide) (by decide) v8
  have v19 : (RG o2) S16 o1 := RG.keep w14 w6.w (xe10.A h_o1) (by decide) (by decide) v9
  have xe20 : ext S4 S16 := w14.x
  refine lv_istore (lv' := [(7, .int r11), (6, .int r3), (5, .int i), (4, .ref qd), (3, .ref qo), (2, .ref o1), (1, .ref o2), (0, .ref b)]) hx hb dL_law_523 hl (by decide) rfl (fun ls hl => ?_)
  refine lv_goto (tgt := 2924) hx hb dL_law_525 (by decide) ?_
  refine W.widen (k := cells + 40) (n := slots + 1200) (by omega) (by omega) ?_
  exact kk S16 f5 fd H _ ls ⟨hP, hD, w14.w, ((xe10.tr xe20).A h_o2), (xe20.A (xe10.A h_o1)), ((xe10.tr xe20).F h_o1 (by decide) h77), v18, v17, v19⟩ hS (lv_sub hl [2, 3, 4, 5, 6, 7] rfl)
set_option maxHeartbeats 4000000 in
set_option maxRecDepth 100000 in
theorem road_5 {p : Program} {l : Launch} {e : Env} {s : State} {m : MethodId} {below : List Frame} {meth : Method} {c : Code} {b L : Nat} {xs : Nat → Int32} {D : va_G} {cy : Nat → ClassId} {c8 c9 : ClassId} {e0 mi : Nat} {Q : State → Prop} {qo qd o1 o2 : Nat} (C0 : LC p l s m c b L xs D cy c8 c9 e0 mi) (hL9 : L ≤ 2560) {S : wPS} {fo : Nat → Int64} {fd : Nat → UInt64} {H : Heap} {locs : List Loc} {ls : Array Slot} {cells slots : Nat} {i : Int32} (hi : 0 ≤ i.toInt ∧ i.toInt + 5 ≤ L) (hI : LI D cy c8 c9 e0 (fun q => s.heap.size ≤ q) o1 o2 qo qd fo fd S H) (hS : va_S (fun q => s.heap.size ≤ q) s.heap H locs) (hc : cells + 40 ≤ room_1.cells) (hs : slots + 1200 ≤ room_1.slots) (hl : lv_has ls 9 [(5, .int i), (4, .ref qd), (3, .ref qo), (2, .ref o1), (1, .ref o2), (0, .ref b)]) (kk : ∀ (S2 : wPS) (fo2 : Nat → Int64) (fd2 : Nat → UInt64) (H2 : Heap) (locs2 : List Loc) (ls2 : Array Slot), LI D cy c8 c9 e0 (fun q => s.heap.size ≤ q) o1 o2 qo qd fo2 fd2 S2 H2 → va_S (fun q => s.heap.size ≤ q) s.heap H2 locs2 → lv_has ls2 9 [(5, .int i), (4, .ref qd), (3, .ref qo), (2, .ref o1), (1, .ref o2), (0, .ref b)] → W p l e room_1 s m #[Value.ref b] below meth c H2 locs2 (cells + 40) (slots + 1200) Q (F0 m 2924 ls2 [])) : W p l e room_1 s m #[Value.ref b] below meth c H locs cells slots Q (F0 m 528 ls []) := by
  obtain ⟨hx, hb, hml, hown, hts, hX, hbl, hN, hTH, hOU, hKX, hst, hNC⟩ := id C0
  obtain ⟨hP, hD, hW, h_o2, h_o1, h77, hMV, hIV, hR_RG⟩ := hI
  have hK := kX hKX
  have hA : ∀ q : Nat, s.heap.size ≤ q → (fun q : Nat => s.heap.size ≤ q) q := fun _ h => h
  have hbA : ¬ (fun q : Nat => s.heap.size ≤ q) b := Nat.not_le.mpr hbl
  refine lv_aload_n hx hb dL_law_528 rfl (lv_at hl 4 rfl) ?_
  refine lv_aload_n hx hb dL_law_529 rfl (lv_at hl 5 rfl) ?_
  refine lv_iload hx hb dL_law_530 (lv_at hl 0 rfl) ?_
  refine lv_iconst (v := 1) hx hb dL_law_532 (by decide) ?_
  refine lv_iadd hx hb dL_law_533 ?_
  have l32_1 : (1 : Int32).toInt = 1 := rfl
  have i1 : (i + (1 : Int32)).toInt = i.toInt + 1 := t_addr (n := 1) rfl (by omega)
  refine va_sld hx hb hX hbl hbA hS (inb (m := L) rfl (by omega) (by omega)) dL_law_534 ?_
  obtain ⟨y2, ey2⟩ : ∃ z : Int32, xs (i + (1 : Int32)).toNatClampNeg = z := ⟨_, rfl⟩
  rw [ey2]
  refine lv_aload_n hx hb dL_law_535 rfl (lv_at hl 2 rfl) ?_
  have hFc := free_all hD hS hA
  refine va_calli (vx_runSW (As := [.ref o2, .int y2, .ref qo]) (rest := []) ⟨hx, hb, hml, hown, hts⟩ (c_L_isSharp l hst (e0 := e0) (mi := mi) (D := D) (cy := cy) (c8 := c8) (c9 := c9) qo qd fo fd S _ o2 h_o2 y2 (hW)) (vx_cwSW 3 hts gL_law_L_isSharp rfl rfl rfl (by decide +kernel) ⟨Nat.le_of_ble_eq_true rfl, Nat.le_of_ble_eq_true rfl⟩) ⟨fun a U g mk q => ⟨q.1, q.2.1, q.2.2.1.calling, NW.same (u := U) (U := U.calling g mk a) rfl q.2.2.2.1, q.2.2.2.2.1.calling, q.2.2.2.2.2.1.calling, q.2.2.2.2.2.2.calling⟩, fun U hU hW => ⟨rfl, by rw [hU], wx_pre hP hKX hD hU hW, hN.warm hW, th_pre hTH hS hFc hU hW, ou_pre hOU hS hFc hU hW, hNC.moved hW.alike⟩⟩ rfl rfl hl.1 rfl (lv_room (Nat.le_of_ble_eq_true rfl)) dL_law_536 ⟨by omega, by omega⟩) hS (fun q _ h => hFc q h) hFc (fun r3 u t H1 locs ht hvm hw hB hz1 hk1 hS => ?_)
  obtain ⟨S4, f5⟩ := u
  have w6 := hw
  obtain ⟨hP, hD⟩ := wx_post hFc ht hB
  generalize H1 = H at hP hS ⊢
  have w6 : stp ([] : List (Nat × Nat)) [] [] S S4 := w6
  have v7 : IV S4 o1 := IV.keep w6 hW h_o1 (by decide) (by decide) hIV
  have v8 : MV S4 o1 := MV.keep w6 hW h_o1 (by decide) (by decide) hMV
  have v9 : (RG o2) S4 o1 := RG.keep w6 hW h_o1 (by decide) (by decide) hR_RG
  have xe10 : ext S S4 := w6.x
  refine lv_istore (lv' := [(6, .int r3), (5, .int i), (4, .ref qd), (3, .ref qo), (2, .ref o1), (1, .ref o2), (0, .ref b)]) hx hb dL_law_539 hl (by decide) rfl (fun ls hl => ?_)
  refine lv_aload_n hx hb dL_law_541 rfl (lv_at hl 4 rfl) ?_
  refine lv_aload_n hx hb dL_law_542 rfl (lv_at hl 6 rfl) ?_
  refine lv_iload hx hb dL_law_543 (lv_at hl 1 rfl) ?_
  refine lv_iconst (v := 1) hx hb dL_law_545 (by decide) ?_
  refine lv_iadd hx hb dL_law_546 ?_
  refine va_sld hx hb hX hbl hbA hS (inb (m := L) rfl (by omega) (by omega)) dL_law_547 ?_
  rw [ey2]
  have hFc := free_all hD hS hA
  obtain ⟨k12, gk12, hk12⟩ := wGt (cy := cy) (XO c8 c9 qo qd f5 fd) S4 (xe10.A h_o1).1 (xe10.A h_o1).2.1
  refine va_calli (va_runV (As := [.int y2]) (rest := []) ⟨hx, hb, hml, hown, hts⟩ (c_X12_isSharp l (cy := cy) (X := (XO c8 c9 qo qd f5 fd)) (D := D) S4 _ o1 (xe10.A h_o1) y2 (w6.w)) (cwV 1 hts gL_law_X12_isSharp rfl rfl rfl hd_X12_isSharp ⟨Nat.le_of_ble_eq_true rfl, Nat.le_of_ble_eq_true rfl⟩) ⟨fun a U g mk q => ⟨q.1, q.2.1, q.2.2.1.calling, NW.same (u := U) (U := U.calling g mk a) rfl q.2.2.2⟩, va_recv hK hP (q := (RX12, TX12, 34)) (ci := 16) (q0 := k12) rfl hk12, fun U hU hW => ⟨rfl, by rw [hU], wd_pre hP hK hD hU hW, hN.warm hW⟩⟩ rfl rfl hl.1 rfl (lv_room (Nat.le_of_ble_eq_true rfl)) dL_law_548 ⟨by omega, by omega⟩) hS (fun q _ h => hFc q h) hFc (fun r11 u t H1 locs ht hvm hw hB hz1 hk1 hS => ?_)
  obtain ⟨c13, w14, y15⟩ := hw
  obtain ⟨hP, hD⟩ := wd_post hFc ht hB
  generalize H1 = H at hP hS ⊢
  obtain ⟨S16, rfl⟩ : ∃ z, z = u := ⟨_, rfl⟩
  have v17 : IV S16 o1 := IV.keep w14 w6.w (xe10.A h_o1) (by decide) (by decide) v7
  have v18 : MV S16 o1 := MV.keep w14 w6.w (xe10.A h_o1) (by decide) (by decide) v8
  have v19 : (RG o2) S16 o1 := RG.keep w14 w6.w (xe10.A h_o1) (by decide) (by decide) v9
  have xe20 : ext S4 S16 := w14.x
  refine lv_istore (lv' := [(7, .int r11), (6, .int r3), (5, .int i), (4, .ref qd), (3, .ref qo), (2, .ref o1), (1, .ref o2), (0, .ref b)]) hx hb dL_law_551 hl (by decide) rfl (fun ls hl => ?_)
  refine lv_goto (tgt := 2924) hx hb dL_law_553 (by decide) ?_
  refine W.widen (k := cells + 40) (n := slots + 1200) (by omega) (by omega) ?_
  exact kk S16 f5 fd H _ ls ⟨hP, hD, w14.w, ((xe10.tr xe20).A h_o2), (xe20.A (xe10.A h_o1)), ((xe10.tr xe20).F h_o1 (by decide) h77), v18, v17, v19⟩ hS (lv_sub hl [2, 3, 4, 5, 6, 7] rfl)
set_option maxHeartbeats 4000000 in
set_option maxRecDepth 100000 in
theorem road_6 {p : Program} {l : Launch} {e : Env} {s : State} {m : MethodId} {below : List Frame} {meth : Method} {c : Code} {b L : Nat} {xs : Nat → Int32} {D : va_G} {cy : Nat → ClassId} {c8 c9 : ClassId} {e0 mi : Nat} {Q : State → Prop} {qo qd o1 o2 : Nat} (C0 : LC p l s m c b L xs D cy c8 c9 e0 mi) (hL9 : L ≤ 2560) {S : wPS} {fo : Nat → Int64} {fd : Nat → UInt64} {H : Heap} {locs : List Loc} {ls : Array Slot} {cells slots : Nat} {i : Int32} (hi : 0 ≤ i.toInt ∧ i.toInt + 5 ≤ L) (hI : LI D cy c8 c9 e0 (fun q => s.heap.size ≤ q) o1 o2 qo qd fo fd S H) (hS : va_S (fun q => s.heap.size ≤ q) s.heap H locs) (hc : cells + 40 ≤ room_1.cells) (hs : slots + 1200 ≤ room_1.slots) (hl : lv_has ls 9 [(5, .int i), (4, .ref qd), (3, .ref qo), (2, .ref o1), (1, .ref o2), (0, .ref b)]) (kk : ∀ (S2 : wPS) (fo2 : Nat → Int64) (fd2 : Nat → UInt64) (H2 : Heap) (locs2 : List Loc) (ls2 : Array Slot), LI D cy c8 c9 e0 (fun q => s.heap.size ≤ q) o1 o2 qo qd fo2 fd2 S2 H2 → va_S (fun q => s.heap.size ≤ q) s.heap H2 locs2 → lv_has ls2 9 [(5, .int i), (4, .ref qd), (3, .ref qo), (2, .ref o1), (1, .ref o2), (0, .ref b)] → W p l e room_1 s m #[Value.ref b] below meth c H2 locs2 (cells + 40) (slots + 1200) Q (F0 m 2924 ls2 [])) : W p l e room_1 s m #[Value.ref b] below meth c H locs cells slots Q (F0 m 556 ls []) := by
  obtain ⟨hx, hb, hml, hown, hts, hX, hbl, hN, hTH, hOU, hKX, hst, hNC⟩ := id C0
  obtain ⟨hP, hD, hW, h_o2, h_o1, h77, hMV, hIV, hR_RG⟩ := hI
  have hK := kX hKX
  have hA : ∀ q : Nat, s.heap.size ≤ q → (fun q : Nat => s.heap.size ≤ q) q := fun _ h => h
  have hbA : ¬ (fun q : Nat => s.heap.size ≤ q) b := Nat.not_le.mpr hbl
  refine lv_aload_n hx hb dL_law_556 rfl (lv_at hl 4 rfl) ?_
  refine lv_aload_n hx hb dL_law_557 rfl (lv_at hl 5 rfl) ?_
  refine lv_iload hx hb dL_law_558 (lv_at hl 0 rfl) ?_
  refine lv_iconst (v := 1) hx hb dL_law_560 (by decide) ?_
  refine lv_iadd hx hb dL_law_561 ?_
  have l32_1 : (1 : Int32).toInt = 1 := rfl
  have i1 : (i + (1 : Int32)).toInt = i.toInt + 1 := t_addr (n := 1) rfl (by omega)
  refine va_sld hx hb hX hbl hbA hS (inb (m := L) rfl (by omega) (by omega)) dL_law_562 ?_
  obtain ⟨y2, ey2⟩ : ∃ z : Int32, xs (i + (1 : Int32)).toNatClampNeg = z := ⟨_, rfl⟩
  rw [ey2]
  refine lv_aload_n hx hb dL_law_563 rfl (lv_at hl 2 rfl) ?_
  have hFc := free_all hD hS hA
  refine va_calli (vx_runSW (As := [.ref o2, .int y2, .ref qo]) (rest := []) ⟨hx, hb, hml, hown, hts⟩ (c_L_fewest l hst (e0 := e0) (mi := mi) (D := D) (cy := cy) (c8 := c8) (c9 := c9) qo qd fo fd S _ o2 h_o2 y2 (hW)) (vx_cwSW 3 hts gL_law_L_fewest rfl rfl rfl (by decide +kernel) ⟨Nat.le_of_ble_eq_true rfl, Nat.le_of_ble_eq_true rfl⟩) ⟨fun a U g mk q => ⟨q.1, q.2.1, q.2.2.1.calling, NW.same (u := U) (U := U.calling g mk a) rfl q.2.2.2.1, q.2.2.2.2.1.calling, q.2.2.2.2.2.1.calling, q.2.2.2.2.2.2.calling⟩, fun U hU hW => ⟨rfl, by rw [hU], wx_pre hP hKX hD hU hW, hN.warm hW, th_pre hTH hS hFc hU hW, ou_pre hOU hS hFc hU hW, hNC.moved hW.alike⟩⟩ rfl rfl hl.1 rfl (lv_room (Nat.le_of_ble_eq_true rfl)) dL_law_564 ⟨by omega, by omega⟩) hS (fun q _ h => hFc q h) hFc (fun r3 u t H1 locs ht hvm hw hB hz1 hk1 hS => ?_)
  obtain ⟨S4, f5⟩ := u
  have w6 := hw
  obtain ⟨hP, hD⟩ := wx_post hFc ht hB
  generalize H1 = H at hP hS ⊢
  have w6 : stp ([] : List (Nat × Nat)) [] [] S S4 := w6
  have v7 : IV S4 o1 := IV.keep w6 hW h_o1 (by decide) (by decide) hIV
  have v8 : MV S4 o1 := MV.keep w6 hW h_o1 (by decide) (by decide) hMV
  have v9 : (RG o2) S4 o1 := RG.keep w6 hW h_o1 (by decide) (by decide) hR_RG
  have xe10 : ext S S4 := w6.x
  refine lv_istore (lv' := [(6, .int r3), (5, .int i), (4, .ref qd), (3, .ref qo), (2, .ref o1), (1, .ref o2), (0, .ref b)]) hx hb dL_law_567 hl (by decide) rfl (fun ls hl => ?_)
  refine lv_aload_n hx hb dL_law_569 rfl (lv_at hl 4 rfl) ?_
  refine lv_aload_n hx hb dL_law_570 rfl (lv_at hl 6 rfl) ?_
  refine lv_iload hx hb dL_law_571 (lv_at hl 1 rfl) ?_
  refine lv_iconst (v := 1) hx hb dL_law_573 (by decide) ?_
  refine lv_iadd hx hb dL_law_574 ?_
  refine va_sld hx hb hX hbl hbA hS (inb (m := L) rfl (by omega) (by omega)) dL_law_575 ?_
  rw [ey2]
  have hFc := free_all hD hS hA
  obtain ⟨k12, gk12, hk12⟩ := wGt (cy := cy) (XO c8 c9 qo qd f5 fd) S4 (xe10.A h_o1).1 (xe10.A h_o1).2.1
  refine va_calli (va_runV (As := [.int y2]) (rest := []) ⟨hx, hb, hml, hown, hts⟩ (c_X12_fewest l (cy := cy) (X := (XO c8 c9 qo qd f5 fd)) (D := D) S4 _ o1 (xe10.A h_o1) y2 (w6.w)) (cwV 1 hts gL_law_X12_fewest rfl rfl rfl hd_X12_fewest ⟨Nat.le_of_ble_eq_true rfl, Nat.le_of_ble_eq_true rfl⟩) ⟨fun a U g mk q => ⟨q.1, q.2.1, q.2.2.1.calling, NW.same (u := U) (U := U.calling g mk a) rfl q.2.2.2⟩, va_recv hK hP (q := (RX12, TX12, 34)) (ci := 16) (q0 := k12) rfl hk12, fun U hU hW => ⟨rfl, by rw [hU], wd_pre hP hK hD hU hW, hN.warm hW⟩⟩ rfl rfl hl.1 rfl (lv_room (Nat.le_of_ble_eq_true rfl)) dL_law_576 ⟨by omega, by omega⟩) hS (fun q _ h => hFc q h) hFc (fun r11 u t H1 locs ht hvm hw hB hz1 hk1 hS => ?_)
  obtain ⟨c13, w14⟩ := hw
  obtain ⟨hP, hD⟩ := wd_post hFc ht hB
  generalize H1 = H at hP hS ⊢
  obtain ⟨S15, rfl⟩ : ∃ z, z = u := ⟨_, rfl⟩
  have v16 : IV S15 o1 := IV.keep w14 w6.w (xe10.A h_o1) (by decide) (by decide) v7
  have v17 : MV S15 o1 := MV.keep w14 w6.w (xe10.A h_o1) (by decide) (by decide) v8
  have v18 : (RG o2) S15 o1 := RG.keep w14 w6.w (xe10.A h_o1) (by decide) (by decide) v9
  have xe19 : ext S4 S15 := w14.x
  refine lv_istore (lv' := [(7, .int r11), (6, .int r3), (5, .int i), (4, .ref qd), (3, .ref qo), (2, .ref o1), (1, .ref o2), (0, .ref b)]) hx hb dL_law_579 hl (by decide) rfl (fun ls hl => ?_)
  refine lv_goto (tgt := 2924) hx hb dL_law_581 (by decide) ?_
  refine W.widen (k := cells + 40) (n := slots + 1200) (by omega) (by omega) ?_
  exact kk S15 f5 fd H _ ls ⟨hP, hD, w14.w, ((xe10.tr xe19).A h_o2), (xe19.A (xe10.A h_o1)), ((xe10.tr xe19).F h_o1 (by decide) h77), v17, v16, v18⟩ hS (lv_sub hl [2, 3, 4, 5, 6, 7] rfl)
set_option maxHeartbeats 4000000 in
set_option maxRecDepth 100000 in
theorem road_7 {p : Program} {l : Launch} {e : Env} {s : State} {m : MethodId} {below : List Frame} {meth : Method} {c : Code} {b L : Nat} {xs : Nat → Int32} {D : va_G} {cy : Nat → ClassId} {c8 c9 : ClassId} {e0 mi : Nat} {Q : State → Prop} {qo qd o1 o2 : Nat} (C0 : LC p l s m c b L xs D cy c8 c9 e0 mi) (hL9 : L ≤ 2560) {S : wPS} {fo : Nat → Int64} {fd : Nat → UInt64} {H : Heap} {locs : List Loc} {ls : Array Slot} {cells slots : Nat} {i : Int32} (hi : 0 ≤ i.toInt ∧ i.toInt + 5 ≤ L) (hI : LI D cy c8 c9 e0 (fun q => s.heap.size ≤ q) o1 o2 qo qd fo fd S H) (hS : va_S (fun q => s.heap.size ≤ q) s.heap H locs) (hc : cells + 40 ≤ room_1.cells) (hs : slots + 1200 ≤ room_1.slots) (hl : lv_has ls 9 [(5, .int i), (4, .ref qd), (3, .ref qo), (2, .ref o1), (1, .ref o2), (0, .ref b)]) (kk : ∀ (S2 : wPS) (fo2 : Nat → Int64) (fd2 : Nat → UInt64) (H2 : Heap) (locs2 : List Loc) (ls2 : Array Slot), LI D cy c8 c9 e0 (fun q => s.heap.size ≤ q) o1 o2 qo qd fo2 fd2 S2 H2 → va_S (fun q => s.heap.size ≤ q) s.heap H2 locs2 → lv_has ls2 9 [(5, .int i), (4, .ref qd), (3, .ref qo), (2, .ref o1), (1, .ref o2), (0, .ref b)] → W p l e room_1 s m #[Value.ref b] below meth c H2 locs2 (cells + 40) (slots + 1200) Q (F0 m 2924 ls2 [])) : W p l e room_1 s m #[Value.ref b] below meth c H locs cells slots Q (F0 m 584 ls []) := by
  obtain ⟨hx, hb, hml, hown, hts, hX, hbl, hN, hTH, hOU, hKX, hst, hNC⟩ := id C0
  obtain ⟨hP, hD, hW, h_o2, h_o1, h77, hMV, hIV, hR_RG⟩ := hI
  have hK := kX hKX
  have hA : ∀ q : Nat, s.heap.size ≤ q → (fun q : Nat => s.heap.size ≤ q) q := fun _ h => h
  have hbA : ¬ (fun q : Nat => s.heap.size ≤ q) b := Nat.not_le.mpr hbl
  refine lv_aload_n hx hb dL_law_584 rfl (lv_at hl 4 rfl) ?_
  refine lv_aload_n hx hb dL_law_585 rfl (lv_at hl 5 rfl) ?_
  refine lv_iload hx hb dL_law_586 (lv_at hl 0 rfl) ?_
  refine lv_iconst (v := 1) hx hb dL_law_588 (by decide) ?_
  refine lv_iadd hx hb dL_law_589 ?_
  have l32_1 : (1 : Int32).toInt = 1 := rfl
  have i1 : (i + (1 : Int32)).toInt = i.toInt + 1 := t_addr (n := 1) rfl (by omega)
  refine va_sld hx hb hX hbl hbA hS (inb (m := L) rfl (by omega) (by omega)) dL_law_590 ?_
  obtain ⟨y2, ey2⟩ : ∃ z : Int32, xs (i + (1 : Int32)).toNatClampNeg = z := ⟨_, rfl⟩
  rw [ey2]
  refine lv_aload_n hx hb dL_law_591 rfl (lv_at hl 5 rfl) ?_
  refine lv_iload hx hb dL_law_592 (lv_at hl 0 rfl) ?_
  refine lv_iconst (v := 2) hx hb dL_law_594 (by decide) ?_
  refine lv_iadd hx hb dL_law_595 ?_
  have l32_2 : (2 : Int32).toInt = 2 := rfl
  have i3 : (i + (2 : Int32)).toInt = i.toInt + 2 := t_addr (n := 2) rfl (by omega)
  refine va_sld hx hb hX hbl hbA hS (inb (m := L) rfl (by omega) (by omega)) dL_law_596 ?_
  obtain ⟨y4, ey4⟩ : ∃ z : Int32, xs (i + (2 : Int32)).toNatClampNeg = z := ⟨_, rfl⟩
  rw [ey4]
  refine lv_aload_n hx hb dL_law_597 rfl (lv_at hl 2 rfl) ?_
  have hFc := free_all hD hS hA
  refine va_calli (vx_runSW (As := [.ref o2, .int y2, .int y4, .ref qo]) (rest := []) ⟨hx, hb, hml, hown, hts⟩ (c_L_doPair l hst (e0 := e0) (mi := mi) (D := D) (cy := cy) (c8 := c8) (c9 := c9) qo qd fo fd S _ o2 h_o2 y2 y4 (hW)) (vx_cwSW 4 hts gL_law_L_doPair rfl rfl rfl (by decide +kernel) ⟨Nat.le_of_ble_eq_true rfl, Nat.le_of_ble_eq_true rfl⟩) ⟨fun a U g mk q => ⟨q.1, q.2.1, q.2.2.1.calling, NW.same (u := U) (U := U.calling g mk a) rfl q.2.2.2.1, q.2.2.2.2.1.calling, q.2.2.2.2.2.1.calling, q.2.2.2.2.2.2.calling⟩, fun U hU hW => ⟨rfl, by rw [hU], wx_pre hP hKX hD hU hW, hN.warm hW, th_pre hTH hS hFc hU hW, ou_pre hOU hS hFc hU hW, hNC.moved hW.alike⟩⟩ rfl rfl hl.1 rfl (lv_room (Nat.le_of_ble_eq_true rfl)) dL_law_598 ⟨by omega, by omega⟩) hS (fun q _ h => hFc q h) hFc (fun r5 u t H1 locs ht hvm hw hB hz1 hk1 hS => ?_)
  obtain ⟨S6, f7⟩ := u
  have w8 := hw
  obtain ⟨hP, hD⟩ := wx_post hFc ht hB
  generalize H1 = H at hP hS ⊢
  have w8 : stp ([] : List (Nat × Nat)) [] [] S S6 := w8
  have v9 : IV S6 o1 := IV.keep w8 hW h_o1 (by decide) (by decide) hIV
  have v10 : MV S6 o1 := MV.keep w8 hW h_o1 (by decide) (by decide) hMV
  have v11 : (RG o2) S6 o1 := RG.keep w8 hW h_o1 (by decide) (by decide) hR_RG
  have xe12 : ext S S6 := w8.x
  refine lv_istore (lv' := [(6, .int r5), (5, .int i), (4, .ref qd), (3, .ref qo), (2, .ref o1), (1, .ref o2), (0, .ref b)]) hx hb dL_law_601 hl (by decide) rfl (fun ls hl => ?_)
  refine lv_aload_n hx hb dL_law_603 rfl (lv_at hl 4 rfl) ?_
  refine lv_aload_n hx hb dL_law_604 rfl (lv_at hl 6 rfl) ?_
  refine lv_iload hx hb dL_law_605 (lv_at hl 1 rfl) ?_
  refine lv_iconst (v := 1) hx hb dL_law_607 (by decide) ?_
  refine lv_iadd hx hb dL_law_608 ?_
  refine va_sld hx hb hX hbl hbA hS (inb (m := L) rfl (by omega) (by omega)) dL_law_609 ?_
  rw [ey2]
  refine lv_aload_n hx hb dL_law_610 rfl (lv_at hl 6 rfl) ?_
  refine lv_iload hx hb dL_law_611 (lv_at hl 1 rfl) ?_
  refine lv_iconst (v := 2) hx hb dL_law_613 (by decide) ?_
  refine lv_iadd hx hb dL_law_614 ?_
  refine va_sld hx hb hX hbl hbA hS (inb (m := L) rfl (by omega) (by omega)) dL_law_615 ?_
  rw [ey4]
  have hFc := free_all hD hS hA
  obtain ⟨k14, gk14, hk14⟩ := wGt (cy := cy) (XO c8 c9 qo qd f7 fd) S6 (xe12.A h_o1).1 (xe12.A h_o1).2.1
  refine va_calli (va_runV (As := [.int y2, .int y4]) (rest := []) ⟨hx, hb, hml, hown, hts⟩ (c_X12_doPair l (cy := cy) (X := (XO c8 c9 qo qd f7 fd)) (D := D) S6 _ o1 (xe12.A h_o1) y2 y4 (w8.w)) (cwV 2 hts gL_law_X12_doPair rfl rfl rfl hd_X12_doPair ⟨Nat.le_of_ble_eq_true rfl, Nat.le_of_ble_eq_true rfl⟩) ⟨fun a U g mk q => ⟨q.1, q.2.1, q.2.2.1.calling, NW.same (u := U) (U := U.calling g mk a) rfl q.2.2.2⟩, va_recv hK hP (q := (RX12, TX12, 34)) (ci := 16) (q0 := k14) rfl hk14, fun U hU hW => ⟨rfl, by rw [hU], wd_pre hP hK hD hU hW, hN.warm hW⟩⟩ rfl rfl hl.1 rfl (lv_room (Nat.le_of_ble_eq_true rfl)) dL_law_616 ⟨by omega, by omega⟩) hS (fun q _ h => hFc q h) hFc (fun r13 u t H1 locs ht hvm hw hB hz1 hk1 hS => ?_)
  obtain ⟨c15, w16, y17⟩ := hw
  obtain ⟨hP, hD⟩ := wd_post hFc ht hB
  generalize H1 = H at hP hS ⊢
  obtain ⟨S18, rfl⟩ : ∃ z, z = u := ⟨_, rfl⟩
  have v19 : IV S18 o1 := IV.keep w16 w8.w (xe12.A h_o1) (by decide) (by decide) v9
  have v20 : MV S18 o1 := MV.keep w16 w8.w (xe12.A h_o1) (by decide) (by decide) v10
  have v21 : (RG o2) S18 o1 := RG.keep w16 w8.w (xe12.A h_o1) (by decide) (by decide) v11
  have xe22 : ext S6 S18 := w16.x
  refine lv_istore (lv' := [(7, .int r13), (6, .int r5), (5, .int i), (4, .ref qd), (3, .ref qo), (2, .ref o1), (1, .ref o2), (0, .ref b)]) hx hb dL_law_619 hl (by decide) rfl (fun ls hl => ?_)
  refine lv_goto (tgt := 2924) hx hb dL_law_621 (by decide) ?_
  refine W.widen (k := cells + 40) (n := slots + 1200) (by omega) (by omega) ?_
  exact kk S18 f7 fd H _ ls ⟨hP, hD, w16.w, ((xe12.tr xe22).A h_o2), (xe22.A (xe12.A h_o1)), ((xe12.tr xe22).F h_o1 (by decide) h77), v20, v19, v21⟩ hS (lv_sub hl [2, 3, 4, 5, 6, 7] rfl)
set_option maxHeartbeats 4000000 in
set_option maxRecDepth 100000 in
theorem road_8 {p : Program} {l : Launch} {e : Env} {s : State} {m : MethodId} {below : List Frame} {meth : Method} {c : Code} {b L : Nat} {xs : Nat → Int32} {D : va_G} {cy : Nat → ClassId} {c8 c9 : ClassId} {e0 mi : Nat} {Q : State → Prop} {qo qd o1 o2 : Nat} (C0 : LC p l s m c b L xs D cy c8 c9 e0 mi) (hL9 : L ≤ 2560) {S : wPS} {fo : Nat → Int64} {fd : Nat → UInt64} {H : Heap} {locs : List Loc} {ls : Array Slot} {cells slots : Nat} {i : Int32} (hi : 0 ≤ i.toInt ∧ i.toInt + 5 ≤ L) (hI : LI D cy c8 c9 e0 (fun q => s.heap.size ≤ q) o1 o2 qo qd fo fd S H) (hS : va_S (fun q => s.heap.size ≤ q) s.heap H locs) (hc : cells + 40 ≤ room_1.cells) (hs : slots + 1200 ≤ room_1.slots) (hl : lv_has ls 9 [(5, .int i), (4, .ref qd), (3, .ref qo), (2, .ref o1), (1, .ref o2), (0, .ref b)]) (kk : ∀ (S2 : wPS) (fo2 : Nat → Int64) (fd2 : Nat → UInt64) (H2 : Heap) (locs2 : List Loc) (ls2 : Array Slot), LI D cy c8 c9 e0 (fun q => s.heap.size ≤ q) o1 o2 qo qd fo2 fd2 S2 H2 → va_S (fun q => s.heap.size ≤ q) s.heap H2 locs2 → lv_has ls2 9 [(5, .int i), (4, .ref qd), (3, .ref qo), (2, .ref o1), (1, .ref o2), (0, .ref b)] → W p l e room_1 s m #[Value.ref b] below meth c H2 locs2 (cells + 40) (slots + 1200) Q (F0 m 2924 ls2 [])) : W p l e room_1 s m #[Value.ref b] below meth c H locs cells slots Q (F0 m 624 ls []) := by
  obtain ⟨hx, hb, hml, hown, hts, hX, hbl, hN, hTH, hOU, hKX, hst, hNC⟩ := id C0
  obtain ⟨hP, hD, hW, h_o2, h_o1, h77, hMV, hIV, hR_RG⟩ := hI
  have hK := kX hKX
  have hA : ∀ q : Nat, s.heap.size ≤ q → (fun q : Nat => s.heap.size ≤ q) q := fun _ h => h
  have hbA : ¬ (fun q : Nat => s.heap.size ≤ q) b := Nat.not_le.mpr hbl
  refine lv_aload_n hx hb dL_law_624 rfl (lv_at hl 4 rfl) ?_
  refine lv_aload_n hx hb dL_law_625 rfl (lv_at hl 5 rfl) ?_
  refine lv_iload hx hb dL_law_626 (lv_at hl 0 rfl) ?_
  refine lv_iconst (v := 1) hx hb dL_law_628 (by decide) ?_
  refine lv_iadd hx hb dL_law_629 ?_
  have l32_1 : (1 : Int32).toInt = 1 := rfl
  have i1 : (i + (1 : Int32)).toInt = i.toInt + 1 := t_addr (n := 1) rfl (by omega)
  refine va_sld hx hb hX hbl hbA hS (inb (m := L) rfl (by omega) (by omega)) dL_law_630 ?_
  obtain ⟨y2, ey2⟩ : ∃ z : Int32, xs (i + (1 : Int32)).toNatClampNeg = z := ⟨_, rfl⟩
  rw [ey2]
  refine lv_aload_n hx hb dL_law_631 rfl (lv_at hl 5 rfl) ?_
  refine lv_iload hx hb dL_law_632 (lv_at hl 0 rfl) ?_
  refine lv_iconst (v := 2) hx hb dL_law_634 (by decide) ?_
  refine lv_iadd hx hb dL_law_635 ?_
  have l32_2 : (2 : Int32).toInt = 2 := rfl
  have i3 : (i + (2 : Int32)).toInt = i.toInt + 2 := t_addr (n := 2) rfl (by omega)
  refine va_sld hx hb hX hbl hbA hS (inb (m := L) rfl (by omega) (by omega)) dL_law_636 ?_
  obtain ⟨y4, ey4⟩ : ∃ z : Int32, xs (i + (2 : Int32)).toNatClampNeg = z := ⟨_, rfl⟩
  rw [ey4]
  refine lv_aload_n hx hb dL_law_637 rfl (lv_at hl 2 rfl) ?_
  have hFc := free_all hD hS hA
  refine va_calli (vx_runSW (As := [.ref o2, .int y2, .int y4, .ref qo]) (rest := []) ⟨hx, hb, hml, hown, hts⟩ (c_L_contact l hst (e0 := e0) (mi := mi) (D := D) (cy := cy) (c8 := c8) (c9 := c9) qo qd fo fd S _ o2 h_o2 y2 y4 (hW)) (vx_cwSW 4 hts gL_law_L_contact rfl rfl rfl (by decide +kernel) ⟨Nat.le_of_ble_eq_true rfl, Nat.le_of_ble_eq_true rfl⟩) ⟨fun a U g mk q => ⟨q.1, q.2.1, q.2.2.1.calling, NW.same (u := U) (U := U.calling g mk a) rfl q.2.2.2.1, q.2.2.2.2.1.calling, q.2.2.2.2.2.1.calling, q.2.2.2.2.2.2.calling⟩, fun U hU hW => ⟨rfl, by rw [hU], wx_pre hP hKX hD hU hW, hN.warm hW, th_pre hTH hS hFc hU hW, ou_pre hOU hS hFc hU hW, hNC.moved hW.alike⟩⟩ rfl rfl hl.1 rfl (lv_room (Nat.le_of_ble_eq_true rfl)) dL_law_638 ⟨by omega, by omega⟩) hS (fun q _ h => hFc q h) hFc (fun r5 u t H1 locs ht hvm hw hB hz1 hk1 hS => ?_)
  obtain ⟨S6, f7⟩ := u
  have w8 := hw
  obtain ⟨hP, hD⟩ := wx_post hFc ht hB
  generalize H1 = H at hP hS ⊢
  have w8 : stp ([] : List (Nat × Nat)) [] [] S S6 := w8
  have v9 : IV S6 o1 := IV.keep w8 hW h_o1 (by decide) (by decide) hIV
  have v10 : MV S6 o1 := MV.keep w8 hW h_o1 (by decide) (by decide) hMV
  have v11 : (RG o2) S6 o1 := RG.keep w8 hW h_o1 (by decide) (by decide) hR_RG
  have xe12 : ext S S6 := w8.x
  refine lv_istore (lv' := [(6, .int r5), (5, .int i), (4, .ref qd), (3, .ref qo), (2, .ref o1), (1, .ref o2), (0, .ref b)]) hx hb dL_law_641 hl (by decide) rfl (fun ls hl => ?_)
  refine lv_aload_n hx hb dL_law_643 rfl (lv_at hl 4 rfl) ?_
  refine lv_aload_n hx hb dL_law_644 rfl (lv_at hl 6 rfl) ?_
  refine lv_iload hx hb dL_law_645 (lv_at hl 1 rfl) ?_
  refine lv_iconst (v := 1) hx hb dL_law_647 (by decide) ?_
  refine lv_iadd hx hb dL_law_648 ?_
  refine va_sld hx hb hX hbl hbA hS (inb (m := L) rfl (by omega) (by omega)) dL_law_649 ?_
  rw [ey2]
  refine lv_aload_n hx hb dL_law_650 rfl (lv_at hl 6 rfl) ?_
  refine lv_iload hx hb dL_law_651 (lv_at hl 1 rfl) ?_
  refine lv_iconst (v := 2) hx hb dL_law_653 (by decide) ?_
  refine lv_iadd hx hb dL_law_654 ?_
  refine va_sld hx hb hX hbl hbA hS (inb (m := L) rfl (by omega) (by omega)) dL_law_655 ?_
  rw [ey4]
  have hFc := free_all hD hS hA
  obtain ⟨k14, gk14, hk14⟩ := wGt (cy := cy) (XO c8 c9 qo qd f7 fd) S6 (xe12.A h_o1).1 (xe12.A h_o1).2.1
  refine va_calll (va_runV (As := [.int y2, .int y4]) (rest := []) ⟨hx, hb, hml, hown, hts⟩ (c_X12_contact l (cy := cy) (X := (XO c8 c9 qo qd f7 fd)) (D := D) S6 _ o1 (xe12.A h_o1) y2 y4 (w8.w)) (cwV 2 hts gL_law_X12_contact rfl rfl rfl hd_X12_contact ⟨Nat.le_of_ble_eq_true rfl, Nat.le_of_ble_eq_true rfl⟩) ⟨fun a U g mk q => ⟨q.1, q.2.1, q.2.2.1.calling, NW.same (u := U) (U := U.calling g mk a) rfl q.2.2.2⟩, va_recv hK hP (q := (RX12, TX12, 34)) (ci := 16) (q0 := k14) rfl hk14, fun U hU hW => ⟨rfl, by rw [hU], wd_pre hP hK hD hU hW, hN.warm hW⟩⟩ rfl rfl hl.1 rfl (lv_room (Nat.le_of_ble_eq_true rfl)) dL_law_656 ⟨by omega, by omega⟩) hS (fun q _ h => hFc q h) hFc (fun r13 u t H1 locs ht hvm hw hB hz1 hk1 hS => ?_)
  obtain ⟨c15, w16⟩ := hw
  obtain ⟨hP, hD⟩ := wd_post hFc ht hB
  generalize H1 = H at hP hS ⊢
  obtain ⟨S17, rfl⟩ : ∃ z, z = u := ⟨_, rfl⟩
  have v18 : IV S17 o1 := IV.keep w16 w8.w (xe12.A h_o1) (by decide) (by decide) v9
  have v19 : MV S17 o1 := MV.keep w16 w8.w (xe12.A h_o1) (by decide) (by decide) v10
  have v20 : (RG o2) S17 o1 := RG.keep w16 w8.w (xe12.A h_o1) (by decide) (by decide) v11
  have xe21 : ext S6 S17 := w16.x
  refine lv_lstore (lv' := [(7, .long r13), (6, .int r5), (5, .int i), (4, .ref qd), (3, .ref qo), (2, .ref o1), (1, .ref o2), (0, .ref b)]) hx hb dL_law_659 hl (by decide) rfl (fun ls hl => ?_)
  refine lv_goto (tgt := 2924) hx hb dL_law_661 (by decide) ?_
  refine W.widen (k := cells + 40) (n := slots + 1200) (by omega) (by omega) ?_
  exact kk S17 f7 fd H _ ls ⟨hP, hD, w16.w, ((xe12.tr xe21).A h_o2), (xe21.A (xe12.A h_o1)), ((xe12.tr xe21).F h_o1 (by decide) h77), v19, v18, v20⟩ hS (lv_sub hl [2, 3, 4, 5, 6, 7] rfl)
set_option maxHeartbeats 4000000 in
set_option maxRecDepth 100000 in
theorem road_9 {p : Program} {l : Launch} {e : Env} {s : State} {m : MethodId} {below : List Frame} {meth : Method} {c : Code} {b L : Nat} {xs : Nat → Int32} {D : va_G} {cy : Nat → ClassId} {c8 c9 : ClassId} {e0 mi : Nat} {Q : State → Prop} {qo qd o1 o2 : Nat} (C0 : LC p l s m c b L xs D cy c8 c9 e0 mi) (hL9 : L ≤ 2560) {S : wPS} {fo : Nat → Int64} {fd : Nat → UInt64} {H : Heap} {locs : List Loc} {ls : Array Slot} {cells slots : Nat} {i : Int32} (hi : 0 ≤ i.toInt ∧ i.toInt + 5 ≤ L) (hI : LI D cy c8 c9 e0 (fun q => s.heap.size ≤ q) o1 o2 qo qd fo fd S H) (hS : va_S (fun q => s.heap.size ≤ q) s.heap H locs) (hc : cells + 40 ≤ room_1.cells) (hs : slots + 1200 ≤ room_1.slots) (hl : lv_has ls 9 [(5, .int i), (4, .ref qd), (3, .ref qo), (2, .ref o1), (1, .ref o2), (0, .ref b)]) (kk : ∀ (S2 : wPS) (fo2 : Nat → Int64) (fd2 : Nat → UInt64) (H2 : Heap) (locs2 : List Loc) (ls2 : Array Slot), LI D cy c8 c9 e0 (fun q => s.heap.size ≤ q) o1 o2 qo qd fo2 fd2 S2 H2 → va_S (fun q => s.heap.size ≤ q) s.heap H2 locs2 → lv_has ls2 9 [(5, .int i), (4, .ref qd), (3, .ref qo), (2, .ref o1), (1, .ref o2), (0, .ref b)] → W p l e room_1 s m #[Value.ref b] below meth c H2 locs2 (cells + 40) (slots + 1200) Q (F0 m 2924 ls2 [])) : W p l e room_1 s m #[Value.ref b] below meth c H locs cells slots Q (F0 m 664 ls []) := by
  obtain ⟨hx, hb, hml, hown, hts, hX, hbl, hN, hTH, hOU, hKX, hst, hNC⟩ := id C0
  obtain ⟨hP, hD, hW, h_o2, h_o1, h77, hMV, hIV, hR_RG⟩ := hI
  have hK := kX hKX
  have hA : ∀ q : Nat, s.heap.size ≤ q → (fun q : Nat => s.heap.size ≤ q) q := fun _ h => h
  have hbA : ¬ (fun q : Nat => s.heap.size ≤ q) b := Nat.not_le.mpr hbl
  refine lv_aload_n hx hb dL_law_664 rfl (lv_at hl 4 rfl) ?_
  refine lv_aload_n hx hb dL_law_665 rfl (lv_at hl 5 rfl) ?_
  refine lv_iload hx hb dL_law_666 (lv_at hl 0 rfl) ?_
  refine lv_iconst (v := 1) hx hb dL_law_668 (by decide) ?_
  refine lv_iadd hx hb dL_law_669 ?_
  have l32_1 : (1 : Int32).toInt = 1 := rfl
  have i1 : (i + (1 : Int32)).toInt = i.toInt + 1 := t_addr (n := 1) rfl (by omega)
  refine va_sld hx hb hX hbl hbA hS (inb (m := L) rfl (by omega) (by omega)) dL_law_670 ?_
  obtain ⟨y2, ey2⟩ : ∃ z : Int32, xs (i + (1 : Int32)).toNatClampNeg = z := ⟨_, rfl⟩
  rw [ey2]
  refine lv_aload_n hx hb dL_law_671 rfl (lv_at hl 5 rfl) ?_
  refine lv_iload hx hb dL_law_672 (lv_at hl 0 rfl) ?_
  refine lv_iconst (v := 2) hx hb dL_law_674 (by decide) ?_
  refine lv_iadd hx hb dL_law_675 ?_
  have l32_2 : (2 : Int32).toInt = 2 := rfl
  have i3 : (i + (2 : Int32)).toInt = i.toInt + 2 := t_addr (n := 2) rfl (by omega)
  refine va_sld hx hb hX hbl hbA hS (inb (m := L) rfl (by omega) (by omega)) dL_law_676 ?_
  obtain ⟨y4, ey4⟩ : ∃ z : Int32, xs (i + (2 : Int32)).toNatClampNeg = z := ⟨_, rfl⟩
  rw [ey4]
  refine lv_aload_n hx hb dL_law_677 rfl (lv_at hl 2 rfl) ?_
  have hFc := free_all hD hS hA
  refine va_calli (vx_runSW (As := [.ref o2, .int y2, .int y4, .ref qo]) (rest := []) ⟨hx, hb, hml, hown, hts⟩ (c_L_overlap l hst (e0 := e0) (mi := mi) (D := D) (cy := cy) (c8 := c8) (c9 := c9) qo qd fo fd S _ o2 h_o2 y2 y4 (hW)) (vx_cwSW 4 hts gL_law_L_overlap rfl rfl rfl (by decide +kernel) ⟨Nat.le_of_ble_eq_true rfl, Nat.le_of_ble_eq_true rfl⟩) ⟨fun a U g mk q => ⟨q.1, q.2.1, q.2.2.1.calling, NW.same (u := U) (U := U.calling g mk a) rfl q.2.2.2.1, q.2.2.2.2.1.calling, q.2.2.2.2.2.1.calling, q.2.2.2.2.2.2.calling⟩, fun U hU hW => ⟨rfl, by rw [hU], wx_pre hP hKX hD hU hW, hN.warm hW, th_pre hTH hS hFc hU hW, ou_pre hOU hS hFc hU hW, hNC.moved hW.alike⟩⟩ rfl rfl hl.1 rfl (lv_room (Nat.le_of_ble_eq_true rfl)) dL_law_678 ⟨by omega, by omega⟩) hS (fun q _ h => hFc q h) hFc (fun r5 u t H1 locs ht hvm hw hB hz1 hk1 hS => ?_)
  obtain ⟨S6, f7⟩ := u
  have w8 := hw
  obtain ⟨hP, hD⟩ := wx_post hFc ht hB
  generalize H1 = H at hP hS ⊢
  have w8 : stp ([] : List (Nat × Nat)) [] [] S S6 := w8
  have v9 : IV S6 o1 := IV.keep w8 hW h_o1 (by decide) (by decide) hIV
  have v10 : MV S6 o1 := MV.keep w8 hW h_o1 (by decide) (by decide) hMV
  have v11 : (RG o2) S6 o1 := RG.keep w8 hW h_o1 (by decide) (by decide) hR_RG
  have xe12 : ext S S6 := w8.x
  refine lv_istore (lv' := [(6, .int r5), (5, .int i), (4, .ref qd), (3, .ref qo), (2, .ref o1), (1, .ref o2), (0, .ref b)]) hx hb dL_law_681 hl (by decide) rfl (fun ls hl => ?_)
  refine lv_aload_n hx hb dL_law_683 rfl (lv_at hl 4 rfl) ?_
  refine lv_aload_n hx hb dL_law_684 rfl (lv_at hl 6 rfl) ?_
  refine lv_iload hx hb dL_law_685 (lv_at hl 1 rfl) ?_
  refine lv_iconst (v := 1) hx hb dL_law_687 (by decide) ?_
  refine lv_iadd hx hb dL_law_688 ?_
  refine va_sld hx hb hX hbl hbA hS (inb (m := L) rfl (by omega) (by omega)) dL_law_689 ?_
  rw [ey2]
  refine lv_aload_n hx hb dL_law_690 rfl (lv_at hl 6 rfl) ?_
  refine lv_iload hx hb dL_law_691 (lv_at hl 1 rfl) ?_
  refine lv_iconst (v := 2) hx hb dL_law_693 (by decide) ?_
  refine lv_iadd hx hb dL_law_694 ?_
  refine va_sld hx hb hX hbl hbA hS (inb (m := L) rfl (by omega) (by omega)) dL_law_695 ?_
  rw [ey4]
  have hFc := free_all hD hS hA
  obtain ⟨k14, gk14, hk14⟩ := wGt (cy := cy) (XO c8 c9 qo qd f7 fd) S6 (xe12.A h_o1).1 (xe12.A h_o1).2.1
  refine va_calll (va_runV (As := [.int y2, .int y4]) (rest := []) ⟨hx, hb, hml, hown, hts⟩ (c_X12_overlap l (cy := cy) (X := (XO c8 c9 qo qd f7 fd)) (D := D) S6 _ o1 (xe12.A h_o1) y2 y4 (w8.w)) (cwV 2 hts gL_law_X12_overlap rfl rfl rfl hd_X12_overlap ⟨Nat.le_of_ble_eq_true rfl, Nat.le_of_ble_eq_true rfl⟩) ⟨fun a U g mk q => ⟨q.1, q.2.1, q.2.2.1.calling, NW.same (u := U) (U := U.calling g mk a) rfl q.2.2.2⟩, va_recv hK hP (q := (RX12, TX12, 34)) (ci := 16) (q0 := k14) rfl hk14, fun U hU hW => ⟨rfl, by rw [hU], wd_pre hP hK hD hU hW, hN.warm hW⟩⟩ rfl rfl hl.1 rfl (lv_room (Nat.le_of_ble_eq_true rfl)) dL_law_696 ⟨by omega, by omega⟩) hS (fun q _ h => hFc q h) hFc (fun r13 u t H1 locs ht hvm hw hB hz1 hk1 hS => ?_)
  obtain ⟨c15, w16⟩ := hw
  obtain ⟨hP, hD⟩ := wd_post hFc ht hB
  generalize H1 = H at hP hS ⊢
  obtain ⟨S17, rfl⟩ : ∃ z, z = u := ⟨_, rfl⟩
  have v18 : IV S17 o1 := IV.keep w16 w8.w (xe12.A h_o1) (by decide) (by decide) v9
  have v19 : MV S17 o1 := MV.keep w16 w8.w (xe12.A h_o1) (by decide) (by decide) v10
  have v20 : (RG o2) S17 o1 := RG.keep w16 w8.w (xe12.A h_o1) (by decide) (by decide) v11
  have xe21 : ext S6 S17 := w16.x
  refine lv_lstore (lv' := [(7, .long r13), (6, .int r5), (5, .int i), (4, .ref qd), (3, .ref qo), (2, .ref o1), (1, .ref o2), (0, .ref b)]) hx hb dL_law_699 hl (by decide) rfl (fun ls hl => ?_)
  refine lv_goto (tgt := 2924) hx hb dL_law_701 (by decide) ?_
  refine W.widen (k := cells + 40) (n := slots + 1200) (by omega) (by omega) ?_
  exact kk S17 f7 fd H _ ls ⟨hP, hD, w16.w, ((xe12.tr xe21).A h_o2), (xe21.A (xe12.A h_o1)), ((xe12.tr xe21).F h_o1 (by decide) h77), v19, v18, v20⟩ hS (lv_sub hl [2, 3, 4, 5, 6, 7] rfl)
set_option maxHeartbeats 4000000 in
set_option maxRecDepth 100000 in
theorem road_10 {p : Program} {l : Launch} {e : Env} {s : State} {m : MethodId} {below : List Frame} {meth : Method} {c : Code} {b L : Nat} {xs : Nat → Int32} {D : va_G} {cy : Nat → ClassId} {c8 c9 : ClassId} {e0 mi : Nat} {Q : State → Prop} {qo qd o1 o2 : Nat} (C0 : LC p l s m c b L xs D cy c8 c9 e0 mi) (hL9 : L ≤ 2560) {S : wPS} {fo : Nat → Int64} {fd : Nat → UInt64} {H : Heap} {locs : List Loc} {ls : Array Slot} {cells slots : Nat} {i : Int32} (hi : 0 ≤ i.toInt ∧ i.toInt + 5 ≤ L) (hI : LI D cy c8 c9 e0 (fun q => s.heap.size ≤ q) o1 o2 qo qd fo fd S H) (hS : va_S (fun q => s.heap.size ≤ q) s.heap H locs) (hc : cells + 40 ≤ room_1.cells) (hs : slots + 1200 ≤ room_1.slots) (hl : lv_has ls 9 [(5, .int i), (4, .ref qd), (3, .ref qo), (2, .ref o1), (1, .ref o2), (0, .ref b)]) (kk : ∀ (S2 : wPS) (fo2 : Nat → Int64) (fd2 : Nat → UInt64) (H2 : Heap) (locs2 : List Loc) (ls2 : Array Slot), LI D cy c8 c9 e0 (fun q => s.heap.size ≤ q) o1 o2 qo qd fo2 fd2 S2 H2 → va_S (fun q => s.heap.size ≤ q) s.heap H2 locs2 → lv_has ls2 9 [(5, .int i), (4, .ref qd), (3, .ref qo), (2, .ref o1), (1, .ref o2), (0, .ref b)] → W p l e room_1 s m #[Value.ref b] below meth c H2 locs2 (cells + 40) (slots + 1200) Q (F0 m 2924 ls2 [])) : W p l e room_1 s m #[Value.ref b] below meth c H locs cells slots Q (F0 m 704 ls []) := by
  obtain ⟨hx, hb, hml, hown, hts, hX, hbl, hN, hTH, hOU, hKX, hst, hNC⟩ := id C0
  obtain ⟨hP, hD, hW, h_o2, h_o1, h77, hMV, hIV, hR_RG⟩ := hI
  have hK := kX hKX
  have hA : ∀ q : Nat, s.heap.size ≤ q → (fun q : Nat => s.heap.size ≤ q) q := fun _ h => h
  have hbA : ¬ (fun q : Nat => s.heap.size ≤ q) b := Nat.not_le.mpr hbl
  refine lv_aload_n hx hb dL_law_704 rfl (lv_at hl 4 rfl) ?_
  refine lv_aload_n hx hb dL_law_705 rfl (lv_at hl 5 rfl) ?_
  refine lv_iload hx hb dL_law_706 (lv_at hl 0 rfl) ?_
  refine lv_iconst (v := 1) hx hb dL_law_708 (by decide) ?_
  refine lv_iadd hx hb dL_law_709 ?_
  have l32_1 : (1 : Int32).toInt = 1 := rfl
  have i1 : (i + (1 : Int32)).toInt = i.toInt + 1 := t_addr (n := 1) rfl (by omega)
  refine va_sld hx hb hX hbl hbA hS (inb (m := L) rfl (by omega) (by omega)) dL_law_710 ?_
  obtain ⟨y2, ey2⟩ : ∃ z : Int32, xs (i + (1 : Int32)).toNatClampNeg = z := ⟨_, rfl⟩
  rw [ey2]
  refine lv_aload_n hx hb dL_law_711 rfl (lv_at hl 5 rfl) ?_
  refine lv_iload hx hb dL_law_712 (lv_at hl 0 rfl) ?_
  refine lv_iconst (v := 2) hx hb dL_law_714 (by decide) ?_
  refine lv_iadd hx hb dL_law_715 ?_
  have l32_2 : (2 : Int32).toInt = 2 := rfl
  have i3 : (i + (2 : Int32)).toInt = i.toInt + 2 := t_addr (n := 2) rfl (by omega)
  refine va_sld hx hb hX hbl hbA hS (inb (m := L) rfl (by omega) (by omega)) dL_law_716 ?_
  obtain ⟨y4, ey4⟩ : ∃ z : Int32, xs (i + (2 : Int32)).toNatClampNeg = z := ⟨_, rfl⟩
  rw [ey4]
  refine lv_aload_n hx hb dL_law_717 rfl (lv_at hl 2 rfl) ?_
  have hFc := free_all hD hS hA
  refine va_calli (vx_runSW (As := [.ref o2, .int y2, .int y4, .ref qo]) (rest := []) ⟨hx, hb, hml, hown, hts⟩ (c_L_runsWell l hst (e0 := e0) (mi := mi) (D := D) (cy := cy) (c8 := c8) (c9 := c9) qo qd fo fd S _ o2 h_o2 y2 y4 (hW)) (vx_cwSW 4 hts gL_law_L_runsWell rfl rfl rfl (by decide +kernel) ⟨Nat.le_of_ble_eq_true rfl, Nat.le_of_ble_eq_true rfl⟩) ⟨fun a U g mk q => ⟨q.1, q.2.1, q.2.2.1.calling, NW.same (u := U) (U := U.calling g mk a) rfl q.2.2.2.1, q.2.2.2.2.1.calling, q.2.2.2.2.2.1.calling, q.2.2.2.2.2.2.calling⟩, fun U hU hW => ⟨rfl, by rw [hU], wx_pre hP hKX hD hU hW, hN.warm hW, th_pre hTH hS hFc hU hW, ou_pre hOU hS hFc hU hW, hNC.moved hW.alike⟩⟩ rfl rfl hl.1 rfl (lv_room (Nat.le_of_ble_eq_true rfl)) dL_law_718 ⟨by omega, by omega⟩) hS (fun q _ h => hFc q h) hFc (fun r5 u t H1 locs ht hvm hw hB hz1 hk1 hS => ?_)
  obtain ⟨S6, f7⟩ := u
  have w8 := hw
  obtain ⟨hP, hD⟩ := wx_post hFc ht hB
  generalize H1 = H at hP hS ⊢
  have w8 : stp ([] : List (Nat × Nat)) [] [] S S6 := w8
  have v9 : IV S6 o1 := IV.keep w8 hW h_o1 (by decide) (by decide) hIV
  have v10 : MV S6 o1 := MV.keep w8 hW h_o1 (by decide) (by decide) hMV
  have v11 : (RG o2) S6 o1 := RG.keep w8 hW h_o1 (by decide) (by decide) hR_RG
  have xe12 : ext S S6 := w8.x
  refine lv_istore (lv' := [(6, .int r5), (5, .int i), (4, .ref qd), (3, .ref qo), (2, .ref o1), (1, .ref o2), (0, .ref b)]) hx hb dL_law_721 hl (by decide) rfl (fun ls hl => ?_)
  refine lv_aload_n hx hb dL_law_723 rfl (lv_at hl 4 rfl) ?_
  refine lv_aload_n hx hb dL_law_724 rfl (lv_at hl 6 rfl) ?_
  refine lv_iload hx hb dL_law_725 (lv_at hl 1 rfl) ?_
  refine lv_iconst (v := 1) hx hb dL_law_727 (by decide) ?_
  refine lv_iadd hx hb dL_law_728 ?_
  refine va_sld hx hb hX hbl hbA hS (inb (m := L) rfl (by omega) (by omega)) dL_law_729 ?_
  rw [ey2]
  refine lv_aload_n hx hb dL_law_730 rfl (lv_at hl 6 rfl) ?_
  refine lv_iload hx hb dL_law_731 (lv_at hl 1 rfl) ?_
  refine lv_iconst (v := 2) hx hb dL_law_733 (by decide) ?_
  refine lv_iadd hx hb dL_law_734 ?_
  refine va_sld hx hb hX hbl hbA hS (inb (m := L) rfl (by omega) (by omega)) dL_law_735 ?_
  rw [ey4]
  have hFc := free_all hD hS hA
  obtain ⟨k14, gk14, hk14⟩ := wGt (cy := cy) (XO c8 c9 qo qd f7 fd) S6 (xe12.A h_o1).1 (xe12.A h_o1).2.1
  refine va_calli (va_runV (As := [.int y2, .int y4]) (rest := []) ⟨hx, hb, hml, hown, hts⟩ (c_X12_runsWell l (cy := cy) (X := (XO c8 c9 qo qd f7 fd)) (D := D) S6 _ o1 (xe12.A h_o1) y2 y4 (w8.w)) (cwV 2 hts gL_law_X12_runsWell rfl rfl rfl hd_X12_runsWell ⟨Nat.le_of_ble_eq_true rfl, Nat.le_of_ble_eq_true rfl⟩) ⟨fun a U g mk q => ⟨q.1, q.2.1, q.2.2.1.calling, NW.same (u := U) (U := U.calling g mk a) rfl q.2.2.2⟩, va_recv hK hP (q := (RX12, TX12, 34)) (ci := 16) (q0 := k14) rfl hk14, fun U hU hW => ⟨rfl, by rw [hU], wd_pre hP hK hD hU hW, hN.warm hW⟩⟩ rfl rfl hl.1 rfl (lv_room (Nat.le_of_ble_eq_true rfl)) dL_law_736 ⟨by omega, by omega⟩) hS (fun q _ h => hFc q h) hFc (fun r13 u t H1 locs ht hvm hw hB hz1 hk1 hS => ?_)
  obtain ⟨c15, w16, y17⟩ := hw
  obtain ⟨hP, hD⟩ := wd_post hFc ht hB
  generalize H1 = H at hP hS ⊢
  obtain ⟨S18, rfl⟩ : ∃ z, z = u := ⟨_, rfl⟩
  have v19 : IV S18 o1 := IV.keep w16 w8.w (xe12.A h_o1) (by decide) (by decide) v9
  have v20 : MV S18 o1 := MV.keep w16 w8.w (xe12.A h_o1) (by decide) (by decide) v10
  have v21 : (RG o2) S18 o1 := RG.keep w16 w8.w (xe12.A h_o1) (by decide) (by decide) v11
  have xe22 : ext S6 S18 := w16.x
  refine lv_istore (lv' := [(7, .int r13), (6, .int r5), (5, .int i), (4, .ref qd), (3, .ref qo), (2, .ref o1), (1, .ref o2), (0, .ref b)]) hx hb dL_law_739 hl (by decide) rfl (fun ls hl => ?_)
  refine lv_goto (tgt := 2924) hx hb dL_law_741 (by decide) ?_
  refine W.widen (k := cells + 40) (n := slots + 1200) (by omega) (by omega) ?_
  exact kk S18 f7 fd H _ ls ⟨hP, hD, w16.w, ((xe12.tr xe22).A h_o2), (xe22.A (xe12.A h_o1)), ((xe12.tr xe22).F h_o1 (by decide) h77), v20, v19, v21⟩ hS (lv_sub hl [2, 3, 4, 5, 6, 7] rfl)
set_option maxHeartbeats 4000000 in
set_option maxRecDepth 100000 in
theorem road_11 {p : Program} {l : Launch} {e : Env} {s : State} {m : MethodId} {below : List Frame} {meth : Method} {c : Code} {b L : Nat} {xs : Nat → Int32} {D : va_G} {cy : Nat → ClassId} {c8 c9 : ClassId} {e0 mi : Nat} {Q : State → Prop} {qo qd o1 o2 : Nat} (C0 : LC p l s m c b L xs D cy c8 c9 e0 mi) (hL9 : L ≤ 2560) {S : wPS} {fo : Nat → Int64} {fd : Nat → UInt64} {H : Heap} {locs : List Loc} {ls : Array Slot} {cells slots : Nat} {i : Int32} (hi : 0 ≤ i.toInt ∧ i.toInt + 5 ≤ L) (hI : LI D cy c8 c9 e0 (fun q => s.heap.size ≤ q) o1 o2 qo qd fo fd S H) (hS : va_S (fun q => s.heap.size ≤ q) s.heap H locs) (hc : cells + 40 ≤ room_1.cells) (hs : slots + 1200 ≤ room_1.slots) (hl : lv_has ls 9 [(5, .int i), (4, .ref qd), (3, .ref qo), (2, .ref o1), (1, .ref o2), (0, .ref b)]) (kk : ∀ (S2 : wPS) (fo2 : Nat → Int64) (fd2 : Nat → UInt64) (H2 : Heap) (locs2 : List Loc) (ls2 : Array Slot), LI D cy c8 c9 e0 (fun q => s.heap.size ≤ q) o1 o2 qo qd fo2 fd2 S2 H2 → va_S (fun q => s.heap.size ≤ q) s.heap H2 locs2 → lv_has ls2 9 [(5, .int i), (4, .ref qd), (3, .ref qo), (2, .ref o1), (1, .ref o2), (0, .ref b)] → W p l e room_1 s m #[Value.ref b] below meth c H2 locs2 (cells + 40) (slots + 1200) Q (F0 m 2924 ls2 [])) : W p l e room_1 s m #[Value.ref b] below meth c H locs cells slots Q (F0 m 744 ls []) := by
  obtain ⟨hx, hb, hml, hown, hts, hX, hbl, hN, hTH, hOU, hKX, hst, hNC⟩ := id C0
  obtain ⟨hP, hD, hW, h_o2, h_o1, h77, hMV, hIV, hR_RG⟩ := hI
  have hK := kX hKX
  have hA : ∀ q : Nat, s.heap.size ≤ q → (fun q : Nat => s.heap.size ≤ q) q := fun _ h => h
  have hbA : ¬ (fun q : Nat => s.heap.size ≤ q) b := Nat.not_le.mpr hbl
  refine lv_aload_n hx hb dL_law_744 rfl (lv_at hl 4 rfl) ?_
  refine lv_aload_n hx hb dL_law_745 rfl (lv_at hl 5 rfl) ?_
  refine lv_iload hx hb dL_law_746 (lv_at hl 0 rfl) ?_
  refine lv_iconst (v := 1) hx hb dL_law_748 (by decide) ?_
  refine lv_iadd hx hb dL_law_749 ?_
  have l32_1 : (1 : Int32).toInt = 1 := rfl
  have i1 : (i + (1 : Int32)).toInt = i.toInt + 1 := t_addr (n := 1) rfl (by omega)
  refine va_sld hx hb hX hbl hbA hS (inb (m := L) rfl (by omega) (by omega)) dL_law_750 ?_
  obtain ⟨y2, ey2⟩ : ∃ z : Int32, xs (i + (1 : Int32)).toNatClampNeg = z := ⟨_, rfl⟩
  rw [ey2]
  refine lv_aload_n hx hb dL_law_751 rfl (lv_at hl 5 rfl) ?_
  refine lv_iload hx hb dL_law_752 (lv_at hl 0 rfl) ?_
  refine lv_iconst (v := 2) hx hb dL_law_754 (by decide) ?_
  refine lv_iadd hx hb dL_law_755 ?_
  have l32_2 : (2 : Int32).toInt = 2 := rfl
  have i3 : (i + (2 : Int32)).toInt = i.toInt + 2 := t_addr (n := 2) rfl (by omega)
  refine va_sld hx hb hX hbl hbA hS (inb (m := L) rfl (by omega) (by omega)) dL_law_756 ?_
  obtain ⟨y4, ey4⟩ : ∃ z : Int32, xs (i + (2 : Int32)).toNatClampNeg = z := ⟨_, rfl⟩
  rw [ey4]
  refine lv_aload_n hx hb dL_law_757 rfl (lv_at hl 2 rfl) ?_
  have hFc := free_all hD hS hA
  refine va_calli (vx_runSW (As := [.ref o2, .int y2, .int y4, .ref qo]) (rest := []) ⟨hx, hb, hml, hown, hts⟩ (c_L_slide l hst (e0 := e0) (mi := mi) (D := D) (cy := cy) (c8 := c8) (c9 := c9) qo qd fo fd S _ o2 h_o2 y2 y4 (hW)) (vx_cwSW 4 hts gL_law_L_slide rfl rfl rfl (by decide +kernel) ⟨Nat.le_of_ble_eq_true rfl, Nat.le_of_ble_eq_true rfl⟩) ⟨fun a U g mk q => ⟨q.1, q.2.1, q.2.2.1.calling, NW.same (u := U) (U := U.calling g mk a) rfl q.2.2.2.1, q.2.2.2.2.1.calling, q.2.2.2.2.2.1.calling, q.2.2.2.2.2.2.calling⟩, fun U hU hW => ⟨rfl, by rw [hU], wx_pre hP hKX hD hU hW, hN.warm hW, th_pre hTH hS hFc hU hW, ou_pre hOU hS hFc hU hW, hNC.moved hW.alike⟩⟩ rfl rfl hl.1 rfl (lv_room (Nat.le_of_ble_eq_true rfl)) dL_law_758 ⟨by omega, by omega⟩) hS (fun q _ h => hFc q h) hFc (fun r5 u t H1 locs ht hvm hw hB hz1 hk1 hS => ?_)
  obtain ⟨S6, f7⟩ := u
  have w8 := hw
  obtain ⟨hP, hD⟩ := wx_post hFc ht hB
  generalize H1 = H at hP hS ⊢
  have w8 : stp ([] : List (Nat × Nat)) [] [] S S6 := w8
  have v9 : IV S6 o1 := IV.keep w8 hW h_o1 (by decide) (by decide) hIV
  have v10 : MV S6 o1 := MV.keep w8 hW h_o1 (by decide) (by decide) hMV
  have v11 : (RG o2) S6 o1 := RG.keep w8 hW h_o1 (by decide) (by decide) hR_RG
  have xe12 : ext S S6 := w8.x
  refine lv_istore (lv' := [(6, .int r5), (5, .int i), (4, .ref qd), (3, .ref qo), (2, .ref o1), (1, .ref o2), (0, .ref b)]) hx hb dL_law_761 hl (by decide) rfl (fun ls hl => ?_)
  refine lv_aload_n hx hb dL_law_763 rfl (lv_at hl 4 rfl) ?_
  refine lv_aload_n hx hb dL_law_764 rfl (lv_at hl 6 rfl) ?_
  refine lv_iload hx hb dL_law_765 (lv_at hl 1 rfl) ?_
  refine lv_iconst (v := 1) hx hb dL_law_767 (by decide) ?_
  refine lv_iadd hx hb dL_law_768 ?_
  refine va_sld hx hb hX hbl hbA hS (inb (m := L) rfl (by omega) (by omega)) dL_law_769 ?_
  rw [ey2]
  refine lv_aload_n hx hb dL_law_770 rfl (lv_at hl 6 rfl) ?_
  refine lv_iload hx hb dL_law_771 (lv_at hl 1 rfl) ?_
  refine lv_iconst (v := 2) hx hb dL_law_773 (by decide) ?_
  refine lv_iadd hx hb dL_law_774 ?_
  refine va_sld hx hb hX hbl hbA hS (inb (m := L) rfl (by omega) (by omega)) dL_law_775 ?_
  rw [ey4]
  have hFc := free_all hD hS hA
  obtain ⟨k14, gk14, hk14⟩ := wGt (cy := cy) (XO c8 c9 qo qd f7 fd) S6 (xe12.A h_o1).1 (xe12.A h_o1).2.1
  refine va_calll (va_runV (As := [.int y2, .int y4]) (rest := []) ⟨hx, hb, hml, hown, hts⟩ (c_X12_slide l (cy := cy) (X := (XO c8 c9 qo qd f7 fd)) (D := D) S6 _ o1 (xe12.A h_o1) y2 y4 (w8.w)) (cwV 2 hts gL_law_X12_slide rfl rfl rfl hd_X12_slide ⟨Nat.le_of_ble_eq_true rfl, Nat.le_of_ble_eq_true rfl⟩) ⟨fun a U g mk q => ⟨q.1, q.2.1, q.2.2.1.calling, NW.same (u := U) (U := U.calling g mk a) rfl q.2.2.2⟩, va_recv hK hP (q := (RX12, TX12, 34)) (ci := 16) (q0 := k14) rfl hk14, fun U hU hW => ⟨rfl, by rw [hU], wd_pre hP hK hD hU hW, hN.warm hW⟩⟩ rfl rfl hl.1 rfl (lv_room (Nat.le_of_ble_eq_true rfl)) dL_law_776 ⟨by omega, by omega⟩) hS (fun q _ h => hFc q h) hFc (fun r13 u t H1 locs ht hvm hw hB hz1 hk1 hS => ?_)
  obtain ⟨c15, w16⟩ := hw
  obtain ⟨hP, hD⟩ := wd_post hFc ht hB
  generalize H1 = H at hP hS ⊢
  obtain ⟨S17, rfl⟩ : ∃ z, z = u := ⟨_, rfl⟩
  have v18 : IV S17 o1 := IV.keep w16 w8.w (xe12.A h_o1) (by decide) (by decide) v9
  have v19 : MV S17 o1 := MV.keep w16 w8.w (xe12.A h_o1) (by decide) (by decide) v10
  have v20 : (RG o2) S17 o1 := RG.keep w16 w8.w (xe12.A h_o1) (by decide) (by decide) v11
  have xe21 : ext S6 S17 := w16.x
  refine lv_lstore (lv' := [(7, .long r13), (6, .int r5), (5, .int i), (4, .ref qd), (3, .ref qo), (2, .ref o1), (1, .ref o2), (0, .ref b)]) hx hb dL_law_779 hl (by decide) rfl (fun ls hl => ?_)
  refine lv_goto (tgt := 2924) hx hb dL_law_781 (by decide) ?_
  refine W.widen (k := cells + 40) (n := slots + 1200) (by omega) (by omega) ?_
  exact kk S17 f7 fd H _ ls ⟨hP, hD, w16.w, ((xe12.tr xe21).A h_o2), (xe21.A (xe12.A h_o1)), ((xe12.tr xe21).F h_o1 (by decide) h77), v19, v18, v20⟩ hS (lv_sub hl [2, 3, 4, 5, 6, 7] rfl)
set_option maxHeartbeats 4000000 in
set_option maxRecDepth 100000 in
theorem road_12 {p : Program} {l : Launch} {e : Env} {s : State} {m : MethodId} {below : List Frame} {meth : Method} {c : Code} {b L : Nat} {xs : Nat → Int32} {D : va_G} {cy : Nat → ClassId} {c8 c9 : ClassId} {e0 mi : Nat} {Q : State → Prop} {qo qd o1 o2 : Nat} (C0 : LC p l s m c b L xs D cy c8 c9 e0 mi) (hL9 : L ≤ 2560) {S : wPS} {fo : Nat → Int64} {fd : Nat → UInt64} {H : Heap} {locs : List Loc} {ls : Array Slot} {cells slots : Nat} {i : Int32} (hi : 0 ≤ i.toInt ∧ i.toInt + 5 ≤ L) (hI : LI D cy c8 c9 e0 (fun q => s.heap.size ≤ q) o1 o2 qo qd fo fd S H) (hS : va_S (fun q => s.heap.size ≤ q) s.heap H locs) (hc : cells + 40 ≤ room_1.cells) (hs : slots + 1200 ≤ room_1.slots) (hl : lv_has ls 9 [(5, .int i), (4, .ref qd), (3, .ref qo), (2, .ref o1), (1, .ref o2), (0, .ref b)]) (kk : ∀ (S2 : wPS) (fo2 : Nat → Int64) (fd2 : Nat → UInt64) (H2 : Heap) (locs2 : List Loc) (ls2 : Array Slot), LI D cy c8 c9 e0 (fun q => s.heap.size ≤ q) o1 o2 qo qd fo2 fd2 S2 H2 → va_S (fun q => s.heap.size ≤ q) s.heap H2 locs2 → lv_has ls2 9 [(5, .int i), (4, .ref qd), (3, .ref qo), (2, .ref o1), (1, .ref o2), (0, .ref b)] → W p l e room_1 s m #[Value.ref b] below meth c H2 locs2 (cells + 40) (slots + 1200) Q (F0 m 2924 ls2 [])) : W p l e room_1 s m #[Value.ref b] below meth c H locs cells slots Q (F0 m 784 ls []) := by
  obtain ⟨hx, hb, hml, hown, hts, hX, hbl, hN, hTH, hOU, hKX, hst, hNC⟩ := id C0
  obtain ⟨hP, hD, hW, h_o2, h_o1, h77, hMV, hIV, hR_RG⟩ := hI
  have hK := kX hKX
  have hA : ∀ q : Nat, s.heap.size ≤ q → (fun q : Nat => s.heap.size ≤ q) q := fun _ h => h
  have hbA : ¬ (fun q : Nat => s.heap.size ≤ q) b := Nat.not_le.mpr hbl
  refine lv_aload_n hx hb dL_law_784 rfl (lv_at hl 4 rfl) ?_
  refine lv_aload_n hx hb dL_law_785 rfl (lv_at hl 5 rfl) ?_
  refine lv_iload hx hb dL_law_786 (lv_at hl 0 rfl) ?_
  refine lv_iconst (v := 1) hx hb dL_law_788 (by decide) ?_
  refine lv_iadd hx hb dL_law_789 ?_
  have l32_1 : (1 : Int32).toInt = 1 := rfl
  have i1 : (i + (1 : Int32)).toInt = i.toInt + 1 := t_addr (n := 1) rfl (by omega)
  refine va_sld hx hb hX hbl hbA hS (inb (m := L) rfl (by omega) (by omega)) dL_law_790 ?_
  obtain ⟨y2, ey2⟩ : ∃ z : Int32, xs (i + (1 : Int32)).toNatClampNeg = z := ⟨_, rfl⟩
  rw [ey2]
  refine lv_aload_n hx hb dL_law_791 rfl (lv_at hl 5 rfl) ?_
  refine lv_iload hx hb dL_law_792 (lv_at hl 0 rfl) ?_
  refine lv_iconst (v := 2) hx hb dL_law_794 (by decide) ?_
  refine lv_iadd hx hb dL_law_795 ?_
  have l32_2 : (2 : Int32).toInt = 2 := rfl
  have i3 : (i + (2 : Int32)).toInt = i.toInt + 2 := t_addr (n := 2) rfl (by omega)
  refine va_sld hx hb hX hbl hbA hS (inb (m := L) rfl (by omega) (by omega)) dL_law_796 ?_
  obtain ⟨y4, ey4⟩ : ∃ z : Int32, xs (i + (2 : Int32)).toNatClampNeg = z := ⟨_, rfl⟩
  rw [ey4]
  refine lv_aload_n hx hb dL_law_797 rfl (lv_at hl 2 rfl) ?_
  have hFc := free_all hD hS hA
  refine va_calli (vx_runSW (As := [.ref o2, .int y2, .int y4, .ref qo]) (rest := []) ⟨hx, hb, hml, hown, hts⟩ (c_L_balance l hst (e0 := e0) (mi := mi) (D := D) (cy := cy) (c8 := c8) (c9 := c9) qo qd fo fd S _ o2 h_o2 y2 y4 (hW)) (vx_cwSW 4 hts gL_law_L_balance rfl rfl rfl (by decide +kernel) ⟨Nat.le_of_ble_eq_true rfl, Nat.le_of_ble_eq_true rfl⟩) ⟨fun a U g mk q => ⟨q.1, q.2.1, q.2.2.1.calling, NW.same (u := U) (U := U.calling g mk a) rfl q.2.2.2.1, q.2.2.2.2.1.calling, q.2.2.2.2.2.1.calling, q.2.2.2.2.2.2.calling⟩, fun U hU hW => ⟨rfl, by rw [hU], wx_pre hP hKX hD hU hW, hN.warm hW, th_pre hTH hS hFc hU hW, ou_pre hOU hS hFc hU hW, hNC.moved hW.alike⟩⟩ rfl rfl hl.1 rfl (lv_room (Nat.le_of_ble_eq_true rfl)) dL_law_798 ⟨by omega, by omega⟩) hS (fun q _ h => hFc q h) hFc (fun r5 u t H1 locs ht hvm hw hB hz1 hk1 hS => ?_)
  obtain ⟨S6, f7⟩ := u
  have w8 := hw
  obtain ⟨hP, hD⟩ := wx_post hFc ht hB
  generalize H1 = H at hP hS ⊢
  have w8 : stp [(2, 7)] [] [] S S6 := w8
  have v9 : IV S6 o1 := IV.keep w8 hW h_o1 (by decide) (by decide) hIV
  have v10 : MV S6 o1 := MV.keep w8 hW h_o1 (by decide) (by decide) hMV
  have v11 : (RG o2) S6 o1 := RG.keep w8 hW h_o1 (by decide) (by decide) hR_RG
  have xe12 : ext S S6 := w8.x
  refine lv_istore (lv' := [(6, .int r5), (5, .int i), (4, .ref qd), (3, .ref qo), (2, .ref o1), (1, .ref o2), (0, .ref b)]) hx hb dL_law_801 hl (by decide) rfl (fun ls hl => ?_)
  refine lv_aload_n hx hb dL_law_803 rfl (lv_at hl 4 rfl) ?_
  refine lv_aload_n hx hb dL_law_804 rfl (lv_at hl 6 rfl) ?_
  refine lv_iload hx hb dL_law_805 (lv_at hl 1 rfl) ?_
  refine lv_iconst (v := 1) hx hb dL_law_807 (by decide) ?_
  refine lv_iadd hx hb dL_law_808 ?_
  refine va_sld hx hb hX hbl hbA hS (inb (m := L) rfl (by omega) (by omega)) dL_law_809 ?_
  rw [ey2]
  refine lv_aload_n hx hb dL_law_810 rfl (lv_at hl 6 rfl) ?_
  refine lv_iload hx hb dL_law_811 (lv_at hl 1 rfl) ?_
  refine lv_iconst (v := 2) hx hb dL_law_813 (by decide) ?_
  refine lv_iadd hx hb dL_law_814 ?_
  refine va_sld hx hb hX hbl hbA hS (inb (m := L) rfl (by omega) (by omega)) dL_law_815 ?_
  rw [ey4]
  have hFc := free_all hD hS hA
  obtain ⟨k14, gk14, hk14⟩ := wGt (cy := cy) (XO c8 c9 qo qd f7 fd) S6 (xe12.A h_o1).1 (xe12.A h_o1).2.1
  refine va_calli (va_runV (As := [.int y2, .int y4]) (rest := []) ⟨hx, hb, hml, hown, hts⟩ (c_X12_balance l (cy := cy) (X := (XO c8 c9 qo qd f7 fd)) (D := D) S6 _ o1 (xe12.A h_o1) y2 y4 (w8.w)) (cwV 2 hts gL_law_X12_balance rfl rfl rfl hd_X12_balance ⟨Nat.le_of_ble_eq_true rfl, Nat.le_of_ble_eq_true rfl⟩) ⟨fun a U g mk q => ⟨q.1, q.2.1, q.2.2.1.calling, NW.same (u := U) (U := U.calling g mk a) rfl q.2.2.2⟩, va_recv hK hP (q := (RX12, TX12, 34)) (ci := 16) (q0 := k14) rfl hk14, fun U hU hW => ⟨rfl, by rw [hU], wd_pre hP hK hD hU hW, hN.warm hW⟩⟩ rfl rfl hl.1 rfl (lv_room (Nat.le_of_ble_eq_true rfl)) dL_law_816 ⟨by omega, by omega⟩) hS (fun q _ h => hFc q h) hFc (fun r13 u t H1 locs ht hvm hw hB hz1 hk1 hS => ?_)
  have w15 := hw
  obtain ⟨hP, hD⟩ := wd_post hFc ht hB
  generalize H1 = H at hP hS ⊢
  obtain ⟨S16, rfl⟩ : ∃ z, z = u := ⟨_, rfl⟩
  have v17 : IV S16 o1 := IV.keep w15 w8.w (xe12.A h_o1) (by decide) (by decide) v9
  have v18 : MV S16 o1 := MV.keep w15 w8.w (xe12.A h_o1) (by decide) (by decide) v10
  have v19 : (RG o2) S16 o1 := RG.keep w15 w8.w (xe12.A h_o1) (by decide) (by decide) v11
  have xe20 : ext S6 S16 := w15.x
  refine lv_istore (lv' := [(7, .int r13), (6, .int r5), (5, .int i), (4, .ref qd), (3, .ref qo), (2, .ref o1), (1, .ref o2), (0, .ref b)]) hx hb dL_law_819 hl (by decide) rfl (fun ls hl => ?_)
  refine lv_goto (tgt := 2924) hx hb dL_law_821 (by decide) ?_
  refine W.widen (k := cells + 40) (n := slots + 1200) (by omega) (by omega) ?_
  exact kk S16 f7 fd H _ ls ⟨hP, hD, w15.w, ((xe12.tr xe20).A h_o2), (xe20.A (xe12.A h_o1)), ((xe12.tr xe20).F h_o1 (by decide) h77), v18, v17, v19⟩ hS (lv_sub hl [2, 3, 4, 5, 6, 7] rfl)
set_option maxHeartbeats 4000000 in
set_option maxRecDepth 100000 in
theorem road_13 {p : Program} {l : Launch} {e : Env} {s : State} {m : MethodId} {below : List Frame} {meth : Method} {c : Code} {b L : Nat} {xs : Nat → Int32} {D : va_G} {cy : Nat → ClassId} {c8 c9 : ClassId} {e0 mi : Nat} {Q : State → Prop} {qo qd o1 o2 : Nat} (C0 : LC p l s m c b L xs D cy c8 c9 e0 mi) (hL9 : L ≤ 2560) {S : wPS} {fo : Nat → Int64} {fd : Nat → UInt64} {H : Heap} {locs : List Loc} {ls : Array Slot} {cells slots : Nat} {i : Int32} (hi : 0 ≤ i.toInt ∧ i.toInt + 5 ≤ L) (hI : LI D cy c8 c9 e0 (fun q => s.heap.size ≤ q) o1 o2 qo qd fo fd S H) (hS : va_S (fun q => s.heap.size ≤ q) s.heap H locs) (hc : cells + 40 ≤ room_1.cells) (hs : slots + 1200 ≤ room_1.slots) (hl : lv_has ls 9 [(5, .int i), (4, .ref qd), (3, .ref qo), (2, .ref o1), (1, .ref o2), (0, .ref b)]) (kk : ∀ (S2 : wPS) (fo2 : Nat → Int64) (fd2 : Nat → UInt64) (H2 : Heap) (locs2 : List Loc) (ls2 : Array Slot), LI D cy c8 c9 e0 (fun q => s.heap.size ≤ q) o1 o2 qo qd fo2 fd2 S2 H2 → va_S (fun q => s.heap.size ≤ q) s.heap H2 locs2 → lv_has ls2 9 [(5, .int i), (4, .ref qd), (3, .ref qo), (2, .ref o1), (1, .ref o2), (0, .ref b)] → W p l e room_1 s m #[Value.ref b] below meth c H2 locs2 (cells + 40) (slots + 1200) Q (F0 m 2924 ls2 [])) : W p l e room_1 s m #[Value.ref b] below meth c H locs cells slots Q (F0 m 824 ls []) := by
  obtain ⟨hx, hb, hml, hown, hts, hX, hbl, hN, hTH, hOU, hKX, hst, hNC⟩ := id C0
  obtain ⟨hP, hD, hW, h_o2, h_o1, h77, hMV, hIV, hR_RG⟩ := hI
  have hK := kX hKX
  have hA : ∀ q : Nat, s.heap.size ≤ q → (fun q : Nat => s.heap.size ≤ q) q := fun _ h => h
  have hbA : ¬ (fun q : Nat => s.heap.size ≤ q) b := Nat.not_le.mpr hbl
  refine lv_aload_n hx hb dL_law_824 rfl (lv_at hl 4 rfl) ?_
  refine lv_aload_n hx hb dL_law_825 rfl (lv_at hl 5 rfl) ?_
  refine lv_iload hx hb dL_law_826 (lv_at hl 0 rfl) ?_
  refine lv_iconst (v := 1) hx hb dL_law_828 (by decide) ?_
  refine lv_iadd hx hb dL_law_829 ?_
  have l32_1 : (1 : Int32).toInt = 1 := rfl
  have i1 : (i + (1 : Int32)).toInt = i.toInt + 1 := t_addr (n := 1) rfl (by omega)
  refine va_sld hx hb hX hbl hbA hS (inb (m := L) rfl (by omega) (by omega)) dL_law_830 ?_
  obtain ⟨y2, ey2⟩ : ∃ z : Int32, xs (i + (1 : Int32)).toNatClampNeg = z := ⟨_, rfl⟩
  rw [ey2]
  refine lv_aload_n hx hb dL_law_831 rfl (lv_at hl 5 rfl) ?_
  refine lv_iload hx hb dL_law_832 (lv_at hl 0 rfl) ?_
  refine lv_iconst (v := 2) hx hb dL_law_834 (by decide) ?_
  refine lv_iadd hx hb dL_law_835 ?_
  have l32_2 : (2 : Int32).toInt = 2 := rfl
  have i3 : (i + (2 : Int32)).toInt = i.toInt + 2 := t_addr (n := 2) rfl (by omega)
  refine va_sld hx hb hX hbl hbA hS (inb (m := L) rfl (by omega) (by omega)) dL_law_836 ?_
  obtain ⟨y4, ey4⟩ : ∃ z : Int32, xs (i + (2 : Int32)).toNatClampNeg = z := ⟨_, rfl⟩
  rw [ey4]
  refine lv_aload_n hx hb dL_law_837 rfl (lv_at hl 5 rfl) ?_
  refine lv_iload hx hb dL_law_838 (lv_at hl 0 rfl) ?_
  refine lv_iconst (v := 3) hx hb dL_law_840 (by decide) ?_
  refine lv_iadd hx hb dL_law_841 ?_
  have l32_3 : (3 : Int32).toInt = 3 := rfl
  have i5 : (i + (3 : Int32)).toInt = i.toInt + 3 := t_addr (n := 3) rfl (by omega)
  refine va_sld hx hb hX hbl hbA hS (inb (m := L) rfl (by omega) (by omega)) dL_law_842 ?_
  obtain ⟨y6, ey6⟩ : ∃ z : Int32, xs (i + (3 : Int32)).toNatClampNeg = z := ⟨_, rfl⟩
  rw [ey6]
  refine lv_aload_n hx hb dL_law_843 rfl (lv_at hl 5 rfl) ?_
  refine lv_iload hx hb dL_law_844 (lv_at hl 0 rfl) ?_
  refine lv_iconst (v := 4) hx hb dL_law_846 (by decide) ?_
  refine lv_iadd hx hb dL_law_847 ?_
  have l32_4 : (4 : Int32).toInt = 4 := rfl
  have i7 : (i + (4 : Int32)).toInt = i.toInt + 4 := t_addr (n := 4) rfl (by omega)
  refine va_sld hx hb hX hbl hbA hS (inb (m := L) rfl (by omega) (by omega)) dL_law_848 ?_
  obtain ⟨y8, ey8⟩ : ∃ z : Int32, xs (i + (4 : Int32)).toNatClampNeg = z := ⟨_, rfl⟩
  rw [ey8]
  refine lv_aload_n hx hb dL_law_849 rfl (lv_at hl 2 rfl) ?_
  have hFc := free_all hD hS hA
  refine va_calli (vx_runSW (As := [.ref o2, .int y2, .int y4, .int y6, .int y8, .ref qo]) (rest := []) ⟨hx, hb, hml, hown, hts⟩ (c_L_section l hst (e0 := e0) (mi := mi) (D := D) (cy := cy) (c8 := c8) (c9 := c9) qo qd fo fd S _ o2 h_o2 y2 y4 y6 y8 (hW)) (vx_cwSW 6 hts gL_law_L_section rfl rfl rfl (by decide +kernel) ⟨Nat.le_of_ble_eq_true rfl, Nat.le_of_ble_eq_true rfl⟩) ⟨fun a U g mk q => ⟨q.1, q.2.1, q.2.2.1.calling, NW.same (u := U) (U := U.calling g mk a) rfl q.2.2.2.1, q.2.2.2.2.1.calling, q.2.2.2.2.2.1.calling, q.2.2.2.2.2.2.calling⟩, fun U hU hW => ⟨rfl, by rw [hU], wx_pre hP hKX hD hU hW, hN.warm hW, th_pre hTH hS hFc hU hW, ou_pre hOU hS hFc hU hW, hNC.moved hW.alike⟩⟩ rfl rfl hl.1 rfl (lv_room (Nat.le_of_ble_eq_true rfl)) dL_law_850 ⟨by omega, by omega⟩) hS (fun q _ h => hFc q h) hFc (fun r9 u t H1 locs ht hvm hw hB hz1 hk1 hS => ?_)
  obtain ⟨S10, f11⟩ := u
  have w12 := hw
  obtain ⟨hP, hD⟩ := wx_post hFc ht hB
  generalize H1 = H at hP hS ⊢
  have w12 : stp ([] : List (Nat × Nat)) [] [] S S10 := w12
  have v13 : IV S10 o1 := IV.keep w12 hW h_o1 (by decide) (by decide) hIV
  have v14 : MV S10 o1 := MV.keep w12 hW h_o1 (by decide) (by decide) hMV
  have v15 : (RG o2) S10 o1 := RG.keep w12 hW h_o1 (by decide) (by decide) hR_RG
  have xe16 : ext S S10 := w12.x
  refine lv_istore (lv' := [(6, .int r9), (5, .int i), (4, .ref qd), (3, .ref qo), (2, .ref o1), (1, .ref o2), (0, .ref b)]) hx hb dL_law_853 hl (by decide) rfl (fun ls hl => ?_)
  refine lv_aload_n hx hb dL_law_855 rfl (lv_at hl 4 rfl) ?_
  refine lv_aload_n hx hb dL_law_856 rfl (lv_at hl 6 rfl) ?_
  refine lv_iload hx hb dL_law_857 (lv_at hl 1 rfl) ?_
  refine lv_iconst (v := 1) hx hb dL_law_859 (by decide) ?_
  refine lv_iadd hx hb dL_law_860 ?_
  refine va_sld hx hb hX hbl hbA hS (inb (m := L) rfl (by omega) (by omega)) dL_law_861 ?_
  rw [ey2]
  refine lv_aload_n hx hb dL_law_862 rfl (lv_at hl 6 rfl) ?_
  refine lv_iload hx hb dL_law_863 (lv_at hl 1 rfl) ?_
  refine lv_iconst (v := 2) hx hb dL_law_865 (by decide) ?_
  refine lv_iadd hx hb dL_law_866 ?_
  refine va_sld hx hb hX hbl hbA hS (inb (m := L) rfl (by omega) (by omega)) dL_law_867 ?_
  rw [ey4]
  refine lv_aload_n hx hb dL_law_868 rfl (lv_at hl 6 rfl) ?_
  refine lv_iload hx hb dL_law_869 (lv_at hl 1 rfl) ?_
  refine lv_iconst (v := 3) hx hb dL_law_871 (by decide) ?_
  refine lv_iadd hx hb dL_law_872 ?_
  refine va_sld hx hb hX hbl hbA hS (inb (m := L) rfl (by omega) (by omega)) dL_law_873 ?_
  rw [ey6]
  refine lv_aload_n hx hb dL_law_874 rfl (lv_at hl 6 rfl) ?_
  refine lv_iload hx hb dL_law_875 (lv_at hl 1 rfl) ?_
  refine lv_iconst (v := 4) hx hb dL_law_877 (by decide) ?_
  refine lv_iadd hx hb dL_law_878 ?_
  refine va_sld hx hb hX hbl hbA hS (inb (m := L) rfl (by omega) (by omega)) dL_law_879 ?_
  rw [ey8]
  have hFc := free_all hD hS hA
  obtain ⟨k18, gk18, hk18⟩ := wGt (cy := cy) (XO c8 c9 qo qd f11 fd) S10 (xe16.A h_o1).1 (xe16.A h_o1).2.1
  refine va_calli (va_runV (As := [.int y2, .int y4, .int y6, .int y8]) (rest := []) ⟨hx, hb, hml, hown, hts⟩ (c_X12_section l (cy := cy) (X := (XO c8 c9 qo qd f11 fd)) (D := D) S10 _ o1 (xe16.A h_o1) y2 y4 y6 y8 (w12.w)) (cwV 4 hts gL_law_X12_section rfl rfl rfl hd_X12_section ⟨Nat.le_of_ble_eq_true rfl, Nat.le_of_ble_eq_true rfl⟩) ⟨fun a U g mk q => ⟨q.1, q.2.1, q.2.2.1.calling, NW.same (u := U) (U := U.calling g mk a) rfl q.2.2.2⟩, va_recv hK hP (q := (RX12, TX12, 34)) (ci := 16) (q0 := k18) rfl hk18, fun U hU hW => ⟨rfl, by rw [hU], wd_pre hP hK hD hU hW, hN.warm hW⟩⟩ rfl rfl hl.1 rfl (lv_room (Nat.le_of_ble_eq_true rfl)) dL_law_880 ⟨by omega, by omega⟩) hS (fun q _ h => hFc q h) hFc (fun r17 u t H1 locs ht hvm hw hB hz1 hk1 hS => ?_)
  obtain ⟨c19, w20⟩ := hw
  obtain ⟨hP, hD⟩ := wd_post hFc ht hB
  generalize H1 = H at hP hS ⊢
  obtain ⟨S21, rfl⟩ : ∃ z, z = u := ⟨_, rfl⟩
  have v22 : IV S21 o1 := IV.keep w20 w12.w (xe16.A h_o1) (by decide) (by decide) v13
  have v23 : MV S21 o1 := MV.keep w20 w12.w (xe16.A h_o1) (by decide) (by decide) v14
  have v24 : (RG o2) S21 o1 := RG.keep w20 w12.w (xe16.A h_o1) (by decide) (by decide) v15
  have xe25 : ext S10 S21 := w20.x
  refine lv_istore (lv' := [(7, .int r17), (6, .int r9), (5, .int i), (4, .ref qd), (3, .ref qo), (2, .ref o1), (1, .ref o2), (0, .ref b)]) hx hb dL_law_883 hl (by decide) rfl (fun ls hl => ?_)
  refine lv_goto (tgt := 2924) hx hb dL_law_885 (by decide) ?_
  refine W.widen (k := cells + 40) (n := slots + 1200) (by omega) (by omega) ?_
  exact kk S21 f11 fd H _ ls ⟨hP, hD, w20.w, ((xe16.tr xe25).A h_o2), (xe25.A (xe16.A h_o1)), ((xe16.tr xe25).F h_o1 (by decide) h77), v23, v22, v24⟩ hS (lv_sub hl [2, 3, 4, 5, 6, 7] rfl)
set_option maxHeartbeats 4000000 in
set_option maxRecDepth 100000 in
theorem road_14 {p : Program} {l : Launch} {e : Env} {s : State} {m : MethodId} {below : List Frame} {meth : Method} {c : Code} {b L : Nat} {xs : Nat → Int32} {D : va_G} {cy : Nat → ClassId} {c8 c9 : ClassId} {e0 mi : Nat} {Q : State → Prop} {qo qd o1 o2 : Nat} (C0 : LC p l s m c b L xs D cy c8 c9 e0 mi) (hL9 : L ≤ 2560) {S : wPS} {fo : Nat → Int64} {fd : Nat → UInt64} {H : Heap} {locs : List Loc} {ls : Array Slot} {cells slots : Nat} {i : Int32} (hi : 0 ≤ i.toInt ∧ i.toInt + 5 ≤ L) (hI : LI D cy c8 c9 e0 (fun q => s.heap.size ≤ q) o1 o2 qo qd fo fd S H) (hS : va_S (fun q => s.heap.size ≤ q) s.heap H locs) (hc : cells + 40 ≤ room_1.cells) (hs : slots + 1200 ≤ room_1.slots) (hl : lv_has ls 9 [(5, .int i), (4, .ref qd), (3, .ref qo), (2, .ref o1), (1, .ref o2), (0, .ref b)]) (kk : ∀ (S2 : wPS) (fo2 : Nat → Int64) (fd2 : Nat → UInt64) (H2 : Heap) (locs2 : List Loc) (ls2 : Array Slot), LI D cy c8 c9 e0 (fun q => s.heap.size ≤ q) o1 o2 qo qd fo2 fd2 S2 H2 → va_S (fun q => s.heap.size ≤ q) s.heap H2 locs2 → lv_has ls2 9 [(5, .int i), (4, .ref qd), (3, .ref qo), (2, .ref o1), (1, .ref o2), (0, .ref b)] → W p l e room_1 s m #[Value.ref b] below meth c H2 locs2 (cells + 40) (slots + 1200) Q (F0 m 2924 ls2 [])) : W p l e room_1 s m #[Value.ref b] below meth c H locs cells slots Q (F0 m 888 ls []) := by
  obtain ⟨hx, hb, hml, hown, hts, hX, hbl, hN, hTH, hOU, hKX, hst, hNC⟩ := id C0
  obtain ⟨hP, hD, hW, h_o2, h_o1, h77, hMV, hIV, hR_RG⟩ := hI
  have hK := kX hKX
  have hA : ∀ q : Nat, s.heap.size ≤ q → (fun q : Nat => s.heap.size ≤ q) q := fun _ h => h
  have hbA : ¬ (fun q : Nat => s.heap.size ≤ q) b := Nat.not_le.mpr hbl
  refine lv_aload_n hx hb dL_law_888 rfl (lv_at hl 4 rfl) ?_
  refine lv_aload_n hx hb dL_law_889 rfl (lv_at hl 5 rfl) ?_
  refine lv_iload hx hb dL_law_890 (lv_at hl 0 rfl) ?_
  refine lv_iconst (v := 1) hx hb dL_law_892 (by decide) ?_
  refine lv_iadd hx hb dL_law_893 ?_
  have l32_1 : (1 : Int32).toInt = 1 := rfl
  have i1 : (i + (1 : Int32)).toInt = i.toInt + 1 := t_addr (n := 1) rfl (by omega)
  refine va_sld hx hb hX hbl hbA hS (inb (m := L) rfl (by omega) (by omega)) dL_law_894 ?_
  obtain ⟨y2, ey2⟩ : ∃ z : Int32, xs (i + (1 : Int32)).toNatClampNeg = z := ⟨_, rfl⟩
  rw [ey2]
  refine lv_aload_n hx hb dL_law_895 rfl (lv_at hl 5 rfl) ?_
  refine lv_iload hx hb dL_law_896 (lv_at hl 0 rfl) ?_
  refine lv_iconst (v := 2) hx hb dL_law_898 (by decide) ?_
  refine lv_iadd hx hb dL_law_899 ?_
  have l32_2 : (2 : Int32).toInt = 2 := rfl
  have i3 : (i + (2 : Int32)).toInt = i.toInt + 2 := t_addr (n := 2) rfl (by omega)
  refine va_sld hx hb hX hbl hbA hS (inb (m := L) rfl (by omega) (by omega)) dL_law_900 ?_
  obtain ⟨y4, ey4⟩ : ∃ z : Int32, xs (i + (2 : Int32)).toNatClampNeg = z := ⟨_, rfl⟩
  rw [ey4]
  refine lv_aload_n hx hb dL_law_901 rfl (lv_at hl 5 rfl) ?_
  refine lv_iload hx hb dL_law_902 (lv_at hl 0 rfl) ?_
  refine lv_iconst (v := 3) hx hb dL_law_904 (by decide) ?_
  refine lv_iadd hx hb dL_law_905 ?_
  have l32_3 : (3 : Int32).toInt = 3 := rfl
  have i5 : (i + (3 : Int32)).toInt = i.toInt + 3 := t_addr (n := 3) rfl (by omega)
  refine va_sld hx hb hX hbl hbA hS (inb (m := L) rfl (by omega) (by omega)) dL_law_906 ?_
  obtain ⟨y6, ey6⟩ : ∃ z : Int32, xs (i + (3 : Int32)).toNatClampNeg = z := ⟨_, rfl⟩
  rw [ey6]
  refine lv_aload_n hx hb dL_law_907 rfl (lv_at hl 5 rfl) ?_
  refine lv_iload hx hb dL_law_908 (lv_at hl 0 rfl) ?_
  refine lv_iconst (v := 4) hx hb dL_law_910 (by decide) ?_
  refine lv_iadd hx hb dL_law_911 ?_
  have l32_4 : (4 : Int32).toInt = 4 := rfl
  have i7 : (i + (4 : Int32)).toInt = i.toInt + 4 := t_addr (n := 4) rfl (by omega)
  refine va_sld hx hb hX hbl hbA hS (inb (m := L) rfl (by omega) (by omega)) dL_law_912 ?_
  obtain ⟨y8, ey8⟩ : ∃ z : Int32, xs (i + (4 : Int32)).toNatClampNeg = z := ⟨_, rfl⟩
  rw [ey8]
  refine lv_aload_n hx hb dL_law_913 rfl (lv_at hl 2 rfl) ?_
  have hFc := free_all hD hS hA
  refine va_calli (vx_runSW (As := [.ref o2, .int y2, .int y4, .int y6, .int y8, .ref qo]) (rest := []) ⟨hx, hb, hml, hown, hts⟩ (c_L_bestPair l hst (e0 := e0) (mi := mi) (D := D) (cy := cy) (c8 := c8) (c9 := c9) qo qd fo fd S _ o2 h_o2 y2 y4 y6 y8 (hW)) (vx_cwSW 6 hts gL_law_L_bestPair rfl rfl rfl (by decide +kernel) ⟨Nat.le_of_ble_eq_true rfl, Nat.le_of_ble_eq_true rfl⟩) ⟨fun a U g mk q => ⟨q.1, q.2.1, q.2.2.1.calling, NW.same (u := U) (U := U.calling g mk a) rfl q.2.2.2.1, q.2.2.2.2.1.calling, q.2.2.2.2.2.1.calling, q.2.2.2.2.2.2.calling⟩, fun U hU hW => ⟨rfl, by rw [hU], wx_pre hP hKX hD hU hW, hN.warm hW, th_pre hTH hS hFc hU hW, ou_pre hOU hS hFc hU hW, hNC.moved hW.alike⟩⟩ rfl rfl hl.1 rfl (lv_room (Nat.le_of_ble_eq_true rfl)) dL_law_914 ⟨by omega, by omega⟩) hS (fun q _ h => hFc q h) hFc (fun r9 u t H1 locs ht hvm hw hB hz1 hk1 hS => ?_)
  obtain ⟨S10, f11⟩ := u
  have w12 := hw
  obtain ⟨hP, hD⟩ := wx_post hFc ht hB
  generalize H1 = H at hP hS ⊢
  have w12 : stp [(8, 2), (8, 3), (8, 4)] [] [] S S10 := w12
  have v13 : IV S10 o1 := IV.keep w12 hW h_o1 (by decide) (by decide) hIV
  have v14 : MV S10 o1 := MV.keep w12 hW h_o1 (by decide) (by decide) hMV
  have v15 : (RG o2) S10 o1 := RG.keep w12 hW h_o1 (by decide) (by decide) hR_RG
  have xe16 : ext S S10 := w12.x
  refine lv_istore (lv' := [(6, .int r9), (5, .int i), (4, .ref qd), (3, .ref qo), (2, .ref o1), (1, .ref o2), (0, .ref b)]) hx hb dL_law_917 hl (by decide) rfl (fun ls hl => ?_)
  refine lv_aload_n hx hb dL_law_919 rfl (lv_at hl 4 rfl) ?_
  refine lv_aload_n hx hb dL_law_920 rfl (lv_at hl 6 rfl) ?_
  refine lv_iload hx hb dL_law_921 (lv_at hl 1 rfl) ?_
  refine lv_iconst (v := 1) hx hb dL_law_923 (by decide) ?_
  refine lv_iadd hx hb dL_law_924 ?_
  refine va_sld hx hb hX hbl hbA hS (inb (m := L) rfl (by omega) (by omega)) dL_law_925 ?_
  rw [ey2]
  refine lv_aload_n hx hb dL_law_926 rfl (lv_at hl 6 rfl) ?_
  refine lv_iload hx hb dL_law_927 (lv_at hl 1 rfl) ?_
  refine lv_iconst (v := 2) hx hb dL_law_929 (by decide) ?_
  refine lv_iadd hx hb dL_law_930 ?_
  refine va_sld hx hb hX hbl hbA hS (inb (m := L) rfl (by omega) (by omega)) dL_law_931 ?_
  rw [ey4]
  refine lv_aload_n hx hb dL_law_932 rfl (lv_at hl 6 rfl) ?_
  refine lv_iload hx hb dL_law_933 (lv_at hl 1 rfl) ?_
  refine lv_iconst (v := 3) hx hb dL_law_935 (by decide) ?_
  refine lv_iadd hx hb dL_law_936 ?_
  refine va_sld hx hb hX hbl hbA hS (inb (m := L) rfl (by omega) (by omega)) dL_law_937 ?_
  rw [ey6]
  refine lv_aload_n hx hb dL_law_938 rfl (lv_at hl 6 rfl) ?_
  refine lv_iload hx hb dL_law_939 (lv_at hl 1 rfl) ?_
  refine lv_iconst (v := 4) hx hb dL_law_941 (by decide) ?_
  refine lv_iadd hx hb dL_law_942 ?_
  refine va_sld hx hb hX hbl hbA hS (inb (m := L) rfl (by omega) (by omega)) dL_law_943 ?_
  rw [ey8]
  have hFc := free_all hD hS hA
  obtain ⟨k18, gk18, hk18⟩ := wGt (cy := cy) (XO c8 c9 qo qd f11 fd) S10 (xe16.A h_o1).1 (xe16.A h_o1).2.1
  refine va_calli (va_runV (As := [.int y2, .int y4, .int y6, .int y8]) (rest := []) ⟨hx, hb, hml, hown, hts⟩ (c_X12_bestPair l (cy := cy) (X := (XO c8 c9 qo qd f11 fd)) (D := D) S10 _ o1 (xe16.A h_o1) y2 y4 y6 y8 (w12.w)) (cwV 4 hts gL_law_X12_bestPair rfl rfl rfl hd_X12_bestPair ⟨Nat.le_of_ble_eq_true rfl, Nat.le_of_ble_eq_true rfl⟩) ⟨fun a U g mk q => ⟨q.1, q.2.1, q.2.2.1.calling, NW.same (u := U) (U := U.calling g mk a) rfl q.2.2.2⟩, va_recv hK hP (q := (RX12, TX12, 34)) (ci := 16) (q0 := k18) rfl hk18, fun U hU hW => ⟨rfl, by rw [hU], wd_pre hP hK hD hU hW, hN.warm hW⟩⟩ rfl rfl hl.1 rfl (lv_room (Nat.le_of_ble_eq_true rfl)) dL_law_944 ⟨by omega, by omega⟩) hS (fun q _ h => hFc q h) hFc (fun r17 u t H1 locs ht hvm hw hB hz1 hk1 hS => ?_)
  have w19 := hw
  obtain ⟨hP, hD⟩ := wd_post hFc ht hB
  generalize H1 = H at hP hS ⊢
  obtain ⟨S20, rfl⟩ : ∃ z, z = u := ⟨_, rfl⟩
  have v21 : IV S20 o1 := IV.keep w19 w12.w (xe16.A h_o1) (by decide) (by decide) v13
  have v22 : MV S20 o1 := MV.keep w19 w12.w (xe16.A h_o1) (by decide) (by decide) v14
  have v23 : (RG o2) S20 o1 := RG.keep w19 w12.w (xe16.A h_o1) (by decide) (by decide) v15
  have xe24 : ext S10 S20 := w19.x
  refine lv_istore (lv' := [(7, .int r17), (6, .int r9), (5, .int i), (4, .ref qd), (3, .ref qo), (2, .ref o1), (1, .ref o2), (0, .ref b)]) hx hb dL_law_947 hl (by decide) rfl (fun ls hl => ?_)
  refine lv_goto (tgt := 2924) hx hb dL_law_949 (by decide) ?_
  refine W.widen (k := cells + 40) (n := slots + 1200) (by omega) (by omega) ?_
  exact kk S20 f11 fd H _ ls ⟨hP, hD, w19.w, ((xe16.tr xe24).A h_o2), (xe24.A (xe16.A h_o1)), ((xe16.tr xe24).F h_o1 (by decide) h77), v22, v21, v23⟩ hS (lv_sub hl [2, 3, 4, 5, 6, 7] rfl)
set_option maxHeartbeats 4000000 in
set_option maxRecDepth 100000 in
theorem road_15 {p : Program} {l : Launch} {e : Env} {s : State} {m : MethodId} {below : List Frame} {meth : Method} {c : Code} {b L : Nat} {xs : Nat → Int32} {D : va_G} {cy : Nat → ClassId} {c8 c9 : ClassId} {e0 mi : Nat} {Q : State → Prop} {qo qd o1 o2 : Nat} (C0 : LC p l s m c b L xs D cy c8 c9 e0 mi) (hL9 : L ≤ 2560) {S : wPS} {fo : Nat → Int64} {fd : Nat → UInt64} {H : Heap} {locs : List Loc} {ls : Array Slot} {cells slots : Nat} {i : Int32} (hi : 0 ≤ i.toInt ∧ i.toInt + 5 ≤ L) (hI : LI D cy c8 c9 e0 (fun q => s.heap.size ≤ q) o1 o2 qo qd fo fd S H) (hS : va_S (fun q => s.heap.size ≤ q) s.heap H locs) (hc : cells + 40 ≤ room_1.cells) (hs : slots + 1200 ≤ room_1.slots) (hl : lv_has ls 9 [(5, .int i), (4, .ref qd), (3, .ref qo), (2, .ref o1), (1, .ref o2), (0, .ref b)]) (kk : ∀ (S2 : wPS) (fo2 : Nat → Int64) (fd2 : Nat → UInt64) (H2 : Heap) (locs2 : List Loc) (ls2 : Array Slot), LI D cy c8 c9 e0 (fun q => s.heap.size ≤ q) o1 o2 qo qd fo2 fd2 S2 H2 → va_S (fun q => s.heap.size ≤ q) s.heap H2 locs2 → lv_has ls2 9 [(5, .int i), (4, .ref qd), (3, .ref qo), (2, .ref o1), (1, .ref o2), (0, .ref b)] → W p l e room_1 s m #[Value.ref b] below meth c H2 locs2 (cells + 40) (slots + 1200) Q (F0 m 2924 ls2 [])) : W p l e room_1 s m #[Value.ref b] below meth c H locs cells slots Q (F0 m 952 ls []) := by
  obtain ⟨hx, hb, hml, hown, hts, hX, hbl, hN, hTH, hOU, hKX, hst, hNC⟩ := id C0
  obtain ⟨hP, hD, hW, h_o2, h_o1, h77, hMV, hIV, hR_RG⟩ := hI
  have hK := kX hKX
  have hA : ∀ q : Nat, s.heap.size ≤ q → (fun q : Nat => s.heap.size ≤ q) q := fun _ h => h
  have hbA : ¬ (fun q : Nat => s.heap.size ≤ q) b := Nat.not_le.mpr hbl
  refine lv_aload_n hx hb dL_law_952 rfl (lv_at hl 4 rfl) ?_
  refine lv_aload_n hx hb dL_law_953 rfl (lv_at hl 5 rfl) ?_
  refine lv_iload hx hb dL_law_954 (lv_at hl 0 rfl) ?_
  refine lv_iconst (v := 1) hx hb dL_law_956 (by decide) ?_
  refine lv_iadd hx hb dL_law_957 ?_
  have l32_1 : (1 : Int32).toInt = 1 := rfl
  have i1 : (i + (1 : Int32)).toInt = i.toInt + 1 := t_addr (n := 1) rfl (by omega)
  refine va_sld hx hb hX hbl hbA hS (inb (m := L) rfl (by omega) (by omega)) dL_law_958 ?_
  obtain ⟨y2, ey2⟩ : ∃ z : Int32, xs (i + (1 : Int32)).toNatClampNeg = z := ⟨_, rfl⟩
  rw [ey2]
  refine lv_aload_n hx hb dL_law_959 rfl (lv_at hl 5 rfl) ?_
  refine lv_iload hx hb dL_law_960 (lv_at hl 0 rfl) ?_
  refine lv_iconst (v := 2) hx hb dL_law_962 (by decide) ?_
  refine lv_iadd hx hb dL_law_963 ?_
  have l32_2 : (2 : Int32).toInt = 2 := rfl
  have i3 : (i + (2 : Int32)).toInt = i.toInt + 2 := t_addr (n := 2) rfl (by omega)
  refine va_sld hx hb hX hbl hbA hS (inb (m := L) rfl (by omega) (by omega)) dL_law_964 ?_
  obtain ⟨y4, ey4⟩ : ∃ z : Int32, xs (i + (2 : Int32)).toNatClampNeg = z := ⟨_, rfl⟩
  rw [ey4]
  refine lv_aload_n hx hb dL_law_965 rfl (lv_at hl 5 rfl) ?_
  refine lv_iload hx hb dL_law_966 (lv_at hl 0 rfl) ?_
  refine lv_iconst (v := 3) hx hb dL_law_968 (by decide) ?_
  refine lv_iadd hx hb dL_law_969 ?_
  have l32_3 : (3 : Int32).toInt = 3 := rfl
  have i5 : (i + (3 : Int32)).toInt = i.toInt + 3 := t_addr (n := 3) rfl (by omega)
  refine va_sld hx hb hX hbl hbA hS (inb (m := L) rfl (by omega) (by omega)) dL_law_970 ?_
  obtain ⟨y6, ey6⟩ : ∃ z : Int32, xs (i + (3 : Int32)).toNatClampNeg = z := ⟨_, rfl⟩
  rw [ey6]
  refine lv_aload_n hx hb dL_law_971 rfl (lv_at hl 5 rfl) ?_
  refine lv_iload hx hb dL_law_972 (lv_at hl 0 rfl) ?_
  refine lv_iconst (v := 4) hx hb dL_law_974 (by decide) ?_
  refine lv_iadd hx hb dL_law_975 ?_
  have l32_4 : (4 : Int32).toInt = 4 := rfl
  have i7 : (i + (4 : Int32)).toInt = i.toInt + 4 := t_addr (n := 4) rfl (by omega)
  refine va_sld hx hb hX hbl hbA hS (inb (m := L) rfl (by omega) (by omega)) dL_law_976 ?_
  obtain ⟨y8, ey8⟩ : ∃ z : Int32, xs (i + (4 : Int32)).toNatClampNeg = z := ⟨_, rfl⟩
  rw [ey8]
  refine lv_aload_n hx hb dL_law_977 rfl (lv_at hl 2 rfl) ?_
  have hFc := free_all hD hS hA
  refine va_calli (vx_runSW (As := [.ref o2, .int y2, .int y4, .int y6, .int y8, .ref qo]) (rest := []) ⟨hx, hb, hml, hown, hts⟩ (c_L_bestMate l hst (e0 := e0) (mi := mi) (D := D) (cy := cy) (c8 := c8) (c9 := c9) qo qd fo fd S _ o2 h_o2 y2 y4 y6 y8 (hW)) (vx_cwSW 6 hts gL_law_L_bestMate rfl rfl rfl (by decide +kernel) ⟨Nat.le_of_ble_eq_true rfl, Nat.le_of_ble_eq_true rfl⟩) ⟨fun a U g mk q => ⟨q.1, q.2.1, q.2.2.1.calling, NW.same (u := U) (U := U.calling g mk a) rfl q.2.2.2.1, q.2.2.2.2.1.calling, q.2.2.2.2.2.1.calling, q.2.2.2.2.2.2.calling⟩, fun U hU hW => ⟨rfl, by rw [hU], wx_pre hP hKX hD hU hW, hN.warm hW, th_pre hTH hS hFc hU hW, ou_pre hOU hS hFc hU hW, hNC.moved hW.alike⟩⟩ rfl rfl hl.1 rfl (lv_room (Nat.le_of_ble_eq_true rfl)) dL_law_978 ⟨by omega, by omega⟩) hS (fun q _ h => hFc q h) hFc (fun r9 u t H1 locs ht hvm hw hB hz1 hk1 hS => ?_)
  obtain ⟨S10, f11⟩ := u
  have w12 := hw
  obtain ⟨hP, hD⟩ := wx_post hFc ht hB
  generalize H1 = H at hP hS ⊢
  have w12 : stp [(8, 2), (8, 3), (8, 4)] [] [] S S10 := w12
  have v13 : IV S10 o1 := IV.keep w12 hW h_o1 (by decide) (by decide) hIV
  have v14 : MV S10 o1 := MV.keep w12 hW h_o1 (by decide) (by decide) hMV
  have v15 : (RG o2) S10 o1 := RG.keep w12 hW h_o1 (by decide) (by decide) hR_RG
  have xe16 : ext S S10 := w12.x
  refine lv_istore (lv' := [(6, .int r9), (5, .int i), (4, .ref qd), (3, .ref qo), (2, .ref o1), (1, .ref o2), (0, .ref b)]) hx hb dL_law_981 hl (by decide) rfl (fun ls hl => ?_)
  refine lv_aload_n hx hb dL_law_983 rfl (lv_at hl 4 rfl) ?_
  refine lv_aload_n hx hb dL_law_984 rfl (lv_at hl 6 rfl) ?_
  refine lv_iload hx hb dL_law_985 (lv_at hl 1 rfl) ?_
  refine lv_iconst (v := 1) hx hb dL_law_987 (by decide) ?_
  refine lv_iadd hx hb dL_law_988 ?_
  refine va_sld hx hb hX hbl hbA hS (inb (m := L) rfl (by omega) (by omega)) dL_law_989 ?_
  rw [ey2]
  refine lv_aload_n hx hb dL_law_990 rfl (lv_at hl 6 rfl) ?_
  refine lv_iload hx hb dL_law_991 (lv_at hl 1 rfl) ?_
  refine lv_iconst (v := 2) hx hb dL_law_993 (by decide) ?_
  refine lv_iadd hx hb dL_law_994 ?_
  refine va_sld hx hb hX hbl hbA hS (inb (m := L) rfl (by omega) (by omega)) dL_law_995 ?_
  rw [ey4]
  refine lv_aload_n hx hb dL_law_996 rfl (lv_at hl 6 rfl) ?_
  refine lv_iload hx hb dL_law_997 (lv_at hl 1 rfl) ?_
  refine lv_iconst (v := 3) hx hb dL_law_999 (by decide) ?_
  refine lv_iadd hx hb dL_law_1000 ?_
  refine va_sld hx hb hX hbl hbA hS (inb (m := L) rfl (by omega) (by omega)) dL_law_1001 ?_
  rw [ey6]
  refine lv_aload_n hx hb dL_law_1002 rfl (lv_at hl 6 rfl) ?_
  refine lv_iload hx hb dL_law_1003 (lv_at hl 1 rfl) ?_
  refine lv_iconst (v := 4) hx hb dL_law_1005 (by decide) ?_
  refine lv_iadd hx hb dL_law_1006 ?_
  refine va_sld hx hb hX hbl hbA hS (inb (m := L) rfl (by omega) (by omega)) dL_law_1007 ?_
  rw [ey8]
  have hFc := free_all hD hS hA
  obtain ⟨k18, gk18, hk18⟩ := wGt (cy := cy) (XO c8 c9 qo qd f11 fd) S10 (xe16.A h_o1).1 (xe16.A h_o1).2.1
  refine va_calli (va_runV (As := [.int y2, .int y4, .int y6, .int y8]) (rest := []) ⟨hx, hb, hml, hown, hts⟩ (c_X12_bestMate l (cy := cy) (X := (XO c8 c9 qo qd f11 fd)) (D := D) S10 _ o1 (xe16.A h_o1) y2 y4 y6 y8 (w12.w)) (cwV 4 hts gL_law_X12_bestMate rfl rfl rfl hd_X12_bestMate ⟨Nat.le_of_ble_eq_true rfl, Nat.le_of_ble_eq_true rfl⟩) ⟨fun a U g mk q => ⟨q.1, q.2.1, q.2.2.1.calling, NW.same (u := U) (U := U.calling g mk a) rfl q.2.2.2⟩, va_recv hK hP (q := (RX12, TX12, 34)) (ci := 16) (q0 := k18) rfl hk18, fun U hU hW => ⟨rfl, by rw [hU], wd_pre hP hK hD hU hW, hN.warm hW⟩⟩ rfl rfl hl.1 rfl (lv_room (Nat.le_of_ble_eq_true rfl)) dL_law_1008 ⟨by omega, by omega⟩) hS (fun q _ h => hFc q h) hFc (fun r17 u t H1 locs ht hvm hw hB hz1 hk1 hS => ?_)
  have w19 := hw
  obtain ⟨hP, hD⟩ := wd_post hFc ht hB
  generalize H1 = H at hP hS ⊢
  obtain ⟨S20, rfl⟩ : ∃ z, z = u := ⟨_, rfl⟩
  have v21 : IV S20 o1 := IV.keep w19 w12.w (xe16.A h_o1) (by decide) (by decide) v13
  have v22 : MV S20 o1 := MV.keep w19 w12.w (xe16.A h_o1) (by decide) (by decide) v14
  have v23 : (RG o2) S20 o1 := RG.keep w19 w12.w (xe16.A h_o1) (by decide) (by decide) v15
  have xe24 : ext S10 S20 := w19.x
  refine lv_istore (lv' := [(7, .int r17), (6, .int r9), (5, .int i), (4, .ref qd), (3, .ref qo), (2, .ref o1), (1, .ref o2), (0, .ref b)]) hx hb dL_law_1011 hl (by decide) rfl (fun ls hl => ?_)
  refine lv_goto (tgt := 2924) hx hb dL_law_1013 (by decide) ?_
  refine W.widen (k := cells + 40) (n := slots + 1200) (by omega) (by omega) ?_
  exact kk S20 f11 fd H _ ls ⟨hP, hD, w19.w, ((xe16.tr xe24).A h_o2), (xe24.A (xe16.A h_o1)), ((xe16.tr xe24).F h_o1 (by decide) h77), v22, v21, v23⟩ hS (lv_sub hl [2, 3, 4, 5, 6, 7] rfl)
