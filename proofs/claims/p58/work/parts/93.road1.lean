set_option maxHeartbeats 4000000 in
set_option maxRecDepth 100000 in
theorem road_0 {p : Program} {l : Launch} {e : Env} {s : State} {m : MethodId} {below : List Frame} {meth : Method} {c : Code} {b L : Nat} {xs : Nat → Int32} {D : va_G} {cy : Nat → ClassId} {c8 c9 : ClassId} {e0 mi : Nat} {Q : State → Prop} {qo qd o1 o2 : Nat} (C0 : LC p l s m c b L xs D cy c8 c9 e0 mi) (hL9 : L ≤ 2560) {S : wPS} {fo : Nat → Int64} {fd : Nat → UInt64} {H : Heap} {locs : List Loc} {ls : Array Slot} {cells slots : Nat} {i : Int32} (hi : 0 ≤ i.toInt ∧ i.toInt + 5 ≤ L) (hI : LI D cy c8 c9 e0 (fun q => s.heap.size ≤ q) o1 o2 qo qd fo fd S H) (hS : va_S (fun q => s.heap.size ≤ q) s.heap H locs) (hc : cells + 40 ≤ room_1.cells) (hs : slots + 1200 ≤ room_1.slots) (hl : lv_has ls 9 [(5, .int i), (4, .ref qd), (3, .ref qo), (2, .ref o1), (1, .ref o2), (0, .ref b)]) (kk : ∀ (S2 : wPS) (fo2 : Nat → Int64) (fd2 : Nat → UInt64) (H2 : Heap) (locs2 : List Loc) (ls2 : Array Slot), LI D cy c8 c9 e0 (fun q => s.heap.size ≤ q) o1 o2 qo qd fo2 fd2 S2 H2 → va_S (fun q => s.heap.size ≤ q) s.heap H2 locs2 → lv_has ls2 9 [(5, .int i), (4, .ref qd), (3, .ref qo), (2, .ref o1), (1, .ref o2), (0, .ref b)] → W p l e room_1 s m #[Value.ref b] below meth c H2 locs2 (cells + 40) (slots + 1200) Q (F0 m 2924 ls2 [])) : W p l e room_1 s m #[Value.ref b] below meth c H locs cells slots Q (F0 m 312 ls []) := by
  obtain ⟨hx, hb, hml, hown, hts, hX, hbl, hN, hTH, hOU, hKX, hst, hNC⟩ := id C0
  obtain ⟨hP, hD, hW, h_o2, h_o1, h77, hMV, hIV, hR_R55, hR_R58, hR_RLT⟩ := hI
  have hK := kX hKX
  have hA : ∀ q : Nat, s.heap.size ≤ q → (fun q : Nat => s.heap.size ≤ q) q := fun _ h => h
  have hbA : ¬ (fun q : Nat => s.heap.size ≤ q) b := Nat.not_le.mpr hbl
  refine lv_aload_n hx hb dL_law_312 rfl (lv_at hl 4 rfl) ?_
  refine lv_aload_n hx hb dL_law_313 rfl (lv_at hl 5 rfl) ?_
  refine lv_iload hx hb dL_law_314 (lv_at hl 0 rfl) ?_
  refine lv_iconst (v := 1) hx hb dL_law_316 (by decide) ?_
  refine lv_iadd hx hb dL_law_317 ?_
  have l32_1 : (1 : Int32).toInt = 1 := rfl
  have i1 : (i + (1 : Int32)).toInt = i.toInt + 1 := t_addr (n := 1) rfl (by omega)
  refine va_sld hx hb hX hbl hbA hS (inb (m := L) rfl (by omega) (by omega)) dL_law_318 ?_
  obtain ⟨y2, ey2⟩ : ∃ z : Int32, xs (i + (1 : Int32)).toNatClampNeg = z := ⟨_, rfl⟩
  rw [ey2]
  refine lv_aload_n hx hb dL_law_319 rfl (lv_at hl 5 rfl) ?_
  refine lv_iload hx hb dL_law_320 (lv_at hl 0 rfl) ?_
  refine lv_iconst (v := 2) hx hb dL_law_322 (by decide) ?_
  refine lv_iadd hx hb dL_law_323 ?_
  have l32_2 : (2 : Int32).toInt = 2 := rfl
  have i3 : (i + (2 : Int32)).toInt = i.toInt + 2 := t_addr (n := 2) rfl (by omega)
  refine va_sld hx hb hX hbl hbA hS (inb (m := L) rfl (by omega) (by omega)) dL_law_324 ?_
  obtain ⟨y4, ey4⟩ : ∃ z : Int32, xs (i + (2 : Int32)).toNatClampNeg = z := ⟨_, rfl⟩
  rw [ey4]
  refine lv_aload_n hx hb dL_law_325 rfl (lv_at hl 5 rfl) ?_
  refine lv_iload hx hb dL_law_326 (lv_at hl 0 rfl) ?_
  refine lv_iconst (v := 3) hx hb dL_law_328 (by decide) ?_
  refine lv_iadd hx hb dL_law_329 ?_
  have l32_3 : (3 : Int32).toInt = 3 := rfl
  have i5 : (i + (3 : Int32)).toInt = i.toInt + 3 := t_addr (n := 3) rfl (by omega)
  refine va_sld hx hb hX hbl hbA hS (inb (m := L) rfl (by omega) (by omega)) dL_law_330 ?_
  obtain ⟨y6, ey6⟩ : ∃ z : Int32, xs (i + (3 : Int32)).toNatClampNeg = z := ⟨_, rfl⟩
  rw [ey6]
  refine lv_aload_n hx hb dL_law_331 rfl (lv_at hl 5 rfl) ?_
  refine lv_iload hx hb dL_law_332 (lv_at hl 0 rfl) ?_
  refine lv_iconst (v := 4) hx hb dL_law_334 (by decide) ?_
  refine lv_iadd hx hb dL_law_335 ?_
  have l32_4 : (4 : Int32).toInt = 4 := rfl
  have i7 : (i + (4 : Int32)).toInt = i.toInt + 4 := t_addr (n := 4) rfl (by omega)
  refine va_sld hx hb hX hbl hbA hS (inb (m := L) rfl (by omega) (by omega)) dL_law_336 ?_
  obtain ⟨y8, ey8⟩ : ∃ z : Int32, xs (i + (4 : Int32)).toNatClampNeg = z := ⟨_, rfl⟩
  rw [ey8]
  refine lv_aload_n hx hb dL_law_337 rfl (lv_at hl 2 rfl) ?_
  have hFc := free_all hD hS hA
  refine va_calli (vx_runSW (As := [.ref o2, .int y2, .int y4, .int y6, .int y8, .ref qo]) (rest := []) ⟨hx, hb, hml, hown, hts⟩ (c_L_gear l hst (e0 := e0) (mi := mi) (D := D) (cy := cy) (c8 := c8) (c9 := c9) qo qd fo fd S _ o2 h_o2 y2 y4 y6 y8 (hW)) (vx_cwSW 6 hts gL_law_L_gear rfl rfl rfl (by decide +kernel) ⟨Nat.le_of_ble_eq_true rfl, Nat.le_of_ble_eq_true rfl⟩) ⟨fun a U g mk q => ⟨q.1, q.2.1, q.2.2.1.calling, NW.same (u := U) (U := U.calling g mk a) rfl q.2.2.2.1, q.2.2.2.2.1.calling, q.2.2.2.2.2.1.calling, q.2.2.2.2.2.2.calling⟩, fun U hU hW => ⟨rfl, by rw [hU], wx_pre hP hKX hD hU hW, hN.warm hW, th_pre hTH hS hFc hU hW, ou_pre hOU hS hFc hU hW, hNC.moved hW.alike⟩⟩ rfl rfl hl.1 rfl (lv_room (Nat.le_of_ble_eq_true rfl)) dL_law_338 ⟨by omega, by omega⟩) hS (fun q _ h => hFc q h) hFc (fun r9 u t H1 locs ht hvm hw hB hz1 hk1 hS => ?_)
  obtain ⟨S10, f11⟩ := u
  obtain ⟨w12, c13⟩ := hw
  obtain ⟨hP, hD⟩ := wx_post hFc ht hB
  generalize H1 = H at hP hS ⊢
  have w12 : stp [(9, 1), (19, 101)] [] [] S S10 := w12
  have v14 : IV S10 o1 := IV.keep w12 hW h_o1 (by decide) (by decide) hIV
  have v15 : MV S10 o1 := MV.keep w12 hW h_o1 (by decide) (by decide) hMV
  have v16 : (R55 o2) S10 o1 := R55.keep w12 hW h_o1 (by decide) (by decide) hR_R55
  have v17 : (R58 o2) S10 o1 := R58.keep w12 hW h_o1 (by decide) (by decide) hR_R58
  have xe19 : ext S S10 := w12.x
  refine lv_istore (lv' := [(6, .int r9), (5, .int i), (4, .ref qd), (3, .ref qo), (2, .ref o1), (1, .ref o2), (0, .ref b)]) hx hb dL_law_341 hl (by decide) rfl (fun ls hl => ?_)
  refine lv_aload_n hx hb dL_law_343 rfl (lv_at hl 4 rfl) ?_
  refine lv_aload_n hx hb dL_law_344 rfl (lv_at hl 6 rfl) ?_
  refine lv_iload hx hb dL_law_345 (lv_at hl 1 rfl) ?_
  refine lv_iconst (v := 1) hx hb dL_law_347 (by decide) ?_
  refine lv_iadd hx hb dL_law_348 ?_
  refine va_sld hx hb hX hbl hbA hS (inb (m := L) rfl (by omega) (by omega)) dL_law_349 ?_
  rw [ey2]
  refine lv_aload_n hx hb dL_law_350 rfl (lv_at hl 6 rfl) ?_
  refine lv_iload hx hb dL_law_351 (lv_at hl 1 rfl) ?_
  refine lv_iconst (v := 2) hx hb dL_law_353 (by decide) ?_
  refine lv_iadd hx hb dL_law_354 ?_
  refine va_sld hx hb hX hbl hbA hS (inb (m := L) rfl (by omega) (by omega)) dL_law_355 ?_
  rw [ey4]
  refine lv_aload_n hx hb dL_law_356 rfl (lv_at hl 6 rfl) ?_
  refine lv_iload hx hb dL_law_357 (lv_at hl 1 rfl) ?_
  refine lv_iconst (v := 3) hx hb dL_law_359 (by decide) ?_
  refine lv_iadd hx hb dL_law_360 ?_
  refine va_sld hx hb hX hbl hbA hS (inb (m := L) rfl (by omega) (by omega)) dL_law_361 ?_
  rw [ey6]
  refine lv_aload_n hx hb dL_law_362 rfl (lv_at hl 6 rfl) ?_
  refine lv_iload hx hb dL_law_363 (lv_at hl 1 rfl) ?_
  refine lv_iconst (v := 4) hx hb dL_law_365 (by decide) ?_
  refine lv_iadd hx hb dL_law_366 ?_
  refine va_sld hx hb hX hbl hbA hS (inb (m := L) rfl (by omega) (by omega)) dL_law_367 ?_
  rw [ey8]
  have hFc := free_all hD hS hA
  obtain ⟨k21, gk21, hk21⟩ := wGt (cy := cy) (XO c8 c9 qo qd f11 fd) S10 (xe19.A h_o1).1 (xe19.A h_o1).2.1
  refine va_calli (va_runV (As := [.int y2, .int y4, .int y6, .int y8]) (rest := []) ⟨hx, hb, hml, hown, hts⟩ (c_X12_gear l (e0 := e0) (mi := mi) (cy := cy) (X := (XO c8 c9 qo qd f11 fd)) (D := D) S10 _ o1 (xe19.A h_o1) y2 y4 y6 y8 (w12.w) (xe19.F h_o1 (by decide) h77)) (cwV 4 hts gL_law_X12_gear rfl rfl rfl hd_X12_gear ⟨Nat.le_of_ble_eq_true rfl, Nat.le_of_ble_eq_true rfl⟩) ⟨fun a U g mk q => ⟨q.1, q.2.1, q.2.2.1.calling, NW.same (u := U) (U := U.calling g mk a) rfl q.2.2.2.1, q.2.2.2.2.calling⟩, va_recv hK hP (q := (RX12, TX12, 34)) (ci := 16) (q0 := k21) rfl hk21, fun U hU hW => ⟨rfl, by rw [hU], wd_pre hP hK hD hU hW, hN.warm hW, ou_pre hOU hS hFc hU hW⟩⟩ rfl rfl hl.1 rfl (lv_room (Nat.le_of_ble_eq_true rfl)) dL_law_368 ⟨by omega, by omega⟩) hS (fun q _ h => hFc q h) hFc (fun r20 u t H1 locs ht hvm hw hB hz1 hk1 hS => ?_)
  obtain ⟨w22, y23, y24, y25, y26⟩ := hw
  obtain ⟨hP, hD⟩ := wd_post hFc ht hB
  generalize H1 = H at hP hS ⊢
  obtain ⟨S27, rfl⟩ : ∃ z, z = u := ⟨_, rfl⟩
  have v28 : IV S27 o1 := IV.keep w22 w12.w (xe19.A h_o1) (by decide) (by decide) v14
  have v29 : MV S27 o1 := MV.gear w22 w12.w (xe19.A h_o1) (by decide) y23 v15
  have v30 : (R55 o2) S27 o1 := R55.keep w22 w12.w (xe19.A h_o1) (by decide) (by decide) v16
  have v31 : (R58 o2) S27 o1 := R58.keep w22 w12.w (xe19.A h_o1) (by decide) (by decide) v17
  have xe33 : ext S10 S27 := w22.x
  refine lv_istore (lv' := [(7, .int r20), (6, .int r9), (5, .int i), (4, .ref qd), (3, .ref qo), (2, .ref o1), (1, .ref o2), (0, .ref b)]) hx hb dL_law_371 hl (by decide) rfl (fun ls hl => ?_)
  refine lv_goto (tgt := 2924) hx hb dL_law_373 (by decide) ?_
  refine W.widen (k := cells + 40) (n := slots + 1200) (by omega) (by omega) ?_
  have hR9_RLT := RLT.gear hR_RLT h_o1 hW w12 w22 c13 ⟨y24, y25, y26⟩
  exact kk S27 f11 fd H _ ls ⟨hP, hD, w22.w, ((xe19.tr xe33).A h_o2), (xe33.A (xe19.A h_o1)), ((xe19.tr xe33).F h_o1 (by decide) h77), v29, v28, v30, v31, hR9_RLT⟩ hS (lv_sub hl [2, 3, 4, 5, 6, 7] rfl)
set_option maxHeartbeats 4000000 in
set_option maxRecDepth 100000 in
theorem road_1 {p : Program} {l : Launch} {e : Env} {s : State} {m : MethodId} {below : List Frame} {meth : Method} {c : Code} {b L : Nat} {xs : Nat → Int32} {D : va_G} {cy : Nat → ClassId} {c8 c9 : ClassId} {e0 mi : Nat} {Q : State → Prop} {qo qd o1 o2 : Nat} (C0 : LC p l s m c b L xs D cy c8 c9 e0 mi) (hL9 : L ≤ 2560) {S : wPS} {fo : Nat → Int64} {fd : Nat → UInt64} {H : Heap} {locs : List Loc} {ls : Array Slot} {cells slots : Nat} {i : Int32} (hi : 0 ≤ i.toInt ∧ i.toInt + 5 ≤ L) (hI : LI D cy c8 c9 e0 (fun q => s.heap.size ≤ q) o1 o2 qo qd fo fd S H) (hS : va_S (fun q => s.heap.size ≤ q) s.heap H locs) (hc : cells + 40 ≤ room_1.cells) (hs : slots + 1200 ≤ room_1.slots) (hl : lv_has ls 9 [(5, .int i), (4, .ref qd), (3, .ref qo), (2, .ref o1), (1, .ref o2), (0, .ref b)]) (kk : ∀ (S2 : wPS) (fo2 : Nat → Int64) (fd2 : Nat → UInt64) (H2 : Heap) (locs2 : List Loc) (ls2 : Array Slot), LI D cy c8 c9 e0 (fun q => s.heap.size ≤ q) o1 o2 qo qd fo2 fd2 S2 H2 → va_S (fun q => s.heap.size ≤ q) s.heap H2 locs2 → lv_has ls2 9 [(5, .int i), (4, .ref qd), (3, .ref qo), (2, .ref o1), (1, .ref o2), (0, .ref b)] → W p l e room_1 s m #[Value.ref b] below meth c H2 locs2 (cells + 40) (slots + 1200) Q (F0 m 2924 ls2 [])) : W p l e room_1 s m #[Value.ref b] below meth c H locs cells slots Q (F0 m 376 ls []) := by
  obtain ⟨hx, hb, hml, hown, hts, hX, hbl, hN, hTH, hOU, hKX, hst, hNC⟩ := id C0
  obtain ⟨hP, hD, hW, h_o2, h_o1, h77, hMV, hIV, hR_R55, hR_R58, hR_RLT⟩ := hI
  have hK := kX hKX
  have hA : ∀ q : Nat, s.heap.size ≤ q → (fun q : Nat => s.heap.size ≤ q) q := fun _ h => h
  have hbA : ¬ (fun q : Nat => s.heap.size ≤ q) b := Nat.not_le.mpr hbl
  refine lv_aload_n hx hb dL_law_376 rfl (lv_at hl 4 rfl) ?_
  refine lv_aload_n hx hb dL_law_377 rfl (lv_at hl 5 rfl) ?_
  refine lv_iload hx hb dL_law_378 (lv_at hl 0 rfl) ?_
  refine lv_iconst (v := 1) hx hb dL_law_380 (by decide) ?_
  refine lv_iadd hx hb dL_law_381 ?_
  have l32_1 : (1 : Int32).toInt = 1 := rfl
  have i1 : (i + (1 : Int32)).toInt = i.toInt + 1 := t_addr (n := 1) rfl (by omega)
  refine va_sld hx hb hX hbl hbA hS (inb (m := L) rfl (by omega) (by omega)) dL_law_382 ?_
  obtain ⟨y2, ey2⟩ : ∃ z : Int32, xs (i + (1 : Int32)).toNatClampNeg = z := ⟨_, rfl⟩
  rw [ey2]
  refine lv_aload_n hx hb dL_law_383 rfl (lv_at hl 5 rfl) ?_
  refine lv_iload hx hb dL_law_384 (lv_at hl 0 rfl) ?_
  refine lv_iconst (v := 2) hx hb dL_law_386 (by decide) ?_
  refine lv_iadd hx hb dL_law_387 ?_
  have l32_2 : (2 : Int32).toInt = 2 := rfl
  have i3 : (i + (2 : Int32)).toInt = i.toInt + 2 := t_addr (n := 2) rfl (by omega)
  refine va_sld hx hb hX hbl hbA hS (inb (m := L) rfl (by omega) (by omega)) dL_law_388 ?_
  obtain ⟨y4, ey4⟩ : ∃ z : Int32, xs (i + (2 : Int32)).toNatClampNeg = z := ⟨_, rfl⟩
  rw [ey4]
  refine lv_aload_n hx hb dL_law_389 rfl (lv_at hl 2 rfl) ?_
  have hFc := free_all hD hS hA
  refine va_calli (vx_runSW (As := [.ref o2, .int y2, .int y4, .ref qo]) (rest := []) ⟨hx, hb, hml, hown, hts⟩ (c_L_setShift l hst (e0 := e0) (mi := mi) (D := D) (cy := cy) (c8 := c8) (c9 := c9) qo qd fo fd S _ o2 h_o2 y2 y4 (hW)) (vx_cwSW 4 hts gL_law_L_setShift rfl rfl rfl (by decide +kernel) ⟨Nat.le_of_ble_eq_true rfl, Nat.le_of_ble_eq_true rfl⟩) ⟨fun a U g mk q => ⟨q.1, q.2.1, q.2.2.1.calling, NW.same (u := U) (U := U.calling g mk a) rfl q.2.2.2.1, q.2.2.2.2.1.calling, q.2.2.2.2.2.1.calling, q.2.2.2.2.2.2.calling⟩, fun U hU hW => ⟨rfl, by rw [hU], wx_pre hP hKX hD hU hW, hN.warm hW, th_pre hTH hS hFc hU hW, ou_pre hOU hS hFc hU hW, hNC.moved hW.alike⟩⟩ rfl rfl hl.1 rfl (lv_room (Nat.le_of_ble_eq_true rfl)) dL_law_390 ⟨by omega, by omega⟩) hS (fun q _ h => hFc q h) hFc (fun r5 u t H1 locs ht hvm hw hB hz1 hk1 hS => ?_)
  obtain ⟨S6, f7⟩ := u
  have w8 := hw
  obtain ⟨hP, hD⟩ := wx_post hFc ht hB
  generalize H1 = H at hP hS ⊢
  have w8 : stp [(2, 7)] [] [] S S6 := w8
  have v9 : IV S6 o1 := IV.keep w8 hW h_o1 (by decide) (by decide) hIV
  have v10 : MV S6 o1 := MV.keep w8 hW h_o1 (by decide) (by decide) hMV
  have v11 : (R55 o2) S6 o1 := R55.keep w8 hW h_o1 (by decide) (by decide) hR_R55
  have v12 : (R58 o2) S6 o1 := R58.keep w8 hW h_o1 (by decide) (by decide) hR_R58
  have v13 : (RLT o2) S6 o1 := RLT.keep w8 hW h_o1 (by decide) (by decide) hR_RLT
  have xe14 : ext S S6 := w8.x
  refine lv_istore (lv' := [(6, .int r5), (5, .int i), (4, .ref qd), (3, .ref qo), (2, .ref o1), (1, .ref o2), (0, .ref b)]) hx hb dL_law_393 hl (by decide) rfl (fun ls hl => ?_)
  refine lv_aload_n hx hb dL_law_395 rfl (lv_at hl 4 rfl) ?_
  refine lv_aload_n hx hb dL_law_396 rfl (lv_at hl 6 rfl) ?_
  refine lv_iload hx hb dL_law_397 (lv_at hl 1 rfl) ?_
  refine lv_iconst (v := 1) hx hb dL_law_399 (by decide) ?_
  refine lv_iadd hx hb dL_law_400 ?_
  refine va_sld hx hb hX hbl hbA hS (inb (m := L) rfl (by omega) (by omega)) dL_law_401 ?_
  rw [ey2]
  refine lv_aload_n hx hb dL_law_402 rfl (lv_at hl 6 rfl) ?_
  refine lv_iload hx hb dL_law_403 (lv_at hl 1 rfl) ?_
  refine lv_iconst (v := 2) hx hb dL_law_405 (by decide) ?_
  refine lv_iadd hx hb dL_law_406 ?_
  refine va_sld hx hb hX hbl hbA hS (inb (m := L) rfl (by omega) (by omega)) dL_law_407 ?_
  rw [ey4]
  have hFc := free_all hD hS hA
  obtain ⟨k16, gk16, hk16⟩ := wGt (cy := cy) (XO c8 c9 qo qd f7 fd) S6 (xe14.A h_o1).1 (xe14.A h_o1).2.1
  refine va_calli (va_runV (As := [.int y2, .int y4]) (rest := []) ⟨hx, hb, hml, hown, hts⟩ (c_X12_setShift l (cy := cy) (X := (XO c8 c9 qo qd f7 fd)) (D := D) S6 _ o1 (xe14.A h_o1) y2 y4 (w8.w)) (cwV 2 hts gL_law_X12_setShift rfl rfl rfl hd_X12_setShift ⟨Nat.le_of_ble_eq_true rfl, Nat.le_of_ble_eq_true rfl⟩) ⟨fun a U g mk q => ⟨q.1, q.2.1, q.2.2.1.calling, NW.same (u := U) (U := U.calling g mk a) rfl q.2.2.2⟩, va_recv hK hP (q := (RX12, TX12, 34)) (ci := 16) (q0 := k16) rfl hk16, fun U hU hW => ⟨rfl, by rw [hU], wd_pre hP hK hD hU hW, hN.warm hW⟩⟩ rfl rfl hl.1 rfl (lv_room (Nat.le_of_ble_eq_true rfl)) dL_law_408 ⟨by omega, by omega⟩) hS (fun q _ h => hFc q h) hFc (fun r15 u t H1 locs ht hvm hw hB hz1 hk1 hS => ?_)
  obtain ⟨c17, w18⟩ := hw
  obtain ⟨hP, hD⟩ := wd_post hFc ht hB
  generalize H1 = H at hP hS ⊢
  obtain ⟨S19, rfl⟩ : ∃ z, z = u := ⟨_, rfl⟩
  have v20 : IV S19 o1 := IV.keep w18 w8.w (xe14.A h_o1) (by decide) (by decide) v9
  have v21 : MV S19 o1 := MV.keep w18 w8.w (xe14.A h_o1) (by decide) (by decide) v10
  have v22 : (R55 o2) S19 o1 := R55.keep w18 w8.w (xe14.A h_o1) (by decide) (by decide) v11
  have v23 : (R58 o2) S19 o1 := R58.keep w18 w8.w (xe14.A h_o1) (by decide) (by decide) v12
  have v24 : (RLT o2) S19 o1 := RLT.keep w18 w8.w (xe14.A h_o1) (by decide) (by decide) v13
  have xe25 : ext S6 S19 := w18.x
  refine lv_istore (lv' := [(7, .int r15), (6, .int r5), (5, .int i), (4, .ref qd), (3, .ref qo), (2, .ref o1), (1, .ref o2), (0, .ref b)]) hx hb dL_law_411 hl (by decide) rfl (fun ls hl => ?_)
  refine lv_goto (tgt := 2924) hx hb dL_law_413 (by decide) ?_
  refine W.widen (k := cells + 40) (n := slots + 1200) (by omega) (by omega) ?_
  exact kk S19 f7 fd H _ ls ⟨hP, hD, w18.w, ((xe14.tr xe25).A h_o2), (xe25.A (xe14.A h_o1)), ((xe14.tr xe25).F h_o1 (by decide) h77), v21, v20, v22, v23, v24⟩ hS (lv_sub hl [2, 3, 4, 5, 6, 7] rfl)
set_option maxHeartbeats 4000000 in
set_option maxRecDepth 100000 in
theorem road_2 {p : Program} {l : Launch} {e : Env} {s : State} {m : MethodId} {below : List Frame} {meth : Method} {c : Code} {b L : Nat} {xs : Nat → Int32} {D : va_G} {cy : Nat → ClassId} {c8 c9 : ClassId} {e0 mi : Nat} {Q : State → Prop} {qo qd o1 o2 : Nat} (C0 : LC p l s m c b L xs D cy c8 c9 e0 mi) (hL9 : L ≤ 2560) {S : wPS} {fo : Nat → Int64} {fd : Nat → UInt64} {H : Heap} {locs : List Loc} {ls : Array Slot} {cells slots : Nat} {i : Int32} (hi : 0 ≤ i.toInt ∧ i.toInt + 5 ≤ L) (hI : LI D cy c8 c9 e0 (fun q => s.heap.size ≤ q) o1 o2 qo qd fo fd S H) (hS : va_S (fun q => s.heap.size ≤ q) s.heap H locs) (hc : cells + 40 ≤ room_1.cells) (hs : slots + 1200 ≤ room_1.slots) (hl : lv_has ls 9 [(5, .int i), (4, .ref qd), (3, .ref qo), (2, .ref o1), (1, .ref o2), (0, .ref b)]) (kk : ∀ (S2 : wPS) (fo2 : Nat → Int64) (fd2 : Nat → UInt64) (H2 : Heap) (locs2 : List Loc) (ls2 : Array Slot), LI D cy c8 c9 e0 (fun q => s.heap.size ≤ q) o1 o2 qo qd fo2 fd2 S2 H2 → va_S (fun q => s.heap.size ≤ q) s.heap H2 locs2 → lv_has ls2 9 [(5, .int i), (4, .ref qd), (3, .ref qo), (2, .ref o1), (1, .ref o2), (0, .ref b)] → W p l e room_1 s m #[Value.ref b] below meth c H2 locs2 (cells + 40) (slots + 1200) Q (F0 m 2924 ls2 [])) : W p l e room_1 s m #[Value.ref b] below meth c H locs cells slots Q (F0 m 416 ls []) := by
  obtain ⟨hx, hb, hml, hown, hts, hX, hbl, hN, hTH, hOU, hKX, hst, hNC⟩ := id C0
  obtain ⟨hP, hD, hW, h_o2, h_o1, h77, hMV, hIV, hR_R55, hR_R58, hR_RLT⟩ := hI
  have hK := kX hKX
  have hA : ∀ q : Nat, s.heap.size ≤ q → (fun q : Nat => s.heap.size ≤ q) q := fun _ h => h
  have hbA : ¬ (fun q : Nat => s.heap.size ≤ q) b := Nat.not_le.mpr hbl
  refine lv_aload_n hx hb dL_law_416 rfl (lv_at hl 4 rfl) ?_
  refine lv_aload_n hx hb dL_law_417 rfl (lv_at hl 5 rfl) ?_
  refine lv_iload hx hb dL_law_418 (lv_at hl 0 rfl) ?_
  refine lv_iconst (v := 1) hx hb dL_law_420 (by decide) ?_
  refine lv_iadd hx hb dL_law_421 ?_
  have l32_1 : (1 : Int32).toInt = 1 := rfl
  have i1 : (i + (1 : Int32)).toInt = i.toInt + 1 := t_addr (n := 1) rfl (by omega)
  refine va_sld hx hb hX hbl hbA hS (inb (m := L) rfl (by omega) (by omega)) dL_law_422 ?_
  obtain ⟨y2, ey2⟩ : ∃ z : Int32, xs (i + (1 : Int32)).toNatClampNeg = z := ⟨_, rfl⟩
  rw [ey2]
  refine lv_aload_n hx hb dL_law_423 rfl (lv_at hl 2 rfl) ?_
  have hFc := free_all hD hS hA
  refine va_calli (vx_runSW (As := [.ref o2, .int y2, .ref qo]) (rest := []) ⟨hx, hb, hml, hown, hts⟩ (c_L_diameter l hst (e0 := e0) (mi := mi) (D := D) (cy := cy) (c8 := c8) (c9 := c9) qo qd fo fd S _ o2 h_o2 y2 (hW)) (vx_cwSW 3 hts gL_law_L_diameter rfl rfl rfl (by decide +kernel) ⟨Nat.le_of_ble_eq_true rfl, Nat.le_of_ble_eq_true rfl⟩) ⟨fun a U g mk q => ⟨q.1, q.2.1, q.2.2.1.calling, NW.same (u := U) (U := U.calling g mk a) rfl q.2.2.2.1, q.2.2.2.2.1.calling, q.2.2.2.2.2.1.calling, q.2.2.2.2.2.2.calling⟩, fun U hU hW => ⟨rfl, by rw [hU], wx_pre hP hKX hD hU hW, hN.warm hW, th_pre hTH hS hFc hU hW, ou_pre hOU hS hFc hU hW, hNC.moved hW.alike⟩⟩ rfl rfl hl.1 rfl (lv_room (Nat.le_of_ble_eq_true rfl)) dL_law_424 ⟨by omega, by omega⟩) hS (fun q _ h => hFc q h) hFc (fun r3 u t H1 locs ht hvm hw hB hz1 hk1 hS => ?_)
  obtain ⟨S4, f5⟩ := u
  have w6 := hw
  obtain ⟨hP, hD⟩ := wx_post hFc ht hB
  generalize H1 = H at hP hS ⊢
  have w6 : stp ([] : List (Nat × Nat)) [] [] S S4 := w6
  have v7 : IV S4 o1 := IV.keep w6 hW h_o1 (by decide) (by decide) hIV
  have v8 : MV S4 o1 := MV.keep w6 hW h_o1 (by decide) (by decide) hMV
  have v9 : (R55 o2) S4 o1 := R55.keep w6 hW h_o1 (by decide) (by decide) hR_R55
  have v10 : (R58 o2) S4 o1 := R58.keep w6 hW h_o1 (by decide) (by decide) hR_R58
  have v11 : (RLT o2) S4 o1 := RLT.keep w6 hW h_o1 (by decide) (by decide) hR_RLT
  have xe12 : ext S S4 := w6.x
  refine lv_istore (lv' := [(6, .int r3), (5, .int i), (4, .ref qd), (3, .ref qo), (2, .ref o1), (1, .ref o2), (0, .ref b)]) hx hb dL_law_427 hl (by decide) rfl (fun ls hl => ?_)
  refine lv_aload_n hx hb dL_law_429 rfl (lv_at hl 4 rfl) ?_
  refine lv_aload_n hx hb dL_law_430 rfl (lv_at hl 6 rfl) ?_
  refine lv_iload hx hb dL_law_431 (lv_at hl 1 rfl) ?_
  refine lv_iconst (v := 1) hx hb dL_law_433 (by decide) ?_
  refine lv_iadd hx hb dL_law_434 ?_
  refine va_sld hx hb hX hbl hbA hS (inb (m := L) rfl (by omega) (by omega)) dL_law_435 ?_
  rw [ey2]
  have hFc := free_all hD hS hA
  obtain ⟨k14, gk14, hk14⟩ := wGt (cy := cy) (XO c8 c9 qo qd f5 fd) S4 (xe12.A h_o1).1 (xe12.A h_o1).2.1
  refine va_calli (va_runV (As := [.int y2]) (rest := []) ⟨hx, hb, hml, hown, hts⟩ (c_X12_diameter l (cy := cy) (X := (XO c8 c9 qo qd f5 fd)) (D := D) S4 _ o1 (xe12.A h_o1) y2 (w6.w)) (cwV 1 hts gL_law_X12_diameter rfl rfl rfl hd_X12_diameter ⟨Nat.le_of_ble_eq_true rfl, Nat.le_of_ble_eq_true rfl⟩) ⟨fun a U g mk q => ⟨q.1, q.2.1, q.2.2.1.calling, NW.same (u := U) (U := U.calling g mk a) rfl q.2.2.2⟩, va_recv hK hP (q := (RX12, TX12, 34)) (ci := 16) (q0 := k14) rfl hk14, fun U hU hW => ⟨rfl, by rw [hU], wd_pre hP hK hD hU hW, hN.warm hW⟩⟩ rfl rfl hl.1 rfl (lv_room (Nat.le_of_ble_eq_true rfl)) dL_law_436 ⟨by omega, by omega⟩) hS (fun q _ h => hFc q h) hFc (fun r13 u t H1 locs ht hvm hw hB hz1 hk1 hS => ?_)
  obtain ⟨c15, w16⟩ := hw
  obtain ⟨hP, hD⟩ := wd_post hFc ht hB
  generalize H1 = H at hP hS ⊢
  obtain ⟨S17, rfl⟩ : ∃ z, z = u := ⟨_, rfl⟩
  have v18 : IV S17 o1 := IV.keep w16 w6.w (xe12.A h_o1) (by decide) (by decide) v7
  have v19 : MV S17 o1 := MV.keep w16 w6.w (xe12.A h_o1) (by decide) (by decide) v8
  have v20 : (R55 o2) S17 o1 := R55.keep w16 w6.w (xe12.A h_o1) (by decide) (by decide) v9
  have v21 : (R58 o2) S17 o1 := R58.keep w16 w6.w (xe12.A h_o1) (by decide) (by decide) v10
  have v22 : (RLT o2) S17 o1 := RLT.keep w16 w6.w (xe12.A h_o1) (by decide) (by decide) v11
  have xe23 : ext S4 S17 := w16.x
  refine lv_istore (lv' := [(7, .int r13), (6, .int r3), (5, .int i), (4, .ref qd), (3, .ref qo), (2, .ref o1), (1, .ref o2), (0, .ref b)]) hx hb dL_law_439 hl (by decide) rfl (fun ls hl => ?_)
  refine lv_goto (tgt := 2924) hx hb dL_law_441 (by decide) ?_
  refine W.widen (k := cells + 40) (n := slots + 1200) (by omega) (by omega) ?_
  exact kk S17 f5 fd H _ ls ⟨hP, hD, w16.w, ((xe12.tr xe23).A h_o2), (xe23.A (xe12.A h_o1)), ((xe12.tr xe23).F h_o1 (by decide) h77), v19, v18, v20, v21, v22⟩ hS (lv_sub hl [2, 3, 4, 5, 6, 7] rfl)
set_option maxHeartbeats 4000000 in
set_option maxRecDepth 100000 in
theorem road_3 {p : Program} {l : Launch} {e : Env} {s : State} {m : MethodId} {below : List Frame} {meth : Method} {c : Code} {b L : Nat} {xs : Nat → Int32} {D : va_G} {cy : Nat → ClassId} {c8 c9 : ClassId} {e0 mi : Nat} {Q : State → Prop} {qo qd o1 o2 : Nat} (C0 : LC p l s m c b L xs D cy c8 c9 e0 mi) (hL9 : L ≤ 2560) {S : wPS} {fo : Nat → Int64} {fd : Nat → UInt64} {H : Heap} {locs : List Loc} {ls : Array Slot} {cells slots : Nat} {i : Int32} (hi : 0 ≤ i.toInt ∧ i.toInt + 5 ≤ L) (hI : LI D cy c8 c9 e0 (fun q => s.heap.size ≤ q) o1 o2 qo qd fo fd S H) (hS : va_S (fun q => s.heap.size ≤ q) s.heap H locs) (hc : cells + 40 ≤ room_1.cells) (hs : slots + 1200 ≤ room_1.slots) (hl : lv_has ls 9 [(5, .int i), (4, .ref qd), (3, .ref qo), (2, .ref o1), (1, .ref o2), (0, .ref b)]) (kk : ∀ (S2 : wPS) (fo2 : Nat → Int64) (fd2 : Nat → UInt64) (H2 : Heap) (locs2 : List Loc) (ls2 : Array Slot), LI D cy c8 c9 e0 (fun q => s.heap.size ≤ q) o1 o2 qo qd fo2 fd2 S2 H2 → va_S (fun q => s.heap.size ≤ q) s.heap H2 locs2 → lv_has ls2 9 [(5, .int i), (4, .ref qd), (3, .ref qo), (2, .ref o1), (1, .ref o2), (0, .ref b)] → W p l e room_1 s m #[Value.ref b] below meth c H2 locs2 (cells + 40) (slots + 1200) Q (F0 m 2924 ls2 [])) : W p l e room_1 s m #[Value.ref b] below meth c H locs cells slots Q (F0 m 444 ls []) := by
  obtain ⟨hx, hb, hml, hown, hts, hX, hbl, hN, hTH, hOU, hKX, hst, hNC⟩ := id C0
  obtain ⟨hP, hD, hW, h_o2, h_o1, h77, hMV, hIV, hR_R55, hR_R58, hR_RLT⟩ := hI
  have hK := kX hKX
  have hA : ∀ q : Nat, s.heap.size ≤ q → (fun q : Nat => s.heap.size ≤ q) q := fun _ h => h
  have hbA : ¬ (fun q : Nat => s.heap.size ≤ q) b := Nat.not_le.mpr hbl
  refine lv_aload_n hx hb dL_law_444 rfl (lv_at hl 4 rfl) ?_
  refine lv_aload_n hx hb dL_law_445 rfl (lv_at hl 5 rfl) ?_
  refine lv_iload hx hb dL_law_446 (lv_at hl 0 rfl) ?_
  refine lv_iconst (v := 1) hx hb dL_law_448 (by decide) ?_
  refine lv_iadd hx hb dL_law_449 ?_
  have l32_1 : (1 : Int32).toInt = 1 := rfl
  have i1 : (i + (1 : Int32)).toInt = i.toInt + 1 := t_addr (n := 1) rfl (by omega)
  refine va_sld hx hb hX hbl hbA hS (inb (m := L) rfl (by omega) (by omega)) dL_law_450 ?_
  obtain ⟨y2, ey2⟩ : ∃ z : Int32, xs (i + (1 : Int32)).toNatClampNeg = z := ⟨_, rfl⟩
  rw [ey2]
  refine lv_aload_n hx hb dL_law_451 rfl (lv_at hl 2 rfl) ?_
  have hFc := free_all hD hS hA
  refine va_calli (vx_runSW (As := [.ref o2, .int y2, .ref qo]) (rest := []) ⟨hx, hb, hml, hown, hts⟩ (c_L_tip l hst (e0 := e0) (mi := mi) (D := D) (cy := cy) (c8 := c8) (c9 := c9) qo qd fo fd S _ o2 h_o2 y2 (hW)) (vx_cwSW 3 hts gL_law_L_tip rfl rfl rfl (by decide +kernel) ⟨Nat.le_of_ble_eq_true rfl, Nat.le_of_ble_eq_true rfl⟩) ⟨fun a U g mk q => ⟨q.1, q.2.1, q.2.2.1.calling, NW.same (u := U) (U := U.calling g mk a) rfl q.2.2.2.1, q.2.2.2.2.1.calling, q.2.2.2.2.2.1.calling, q.2.2.2.2.2.2.calling⟩, fun U hU hW => ⟨rfl, by rw [hU], wx_pre hP hKX hD hU hW, hN.warm hW, th_pre hTH hS hFc hU hW, ou_pre hOU hS hFc hU hW, hNC.moved hW.alike⟩⟩ rfl rfl hl.1 rfl (lv_room (Nat.le_of_ble_eq_true rfl)) dL_law_452 ⟨by omega, by omega⟩) hS (fun q _ h => hFc q h) hFc (fun r3 u t H1 locs ht hvm hw hB hz1 hk1 hS => ?_)
  obtain ⟨S4, f5⟩ := u
  have w6 := hw
  obtain ⟨hP, hD⟩ := wx_post hFc ht hB
  generalize H1 = H at hP hS ⊢
  have w6 : stp ([] : List (Nat × Nat)) [] [] S S4 := w6
  have v7 : IV S4 o1 := IV.keep w6 hW h_o1 (by decide) (by decide) hIV
  have v8 : MV S4 o1 := MV.keep w6 hW h_o1 (by decide) (by decide) hMV
  have v9 : (R55 o2) S4 o1 := R55.keep w6 hW h_o1 (by decide) (by decide) hR_R55
  have v10 : (R58 o2) S4 o1 := R58.keep w6 hW h_o1 (by decide) (by decide) hR_R58
  have v11 : (RLT o2) S4 o1 := RLT.keep w6 hW h_o1 (by decide) (by decide) hR_RLT
  have xe12 : ext S S4 := w6.x
  refine lv_istore (lv' := [(6, .int r3), (5, .int i), (4, .ref qd), (3, .ref qo), (2, .ref o1), (1, .ref o2), (0, .ref b)]) hx hb dL_law_455 hl (by decide) rfl (fun ls hl => ?_)
  refine lv_aload_n hx hb dL_law_457 rfl (lv_at hl 4 rfl) ?_
  refine lv_aload_n hx hb dL_law_458 rfl (lv_at hl 6 rfl) ?_
  refine lv_iload hx hb dL_law_459 (lv_at hl 1 rfl) ?_
  refine lv_iconst (v := 1) hx hb dL_law_461 (by decide) ?_
  refine lv_iadd hx hb dL_law_462 ?_
  refine va_sld hx hb hX hbl hbA hS (inb (m := L) rfl (by omega) (by omega)) dL_law_463 ?_
  rw [ey2]
  have hFc := free_all hD hS hA
  obtain ⟨k14, gk14, hk14⟩ := wGt (cy := cy) (XO c8 c9 qo qd f5 fd) S4 (xe12.A h_o1).1 (xe12.A h_o1).2.1
  refine va_calli (va_runV (As := [.int y2]) (rest := []) ⟨hx, hb, hml, hown, hts⟩ (c_X12_tip l (cy := cy) (X := (XO c8 c9 qo qd f5 fd)) (D := D) S4 _ o1 (xe12.A h_o1) y2 (w6.w)) (cwV 1 hts gL_law_X12_tip rfl rfl rfl hd_X12_tip ⟨Nat.le_of_ble_eq_true rfl, Nat.le_of_ble_eq_true rfl⟩) ⟨fun a U g mk q => ⟨q.1, q.2.1, q.2.2.1.calling, NW.same (u := U) (U := U.calling g mk a) rfl q.2.2.2⟩, va_recv hK hP (q := (RX12, TX12, 34)) (ci := 16) (q0 := k14) rfl hk14, fun U hU hW => ⟨rfl, by rw [hU], wd_pre hP hK hD hU hW, hN.warm hW⟩⟩ rfl rfl hl.1 rfl (lv_room (Nat.le_of_ble_eq_true rfl)) dL_law_464 ⟨by omega, by omega⟩) hS (fun q _ h => hFc q h) hFc (fun r13 u t H1 locs ht hvm hw hB hz1 hk1 hS => ?_)
  obtain ⟨c15, w16⟩ := hw
  obtain ⟨hP, hD⟩ := wd_post hFc ht hB
  generalize H1 = H at hP hS ⊢
  obtain ⟨S17, rfl⟩ : ∃ z, z = u := ⟨_, rfl⟩
  have v18 : IV S17 o1 := IV.keep w16 w6.w (xe12.A h_o1) (by decide) (by decide) v7
  have v19 : MV S17 o1 := MV.keep w16 w6.w (xe12.A h_o1) (by decide) (by decide) v8
  have v20 : (R55 o2) S17 o1 := R55.keep w16 w6.w (xe12.A h_o1) (by decide) (by decide) v9
  have v21 : (R58 o2) S17 o1 := R58.keep w16 w6.w (xe12.A h_o1) (by decide) (by decide) v10
  have v22 : (RLT o2) S17 o1 := RLT.keep w16 w6.w (xe12.A h_o1) (by decide) (by decide) v11
  have xe23 : ext S4 S17 := w16.x
  refine lv_istore (lv' := [(7, .int r13), (6, .int r3), (5, .int i), (4, .ref qd), (3, .ref qo), (2, .ref o1), (1, .ref o2), (0, .ref b)]) hx hb dL_law_467 hl (by decide) rfl (fun ls hl => ?_)
  refine lv_goto (tgt := 2924) hx hb dL_law_469 (by decide) ?_
  refine W.widen (k := cells + 40) (n := slots + 1200) (by omega) (by omega) ?_
  exact kk S17 f5 fd H _ ls ⟨hP, hD, w16.w, ((xe12.tr xe23).A h_o2), (xe23.A (xe12.A h_o1)), ((xe12.tr xe23).F h_o1 (by decide) h77), v19, v18, v20, v21, v22⟩ hS (lv_sub hl [2, 3, 4, 5, 6, 7] rfl)
set_option maxHeartbeats 4000000 in
set_option maxRecDepth 100000 in
theorem road_4 {p : Program} {l : Launch} {e : Env} {s : State} {m : MethodId} {below : List Frame} {meth : Method} {c : Code} {b L : Nat} {xs : Nat → Int32} {D : va_G} {cy : Nat → ClassId} {c8 c9 : ClassId} {e0 mi : Nat} {Q : State → Prop} {qo qd o1 o2 : Nat} (C0 : LC p l s m c b L xs D cy c8 c9 e0 mi) (hL9 : L ≤ 2560) {S : wPS} {fo : Nat → Int64} {fd : Nat → UInt64} {H : Heap} {locs : List Loc} {ls : Array Slot} {cells slots : Nat} {i : Int32} (hi : 0 ≤ i.toInt ∧ i.toInt + 5 ≤ L) (hI : LI D cy c8 c9 e0 (fun q => s.heap.size ≤ q) o1 o2 qo qd fo fd S H) (hS : va_S (fun q => s.heap.size ≤ q) s.heap H locs) (hc : cells + 40 ≤ room_1.cells) (hs : slots + 1200 ≤ room_1.slots) (hl : lv_has ls 9 [(5, .int i), (4, .ref qd), (3, .ref qo), (2, .ref o1), (1, .ref o2), (0, .ref b)]) (kk : ∀ (S2 : wPS) (fo2 : Nat → Int64) (fd2 : Nat → UInt64) (H2 : Heap) (locs2 : List Loc) (ls2 : Array Slot), LI D cy c8 c9 e0 (fun q => s.heap.size ≤ q) o1 o2 qo qd fo2 fd2 S2 H2 → va_S (fun q => s.heap.size ≤ q) s.heap H2 locs2 → lv_has ls2 9 [(5, .int i), (4, .ref qd), (3, .ref qo), (2, .ref o1), (1, .ref o2), (0, .ref b)] → W p l e room_1 s m #[Value.ref b] below meth c H2 locs2 (cells + 40) (slots + 1200) Q (F0 m 2924 ls2 [])) : W p l e room_1 s m #[Value.ref b] below meth c H locs cells slots Q (F0 m 472 ls []) := by
  obtain ⟨hx, hb, hml, hown, hts, hX, hbl, hN, hTH, hOU, hKX, hst, hNC⟩ := id C0
  obtain ⟨hP, hD, hW, h_o2, h_o1, h77, hMV, hIV, hR_R55, hR_R58, hR_RLT⟩ := hI
  have hK := kX hKX
  have hA : ∀ q : Nat, s.heap.size ≤ q → (fun q : Nat => s.heap.size ≤ q) q := fun _ h => h
  have hbA : ¬ (fun q : Nat => s.heap.size ≤ q) b := Nat.not_le.mpr hbl
  refine lv_aload_n hx hb dL_law_472 rfl (lv_at hl 4 rfl) ?_
  refine lv_aload_n hx hb dL_law_473 rfl (lv_at hl 5 rfl) ?_
  refine lv_iload hx hb dL_law_474 (lv_at hl 0 rfl) ?_
  refine lv_iconst (v := 1) hx hb dL_law_476 (by decide) ?_
  refine lv_iadd hx hb dL_law_477 ?_
  have l32_1 : (1 : Int32).toInt = 1 := rfl
  have i1 : (i + (1 : Int32)).toInt = i.toInt + 1 := t_addr (n := 1) rfl (by omega)
  refine va_sld hx hb hX hbl hbA hS (inb (m := L) rfl (by omega) (by omega)) dL_law_478 ?_
  obtain ⟨y2, ey2⟩ : ∃ z : Int32, xs (i + (1 : Int32)).toNatClampNeg = z := ⟨_, rfl⟩
  rw [ey2]
  refine lv_aload_n hx hb dL_law_479 rfl (lv_at hl 2 rfl) ?_
  have hFc := free_all hD hS hA
  refine va_calli (vx_runSW (As := [.ref o2, .int y2, .ref qo]) (rest := []) ⟨hx, hb, hml, hown, hts⟩ (c_L_isUndercut l hst (e0 := e0) (mi := mi) (D := D) (cy := cy) (c8 := c8) (c9 := c9) qo qd fo fd S _ o2 h_o2 y2 (hW)) (vx_cwSW 3 hts gL_law_L_isUndercut rfl rfl rfl (by decide +kernel) ⟨Nat.le_of_ble_eq_true rfl, Nat.le_of_ble_eq_true rfl⟩) ⟨fun a U g mk q => ⟨q.1, q.2.1, q.2.2.1.calling, NW.same (u := U) (U := U.calling g mk a) rfl q.2.2.2.1, q.2.2.2.2.1.calling, q.2.2.2.2.2.1.calling, q.2.2.2.2.2.2.calling⟩, fun U hU hW => ⟨rfl, by rw [hU], wx_pre hP hKX hD hU hW, hN.warm hW, th_pre hTH hS hFc hU hW, ou_pre hOU hS hFc hU hW, hNC.moved hW.alike⟩⟩ rfl rfl hl.1 rfl (lv_room (Nat.le_of_ble_eq_true rfl)) dL_law_480 ⟨by omega, by omega⟩) hS (fun q _ h => hFc q h) hFc (fun r3 u t H1 locs ht hvm hw hB hz1 hk1 hS => ?_)
  obtain ⟨S4, f5⟩ := u
  have w6 := hw
  obtain ⟨hP, hD⟩ := wx_post hFc ht hB
  generalize H1 = H at hP hS ⊢
  have w6 : stp ([] : List (Nat × Nat)) [] [] S S4 := w6
  have v7 : IV S4 o1 := IV.keep w6 hW h_o1 (by decide) (by decide) hIV
  have v8 : MV S4 o1 := MV.keep w6 hW h_o1 (by decide) (by decide) hMV
  have v9 : (R55 o2) S4 o1 := R55.keep w6 hW h_o1 (by decide) (by decide) hR_R55
  have v10 : (R58 o2) S4 o1 := R58.keep w6 hW h_o1 (by decide) (by decide) hR_R58
  have v11 : (RLT o2) S4 o1 := RLT.keep w6 hW h_o1 (by decide) (by decide) hR_RLT
  have xe12 : ext S S4 := w6.x
  refine lv_istore (lv' := [(6, .int r3), (5, .int i), (4, .ref qd), (3, .ref qo), (2, .ref o1), (1, .ref o2), (0, .ref b)]) hx hb dL_law_483 hl (by decide) rfl (fun ls hl => ?_)
  refine lv_aload_n hx hb dL_law_485 rfl (lv_at hl 4 rfl) ?_
  refine lv_aload_n hx hb dL_law_486 rfl (lv_at hl 6 rfl) ?_
  refine lv_iload hx hb dL_law_487 (lv_at hl 1 rfl) ?_
  refine lv_iconst (v := 1) hx hb dL_law_489 (by decide) ?_
  refine lv_iadd hx hb dL_law_490 ?_
  refine va_sld hx hb hX hbl hbA hS (inb (m := L) rfl (by omega) (by omega)) dL_law_491 ?_
  rw [ey2]
  have hFc := free_all hD hS hA
  obtain ⟨k14, gk14, hk14⟩ := wGt (cy := cy) (XO c8 c9 qo qd f5 fd) S4 (xe12.A h_o1).1 (xe12.A h_o1).2.1
  refine va_calli (va_runV (As := [.int y2]) (rest := []) ⟨hx, hb, hml, hown, hts⟩ (c_X12_isUndercut l (cy := cy) (X := (XO c8 c9 qo qd f5 fd)) (D := D) S4 _ o1 (xe12.A h_o1) y2 (w6.w)) (cwV 1 hts gL_law_X12_isUndercut rfl rfl rfl hd_X12_isUndercut ⟨Nat.le_of_ble_eq_true rfl, Nat.le_of_ble_eq_true rfl⟩) ⟨fun a U g mk q => ⟨q.1, q.2.1, q.2.2.1.calling, NW.same (u := U) (U := U.calling g mk a) rfl q.2.2.2⟩, va_recv hK hP (q := (RX12, TX12, 34)) (ci := 16) (q0 := k14) rfl hk14, fun U hU hW => ⟨rfl, by rw [hU], wd_pre hP hK hD hU hW, hN.warm hW⟩⟩ rfl rfl hl.1 rfl (lv_room (Nat.le_of_ble_eq_true rfl)) dL_law_492 ⟨by omega, by omega⟩) hS (fun q _ h => hFc q h) hFc (fun r13 u t H1 locs ht hvm hw hB hz1 hk1 hS => ?_)
  obtain ⟨c15, w16, y17⟩ := hw
  obtain ⟨hP, hD⟩ := wd_post hFc ht hB
  generalize H1 = H at hP hS ⊢
  obtain ⟨S18, rfl⟩ : ∃ z, z = u := ⟨_, rfl⟩
  have v19 : IV S18 o1 := IV.keep w16 w6.w (xe12.A h_o1) (by decide) (by decide) v7
  have v20 : MV S18 o1 := MV.keep w16 w6.w (xe12.A h_o1) (by decide) (by decide) v8
  have v21 : (R55 o2) S18 o1 := R55.keep w16 w6.w (xe12.A h_o1) (by decide) (by decide) v9
  have v22 : (R58 o2) S18 o1 := R58.keep w16 w6.w (xe12.A h_o1) (by decide) (by decide) v10
  have v23 : (RLT o2) S18 o1 := RLT.keep w16 w6.w (xe12.A h_o1) (by decide) (by decide) v11
  have xe24 : ext S4 S18 := w16.x
  refine lv_istore (lv' := [(7, .int r13), (6, .int r3), (5, .int i), (4, .ref qd), (3, .ref qo), (2, .ref o1), (1, .ref o2), (0, .ref b)]) hx hb dL_law_495 hl (by decide) rfl (fun ls hl => ?_)
  refine lv_goto (tgt := 2924) hx hb dL_law_497 (by decide) ?_
  refine W.widen (k := cells + 40) (n := slots + 1200) (by omega) (by omega) ?_
  exact kk S18 f5 fd H _ ls ⟨hP, hD, w16.w, ((xe12.tr xe24).A h_o2), (xe24.A (xe12.A h_o1)), ((xe12.tr xe24).F h_o1 (by decide) h77), v20, v19, v21, v22, v23⟩ hS (lv_sub hl [2, 3, 4, 5, 6, 7] rfl)
set_option maxHeartbeats 4000000 in
set_option maxRecDepth 100000 in
theorem road_5 {p : Program} {l : Launch} {e : Env} {s : State} {m : MethodId} {below : List Frame} {meth : Method} {c : Code} {b L : Nat} {xs : Nat → Int32} {D : va_G} {cy : Nat → ClassId} {c8 c9 : ClassId} {e0 mi : Nat} {Q : State → Prop} {qo qd o1 o2 : Nat} (C0 : LC p l s m c b L xs D cy c8 c9 e0 mi) (hL9 : L ≤ 2560) {S : wPS} {fo : Nat → Int64} {fd : Nat → UInt64} {H : Heap} {locs : List Loc} {ls : Array Slot} {cells slots : Nat} {i : Int32} (hi : 0 ≤ i.toInt ∧ i.toInt + 5 ≤ L) (hI : LI D cy c8 c9 e0 (fun q => s.heap.size ≤ q) o1 o2 qo qd fo fd S H) (hS : va_S (fun q => s.heap.size ≤ q) s.heap H locs) (hc : cells + 40 ≤ room_1.cells) (hs : slots + 1200 ≤ room_1.slots) (hl : lv_has ls 9 [(5, .int i), (4, .ref qd), (3, .ref qo), (2, .ref o1), (1, .ref o2), (0, .ref b)]) (kk : ∀ (S2 : wPS) (fo2 : Nat → Int64) (fd2 : Nat → UInt64) (H2 : Heap) (locs2 : List Loc) (ls2 : Array Slot), LI D cy c8 c9 e0 (fun q => s.heap.size ≤ q) o1 o2 qo qd fo2 fd2 S2 H2 → va_S (fun q => s.heap.size ≤ q) s.heap H2 locs2 → lv_has ls2 9 [(5, .int i), (4, .ref qd), (3, .ref qo), (2, .ref o1), (1, .ref o2), (0, .ref b)] → W p l e room_1 s m #[Value.ref b] below meth c H2 locs2 (cells + 40) (slots + 1200) Q (F0 m 2924 ls2 [])) : W p l e room_1 s m #[Value.ref b] below meth c H locs cells slots Q (F0 m 500 ls []) := by
  obtain ⟨hx, hb, hml, hown, hts, hX, hbl, hN, hTH, hOU, hKX, hst, hNC⟩ := id C0
  obtain ⟨hP, hD, hW, h_o2, h_o1, h77, hMV, hIV, hR_R55, hR_R58, hR_RLT⟩ := hI
  have hK := kX hKX
  have hA : ∀ q : Nat, s.heap.size ≤ q → (fun q : Nat => s.heap.size ≤ q) q := fun _ h => h
  have hbA : ¬ (fun q : Nat => s.heap.size ≤ q) b := Nat.not_le.mpr hbl
  refine lv_aload_n hx hb dL_law_500 rfl (lv_at hl 4 rfl) ?_
  refine lv_aload_n hx hb dL_law_501 rfl (lv_at hl 5 rfl) ?_
  refine lv_iload hx hb dL_law_502 (lv_at hl 0 rfl) ?_
  refine lv_iconst (v := 1) hx hb dL_law_504 (by decide) ?_
  refine lv_iadd hx hb dL_law_505 ?_
  have l32_1 : (1 : Int32).toInt = 1 := rfl
  have i1 : (i + (1 : Int32)).toInt = i.toInt + 1 := t_addr (n := 1) rfl (by omega)
  refine va_sld hx hb hX hbl hbA hS (inb (m := L) rfl (by omega) (by omega)) dL_law_506 ?_
  obtain ⟨y2, ey2⟩ : ∃ z : Int32, xs (i + (1 : Int32)).toNatClampNeg = z := ⟨_, rfl⟩
  rw [ey2]
  refine lv_aload_n hx hb dL_law_507 rfl (lv_at hl 2 rfl) ?_
  have hFc := free_all hD hS hA
  refine va_calli (vx_runSW (As := [.ref o2, .int y2, .ref qo]) (rest := []) ⟨hx, hb, hml, hown, hts⟩ (c_L_isSharp l hst (e0 := e0) (mi := mi) (D := D) (cy := cy) (c8 := c8) (c9 := c9) qo qd fo fd S _ o2 h_o2 y2 (hW)) (vx_cwSW 3 hts gL_law_L_isSharp rfl rfl rfl (by decide +kernel) ⟨Nat.le_of_ble_eq_true rfl, Nat.le_of_ble_eq_true rfl⟩) ⟨fun a U g mk q => ⟨q.1, q.2.1, q.2.2.1.calling, NW.same (u := U) (U := U.calling g mk a) rfl q.2.2.2.1, q.2.2.2.2.1.calling, q.2.2.2.2.2.1.calling, q.2.2.2.2.2.2.calling⟩, fun U hU hW => ⟨rfl, by rw [hU], wx_pre hP hKX hD hU hW, hN.warm hW, th_pre hTH hS hFc hU hW, ou_pre hOU hS hFc hU hW, hNC.moved hW.alike⟩⟩ rfl rfl hl.1 rfl (lv_room (Nat.le_of_ble_eq_true rfl)) dL_law_508 ⟨by omega, by omega⟩) hS (fun q _ h => hFc q h) hFc (fun r3 u t H1 locs ht hvm hw hB hz1 hk1 hS => ?_)
  obtain ⟨S4, f5⟩ := u
  have w6 := hw
  obtain ⟨hP, hD⟩ := wx_post hFc ht hB
  generalize H1 = H at hP hS ⊢
  have w6 : stp ([] : List (Nat × Nat)) [] [] S S4 := w6
  have v7 : IV S4 o1 := IV.keep w6 hW h_o1 (by decide) (by decide) hIV
  have v8 : MV S4 o1 := MV.keep w6 hW h_o1 (by decide) (by decide) hMV
  have v9 : (R55 o2) S4 o1 := R55.keep w6 hW h_o1 (by decide) (by decide) hR_R55
  have v10 : (R58 o2) S4 o1 := R58.keep w6 hW h_o1 (by decide) (by decide) hR_R58
  have v11 : (RLT o2) S4 o1 := RLT.keep w6 hW h_o1 (by decide) (by decide) hR_RLT
  have xe12 : ext S S4 := w6.x
  refine lv_istore (lv' := [(6, .int r3), (5, .int i), (4, .ref qd), (3, .ref qo), (2, .ref o1), (1, .ref o2), (0, .ref b)]) hx hb dL_law_511 hl (by decide) rfl (fun ls hl => ?_)
  refine lv_aload_n hx hb dL_law_513 rfl (lv_at hl 4 rfl) ?_
  refine lv_aload_n hx hb dL_law_514 rfl (lv_at hl 6 rfl) ?_
  refine lv_iload hx hb dL_law_515 (lv_at hl 1 rfl) ?_
  refine lv_iconst (v := 1) hx hb dL_law_517 (by decide) ?_
  refine lv_iadd hx hb dL_law_518 ?_
  refine va_sld hx hb hX hbl hbA hS (inb (m := L) rfl (by omega) (by omega)) dL_law_519 ?_
  rw [ey2]
  have hFc := free_all hD hS hA
  obtain ⟨k14, gk14, hk14⟩ := wGt (cy := cy) (XO c8 c9 qo qd f5 fd) S4 (xe12.A h_o1).1 (xe12.A h_o1).2.1
  refine va_calli (va_runV (As := [.int y2]) (rest := []) ⟨hx, hb, hml, hown, hts⟩ (c_X12_isSharp l (cy := cy) (X := (XO c8 c9 qo qd f5 fd)) (D := D) S4 _ o1 (xe12.A h_o1) y2 (w6.w)) (cwV 1 hts gL_law_X12_isSharp rfl rfl rfl hd_X12_isSharp ⟨Nat.le_of_ble_eq_true rfl, Nat.le_of_ble_eq_true rfl⟩) ⟨fun a U g mk q => ⟨q.1, q.2.1, q.2.2.1.calling, NW.same (u := U) (U := U.calling g mk a) rfl q.2.2.2⟩, va_recv hK hP (q := (RX12, TX12, 34)) (ci := 16) (q0 := k14) rfl hk14, fun U hU hW => ⟨rfl, by rw [hU], wd_pre hP hK hD hU hW, hN.warm hW⟩⟩ rfl rfl hl.1 rfl (lv_room (Nat.le_of_ble_eq_true rfl)) dL_law_520 ⟨by omega, by omega⟩) hS (fun q _ h => hFc q h) hFc (fun r13 u t H1 locs ht hvm hw hB hz1 hk1 hS => ?_)
  obtain ⟨c15, w16, y17⟩ := hw
  obtain ⟨hP, hD⟩ := wd_post hFc ht hB
  generalize H1 = H at hP hS ⊢
  obtain ⟨S18, rfl⟩ : ∃ z, z = u := ⟨_, rfl⟩
  have v19 : IV S18 o1 := IV.keep w16 w6.w (xe12.A h_o1) (by decide) (by decide) v7
  have v20 : MV S18 o1 := MV.keep w16 w6.w (xe12.A h_o1) (by decide) (by decide) v8
  have v21 : (R55 o2) S18 o1 := R55.keep w16 w6.w (xe12.A h_o1) (by decide) (by decide) v9
  have v22 : (R58 o2) S18 o1 := R58.keep w16 w6.w (xe12.A h_o1) (by decide) (by decide) v10
  have v23 : (RLT o2) S18 o1 := RLT.keep w16 w6.w (xe12.A h_o1) (by decide) (by decide) v11
  have xe24 : ext S4 S18 := w16.x
  refine lv_istore (lv' := [(7, .int r13), (6, .int r3), (5, .int i), (4, .ref qd), (3, .ref qo), (2, .ref o1), (1, .ref o2), (0, .ref b)]) hx hb dL_law_523 hl (by decide) rfl (fun ls hl => ?_)
  refine lv_goto (tgt := 2924) hx hb dL_law_525 (by decide) ?_
  refine W.widen (k := cells + 40) (n := slots + 1200) (by omega) (by omega) ?_
  exact kk S18 f5 fd H _ ls ⟨hP, hD, w16.w, ((xe12.tr xe24).A h_o2), (xe24.A (xe12.A h_o1)), ((xe12.tr xe24).F h_o1 (by decide) h77), v20, v19, v21, v22, v23⟩ hS (lv_sub hl [2, 3, 4, 5, 6, 7] rfl)
set_option maxHeartbeats 4000000 in
set_option maxRecDepth 100000 in
theorem road_6 {p : Program} {l : Launch} {e : Env} {s : State} {m : MethodId} {below : List Frame} {meth : Method} {c : Code} {b L : Nat} {xs : Nat → Int32} {D : va_G} {cy : Nat → ClassId} {c8 c9 : ClassId} {e0 mi : Nat} {Q : State → Prop} {qo qd o1 o2 : Nat} (C0 : LC p l s m c b L xs D cy c8 c9 e0 mi) (hL9 : L ≤ 2560) {S : wPS} {fo : Nat → Int64} {fd : Nat → UInt64} {H : Heap} {locs : List Loc} {ls : Array Slot} {cells slots : Nat} {i : Int32} (hi : 0 ≤ i.toInt ∧ i.toInt + 5 ≤ L) (hI : LI D cy c8 c9 e0 (fun q => s.heap.size ≤ q) o1 o2 qo qd fo fd S H) (hS : va_S (fun q => s.heap.size ≤ q) s.heap H locs) (hc : cells + 40 ≤ room_1.cells) (hs : slots + 1200 ≤ room_1.slots) (hl : lv_has ls 9 [(5, .int i), (4, .ref qd), (3, .ref qo), (2, .ref o1), (1, .ref o2), (0, .ref b)]) (kk : ∀ (S2 : wPS) (fo2 : Nat → Int64) (fd2 : Nat → UInt64) (H2 : Heap) (locs2 : List Loc) (ls2 : Array Slot), LI D cy c8 c9 e0 (fun q => s.heap.size ≤ q) o1 o2 qo qd fo2 fd2 S2 H2 → va_S (fun q => s.heap.size ≤ q) s.heap H2 locs2 → lv_has ls2 9 [(5, .int i), (4, .ref qd), (3, .ref qo), (2, .ref o1), (1, .ref o2), (0, .ref b)] → W p l e room_1 s m #[Value.ref b] below meth c H2 locs2 (cells + 40) (slots + 1200) Q (F0 m 2924 ls2 [])) : W p l e room_1 s m #[Value.ref b] below meth c H locs cells slots Q (F0 m 528 ls []) := by
  obtain ⟨hx, hb, hml, hown, hts, hX, hbl, hN, hTH, hOU, hKX, hst, hNC⟩ := id C0
  obtain ⟨hP, hD, hW, h_o2, h_o1, h77, hMV, hIV, hR_R55, hR_R58, hR_RLT⟩ := hI
  have hK := kX hKX
  have hA : ∀ q : Nat, s.heap.size ≤ q → (fun q : Nat => s.heap.size ≤ q) q := fun _ h => h
  have hbA : ¬ (fun q : Nat => s.heap.size ≤ q) b := Nat.not_le.mpr hbl
  refine lv_aload_n hx hb dL_law_528 rfl (lv_at hl 4 rfl) ?_
  refine lv_aload_n hx hb dL_law_529 rfl (lv_at hl 5 rfl) ?_
  refine lv_iload hx hb dL_law_530 (lv_at hl 0 rfl) ?_
  refine lv_iconst (v := 1) hx hb dL_law_532 (by decide) ?_
  refine lv_iadd hx hb dL_law_533 ?_
  have l32_1 : (1 : Int32).toInt = 1 := rfl
  have i1 : (i + (1 : Int32)).toInt = i.toInt + 1 := t_addr (n := 1) rfl (by omega)
  refine va_sld hx hb hX hbl hbA hS (inb (m := L) rfl (by omega) (by omega)) dL_law_534 ?_
  obtain ⟨y2, ey2⟩ : ∃ z : Int32, xs (i + (1 : Int32)).toNatClampNeg = z := ⟨_, rfl⟩
  rw [ey2]
  refine lv_aload_n hx hb dL_law_535 rfl (lv_at hl 2 rfl) ?_
  have hFc := free_all hD hS hA
  refine va_calli (vx_runSW (As := [.ref o2, .int y2, .ref qo]) (rest := []) ⟨hx, hb, hml, hown, hts⟩ (c_L_fewest l hst (e0 := e0) (mi := mi) (D := D) (cy := cy) (c8 := c8) (c9 := c9) qo qd fo fd S _ o2 h_o2 y2 (hW)) (vx_cwSW 3 hts gL_law_L_fewest rfl rfl rfl (by decide +kernel) ⟨Nat.le_of_ble_eq_true rfl, Nat.le_of_ble_eq_true rfl⟩) ⟨fun a U g mk q => ⟨q.1, q.2.1, q.2.2.1.calling, NW.same (u := U) (U := U.calling g mk a) rfl q.2.2.2.1, q.2.2.2.2.1.calling, q.2.2.2.2.2.1.calling, q.2.2.2.2.2.2.calling⟩, fun U hU hW => ⟨rfl, by rw [hU], wx_pre hP hKX hD hU hW, hN.warm hW, th_pre hTH hS hFc hU hW, ou_pre hOU hS hFc hU hW, hNC.moved hW.alike⟩⟩ rfl rfl hl.1 rfl (lv_room (Nat.le_of_ble_eq_true rfl)) dL_law_536 ⟨by omega, by omega⟩) hS (fun q _ h => hFc q h) hFc (fun r3 u t H1 locs ht hvm hw hB hz1 hk1 hS => ?_)
  obtain ⟨S4, f5⟩ := u
  have w6 := hw
  obtain ⟨hP, hD⟩ := wx_post hFc ht hB
  generalize H1 = H at hP hS ⊢
  have w6 : stp ([] : List (Nat × Nat)) [] [] S S4 := w6
  have v7 : IV S4 o1 := IV.keep w6 hW h_o1 (by decide) (by decide) hIV
  have v8 : MV S4 o1 := MV.keep w6 hW h_o1 (by decide) (by decide) hMV
  have v9 : (R55 o2) S4 o1 := R55.keep w6 hW h_o1 (by decide) (by decide) hR_R55
  have v10 : (R58 o2) S4 o1 := R58.keep w6 hW h_o1 (by decide) (by decide) hR_R58
  have v11 : (RLT o2) S4 o1 := RLT.keep w6 hW h_o1 (by decide) (by decide) hR_RLT
  have xe12 : ext S S4 := w6.x
  refine lv_istore (lv' := [(6, .int r3), (5, .int i), (4, .ref qd), (3, .ref qo), (2, .ref o1), (1, .ref o2), (0, .ref b)]) hx hb dL_law_539 hl (by decide) rfl (fun ls hl => ?_)
  refine lv_aload_n hx hb dL_law_541 rfl (lv_at hl 4 rfl) ?_
  refine lv_aload_n hx hb dL_law_542 rfl (lv_at hl 6 rfl) ?_
  refine lv_iload hx hb dL_law_543 (lv_at hl 1 rfl) ?_
  refine lv_iconst (v := 1) hx hb dL_law_545 (by decide) ?_
  refine lv_iadd hx hb dL_law_546 ?_
  refine va_sld hx hb hX hbl hbA hS (inb (m := L) rfl (by omega) (by omega)) dL_law_547 ?_
  rw [ey2]
  have hFc := free_all hD hS hA
  obtain ⟨k14, gk14, hk14⟩ := wGt (cy := cy) (XO c8 c9 qo qd f5 fd) S4 (xe12.A h_o1).1 (xe12.A h_o1).2.1
  refine va_calli (va_runV (As := [.int y2]) (rest := []) ⟨hx, hb, hml, hown, hts⟩ (c_X12_fewest l (cy := cy) (X := (XO c8 c9 qo qd f5 fd)) (D := D) S4 _ o1 (xe12.A h_o1) y2 (w6.w)) (cwV 1 hts gL_law_X12_fewest rfl rfl rfl hd_X12_fewest ⟨Nat.le_of_ble_eq_true rfl, Nat.le_of_ble_eq_true rfl⟩) ⟨fun a U g mk q => ⟨q.1, q.2.1, q.2.2.1.calling, NW.same (u := U) (U := U.calling g mk a) rfl q.2.2.2⟩, va_recv hK hP (q := (RX12, TX12, 34)) (ci := 16) (q0 := k14) rfl hk14, fun U hU hW => ⟨rfl, by rw [hU], wd_pre hP hK hD hU hW, hN.warm hW⟩⟩ rfl rfl hl.1 rfl (lv_room (Nat.le_of_ble_eq_true rfl)) dL_law_548 ⟨by omega, by omega⟩) hS (fun q _ h => hFc q h) hFc (fun r13 u t H1 locs ht hvm hw hB hz1 hk1 hS => ?_)
  obtain ⟨c15, w16⟩ := hw
  obtain ⟨hP, hD⟩ := wd_post hFc ht hB
  generalize H1 = H at hP hS ⊢
  obtain ⟨S17, rfl⟩ : ∃ z, z = u := ⟨_, rfl⟩
  have v18 : IV S17 o1 := IV.keep w16 w6.w (xe12.A h_o1) (by decide) (by decide) v7
  have v19 : MV S17 o1 := MV.keep w16 w6.w (xe12.A h_o1) (by decide) (by decide) v8
  have v20 : (R55 o2) S17 o1 := R55.keep w16 w6.w (xe12.A h_o1) (by decide) (by decide) v9
  have v21 : (R58 o2) S17 o1 := R58.keep w16 w6.w (xe12.A h_o1) (by decide) (by decide) v10
  have v22 : (RLT o2) S17 o1 := RLT.keep w16 w6.w (xe12.A h_o1) (by decide) (by decide) v11
  have xe23 : ext S4 S17 := w16.x
  refine lv_istore (lv' := [(7, .int r13), (6, .int r3), (5, .int i), (4, .ref qd), (3, .ref qo), (2, .ref o1), (1, .ref o2), (0, .ref b)]) hx hb dL_law_551 hl (by decide) rfl (fun ls hl => ?_)
  refine lv_goto (tgt := 2924) hx hb dL_law_553 (by decide) ?_
  refine W.widen (k := cells + 40) (n := slots + 1200) (by omega) (by omega) ?_
  exact kk S17 f5 fd H _ ls ⟨hP, hD, w16.w, ((xe12.tr xe23).A h_o2), (xe23.A (xe12.A h_o1)), ((xe12.tr xe23).F h_o1 (by decide) h77), v19, v18, v20, v21, v22⟩ hS (lv_sub hl [2, 3, 4, 5, 6, 7] rfl)
set_option maxHeartbeats 4000000 in
set_option maxRecDepth 100000 in
theorem road_7 {p : Program} {l : Launch} {e : Env} {s : State} {m : MethodId} {below : List Frame} {meth : Method} {c : Code} {b L : Nat} {xs : Nat → Int32} {D : va_G} {cy : Nat → ClassId} {c8 c9 : ClassId} {e0 mi : Nat} {Q : State → Prop} {qo qd o1 o2 : Nat} (C0 : LC p l s m c b L xs D cy c8 c9 e0 mi) (hL9 : L ≤ 2560) {S : wPS} {fo : Nat → Int64} {fd : Nat → UInt64} {H : Heap} {locs : List Loc} {ls : Array Slot} {cells slots : Nat} {i : Int32} (hi : 0 ≤ i.toInt ∧ i.toInt + 5 ≤ L) (hI : LI D cy c8 c9 e0 (fun q => s.heap.size ≤ q) o1 o2 qo qd fo fd S H) (hS : va_S (fun q => s.heap.size ≤ q) s.heap H locs) (hc : cells + 40 ≤ room_1.cells) (hs : slots + 1200 ≤ room_1.slots) (hl : lv_has ls 9 [(5, .int i), (4, .ref qd), (3, .ref qo), (2, .ref o1), (1, .ref o2), (0, .ref b)]) (kk : ∀ (S2 : wPS) (fo2 : Nat → Int64) (fd2 : Nat → UInt64) (H2 : Heap) (locs2 : List Loc) (ls2 : Array Slot), LI D cy c8 c9 e0 (fun q => s.heap.size ≤ q) o1 o2 qo qd fo2 fd2 S2 H2 → va_S (fun q => s.heap.size ≤ q) s.heap H2 locs2 → lv_has ls2 9 [(5, .int i), (4, .ref qd), (3, .ref qo), (2, .ref o1), (1, .ref o2), (0, .ref b)] → W p l e room_1 s m #[Value.ref b] below meth c H2 locs2 (cells + 40) (slots + 1200) Q (F0 m 2924 ls2 [])) : W p l e room_1 s m #[Value.ref b] below meth c H locs cells slots Q (F0 m 556 ls []) := by
  obtain ⟨hx, hb, hml, hown, hts, hX, hbl, hN, hTH, hOU, hKX, hst, hNC⟩ := id C0
  obtain ⟨hP, hD, hW, h_o2, h_o1, h77, hMV, hIV, hR_R55, hR_R58, hR_RLT⟩ := hI
  have hK := kX hKX
  have hA : ∀ q : Nat, s.heap.size ≤ q → (fun q : Nat => s.heap.size ≤ q) q := fun _ h => h
  have hbA : ¬ (fun q : Nat => s.heap.size ≤ q) b := Nat.not_le.mpr hbl
  refine lv_aload_n hx hb dL_law_556 rfl (lv_at hl 4 rfl) ?_
  refine lv_aload_n hx hb dL_law_557 rfl (lv_at hl 5 rfl) ?_
  refine lv_iload hx hb dL_law_558 (lv_at hl 0 rfl) ?_
  refine lv_iconst (v := 1) hx hb dL_law_560 (by decide) ?_
  refine lv_iadd hx hb dL_law_561 ?_
  have l32_1 : (1 : Int32).toInt = 1 := rfl
  have i1 : (i + (1 : Int32)).toInt = i.toInt + 1 := t_addr (n := 1) rfl (by omega)
  refine va_sld hx hb hX hbl hbA hS (inb (m := L) rfl (by omega) (by omega)) dL_law_562 ?_
  obtain ⟨y2, ey2⟩ : ∃ z : Int32, xs (i + (1 : Int32)).toNatClampNeg = z := ⟨_, rfl⟩
  rw [ey2]
  refine lv_aload_n hx hb dL_law_563 rfl (lv_at hl 5 rfl) ?_
  refine lv_iload hx hb dL_law_564 (lv_at hl 0 rfl) ?_
  refine lv_iconst (v := 2) hx hb dL_law_566 (by decide) ?_
  refine lv_iadd hx hb dL_law_567 ?_
  have l32_2 : (2 : Int32).toInt = 2 := rfl
  have i3 : (i + (2 : Int32)).toInt = i.toInt + 2 := t_addr (n := 2) rfl (by omega)
  refine va_sld hx hb hX hbl hbA hS (inb (m := L) rfl (by omega) (by omega)) dL_law_568 ?_
  obtain ⟨y4, ey4⟩ : ∃ z : Int32, xs (i + (2 : Int32)).toNatClampNeg = z := ⟨_, rfl⟩
  rw [ey4]
  refine lv_aload_n hx hb dL_law_569 rfl (lv_at hl 2 rfl) ?_
  have hFc := free_all hD hS hA
  refine va_calli (vx_runSW (As := [.ref o2, .int y2, .int y4, .ref qo]) (rest := []) ⟨hx, hb, hml, hown, hts⟩ (c_L_doPair l hst (e0 := e0) (mi := mi) (D := D) (cy := cy) (c8 := c8) (c9 := c9) qo qd fo fd S _ o2 h_o2 y2 y4 (hW)) (vx_cwSW 4 hts gL_law_L_doPair rfl rfl rfl (by decide +kernel) ⟨Nat.le_of_ble_eq_true rfl, Nat.le_of_ble_eq_true rfl⟩) ⟨fun a U g mk q => ⟨q.1, q.2.1, q.2.2.1.calling, NW.same (u := U) (U := U.calling g mk a) rfl q.2.2.2.1, q.2.2.2.2.1.calling, q.2.2.2.2.2.1.calling, q.2.2.2.2.2.2.calling⟩, fun U hU hW => ⟨rfl, by rw [hU], wx_pre hP hKX hD hU hW, hN.warm hW, th_pre hTH hS hFc hU hW, ou_pre hOU hS hFc hU hW, hNC.moved hW.alike⟩⟩ rfl rfl hl.1 rfl (lv_room (Nat.le_of_ble_eq_true rfl)) dL_law_570 ⟨by omega, by omega⟩) hS (fun q _ h => hFc q h) hFc (fun r5 u t H1 locs ht hvm hw hB hz1 hk1 hS => ?_)
  obtain ⟨S6, f7⟩ := u
  have w8 := hw
  obtain ⟨hP, hD⟩ := wx_post hFc ht hB
  generalize H1 = H at hP hS ⊢
  have w8 : stp ([] : List (Nat × Nat)) [] [] S S6 := w8
  have v9 : IV S6 o1 := IV.keep w8 hW h_o1 (by decide) (by decide) hIV
  have v10 : MV S6 o1 := MV.keep w8 hW h_o1 (by decide) (by decide) hMV
  have v11 : (R55 o2) S6 o1 := R55.keep w8 hW h_o1 (by decide) (by decide) hR_R55
  have v12 : (R58 o2) S6 o1 := R58.keep w8 hW h_o1 (by decide) (by decide) hR_R58
  have v13 : (RLT o2) S6 o1 := RLT.keep w8 hW h_o1 (by decide) (by decide) hR_RLT
  have xe14 : ext S S6 := w8.x
  refine lv_istore (lv' := [(6, .int r5), (5, .int i), (4, .ref qd), (3, .ref qo), (2, .ref o1), (1, .ref o2), (0, .ref b)]) hx hb dL_law_573 hl (by decide) rfl (fun ls hl => ?_)
  refine lv_aload_n hx hb dL_law_575 rfl (lv_at hl 4 rfl) ?_
  refine lv_aload_n hx hb dL_law_576 rfl (lv_at hl 6 rfl) ?_
  refine lv_iload hx hb dL_law_577 (lv_at hl 1 rfl) ?_
  refine lv_iconst (v := 1) hx hb dL_law_579 (by decide) ?_
  refine lv_iadd hx hb dL_law_580 ?_
  refine va_sld hx hb hX hbl hbA hS (inb (m := L) rfl (by omega) (by omega)) dL_law_581 ?_
  rw [ey2]
  refine lv_aload_n hx hb dL_law_582 rfl (lv_at hl 6 rfl) ?_
  refine lv_iload hx hb dL_law_583 (lv_at hl 1 rfl) ?_
  refine lv_iconst (v := 2) hx hb dL_law_585 (by decide) ?_
  refine lv_iadd hx hb dL_law_586 ?_
  refine va_sld hx hb hX hbl hbA hS (inb (m := L) rfl (by omega) (by omega)) dL_law_587 ?_
  rw [ey4]
  have hFc := free_all hD hS hA
  obtain ⟨k16, gk16, hk16⟩ := wGt (cy := cy) (XO c8 c9 qo qd f7 fd) S6 (xe14.A h_o1).1 (xe14.A h_o1).2.1
  refine va_calli (va_runV (As := [.int y2, .int y4]) (rest := []) ⟨hx, hb, hml, hown, hts⟩ (c_X12_doPair l (cy := cy) (X := (XO c8 c9 qo qd f7 fd)) (D := D) S6 _ o1 (xe14.A h_o1) y2 y4 (w8.w)) (cwV 2 hts gL_law_X12_doPair rfl rfl rfl hd_X12_doPair ⟨Nat.le_of_ble_eq_true rfl, Nat.le_of_ble_eq_true rfl⟩) ⟨fun a U g mk q => ⟨q.1, q.2.1, q.2.2.1.calling, NW.same (u := U) (U := U.calling g mk a) rfl q.2.2.2⟩, va_recv hK hP (q := (RX12, TX12, 34)) (ci := 16) (q0 := k16) rfl hk16, fun U hU hW => ⟨rfl, by rw [hU], wd_pre hP hK hD hU hW, hN.warm hW⟩⟩ rfl rfl hl.1 rfl (lv_room (Nat.le_of_ble_eq_true rfl)) dL_law_588 ⟨by omega, by omega⟩) hS (fun q _ h => hFc q h) hFc (fun r15 u t H1 locs ht hvm hw hB hz1 hk1 hS => ?_)
  obtain ⟨c17, w18, y19⟩ := hw
  obtain ⟨hP, hD⟩ := wd_post hFc ht hB
  generalize H1 = H at hP hS ⊢
  obtain ⟨S20, rfl⟩ : ∃ z, z = u := ⟨_, rfl⟩
  have v21 : IV S20 o1 := IV.keep w18 w8.w (xe14.A h_o1) (by decide) (by decide) v9
  have v22 : MV S20 o1 := MV.keep w18 w8.w (xe14.A h_o1) (by decide) (by decide) v10
  have v23 : (R55 o2) S20 o1 := R55.keep w18 w8.w (xe14.A h_o1) (by decide) (by decide) v11
  have v24 : (R58 o2) S20 o1 := R58.keep w18 w8.w (xe14.A h_o1) (by decide) (by decide) v12
  have v25 : (RLT o2) S20 o1 := RLT.keep w18 w8.w (xe14.A h_o1) (by decide) (by decide) v13
  have xe26 : ext S6 S20 := w18.x
  refine lv_istore (lv' := [(7, .int r15), (6, .int r5), (5, .int i), (4, .ref qd), (3, .ref qo), (2, .ref o1), (1, .ref o2), (0, .ref b)]) hx hb dL_law_591 hl (by decide) rfl (fun ls hl => ?_)
  refine lv_goto (tgt := 2924) hx hb dL_law_593 (by decide) ?_
  refine W.widen (k := cells + 40) (n := slots + 1200) (by omega) (by omega) ?_
  exact kk S20 f7 fd H _ ls ⟨hP, hD, w18.w, ((xe14.tr xe26).A h_o2), (xe26.A (xe14.A h_o1)), ((xe14.tr xe26).F h_o1 (by decide) h77), v22, v21, v23, v24, v25⟩ hS (lv_sub hl [2, 3, 4, 5, 6, 7] rfl)
set_option maxHeartbeats 4000000 in
set_option maxRecDepth 100000 in
theorem road_8 {p : Program} {l : Launch} {e : Env} {s : State} {m : MethodId} {below : List Frame} {meth : Method} {c : Code} {b L : Nat} {xs : Nat → Int32} {D : va_G} {cy : Nat → ClassId} {c8 c9 : ClassId} {e0 mi : Nat} {Q : State → Prop} {qo qd o1 o2 : Nat} (C0 : LC p l s m c b L xs D cy c8 c9 e0 mi) (hL9 : L ≤ 2560) {S : wPS} {fo : Nat → Int64} {fd : Nat → UInt64} {H : Heap} {locs : List Loc} {ls : Array Slot} {cells slots : Nat} {i : Int32} (hi : 0 ≤ i.toInt ∧ i.toInt + 5 ≤ L) (hI : LI D cy c8 c9 e0 (fun q => s.heap.size ≤ q) o1 o2 qo qd fo fd S H) (hS : va_S (fun q => s.heap.size ≤ q) s.heap H locs) (hc : cells + 40 ≤ room_1.cells) (hs : slots + 1200 ≤ room_1.slots) (hl : lv_has ls 9 [(5, .int i), (4, .ref qd), (3, .ref qo), (2, .ref o1), (1, .ref o2), (0, .ref b)]) (kk : ∀ (S2 : wPS) (fo2 : Nat → Int64) (fd2 : Nat → UInt64) (H2 : Heap) (locs2 : List Loc) (ls2 : Array Slot), LI D cy c8 c9 e0 (fun q => s.heap.size ≤ q) o1 o2 qo qd fo2 fd2 S2 H2 → va_S (fun q => s.heap.size ≤ q) s.heap H2 locs2 → lv_has ls2 9 [(5, .int i), (4, .ref qd), (3, .ref qo), (2, .ref o1), (1, .ref o2), (0, .ref b)] → W p l e room_1 s m #[Value.ref b] below meth c H2 locs2 (cells + 40) (slots + 1200) Q (F0 m 2924 ls2 [])) : W p l e room_1 s m #[Value.ref b] below meth c H locs cells slots Q (F0 m 596 ls []) := by
  obtain ⟨hx, hb, hml, hown, hts, hX, hbl, hN, hTH, hOU, hKX, hst, hNC⟩ := id C0
  obtain ⟨hP, hD, hW, h_o2, h_o1, h77, hMV, hIV, hR_R55, hR_R58, hR_RLT⟩ := hI
  have hK := kX hKX
  have hA : ∀ q : Nat, s.heap.size ≤ q → (fun q : Nat => s.heap.size ≤ q) q := fun _ h => h
  have hbA : ¬ (fun q : Nat => s.heap.size ≤ q) b := Nat.not_le.mpr hbl
  refine lv_aload_n hx hb dL_law_596 rfl (lv_at hl 4 rfl) ?_
  refine lv_aload_n hx hb dL_law_597 rfl (lv_at hl 5 rfl) ?_
  refine lv_iload hx hb dL_law_598 (lv_at hl 0 rfl) ?_
  refine lv_iconst (v := 1) hx hb dL_law_600 (by decide) ?_
  refine lv_iadd hx hb dL_law_601 ?_
  have l32_1 : (1 : Int32).toInt = 1 := rfl
  have i1 : (i + (1 : Int32)).toInt = i.toInt + 1 := t_addr (n := 1) rfl (by omega)
  refine va_sld hx hb hX hbl hbA hS (inb (m := L) rfl (by omega) (by omega)) dL_law_602 ?_
  obtain ⟨y2, ey2⟩ : ∃ z : Int32, xs (i + (1 : Int32)).toNatClampNeg = z := ⟨_, rfl⟩
  rw [ey2]
  refine lv_aload_n hx hb dL_law_603 rfl (lv_at hl 5 rfl) ?_
  refine lv_iload hx hb dL_law_604 (lv_at hl 0 rfl) ?_
  refine lv_iconst (v := 2) hx hb dL_law_606 (by decide) ?_
  refine lv_iadd hx hb dL_law_607 ?_
  have l32_2 : (2 : Int32).toInt = 2 := rfl
  have i3 : (i + (2 : Int32)).toInt = i.toInt + 2 := t_addr (n := 2) rfl (by omega)
  refine va_sld hx hb hX hbl hbA hS (inb (m := L) rfl (by omega) (by omega)) dL_law_608 ?_
  obtain ⟨y4, ey4⟩ : ∃ z : Int32, xs (i + (2 : Int32)).toNatClampNeg = z := ⟨_, rfl⟩
  rw [ey4]
  refine lv_aload_n hx hb dL_law_609 rfl (lv_at hl 2 rfl) ?_
  have hFc := free_all hD hS hA
  refine va_calli (vx_runSW (As := [.ref o2, .int y2, .int y4, .ref qo]) (rest := []) ⟨hx, hb, hml, hown, hts⟩ (c_L_contact l hst (e0 := e0) (mi := mi) (D := D) (cy := cy) (c8 := c8) (c9 := c9) qo qd fo fd S _ o2 h_o2 y2 y4 (hW)) (vx_cwSW 4 hts gL_law_L_contact rfl rfl rfl (by decide +kernel) ⟨Nat.le_of_ble_eq_true rfl, Nat.le_of_ble_eq_true rfl⟩) ⟨fun a U g mk q => ⟨q.1, q.2.1, q.2.2.1.calling, NW.same (u := U) (U := U.calling g mk a) rfl q.2.2.2.1, q.2.2.2.2.1.calling, q.2.2.2.2.2.1.calling, q.2.2.2.2.2.2.calling⟩, fun U hU hW => ⟨rfl, by rw [hU], wx_pre hP hKX hD hU hW, hN.warm hW, th_pre hTH hS hFc hU hW, ou_pre hOU hS hFc hU hW, hNC.moved hW.alike⟩⟩ rfl rfl hl.1 rfl (lv_room (Nat.le_of_ble_eq_true rfl)) dL_law_610 ⟨by omega, by omega⟩) hS (fun q _ h => hFc q h) hFc (fun r5 u t H1 locs ht hvm hw hB hz1 hk1 hS => ?_)
  obtain ⟨S6, f7⟩ := u
  have w8 := hw
  obtain ⟨hP, hD⟩ := wx_post hFc ht hB
  generalize H1 = H at hP hS ⊢
  have w8 : stp ([] : List (Nat × Nat)) [] [] S S6 := w8
  have v9 : IV S6 o1 := IV.keep w8 hW h_o1 (by decide) (by decide) hIV
  have v10 : MV S6 o1 := MV.keep w8 hW h_o1 (by decide) (by decide) hMV
  have v11 : (R55 o2) S6 o1 := R55.keep w8 hW h_o1 (by decide) (by decide) hR_R55
  have v12 : (R58 o2) S6 o1 := R58.keep w8 hW h_o1 (by decide) (by decide) hR_R58
  have v13 : (RLT o2) S6 o1 := RLT.keep w8 hW h_o1 (by decide) (by decide) hR_RLT
  have xe14 : ext S S6 := w8.x
  refine lv_istore (lv' := [(6, .int r5), (5, .int i), (4, .ref qd), (3, .ref qo), (2, .ref o1), (1, .ref o2), (0, .ref b)]) hx hb dL_law_613 hl (by decide) rfl (fun ls hl => ?_)
  refine lv_aload_n hx hb dL_law_615 rfl (lv_at hl 4 rfl) ?_
  refine lv_aload_n hx hb dL_law_616 rfl (lv_at hl 6 rfl) ?_
  refine lv_iload hx hb dL_law_617 (lv_at hl 1 rfl) ?_
  refine lv_iconst (v := 1) hx hb dL_law_619 (by decide) ?_
  refine lv_iadd hx hb dL_law_620 ?_
  refine va_sld hx hb hX hbl hbA hS (inb (m := L) rfl (by omega) (by omega)) dL_law_621 ?_
  rw [ey2]
  refine lv_aload_n hx hb dL_law_622 rfl (lv_at hl 6 rfl) ?_
  refine lv_iload hx hb dL_law_623 (lv_at hl 1 rfl) ?_
  refine lv_iconst (v := 2) hx hb dL_law_625 (by decide) ?_
  refine lv_iadd hx hb dL_law_626 ?_
  refine va_sld hx hb hX hbl hbA hS (inb (m := L) rfl (by omega) (by omega)) dL_law_627 ?_
  rw [ey4]
  have hFc := free_all hD hS hA
  obtain ⟨k16, gk16, hk16⟩ := wGt (cy := cy) (XO c8 c9 qo qd f7 fd) S6 (xe14.A h_o1).1 (xe14.A h_o1).2.1
  refine va_calll (va_runV (As := [.int y2, .int y4]) (rest := []) ⟨hx, hb, hml, hown, hts⟩ (c_X12_contact l (cy := cy) (X := (XO c8 c9 qo qd f7 fd)) (D := D) S6 _ o1 (xe14.A h_o1) y2 y4 (w8.w)) (cwV 2 hts gL_law_X12_contact rfl rfl rfl hd_X12_contact ⟨Nat.le_of_ble_eq_true rfl, Nat.le_of_ble_eq_true rfl⟩) ⟨fun a U g mk q => ⟨q.1, q.2.1, q.2.2.1.calling, NW.same (u := U) (U := U.calling g mk a) rfl q.2.2.2⟩, va_recv hK hP (q := (RX12, TX12, 34)) (ci := 16) (q0 := k16) rfl hk16, fun U hU hW => ⟨rfl, by rw [hU], wd_pre hP hK hD hU hW, hN.warm hW⟩⟩ rfl rfl hl.1 rfl (lv_room (Nat.le_of_ble_eq_true rfl)) dL_law_628 ⟨by omega, by omega⟩) hS (fun q _ h => hFc q h) hFc (fun r15 u t H1 locs ht hvm hw hB hz1 hk1 hS => ?_)
  obtain ⟨c17, w18⟩ := hw
  obtain ⟨hP, hD⟩ := wd_post hFc ht hB
  generalize H1 = H at hP hS ⊢
  obtain ⟨S19, rfl⟩ : ∃ z, z = u := ⟨_, rfl⟩
  have v20 : IV S19 o1 := IV.keep w18 w8.w (xe14.A h_o1) (by decide) (by decide) v9
  have v21 : MV S19 o1 := MV.keep w18 w8.w (xe14.A h_o1) (by decide) (by decide) v10
  have v22 : (R55 o2) S19 o1 := R55.keep w18 w8.w (xe14.A h_o1) (by decide) (by decide) v11
  have v23 : (R58 o2) S19 o1 := R58.keep w18 w8.w (xe14.A h_o1) (by decide) (by decide) v12
  have v24 : (RLT o2) S19 o1 := RLT.keep w18 w8.w (xe14.A h_o1) (by decide) (by decide) v13
  have xe25 : ext S6 S19 := w18.x
  refine lv_lstore (lv' := [(7, .long r15), (6, .int r5), (5, .int i), (4, .ref qd), (3, .ref qo), (2, .ref o1), (1, .ref o2), (0, .ref b)]) hx hb dL_law_631 hl (by decide) rfl (fun ls hl => ?_)
  refine lv_goto (tgt := 2924) hx hb dL_law_633 (by decide) ?_
  refine W.widen (k := cells + 40) (n := slots + 1200) (by omega) (by omega) ?_
  exact kk S19 f7 fd H _ ls ⟨hP, hD, w18.w, ((xe14.tr xe25).A h_o2), (xe25.A (xe14.A h_o1)), ((xe14.tr xe25).F h_o1 (by decide) h77), v21, v20, v22, v23, v24⟩ hS (lv_sub hl [2, 3, 4, 5, 6, 7] rfl)
set_option maxHeartbeats 4000000 in
set_option maxRecDepth 100000 in
theorem road_9 {p : Program} {l : Launch} {e : Env} {s : State} {m : MethodId} {below : List Frame} {meth : Method} {c : Code} {b L : Nat} {xs : Nat → Int32} {D : va_G} {cy : Nat → ClassId} {c8 c9 : ClassId} {e0 mi : Nat} {Q : State → Prop} {qo qd o1 o2 : Nat} (C0 : LC p l s m c b L xs D cy c8 c9 e0 mi) (hL9 : L ≤ 2560) {S : wPS} {fo : Nat → Int64} {fd : Nat → UInt64} {H : Heap} {locs : List Loc} {ls : Array Slot} {cells slots : Nat} {i : Int32} (hi : 0 ≤ i.toInt ∧ i.toInt + 5 ≤ L) (hI : LI D cy c8 c9 e0 (fun q => s.heap.size ≤ q) o1 o2 qo qd fo fd S H) (hS : va_S (fun q => s.heap.size ≤ q) s.heap H locs) (hc : cells + 40 ≤ room_1.cells) (hs : slots + 1200 ≤ room_1.slots) (hl : lv_has ls 9 [(5, .int i), (4, .ref qd), (3, .ref qo), (2, .ref o1), (1, .ref o2), (0, .ref b)]) (kk : ∀ (S2 : wPS) (fo2 : Nat → Int64) (fd2 : Nat → UInt64) (H2 : Heap) (locs2 : List Loc) (ls2 : Array Slot), LI D cy c8 c9 e0 (fun q => s.heap.size ≤ q) o1 o2 qo qd fo2 fd2 S2 H2 → va_S (fun q => s.heap.size ≤ q) s.heap H2 locs2 → lv_has ls2 9 [(5, .int i), (4, .ref qd), (3, .ref qo), (2, .ref o1), (1, .ref o2), (0, .ref b)] → W p l e room_1 s m #[Value.ref b] below meth c H2 locs2 (cells + 40) (slots + 1200) Q (F0 m 2924 ls2 [])) : W p l e room_1 s m #[Value.ref b] below meth c H locs cells slots Q (F0 m 636 ls []) := by
  obtain ⟨hx, hb, hml, hown, hts, hX, hbl, hN, hTH, hOU, hKX, hst, hNC⟩ := id C0
  obtain ⟨hP, hD, hW, h_o2, h_o1, h77, hMV, hIV, hR_R55, hR_R58, hR_RLT⟩ := hI
  have hK := kX hKX
  have hA : ∀ q : Nat, s.heap.size ≤ q → (fun q : Nat => s.heap.size ≤ q) q := fun _ h => h
  have hbA : ¬ (fun q : Nat => s.heap.size ≤ q) b := Nat.not_le.mpr hbl
  refine lv_aload_n hx hb dL_law_636 rfl (lv_at hl 4 rfl) ?_
  refine lv_aload_n hx hb dL_law_637 rfl (lv_at hl 5 rfl) ?_
  refine lv_iload hx hb dL_law_638 (lv_at hl 0 rfl) ?_
  refine lv_iconst (v := 1) hx hb dL_law_640 (by decide) ?_
  refine lv_iadd hx hb dL_law_641 ?_
  have l32_1 : (1 : Int32).toInt = 1 := rfl
  have i1 : (i + (1 : Int32)).toInt = i.toInt + 1 := t_addr (n := 1) rfl (by omega)
  refine va_sld hx hb hX hbl hbA hS (inb (m := L) rfl (by omega) (by omega)) dL_law_642 ?_
  obtain ⟨y2, ey2⟩ : ∃ z : Int32, xs (i + (1 : Int32)).toNatClampNeg = z := ⟨_, rfl⟩
  rw [ey2]
  refine lv_aload_n hx hb dL_law_643 rfl (lv_at hl 5 rfl) ?_
  refine lv_iload hx hb dL_law_644 (lv_at hl 0 rfl) ?_
  refine lv_iconst (v := 2) hx hb dL_law_646 (by decide) ?_
  refine lv_iadd hx hb dL_law_647 ?_
  have l32_2 : (2 : Int32).toInt = 2 := rfl
  have i3 : (i + (2 : Int32)).toInt = i.toInt + 2 := t_addr (n := 2) rfl (by omega)
  refine va_sld hx hb hX hbl hbA hS (inb (m := L) rfl (by omega) (by omega)) dL_law_648 ?_
  obtain ⟨y4, ey4⟩ : ∃ z : Int32, xs (i + (2 : Int32)).toNatClampNeg = z := ⟨_, rfl⟩
  rw [ey4]
  refine lv_aload_n hx hb dL_law_649 rfl (lv_at hl 2 rfl) ?_
  have hFc := free_all hD hS hA
  refine va_calli (vx_runSW (As := [.ref o2, .int y2, .int y4, .ref qo]) (rest := []) ⟨hx, hb, hml, hown, hts⟩ (c_L_overlap l hst (e0 := e0) (mi := mi) (D := D) (cy := cy) (c8 := c8) (c9 := c9) qo qd fo fd S _ o2 h_o2 y2 y4 (hW)) (vx_cwSW 4 hts gL_law_L_overlap rfl rfl rfl (by decide +kernel) ⟨Nat.le_of_ble_eq_true rfl, Nat.le_of_ble_eq_true rfl⟩) ⟨fun a U g mk q => ⟨q.1, q.2.1, q.2.2.1.calling, NW.same (u := U) (U := U.calling g mk a) rfl q.2.2.2.1, q.2.2.2.2.1.calling, q.2.2.2.2.2.1.calling, q.2.2.2.2.2.2.calling⟩, fun U hU hW => ⟨rfl, by rw [hU], wx_pre hP hKX hD hU hW, hN.warm hW, th_pre hTH hS hFc hU hW, ou_pre hOU hS hFc hU hW, hNC.moved hW.alike⟩⟩ rfl rfl hl.1 rfl (lv_room (Nat.le_of_ble_eq_true rfl)) dL_law_650 ⟨by omega, by omega⟩) hS (fun q _ h => hFc q h) hFc (fun r5 u t H1 locs ht hvm hw hB hz1 hk1 hS => ?_)
  obtain ⟨S6, f7⟩ := u
  have w8 := hw
  obtain ⟨hP, hD⟩ := wx_post hFc ht hB
  generalize H1 = H at hP hS ⊢
  have w8 : stp ([] : List (Nat × Nat)) [] [] S S6 := w8
  have v9 : IV S6 o1 := IV.keep w8 hW h_o1 (by decide) (by decide) hIV
  have v10 : MV S6 o1 := MV.keep w8 hW h_o1 (by decide) (by decide) hMV
  have v11 : (R55 o2) S6 o1 := R55.keep w8 hW h_o1 (by decide) (by decide) hR_R55
  have v12 : (R58 o2) S6 o1 := R58.keep w8 hW h_o1 (by decide) (by decide) hR_R58
  have v13 : (RLT o2) S6 o1 := RLT.keep w8 hW h_o1 (by decide) (by decide) hR_RLT
  have xe14 : ext S S6 := w8.x
  refine lv_istore (lv' := [(6, .int r5), (5, .int i), (4, .ref qd), (3, .ref qo), (2, .ref o1), (1, .ref o2), (0, .ref b)]) hx hb dL_law_653 hl (by decide) rfl (fun ls hl => ?_)
  refine lv_aload_n hx hb dL_law_655 rfl (lv_at hl 4 rfl) ?_
  refine lv_aload_n hx hb dL_law_656 rfl (lv_at hl 6 rfl) ?_
  refine lv_iload hx hb dL_law_657 (lv_at hl 1 rfl) ?_
  refine lv_iconst (v := 1) hx hb dL_law_659 (by decide) ?_
  refine lv_iadd hx hb dL_law_660 ?_
  refine va_sld hx hb hX hbl hbA hS (inb (m := L) rfl (by omega) (by omega)) dL_law_661 ?_
  rw [ey2]
  refine lv_aload_n hx hb dL_law_662 rfl (lv_at hl 6 rfl) ?_
  refine lv_iload hx hb dL_law_663 (lv_at hl 1 rfl) ?_
  refine lv_iconst (v := 2) hx hb dL_law_665 (by decide) ?_
  refine lv_iadd hx hb dL_law_666 ?_
  refine va_sld hx hb hX hbl hbA hS (inb (m := L) rfl (by omega) (by omega)) dL_law_667 ?_
  rw [ey4]
  have hFc := free_all hD hS hA
  obtain ⟨k16, gk16, hk16⟩ := wGt (cy := cy) (XO c8 c9 qo qd f7 fd) S6 (xe14.A h_o1).1 (xe14.A h_o1).2.1
  refine va_calll (va_runV (As := [.int y2, .int y4]) (rest := []) ⟨hx, hb, hml, hown, hts⟩ (c_X12_overlap l (cy := cy) (X := (XO c8 c9 qo qd f7 fd)) (D := D) S6 _ o1 (xe14.A h_o1) y2 y4 (w8.w)) (cwV 2 hts gL_law_X12_overlap rfl rfl rfl hd_X12_overlap ⟨Nat.le_of_ble_eq_true rfl, Nat.le_of_ble_eq_true rfl⟩) ⟨fun a U g mk q => ⟨q.1, q.2.1, q.2.2.1.calling, NW.same (u := U) (U := U.calling g mk a) rfl q.2.2.2⟩, va_recv hK hP (q := (RX12, TX12, 34)) (ci := 16) (q0 := k16) rfl hk16, fun U hU hW => ⟨rfl, by rw [hU], wd_pre hP hK hD hU hW, hN.warm hW⟩⟩ rfl rfl hl.1 rfl (lv_room (Nat.le_of_ble_eq_true rfl)) dL_law_668 ⟨by omega, by omega⟩) hS (fun q _ h => hFc q h) hFc (fun r15 u t H1 locs ht hvm hw hB hz1 hk1 hS => ?_)
  obtain ⟨c17, w18⟩ := hw
  obtain ⟨hP, hD⟩ := wd_post hFc ht hB
  generalize H1 = H at hP hS ⊢
  obtain ⟨S19, rfl⟩ : ∃ z, z = u := ⟨_, rfl⟩
  have v20 : IV S19 o1 := IV.keep w18 w8.w (xe14.A h_o1) (by decide) (by decide) v9
  have v21 : MV S19 o1 := MV.keep w18 w8.w (xe14.A h_o1) (by decide) (by decide) v10
  have v22 : (R55 o2) S19 o1 := R55.keep w18 w8.w (xe14.A h_o1) (by decide) (by decide) v11
  have v23 : (R58 o2) S19 o1 := R58.keep w18 w8.w (xe14.A h_o1) (by decide) (by decide) v12
  have v24 : (RLT o2) S19 o1 := RLT.keep w18 w8.w (xe14.A h_o1) (by decide) (by decide) v13
  have xe25 : ext S6 S19 := w18.x
  refine lv_lstore (lv' := [(7, .long r15), (6, .int r5), (5, .int i), (4, .ref qd), (3, .ref qo), (2, .ref o1), (1, .ref o2), (0, .ref b)]) hx hb dL_law_671 hl (by decide) rfl (fun ls hl => ?_)
  refine lv_goto (tgt := 2924) hx hb dL_law_673 (by decide) ?_
  refine W.widen (k := cells + 40) (n := slots + 1200) (by omega) (by omega) ?_
  exact kk S19 f7 fd H _ ls ⟨hP, hD, w18.w, ((xe14.tr xe25).A h_o2), (xe25.A (xe14.A h_o1)), ((xe14.tr xe25).F h_o1 (by decide) h77), v21, v20, v22, v23, v24⟩ hS (lv_sub hl [2, 3, 4, 5, 6, 7] rfl)
set_option maxHeartbeats 4000000 in
set_option maxRecDepth 100000 in
theorem road_10 {p : Program} {l : Launch} {e : Env} {s : State} {m : MethodId} {below : List Frame} {meth : Method} {c : Code} {b L : Nat} {xs : Nat → Int32} {D : va_G} {cy : Nat → ClassId} {c8 c9 : ClassId} {e0 mi : Nat} {Q : State → Prop} {qo qd o1 o2 : Nat} (C0 : LC p l s m c b L xs D cy c8 c9 e0 mi) (hL9 : L ≤ 2560) {S : wPS} {fo : Nat → Int64} {fd : Nat → UInt64} {H : Heap} {locs : List Loc} {ls : Array Slot} {cells slots : Nat} {i : Int32} (hi : 0 ≤ i.toInt ∧ i.toInt + 5 ≤ L) (hI : LI D cy c8 c9 e0 (fun q => s.heap.size ≤ q) o1 o2 qo qd fo fd S H) (hS : va_S (fun q => s.heap.size ≤ q) s.heap H locs) (hc : cells + 40 ≤ room_1.cells) (hs : slots + 1200 ≤ room_1.slots) (hl : lv_has ls 9 [(5, .int i), (4, .ref qd), (3, .ref qo), (2, .ref o1), (1, .ref o2), (0, .ref b)]) (kk : ∀ (S2 : wPS) (fo2 : Nat → Int64) (fd2 : Nat → UInt64) (H2 : Heap) (locs2 : List Loc) (ls2 : Array Slot), LI D cy c8 c9 e0 (fun q => s.heap.size ≤ q) o1 o2 qo qd fo2 fd2 S2 H2 → va_S (fun q => s.heap.size ≤ q) s.heap H2 locs2 → lv_has ls2 9 [(5, .int i), (4, .ref qd), (3, .ref qo), (2, .ref o1), (1, .ref o2), (0, .ref b)] → W p l e room_1 s m #[Value.ref b] below meth c H2 locs2 (cells + 40) (slots + 1200) Q (F0 m 2924 ls2 [])) : W p l e room_1 s m #[Value.ref b] below meth c H locs cells slots Q (F0 m 676 ls []) := by
  obtain ⟨hx, hb, hml, hown, hts, hX, hbl, hN, hTH, hOU, hKX, hst, hNC⟩ := id C0
  obtain ⟨hP, hD, hW, h_o2, h_o1, h77, hMV, hIV, hR_R55, hR_R58, hR_RLT⟩ := hI
  have hK := kX hKX
  have hA : ∀ q : Nat, s.heap.size ≤ q → (fun q : Nat => s.heap.size ≤ q) q := fun _ h => h
  have hbA : ¬ (fun q : Nat => s.heap.size ≤ q) b := Nat.not_le.mpr hbl
  refine lv_aload_n hx hb dL_law_676 rfl (lv_at hl 4 rfl) ?_
  refine lv_aload_n hx hb dL_law_677 rfl (lv_at hl 5 rfl) ?_
  refine lv_iload hx hb dL_law_678 (lv_at hl 0 rfl) ?_
  refine lv_iconst (v := 1) hx hb dL_law_680 (by decide) ?_
  refine lv_iadd hx hb dL_law_681 ?_
  have l32_1 : (1 : Int32).toInt = 1 := rfl
  have i1 : (i + (1 : Int32)).toInt = i.toInt + 1 := t_addr (n := 1) rfl (by omega)
  refine va_sld hx hb hX hbl hbA hS (inb (m := L) rfl (by omega) (by omega)) dL_law_682 ?_
  obtain ⟨y2, ey2⟩ : ∃ z : Int32, xs (i + (1 : Int32)).toNatClampNeg = z := ⟨_, rfl⟩
  rw [ey2]
  refine lv_aload_n hx hb dL_law_683 rfl (lv_at hl 5 rfl) ?_
  refine lv_iload hx hb dL_law_684 (lv_at hl 0 rfl) ?_
  refine lv_iconst (v := 2) hx hb dL_law_686 (by decide) ?_
  refine lv_iadd hx hb dL_law_687 ?_
  have l32_2 : (2 : Int32).toInt = 2 := rfl
  have i3 : (i + (2 : Int32)).toInt = i.toInt + 2 := t_addr (n := 2) rfl (by omega)
  refine va_sld hx hb hX hbl hbA hS (inb (m := L) rfl (by omega) (by omega)) dL_law_688 ?_
  obtain ⟨y4, ey4⟩ : ∃ z : Int32, xs (i + (2 : Int32)).toNatClampNeg = z := ⟨_, rfl⟩
  rw [ey4]
  refine lv_aload_n hx hb dL_law_689 rfl (lv_at hl 2 rfl) ?_
  have hFc := free_all hD hS hA
  refine va_calli (vx_runSW (As := [.ref o2, .int y2, .int y4, .ref qo]) (rest := []) ⟨hx, hb, hml, hown, hts⟩ (c_L_runsWell l hst (e0 := e0) (mi := mi) (D := D) (cy := cy) (c8 := c8) (c9 := c9) qo qd fo fd S _ o2 h_o2 y2 y4 (hW)) (vx_cwSW 4 hts gL_law_L_runsWell rfl rfl rfl (by decide +kernel) ⟨Nat.le_of_ble_eq_true rfl, Nat.le_of_ble_eq_true rfl⟩) ⟨fun a U g mk q => ⟨q.1, q.2.1, q.2.2.1.calling, NW.same (u := U) (U := U.calling g mk a) rfl q.2.2.2.1, q.2.2.2.2.1.calling, q.2.2.2.2.2.1.calling, q.2.2.2.2.2.2.calling⟩, fun U hU hW => ⟨rfl, by rw [hU], wx_pre hP hKX hD hU hW, hN.warm hW, th_pre hTH hS hFc hU hW, ou_pre hOU hS hFc hU hW, hNC.moved hW.alike⟩⟩ rfl rfl hl.1 rfl (lv_room (Nat.le_of_ble_eq_true rfl)) dL_law_690 ⟨by omega, by omega⟩) hS (fun q _ h => hFc q h) hFc (fun r5 u t H1 locs ht hvm hw hB hz1 hk1 hS => ?_)
  obtain ⟨S6, f7⟩ := u
  have w8 := hw
  obtain ⟨hP, hD⟩ := wx_post hFc ht hB
  generalize H1 = H at hP hS ⊢
  have w8 : stp ([] : List (Nat × Nat)) [] [] S S6 := w8
  have v9 : IV S6 o1 := IV.keep w8 hW h_o1 (by decide) (by decide) hIV
  have v10 : MV S6 o1 := MV.keep w8 hW h_o1 (by decide) (by decide) hMV
  have v11 : (R55 o2) S6 o1 := R55.keep w8 hW h_o1 (by decide) (by decide) hR_R55
  have v12 : (R58 o2) S6 o1 := R58.keep w8 hW h_o1 (by decide) (by decide) hR_R58
  have v13 : (RLT o2) S6 o1 := RLT.keep w8 hW h_o1 (by decide) (by decide) hR_RLT
  have xe14 : ext S S6 := w8.x
  refine lv_istore (lv' := [(6, .int r5), (5, .int i), (4, .ref qd), (3, .ref qo), (2, .ref o1), (1, .ref o2), (0, .ref b)]) hx hb dL_law_693 hl (by decide) rfl (fun ls hl => ?_)
  refine lv_aload_n hx hb dL_law_695 rfl (lv_at hl 4 rfl) ?_
  refine lv_aload_n hx hb dL_law_696 rfl (lv_at hl 6 rfl) ?_
  refine lv_iload hx hb dL_law_697 (lv_at hl 1 rfl) ?_
  refine lv_iconst (v := 1) hx hb dL_law_699 (by decide) ?_
  refine lv_iadd hx hb dL_law_700 ?_
  refine va_sld hx hb hX hbl hbA hS (inb (m := L) rfl (by omega) (by omega)) dL_law_701 ?_
  rw [ey2]
  refine lv_aload_n hx hb dL_law_702 rfl (lv_at hl 6 rfl) ?_
  refine lv_iload hx hb dL_law_703 (lv_at hl 1 rfl) ?_
  refine lv_iconst (v := 2) hx hb dL_law_705 (by decide) ?_
  refine lv_iadd hx hb dL_law_706 ?_
  refine va_sld hx hb hX hbl hbA hS (inb (m := L) rfl (by omega) (by omega)) dL_law_707 ?_
  rw [ey4]
  have hFc := free_all hD hS hA
  obtain ⟨k16, gk16, hk16⟩ := wGt (cy := cy) (XO c8 c9 qo qd f7 fd) S6 (xe14.A h_o1).1 (xe14.A h_o1).2.1
  refine va_calli (va_runV (As := [.int y2, .int y4]) (rest := []) ⟨hx, hb, hml, hown, hts⟩ (c_X12_runsWell l (cy := cy) (X := (XO c8 c9 qo qd f7 fd)) (D := D) S6 _ o1 (xe14.A h_o1) y2 y4 (w8.w)) (cwV 2 hts gL_law_X12_runsWell rfl rfl rfl hd_X12_runsWell ⟨Nat.le_of_ble_eq_true rfl, Nat.le_of_ble_eq_true rfl⟩) ⟨fun a U g mk q => ⟨q.1, q.2.1, q.2.2.1.calling, NW.same (u := U) (U := U.calling g mk a) rfl q.2.2.2⟩, va_recv hK hP (q := (RX12, TX12, 34)) (ci := 16) (q0 := k16) rfl hk16, fun U hU hW => ⟨rfl, by rw [hU], wd_pre hP hK hD hU hW, hN.warm hW⟩⟩ rfl rfl hl.1 rfl (lv_room (Nat.le_of_ble_eq_true rfl)) dL_law_708 ⟨by omega, by omega⟩) hS (fun q _ h => hFc q h) hFc (fun r15 u t H1 locs ht hvm hw hB hz1 hk1 hS => ?_)
  obtain ⟨c17, w18, y19⟩ := hw
  obtain ⟨hP, hD⟩ := wd_post hFc ht hB
  generalize H1 = H at hP hS ⊢
  obtain ⟨S20, rfl⟩ : ∃ z, z = u := ⟨_, rfl⟩
  have v21 : IV S20 o1 := IV.keep w18 w8.w (xe14.A h_o1) (by decide) (by decide) v9
  have v22 : MV S20 o1 := MV.keep w18 w8.w (xe14.A h_o1) (by decide) (by decide) v10
  have v23 : (R55 o2) S20 o1 := R55.keep w18 w8.w (xe14.A h_o1) (by decide) (by decide) v11
  have v24 : (R58 o2) S20 o1 := R58.keep w18 w8.w (xe14.A h_o1) (by decide) (by decide) v12
  have v25 : (RLT o2) S20 o1 := RLT.keep w18 w8.w (xe14.A h_o1) (by decide) (by decide) v13
  have xe26 : ext S6 S20 := w18.x
  refine lv_istore (lv' := [(7, .int r15), (6, .int r5), (5, .int i), (4, .ref qd), (3, .ref qo), (2, .ref o1), (1, .ref o2), (0, .ref b)]) hx hb dL_law_711 hl (by decide) rfl (fun ls hl => ?_)
  refine lv_goto (tgt := 2924) hx hb dL_law_713 (by decide) ?_
  refine W.widen (k := cells + 40) (n := slots + 1200) (by omega) (by omega) ?_
  exact kk S20 f7 fd H _ ls ⟨hP, hD, w18.w, ((xe14.tr xe26).A h_o2), (xe26.A (xe14.A h_o1)), ((xe14.tr xe26).F h_o1 (by decide) h77), v22, v21, v23, v24, v25⟩ hS (lv_sub hl [2, 3, 4, 5, 6, 7] rfl)
set_option maxHeartbeats 4000000 in
set_option maxRecDepth 100000 in
theorem road_11 {p : Program} {l : Launch} {e : Env} {s : State} {m : MethodId} {below : List Frame} {meth : Method} {c : Code} {b L : Nat} {xs : Nat → Int32} {D : va_G} {cy : Nat → ClassId} {c8 c9 : ClassId} {e0 mi : Nat} {Q : State → Prop} {qo qd o1 o2 : Nat} (C0 : LC p l s m c b L xs D cy c8 c9 e0 mi) (hL9 : L ≤ 2560) {S : wPS} {fo : Nat → Int64} {fd : Nat → UInt64} {H : Heap} {locs : List Loc} {ls : Array Slot} {cells slots : Nat} {i : Int32} (hi : 0 ≤ i.toInt ∧ i.toInt + 5 ≤ L) (hI : LI D cy c8 c9 e0 (fun q => s.heap.size ≤ q) o1 o2 qo qd fo fd S H) (hS : va_S (fun q => s.heap.size ≤ q) s.heap H locs) (hc : cells + 40 ≤ room_1.cells) (hs : slots + 1200 ≤ room_1.slots) (hl : lv_has ls 9 [(5, .int i), (4, .ref qd), (3, .ref qo), (2, .ref o1), (1, .ref o2), (0, .ref b)]) (kk : ∀ (S2 : wPS) (fo2 : Nat → Int64) (fd2 : Nat → UInt64) (H2 : Heap) (locs2 : List Loc) (ls2 : Array Slot), LI D cy c8 c9 e0 (fun q => s.heap.size ≤ q) o1 o2 qo qd fo2 fd2 S2 H2 → va_S (fun q => s.heap.size ≤ q) s.heap H2 locs2 → lv_has ls2 9 [(5, .int i), (4, .ref qd), (3, .ref qo), (2, .ref o1), (1, .ref o2), (0, .ref b)] → W p l e room_1 s m #[Value.ref b] below meth c H2 locs2 (cells + 40) (slots + 1200) Q (F0 m 2924 ls2 [])) : W p l e room_1 s m #[Value.ref b] below meth c H locs cells slots Q (F0 m 716 ls []) := by
  obtain ⟨hx, hb, hml, hown, hts, hX, hbl, hN, hTH, hOU, hKX, hst, hNC⟩ := id C0
  obtain ⟨hP, hD, hW, h_o2, h_o1, h77, hMV, hIV, hR_R55, hR_R58, hR_RLT⟩ := hI
  have hK := kX hKX
  have hA : ∀ q : Nat, s.heap.size ≤ q → (fun q : Nat => s.heap.size ≤ q) q := fun _ h => h
  have hbA : ¬ (fun q : Nat => s.heap.size ≤ q) b := Nat.not_le.mpr hbl
  refine lv_aload_n hx hb dL_law_716 rfl (lv_at hl 4 rfl) ?_
  refine lv_aload_n hx hb dL_law_717 rfl (lv_at hl 5 rfl) ?_
  refine lv_iload hx hb dL_law_718 (lv_at hl 0 rfl) ?_
  refine lv_iconst (v := 1) hx hb dL_law_720 (by decide) ?_
  refine lv_iadd hx hb dL_law_721 ?_
  have l32_1 : (1 : Int32).toInt = 1 := rfl
  have i1 : (i + (1 : Int32)).toInt = i.toInt + 1 := t_addr (n := 1) rfl (by omega)
  refine va_sld hx hb hX hbl hbA hS (inb (m := L) rfl (by omega) (by omega)) dL_law_722 ?_
  obtain ⟨y2, ey2⟩ : ∃ z : Int32, xs (i + (1 : Int32)).toNatClampNeg = z := ⟨_, rfl⟩
  rw [ey2]
  refine lv_aload_n hx hb dL_law_723 rfl (lv_at hl 5 rfl) ?_
  refine lv_iload hx hb dL_law_724 (lv_at hl 0 rfl) ?_
  refine lv_iconst (v := 2) hx hb dL_law_726 (by decide) ?_
  refine lv_iadd hx hb dL_law_727 ?_
  have l32_2 : (2 : Int32).toInt = 2 := rfl
  have i3 : (i + (2 : Int32)).toInt = i.toInt + 2 := t_addr (n := 2) rfl (by omega)
  refine va_sld hx hb hX hbl hbA hS (inb (m := L) rfl (by omega) (by omega)) dL_law_728 ?_
  obtain ⟨y4, ey4⟩ : ∃ z : Int32, xs (i + (2 : Int32)).toNatClampNeg = z := ⟨_, rfl⟩
  rw [ey4]
  refine lv_aload_n hx hb dL_law_729 rfl (lv_at hl 2 rfl) ?_
  have hFc := free_all hD hS hA
  refine va_calli (vx_runSW (As := [.ref o2, .int y2, .int y4, .ref qo]) (rest := []) ⟨hx, hb, hml, hown, hts⟩ (c_L_slide l hst (e0 := e0) (mi := mi) (D := D) (cy := cy) (c8 := c8) (c9 := c9) qo qd fo fd S _ o2 h_o2 y2 y4 (hW)) (vx_cwSW 4 hts gL_law_L_slide rfl rfl rfl (by decide +kernel) ⟨Nat.le_of_ble_eq_true rfl, Nat.le_of_ble_eq_true rfl⟩) ⟨fun a U g mk q => ⟨q.1, q.2.1, q.2.2.1.calling, NW.same (u := U) (U := U.calling g mk a) rfl q.2.2.2.1, q.2.2.2.2.1.calling, q.2.2.2.2.2.1.calling, q.2.2.2.2.2.2.calling⟩, fun U hU hW => ⟨rfl, by rw [hU], wx_pre hP hKX hD hU hW, hN.warm hW, th_pre hTH hS hFc hU hW, ou_pre hOU hS hFc hU hW, hNC.moved hW.alike⟩⟩ rfl rfl hl.1 rfl (lv_room (Nat.le_of_ble_eq_true rfl)) dL_law_730 ⟨by omega, by omega⟩) hS (fun q _ h => hFc q h) hFc (fun r5 u t H1 locs ht hvm hw hB hz1 hk1 hS => ?_)
  obtain ⟨S6, f7⟩ := u
  have w8 := hw
  obtain ⟨hP, hD⟩ := wx_post hFc ht hB
  generalize H1 = H at hP hS ⊢
  have w8 : stp ([] : List (Nat × Nat)) [] [] S S6 := w8
  have v9 : IV S6 o1 := IV.keep w8 hW h_o1 (by decide) (by decide) hIV
  have v10 : MV S6 o1 := MV.keep w8 hW h_o1 (by decide) (by decide) hMV
  have v11 : (R55 o2) S6 o1 := R55.keep w8 hW h_o1 (by decide) (by decide) hR_R55
  have v12 : (R58 o2) S6 o1 := R58.keep w8 hW h_o1 (by decide) (by decide) hR_R58
  have v13 : (RLT o2) S6 o1 := RLT.keep w8 hW h_o1 (by decide) (by decide) hR_RLT
  have xe14 : ext S S6 := w8.x
  refine lv_istore (lv' := [(6, .int r5), (5, .int i), (4, .ref qd), (3, .ref qo), (2, .ref o1), (1, .ref o2), (0, .ref b)]) hx hb dL_law_733 hl (by decide) rfl (fun ls hl => ?_)
  refine lv_aload_n hx hb dL_law_735 rfl (lv_at hl 4 rfl) ?_
  refine lv_aload_n hx hb dL_law_736 rfl (lv_at hl 6 rfl) ?_
  refine lv_iload hx hb dL_law_737 (lv_at hl 1 rfl) ?_
  refine lv_iconst (v := 1) hx hb dL_law_739 (by decide) ?_
  refine lv_iadd hx hb dL_law_740 ?_
  refine va_sld hx hb hX hbl hbA hS (inb (m := L) rfl (by omega) (by omega)) dL_law_741 ?_
  rw [ey2]
  refine lv_aload_n hx hb dL_law_742 rfl (lv_at hl 6 rfl) ?_
  refine lv_iload hx hb dL_law_743 (lv_at hl 1 rfl) ?_
  refine lv_iconst (v := 2) hx hb dL_law_745 (by decide) ?_
  refine lv_iadd hx hb dL_law_746 ?_
  refine va_sld hx hb hX hbl hbA hS (inb (m := L) rfl (by omega) (by omega)) dL_law_747 ?_
  rw [ey4]
  have hFc := free_all hD hS hA
  obtain ⟨k16, gk16, hk16⟩ := wGt (cy := cy) (XO c8 c9 qo qd f7 fd) S6 (xe14.A h_o1).1 (xe14.A h_o1).2.1
  refine va_calll (va_runV (As := [.int y2, .int y4]) (rest := []) ⟨hx, hb, hml, hown, hts⟩ (c_X12_slide l (cy := cy) (X := (XO c8 c9 qo qd f7 fd)) (D := D) S6 _ o1 (xe14.A h_o1) y2 y4 (w8.w)) (cwV 2 hts gL_law_X12_slide rfl rfl rfl hd_X12_slide ⟨Nat.le_of_ble_eq_true rfl, Nat.le_of_ble_eq_true rfl⟩) ⟨fun a U g mk q => ⟨q.1, q.2.1, q.2.2.1.calling, NW.same (u := U) (U := U.calling g mk a) rfl q.2.2.2⟩, va_recv hK hP (q := (RX12, TX12, 34)) (ci := 16) (q0 := k16) rfl hk16, fun U hU hW => ⟨rfl, by rw [hU], wd_pre hP hK hD hU hW, hN.warm hW⟩⟩ rfl rfl hl.1 rfl (lv_room (Nat.le_of_ble_eq_true rfl)) dL_law_748 ⟨by omega, by omega⟩) hS (fun q _ h => hFc q h) hFc (fun r15 u t H1 locs ht hvm hw hB hz1 hk1 hS => ?_)
  obtain ⟨c17, w18⟩ := hw
  obtain ⟨hP, hD⟩ := wd_post hFc ht hB
  generalize H1 = H at hP hS ⊢
  obtain ⟨S19, rfl⟩ : ∃ z, z = u := ⟨_, rfl⟩
  have v20 : IV S19 o1 := IV.keep w18 w8.w (xe14.A h_o1) (by decide) (by decide) v9
  have v21 : MV S19 o1 := MV.keep w18 w8.w (xe14.A h_o1) (by decide) (by decide) v10
  have v22 : (R55 o2) S19 o1 := R55.keep w18 w8.w (xe14.A h_o1) (by decide) (by decide) v11
  have v23 : (R58 o2) S19 o1 := R58.keep w18 w8.w (xe14.A h_o1) (by decide) (by decide) v12
  have v24 : (RLT o2) S19 o1 := RLT.keep w18 w8.w (xe14.A h_o1) (by decide) (by decide) v13
  have xe25 : ext S6 S19 := w18.x
  refine lv_lstore (lv' := [(7, .long r15), (6, .int r5), (5, .int i), (4, .ref qd), (3, .ref qo), (2, .ref o1), (1, .ref o2), (0, .ref b)]) hx hb dL_law_751 hl (by decide) rfl (fun ls hl => ?_)
  refine lv_goto (tgt := 2924) hx hb dL_law_753 (by decide) ?_
  refine W.widen (k := cells + 40) (n := slots + 1200) (by omega) (by omega) ?_
  exact kk S19 f7 fd H _ ls ⟨hP, hD, w18.w, ((xe14.tr xe25).A h_o2), (xe25.A (xe14.A h_o1)), ((xe14.tr xe25).F h_o1 (by decide) h77), v21, v20, v22, v23, v24⟩ hS (lv_sub hl [2, 3, 4, 5, 6, 7] rfl)
set_option maxHeartbeats 4000000 in
set_option maxRecDepth 100000 in
theorem road_12 {p : Program} {l : Launch} {e : Env} {s : State} {m : MethodId} {below : List Frame} {meth : Method} {c : Code} {b L : Nat} {xs : Nat → Int32} {D : va_G} {cy : Nat → ClassId} {c8 c9 : ClassId} {e0 mi : Nat} {Q : State → Prop} {qo qd o1 o2 : Nat} (C0 : LC p l s m c b L xs D cy c8 c9 e0 mi) (hL9 : L ≤ 2560) {S : wPS} {fo : Nat → Int64} {fd : Nat → UInt64} {H : Heap} {locs : List Loc} {ls : Array Slot} {cells slots : Nat} {i : Int32} (hi : 0 ≤ i.toInt ∧ i.toInt + 5 ≤ L) (hI : LI D cy c8 c9 e0 (fun q => s.heap.size ≤ q) o1 o2 qo qd fo fd S H) (hS : va_S (fun q => s.heap.size ≤ q) s.heap H locs) (hc : cells + 40 ≤ room_1.cells) (hs : slots + 1200 ≤ room_1.slots) (hl : lv_has ls 9 [(5, .int i), (4, .ref qd), (3, .ref qo), (2, .ref o1), (1, .ref o2), (0, .ref b)]) (kk : ∀ (S2 : wPS) (fo2 : Nat → Int64) (fd2 : Nat → UInt64) (H2 : Heap) (locs2 : List Loc) (ls2 : Array Slot), LI D cy c8 c9 e0 (fun q => s.heap.size ≤ q) o1 o2 qo qd fo2 fd2 S2 H2 → va_S (fun q => s.heap.size ≤ q) s.heap H2 locs2 → lv_has ls2 9 [(5, .int i), (4, .ref qd), (3, .ref qo), (2, .ref o1), (1, .ref o2), (0, .ref b)] → W p l e room_1 s m #[Value.ref b] below meth c H2 locs2 (cells + 40) (slots + 1200) Q (F0 m 2924 ls2 [])) : W p l e room_1 s m #[Value.ref b] below meth c H locs cells slots Q (F0 m 756 ls []) := by
  obtain ⟨hx, hb, hml, hown, hts, hX, hbl, hN, hTH, hOU, hKX, hst, hNC⟩ := id C0
  obtain ⟨hP, hD, hW, h_o2, h_o1, h77, hMV, hIV, hR_R55, hR_R58, hR_RLT⟩ := hI
  have hK := kX hKX
  have hA : ∀ q : Nat, s.heap.size ≤ q → (fun q : Nat => s.heap.size ≤ q) q := fun _ h => h
  have hbA : ¬ (fun q : Nat => s.heap.size ≤ q) b := Nat.not_le.mpr hbl
  refine lv_aload_n hx hb dL_law_756 rfl (lv_at hl 4 rfl) ?_
  refine lv_aload_n hx hb dL_law_757 rfl (lv_at hl 5 rfl) ?_
  refine lv_iload hx hb dL_law_758 (lv_at hl 0 rfl) ?_
  refine lv_iconst (v := 1) hx hb dL_law_760 (by decide) ?_
  refine lv_iadd hx hb dL_law_761 ?_
  have l32_1 : (1 : Int32).toInt = 1 := rfl
  have i1 : (i + (1 : Int32)).toInt = i.toInt + 1 := t_addr (n := 1) rfl (by omega)
  refine va_sld hx hb hX hbl hbA hS (inb (m := L) rfl (by omega) (by omega)) dL_law_762 ?_
  obtain ⟨y2, ey2⟩ : ∃ z : Int32, xs (i + (1 : Int32)).toNatClampNeg = z := ⟨_, rfl⟩
  rw [ey2]
  refine lv_aload_n hx hb dL_law_763 rfl (lv_at hl 5 rfl) ?_
  refine lv_iload hx hb dL_law_764 (lv_at hl 0 rfl) ?_
  refine lv_iconst (v := 2) hx hb dL_law_766 (by decide) ?_
  refine lv_iadd hx hb dL_law_767 ?_
  have l32_2 : (2 : Int32).toInt = 2 := rfl
  have i3 : (i + (2 : Int32)).toInt = i.toInt + 2 := t_addr (n := 2) rfl (by omega)
  refine va_sld hx hb hX hbl hbA hS (inb (m := L) rfl (by omega) (by omega)) dL_law_768 ?_
  obtain ⟨y4, ey4⟩ : ∃ z : Int32, xs (i + (2 : Int32)).toNatClampNeg = z := ⟨_, rfl⟩
  rw [ey4]
  refine lv_aload_n hx hb dL_law_769 rfl (lv_at hl 2 rfl) ?_
  have hFc := free_all hD hS hA
  refine va_calli (vx_runSW (As := [.ref o2, .int y2, .int y4, .ref qo]) (rest := []) ⟨hx, hb, hml, hown, hts⟩ (c_L_balance l hst (e0 := e0) (mi := mi) (D := D) (cy := cy) (c8 := c8) (c9 := c9) qo qd fo fd S _ o2 h_o2 y2 y4 (hW)) (vx_cwSW 4 hts gL_law_L_balance rfl rfl rfl (by decide +kernel) ⟨Nat.le_of_ble_eq_true rfl, Nat.le_of_ble_eq_true rfl⟩) ⟨fun a U g mk q => ⟨q.1, q.2.1, q.2.2.1.calling, NW.same (u := U) (U := U.calling g mk a) rfl q.2.2.2.1, q.2.2.2.2.1.calling, q.2.2.2.2.2.1.calling, q.2.2.2.2.2.2.calling⟩, fun U hU hW => ⟨rfl, by rw [hU], wx_pre hP hKX hD hU hW, hN.warm hW, th_pre hTH hS hFc hU hW, ou_pre hOU hS hFc hU hW, hNC.moved hW.alike⟩⟩ rfl rfl hl.1 rfl (lv_room (Nat.le_of_ble_eq_true rfl)) dL_law_770 ⟨by omega, by omega⟩) hS (fun q _ h => hFc q h) hFc (fun r5 u t H1 locs ht hvm hw hB hz1 hk1 hS => ?_)
  obtain ⟨S6, f7⟩ := u
  have w8 := hw
  obtain ⟨hP, hD⟩ := wx_post hFc ht hB
  generalize H1 = H at hP hS ⊢
  have w8 : stp [(2, 7)] [] [] S S6 := w8
  have v9 : IV S6 o1 := IV.keep w8 hW h_o1 (by decide) (by decide) hIV
  have v10 : MV S6 o1 := MV.keep w8 hW h_o1 (by decide) (by decide) hMV
  have v11 : (R55 o2) S6 o1 := R55.keep w8 hW h_o1 (by decide) (by decide) hR_R55
  have v12 : (R58 o2) S6 o1 := R58.keep w8 hW h_o1 (by decide) (by decide) hR_R58
  have v13 : (RLT o2) S6 o1 := RLT.keep w8 hW h_o1 (by decide) (by decide) hR_RLT
  have xe14 : ext S S6 := w8.x
  refine lv_istore (lv' := [(6, .int r5), (5, .int i), (4, .ref qd), (3, .ref qo), (2, .ref o1), (1, .ref o2), (0, .ref b)]) hx hb dL_law_773 hl (by decide) rfl (fun ls hl => ?_)
  refine lv_aload_n hx hb dL_law_775 rfl (lv_at hl 4 rfl) ?_
  refine lv_aload_n hx hb dL_law_776 rfl (lv_at hl 6 rfl) ?_
  refine lv_iload hx hb dL_law_777 (lv_at hl 1 rfl) ?_
  refine lv_iconst (v := 1) hx hb dL_law_779 (by decide) ?_
  refine lv_iadd hx hb dL_law_780 ?_
  refine va_sld hx hb hX hbl hbA hS (inb (m := L) rfl (by omega) (by omega)) dL_law_781 ?_
  rw [ey2]
  refine lv_aload_n hx hb dL_law_782 rfl (lv_at hl 6 rfl) ?_
  refine lv_iload hx hb dL_law_783 (lv_at hl 1 rfl) ?_
  refine lv_iconst (v := 2) hx hb dL_law_785 (by decide) ?_
  refine lv_iadd hx hb dL_law_786 ?_
  refine va_sld hx hb hX hbl hbA hS (inb (m := L) rfl (by omega) (by omega)) dL_law_787 ?_
  rw [ey4]
  have hFc := free_all hD hS hA
  obtain ⟨k16, gk16, hk16⟩ := wGt (cy := cy) (XO c8 c9 qo qd f7 fd) S6 (xe14.A h_o1).1 (xe14.A h_o1).2.1
  refine va_calli (va_runV (As := [.int y2, .int y4]) (rest := []) ⟨hx, hb, hml, hown, hts⟩ (c_X12_balance l (cy := cy) (X := (XO c8 c9 qo qd f7 fd)) (D := D) S6 _ o1 (xe14.A h_o1) y2 y4 (w8.w)) (cwV 2 hts gL_law_X12_balance rfl rfl rfl hd_X12_balance ⟨Nat.le_of_ble_eq_true rfl, Nat.le_of_ble_eq_true rfl⟩) ⟨fun a U g mk q => ⟨q.1, q.2.1, q.2.2.1.calling, NW.same (u := U) (U := U.calling g mk a) rfl q.2.2.2⟩, va_recv hK hP (q := (RX12, TX12, 34)) (ci := 16) (q0 := k16) rfl hk16, fun U hU hW => ⟨rfl, by rw [hU], wd_pre hP hK hD hU hW, hN.warm hW⟩⟩ rfl rfl hl.1 rfl (lv_room (Nat.le_of_ble_eq_true rfl)) dL_law_788 ⟨by omega, by omega⟩) hS (fun q _ h => hFc q h) hFc (fun r15 u t H1 locs ht hvm hw hB hz1 hk1 hS => ?_)
  have w17 := hw
  obtain ⟨hP, hD⟩ := wd_post hFc ht hB
  generalize H1 = H at hP hS ⊢
  obtain ⟨S18, rfl⟩ : ∃ z, z = u := ⟨_, rfl⟩
  have v19 : IV S18 o1 := IV.keep w17 w8.w (xe14.A h_o1) (by decide) (by decide) v9
  have v20 : MV S18 o1 := MV.keep w17 w8.w (xe14.A h_o1) (by decide) (by decide) v10
  have v21 : (R55 o2) S18 o1 := R55.keep w17 w8.w (xe14.A h_o1) (by decide) (by decide) v11
  have v22 : (R58 o2) S18 o1 := R58.keep w17 w8.w (xe14.A h_o1) (by decide) (by decide) v12
  have v23 : (RLT o2) S18 o1 := RLT.keep w17 w8.w (xe14.A h_o1) (by decide) (by decide) v13
  have xe24 : ext S6 S18 := w17.x
  refine lv_istore (lv' := [(7, .int r15), (6, .int r5), (5, .int i), (4, .ref qd), (3, .ref qo), (2, .ref o1), (1, .ref o2), (0, .ref b)]) hx hb dL_law_791 hl (by decide) rfl (fun ls hl => ?_)
  refine lv_goto (tgt := 2924) hx hb dL_law_793 (by decide) ?_
  refine W.widen (k := cells + 40) (n := slots + 1200) (by omega) (by omega) ?_
  exact kk S18 f7 fd H _ ls ⟨hP, hD, w17.w, ((xe14.tr xe24).A h_o2), (xe24.A (xe14.A h_o1)), ((xe14.tr xe24).F h_o1 (by decide) h77), v20, v19, v21, v22, v23⟩ hS (lv_sub hl [2, 3, 4, 5, 6, 7] rfl)
set_option maxHeartbeats 4000000 in
set_option maxRecDepth 100000 in
theorem road_13 {p : Program} {l : Launch} {e : Env} {s : State} {m : MethodId} {below : List Frame} {meth : Method} {c : Code} {b L : Nat} {xs : Nat → Int32} {D : va_G} {cy : Nat → ClassId} {c8 c9 : ClassId} {e0 mi : Nat} {Q : State → Prop} {qo qd o1 o2 : Nat} (C0 : LC p l s m c b L xs D cy c8 c9 e0 mi) (hL9 : L ≤ 2560) {S : wPS} {fo : Nat → Int64} {fd : Nat → UInt64} {H : Heap} {locs : List Loc} {ls : Array Slot} {cells slots : Nat} {i : Int32} (hi : 0 ≤ i.toInt ∧ i.toInt + 5 ≤ L) (hI : LI D cy c8 c9 e0 (fun q => s.heap.size ≤ q) o1 o2 qo qd fo fd S H) (hS : va_S (fun q => s.heap.size ≤ q) s.heap H locs) (hc : cells + 40 ≤ room_1.cells) (hs : slots + 1200 ≤ room_1.slots) (hl : lv_has ls 9 [(5, .int i), (4, .ref qd), (3, .ref qo), (2, .ref o1), (1, .ref o2), (0, .ref b)]) (kk : ∀ (S2 : wPS) (fo2 : Nat → Int64) (fd2 : Nat → UInt64) (H2 : Heap) (locs2 : List Loc) (ls2 : Array Slot), LI D cy c8 c9 e0 (fun q => s.heap.size ≤ q) o1 o2 qo qd fo2 fd2 S2 H2 → va_S (fun q => s.heap.size ≤ q) s.heap H2 locs2 → lv_has ls2 9 [(5, .int i), (4, .ref qd), (3, .ref qo), (2, .ref o1), (1, .ref o2), (0, .ref b)] → W p l e room_1 s m #[Value.ref b] below meth c H2 locs2 (cells + 40) (slots + 1200) Q (F0 m 2924 ls2 [])) : W p l e room_1 s m #[Value.ref b] below meth c H locs cells slots Q (F0 m 796 ls []) := by
  obtain ⟨hx, hb, hml, hown, hts, hX, hbl, hN, hTH, hOU, hKX, hst, hNC⟩ := id C0
  obtain ⟨hP, hD, hW, h_o2, h_o1, h77, hMV, hIV, hR_R55, hR_R58, hR_RLT⟩ := hI
  have hK := kX hKX
  have hA : ∀ q : Nat, s.heap.size ≤ q → (fun q : Nat => s.heap.size ≤ q) q := fun _ h => h
  have hbA : ¬ (fun q : Nat => s.heap.size ≤ q) b := Nat.not_le.mpr hbl
  refine lv_aload_n hx hb dL_law_796 rfl (lv_at hl 4 rfl) ?_
  refine lv_aload_n hx hb dL_law_797 rfl (lv_at hl 5 rfl) ?_
  refine lv_iload hx hb dL_law_798 (lv_at hl 0 rfl) ?_
  refine lv_iconst (v := 1) hx hb dL_law_800 (by decide) ?_
  refine lv_iadd hx hb dL_law_801 ?_
  have l32_1 : (1 : Int32).toInt = 1 := rfl
  have i1 : (i + (1 : Int32)).toInt = i.toInt + 1 := t_addr (n := 1) rfl (by omega)
  refine va_sld hx hb hX hbl hbA hS (inb (m := L) rfl (by omega) (by omega)) dL_law_802 ?_
  obtain ⟨y2, ey2⟩ : ∃ z : Int32, xs (i + (1 : Int32)).toNatClampNeg = z := ⟨_, rfl⟩
  rw [ey2]
  refine lv_aload_n hx hb dL_law_803 rfl (lv_at hl 5 rfl) ?_
  refine lv_iload hx hb dL_law_804 (lv_at hl 0 rfl) ?_
  refine lv_iconst (v := 2) hx hb dL_law_806 (by decide) ?_
  refine lv_iadd hx hb dL_law_807 ?_
  have l32_2 : (2 : Int32).toInt = 2 := rfl
  have i3 : (i + (2 : Int32)).toInt = i.toInt + 2 := t_addr (n := 2) rfl (by omega)
  refine va_sld hx hb hX hbl hbA hS (inb (m := L) rfl (by omega) (by omega)) dL_law_808 ?_
  obtain ⟨y4, ey4⟩ : ∃ z : Int32, xs (i + (2 : Int32)).toNatClampNeg = z := ⟨_, rfl⟩
  rw [ey4]
  refine lv_aload_n hx hb dL_law_809 rfl (lv_at hl 5 rfl) ?_
  refine lv_iload hx hb dL_law_810 (lv_at hl 0 rfl) ?_
  refine lv_iconst (v := 3) hx hb dL_law_812 (by decide) ?_
  refine lv_iadd hx hb dL_law_813 ?_
  have l32_3 : (3 : Int32).toInt = 3 := rfl
  have i5 : (i + (3 : Int32)).toInt = i.toInt + 3 := t_addr (n := 3) rfl (by omega)
  refine va_sld hx hb hX hbl hbA hS (inb (m := L) rfl (by omega) (by omega)) dL_law_814 ?_
  obtain ⟨y6, ey6⟩ : ∃ z : Int32, xs (i + (3 : Int32)).toNatClampNeg = z := ⟨_, rfl⟩
  rw [ey6]
  refine lv_aload_n hx hb dL_law_815 rfl (lv_at hl 5 rfl) ?_
  refine lv_iload hx hb dL_law_816 (lv_at hl 0 rfl) ?_
  refine lv_iconst (v := 4) hx hb dL_law_818 (by decide) ?_
  refine lv_iadd hx hb dL_law_819 ?_
  have l32_4 : (4 : Int32).toInt = 4 := rfl
  have i7 : (i + (4 : Int32)).toInt = i.toInt + 4 := t_addr (n := 4) rfl (by omega)
  refine va_sld hx hb hX hbl hbA hS (inb (m := L) rfl (by omega) (by omega)) dL_law_820 ?_
  obtain ⟨y8, ey8⟩ : ∃ z : Int32, xs (i + (4 : Int32)).toNatClampNeg = z := ⟨_, rfl⟩
  rw [ey8]
  refine lv_aload_n hx hb dL_law_821 rfl (lv_at hl 2 rfl) ?_
  have hFc := free_all hD hS hA
  refine va_calli (vx_runSW (As := [.ref o2, .int y2, .int y4, .int y6, .int y8, .ref qo]) (rest := []) ⟨hx, hb, hml, hown, hts⟩ (c_L_section l hst (e0 := e0) (mi := mi) (D := D) (cy := cy) (c8 := c8) (c9 := c9) qo qd fo fd S _ o2 h_o2 y2 y4 y6 y8 (hW)) (vx_cwSW 6 hts gL_law_L_section rfl rfl rfl (by decide +kernel) ⟨Nat.le_of_ble_eq_true rfl, Nat.le_of_ble_eq_true rfl⟩) ⟨fun a U g mk q => ⟨q.1, q.2.1, q.2.2.1.calling, NW.same (u := U) (U := U.calling g mk a) rfl q.2.2.2.1, q.2.2.2.2.1.calling, q.2.2.2.2.2.1.calling, q.2.2.2.2.2.2.calling⟩, fun U hU hW => ⟨rfl, by rw [hU], wx_pre hP hKX hD hU hW, hN.warm hW, th_pre hTH hS hFc hU hW, ou_pre hOU hS hFc hU hW, hNC.moved hW.alike⟩⟩ rfl rfl hl.1 rfl (lv_room (Nat.le_of_ble_eq_true rfl)) dL_law_822 ⟨by omega, by omega⟩) hS (fun q _ h => hFc q h) hFc (fun r9 u t H1 locs ht hvm hw hB hz1 hk1 hS => ?_)
  obtain ⟨S10, f11⟩ := u
  have w12 := hw
  obtain ⟨hP, hD⟩ := wx_post hFc ht hB
  generalize H1 = H at hP hS ⊢
  have w12 : stp ([] : List (Nat × Nat)) [] [] S S10 := w12
  have v13 : IV S10 o1 := IV.keep w12 hW h_o1 (by decide) (by decide) hIV
  have v14 : MV S10 o1 := MV.keep w12 hW h_o1 (by decide) (by decide) hMV
  have v15 : (R55 o2) S10 o1 := R55.keep w12 hW h_o1 (by decide) (by decide) hR_R55
  have v16 : (R58 o2) S10 o1 := R58.keep w12 hW h_o1 (by decide) (by decide) hR_R58
  have v17 : (RLT o2) S10 o1 := RLT.keep w12 hW h_o1 (by decide) (by decide) hR_RLT
  have xe18 : ext S S10 := w12.x
  refine lv_istore (lv' := [(6, .int r9), (5, .int i), (4, .ref qd), (3, .ref qo), (2, .ref o1), (1, .ref o2), (0, .ref b)]) hx hb dL_law_825 hl (by decide) rfl (fun ls hl => ?_)
  refine lv_aload_n hx hb dL_law_827 rfl (lv_at hl 4 rfl) ?_
  refine lv_aload_n hx hb dL_law_828 rfl (lv_at hl 6 rfl) ?_
  refine lv_iload hx hb dL_law_829 (lv_at hl 1 rfl) ?_
  refine lv_iconst (v := 1) hx hb dL_law_831 (by decide) ?_
  refine lv_iadd hx hb dL_law_832 ?_
  refine va_sld hx hb hX hbl hbA hS (inb (m := L) rfl (by omega) (by omega)) dL_law_833 ?_
  rw [ey2]
  refine lv_aload_n hx hb dL_law_834 rfl (lv_at hl 6 rfl) ?_
  refine lv_iload hx hb dL_law_835 (lv_at hl 1 rfl) ?_
  refine lv_iconst (v := 2) hx hb dL_law_837 (by decide) ?_
  refine lv_iadd hx hb dL_law_838 ?_
  refine va_sld hx hb hX hbl hbA hS (inb (m := L) rfl (by omega) (by omega)) dL_law_839 ?_
  rw [ey4]
  refine lv_aload_n hx hb dL_law_840 rfl (lv_at hl 6 rfl) ?_
  refine lv_iload hx hb dL_law_841 (lv_at hl 1 rfl) ?_
  refine lv_iconst (v := 3) hx hb dL_law_843 (by decide) ?_
  refine lv_iadd hx hb dL_law_844 ?_
  refine va_sld hx hb hX hbl hbA hS (inb (m := L) rfl (by omega) (by omega)) dL_law_845 ?_
  rw [ey6]
  refine lv_aload_n hx hb dL_law_846 rfl (lv_at hl 6 rfl) ?_
  refine lv_iload hx hb dL_law_847 (lv_at hl 1 rfl) ?_
  refine lv_iconst (v := 4) hx hb dL_law_849 (by decide) ?_
  refine lv_iadd hx hb dL_law_850 ?_
  refine va_sld hx hb hX hbl hbA hS (inb (m := L) rfl (by omega) (by omega)) dL_law_851 ?_
  rw [ey8]
  have hFc := free_all hD hS hA
  obtain ⟨k20, gk20, hk20⟩ := wGt (cy := cy) (XO c8 c9 qo qd f11 fd) S10 (xe18.A h_o1).1 (xe18.A h_o1).2.1
  refine va_calli (va_runV (As := [.int y2, .int y4, .int y6, .int y8]) (rest := []) ⟨hx, hb, hml, hown, hts⟩ (c_X12_section l (cy := cy) (X := (XO c8 c9 qo qd f11 fd)) (D := D) S10 _ o1 (xe18.A h_o1) y2 y4 y6 y8 (w12.w)) (cwV 4 hts gL_law_X12_section rfl rfl rfl hd_X12_section ⟨Nat.le_of_ble_eq_true rfl, Nat.le_of_ble_eq_true rfl⟩) ⟨fun a U g mk q => ⟨q.1, q.2.1, q.2.2.1.calling, NW.same (u := U) (U := U.calling g mk a) rfl q.2.2.2⟩, va_recv hK hP (q := (RX12, TX12, 34)) (ci := 16) (q0 := k20) rfl hk20, fun U hU hW => ⟨rfl, by rw [hU], wd_pre hP hK hD hU hW, hN.warm hW⟩⟩ rfl rfl hl.1 rfl (lv_room (Nat.le_of_ble_eq_true rfl)) dL_law_852 ⟨by omega, by omega⟩) hS (fun q _ h => hFc q h) hFc (fun r19 u t H1 locs ht hvm hw hB hz1 hk1 hS => ?_)
  obtain ⟨c21, w22⟩ := hw
  obtain ⟨hP, hD⟩ := wd_post hFc ht hB
  generalize H1 = H at hP hS ⊢
  obtain ⟨S23, rfl⟩ : ∃ z, z = u := ⟨_, rfl⟩
  have v24 : IV S23 o1 := IV.keep w22 w12.w (xe18.A h_o1) (by decide) (by decide) v13
  have v25 : MV S23 o1 := MV.keep w22 w12.w (xe18.A h_o1) (by decide) (by decide) v14
  have v26 : (R55 o2) S23 o1 := R55.keep w22 w12.w (xe18.A h_o1) (by decide) (by decide) v15
  have v27 : (R58 o2) S23 o1 := R58.keep w22 w12.w (xe18.A h_o1) (by decide) (by decide) v16
  have v28 : (RLT o2) S23 o1 := RLT.keep w22 w12.w (xe18.A h_o1) (by decide) (by decide) v17
  have xe29 : ext S10 S23 := w22.x
  refine lv_istore (lv' := [(7, .int r19), (6, .int r9), (5, .int i), (4, .ref qd), (3, .ref qo), (2, .ref o1), (1, .ref o2), (0, .ref b)]) hx hb dL_law_855 hl (by decide) rfl (fun ls hl => ?_)
  refine lv_goto (tgt := 2924) hx hb dL_law_857 (by decide) ?_
  refine W.widen (k := cells + 40) (n := slots + 1200) (by omega) (by omega) ?_
  exact kk S23 f11 fd H _ ls ⟨hP, hD, w22.w, ((xe18.tr xe29).A h_o2), (xe29.A (xe18.A h_o1)), ((xe18.tr xe29).F h_o1 (by decide) h77), v25, v24, v26, v27, v28⟩ hS (lv_sub hl [2, 3, 4, 5, 6, 7] rfl)
set_option maxHeartbeats 4000000 in
set_option maxRecDepth 100000 in
theorem road_14 {p : Program} {l : Launch} {e : Env} {s : State} {m : MethodId} {below : List Frame} {meth : Method} {c : Code} {b L : Nat} {xs : Nat → Int32} {D : va_G} {cy : Nat → ClassId} {c8 c9 : ClassId} {e0 mi : Nat} {Q : State → Prop} {qo qd o1 o2 : Nat} (C0 : LC p l s m c b L xs D cy c8 c9 e0 mi) (hL9 : L ≤ 2560) {S : wPS} {fo : Nat → Int64} {fd : Nat → UInt64} {H : Heap} {locs : List Loc} {ls : Array Slot} {cells slots : Nat} {i : Int32} (hi : 0 ≤ i.toInt ∧ i.toInt + 5 ≤ L) (hI : LI D cy c8 c9 e0 (fun q => s.heap.size ≤ q) o1 o2 qo qd fo fd S H) (hS : va_S (fun q => s.heap.size ≤ q) s.heap H locs) (hc : cells + 40 ≤ room_1.cells) (hs : slots + 1200 ≤ room_1.slots) (hl : lv_has ls 9 [(5, .int i), (4, .ref qd), (3, .ref qo), (2, .ref o1), (1, .ref o2), (0, .ref b)]) (kk : ∀ (S2 : wPS) (fo2 : Nat → Int64) (fd2 : Nat → UInt64) (H2 : Heap) (locs2 : List Loc) (ls2 : Array Slot), LI D cy c8 c9 e0 (fun q => s.heap.size ≤ q) o1 o2 qo qd fo2 fd2 S2 H2 → va_S (fun q => s.heap.size ≤ q) s.heap H2 locs2 → lv_has ls2 9 [(5, .int i), (4, .ref qd), (3, .ref qo), (2, .ref o1), (1, .ref o2), (0, .ref b)] → W p l e room_1 s m #[Value.ref b] below meth c H2 locs2 (cells + 40) (slots + 1200) Q (F0 m 2924 ls2 [])) : W p l e room_1 s m #[Value.ref b] below meth c H locs cells slots Q (F0 m 860 ls []) := by
  obtain ⟨hx, hb, hml, hown, hts, hX, hbl, hN, hTH, hOU, hKX, hst, hNC⟩ := id C0
  obtain ⟨hP, hD, hW, h_o2, h_o1, h77, hMV, hIV, hR_R55, hR_R58, hR_RLT⟩ := hI
  have hK := kX hKX
  have hA : ∀ q : Nat, s.heap.size ≤ q → (fun q : Nat => s.heap.size ≤ q) q := fun _ h => h
  have hbA : ¬ (fun q : Nat => s.heap.size ≤ q) b := Nat.not_le.mpr hbl
  refine lv_aload_n hx hb dL_law_860 rfl (lv_at hl 4 rfl) ?_
  refine lv_aload_n hx hb dL_law_861 rfl (lv_at hl 5 rfl) ?_
  refine lv_iload hx hb dL_law_862 (lv_at hl 0 rfl) ?_
  refine lv_iconst (v := 1) hx hb dL_law_864 (by decide) ?_
  refine lv_iadd hx hb dL_law_865 ?_
  have l32_1 : (1 : Int32).toInt = 1 := rfl
  have i1 : (i + (1 : Int32)).toInt = i.toInt + 1 := t_addr (n := 1) rfl (by omega)
  refine va_sld hx hb hX hbl hbA hS (inb (m := L) rfl (by omega) (by omega)) dL_law_866 ?_
  obtain ⟨y2, ey2⟩ : ∃ z : Int32, xs (i + (1 : Int32)).toNatClampNeg = z := ⟨_, rfl⟩
  rw [ey2]
  refine lv_aload_n hx hb dL_law_867 rfl (lv_at hl 5 rfl) ?_
  refine lv_iload hx hb dL_law_868 (lv_at hl 0 rfl) ?_
  refine lv_iconst (v := 2) hx hb dL_law_870 (by decide) ?_
  refine lv_iadd hx hb dL_law_871 ?_
  have l32_2 : (2 : Int32).toInt = 2 := rfl
  have i3 : (i + (2 : Int32)).toInt = i.toInt + 2 := t_addr (n := 2) rfl (by omega)
  refine va_sld hx hb hX hbl hbA hS (inb (m := L) rfl (by omega) (by omega)) dL_law_872 ?_
  obtain ⟨y4, ey4⟩ : ∃ z : Int32, xs (i + (2 : Int32)).toNatClampNeg = z := ⟨_, rfl⟩
  rw [ey4]
  refine lv_aload_n hx hb dL_law_873 rfl (lv_at hl 5 rfl) ?_
  refine lv_iload hx hb dL_law_874 (lv_at hl 0 rfl) ?_
  refine lv_iconst (v := 3) hx hb dL_law_876 (by decide) ?_
  refine lv_iadd hx hb dL_law_877 ?_
  have l32_3 : (3 : Int32).toInt = 3 := rfl
  have i5 : (i + (3 : Int32)).toInt = i.toInt + 3 := t_addr (n := 3) rfl (by omega)
  refine va_sld hx hb hX hbl hbA hS (inb (m := L) rfl (by omega) (by omega)) dL_law_878 ?_
  obtain ⟨y6, ey6⟩ : ∃ z : Int32, xs (i + (3 : Int32)).toNatClampNeg = z := ⟨_, rfl⟩
  rw [ey6]
  refine lv_aload_n hx hb dL_law_879 rfl (lv_at hl 5 rfl) ?_
  refine lv_iload hx hb dL_law_880 (lv_at hl 0 rfl) ?_
  refine lv_iconst (v := 4) hx hb dL_law_882 (by decide) ?_
  refine lv_iadd hx hb dL_law_883 ?_
  have l32_4 : (4 : Int32).toInt = 4 := rfl
  have i7 : (i + (4 : Int32)).toInt = i.toInt + 4 := t_addr (n := 4) rfl (by omega)
  refine va_sld hx hb hX hbl hbA hS (inb (m := L) rfl (by omega) (by omega)) dL_law_884 ?_
  obtain ⟨y8, ey8⟩ : ∃ z : Int32, xs (i + (4 : Int32)).toNatClampNeg = z := ⟨_, rfl⟩
  rw [ey8]
  refine lv_aload_n hx hb dL_law_885 rfl (lv_at hl 2 rfl) ?_
  have hFc := free_all hD hS hA
  refine va_calli (vx_runSW (As := [.ref o2, .int y2, .int y4, .int y6, .int y8, .ref qo]) (rest := []) ⟨hx, hb, hml, hown, hts⟩ (c_L_bestPair l hst (e0 := e0) (mi := mi) (D := D) (cy := cy) (c8 := c8) (c9 := c9) qo qd fo fd S _ o2 h_o2 y2 y4 y6 y8 (hW)) (vx_cwSW 6 hts gL_law_L_bestPair rfl rfl rfl (by decide +kernel) ⟨Nat.le_of_ble_eq_true rfl, Nat.le_of_ble_eq_true rfl⟩) ⟨fun a U g mk q => ⟨q.1, q.2.1, q.2.2.1.calling, NW.same (u := U) (U := U.calling g mk a) rfl q.2.2.2.1, q.2.2.2.2.1.calling, q.2.2.2.2.2.1.calling, q.2.2.2.2.2.2.calling⟩, fun U hU hW => ⟨rfl, by rw [hU], wx_pre hP hKX hD hU hW, hN.warm hW, th_pre hTH hS hFc hU hW, ou_pre hOU hS hFc hU hW, hNC.moved hW.alike⟩⟩ rfl rfl hl.1 rfl (lv_room (Nat.le_of_ble_eq_true rfl)) dL_law_886 ⟨by omega, by omega⟩) hS (fun q _ h => hFc q h) hFc (fun r9 u t H1 locs ht hvm hw hB hz1 hk1 hS => ?_)
  obtain ⟨S10, f11⟩ := u
  have w12 := hw
  obtain ⟨hP, hD⟩ := wx_post hFc ht hB
  generalize H1 = H at hP hS ⊢
  have w12 : stp [(8, 2), (8, 3), (8, 4)] [] [] S S10 := w12
  have v13 : IV S10 o1 := IV.keep w12 hW h_o1 (by decide) (by decide) hIV
  have v14 : MV S10 o1 := MV.keep w12 hW h_o1 (by decide) (by decide) hMV
  have v15 : (R55 o2) S10 o1 := R55.keep w12 hW h_o1 (by decide) (by decide) hR_R55
  have v16 : (R58 o2) S10 o1 := R58.keep w12 hW h_o1 (by decide) (by decide) hR_R58
  have v17 : (RLT o2) S10 o1 := RLT.keep w12 hW h_o1 (by decide) (by decide) hR_RLT
  have xe18 : ext S S10 := w12.x
  refine lv_istore (lv' := [(6, .int r9), (5, .int i), (4, .ref qd), (3, .ref qo), (2, .ref o1), (1, .ref o2), (0, .ref b)]) hx hb dL_law_889 hl (by decide) rfl (fun ls hl => ?_)
  refine lv_aload_n hx hb dL_law_891 rfl (lv_at hl 4 rfl) ?_
  refine lv_aload_n hx hb dL_law_892 rfl (lv_at hl 6 rfl) ?_
  refine lv_iload hx hb dL_law_893 (lv_at hl 1 rfl) ?_
  refine lv_iconst (v := 1) hx hb dL_law_895 (by decide) ?_
  refine lv_iadd hx hb dL_law_896 ?_
  refine va_sld hx hb hX hbl hbA hS (inb (m := L) rfl (by omega) (by omega)) dL_law_897 ?_
  rw [ey2]
  refine lv_aload_n hx hb dL_law_898 rfl (lv_at hl 6 rfl) ?_
  refine lv_iload hx hb dL_law_899 (lv_at hl 1 rfl) ?_
  refine lv_iconst (v := 2) hx hb dL_law_901 (by decide) ?_
  refine lv_iadd hx hb dL_law_902 ?_
  refine va_sld hx hb hX hbl hbA hS (inb (m := L) rfl (by omega) (by omega)) dL_law_903 ?_
  rw [ey4]
  refine lv_aload_n hx hb dL_law_904 rfl (lv_at hl 6 rfl) ?_
  refine lv_iload hx hb dL_law_905 (lv_at hl 1 rfl) ?_
  refine lv_iconst (v := 3) hx hb dL_law_907 (by decide) ?_
  refine lv_iadd hx hb dL_law_908 ?_
  refine va_sld hx hb hX hbl hbA hS (inb (m := L) rfl (by omega) (by omega)) dL_law_909 ?_
  rw [ey6]
  refine lv_aload_n hx hb dL_law_910 rfl (lv_at hl 6 rfl) ?_
  refine lv_iload hx hb dL_law_911 (lv_at hl 1 rfl) ?_
  refine lv_iconst (v := 4) hx hb dL_law_913 (by decide) ?_
  refine lv_iadd hx hb dL_law_914 ?_
  refine va_sld hx hb hX hbl hbA hS (inb (m := L) rfl (by omega) (by omega)) dL_law_915 ?_
  rw [ey8]
  have hFc := free_all hD hS hA
  obtain ⟨k20, gk20, hk20⟩ := wGt (cy := cy) (XO c8 c9 qo qd f11 fd) S10 (xe18.A h_o1).1 (xe18.A h_o1).2.1
  refine va_calli (va_runV (As := [.int y2, .int y4, .int y6, .int y8]) (rest := []) ⟨hx, hb, hml, hown, hts⟩ (c_X12_bestPair l (cy := cy) (X := (XO c8 c9 qo qd f11 fd)) (D := D) S10 _ o1 (xe18.A h_o1) y2 y4 y6 y8 (w12.w)) (cwV 4 hts gL_law_X12_bestPair rfl rfl rfl hd_X12_bestPair ⟨Nat.le_of_ble_eq_true rfl, Nat.le_of_ble_eq_true rfl⟩) ⟨fun a U g mk q => ⟨q.1, q.2.1, q.2.2.1.calling, NW.same (u := U) (U := U.calling g mk a) rfl q.2.2.2⟩, va_recv hK hP (q := (RX12, TX12, 34)) (ci := 16) (q0 := k20) rfl hk20, fun U hU hW => ⟨rfl, by rw [hU], wd_pre hP hK hD hU hW, hN.warm hW⟩⟩ rfl rfl hl.1 rfl (lv_room (Nat.le_of_ble_eq_true rfl)) dL_law_916 ⟨by omega, by omega⟩) hS (fun q _ h => hFc q h) hFc (fun r19 u t H1 locs ht hvm hw hB hz1 hk1 hS => ?_)
  have w21 := hw
  obtain ⟨hP, hD⟩ := wd_post hFc ht hB
  generalize H1 = H at hP hS ⊢
  obtain ⟨S22, rfl⟩ : ∃ z, z = u := ⟨_, rfl⟩
  have v23 : IV S22 o1 := IV.keep w21 w12.w (xe18.A h_o1) (by decide) (by decide) v13
  have v24 : MV S22 o1 := MV.keep w21 w12.w (xe18.A h_o1) (by decide) (by decide) v14
  have v25 : (R55 o2) S22 o1 := R55.keep w21 w12.w (xe18.A h_o1) (by decide) (by decide) v15
  have v26 : (R58 o2) S22 o1 := R58.keep w21 w12.w (xe18.A h_o1) (by decide) (by decide) v16
  have v27 : (RLT o2) S22 o1 := RLT.keep w21 w12.w (xe18.A h_o1) (by decide) (by decide) v17
  have xe28 : ext S10 S22 := w21.x
  refine lv_istore (lv' := [(7, .int r19), (6, .int r9), (5, .int i), (4, .ref qd), (3, .ref qo), (2, .ref o1), (1, .ref o2), (0, .ref b)]) hx hb dL_law_919 hl (by decide) rfl (fun ls hl => ?_)
  refine lv_goto (tgt := 2924) hx hb dL_law_921 (by decide) ?_
  refine W.widen (k := cells + 40) (n := slots + 1200) (by omega) (by omega) ?_
  exact kk S22 f11 fd H _ ls ⟨hP, hD, w21.w, ((xe18.tr xe28).A h_o2), (xe28.A (xe18.A h_o1)), ((xe18.tr xe28).F h_o1 (by decide) h77), v24, v23, v25, v26, v27⟩ hS (lv_sub hl [2, 3, 4, 5, 6, 7] rfl)
set_option maxHeartbeats 4000000 in
set_option maxRecDepth 100000 in
theorem road_15 {p : Program} {l : Launch} {e : Env} {s : State} {m : MethodId} {below : List Frame} {meth : Method} {c : Code} {b L : Nat} {xs : Nat → Int32} {D : va_G} {cy : Nat → ClassId} {c8 c9 : ClassId} {e0 mi : Nat} {Q : State → Prop} {qo qd o1 o2 : Nat} (C0 : LC p l s m c b L xs D cy c8 c9 e0 mi) (hL9 : L ≤ 2560) {S : wPS} {fo : Nat → Int64} {fd : Nat → UInt64} {H : Heap} {locs : List Loc} {ls : Array Slot} {cells slots : Nat} {i : Int32} (hi : 0 ≤ i.toInt ∧ i.toInt + 5 ≤ L) (hI : LI D cy c8 c9 e0 (fun q => s.heap.size ≤ q) o1 o2 qo qd fo fd S H) (hS : va_S (fun q => s.heap.size ≤ q) s.heap H locs) (hc : cells + 40 ≤ room_1.cells) (hs : slots + 1200 ≤ room_1.slots) (hl : lv_has ls 9 [(5, .int i), (4, .ref qd), (3, .ref qo), (2, .ref o1), (1, .ref o2), (0, .ref b)]) (kk : ∀ (S2 : wPS) (fo2 : Nat → Int64) (fd2 : Nat → UInt64) (H2 : Heap) (locs2 : List Loc) (ls2 : Array Slot), LI D cy c8 c9 e0 (fun q => s.heap.size ≤ q) o1 o2 qo qd fo2 fd2 S2 H2 → va_S (fun q => s.heap.size ≤ q) s.heap H2 locs2 → lv_has ls2 9 [(5, .int i), (4, .ref qd), (3, .ref qo), (2, .ref o1), (1, .ref o2), (0, .ref b)] → W p l e room_1 s m #[Value.ref b] below meth c H2 locs2 (cells + 40) (slots + 1200) Q (F0 m 2924 ls2 [])) : W p l e room_1 s m #[Value.ref b] below meth c H locs cells slots Q (F0 m 924 ls []) := by
  obtain ⟨hx, hb, hml, hown, hts, hX, hbl, hN, hTH, hOU, hKX, hst, hNC⟩ := id C0
  obtain ⟨hP, hD, hW, h_o2, h_o1, h77, hMV, hIV, hR_R55, hR_R58, hR_RLT⟩ := hI
  have hK := kX hKX
  have hA : ∀ q : Nat, s.heap.size ≤ q → (fun q : Nat => s.heap.size ≤ q) q := fun _ h => h
  have hbA : ¬ (fun q : Nat => s.heap.size ≤ q) b := Nat.not_le.mpr hbl
  refine lv_aload_n hx hb dL_law_924 rfl (lv_at hl 4 rfl) ?_
  refine lv_aload_n hx hb dL_law_925 rfl (lv_at hl 5 rfl) ?_
  refine lv_iload hx hb dL_law_926 (lv_at hl 0 rfl) ?_
  refine lv_iconst (v := 1) hx hb dL_law_928 (by decide) ?_
  refine lv_iadd hx hb dL_law_929 ?_
  have l32_1 : (1 : Int32).toInt = 1 := rfl
  have i1 : (i + (1 : Int32)).toInt = i.toInt + 1 := t_addr (n := 1) rfl (by omega)
  refine va_sld hx hb hX hbl hbA hS (inb (m := L) rfl (by omega) (by omega)) dL_law_930 ?_
  obtain ⟨y2, ey2⟩ : ∃ z : Int32, xs (i + (1 : Int32)).toNatClampNeg = z := ⟨_, rfl⟩
  rw [ey2]
  refine lv_aload_n hx hb dL_law_931 rfl (lv_at hl 5 rfl) ?_
  refine lv_iload hx hb dL_law_932 (lv_at hl 0 rfl) ?_
  refine lv_iconst (v := 2) hx hb dL_law_934 (by decide) ?_
  refine lv_iadd hx hb dL_law_935 ?_
  have l32_2 : (2 : Int32).toInt = 2 := rfl
  have i3 : (i + (2 : Int32)).toInt = i.toInt + 2 := t_addr (n := 2) rfl (by omega)
  refine va_sld hx hb hX hbl hbA hS (inb (m := L) rfl (by omega) (by omega)) dL_law_936 ?_
  obtain ⟨y4, ey4⟩ : ∃ z : Int32, xs (i + (2 : Int32)).toNatClampNeg = z := ⟨_, rfl⟩
  rw [ey4]
  refine lv_aload_n hx hb dL_law_937 rfl (lv_at hl 5 rfl) ?_
  refine lv_iload hx hb dL_law_938 (lv_at hl 0 rfl) ?_
  refine lv_iconst (v := 3) hx hb dL_law_940 (by decide) ?_
  refine lv_iadd hx hb dL_law_941 ?_
  have l32_3 : (3 : Int32).toInt = 3 := rfl
  have i5 : (i + (3 : Int32)).toInt = i.toInt + 3 := t_addr (n := 3) rfl (by omega)
  refine va_sld hx hb hX hbl hbA hS (inb (m := L) rfl (by omega) (by omega)) dL_law_942 ?_
  obtain ⟨y6, ey6⟩ : ∃ z : Int32, xs (i + (3 : Int32)).toNatClampNeg = z := ⟨_, rfl⟩
  rw [ey6]
  refine lv_aload_n hx hb dL_law_943 rfl (lv_at hl 5 rfl) ?_
  refine lv_iload hx hb dL_law_944 (lv_at hl 0 rfl) ?_
  refine lv_iconst (v := 4) hx hb dL_law_946 (by decide) ?_
  refine lv_iadd hx hb dL_law_947 ?_
  have l32_4 : (4 : Int32).toInt = 4 := rfl
  have i7 : (i + (4 : Int32)).toInt = i.toInt + 4 := t_addr (n := 4) rfl (by omega)
  refine va_sld hx hb hX hbl hbA hS (inb (m := L) rfl (by omega) (by omega)) dL_law_948 ?_
  obtain ⟨y8, ey8⟩ : ∃ z : Int32, xs (i + (4 : Int32)).toNatClampNeg = z := ⟨_, rfl⟩
  rw [ey8]
  refine lv_aload_n hx hb dL_law_949 rfl (lv_at hl 2 rfl) ?_
  have hFc := free_all hD hS hA
  refine va_calli (vx_runSW (As := [.ref o2, .int y2, .int y4, .int y6, .int y8, .ref qo]) (rest := []) ⟨hx, hb, hml, hown, hts⟩ (c_L_bestMate l hst (e0 := e0) (mi := mi) (D := D) (cy := cy) (c8 := c8) (c9 := c9) qo qd fo fd S _ o2 h_o2 y2 y4 y6 y8 (hW)) (vx_cwSW 6 hts gL_law_L_bestMate rfl rfl rfl (by decide +kernel) ⟨Nat.le_of_ble_eq_true rfl, Nat.le_of_ble_eq_true rfl⟩) ⟨fun a U g mk q => ⟨q.1, q.2.1, q.2.2.1.calling, NW.same (u := U) (U := U.calling g mk a) rfl q.2.2.2.1, q.2.2.2.2.1.calling, q.2.2.2.2.2.1.calling, q.2.2.2.2.2.2.calling⟩, fun U hU hW => ⟨rfl, by rw [hU], wx_pre hP hKX hD hU hW, hN.warm hW, th_pre hTH hS hFc hU hW, ou_pre hOU hS hFc hU hW, hNC.moved hW.alike⟩⟩ rfl rfl hl.1 rfl (lv_room (Nat.le_of_ble_eq_true rfl)) dL_law_950 ⟨by omega, by omega⟩) hS (fun q _ h => hFc q h) hFc (fun r9 u t H1 locs ht hvm hw hB hz1 hk1 hS => ?_)
  obtain ⟨S10, f11⟩ := u
  have w12 := hw
  obtain ⟨hP, hD⟩ := wx_post hFc ht hB
  generalize H1 = H at hP hS ⊢
  have w12 : stp [(8, 2), (8, 3), (8, 4)] [] [] S S10 := w12
  have v13 : IV S10 o1 := IV.keep w12 hW h_o1 (by decide) (by decide) hIV
  have v14 : MV S10 o1 := MV.keep w12 hW h_o1 (by decide) (by decide) hMV
  have v15 : (R55 o2) S10 o1 := R55.keep w12 hW h_o1 (by decide) (by decide) hR_R55
  have v16 : (R58 o2) S10 o1 := R58.keep w12 hW h_o1 (by decide) (by decide) hR_R58
  have v17 : (RLT o2) S10 o1 := RLT.keep w12 hW h_o1 (by decide) (by decide) hR_RLT
  have xe18 : ext S S10 := w12.x
  refine lv_istore (lv' := [(6, .int r9), (5, .int i), (4, .ref qd), (3, .ref qo), (2, .ref o1), (1, .ref o2), (0, .ref b)]) hx hb dL_law_953 hl (by decide) rfl (fun ls hl => ?_)
  refine lv_aload_n hx hb dL_law_955 rfl (lv_at hl 4 rfl) ?_
  refine lv_aload_n hx hb dL_law_956 rfl (lv_at hl 6 rfl) ?_
  refine lv_iload hx hb dL_law_957 (lv_at hl 1 rfl) ?_
  refine lv_iconst (v := 1) hx hb dL_law_959 (by decide) ?_
  refine lv_iadd hx hb dL_law_960 ?_
  refine va_sld hx hb hX hbl hbA hS (inb (m := L) rfl (by omega) (by omega)) dL_law_961 ?_
  rw [ey2]
  refine lv_aload_n hx hb dL_law_962 rfl (lv_at hl 6 rfl) ?_
  refine lv_iload hx hb dL_law_963 (lv_at hl 1 rfl) ?_
  refine lv_iconst (v := 2) hx hb dL_law_965 (by decide) ?_
  refine lv_iadd hx hb dL_law_966 ?_
  refine va_sld hx hb hX hbl hbA hS (inb (m := L) rfl (by omega) (by omega)) dL_law_967 ?_
  rw [ey4]
  refine lv_aload_n hx hb dL_law_968 rfl (lv_at hl 6 rfl) ?_
  refine lv_iload hx hb dL_law_969 (lv_at hl 1 rfl) ?_
  refine lv_iconst (v := 3) hx hb dL_law_971 (by decide) ?_
  refine lv_iadd hx hb dL_law_972 ?_
  refine va_sld hx hb hX hbl hbA hS (inb (m := L) rfl (by omega) (by omega)) dL_law_973 ?_
  rw [ey6]
  refine lv_aload_n hx hb dL_law_974 rfl (lv_at hl 6 rfl) ?_
  refine lv_iload hx hb dL_law_975 (lv_at hl 1 rfl) ?_
  refine lv_iconst (v := 4) hx hb dL_law_977 (by decide) ?_
  refine lv_iadd hx hb dL_law_978 ?_
  refine va_sld hx hb hX hbl hbA hS (inb (m := L) rfl (by omega) (by omega)) dL_law_979 ?_
  rw [ey8]
  have hFc := free_all hD hS hA
  obtain ⟨k20, gk20, hk20⟩ := wGt (cy := cy) (XO c8 c9 qo qd f11 fd) S10 (xe18.A h_o1).1 (xe18.A h_o1).2.1
  refine va_calli (va_runV (As := [.int y2, .int y4, .int y6, .int y8]) (rest := []) ⟨hx, hb, hml, hown, hts⟩ (c_X12_bestMate l (cy := cy) (X := (XO c8 c9 qo qd f11 fd)) (D := D) S10 _ o1 (xe18.A h_o1) y2 y4 y6 y8 (w12.w)) (cwV 4 hts gL_law_X12_bestMate rfl rfl rfl hd_X12_bestMate ⟨Nat.le_of_ble_eq_true rfl, Nat.le_of_ble_eq_true rfl⟩) ⟨fun a U g mk q => ⟨q.1, q.2.1, q.2.2.1.calling, NW.same (u := U) (U := U.calling g mk a) rfl q.2.2.2⟩, va_recv hK hP (q := (RX12, TX12, 34)) (ci := 16) (q0 := k20) rfl hk20, fun U hU hW => ⟨rfl, by rw [hU], wd_pre hP hK hD hU hW, hN.warm hW⟩⟩ rfl rfl hl.1 rfl (lv_room (Nat.le_of_ble_eq_true rfl)) dL_law_980 ⟨by omega, by omega⟩) hS (fun q _ h => hFc q h) hFc (fun r19 u t H1 locs ht hvm hw hB hz1 hk1 hS => ?_)
  have w21 := hw
  obtain ⟨hP, hD⟩ := wd_post hFc ht hB
  generalize H1 = H at hP hS ⊢
  obtain ⟨S22, rfl⟩ : ∃ z, z = u := ⟨_, rfl⟩
  have v23 : IV S22 o1 := IV.keep w21 w12.w (xe18.A h_o1) (by decide) (by decide) v13
  have v24 : MV S22 o1 := MV.keep w21 w12.w (xe18.A h_o1) (by decide) (by decide) v14
  have v25 : (R55 o2) S22 o1 := R55.keep w21 w12.w (xe18.A h_o1) (by decide) (by decide) v15
  have v26 : (R58 o2) S22 o1 := R58.keep w21 w12.w (xe18.A h_o1) (by decide) (by decide) v16
  have v27 : (RLT o2) S22 o1 := RLT.keep w21 w12.w (xe18.A h_o1) (by decide) (by decide) v17
  have xe28 : ext S10 S22 := w21.x
  refine lv_istore (lv' := [(7, .int r19), (6, .int r9), (5, .int i), (4, .ref qd), (3, .ref qo), (2, .ref o1), (1, .ref o2), (0, .ref b)]) hx hb dL_law_983 hl (by decide) rfl (fun ls hl => ?_)
  refine lv_goto (tgt := 2924) hx hb dL_law_985 (by decide) ?_
  refine W.widen (k := cells + 40) (n := slots + 1200) (by omega) (by omega) ?_
  exact kk S22 f11 fd H _ ls ⟨hP, hD, w21.w, ((xe18.tr xe28).A h_o2), (xe28.A (xe18.A h_o1)), ((xe18.tr xe28).F h_o1 (by decide) h77), v24, v23, v25, v26, v27⟩ hS (lv_sub hl [2, 3, 4, 5, 6, 7] rfl)
