set_option maxHeartbeats 4000000 in
set_option maxRecDepth 100000 in
theorem road_16 {p : Program} {l : Launch} {e : Env} {s : State} {m : MethodId} {below : List Frame} {meth : Method} {c : Code} {b L : Nat} {xs : Nat → Int32} {D : va_G} {cy : Nat → ClassId} {c8 c9 : ClassId} {e0 mi : Nat} {Q : State → Prop} {qo qd o1 o2 : Nat} (C0 : LC p l s m c b L xs D cy c8 c9 e0 mi) (hL9 : L ≤ 2560) {S : wPS} {fo : Nat → Int64} {fd : Nat → UInt64} {H : Heap} {locs : List Loc} {ls : Array Slot} {cells slots : Nat} {i : Int32} (hi : 0 ≤ i.toInt ∧ i.toInt + 5 ≤ L) (hI : LI D cy c8 c9 e0 (fun q => s.heap.size ≤ q) o1 o2 qo qd fo fd S H) (hS : va_S (fun q => s.heap.size ≤ q) s.heap H locs) (hc : cells + 40 ≤ room_1.cells) (hs : slots + 1200 ≤ room_1.slots) (hl : lv_has ls 9 [(5, .int i), (4, .ref qd), (3, .ref qo), (2, .ref o1), (1, .ref o2), (0, .ref b)]) (kk : ∀ (S2 : wPS) (fo2 : Nat → Int64) (fd2 : Nat → UInt64) (H2 : Heap) (locs2 : List Loc) (ls2 : Array Slot), LI D cy c8 c9 e0 (fun q => s.heap.size ≤ q) o1 o2 qo qd fo2 fd2 S2 H2 → va_S (fun q => s.heap.size ≤ q) s.heap H2 locs2 → lv_has ls2 9 [(5, .int i), (4, .ref qd), (3, .ref qo), (2, .ref o1), (1, .ref o2), (0, .ref b)] → W p l e room_1 s m #[Value.ref b] below meth c H2 locs2 (cells + 40) (slots + 1200) Q (F0 m 2931 ls2 [])) : W p l e room_1 s m #[Value.ref b] below meth c H locs cells slots Q (F0 m 1023 ls []) := by
  obtain ⟨hx, hb, hml, hown, hts, hX, hbl, hN, hTH, hOU, hKX, hst, hNC⟩ := id C0
  obtain ⟨hP, hD, hW, h_o2, h_o1, h77, hMV, hIV, hR_RG⟩ := hI
  have hK := kX hKX
  have hA : ∀ q : Nat, s.heap.size ≤ q → (fun q : Nat => s.heap.size ≤ q) q := fun _ h => h
  have hbA : ¬ (fun q : Nat => s.heap.size ≤ q) b := Nat.not_le.mpr hbl
  refine lv_aload_n hx hb dL_law_1023 rfl (lv_at hl 4 rfl) ?_
  refine lv_aload_n hx hb dL_law_1024 rfl (lv_at hl 5 rfl) ?_
  refine lv_iload hx hb dL_law_1025 (lv_at hl 0 rfl) ?_
  refine lv_iconst (v := 1) hx hb dL_law_1027 (by decide) ?_
  refine lv_iadd hx hb dL_law_1028 ?_
  have l32_1 : (1 : Int32).toInt = 1 := rfl
  have i1 : (i + (1 : Int32)).toInt = i.toInt + 1 := t_addr (n := 1) rfl (by omega)
  refine va_sld hx hb hX hbl hbA hS (inb (m := L) rfl (by omega) (by omega)) dL_law_1029 ?_
  obtain ⟨y2, ey2⟩ : ∃ z : Int32, xs (i + (1 : Int32)).toNatClampNeg = z := ⟨_, rfl⟩
  rw [ey2]
  refine lv_aload_n hx hb dL_law_1030 rfl (lv_at hl 5 rfl) ?_
  refine lv_iload hx hb dL_law_1031 (lv_at hl 0 rfl) ?_
  refine lv_iconst (v := 2) hx hb dL_law_1033 (by decide) ?_
  refine lv_iadd hx hb dL_law_1034 ?_
  have l32_2 : (2 : Int32).toInt = 2 := rfl
  have i3 : (i + (2 : Int32)).toInt = i.toInt + 2 := t_addr (n := 2) rfl (by omega)
  refine va_sld hx hb hX hbl hbA hS (inb (m := L) rfl (by omega) (by omega)) dL_law_1035 ?_
  obtain ⟨y4, ey4⟩ : ∃ z : Int32, xs (i + (2 : Int32)).toNatClampNeg = z := ⟨_, rfl⟩
  rw [ey4]
  refine lv_aload_n hx hb dL_law_1036 rfl (lv_at hl 5 rfl) ?_
  refine lv_iload hx hb dL_law_1037 (lv_at hl 0 rfl) ?_
  refine lv_iconst (v := 3) hx hb dL_law_1039 (by decide) ?_
  refine lv_iadd hx hb dL_law_1040 ?_
  have l32_3 : (3 : Int32).toInt = 3 := rfl
  have i5 : (i + (3 : Int32)).toInt = i.toInt + 3 := t_addr (n := 3) rfl (by omega)
  refine va_sld hx hb hX hbl hbA hS (inb (m := L) rfl (by omega) (by omega)) dL_law_1041 ?_
  obtain ⟨y6, ey6⟩ : ∃ z : Int32, xs (i + (3 : Int32)).toNatClampNeg = z := ⟨_, rfl⟩
  rw [ey6]
  refine lv_aload_n hx hb dL_law_1042 rfl (lv_at hl 2 rfl) ?_
  have hFc := free_all hD hS hA
  refine va_calli (vx_runSW (As := [.ref o2, .int y2, .int y4, .int y6, .ref qo]) (rest := []) ⟨hx, hb, hml, hown, hts⟩ (c_L_planets l hst (e0 := e0) (mi := mi) (D := D) (cy := cy) (c8 := c8) (c9 := c9) qo qd fo fd S _ o2 h_o2 y2 y4 y6 (hW)) (vx_cwSW 5 hts gL_law_L_planets rfl rfl rfl (by decide +kernel) ⟨Nat.le_of_ble_eq_true rfl, Nat.le_of_ble_eq_true rfl⟩) ⟨fun a U g mk q => ⟨q.1, q.2.1, q.2.2.1.calling, NW.same (u := U) (U := U.calling g mk a) rfl q.2.2.2.1, q.2.2.2.2.1.calling, q.2.2.2.2.2.1.calling, q.2.2.2.2.2.2.calling⟩, fun U hU hW => ⟨rfl, by rw [hU], wx_pre hP hKX hD hU hW, hN.warm hW, th_pre hTH hS hFc hU hW, ou_pre hOU hS hFc hU hW, hNC.moved hW.alike⟩⟩ rfl rfl hl.1 rfl (lv_room (Nat.le_of_ble_eq_true rfl)) dL_law_1043 ⟨by omega, by omega⟩) hS (fun q _ h => hFc q h) hFc (fun r7 u t H1 locs ht hvm hw hB hz1 hk1 hS => ?_)
  obtain ⟨S8, f9⟩ := u
  have w10 := hw
  obtain ⟨hP, hD⟩ := wx_post hFc ht hB
  generalize H1 = H at hP hS ⊢
  have w10 : stp ([] : List (Nat × Nat)) [] [] S S8 := w10
  have v11 : IV S8 o1 := IV.keep w10 hW h_o1 (by decide) (by decide) hIV
  have v12 : MV S8 o1 := MV.keep w10 hW h_o1 (by decide) (by decide) hMV
  have v13 : (RG o2) S8 o1 := RG.keep w10 hW h_o1 (by decide) (by decide) hR_RG
  have xe14 : ext S S8 := w10.x
  refine lv_istore (lv' := [(6, .int r7), (5, .int i), (4, .ref qd), (3, .ref qo), (2, .ref o1), (1, .ref o2), (0, .ref b)]) hx hb dL_law_1046 hl (by decide) rfl (fun ls hl => ?_)
  refine lv_aload_n hx hb dL_law_1048 rfl (lv_at hl 4 rfl) ?_
  refine lv_aload_n hx hb dL_law_1049 rfl (lv_at hl 6 rfl) ?_
  refine lv_iload hx hb dL_law_1050 (lv_at hl 1 rfl) ?_
  refine lv_iconst (v := 1) hx hb dL_law_1052 (by decide) ?_
  refine lv_iadd hx hb dL_law_1053 ?_
  refine va_sld hx hb hX hbl hbA hS (inb (m := L) rfl (by omega) (by omega)) dL_law_1054 ?_
  rw [ey2]
  refine lv_aload_n hx hb dL_law_1055 rfl (lv_at hl 6 rfl) ?_
  refine lv_iload hx hb dL_law_1056 (lv_at hl 1 rfl) ?_
  refine lv_iconst (v := 2) hx hb dL_law_1058 (by decide) ?_
  refine lv_iadd hx hb dL_law_1059 ?_
  refine va_sld hx hb hX hbl hbA hS (inb (m := L) rfl (by omega) (by omega)) dL_law_1060 ?_
  rw [ey4]
  refine lv_aload_n hx hb dL_law_1061 rfl (lv_at hl 6 rfl) ?_
  refine lv_iload hx hb dL_law_1062 (lv_at hl 1 rfl) ?_
  refine lv_iconst (v := 3) hx hb dL_law_1064 (by decide) ?_
  refine lv_iadd hx hb dL_law_1065 ?_
  refine va_sld hx hb hX hbl hbA hS (inb (m := L) rfl (by omega) (by omega)) dL_law_1066 ?_
  rw [ey6]
  have hFc := free_all hD hS hA
  obtain ⟨k16, gk16, hk16⟩ := wGt (cy := cy) (XO c8 c9 qo qd f9 fd) S8 (xe14.A h_o1).1 (xe14.A h_o1).2.1
  refine va_calli (va_runV (As := [.int y2, .int y4, .int y6]) (rest := []) ⟨hx, hb, hml, hown, hts⟩ (c_X12_planets l (cy := cy) (X := (XO c8 c9 qo qd f9 fd)) (D := D) S8 _ o1 (xe14.A h_o1) y2 y4 y6 (w10.w)) (cwV 3 hts gL_law_X12_planets rfl rfl rfl hd_X12_planets ⟨Nat.le_of_ble_eq_true rfl, Nat.le_of_ble_eq_true rfl⟩) ⟨fun a U g mk q => ⟨q.1, q.2.1, q.2.2.1.calling, NW.same (u := U) (U := U.calling g mk a) rfl q.2.2.2⟩, va_recv hK hP (q := (RX12, TX12, 34)) (ci := 16) (q0 := k16) rfl hk16, fun U hU hW => ⟨rfl, by rw [hU], wd_pre hP hK hD hU hW, hN.warm hW⟩⟩ rfl rfl hl.1 rfl (lv_room (Nat.le_of_ble_eq_true rfl)) dL_law_1067 ⟨by omega, by omega⟩) hS (fun q _ h => hFc q h) hFc (fun r15 u t H1 locs ht hvm hw hB hz1 hk1 hS => ?_)
  obtain ⟨c17, w18, y19⟩ := hw
  obtain ⟨hP, hD⟩ := wd_post hFc ht hB
  generalize H1 = H at hP hS ⊢
  obtain ⟨S20, rfl⟩ : ∃ z, z = u := ⟨_, rfl⟩
  have v21 : IV S20 o1 := IV.keep w18 w10.w (xe14.A h_o1) (by decide) (by decide) v11
  have v22 : MV S20 o1 := MV.keep w18 w10.w (xe14.A h_o1) (by decide) (by decide) v12
  have v23 : (RG o2) S20 o1 := RG.keep w18 w10.w (xe14.A h_o1) (by decide) (by decide) v13
  have xe24 : ext S8 S20 := w18.x
  refine lv_istore (lv' := [(7, .int r15), (6, .int r7), (5, .int i), (4, .ref qd), (3, .ref qo), (2, .ref o1), (1, .ref o2), (0, .ref b)]) hx hb dL_law_1070 hl (by decide) rfl (fun ls hl => ?_)
  refine lv_goto (tgt := 2931) hx hb dL_law_1072 (by decide) ?_
  refine W.widen (k := cells + 40) (n := slots + 1200) (by omega) (by omega) ?_
  exact kk S20 f9 fd H _ ls ⟨hP, hD, w18.w, ((xe14.tr xe24).A h_o2), (xe24.A (xe14.A h_o1)), ((xe14.tr xe24).F h_o1 (by decide) h77), v22, v21, v23⟩ hS (lv_sub hl [2, 3, 4, 5, 6, 7] rfl)
set_option maxHeartbeats 4000000 in
set_option maxRecDepth 100000 in
theorem road_17 {p : Program} {l : Launch} {e : Env} {s : State} {m : MethodId} {below : List Frame} {meth : Method} {c : Code} {b L : Nat} {xs : Nat → Int32} {D : va_G} {cy : Nat → ClassId} {c8 c9 : ClassId} {e0 mi : Nat} {Q : State → Prop} {qo qd o1 o2 : Nat} (C0 : LC p l s m c b L xs D cy c8 c9 e0 mi) (hL9 : L ≤ 2560) {S : wPS} {fo : Nat → Int64} {fd : Nat → UInt64} {H : Heap} {locs : List Loc} {ls : Array Slot} {cells slots : Nat} {i : Int32} (hi : 0 ≤ i.toInt ∧ i.toInt + 5 ≤ L) (hI : LI D cy c8 c9 e0 (fun q => s.heap.size ≤ q) o1 o2 qo qd fo fd S H) (hS : va_S (fun q => s.heap.size ≤ q) s.heap H locs) (hc : cells + 40 ≤ room_1.cells) (hs : slots + 1200 ≤ room_1.slots) (hl : lv_has ls 9 [(5, .int i), (4, .ref qd), (3, .ref qo), (2, .ref o1), (1, .ref o2), (0, .ref b)]) (kk : ∀ (S2 : wPS) (fo2 : Nat → Int64) (fd2 : Nat → UInt64) (H2 : Heap) (locs2 : List Loc) (ls2 : Array Slot), LI D cy c8 c9 e0 (fun q => s.heap.size ≤ q) o1 o2 qo qd fo2 fd2 S2 H2 → va_S (fun q => s.heap.size ≤ q) s.heap H2 locs2 → lv_has ls2 9 [(5, .int i), (4, .ref qd), (3, .ref qo), (2, .ref o1), (1, .ref o2), (0, .ref b)] → W p l e room_1 s m #[Value.ref b] below meth c H2 locs2 (cells + 40) (slots + 1200) Q (F0 m 2931 ls2 [])) : W p l e room_1 s m #[Value.ref b] below meth c H locs cells slots Q (F0 m 1075 ls []) := by
  obtain ⟨hx, hb, hml, hown, hts, hX, hbl, hN, hTH, hOU, hKX, hst, hNC⟩ := id C0
  obtain ⟨hP, hD, hW, h_o2, h_o1, h77, hMV, hIV, hR_RG⟩ := hI
  have hK := kX hKX
  have hA : ∀ q : Nat, s.heap.size ≤ q → (fun q : Nat => s.heap.size ≤ q) q := fun _ h => h
  have hbA : ¬ (fun q : Nat => s.heap.size ≤ q) b := Nat.not_le.mpr hbl
  refine lv_aload_n hx hb dL_law_1075 rfl (lv_at hl 4 rfl) ?_
  refine lv_aload_n hx hb dL_law_1076 rfl (lv_at hl 5 rfl) ?_
  refine lv_iload hx hb dL_law_1077 (lv_at hl 0 rfl) ?_
  refine lv_iconst (v := 1) hx hb dL_law_1079 (by decide) ?_
  refine lv_iadd hx hb dL_law_1080 ?_
  have l32_1 : (1 : Int32).toInt = 1 := rfl
  have i1 : (i + (1 : Int32)).toInt = i.toInt + 1 := t_addr (n := 1) rfl (by omega)
  refine va_sld hx hb hX hbl hbA hS (inb (m := L) rfl (by omega) (by omega)) dL_law_1081 ?_
  obtain ⟨y2, ey2⟩ : ∃ z : Int32, xs (i + (1 : Int32)).toNatClampNeg = z := ⟨_, rfl⟩
  rw [ey2]
  refine lv_aload_n hx hb dL_law_1082 rfl (lv_at hl 5 rfl) ?_
  refine lv_iload hx hb dL_law_1083 (lv_at hl 0 rfl) ?_
  refine lv_iconst (v := 2) hx hb dL_law_1085 (by decide) ?_
  refine lv_iadd hx hb dL_law_1086 ?_
  have l32_2 : (2 : Int32).toInt = 2 := rfl
  have i3 : (i + (2 : Int32)).toInt = i.toInt + 2 := t_addr (n := 2) rfl (by omega)
  refine va_sld hx hb hX hbl hbA hS (inb (m := L) rfl (by omega) (by omega)) dL_law_1087 ?_
  obtain ⟨y4, ey4⟩ : ∃ z : Int32, xs (i + (2 : Int32)).toNatClampNeg = z := ⟨_, rfl⟩
  rw [ey4]
  refine lv_aload_n hx hb dL_law_1088 rfl (lv_at hl 5 rfl) ?_
  refine lv_iload hx hb dL_law_1089 (lv_at hl 0 rfl) ?_
  refine lv_iconst (v := 3) hx hb dL_law_1091 (by decide) ?_
  refine lv_iadd hx hb dL_law_1092 ?_
  have l32_3 : (3 : Int32).toInt = 3 := rfl
  have i5 : (i + (3 : Int32)).toInt = i.toInt + 3 := t_addr (n := 3) rfl (by omega)
  refine va_sld hx hb hX hbl hbA hS (inb (m := L) rfl (by omega) (by omega)) dL_law_1093 ?_
  obtain ⟨y6, ey6⟩ : ∃ z : Int32, xs (i + (3 : Int32)).toNatClampNeg = z := ⟨_, rfl⟩
  rw [ey6]
  refine lv_aload_n hx hb dL_law_1094 rfl (lv_at hl 5 rfl) ?_
  refine lv_iload hx hb dL_law_1095 (lv_at hl 0 rfl) ?_
  refine lv_iconst (v := 4) hx hb dL_law_1097 (by decide) ?_
  refine lv_iadd hx hb dL_law_1098 ?_
  have l32_4 : (4 : Int32).toInt = 4 := rfl
  have i7 : (i + (4 : Int32)).toInt = i.toInt + 4 := t_addr (n := 4) rfl (by omega)
  refine va_sld hx hb hX hbl hbA hS (inb (m := L) rfl (by omega) (by omega)) dL_law_1099 ?_
  obtain ⟨y8, ey8⟩ : ∃ z : Int32, xs (i + (4 : Int32)).toNatClampNeg = z := ⟨_, rfl⟩
  rw [ey8]
  refine lv_aload_n hx hb dL_law_1100 rfl (lv_at hl 2 rfl) ?_
  have hFc := free_all hD hS hA
  refine va_calli (vx_runSW (As := [.ref o2, .int y2, .int y4, .int y6, .int y8, .ref qo]) (rest := []) ⟨hx, hb, hml, hown, hts⟩ (c_L_rings l hst (e0 := e0) (mi := mi) (D := D) (cy := cy) (c8 := c8) (c9 := c9) qo qd fo fd S _ o2 h_o2 y2 y4 y6 y8 (hW)) (vx_cwSW 6 hts gL_law_L_rings rfl rfl rfl (by decide +kernel) ⟨Nat.le_of_ble_eq_true rfl, Nat.le_of_ble_eq_true rfl⟩) ⟨fun a U g mk q => ⟨q.1, q.2.1, q.2.2.1.calling, NW.same (u := U) (U := U.calling g mk a) rfl q.2.2.2.1, q.2.2.2.2.1.calling, q.2.2.2.2.2.1.calling, q.2.2.2.2.2.2.calling⟩, fun U hU hW => ⟨rfl, by rw [hU], wx_pre hP hKX hD hU hW, hN.warm hW, th_pre hTH hS hFc hU hW, ou_pre hOU hS hFc hU hW, hNC.moved hW.alike⟩⟩ rfl rfl hl.1 rfl (lv_room (Nat.le_of_ble_eq_true rfl)) dL_law_1101 ⟨by omega, by omega⟩) hS (fun q _ h => hFc q h) hFc (fun r9 u t H1 locs ht hvm hw hB hz1 hk1 hS => ?_)
  obtain ⟨S10, f11⟩ := u
  have w12 := hw
  obtain ⟨hP, hD⟩ := wx_post hFc ht hB
  generalize H1 = H at hP hS ⊢
  have w12 : stp ([] : List (Nat × Nat)) [] [] S S10 := w12
  have v13 : IV S10 o1 := IV.keep w12 hW h_o1 (by decide) (by decide) hIV
  have v14 : MV S10 o1 := MV.keep w12 hW h_o1 (by decide) (by decide) hMV
  have v15 : (RG o2) S10 o1 := RG.keep w12 hW h_o1 (by decide) (by decide) hR_RG
  have xe16 : ext S S10 := w12.x
  refine lv_istore (lv' := [(6, .int r9), (5, .int i), (4, .ref qd), (3, .ref qo), (2, .ref o1), (1, .ref o2), (0, .ref b)]) hx hb dL_law_1104 hl (by decide) rfl (fun ls hl => ?_)
  refine lv_aload_n hx hb dL_law_1106 rfl (lv_at hl 4 rfl) ?_
  refine lv_aload_n hx hb dL_law_1107 rfl (lv_at hl 6 rfl) ?_
  refine lv_iload hx hb dL_law_1108 (lv_at hl 1 rfl) ?_
  refine lv_iconst (v := 1) hx hb dL_law_1110 (by decide) ?_
  refine lv_iadd hx hb dL_law_1111 ?_
  refine va_sld hx hb hX hbl hbA hS (inb (m := L) rfl (by omega) (by omega)) dL_law_1112 ?_
  rw [ey2]
  refine lv_aload_n hx hb dL_law_1113 rfl (lv_at hl 6 rfl) ?_
  refine lv_iload hx hb dL_law_1114 (lv_at hl 1 rfl) ?_
  refine lv_iconst (v := 2) hx hb dL_law_1116 (by decide) ?_
  refine lv_iadd hx hb dL_law_1117 ?_
  refine va_sld hx hb hX hbl hbA hS (inb (m := L) rfl (by omega) (by omega)) dL_law_1118 ?_
  rw [ey4]
  refine lv_aload_n hx hb dL_law_1119 rfl (lv_at hl 6 rfl) ?_
  refine lv_iload hx hb dL_law_1120 (lv_at hl 1 rfl) ?_
  refine lv_iconst (v := 3) hx hb dL_law_1122 (by decide) ?_
  refine lv_iadd hx hb dL_law_1123 ?_
  refine va_sld hx hb hX hbl hbA hS (inb (m := L) rfl (by omega) (by omega)) dL_law_1124 ?_
  rw [ey6]
  refine lv_aload_n hx hb dL_law_1125 rfl (lv_at hl 6 rfl) ?_
  refine lv_iload hx hb dL_law_1126 (lv_at hl 1 rfl) ?_
  refine lv_iconst (v := 4) hx hb dL_law_1128 (by decide) ?_
  refine lv_iadd hx hb dL_law_1129 ?_
  refine va_sld hx hb hX hbl hbA hS (inb (m := L) rfl (by omega) (by omega)) dL_law_1130 ?_
  rw [ey8]
  have hFc := free_all hD hS hA
  obtain ⟨k18, gk18, hk18⟩ := wGt (cy := cy) (XO c8 c9 qo qd f11 fd) S10 (xe16.A h_o1).1 (xe16.A h_o1).2.1
  refine va_calli (va_runV (As := [.int y2, .int y4, .int y6, .int y8]) (rest := []) ⟨hx, hb, hml, hown, hts⟩ (c_X12_rings l (cy := cy) (X := (XO c8 c9 qo qd f11 fd)) (D := D) S10 _ o1 (xe16.A h_o1) y2 y4 y6 y8 (w12.w)) (cwV 4 hts gL_law_X12_rings rfl rfl rfl hd_X12_rings ⟨Nat.le_of_ble_eq_true rfl, Nat.le_of_ble_eq_true rfl⟩) ⟨fun a U g mk q => ⟨q.1, q.2.1, q.2.2.1.calling, NW.same (u := U) (U := U.calling g mk a) rfl q.2.2.2⟩, va_recv hK hP (q := (RX12, TX12, 34)) (ci := 16) (q0 := k18) rfl hk18, fun U hU hW => ⟨rfl, by rw [hU], wd_pre hP hK hD hU hW, hN.warm hW⟩⟩ rfl rfl hl.1 rfl (lv_room (Nat.le_of_ble_eq_true rfl)) dL_law_1131 ⟨by omega, by omega⟩) hS (fun q _ h => hFc q h) hFc (fun r17 u t H1 locs ht hvm hw hB hz1 hk1 hS => ?_)
  have w19 := hw
  obtain ⟨hP, hD⟩ := wd_post hFc ht hB
  generalize H1 = H at hP hS ⊢
  obtain ⟨S20, rfl⟩ : ∃ z, z = u := ⟨_, rfl⟩
  have v21 : IV S20 o1 := IV.keep w19 w12.w (xe16.A h_o1) (by decide) (by decide) v13
  have v22 : MV S20 o1 := MV.keep w19 w12.w (xe16.A h_o1) (by decide) (by decide) v14
  have v23 : (RG o2) S20 o1 := RG.keep w19 w12.w (xe16.A h_o1) (by decide) (by decide) v15
  have xe24 : ext S10 S20 := w19.x
  refine lv_istore (lv' := [(7, .int r17), (6, .int r9), (5, .int i), (4, .ref qd), (3, .ref qo), (2, .ref o1), (1, .ref o2), (0, .ref b)]) hx hb dL_law_1134 hl (by decide) rfl (fun ls hl => ?_)
  refine lv_goto (tgt := 2931) hx hb dL_law_1136 (by decide) ?_
  refine W.widen (k := cells + 40) (n := slots + 1200) (by omega) (by omega) ?_
  exact kk S20 f11 fd H _ ls ⟨hP, hD, w19.w, ((xe16.tr xe24).A h_o2), (xe24.A (xe16.A h_o1)), ((xe16.tr xe24).F h_o1 (by decide) h77), v22, v21, v23⟩ hS (lv_sub hl [2, 3, 4, 5, 6, 7] rfl)
set_option maxHeartbeats 4000000 in
set_option maxRecDepth 100000 in
theorem road_18 {p : Program} {l : Launch} {e : Env} {s : State} {m : MethodId} {below : List Frame} {meth : Method} {c : Code} {b L : Nat} {xs : Nat → Int32} {D : va_G} {cy : Nat → ClassId} {c8 c9 : ClassId} {e0 mi : Nat} {Q : State → Prop} {qo qd o1 o2 : Nat} (C0 : LC p l s m c b L xs D cy c8 c9 e0 mi) (hL9 : L ≤ 2560) {S : wPS} {fo : Nat → Int64} {fd : Nat → UInt64} {H : Heap} {locs : List Loc} {ls : Array Slot} {cells slots : Nat} {i : Int32} (hi : 0 ≤ i.toInt ∧ i.toInt + 5 ≤ L) (hI : LI D cy c8 c9 e0 (fun q => s.heap.size ≤ q) o1 o2 qo qd fo fd S H) (hS : va_S (fun q => s.heap.size ≤ q) s.heap H locs) (hc : cells + 40 ≤ room_1.cells) (hs : slots + 1200 ≤ room_1.slots) (hl : lv_has ls 9 [(5, .int i), (4, .ref qd), (3, .ref qo), (2, .ref o1), (1, .ref o2), (0, .ref b)]) (kk : ∀ (S2 : wPS) (fo2 : Nat → Int64) (fd2 : Nat → UInt64) (H2 : Heap) (locs2 : List Loc) (ls2 : Array Slot), LI D cy c8 c9 e0 (fun q => s.heap.size ≤ q) o1 o2 qo qd fo2 fd2 S2 H2 → va_S (fun q => s.heap.size ≤ q) s.heap H2 locs2 → lv_has ls2 9 [(5, .int i), (4, .ref qd), (3, .ref qo), (2, .ref o1), (1, .ref o2), (0, .ref b)] → W p l e room_1 s m #[Value.ref b] below meth c H2 locs2 (cells + 40) (slots + 1200) Q (F0 m 2931 ls2 [])) : W p l e room_1 s m #[Value.ref b] below meth c H locs cells slots Q (F0 m 1139 ls []) := by
  obtain ⟨hx, hb, hml, hown, hts, hX, hbl, hN, hTH, hOU, hKX, hst, hNC⟩ := id C0
  obtain ⟨hP, hD, hW, h_o2, h_o1, h77, hMV, hIV, hR_RG⟩ := hI
  have hK := kX hKX
  have hA : ∀ q : Nat, s.heap.size ≤ q → (fun q : Nat => s.heap.size ≤ q) q := fun _ h => h
  have hbA : ¬ (fun q : Nat => s.heap.size ≤ q) b := Nat.not_le.mpr hbl
  refine lv_aload_n hx hb dL_law_1139 rfl (lv_at hl 4 rfl) ?_
  refine lv_aload_n hx hb dL_law_1140 rfl (lv_at hl 5 rfl) ?_
  refine lv_iload hx hb dL_law_1141 (lv_at hl 0 rfl) ?_
  refine lv_iconst (v := 1) hx hb dL_law_1143 (by decide) ?_
  refine lv_iadd hx hb dL_law_1144 ?_
  have l32_1 : (1 : Int32).toInt = 1 := rfl
  have i1 : (i + (1 : Int32)).toInt = i.toInt + 1 := t_addr (n := 1) rfl (by omega)
  refine va_sld hx hb hX hbl hbA hS (inb (m := L) rfl (by omega) (by omega)) dL_law_1145 ?_
  obtain ⟨y2, ey2⟩ : ∃ z : Int32, xs (i + (1 : Int32)).toNatClampNeg = z := ⟨_, rfl⟩
  rw [ey2]
  refine lv_aload_n hx hb dL_law_1146 rfl (lv_at hl 2 rfl) ?_
  have hFc := free_all hD hS hA
  refine va_calli (vx_runSW (As := [.ref o2, .int y2, .ref qo]) (rest := []) ⟨hx, hb, hml, hown, hts⟩ (c_L_wheel l hst (e0 := e0) (mi := mi) (D := D) (cy := cy) (c8 := c8) (c9 := c9) qo qd fo fd S _ o2 h_o2 y2 (hW)) (vx_cwSW 3 hts gL_law_L_wheel rfl rfl rfl (by decide +kernel) ⟨Nat.le_of_ble_eq_true rfl, Nat.le_of_ble_eq_true rfl⟩) ⟨fun a U g mk q => ⟨q.1, q.2.1, q.2.2.1.calling, NW.same (u := U) (U := U.calling g mk a) rfl q.2.2.2.1, q.2.2.2.2.1.calling, q.2.2.2.2.2.1.calling, q.2.2.2.2.2.2.calling⟩, fun U hU hW => ⟨rfl, by rw [hU], wx_pre hP hKX hD hU hW, hN.warm hW, th_pre hTH hS hFc hU hW, ou_pre hOU hS hFc hU hW, hNC.moved hW.alike⟩⟩ rfl rfl hl.1 rfl (lv_room (Nat.le_of_ble_eq_true rfl)) dL_law_1147 ⟨by omega, by omega⟩) hS (fun q _ h => hFc q h) hFc (fun r3 u t H1 locs ht hvm hw hB hz1 hk1 hS => ?_)
  obtain ⟨S4, f5⟩ := u
  have w6 := hw
  obtain ⟨hP, hD⟩ := wx_post hFc ht hB
  generalize H1 = H at hP hS ⊢
  have w6 : stp [(0, 2), (27, 100)] [] [] S S4 := w6
  have v7 : IV S4 o1 := IV.keep w6 hW h_o1 (by decide) (by decide) hIV
  have v8 : MV S4 o1 := MV.keep w6 hW h_o1 (by decide) (by decide) hMV
  have v9 : (RG o2) S4 o1 := RG.keep w6 hW h_o1 (by decide) (by decide) hR_RG
  have xe10 : ext S S4 := w6.x
  refine lv_istore (lv' := [(6, .int r3), (5, .int i), (4, .ref qd), (3, .ref qo), (2, .ref o1), (1, .ref o2), (0, .ref b)]) hx hb dL_law_1150 hl (by decide) rfl (fun ls hl => ?_)
  refine lv_aload_n hx hb dL_law_1152 rfl (lv_at hl 4 rfl) ?_
  refine lv_aload_n hx hb dL_law_1153 rfl (lv_at hl 6 rfl) ?_
  refine lv_iload hx hb dL_law_1154 (lv_at hl 1 rfl) ?_
  refine lv_iconst (v := 1) hx hb dL_law_1156 (by decide) ?_
  refine lv_iadd hx hb dL_law_1157 ?_
  refine va_sld hx hb hX hbl hbA hS (inb (m := L) rfl (by omega) (by omega)) dL_law_1158 ?_
  rw [ey2]
  have hFc := free_all hD hS hA
  obtain ⟨k12, gk12, hk12⟩ := wGt (cy := cy) (XO c8 c9 qo qd f5 fd) S4 (xe10.A h_o1).1 (xe10.A h_o1).2.1
  refine va_calli (va_runV (As := [.int y2]) (rest := []) ⟨hx, hb, hml, hown, hts⟩ (c_X12_wheel l (cy := cy) (X := (XO c8 c9 qo qd f5 fd)) (D := D) S4 _ o1 (xe10.A h_o1) y2 (w6.w)) (cwV 1 hts gL_law_X12_wheel rfl rfl rfl hd_X12_wheel ⟨Nat.le_of_ble_eq_true rfl, Nat.le_of_ble_eq_true rfl⟩) ⟨fun a U g mk q => ⟨q.1, q.2.1, q.2.2.1.calling, NW.same (u := U) (U := U.calling g mk a) rfl q.2.2.2⟩, va_recv hK hP (q := (RX12, TX12, 34)) (ci := 16) (q0 := k12) rfl hk12, fun U hU hW => ⟨rfl, by rw [hU], wd_pre hP hK hD hU hW, hN.warm hW⟩⟩ rfl rfl hl.1 rfl (lv_room (Nat.le_of_ble_eq_true rfl)) dL_law_1159 ⟨by omega, by omega⟩) hS (fun q _ h => hFc q h) hFc (fun r11 u t H1 locs ht hvm hw hB hz1 hk1 hS => ?_)
  obtain ⟨c13, w14⟩ := hw
  obtain ⟨hP, hD⟩ := wd_post hFc ht hB
  generalize H1 = H at hP hS ⊢
  obtain ⟨S15, rfl⟩ : ∃ z, z = u := ⟨_, rfl⟩
  have v16 : IV S15 o1 := IV.keep w14 w6.w (xe10.A h_o1) (by decide) (by decide) v7
  have v17 : MV S15 o1 := MV.keep w14 w6.w (xe10.A h_o1) (by decide) (by decide) v8
  have v18 : (RG o2) S15 o1 := RG.keep w14 w6.w (xe10.A h_o1) (by decide) (by decide) v9
  have xe19 : ext S4 S15 := w14.x
  refine lv_istore (lv' := [(7, .int r11), (6, .int r3), (5, .int i), (4, .ref qd), (3, .ref qo), (2, .ref o1), (1, .ref o2), (0, .ref b)]) hx hb dL_law_1162 hl (by decide) rfl (fun ls hl => ?_)
  refine lv_goto (tgt := 2931) hx hb dL_law_1164 (by decide) ?_
  refine W.widen (k := cells + 40) (n := slots + 1200) (by omega) (by omega) ?_
  exact kk S15 f5 fd H _ ls ⟨hP, hD, w14.w, ((xe10.tr xe19).A h_o2), (xe19.A (xe10.A h_o1)), ((xe10.tr xe19).F h_o1 (by decide) h77), v17, v16, v18⟩ hS (lv_sub hl [2, 3, 4, 5, 6, 7] rfl)
set_option maxHeartbeats 4000000 in
set_option maxRecDepth 100000 in
theorem road_19 {p : Program} {l : Launch} {e : Env} {s : State} {m : MethodId} {below : List Frame} {meth : Method} {c : Code} {b L : Nat} {xs : Nat → Int32} {D : va_G} {cy : Nat → ClassId} {c8 c9 : ClassId} {e0 mi : Nat} {Q : State → Prop} {qo qd o1 o2 : Nat} (C0 : LC p l s m c b L xs D cy c8 c9 e0 mi) (hL9 : L ≤ 2560) {S : wPS} {fo : Nat → Int64} {fd : Nat → UInt64} {H : Heap} {locs : List Loc} {ls : Array Slot} {cells slots : Nat} {i : Int32} (hi : 0 ≤ i.toInt ∧ i.toInt + 5 ≤ L) (hI : LI D cy c8 c9 e0 (fun q => s.heap.size ≤ q) o1 o2 qo qd fo fd S H) (hS : va_S (fun q => s.heap.size ≤ q) s.heap H locs) (hc : cells + 40 ≤ room_1.cells) (hs : slots + 1200 ≤ room_1.slots) (hl : lv_has ls 9 [(5, .int i), (4, .ref qd), (3, .ref qo), (2, .ref o1), (1, .ref o2), (0, .ref b)]) (kk : ∀ (S2 : wPS) (fo2 : Nat → Int64) (fd2 : Nat → UInt64) (H2 : Heap) (locs2 : List Loc) (ls2 : Array Slot), LI D cy c8 c9 e0 (fun q => s.heap.size ≤ q) o1 o2 qo qd fo2 fd2 S2 H2 → va_S (fun q => s.heap.size ≤ q) s.heap H2 locs2 → lv_has ls2 9 [(5, .int i), (4, .ref qd), (3, .ref qo), (2, .ref o1), (1, .ref o2), (0, .ref b)] → W p l e room_1 s m #[Value.ref b] below meth c H2 locs2 (cells + 40) (slots + 1200) Q (F0 m 2931 ls2 [])) : W p l e room_1 s m #[Value.ref b] below meth c H locs cells slots Q (F0 m 1167 ls []) := by
  obtain ⟨hx, hb, hml, hown, hts, hX, hbl, hN, hTH, hOU, hKX, hst, hNC⟩ := id C0
  obtain ⟨hP, hD, hW, h_o2, h_o1, h77, hMV, hIV, hR_RG⟩ := hI
  have hK := kX hKX
  have hA : ∀ q : Nat, s.heap.size ≤ q → (fun q : Nat => s.heap.size ≤ q) q := fun _ h => h
  have hbA : ¬ (fun q : Nat => s.heap.size ≤ q) b := Nat.not_le.mpr hbl
  refine lv_aload_n hx hb dL_law_1167 rfl (lv_at hl 4 rfl) ?_
  refine lv_aload_n hx hb dL_law_1168 rfl (lv_at hl 5 rfl) ?_
  refine lv_iload hx hb dL_law_1169 (lv_at hl 0 rfl) ?_
  refine lv_iconst (v := 1) hx hb dL_law_1171 (by decide) ?_
  refine lv_iadd hx hb dL_law_1172 ?_
  have l32_1 : (1 : Int32).toInt = 1 := rfl
  have i1 : (i + (1 : Int32)).toInt = i.toInt + 1 := t_addr (n := 1) rfl (by omega)
  refine va_sld hx hb hX hbl hbA hS (inb (m := L) rfl (by omega) (by omega)) dL_law_1173 ?_
  obtain ⟨y2, ey2⟩ : ∃ z : Int32, xs (i + (1 : Int32)).toNatClampNeg = z := ⟨_, rfl⟩
  rw [ey2]
  refine lv_aload_n hx hb dL_law_1174 rfl (lv_at hl 5 rfl) ?_
  refine lv_iload hx hb dL_law_1175 (lv_at hl 0 rfl) ?_
  refine lv_iconst (v := 2) hx hb dL_law_1177 (by decide) ?_
  refine lv_iadd hx hb dL_law_1178 ?_
  have l32_2 : (2 : Int32).toInt = 2 := rfl
  have i3 : (i + (2 : Int32)).toInt = i.toInt + 2 := t_addr (n := 2) rfl (by omega)
  refine va_sld hx hb hX hbl hbA hS (inb (m := L) rfl (by omega) (by omega)) dL_law_1179 ?_
  obtain ⟨y4, ey4⟩ : ∃ z : Int32, xs (i + (2 : Int32)).toNatClampNeg = z := ⟨_, rfl⟩
  rw [ey4]
  refine lv_aload_n hx hb dL_law_1180 rfl (lv_at hl 5 rfl) ?_
  refine lv_iload hx hb dL_law_1181 (lv_at hl 0 rfl) ?_
  refine lv_iconst (v := 3) hx hb dL_law_1183 (by decide) ?_
  refine lv_iadd hx hb dL_law_1184 ?_
  have l32_3 : (3 : Int32).toInt = 3 := rfl
  have i5 : (i + (3 : Int32)).toInt = i.toInt + 3 := t_addr (n := 3) rfl (by omega)
  refine va_sld hx hb hX hbl hbA hS (inb (m := L) rfl (by omega) (by omega)) dL_law_1185 ?_
  obtain ⟨y6, ey6⟩ : ∃ z : Int32, xs (i + (3 : Int32)).toNatClampNeg = z := ⟨_, rfl⟩
  rw [ey6]
  refine lv_aload_n hx hb dL_law_1186 rfl (lv_at hl 2 rfl) ?_
  have hFc := free_all hD hS hA
  refine va_calli (vx_runSW (As := [.ref o2, .int y2, .int y4, .int y6, .ref qo]) (rest := []) ⟨hx, hb, hml, hown, hts⟩ (c_L_change l hst (e0 := e0) (mi := mi) (D := D) (cy := cy) (c8 := c8) (c9 := c9) qo qd fo fd S _ o2 h_o2 y2 y4 y6 (hW)) (vx_cwSW 5 hts gL_law_L_change rfl rfl rfl (by decide +kernel) ⟨Nat.le_of_ble_eq_true rfl, Nat.le_of_ble_eq_true rfl⟩) ⟨fun a U g mk q => ⟨q.1, q.2.1, q.2.2.1.calling, NW.same (u := U) (U := U.calling g mk a) rfl q.2.2.2.1, q.2.2.2.2.1.calling, q.2.2.2.2.2.1.calling, q.2.2.2.2.2.2.calling⟩, fun U hU hW => ⟨rfl, by rw [hU], wx_pre hP hKX hD hU hW, hN.warm hW, th_pre hTH hS hFc hU hW, ou_pre hOU hS hFc hU hW, hNC.moved hW.alike⟩⟩ rfl rfl hl.1 rfl (lv_room (Nat.le_of_ble_eq_true rfl)) dL_law_1187 ⟨by omega, by omega⟩) hS (fun q _ h => hFc q h) hFc (fun r7 u t H1 locs ht hvm hw hB hz1 hk1 hS => ?_)
  obtain ⟨S8, f9⟩ := u
  have w10 := hw
  obtain ⟨hP, hD⟩ := wx_post hFc ht hB
  generalize H1 = H at hP hS ⊢
  have w10 : stp [(0, 3), (0, 4), (0, 5), (0, 6), (17, 100)] [] [] S S8 := w10
  have v11 : IV S8 o1 := IV.keep w10 hW h_o1 (by decide) (by decide) hIV
  have v12 : MV S8 o1 := MV.keep w10 hW h_o1 (by decide) (by decide) hMV
  have v13 : (RG o2) S8 o1 := RG.keep w10 hW h_o1 (by decide) (by decide) hR_RG
  have xe14 : ext S S8 := w10.x
  refine lv_istore (lv' := [(6, .int r7), (5, .int i), (4, .ref qd), (3, .ref qo), (2, .ref o1), (1, .ref o2), (0, .ref b)]) hx hb dL_law_1190 hl (by decide) rfl (fun ls hl => ?_)
  refine lv_aload_n hx hb dL_law_1192 rfl (lv_at hl 4 rfl) ?_
  refine lv_aload_n hx hb dL_law_1193 rfl (lv_at hl 6 rfl) ?_
  refine lv_iload hx hb dL_law_1194 (lv_at hl 1 rfl) ?_
  refine lv_iconst (v := 1) hx hb dL_law_1196 (by decide) ?_
  refine lv_iadd hx hb dL_law_1197 ?_
  refine va_sld hx hb hX hbl hbA hS (inb (m := L) rfl (by omega) (by omega)) dL_law_1198 ?_
  rw [ey2]
  refine lv_aload_n hx hb dL_law_1199 rfl (lv_at hl 6 rfl) ?_
  refine lv_iload hx hb dL_law_1200 (lv_at hl 1 rfl) ?_
  refine lv_iconst (v := 2) hx hb dL_law_1202 (by decide) ?_
  refine lv_iadd hx hb dL_law_1203 ?_
  refine va_sld hx hb hX hbl hbA hS (inb (m := L) rfl (by omega) (by omega)) dL_law_1204 ?_
  rw [ey4]
  refine lv_aload_n hx hb dL_law_1205 rfl (lv_at hl 6 rfl) ?_
  refine lv_iload hx hb dL_law_1206 (lv_at hl 1 rfl) ?_
  refine lv_iconst (v := 3) hx hb dL_law_1208 (by decide) ?_
  refine lv_iadd hx hb dL_law_1209 ?_
  refine va_sld hx hb hX hbl hbA hS (inb (m := L) rfl (by omega) (by omega)) dL_law_1210 ?_
  rw [ey6]
  have hFc := free_all hD hS hA
  obtain ⟨k16, gk16, hk16⟩ := wGt (cy := cy) (XO c8 c9 qo qd f9 fd) S8 (xe14.A h_o1).1 (xe14.A h_o1).2.1
  refine va_calli (va_runV (As := [.int y2, .int y4, .int y6]) (rest := []) ⟨hx, hb, hml, hown, hts⟩ (c_X12_change l (cy := cy) (X := (XO c8 c9 qo qd f9 fd)) (D := D) S8 _ o1 (xe14.A h_o1) y2 y4 y6 (w10.w)) (cwV 3 hts gL_law_X12_change rfl rfl rfl hd_X12_change ⟨Nat.le_of_ble_eq_true rfl, Nat.le_of_ble_eq_true rfl⟩) ⟨fun a U g mk q => ⟨q.1, q.2.1, q.2.2.1.calling, NW.same (u := U) (U := U.calling g mk a) rfl q.2.2.2⟩, va_recv hK hP (q := (RX12, TX12, 34)) (ci := 16) (q0 := k16) rfl hk16, fun U hU hW => ⟨rfl, by rw [hU], wd_pre hP hK hD hU hW, hN.warm hW⟩⟩ rfl rfl hl.1 rfl (lv_room (Nat.le_of_ble_eq_true rfl)) dL_law_1211 ⟨by omega, by omega⟩) hS (fun q _ h => hFc q h) hFc (fun r15 u t H1 locs ht hvm hw hB hz1 hk1 hS => ?_)
  have w17 := hw
  obtain ⟨hP, hD⟩ := wd_post hFc ht hB
  generalize H1 = H at hP hS ⊢
  obtain ⟨S18, rfl⟩ : ∃ z, z = u := ⟨_, rfl⟩
  have v19 : IV S18 o1 := IV.keep w17 w10.w (xe14.A h_o1) (by decide) (by decide) v11
  have v20 : MV S18 o1 := MV.keep w17 w10.w (xe14.A h_o1) (by decide) (by decide) v12
  have v21 : (RG o2) S18 o1 := RG.keep w17 w10.w (xe14.A h_o1) (by decide) (by decide) v13
  have xe22 : ext S8 S18 := w17.x
  refine lv_istore (lv' := [(7, .int r15), (6, .int r7), (5, .int i), (4, .ref qd), (3, .ref qo), (2, .ref o1), (1, .ref o2), (0, .ref b)]) hx hb dL_law_1214 hl (by decide) rfl (fun ls hl => ?_)
  refine lv_goto (tgt := 2931) hx hb dL_law_1216 (by decide) ?_
  refine W.widen (k := cells + 40) (n := slots + 1200) (by omega) (by omega) ?_
  exact kk S18 f9 fd H _ ls ⟨hP, hD, w17.w, ((xe14.tr xe22).A h_o2), (xe22.A (xe14.A h_o1)), ((xe14.tr xe22).F h_o1 (by decide) h77), v20, v19, v21⟩ hS (lv_sub hl [2, 3, 4, 5, 6, 7] rfl)
set_option maxHeartbeats 4000000 in
set_option maxRecDepth 100000 in
theorem road_20 {p : Program} {l : Launch} {e : Env} {s : State} {m : MethodId} {below : List Frame} {meth : Method} {c : Code} {b L : Nat} {xs : Nat → Int32} {D : va_G} {cy : Nat → ClassId} {c8 c9 : ClassId} {e0 mi : Nat} {Q : State → Prop} {qo qd o1 o2 : Nat} (C0 : LC p l s m c b L xs D cy c8 c9 e0 mi) (hL9 : L ≤ 2560) {S : wPS} {fo : Nat → Int64} {fd : Nat → UInt64} {H : Heap} {locs : List Loc} {ls : Array Slot} {cells slots : Nat} {i : Int32} (hi : 0 ≤ i.toInt ∧ i.toInt + 5 ≤ L) (hI : LI D cy c8 c9 e0 (fun q => s.heap.size ≤ q) o1 o2 qo qd fo fd S H) (hS : va_S (fun q => s.heap.size ≤ q) s.heap H locs) (hc : cells + 40 ≤ room_1.cells) (hs : slots + 1200 ≤ room_1.slots) (hl : lv_has ls 9 [(5, .int i), (4, .ref qd), (3, .ref qo), (2, .ref o1), (1, .ref o2), (0, .ref b)]) (kk : ∀ (S2 : wPS) (fo2 : Nat → Int64) (fd2 : Nat → UInt64) (H2 : Heap) (locs2 : List Loc) (ls2 : Array Slot), LI D cy c8 c9 e0 (fun q => s.heap.size ≤ q) o1 o2 qo qd fo2 fd2 S2 H2 → va_S (fun q => s.heap.size ≤ q) s.heap H2 locs2 → lv_has ls2 9 [(5, .int i), (4, .ref qd), (3, .ref qo), (2, .ref o1), (1, .ref o2), (0, .ref b)] → W p l e room_1 s m #[Value.ref b] below meth c H2 locs2 (cells + 40) (slots + 1200) Q (F0 m 2931 ls2 [])) : W p l e room_1 s m #[Value.ref b] below meth c H locs cells slots Q (F0 m 1219 ls []) := by
  obtain ⟨hx, hb, hml, hown, hts, hX, hbl, hN, hTH, hOU, hKX, hst, hNC⟩ := id C0
  obtain ⟨hP, hD, hW, h_o2, h_o1, h77, hMV, hIV, hR_RG⟩ := hI
  have hK := kX hKX
  have hA : ∀ q : Nat, s.heap.size ≤ q → (fun q : Nat => s.heap.size ≤ q) q := fun _ h => h
  have hbA : ¬ (fun q : Nat => s.heap.size ≤ q) b := Nat.not_le.mpr hbl
  refine lv_aload_n hx hb dL_law_1219 rfl (lv_at hl 4 rfl) ?_
  refine lv_aload_n hx hb dL_law_1220 rfl (lv_at hl 5 rfl) ?_
  refine lv_iload hx hb dL_law_1221 (lv_at hl 0 rfl) ?_
  refine lv_iconst (v := 1) hx hb dL_law_1223 (by decide) ?_
  refine lv_iadd hx hb dL_law_1224 ?_
  have l32_1 : (1 : Int32).toInt = 1 := rfl
  have i1 : (i + (1 : Int32)).toInt = i.toInt + 1 := t_addr (n := 1) rfl (by omega)
  refine va_sld hx hb hX hbl hbA hS (inb (m := L) rfl (by omega) (by omega)) dL_law_1225 ?_
  obtain ⟨y2, ey2⟩ : ∃ z : Int32, xs (i + (1 : Int32)).toNatClampNeg = z := ⟨_, rfl⟩
  rw [ey2]
  refine lv_aload_n hx hb dL_law_1226 rfl (lv_at hl 5 rfl) ?_
  refine lv_iload hx hb dL_law_1227 (lv_at hl 0 rfl) ?_
  refine lv_iconst (v := 2) hx hb dL_law_1229 (by decide) ?_
  refine lv_iadd hx hb dL_law_1230 ?_
  have l32_2 : (2 : Int32).toInt = 2 := rfl
  have i3 : (i + (2 : Int32)).toInt = i.toInt + 2 := t_addr (n := 2) rfl (by omega)
  refine va_sld hx hb hX hbl hbA hS (inb (m := L) rfl (by omega) (by omega)) dL_law_1231 ?_
  obtain ⟨y4, ey4⟩ : ∃ z : Int32, xs (i + (2 : Int32)).toNatClampNeg = z := ⟨_, rfl⟩
  rw [ey4]
  refine lv_aload_n hx hb dL_law_1232 rfl (lv_at hl 5 rfl) ?_
  refine lv_iload hx hb dL_law_1233 (lv_at hl 0 rfl) ?_
  refine lv_iconst (v := 3) hx hb dL_law_1235 (by decide) ?_
  refine lv_iadd hx hb dL_law_1236 ?_
  have l32_3 : (3 : Int32).toInt = 3 := rfl
  have i5 : (i + (3 : Int32)).toInt = i.toInt + 3 := t_addr (n := 3) rfl (by omega)
  refine va_sld hx hb hX hbl hbA hS (inb (m := L) rfl (by omega) (by omega)) dL_law_1237 ?_
  obtain ⟨y6, ey6⟩ : ∃ z : Int32, xs (i + (3 : Int32)).toNatClampNeg = z := ⟨_, rfl⟩
  rw [ey6]
  refine lv_aload_n hx hb dL_law_1238 rfl (lv_at hl 2 rfl) ?_
  have hFc := free_all hD hS hA
  refine va_calli (vx_runSW (As := [.ref o2, .int y2, .int y4, .int y6, .ref qo]) (rest := []) ⟨hx, hb, hml, hown, hts⟩ (c_L_meets l hst (e0 := e0) (mi := mi) (D := D) (cy := cy) (c8 := c8) (c9 := c9) qo qd fo fd S _ o2 h_o2 y2 y4 y6 (hW)) (vx_cwSW 5 hts gL_law_L_meets rfl rfl rfl (by decide +kernel) ⟨Nat.le_of_ble_eq_true rfl, Nat.le_of_ble_eq_true rfl⟩) ⟨fun a U g mk q => ⟨q.1, q.2.1, q.2.2.1.calling, NW.same (u := U) (U := U.calling g mk a) rfl q.2.2.2.1, q.2.2.2.2.1.calling, q.2.2.2.2.2.1.calling, q.2.2.2.2.2.2.calling⟩, fun U hU hW => ⟨rfl, by rw [hU], wx_pre hP hKX hD hU hW, hN.warm hW, th_pre hTH hS hFc hU hW, ou_pre hOU hS hFc hU hW, hNC.moved hW.alike⟩⟩ rfl rfl hl.1 rfl (lv_room (Nat.le_of_ble_eq_true rfl)) dL_law_1239 ⟨by omega, by omega⟩) hS (fun q _ h => hFc q h) hFc (fun r7 u t H1 locs ht hvm hw hB hz1 hk1 hS => ?_)
  obtain ⟨S8, f9⟩ := u
  have w10 := hw
  obtain ⟨hP, hD⟩ := wx_post hFc ht hB
  generalize H1 = H at hP hS ⊢
  have w10 : stp [(0, 3), (0, 4), (0, 5), (0, 6), (17, 100)] [] [] S S8 := w10
  have v11 : IV S8 o1 := IV.keep w10 hW h_o1 (by decide) (by decide) hIV
  have v12 : MV S8 o1 := MV.keep w10 hW h_o1 (by decide) (by decide) hMV
  have v13 : (RG o2) S8 o1 := RG.keep w10 hW h_o1 (by decide) (by decide) hR_RG
  have xe14 : ext S S8 := w10.x
  refine lv_istore (lv' := [(6, .int r7), (5, .int i), (4, .ref qd), (3, .ref qo), (2, .ref o1), (1, .ref o2), (0, .ref b)]) hx hb dL_law_1242 hl (by decide) rfl (fun ls hl => ?_)
  refine lv_aload_n hx hb dL_law_1244 rfl (lv_at hl 4 rfl) ?_
  refine lv_aload_n hx hb dL_law_1245 rfl (lv_at hl 6 rfl) ?_
  refine lv_iload hx hb dL_law_1246 (lv_at hl 1 rfl) ?_
  refine lv_iconst (v := 1) hx hb dL_law_1248 (by decide) ?_
  refine lv_iadd hx hb dL_law_1249 ?_
  refine va_sld hx hb hX hbl hbA hS (inb (m := L) rfl (by omega) (by omega)) dL_law_1250 ?_
  rw [ey2]
  refine lv_aload_n hx hb dL_law_1251 rfl (lv_at hl 6 rfl) ?_
  refine lv_iload hx hb dL_law_1252 (lv_at hl 1 rfl) ?_
  refine lv_iconst (v := 2) hx hb dL_law_1254 (by decide) ?_
  refine lv_iadd hx hb dL_law_1255 ?_
  refine va_sld hx hb hX hbl hbA hS (inb (m := L) rfl (by omega) (by omega)) dL_law_1256 ?_
  rw [ey4]
  refine lv_aload_n hx hb dL_law_1257 rfl (lv_at hl 6 rfl) ?_
  refine lv_iload hx hb dL_law_1258 (lv_at hl 1 rfl) ?_
  refine lv_iconst (v := 3) hx hb dL_law_1260 (by decide) ?_
  refine lv_iadd hx hb dL_law_1261 ?_
  refine va_sld hx hb hX hbl hbA hS (inb (m := L) rfl (by omega) (by omega)) dL_law_1262 ?_
  rw [ey6]
  have hFc := free_all hD hS hA
  obtain ⟨k16, gk16, hk16⟩ := wGt (cy := cy) (XO c8 c9 qo qd f9 fd) S8 (xe14.A h_o1).1 (xe14.A h_o1).2.1
  refine va_calli (va_runV (As := [.int y2, .int y4, .int y6]) (rest := []) ⟨hx, hb, hml, hown, hts⟩ (c_X12_meets l (cy := cy) (X := (XO c8 c9 qo qd f9 fd)) (D := D) S8 _ o1 (xe14.A h_o1) y2 y4 y6 (w10.w)) (cwV 3 hts gL_law_X12_meets rfl rfl rfl hd_X12_meets ⟨Nat.le_of_ble_eq_true rfl, Nat.le_of_ble_eq_true rfl⟩) ⟨fun a U g mk q => ⟨q.1, q.2.1, q.2.2.1.calling, NW.same (u := U) (U := U.calling g mk a) rfl q.2.2.2⟩, va_recv hK hP (q := (RX12, TX12, 34)) (ci := 16) (q0 := k16) rfl hk16, fun U hU hW => ⟨rfl, by rw [hU], wd_pre hP hK hD hU hW, hN.warm hW⟩⟩ rfl rfl hl.1 rfl (lv_room (Nat.le_of_ble_eq_true rfl)) dL_law_1263 ⟨by omega, by omega⟩) hS (fun q _ h => hFc q h) hFc (fun r15 u t H1 locs ht hvm hw hB hz1 hk1 hS => ?_)
  obtain ⟨w17, y18⟩ := hw
  obtain ⟨hP, hD⟩ := wd_post hFc ht hB
  generalize H1 = H at hP hS ⊢
  obtain ⟨S19, rfl⟩ : ∃ z, z = u := ⟨_, rfl⟩
  have v20 : IV S19 o1 := IV.keep w17 w10.w (xe14.A h_o1) (by decide) (by decide) v11
  have v21 : MV S19 o1 := MV.keep w17 w10.w (xe14.A h_o1) (by decide) (by decide) v12
  have v22 : (RG o2) S19 o1 := RG.keep w17 w10.w (xe14.A h_o1) (by decide) (by decide) v13
  have xe23 : ext S8 S19 := w17.x
  refine lv_istore (lv' := [(7, .int r15), (6, .int r7), (5, .int i), (4, .ref qd), (3, .ref qo), (2, .ref o1), (1, .ref o2), (0, .ref b)]) hx hb dL_law_1266 hl (by decide) rfl (fun ls hl => ?_)
  refine lv_goto (tgt := 2931) hx hb dL_law_1268 (by decide) ?_
  refine W.widen (k := cells + 40) (n := slots + 1200) (by omega) (by omega) ?_
  exact kk S19 f9 fd H _ ls ⟨hP, hD, w17.w, ((xe14.tr xe23).A h_o2), (xe23.A (xe14.A h_o1)), ((xe14.tr xe23).F h_o1 (by decide) h77), v21, v20, v22⟩ hS (lv_sub hl [2, 3, 4, 5, 6, 7] rfl)
set_option maxHeartbeats 4000000 in
set_option maxRecDepth 100000 in
theorem road_21 {p : Program} {l : Launch} {e : Env} {s : State} {m : MethodId} {below : List Frame} {meth : Method} {c : Code} {b L : Nat} {xs : Nat → Int32} {D : va_G} {cy : Nat → ClassId} {c8 c9 : ClassId} {e0 mi : Nat} {Q : State → Prop} {qo qd o1 o2 : Nat} (C0 : LC p l s m c b L xs D cy c8 c9 e0 mi) (hL9 : L ≤ 2560) {S : wPS} {fo : Nat → Int64} {fd : Nat → UInt64} {H : Heap} {locs : List Loc} {ls : Array Slot} {cells slots : Nat} {i : Int32} (hi : 0 ≤ i.toInt ∧ i.toInt + 5 ≤ L) (hI : LI D cy c8 c9 e0 (fun q => s.heap.size ≤ q) o1 o2 qo qd fo fd S H) (hS : va_S (fun q => s.heap.size ≤ q) s.heap H locs) (hc : cells + 40 ≤ room_1.cells) (hs : slots + 1200 ≤ room_1.slots) (hl : lv_has ls 9 [(5, .int i), (4, .ref qd), (3, .ref qo), (2, .ref o1), (1, .ref o2), (0, .ref b)]) (kk : ∀ (S2 : wPS) (fo2 : Nat → Int64) (fd2 : Nat → UInt64) (H2 : Heap) (locs2 : List Loc) (ls2 : Array Slot), LI D cy c8 c9 e0 (fun q => s.heap.size ≤ q) o1 o2 qo qd fo2 fd2 S2 H2 → va_S (fun q => s.heap.size ≤ q) s.heap H2 locs2 → lv_has ls2 9 [(5, .int i), (4, .ref qd), (3, .ref qo), (2, .ref o1), (1, .ref o2), (0, .ref b)] → W p l e room_1 s m #[Value.ref b] below meth c H2 locs2 (cells + 40) (slots + 1200) Q (F0 m 2931 ls2 [])) : W p l e room_1 s m #[Value.ref b] below meth c H locs cells slots Q (F0 m 1271 ls []) := by
  obtain ⟨hx, hb, hml, hown, hts, hX, hbl, hN, hTH, hOU, hKX, hst, hNC⟩ := id C0
  obtain ⟨hP, hD, hW, h_o2, h_o1, h77, hMV, hIV, hR_RG⟩ := hI
  have hK := kX hKX
  have hA : ∀ q : Nat, s.heap.size ≤ q → (fun q : Nat => s.heap.size ≤ q) q := fun _ h => h
  have hbA : ¬ (fun q : Nat => s.heap.size ≤ q) b := Nat.not_le.mpr hbl
  refine lv_aload_n hx hb dL_law_1271 rfl (lv_at hl 4 rfl) ?_
  refine lv_aload_n hx hb dL_law_1272 rfl (lv_at hl 5 rfl) ?_
  refine lv_iload hx hb dL_law_1273 (lv_at hl 0 rfl) ?_
  refine lv_iconst (v := 1) hx hb dL_law_1275 (by decide) ?_
  refine lv_iadd hx hb dL_law_1276 ?_
  have l32_1 : (1 : Int32).toInt = 1 := rfl
  have i1 : (i + (1 : Int32)).toInt = i.toInt + 1 := t_addr (n := 1) rfl (by omega)
  refine va_sld hx hb hX hbl hbA hS (inb (m := L) rfl (by omega) (by omega)) dL_law_1277 ?_
  obtain ⟨y2, ey2⟩ : ∃ z : Int32, xs (i + (1 : Int32)).toNatClampNeg = z := ⟨_, rfl⟩
  rw [ey2]
  refine lv_aload_n hx hb dL_law_1278 rfl (lv_at hl 5 rfl) ?_
  refine lv_iload hx hb dL_law_1279 (lv_at hl 0 rfl) ?_
  refine lv_iconst (v := 2) hx hb dL_law_1281 (by decide) ?_
  refine lv_iadd hx hb dL_law_1282 ?_
  have l32_2 : (2 : Int32).toInt = 2 := rfl
  have i3 : (i + (2 : Int32)).toInt = i.toInt + 2 := t_addr (n := 2) rfl (by omega)
  refine va_sld hx hb hX hbl hbA hS (inb (m := L) rfl (by omega) (by omega)) dL_law_1283 ?_
  obtain ⟨y4, ey4⟩ : ∃ z : Int32, xs (i + (2 : Int32)).toNatClampNeg = z := ⟨_, rfl⟩
  rw [ey4]
  refine lv_aload_n hx hb dL_law_1284 rfl (lv_at hl 2 rfl) ?_
  have hFc := free_all hD hS hA
  refine va_calli (vx_runSW (As := [.ref o2, .int y2, .int y4, .ref qo]) (rest := []) ⟨hx, hb, hml, hown, hts⟩ (c_L_setMachine l hst (e0 := e0) (mi := mi) (D := D) (cy := cy) (c8 := c8) (c9 := c9) qo qd fo fd S _ o2 h_o2 y2 y4 (hW)) (vx_cwSW 4 hts gL_law_L_setMachine rfl rfl rfl (by decide +kernel) ⟨Nat.le_of_ble_eq_true rfl, Nat.le_of_ble_eq_true rfl⟩) ⟨fun a U g mk q => ⟨q.1, q.2.1, q.2.2.1.calling, NW.same (u := U) (U := U.calling g mk a) rfl q.2.2.2.1, q.2.2.2.2.1.calling, q.2.2.2.2.2.1.calling, q.2.2.2.2.2.2.calling⟩, fun U hU hW => ⟨rfl, by rw [hU], wx_pre hP hKX hD hU hW, hN.warm hW, th_pre hTH hS hFc hU hW, ou_pre hOU hS hFc hU hW, hNC.moved hW.alike⟩⟩ rfl rfl hl.1 rfl (lv_room (Nat.le_of_ble_eq_true rfl)) dL_law_1285 ⟨by omega, by omega⟩) hS (fun q _ h => hFc q h) hFc (fun r5 u t H1 locs ht hvm hw hB hz1 hk1 hS => ?_)
  obtain ⟨S6, f7⟩ := u
  have w8 := hw
  obtain ⟨hP, hD⟩ := wx_post hFc ht hB
  generalize H1 = H at hP hS ⊢
  have w8 : stp [(9, 9), (9, 10)] [] [] S S6 := w8
  have v9 : IV S6 o1 := IV.keep w8 hW h_o1 (by decide) (by decide) hIV
  have v10 : MV S6 o1 := MV.keep w8 hW h_o1 (by decide) (by decide) hMV
  have v11 : (RG o2) S6 o1 := RG.keep w8 hW h_o1 (by decide) (by decide) hR_RG
  have xe12 : ext S S6 := w8.x
  refine lv_istore (lv' := [(6, .int r5), (5, .int i), (4, .ref qd), (3, .ref qo), (2, .ref o1), (1, .ref o2), (0, .ref b)]) hx hb dL_law_1288 hl (by decide) rfl (fun ls hl => ?_)
  refine lv_aload_n hx hb dL_law_1290 rfl (lv_at hl 4 rfl) ?_
  refine lv_aload_n hx hb dL_law_1291 rfl (lv_at hl 6 rfl) ?_
  refine lv_iload hx hb dL_law_1292 (lv_at hl 1 rfl) ?_
  refine lv_iconst (v := 1) hx hb dL_law_1294 (by decide) ?_
  refine lv_iadd hx hb dL_law_1295 ?_
  refine va_sld hx hb hX hbl hbA hS (inb (m := L) rfl (by omega) (by omega)) dL_law_1296 ?_
  rw [ey2]
  refine lv_aload_n hx hb dL_law_1297 rfl (lv_at hl 6 rfl) ?_
  refine lv_iload hx hb dL_law_1298 (lv_at hl 1 rfl) ?_
  refine lv_iconst (v := 2) hx hb dL_law_1300 (by decide) ?_
  refine lv_iadd hx hb dL_law_1301 ?_
  refine va_sld hx hb hX hbl hbA hS (inb (m := L) rfl (by omega) (by omega)) dL_law_1302 ?_
  rw [ey4]
  have hFc := free_all hD hS hA
  obtain ⟨k14, gk14, hk14⟩ := wGt (cy := cy) (XO c8 c9 qo qd f7 fd) S6 (xe12.A h_o1).1 (xe12.A h_o1).2.1
  refine va_calli (va_runV (As := [.int y2, .int y4]) (rest := []) ⟨hx, hb, hml, hown, hts⟩ (c_X12_setMachine l (cy := cy) (X := (XO c8 c9 qo qd f7 fd)) (D := D) S6 _ o1 (xe12.A h_o1) y2 y4 (w8.w)) (cwV 2 hts gL_law_X12_setMachine rfl rfl rfl hd_X12_setMachine ⟨Nat.le_of_ble_eq_true rfl, Nat.le_of_ble_eq_true rfl⟩) ⟨fun a U g mk q => ⟨q.1, q.2.1, q.2.2.1.calling, NW.same (u := U) (U := U.calling g mk a) rfl q.2.2.2⟩, va_recv hK hP (q := (RX12, TX12, 34)) (ci := 16) (q0 := k14) rfl hk14, fun U hU hW => ⟨rfl, by rw [hU], wd_pre hP hK hD hU hW, hN.warm hW⟩⟩ rfl rfl hl.1 rfl (lv_room (Nat.le_of_ble_eq_true rfl)) dL_law_1303 ⟨by omega, by omega⟩) hS (fun q _ h => hFc q h) hFc (fun r13 u t H1 locs ht hvm hw hB hz1 hk1 hS => ?_)
  obtain ⟨c15, w16⟩ := hw
  obtain ⟨hP, hD⟩ := wd_post hFc ht hB
  generalize H1 = H at hP hS ⊢
  obtain ⟨S17, rfl⟩ : ∃ z, z = u := ⟨_, rfl⟩
  have v18 : IV S17 o1 := IV.keep w16 w8.w (xe12.A h_o1) (by decide) (by decide) v9
  have v19 : MV S17 o1 := MV.keep w16 w8.w (xe12.A h_o1) (by decide) (by decide) v10
  have v20 : (RG o2) S17 o1 := RG.keep w16 w8.w (xe12.A h_o1) (by decide) (by decide) v11
  have xe21 : ext S6 S17 := w16.x
  refine lv_istore (lv' := [(7, .int r13), (6, .int r5), (5, .int i), (4, .ref qd), (3, .ref qo), (2, .ref o1), (1, .ref o2), (0, .ref b)]) hx hb dL_law_1306 hl (by decide) rfl (fun ls hl => ?_)
  refine lv_goto (tgt := 2931) hx hb dL_law_1308 (by decide) ?_
  refine W.widen (k := cells + 40) (n := slots + 1200) (by omega) (by omega) ?_
  exact kk S17 f7 fd H _ ls ⟨hP, hD, w16.w, ((xe12.tr xe21).A h_o2), (xe21.A (xe12.A h_o1)), ((xe12.tr xe21).F h_o1 (by decide) h77), v19, v18, v20⟩ hS (lv_sub hl [2, 3, 4, 5, 6, 7] rfl)
set_option maxHeartbeats 4000000 in
set_option maxRecDepth 100000 in
theorem road_22 {p : Program} {l : Launch} {e : Env} {s : State} {m : MethodId} {below : List Frame} {meth : Method} {c : Code} {b L : Nat} {xs : Nat → Int32} {D : va_G} {cy : Nat → ClassId} {c8 c9 : ClassId} {e0 mi : Nat} {Q : State → Prop} {qo qd o1 o2 : Nat} (C0 : LC p l s m c b L xs D cy c8 c9 e0 mi) (hL9 : L ≤ 2560) {S : wPS} {fo : Nat → Int64} {fd : Nat → UInt64} {H : Heap} {locs : List Loc} {ls : Array Slot} {cells slots : Nat} {i : Int32} (hi : 0 ≤ i.toInt ∧ i.toInt + 5 ≤ L) (hI : LI D cy c8 c9 e0 (fun q => s.heap.size ≤ q) o1 o2 qo qd fo fd S H) (hS : va_S (fun q => s.heap.size ≤ q) s.heap H locs) (hc : cells + 40 ≤ room_1.cells) (hs : slots + 1200 ≤ room_1.slots) (hl : lv_has ls 9 [(5, .int i), (4, .ref qd), (3, .ref qo), (2, .ref o1), (1, .ref o2), (0, .ref b)]) (kk : ∀ (S2 : wPS) (fo2 : Nat → Int64) (fd2 : Nat → UInt64) (H2 : Heap) (locs2 : List Loc) (ls2 : Array Slot), LI D cy c8 c9 e0 (fun q => s.heap.size ≤ q) o1 o2 qo qd fo2 fd2 S2 H2 → va_S (fun q => s.heap.size ≤ q) s.heap H2 locs2 → lv_has ls2 9 [(5, .int i), (4, .ref qd), (3, .ref qo), (2, .ref o1), (1, .ref o2), (0, .ref b)] → W p l e room_1 s m #[Value.ref b] below meth c H2 locs2 (cells + 40) (slots + 1200) Q (F0 m 2931 ls2 [])) : W p l e room_1 s m #[Value.ref b] below meth c H locs cells slots Q (F0 m 1311 ls []) := by
  obtain ⟨hx, hb, hml, hown, hts, hX, hbl, hN, hTH, hOU, hKX, hst, hNC⟩ := id C0
  obtain ⟨hP, hD, hW, h_o2, h_o1, h77, hMV, hIV, hR_RG⟩ := hI
  have hK := kX hKX
  have hA : ∀ q : Nat, s.heap.size ≤ q → (fun q : Nat => s.heap.size ≤ q) q := fun _ h => h
  have hbA : ¬ (fun q : Nat => s.heap.size ≤ q) b := Nat.not_le.mpr hbl
  refine lv_aload_n hx hb dL_law_1311 rfl (lv_at hl 4 rfl) ?_
  refine lv_aload_n hx hb dL_law_1312 rfl (lv_at hl 5 rfl) ?_
  refine lv_iload hx hb dL_law_1313 (lv_at hl 0 rfl) ?_
  refine lv_iconst (v := 1) hx hb dL_law_1315 (by decide) ?_
  refine lv_iadd hx hb dL_law_1316 ?_
  have l32_1 : (1 : Int32).toInt = 1 := rfl
  have i1 : (i + (1 : Int32)).toInt = i.toInt + 1 := t_addr (n := 1) rfl (by omega)
  refine va_sld hx hb hX hbl hbA hS (inb (m := L) rfl (by omega) (by omega)) dL_law_1317 ?_
  obtain ⟨y2, ey2⟩ : ∃ z : Int32, xs (i + (1 : Int32)).toNatClampNeg = z := ⟨_, rfl⟩
  rw [ey2]
  refine lv_aload_n hx hb dL_law_1318 rfl (lv_at hl 5 rfl) ?_
  refine lv_iload hx hb dL_law_1319 (lv_at hl 0 rfl) ?_
  refine lv_iconst (v := 2) hx hb dL_law_1321 (by decide) ?_
  refine lv_iadd hx hb dL_law_1322 ?_
  have l32_2 : (2 : Int32).toInt = 2 := rfl
  have i3 : (i + (2 : Int32)).toInt = i.toInt + 2 := t_addr (n := 2) rfl (by omega)
  refine va_sld hx hb hX hbl hbA hS (inb (m := L) rfl (by omega) (by omega)) dL_law_1323 ?_
  obtain ⟨y4, ey4⟩ : ∃ z : Int32, xs (i + (2 : Int32)).toNatClampNeg = z := ⟨_, rfl⟩
  rw [ey4]
  refine lv_aload_n hx hb dL_law_1324 rfl (lv_at hl 5 rfl) ?_
  refine lv_iload hx hb dL_law_1325 (lv_at hl 0 rfl) ?_
  refine lv_iconst (v := 3) hx hb dL_law_1327 (by decide) ?_
  refine lv_iadd hx hb dL_law_1328 ?_
  have l32_3 : (3 : Int32).toInt = 3 := rfl
  have i5 : (i + (3 : Int32)).toInt = i.toInt + 3 := t_addr (n := 3) rfl (by omega)
  refine va_sld hx hb hX hbl hbA hS (inb (m := L) rfl (by omega) (by omega)) dL_law_1329 ?_
  obtain ⟨y6, ey6⟩ : ∃ z : Int32, xs (i + (3 : Int32)).toNatClampNeg = z := ⟨_, rfl⟩
  rw [ey6]
  refine lv_aload_n hx hb dL_law_1330 rfl (lv_at hl 5 rfl) ?_
  refine lv_iload hx hb dL_law_1331 (lv_at hl 0 rfl) ?_
  refine lv_iconst (v := 4) hx hb dL_law_1333 (by decide) ?_
  refine lv_iadd hx hb dL_law_1334 ?_
  have l32_4 : (4 : Int32).toInt = 4 := rfl
  have i7 : (i + (4 : Int32)).toInt = i.toInt + 4 := t_addr (n := 4) rfl (by omega)
  refine va_sld hx hb hX hbl hbA hS (inb (m := L) rfl (by omega) (by omega)) dL_law_1335 ?_
  obtain ⟨y8, ey8⟩ : ∃ z : Int32, xs (i + (4 : Int32)).toNatClampNeg = z := ⟨_, rfl⟩
  rw [ey8]
  refine lv_aload_n hx hb dL_law_1336 rfl (lv_at hl 2 rfl) ?_
  have hFc := free_all hD hS hA
  refine va_calli (vx_runSW (As := [.ref o2, .int y2, .int y4, .int y6, .int y8, .ref qo]) (rest := []) ⟨hx, hb, hml, hown, hts⟩ (c_L_hob l hst (e0 := e0) (mi := mi) (D := D) (cy := cy) (c8 := c8) (c9 := c9) qo qd fo fd S _ o2 h_o2 y2 y4 y6 y8 (hW)) (vx_cwSW 6 hts gL_law_L_hob rfl rfl rfl (by decide +kernel) ⟨Nat.le_of_ble_eq_true rfl, Nat.le_of_ble_eq_true rfl⟩) ⟨fun a U g mk q => ⟨q.1, q.2.1, q.2.2.1.calling, NW.same (u := U) (U := U.calling g mk a) rfl q.2.2.2.1, q.2.2.2.2.1.calling, q.2.2.2.2.2.1.calling, q.2.2.2.2.2.2.calling⟩, fun U hU hW => ⟨rfl, by rw [hU], wx_pre hP hKX hD hU hW, hN.warm hW, th_pre hTH hS hFc hU hW, ou_pre hOU hS hFc hU hW, hNC.moved hW.alike⟩⟩ rfl rfl hl.1 rfl (lv_room (Nat.le_of_ble_eq_true rfl)) dL_law_1337 ⟨by omega, by omega⟩) hS (fun q _ h => hFc q h) hFc (fun r9 u t H1 locs ht hvm hw hB hz1 hk1 hS => ?_)
  obtain ⟨S10, f11⟩ := u
  have w12 := hw
  obtain ⟨hP, hD⟩ := wx_post hFc ht hB
  generalize H1 = H at hP hS ⊢
  have w12 : stp [(9, 3), (20, 101)] [] [] S S10 := w12
  have v13 : IV S10 o1 := IV.keep w12 hW h_o1 (by decide) (by decide) hIV
  have v14 : MV S10 o1 := MV.keep w12 hW h_o1 (by decide) (by decide) hMV
  have v15 : (RG o2) S10 o1 := RG.keep w12 hW h_o1 (by decide) (by decide) hR_RG
  have xe16 : ext S S10 := w12.x
  refine lv_istore (lv' := [(6, .int r9), (5, .int i), (4, .ref qd), (3, .ref qo), (2, .ref o1), (1, .ref o2), (0, .ref b)]) hx hb dL_law_1340 hl (by decide) rfl (fun ls hl => ?_)
  refine lv_aload_n hx hb dL_law_1342 rfl (lv_at hl 4 rfl) ?_
  refine lv_aload_n hx hb dL_law_1343 rfl (lv_at hl 6 rfl) ?_
  refine lv_iload hx hb dL_law_1344 (lv_at hl 1 rfl) ?_
  refine lv_iconst (v := 1) hx hb dL_law_1346 (by decide) ?_
  refine lv_iadd hx hb dL_law_1347 ?_
  refine va_sld hx hb hX hbl hbA hS (inb (m := L) rfl (by omega) (by omega)) dL_law_1348 ?_
  rw [ey2]
  refine lv_aload_n hx hb dL_law_1349 rfl (lv_at hl 6 rfl) ?_
  refine lv_iload hx hb dL_law_1350 (lv_at hl 1 rfl) ?_
  refine lv_iconst (v := 2) hx hb dL_law_1352 (by decide) ?_
  refine lv_iadd hx hb dL_law_1353 ?_
  refine va_sld hx hb hX hbl hbA hS (inb (m := L) rfl (by omega) (by omega)) dL_law_1354 ?_
  rw [ey4]
  refine lv_aload_n hx hb dL_law_1355 rfl (lv_at hl 6 rfl) ?_
  refine lv_iload hx hb dL_law_1356 (lv_at hl 1 rfl) ?_
  refine lv_iconst (v := 3) hx hb dL_law_1358 (by decide) ?_
  refine lv_iadd hx hb dL_law_1359 ?_
  refine va_sld hx hb hX hbl hbA hS (inb (m := L) rfl (by omega) (by omega)) dL_law_1360 ?_
  rw [ey6]
  refine lv_aload_n hx hb dL_law_1361 rfl (lv_at hl 6 rfl) ?_
  refine lv_iload hx hb dL_law_1362 (lv_at hl 1 rfl) ?_
  refine lv_iconst (v := 4) hx hb dL_law_1364 (by decide) ?_
  refine lv_iadd hx hb dL_law_1365 ?_
  refine va_sld hx hb hX hbl hbA hS (inb (m := L) rfl (by omega) (by omega)) dL_law_1366 ?_
  rw [ey8]
  have hFc := free_all hD hS hA
  obtain ⟨k18, gk18, hk18⟩ := wGt (cy := cy) (XO c8 c9 qo qd f11 fd) S10 (xe16.A h_o1).1 (xe16.A h_o1).2.1
  refine va_calli (va_runV (As := [.int y2, .int y4, .int y6, .int y8]) (rest := []) ⟨hx, hb, hml, hown, hts⟩ (c_X12_hob l (e0 := e0) (mi := mi) (cy := cy) (X := (XO c8 c9 qo qd f11 fd)) (D := D) S10 _ o1 (xe16.A h_o1) y2 y4 y6 y8 (w12.w) (xe16.F h_o1 (by decide) h77)) (cwV 4 hts gL_law_X12_hob rfl rfl rfl hd_X12_hob ⟨Nat.le_of_ble_eq_true rfl, Nat.le_of_ble_eq_true rfl⟩) ⟨fun a U g mk q => ⟨q.1, q.2.1, q.2.2.1.calling, NW.same (u := U) (U := U.calling g mk a) rfl q.2.2.2.1, q.2.2.2.2.calling⟩, va_recv hK hP (q := (RX12, TX12, 34)) (ci := 16) (q0 := k18) rfl hk18, fun U hU hW => ⟨rfl, by rw [hU], wd_pre hP hK hD hU hW, hN.warm hW, ou_pre hOU hS hFc hU hW⟩⟩ rfl rfl hl.1 rfl (lv_room (Nat.le_of_ble_eq_true rfl)) dL_law_1367 ⟨by omega, by omega⟩) hS (fun q _ h => hFc q h) hFc (fun r17 u t H1 locs ht hvm hw hB hz1 hk1 hS => ?_)
  obtain ⟨w19, y20, y21, y22⟩ := hw
  obtain ⟨hP, hD⟩ := wd_post hFc ht hB
  generalize H1 = H at hP hS ⊢
  obtain ⟨S23, rfl⟩ : ∃ z, z = u := ⟨_, rfl⟩
  have v24 : IV S23 o1 := IV.keep w19 w12.w (xe16.A h_o1) (by decide) (by decide) v13
  have v25 : MV S23 o1 := MV.keep w19 w12.w (xe16.A h_o1) (by decide) (by decide) v14
  have v26 : (RG o2) S23 o1 := RG.keep w19 w12.w (xe16.A h_o1) (by decide) (by decide) v15
  have xe27 : ext S10 S23 := w19.x
  refine lv_istore (lv' := [(7, .int r17), (6, .int r9), (5, .int i), (4, .ref qd), (3, .ref qo), (2, .ref o1), (1, .ref o2), (0, .ref b)]) hx hb dL_law_1370 hl (by decide) rfl (fun ls hl => ?_)
  refine lv_goto (tgt := 2931) hx hb dL_law_1372 (by decide) ?_
  refine W.widen (k := cells + 40) (n := slots + 1200) (by omega) (by omega) ?_
  exact kk S23 f11 fd H _ ls ⟨hP, hD, w19.w, ((xe16.tr xe27).A h_o2), (xe27.A (xe16.A h_o1)), ((xe16.tr xe27).F h_o1 (by decide) h77), v25, v24, v26⟩ hS (lv_sub hl [2, 3, 4, 5, 6, 7] rfl)
set_option maxHeartbeats 4000000 in
set_option maxRecDepth 100000 in
theorem road_23 {p : Program} {l : Launch} {e : Env} {s : State} {m : MethodId} {below : List Frame} {meth : Method} {c : Code} {b L : Nat} {xs : Nat → Int32} {D : va_G} {cy : Nat → ClassId} {c8 c9 : ClassId} {e0 mi : Nat} {Q : State → Prop} {qo qd o1 o2 : Nat} (C0 : LC p l s m c b L xs D cy c8 c9 e0 mi) (hL9 : L ≤ 2560) {S : wPS} {fo : Nat → Int64} {fd : Nat → UInt64} {H : Heap} {locs : List Loc} {ls : Array Slot} {cells slots : Nat} {i : Int32} (hi : 0 ≤ i.toInt ∧ i.toInt + 5 ≤ L) (hI : LI D cy c8 c9 e0 (fun q => s.heap.size ≤ q) o1 o2 qo qd fo fd S H) (hS : va_S (fun q => s.heap.size ≤ q) s.heap H locs) (hc : cells + 40 ≤ room_1.cells) (hs : slots + 1200 ≤ room_1.slots) (hl : lv_has ls 9 [(5, .int i), (4, .ref qd), (3, .ref qo), (2, .ref o1), (1, .ref o2), (0, .ref b)]) (kk : ∀ (S2 : wPS) (fo2 : Nat → Int64) (fd2 : Nat → UInt64) (H2 : Heap) (locs2 : List Loc) (ls2 : Array Slot), LI D cy c8 c9 e0 (fun q => s.heap.size ≤ q) o1 o2 qo qd fo2 fd2 S2 H2 → va_S (fun q => s.heap.size ≤ q) s.heap H2 locs2 → lv_has ls2 9 [(5, .int i), (4, .ref qd), (3, .ref qo), (2, .ref o1), (1, .ref o2), (0, .ref b)] → W p l e room_1 s m #[Value.ref b] below meth c H2 locs2 (cells + 40) (slots + 1200) Q (F0 m 2931 ls2 [])) : W p l e room_1 s m #[Value.ref b] below meth c H locs cells slots Q (F0 m 1375 ls []) := by
  obtain ⟨hx, hb, hml, hown, hts, hX, hbl, hN, hTH, hOU, hKX, hst, hNC⟩ := id C0
  obtain ⟨hP, hD, hW, h_o2, h_o1, h77, hMV, hIV, hR_RG⟩ := hI
  have hK := kX hKX
  have hA : ∀ q : Nat, s.heap.size ≤ q → (fun q : Nat => s.heap.size ≤ q) q := fun _ h => h
  have hbA : ¬ (fun q : Nat => s.heap.size ≤ q) b := Nat.not_le.mpr hbl
  refine lv_aload_n hx hb dL_law_1375 rfl (lv_at hl 4 rfl) ?_
  refine lv_aload_n hx hb dL_law_1376 rfl (lv_at hl 5 rfl) ?_
  refine lv_iload hx hb dL_law_1377 (lv_at hl 0 rfl) ?_
  refine lv_iconst (v := 1) hx hb dL_law_1379 (by decide) ?_
  refine lv_iadd hx hb dL_law_1380 ?_
  have l32_1 : (1 : Int32).toInt = 1 := rfl
  have i1 : (i + (1 : Int32)).toInt = i.toInt + 1 := t_addr (n := 1) rfl (by omega)
  refine va_sld hx hb hX hbl hbA hS (inb (m := L) rfl (by omega) (by omega)) dL_law_1381 ?_
  obtain ⟨y2, ey2⟩ : ∃ z : Int32, xs (i + (1 : Int32)).toNatClampNeg = z := ⟨_, rfl⟩
  rw [ey2]
  refine lv_aload_n hx hb dL_law_1382 rfl (lv_at hl 5 rfl) ?_
  refine lv_iload hx hb dL_law_1383 (lv_at hl 0 rfl) ?_
  refine lv_iconst (v := 2) hx hb dL_law_1385 (by decide) ?_
  refine lv_iadd hx hb dL_law_1386 ?_
  have l32_2 : (2 : Int32).toInt = 2 := rfl
  have i3 : (i + (2 : Int32)).toInt = i.toInt + 2 := t_addr (n := 2) rfl (by omega)
  refine va_sld hx hb hX hbl hbA hS (inb (m := L) rfl (by omega) (by omega)) dL_law_1387 ?_
  obtain ⟨y4, ey4⟩ : ∃ z : Int32, xs (i + (2 : Int32)).toNatClampNeg = z := ⟨_, rfl⟩
  rw [ey4]
  refine lv_aload_n hx hb dL_law_1388 rfl (lv_at hl 5 rfl) ?_
  refine lv_iload hx hb dL_law_1389 (lv_at hl 0 rfl) ?_
  refine lv_iconst (v := 3) hx hb dL_law_1391 (by decide) ?_
  refine lv_iadd hx hb dL_law_1392 ?_
  have l32_3 : (3 : Int32).toInt = 3 := rfl
  have i5 : (i + (3 : Int32)).toInt = i.toInt + 3 := t_addr (n := 3) rfl (by omega)
  refine va_sld hx hb hX hbl hbA hS (inb (m := L) rfl (by omega) (by omega)) dL_law_1393 ?_
  obtain ⟨y6, ey6⟩ : ∃ z : Int32, xs (i + (3 : Int32)).toNatClampNeg = z := ⟨_, rfl⟩
  rw [ey6]
  refine lv_aload_n hx hb dL_law_1394 rfl (lv_at hl 2 rfl) ?_
  have hFc := free_all hD hS hA
  refine va_calli (vx_runSW (As := [.ref o2, .int y2, .int y4, .int y6, .ref qo]) (rest := []) ⟨hx, hb, hml, hown, hts⟩ (c_L_indexes l hst (e0 := e0) (mi := mi) (D := D) (cy := cy) (c8 := c8) (c9 := c9) qo qd fo fd S _ o2 h_o2 y2 y4 y6 (hW)) (vx_cwSW 5 hts gL_law_L_indexes rfl rfl rfl (by decide +kernel) ⟨Nat.le_of_ble_eq_true rfl, Nat.le_of_ble_eq_true rfl⟩) ⟨fun a U g mk q => ⟨q.1, q.2.1, q.2.2.1.calling, NW.same (u := U) (U := U.calling g mk a) rfl q.2.2.2.1, q.2.2.2.2.1.calling, q.2.2.2.2.2.1.calling, q.2.2.2.2.2.2.calling⟩, fun U hU hW => ⟨rfl, by rw [hU], wx_pre hP hKX hD hU hW, hN.warm hW, th_pre hTH hS hFc hU hW, ou_pre hOU hS hFc hU hW, hNC.moved hW.alike⟩⟩ rfl rfl hl.1 rfl (lv_room (Nat.le_of_ble_eq_true rfl)) dL_law_1395 ⟨by omega, by omega⟩) hS (fun q _ h => hFc q h) hFc (fun r7 u t H1 locs ht hvm hw hB hz1 hk1 hS => ?_)
  obtain ⟨S8, f9⟩ := u
  have w10 := hw
  obtain ⟨hP, hD⟩ := wx_post hFc ht hB
  generalize H1 = H at hP hS ⊢
  have w10 : stp [(0, 3), (0, 4), (0, 5), (0, 6), (17, 100)] [] [] S S8 := w10
  have v11 : IV S8 o1 := IV.keep w10 hW h_o1 (by decide) (by decide) hIV
  have v12 : MV S8 o1 := MV.keep w10 hW h_o1 (by decide) (by decide) hMV
  have v13 : (RG o2) S8 o1 := RG.keep w10 hW h_o1 (by decide) (by decide) hR_RG
  have xe14 : ext S S8 := w10.x
  refine lv_istore (lv' := [(6, .int r7), (5, .int i), (4, .ref qd), (3, .ref qo), (2, .ref o1), (1, .ref o2), (0, .ref b)]) hx hb dL_law_1398 hl (by decide) rfl (fun ls hl => ?_)
  refine lv_aload_n hx hb dL_law_1400 rfl (lv_at hl 4 rfl) ?_
  refine lv_aload_n hx hb dL_law_1401 rfl (lv_at hl 6 rfl) ?_
  refine lv_iload hx hb dL_law_1402 (lv_at hl 1 rfl) ?_
  refine lv_iconst (v := 1) hx hb dL_law_1404 (by decide) ?_
  refine lv_iadd hx hb dL_law_1405 ?_
  refine va_sld hx hb hX hbl hbA hS (inb (m := L) rfl (by omega) (by omega)) dL_law_1406 ?_
  rw [ey2]
  refine lv_aload_n hx hb dL_law_1407 rfl (lv_at hl 6 rfl) ?_
  refine lv_iload hx hb dL_law_1408 (lv_at hl 1 rfl) ?_
  refine lv_iconst (v := 2) hx hb dL_law_1410 (by decide) ?_
  refine lv_iadd hx hb dL_law_1411 ?_
  refine va_sld hx hb hX hbl hbA hS (inb (m := L) rfl (by omega) (by omega)) dL_law_1412 ?_
  rw [ey4]
  refine lv_aload_n hx hb dL_law_1413 rfl (lv_at hl 6 rfl) ?_
  refine lv_iload hx hb dL_law_1414 (lv_at hl 1 rfl) ?_
  refine lv_iconst (v := 3) hx hb dL_law_1416 (by decide) ?_
  refine lv_iadd hx hb dL_law_1417 ?_
  refine va_sld hx hb hX hbl hbA hS (inb (m := L) rfl (by omega) (by omega)) dL_law_1418 ?_
  rw [ey6]
  have hFc := free_all hD hS hA
  obtain ⟨k16, gk16, hk16⟩ := wGt (cy := cy) (XO c8 c9 qo qd f9 fd) S8 (xe14.A h_o1).1 (xe14.A h_o1).2.1
  refine va_calli (va_runV (As := [.int y2, .int y4, .int y6]) (rest := []) ⟨hx, hb, hml, hown, hts⟩ (c_X12_indexes l (cy := cy) (X := (XO c8 c9 qo qd f9 fd)) (D := D) S8 _ o1 (xe14.A h_o1) y2 y4 y6 (w10.w)) (cwV 3 hts gL_law_X12_indexes rfl rfl rfl hd_X12_indexes ⟨Nat.le_of_ble_eq_true rfl, Nat.le_of_ble_eq_true rfl⟩) ⟨fun a U g mk q => ⟨q.1, q.2.1, q.2.2.1.calling, NW.same (u := U) (U := U.calling g mk a) rfl q.2.2.2⟩, va_recv hK hP (q := (RX12, TX12, 34)) (ci := 16) (q0 := k16) rfl hk16, fun U hU hW => ⟨rfl, by rw [hU], wd_pre hP hK hD hU hW, hN.warm hW⟩⟩ rfl rfl hl.1 rfl (lv_room (Nat.le_of_ble_eq_true rfl)) dL_law_1419 ⟨by omega, by omega⟩) hS (fun q _ h => hFc q h) hFc (fun r15 u t H1 locs ht hvm hw hB hz1 hk1 hS => ?_)
  obtain ⟨w17, y18⟩ := hw
  obtain ⟨hP, hD⟩ := wd_post hFc ht hB
  generalize H1 = H at hP hS ⊢
  obtain ⟨S19, rfl⟩ : ∃ z, z = u := ⟨_, rfl⟩
  have v20 : IV S19 o1 := IV.keep w17 w10.w (xe14.A h_o1) (by decide) (by decide) v11
  have v21 : MV S19 o1 := MV.keep w17 w10.w (xe14.A h_o1) (by decide) (by decide) v12
  have v22 : (RG o2) S19 o1 := RG.keep w17 w10.w (xe14.A h_o1) (by decide) (by decide) v13
  have xe23 : ext S8 S19 := w17.x
  refine lv_istore (lv' := [(7, .int r15), (6, .int r7), (5, .int i), (4, .ref qd), (3, .ref qo), (2, .ref o1), (1, .ref o2), (0, .ref b)]) hx hb dL_law_1422 hl (by decide) rfl (fun ls hl => ?_)
  refine lv_goto (tgt := 2931) hx hb dL_law_1424 (by decide) ?_
  refine W.widen (k := cells + 40) (n := slots + 1200) (by omega) (by omega) ?_
  exact kk S19 f9 fd H _ ls ⟨hP, hD, w17.w, ((xe14.tr xe23).A h_o2), (xe23.A (xe14.A h_o1)), ((xe14.tr xe23).F h_o1 (by decide) h77), v21, v20, v22⟩ hS (lv_sub hl [2, 3, 4, 5, 6, 7] rfl)
set_option maxHeartbeats 4000000 in
set_option maxRecDepth 100000 in
theorem road_24 {p : Program} {l : Launch} {e : Env} {s : State} {m : MethodId} {below : List Frame} {meth : Method} {c : Code} {b L : Nat} {xs : Nat → Int32} {D : va_G} {cy : Nat → ClassId} {c8 c9 : ClassId} {e0 mi : Nat} {Q : State → Prop} {qo qd o1 o2 : Nat} (C0 : LC p l s m c b L xs D cy c8 c9 e0 mi) (hL9 : L ≤ 2560) {S : wPS} {fo : Nat → Int64} {fd : Nat → UInt64} {H : Heap} {locs : List Loc} {ls : Array Slot} {cells slots : Nat} {i : Int32} (hi : 0 ≤ i.toInt ∧ i.toInt + 5 ≤ L) (hI : LI D cy c8 c9 e0 (fun q => s.heap.size ≤ q) o1 o2 qo qd fo fd S H) (hS : va_S (fun q => s.heap.size ≤ q) s.heap H locs) (hc : cells + 40 ≤ room_1.cells) (hs : slots + 1200 ≤ room_1.slots) (hl : lv_has ls 9 [(5, .int i), (4, .ref qd), (3, .ref qo), (2, .ref o1), (1, .ref o2), (0, .ref b)]) (kk : ∀ (S2 : wPS) (fo2 : Nat → Int64) (fd2 : Nat → UInt64) (H2 : Heap) (locs2 : List Loc) (ls2 : Array Slot), LI D cy c8 c9 e0 (fun q => s.heap.size ≤ q) o1 o2 qo qd fo2 fd2 S2 H2 → va_S (fun q => s.heap.size ≤ q) s.heap H2 locs2 → lv_has ls2 9 [(5, .int i), (4, .ref qd), (3, .ref qo), (2, .ref o1), (1, .ref o2), (0, .ref b)] → W p l e room_1 s m #[Value.ref b] below meth c H2 locs2 (cells + 40) (slots + 1200) Q (F0 m 2931 ls2 [])) : W p l e room_1 s m #[Value.ref b] below meth c H locs cells slots Q (F0 m 1427 ls []) := by
  obtain ⟨hx, hb, hml, hown, hts, hX, hbl, hN, hTH, hOU, hKX, hst, hNC⟩ := id C0
  obtain ⟨hP, hD, hW, h_o2, h_o1, h77, hMV, hIV, hR_RG⟩ := hI
  have hK := kX hKX
  have hA : ∀ q : Nat, s.heap.size ≤ q → (fun q : Nat => s.heap.size ≤ q) q := fun _ h => h
  have hbA : ¬ (fun q : Nat => s.heap.size ≤ q) b := Nat.not_le.mpr hbl
  refine lv_aload_n hx hb dL_law_1427 rfl (lv_at hl 4 rfl) ?_
  refine lv_aload_n hx hb dL_law_1428 rfl (lv_at hl 5 rfl) ?_
  refine lv_iload hx hb dL_law_1429 (lv_at hl 0 rfl) ?_
  refine lv_iconst (v := 1) hx hb dL_law_1431 (by decide) ?_
  refine lv_iadd hx hb dL_law_1432 ?_
  have l32_1 : (1 : Int32).toInt = 1 := rfl
  have i1 : (i + (1 : Int32)).toInt = i.toInt + 1 := t_addr (n := 1) rfl (by omega)
  refine va_sld hx hb hX hbl hbA hS (inb (m := L) rfl (by omega) (by omega)) dL_law_1433 ?_
  obtain ⟨y2, ey2⟩ : ∃ z : Int32, xs (i + (1 : Int32)).toNatClampNeg = z := ⟨_, rfl⟩
  rw [ey2]
  refine lv_aload_n hx hb dL_law_1434 rfl (lv_at hl 5 rfl) ?_
  refine lv_iload hx hb dL_law_1435 (lv_at hl 0 rfl) ?_
  refine lv_iconst (v := 2) hx hb dL_law_1437 (by decide) ?_
  refine lv_iadd hx hb dL_law_1438 ?_
  have l32_2 : (2 : Int32).toInt = 2 := rfl
  have i3 : (i + (2 : Int32)).toInt = i.toInt + 2 := t_addr (n := 2) rfl (by omega)
  refine va_sld hx hb hX hbl hbA hS (inb (m := L) rfl (by omega) (by omega)) dL_law_1439 ?_
  obtain ⟨y4, ey4⟩ : ∃ z : Int32, xs (i + (2 : Int32)).toNatClampNeg = z := ⟨_, rfl⟩
  rw [ey4]
  refine lv_aload_n hx hb dL_law_1440 rfl (lv_at hl 5 rfl) ?_
  refine lv_iload hx hb dL_law_1441 (lv_at hl 0 rfl) ?_
  refine lv_iconst (v := 3) hx hb dL_law_1443 (by decide) ?_
  refine lv_iadd hx hb dL_law_1444 ?_
  have l32_3 : (3 : Int32).toInt = 3 := rfl
  have i5 : (i + (3 : Int32)).toInt = i.toInt + 3 := t_addr (n := 3) rfl (by omega)
  refine va_sld hx hb hX hbl hbA hS (inb (m := L) rfl (by omega) (by omega)) dL_law_1445 ?_
  obtain ⟨y6, ey6⟩ : ∃ z : Int32, xs (i + (3 : Int32)).toNatClampNeg = z := ⟨_, rfl⟩
  rw [ey6]
  refine lv_aload_n hx hb dL_law_1446 rfl (lv_at hl 2 rfl) ?_
  have hFc := free_all hD hS hA
  refine va_calli (vx_runSW (As := [.ref o2, .int y2, .int y4, .int y6, .ref qo]) (rest := []) ⟨hx, hb, hml, hown, hts⟩ (c_L_differs l hst (e0 := e0) (mi := mi) (D := D) (cy := cy) (c8 := c8) (c9 := c9) qo qd fo fd S _ o2 h_o2 y2 y4 y6 (hW)) (vx_cwSW 5 hts gL_law_L_differs rfl rfl rfl (by decide +kernel) ⟨Nat.le_of_ble_eq_true rfl, Nat.le_of_ble_eq_true rfl⟩) ⟨fun a U g mk q => ⟨q.1, q.2.1, q.2.2.1.calling, NW.same (u := U) (U := U.calling g mk a) rfl q.2.2.2.1, q.2.2.2.2.1.calling, q.2.2.2.2.2.1.calling, q.2.2.2.2.2.2.calling⟩, fun U hU hW => ⟨rfl, by rw [hU], wx_pre hP hKX hD hU hW, hN.warm hW, th_pre hTH hS hFc hU hW, ou_pre hOU hS hFc hU hW, hNC.moved hW.alike⟩⟩ rfl rfl hl.1 rfl (lv_room (Nat.le_of_ble_eq_true rfl)) dL_law_1447 ⟨by omega, by omega⟩) hS (fun q _ h => hFc q h) hFc (fun r7 u t H1 locs ht hvm hw hB hz1 hk1 hS => ?_)
  obtain ⟨S8, f9⟩ := u
  have w10 := hw
  obtain ⟨hP, hD⟩ := wx_post hFc ht hB
  generalize H1 = H at hP hS ⊢
  have w10 : stp [(0, 3), (0, 4), (0, 5), (0, 6), (17, 100)] [] [] S S8 := w10
  have v11 : IV S8 o1 := IV.keep w10 hW h_o1 (by decide) (by decide) hIV
  have v12 : MV S8 o1 := MV.keep w10 hW h_o1 (by decide) (by decide) hMV
  have v13 : (RG o2) S8 o1 := RG.keep w10 hW h_o1 (by decide) (by decide) hR_RG
  have xe14 : ext S S8 := w10.x
  refine lv_istore (lv' := [(6, .int r7), (5, .int i), (4, .ref qd), (3, .ref qo), (2, .ref o1), (1, .ref o2), (0, .ref b)]) hx hb dL_law_1450 hl (by decide) rfl (fun ls hl => ?_)
  refine lv_aload_n hx hb dL_law_1452 rfl (lv_at hl 4 rfl) ?_
  refine lv_aload_n hx hb dL_law_1453 rfl (lv_at hl 6 rfl) ?_
  refine lv_iload hx hb dL_law_1454 (lv_at hl 1 rfl) ?_
  refine lv_iconst (v := 1) hx hb dL_law_1456 (by decide) ?_
  refine lv_iadd hx hb dL_law_1457 ?_
  refine va_sld hx hb hX hbl hbA hS (inb (m := L) rfl (by omega) (by omega)) dL_law_1458 ?_
  rw [ey2]
  refine lv_aload_n hx hb dL_law_1459 rfl (lv_at hl 6 rfl) ?_
  refine lv_iload hx hb dL_law_1460 (lv_at hl 1 rfl) ?_
  refine lv_iconst (v := 2) hx hb dL_law_1462 (by decide) ?_
  refine lv_iadd hx hb dL_law_1463 ?_
  refine va_sld hx hb hX hbl hbA hS (inb (m := L) rfl (by omega) (by omega)) dL_law_1464 ?_
  rw [ey4]
  refine lv_aload_n hx hb dL_law_1465 rfl (lv_at hl 6 rfl) ?_
  refine lv_iload hx hb dL_law_1466 (lv_at hl 1 rfl) ?_
  refine lv_iconst (v := 3) hx hb dL_law_1468 (by decide) ?_
  refine lv_iadd hx hb dL_law_1469 ?_
  refine va_sld hx hb hX hbl hbA hS (inb (m := L) rfl (by omega) (by omega)) dL_law_1470 ?_
  rw [ey6]
  have hFc := free_all hD hS hA
  obtain ⟨k16, gk16, hk16⟩ := wGt (cy := cy) (XO c8 c9 qo qd f9 fd) S8 (xe14.A h_o1).1 (xe14.A h_o1).2.1
  refine va_calli (va_runV (As := [.int y2, .int y4, .int y6]) (rest := []) ⟨hx, hb, hml, hown, hts⟩ (c_X12_differs l (cy := cy) (X := (XO c8 c9 qo qd f9 fd)) (D := D) S8 _ o1 (xe14.A h_o1) y2 y4 y6 (w10.w)) (cwV 3 hts gL_law_X12_differs rfl rfl rfl hd_X12_differs ⟨Nat.le_of_ble_eq_true rfl, Nat.le_of_ble_eq_true rfl⟩) ⟨fun a U g mk q => ⟨q.1, q.2.1, q.2.2.1.calling, NW.same (u := U) (U := U.calling g mk a) rfl q.2.2.2⟩, va_recv hK hP (q := (RX12, TX12, 34)) (ci := 16) (q0 := k16) rfl hk16, fun U hU hW => ⟨rfl, by rw [hU], wd_pre hP hK hD hU hW, hN.warm hW⟩⟩ rfl rfl hl.1 rfl (lv_room (Nat.le_of_ble_eq_true rfl)) dL_law_1471 ⟨by omega, by omega⟩) hS (fun q _ h => hFc q h) hFc (fun r15 u t H1 locs ht hvm hw hB hz1 hk1 hS => ?_)
  obtain ⟨w17, y18⟩ := hw
  obtain ⟨hP, hD⟩ := wd_post hFc ht hB
  generalize H1 = H at hP hS ⊢
  obtain ⟨S19, rfl⟩ : ∃ z, z = u := ⟨_, rfl⟩
  have v20 : IV S19 o1 := IV.keep w17 w10.w (xe14.A h_o1) (by decide) (by decide) v11
  have v21 : MV S19 o1 := MV.keep w17 w10.w (xe14.A h_o1) (by decide) (by decide) v12
  have v22 : (RG o2) S19 o1 := RG.keep w17 w10.w (xe14.A h_o1) (by decide) (by decide) v13
  have xe23 : ext S8 S19 := w17.x
  refine lv_istore (lv' := [(7, .int r15), (6, .int r7), (5, .int i), (4, .ref qd), (3, .ref qo), (2, .ref o1), (1, .ref o2), (0, .ref b)]) hx hb dL_law_1474 hl (by decide) rfl (fun ls hl => ?_)
  refine lv_goto (tgt := 2931) hx hb dL_law_1476 (by decide) ?_
  refine W.widen (k := cells + 40) (n := slots + 1200) (by omega) (by omega) ?_
  exact kk S19 f9 fd H _ ls ⟨hP, hD, w17.w, ((xe14.tr xe23).A h_o2), (xe23.A (xe14.A h_o1)), ((xe14.tr xe23).F h_o1 (by decide) h77), v21, v20, v22⟩ hS (lv_sub hl [2, 3, 4, 5, 6, 7] rfl)
set_option maxHeartbeats 4000000 in
set_option maxRecDepth 100000 in
theorem road_25 {p : Program} {l : Launch} {e : Env} {s : State} {m : MethodId} {below : List Frame} {meth : Method} {c : Code} {b L : Nat} {xs : Nat → Int32} {D : va_G} {cy : Nat → ClassId} {c8 c9 : ClassId} {e0 mi : Nat} {Q : State → Prop} {qo qd o1 o2 : Nat} (C0 : LC p l s m c b L xs D cy c8 c9 e0 mi) (hL9 : L ≤ 2560) {S : wPS} {fo : Nat → Int64} {fd : Nat → UInt64} {H : Heap} {locs : List Loc} {ls : Array Slot} {cells slots : Nat} {i : Int32} (hi : 0 ≤ i.toInt ∧ i.toInt + 5 ≤ L) (hI : LI D cy c8 c9 e0 (fun q => s.heap.size ≤ q) o1 o2 qo qd fo fd S H) (hS : va_S (fun q => s.heap.size ≤ q) s.heap H locs) (hc : cells + 40 ≤ room_1.cells) (hs : slots + 1200 ≤ room_1.slots) (hl : lv_has ls 9 [(5, .int i), (4, .ref qd), (3, .ref qo), (2, .ref o1), (1, .ref o2), (0, .ref b)]) (kk : ∀ (S2 : wPS) (fo2 : Nat → Int64) (fd2 : Nat → UInt64) (H2 : Heap) (locs2 : List Loc) (ls2 : Array Slot), LI D cy c8 c9 e0 (fun q => s.heap.size ≤ q) o1 o2 qo qd fo2 fd2 S2 H2 → va_S (fun q => s.heap.size ≤ q) s.heap H2 locs2 → lv_has ls2 9 [(5, .int i), (4, .ref qd), (3, .ref qo), (2, .ref o1), (1, .ref o2), (0, .ref b)] → W p l e room_1 s m #[Value.ref b] below meth c H2 locs2 (cells + 40) (slots + 1200) Q (F0 m 2931 ls2 [])) : W p l e room_1 s m #[Value.ref b] below meth c H locs cells slots Q (F0 m 1479 ls []) := by
  obtain ⟨hx, hb, hml, hown, hts, hX, hbl, hN, hTH, hOU, hKX, hst, hNC⟩ := id C0
  obtain ⟨hP, hD, hW, h_o2, h_o1, h77, hMV, hIV, hR_RG⟩ := hI
  have hK := kX hKX
  have hA : ∀ q : Nat, s.heap.size ≤ q → (fun q : Nat => s.heap.size ≤ q) q := fun _ h => h
  have hbA : ¬ (fun q : Nat => s.heap.size ≤ q) b := Nat.not_le.mpr hbl
  refine lv_aload_n hx hb dL_law_1479 rfl (lv_at hl 4 rfl) ?_
  refine lv_aload_n hx hb dL_law_1480 rfl (lv_at hl 5 rfl) ?_
  refine lv_iload hx hb dL_law_1481 (lv_at hl 0 rfl) ?_
  refine lv_iconst (v := 1) hx hb dL_law_1483 (by decide) ?_
  refine lv_iadd hx hb dL_law_1484 ?_
  have l32_1 : (1 : Int32).toInt = 1 := rfl
  have i1 : (i + (1 : Int32)).toInt = i.toInt + 1 := t_addr (n := 1) rfl (by omega)
  refine va_sld hx hb hX hbl hbA hS (inb (m := L) rfl (by omega) (by omega)) dL_law_1485 ?_
  obtain ⟨y2, ey2⟩ : ∃ z : Int32, xs (i + (1 : Int32)).toNatClampNeg = z := ⟨_, rfl⟩
  rw [ey2]
  refine lv_aload_n hx hb dL_law_1486 rfl (lv_at hl 5 rfl) ?_
  refine lv_iload hx hb dL_law_1487 (lv_at hl 0 rfl) ?_
  refine lv_iconst (v := 2) hx hb dL_law_1489 (by decide) ?_
  refine lv_iadd hx hb dL_law_1490 ?_
  have l32_2 : (2 : Int32).toInt = 2 := rfl
  have i3 : (i + (2 : Int32)).toInt = i.toInt + 2 := t_addr (n := 2) rfl (by omega)
  refine va_sld hx hb hX hbl hbA hS (inb (m := L) rfl (by omega) (by omega)) dL_law_1491 ?_
  obtain ⟨y4, ey4⟩ : ∃ z : Int32, xs (i + (2 : Int32)).toNatClampNeg = z := ⟨_, rfl⟩
  rw [ey4]
  refine lv_aload_n hx hb dL_law_1492 rfl (lv_at hl 2 rfl) ?_
  have hFc := free_all hD hS hA
  refine va_calli (vx_runSW (As := [.ref o2, .int y2, .int y4, .ref qo]) (rest := []) ⟨hx, hb, hml, hown, hts⟩ (c_L_shoulder l hst (e0 := e0) (mi := mi) (D := D) (cy := cy) (c8 := c8) (c9 := c9) qo qd fo fd S _ o2 h_o2 y2 y4 (hW)) (vx_cwSW 4 hts gL_law_L_shoulder rfl rfl rfl (by decide +kernel) ⟨Nat.le_of_ble_eq_true rfl, Nat.le_of_ble_eq_true rfl⟩) ⟨fun a U g mk q => ⟨q.1, q.2.1, q.2.2.1.calling, NW.same (u := U) (U := U.calling g mk a) rfl q.2.2.2.1, q.2.2.2.2.1.calling, q.2.2.2.2.2.1.calling, q.2.2.2.2.2.2.calling⟩, fun U hU hW => ⟨rfl, by rw [hU], wx_pre hP hKX hD hU hW, hN.warm hW, th_pre hTH hS hFc hU hW, ou_pre hOU hS hFc hU hW, hNC.moved hW.alike⟩⟩ rfl rfl hl.1 rfl (lv_room (Nat.le_of_ble_eq_true rfl)) dL_law_1493 ⟨by omega, by omega⟩) hS (fun q _ h => hFc q h) hFc (fun r5 u t H1 locs ht hvm hw hB hz1 hk1 hS => ?_)
  obtain ⟨S6, f7⟩ := u
  have w8 := hw
  obtain ⟨hP, hD⟩ := wx_post hFc ht hB
  generalize H1 = H at hP hS ⊢
  have w8 : stp [(2, 8)] [] [] S S6 := w8
  have v9 : IV S6 o1 := IV.keep w8 hW h_o1 (by decide) (by decide) hIV
  have v10 : MV S6 o1 := MV.keep w8 hW h_o1 (by decide) (by decide) hMV
  have v11 : (RG o2) S6 o1 := RG.keep w8 hW h_o1 (by decide) (by decide) hR_RG
  have xe12 : ext S S6 := w8.x
  refine lv_istore (lv' := [(6, .int r5), (5, .int i), (4, .ref qd), (3, .ref qo), (2, .ref o1), (1, .ref o2), (0, .ref b)]) hx hb dL_law_1496 hl (by decide) rfl (fun ls hl => ?_)
  refine lv_aload_n hx hb dL_law_1498 rfl (lv_at hl 4 rfl) ?_
  refine lv_aload_n hx hb dL_law_1499 rfl (lv_at hl 6 rfl) ?_
  refine lv_iload hx hb dL_law_1500 (lv_at hl 1 rfl) ?_
  refine lv_iconst (v := 1) hx hb dL_law_1502 (by decide) ?_
  refine lv_iadd hx hb dL_law_1503 ?_
  refine va_sld hx hb hX hbl hbA hS (inb (m := L) rfl (by omega) (by omega)) dL_law_1504 ?_
  rw [ey2]
  refine lv_aload_n hx hb dL_law_1505 rfl (lv_at hl 6 rfl) ?_
  refine lv_iload hx hb dL_law_1506 (lv_at hl 1 rfl) ?_
  refine lv_iconst (v := 2) hx hb dL_law_1508 (by decide) ?_
  refine lv_iadd hx hb dL_law_1509 ?_
  refine va_sld hx hb hX hbl hbA hS (inb (m := L) rfl (by omega) (by omega)) dL_law_1510 ?_
  rw [ey4]
  have hFc := free_all hD hS hA
  obtain ⟨k14, gk14, hk14⟩ := wGt (cy := cy) (XO c8 c9 qo qd f7 fd) S6 (xe12.A h_o1).1 (xe12.A h_o1).2.1
  refine va_calli (va_runV (As := [.int y2, .int y4]) (rest := []) ⟨hx, hb, hml, hown, hts⟩ (c_X12_shoulder l (cy := cy) (X := (XO c8 c9 qo qd f7 fd)) (D := D) S6 _ o1 (xe12.A h_o1) y2 y4 (w8.w)) (cwV 2 hts gL_law_X12_shoulder rfl rfl rfl hd_X12_shoulder ⟨Nat.le_of_ble_eq_true rfl, Nat.le_of_ble_eq_true rfl⟩) ⟨fun a U g mk q => ⟨q.1, q.2.1, q.2.2.1.calling, NW.same (u := U) (U := U.calling g mk a) rfl q.2.2.2⟩, va_recv hK hP (q := (RX12, TX12, 34)) (ci := 16) (q0 := k14) rfl hk14, fun U hU hW => ⟨rfl, by rw [hU], wd_pre hP hK hD hU hW, hN.warm hW⟩⟩ rfl rfl hl.1 rfl (lv_room (Nat.le_of_ble_eq_true rfl)) dL_law_1511 ⟨by omega, by omega⟩) hS (fun q _ h => hFc q h) hFc (fun r13 u t H1 locs ht hvm hw hB hz1 hk1 hS => ?_)
  obtain ⟨c15, w16⟩ := hw
  obtain ⟨hP, hD⟩ := wd_post hFc ht hB
  generalize H1 = H at hP hS ⊢
  obtain ⟨S17, rfl⟩ : ∃ z, z = u := ⟨_, rfl⟩
  have v18 : IV S17 o1 := IV.keep w16 w8.w (xe12.A h_o1) (by decide) (by decide) v9
  have v19 : MV S17 o1 := MV.keep w16 w8.w (xe12.A h_o1) (by decide) (by decide) v10
  have v20 : (RG o2) S17 o1 := RG.keep w16 w8.w (xe12.A h_o1) (by decide) (by decide) v11
  have xe21 : ext S6 S17 := w16.x
  refine lv_istore (lv' := [(7, .int r13), (6, .int r5), (5, .int i), (4, .ref qd), (3, .ref qo), (2, .ref o1), (1, .ref o2), (0, .ref b)]) hx hb dL_law_1514 hl (by decide) rfl (fun ls hl => ?_)
  refine lv_goto (tgt := 2931) hx hb dL_law_1516 (by decide) ?_
  refine W.widen (k := cells + 40) (n := slots + 1200) (by omega) (by omega) ?_
  exact kk S17 f7 fd H _ ls ⟨hP, hD, w16.w, ((xe12.tr xe21).A h_o2), (xe21.A (xe12.A h_o1)), ((xe12.tr xe21).F h_o1 (by decide) h77), v19, v18, v20⟩ hS (lv_sub hl [2, 3, 4, 5, 6, 7] rfl)
set_option maxHeartbeats 4000000 in
set_option maxRecDepth 100000 in
theorem road_26 {p : Program} {l : Launch} {e : Env} {s : State} {m : MethodId} {below : List Frame} {meth : Method} {c : Code} {b L : Nat} {xs : Nat → Int32} {D : va_G} {cy : Nat → ClassId} {c8 c9 : ClassId} {e0 mi : Nat} {Q : State → Prop} {qo qd o1 o2 : Nat} (C0 : LC p l s m c b L xs D cy c8 c9 e0 mi) (hL9 : L ≤ 2560) {S : wPS} {fo : Nat → Int64} {fd : Nat → UInt64} {H : Heap} {locs : List Loc} {ls : Array Slot} {cells slots : Nat} {i : Int32} (hi : 0 ≤ i.toInt ∧ i.toInt + 5 ≤ L) (hI : LI D cy c8 c9 e0 (fun q => s.heap.size ≤ q) o1 o2 qo qd fo fd S H) (hS : va_S (fun q => s.heap.size ≤ q) s.heap H locs) (hc : cells + 40 ≤ room_1.cells) (hs : slots + 1200 ≤ room_1.slots) (hl : lv_has ls 9 [(5, .int i), (4, .ref qd), (3, .ref qo), (2, .ref o1), (1, .ref o2), (0, .ref b)]) (kk : ∀ (S2 : wPS) (fo2 : Nat → Int64) (fd2 : Nat → UInt64) (H2 : Heap) (locs2 : List Loc) (ls2 : Array Slot), LI D cy c8 c9 e0 (fun q => s.heap.size ≤ q) o1 o2 qo qd fo2 fd2 S2 H2 → va_S (fun q => s.heap.size ≤ q) s.heap H2 locs2 → lv_has ls2 9 [(5, .int i), (4, .ref qd), (3, .ref qo), (2, .ref o1), (1, .ref o2), (0, .ref b)] → W p l e room_1 s m #[Value.ref b] below meth c H2 locs2 (cells + 40) (slots + 1200) Q (F0 m 2931 ls2 [])) : W p l e room_1 s m #[Value.ref b] below meth c H locs cells slots Q (F0 m 1519 ls []) := by
  obtain ⟨hx, hb, hml, hown, hts, hX, hbl, hN, hTH, hOU, hKX, hst, hNC⟩ := id C0
  obtain ⟨hP, hD, hW, h_o2, h_o1, h77, hMV, hIV, hR_RG⟩ := hI
  have hK := kX hKX
  have hA : ∀ q : Nat, s.heap.size ≤ q → (fun q : Nat => s.heap.size ≤ q) q := fun _ h => h
  have hbA : ¬ (fun q : Nat => s.heap.size ≤ q) b := Nat.not_le.mpr hbl
  refine lv_aload_n hx hb dL_law_1519 rfl (lv_at hl 4 rfl) ?_
  refine lv_aload_n hx hb dL_law_1520 rfl (lv_at hl 5 rfl) ?_
  refine lv_iload hx hb dL_law_1521 (lv_at hl 0 rfl) ?_
  refine lv_iconst (v := 1) hx hb dL_law_1523 (by decide) ?_
  refine lv_iadd hx hb dL_law_1524 ?_
  have l32_1 : (1 : Int32).toInt = 1 := rfl
  have i1 : (i + (1 : Int32)).toInt = i.toInt + 1 := t_addr (n := 1) rfl (by omega)
  refine va_sld hx hb hX hbl hbA hS (inb (m := L) rfl (by omega) (by omega)) dL_law_1525 ?_
  obtain ⟨y2, ey2⟩ : ∃ z : Int32, xs (i + (1 : Int32)).toNatClampNeg = z := ⟨_, rfl⟩
  rw [ey2]
  refine lv_aload_n hx hb dL_law_1526 rfl (lv_at hl 2 rfl) ?_
  have hFc := free_all hD hS hA
  refine va_calli (vx_runSW (As := [.ref o2, .int y2, .ref qo]) (rest := []) ⟨hx, hb, hml, hown, hts⟩ (c_L_approach l hst (e0 := e0) (mi := mi) (D := D) (cy := cy) (c8 := c8) (c9 := c9) qo qd fo fd S _ o2 h_o2 y2 (hW)) (vx_cwSW 3 hts gL_law_L_approach rfl rfl rfl (by decide +kernel) ⟨Nat.le_of_ble_eq_true rfl, Nat.le_of_ble_eq_true rfl⟩) ⟨fun a U g mk q => ⟨q.1, q.2.1, q.2.2.1.calling, NW.same (u := U) (U := U.calling g mk a) rfl q.2.2.2.1, q.2.2.2.2.1.calling, q.2.2.2.2.2.1.calling, q.2.2.2.2.2.2.calling⟩, fun U hU hW => ⟨rfl, by rw [hU], wx_pre hP hKX hD hU hW, hN.warm hW, th_pre hTH hS hFc hU hW, ou_pre hOU hS hFc hU hW, hNC.moved hW.alike⟩⟩ rfl rfl hl.1 rfl (lv_room (Nat.le_of_ble_eq_true rfl)) dL_law_1527 ⟨by omega, by omega⟩) hS (fun q _ h => hFc q h) hFc (fun r3 u t H1 locs ht hvm hw hB hz1 hk1 hS => ?_)
  obtain ⟨S4, f5⟩ := u
  have w6 := hw
  obtain ⟨hP, hD⟩ := wx_post hFc ht hB
  generalize H1 = H at hP hS ⊢
  have w6 : stp ([] : List (Nat × Nat)) [] [] S S4 := w6
  have v7 : IV S4 o1 := IV.keep w6 hW h_o1 (by decide) (by decide) hIV
  have v8 : MV S4 o1 := MV.keep w6 hW h_o1 (by decide) (by decide) hMV
  have v9 : (RG o2) S4 o1 := RG.keep w6 hW h_o1 (by decide) (by decide) hR_RG
  have xe10 : ext S S4 := w6.x
  refine lv_istore (lv' := [(6, .int r3), (5, .int i), (4, .ref qd), (3, .ref qo), (2, .ref o1), (1, .ref o2), (0, .ref b)]) hx hb dL_law_1530 hl (by decide) rfl (fun ls hl => ?_)
  refine lv_aload_n hx hb dL_law_1532 rfl (lv_at hl 4 rfl) ?_
  refine lv_aload_n hx hb dL_law_1533 rfl (lv_at hl 6 rfl) ?_
  refine lv_iload hx hb dL_law_1534 (lv_at hl 1 rfl) ?_
  refine lv_iconst (v := 1) hx hb dL_law_1536 (by decide) ?_
  refine lv_iadd hx hb dL_law_1537 ?_
  refine va_sld hx hb hX hbl hbA hS (inb (m := L) rfl (by omega) (by omega)) dL_law_1538 ?_
  rw [ey2]
  have hFc := free_all hD hS hA
  obtain ⟨k12, gk12, hk12⟩ := wGt (cy := cy) (XO c8 c9 qo qd f5 fd) S4 (xe10.A h_o1).1 (xe10.A h_o1).2.1
  refine va_calli (va_runV (As := [.int y2]) (rest := []) ⟨hx, hb, hml, hown, hts⟩ (c_X12_approach l (cy := cy) (X := (XO c8 c9 qo qd f5 fd)) (D := D) S4 _ o1 (xe10.A h_o1) y2 (w6.w)) (cwV 1 hts gL_law_X12_approach rfl rfl rfl hd_X12_approach ⟨Nat.le_of_ble_eq_true rfl, Nat.le_of_ble_eq_true rfl⟩) ⟨fun a U g mk q => ⟨q.1, q.2.1, q.2.2.1.calling, NW.same (u := U) (U := U.calling g mk a) rfl q.2.2.2⟩, va_recv hK hP (q := (RX12, TX12, 34)) (ci := 16) (q0 := k12) rfl hk12, fun U hU hW => ⟨rfl, by rw [hU], wd_pre hP hK hD hU hW, hN.warm hW⟩⟩ rfl rfl hl.1 rfl (lv_room (Nat.le_of_ble_eq_true rfl)) dL_law_1539 ⟨by omega, by omega⟩) hS (fun q _ h => hFc q h) hFc (fun r11 u t H1 locs ht hvm hw hB hz1 hk1 hS => ?_)
  have w13 := hw
  obtain ⟨hP, hD⟩ := wd_post hFc ht hB
  generalize H1 = H at hP hS ⊢
  obtain ⟨S14, rfl⟩ : ∃ z, z = u := ⟨_, rfl⟩
  have v15 : IV S14 o1 := IV.keep w13 w6.w (xe10.A h_o1) (by decide) (by decide) v7
  have v16 : MV S14 o1 := MV.keep w13 w6.w (xe10.A h_o1) (by decide) (by decide) v8
  have v17 : (RG o2) S14 o1 := RG.keep w13 w6.w (xe10.A h_o1) (by decide) (by decide) v9
  have xe18 : ext S4 S14 := w13.x
  refine lv_istore (lv' := [(7, .int r11), (6, .int r3), (5, .int i), (4, .ref qd), (3, .ref qo), (2, .ref o1), (1, .ref o2), (0, .ref b)]) hx hb dL_law_1542 hl (by decide) rfl (fun ls hl => ?_)
  refine lv_goto (tgt := 2931) hx hb dL_law_1544 (by decide) ?_
  refine W.widen (k := cells + 40) (n := slots + 1200) (by omega) (by omega) ?_
  exact kk S14 f5 fd H _ ls ⟨hP, hD, w13.w, ((xe10.tr xe18).A h_o2), (xe18.A (xe10.A h_o1)), ((xe10.tr xe18).F h_o1 (by decide) h77), v16, v15, v17⟩ hS (lv_sub hl [2, 3, 4, 5, 6, 7] rfl)
set_option maxHeartbeats 4000000 in
set_option maxRecDepth 100000 in
theorem road_27 {p : Program} {l : Launch} {e : Env} {s : State} {m : MethodId} {below : List Frame} {meth : Method} {c : Code} {b L : Nat} {xs : Nat → Int32} {D : va_G} {cy : Nat → ClassId} {c8 c9 : ClassId} {e0 mi : Nat} {Q : State → Prop} {qo qd o1 o2 : Nat} (C0 : LC p l s m c b L xs D cy c8 c9 e0 mi) (hL9 : L ≤ 2560) {S : wPS} {fo : Nat → Int64} {fd : Nat → UInt64} {H : Heap} {locs : List Loc} {ls : Array Slot} {cells slots : Nat} {i : Int32} (hi : 0 ≤ i.toInt ∧ i.toInt + 5 ≤ L) (hI : LI D cy c8 c9 e0 (fun q => s.heap.size ≤ q) o1 o2 qo qd fo fd S H) (hS : va_S (fun q => s.heap.size ≤ q) s.heap H locs) (hc : cells + 40 ≤ room_1.cells) (hs : slots + 1200 ≤ room_1.slots) (hl : lv_has ls 9 [(5, .int i), (4, .ref qd), (3, .ref qo), (2, .ref o1), (1, .ref o2), (0, .ref b)]) (kk : ∀ (S2 : wPS) (fo2 : Nat → Int64) (fd2 : Nat → UInt64) (H2 : Heap) (locs2 : List Loc) (ls2 : Array Slot), LI D cy c8 c9 e0 (fun q => s.heap.size ≤ q) o1 o2 qo qd fo2 fd2 S2 H2 → va_S (fun q => s.heap.size ≤ q) s.heap H2 locs2 → lv_has ls2 9 [(5, .int i), (4, .ref qd), (3, .ref qo), (2, .ref o1), (1, .ref o2), (0, .ref b)] → W p l e room_1 s m #[Value.ref b] below meth c H2 locs2 (cells + 40) (slots + 1200) Q (F0 m 2931 ls2 [])) : W p l e room_1 s m #[Value.ref b] below meth c H locs cells slots Q (F0 m 1547 ls []) := by
  obtain ⟨hx, hb, hml, hown, hts, hX, hbl, hN, hTH, hOU, hKX, hst, hNC⟩ := id C0
  obtain ⟨hP, hD, hW, h_o2, h_o1, h77, hMV, hIV, hR_RG⟩ := hI
  have hK := kX hKX
  have hA : ∀ q : Nat, s.heap.size ≤ q → (fun q : Nat => s.heap.size ≤ q) q := fun _ h => h
  have hbA : ¬ (fun q : Nat => s.heap.size ≤ q) b := Nat.not_le.mpr hbl
  refine lv_aload_n hx hb dL_law_1547 rfl (lv_at hl 4 rfl) ?_
  refine lv_aload_n hx hb dL_law_1548 rfl (lv_at hl 5 rfl) ?_
  refine lv_iload hx hb dL_law_1549 (lv_at hl 0 rfl) ?_
  refine lv_iconst (v := 1) hx hb dL_law_1551 (by decide) ?_
  refine lv_iadd hx hb dL_law_1552 ?_
  have l32_1 : (1 : Int32).toInt = 1 := rfl
  have i1 : (i + (1 : Int32)).toInt = i.toInt + 1 := t_addr (n := 1) rfl (by omega)
  refine va_sld hx hb hX hbl hbA hS (inb (m := L) rfl (by omega) (by omega)) dL_law_1553 ?_
  obtain ⟨y2, ey2⟩ : ∃ z : Int32, xs (i + (1 : Int32)).toNatClampNeg = z := ⟨_, rfl⟩
  rw [ey2]
  refine lv_aload_n hx hb dL_law_1554 rfl (lv_at hl 5 rfl) ?_
  refine lv_iload hx hb dL_law_1555 (lv_at hl 0 rfl) ?_
  refine lv_iconst (v := 2) hx hb dL_law_1557 (by decide) ?_
  refine lv_iadd hx hb dL_law_1558 ?_
  have l32_2 : (2 : Int32).toInt = 2 := rfl
  have i3 : (i + (2 : Int32)).toInt = i.toInt + 2 := t_addr (n := 2) rfl (by omega)
  refine va_sld hx hb hX hbl hbA hS (inb (m := L) rfl (by omega) (by omega)) dL_law_1559 ?_
  obtain ⟨y4, ey4⟩ : ∃ z : Int32, xs (i + (2 : Int32)).toNatClampNeg = z := ⟨_, rfl⟩
  rw [ey4]
  refine lv_aload_n hx hb dL_law_1560 rfl (lv_at hl 5 rfl) ?_
  refine lv_iload hx hb dL_law_1561 (lv_at hl 0 rfl) ?_
  refine lv_iconst (v := 3) hx hb dL_law_1563 (by decide) ?_
  refine lv_iadd hx hb dL_law_1564 ?_
  have l32_3 : (3 : Int32).toInt = 3 := rfl
  have i5 : (i + (3 : Int32)).toInt = i.toInt + 3 := t_addr (n := 3) rfl (by omega)
  refine va_sld hx hb hX hbl hbA hS (inb (m := L) rfl (by omega) (by omega)) dL_law_1565 ?_
  obtain ⟨y6, ey6⟩ : ∃ z : Int32, xs (i + (3 : Int32)).toNatClampNeg = z := ⟨_, rfl⟩
  rw [ey6]
  refine lv_aload_n hx hb dL_law_1566 rfl (lv_at hl 2 rfl) ?_
  have hFc := free_all hD hS hA
  refine va_calli (vx_runSW (As := [.ref o2, .int y2, .int y4, .int y6, .ref qo]) (rest := []) ⟨hx, hb, hml, hown, hts⟩ (c_L_cut l hst (e0 := e0) (mi := mi) (D := D) (cy := cy) (c8 := c8) (c9 := c9) qo qd fo fd S _ o2 h_o2 y2 y4 y6 (hW)) (vx_cwSW 5 hts gL_law_L_cut rfl rfl rfl (by decide +kernel) ⟨Nat.le_of_ble_eq_true rfl, Nat.le_of_ble_eq_true rfl⟩) ⟨fun a U g mk q => ⟨q.1, q.2.1, q.2.2.1.calling, NW.same (u := U) (U := U.calling g mk a) rfl q.2.2.2.1, q.2.2.2.2.1.calling, q.2.2.2.2.2.1.calling, q.2.2.2.2.2.2.calling⟩, fun U hU hW => ⟨rfl, by rw [hU], wx_pre hP hKX hD hU hW, hN.warm hW, th_pre hTH hS hFc hU hW, ou_pre hOU hS hFc hU hW, hNC.moved hW.alike⟩⟩ rfl rfl hl.1 rfl (lv_room (Nat.le_of_ble_eq_true rfl)) dL_law_1567 ⟨by omega, by omega⟩) hS (fun q _ h => hFc q h) hFc (fun r7 u t H1 locs ht hvm hw hB hz1 hk1 hS => ?_)
  obtain ⟨S8, f9⟩ := u
  have w10 := hw
  obtain ⟨hP, hD⟩ := wx_post hFc ht hB
  generalize H1 = H at hP hS ⊢
  have w10 : stp [(2, 9), (2, 10), (2, 11), (2, 12), (3, 5), (28, 100)] [] [] S S8 := w10
  have v11 : IV S8 o1 := IV.keep w10 hW h_o1 (by decide) (by decide) hIV
  have v12 : MV S8 o1 := MV.keep w10 hW h_o1 (by decide) (by decide) hMV
  have v13 : (RG o2) S8 o1 := RG.keep w10 hW h_o1 (by decide) (by decide) hR_RG
  have xe14 : ext S S8 := w10.x
  refine lv_istore (lv' := [(6, .int r7), (5, .int i), (4, .ref qd), (3, .ref qo), (2, .ref o1), (1, .ref o2), (0, .ref b)]) hx hb dL_law_1570 hl (by decide) rfl (fun ls hl => ?_)
  refine lv_aload_n hx hb dL_law_1572 rfl (lv_at hl 4 rfl) ?_
  refine lv_aload_n hx hb dL_law_1573 rfl (lv_at hl 6 rfl) ?_
  refine lv_iload hx hb dL_law_1574 (lv_at hl 1 rfl) ?_
  refine lv_iconst (v := 1) hx hb dL_law_1576 (by decide) ?_
  refine lv_iadd hx hb dL_law_1577 ?_
  refine va_sld hx hb hX hbl hbA hS (inb (m := L) rfl (by omega) (by omega)) dL_law_1578 ?_
  rw [ey2]
  refine lv_aload_n hx hb dL_law_1579 rfl (lv_at hl 6 rfl) ?_
  refine lv_iload hx hb dL_law_1580 (lv_at hl 1 rfl) ?_
  refine lv_iconst (v := 2) hx hb dL_law_1582 (by decide) ?_
  refine lv_iadd hx hb dL_law_1583 ?_
  refine va_sld hx hb hX hbl hbA hS (inb (m := L) rfl (by omega) (by omega)) dL_law_1584 ?_
  rw [ey4]
  refine lv_aload_n hx hb dL_law_1585 rfl (lv_at hl 6 rfl) ?_
  refine lv_iload hx hb dL_law_1586 (lv_at hl 1 rfl) ?_
  refine lv_iconst (v := 3) hx hb dL_law_1588 (by decide) ?_
  refine lv_iadd hx hb dL_law_1589 ?_
  refine va_sld hx hb hX hbl hbA hS (inb (m := L) rfl (by omega) (by omega)) dL_law_1590 ?_
  rw [ey6]
  have hFc := free_all hD hS hA
  obtain ⟨k16, gk16, hk16⟩ := wGt (cy := cy) (XO c8 c9 qo qd f9 fd) S8 (xe14.A h_o1).1 (xe14.A h_o1).2.1
  refine va_calli (va_runV (As := [.int y2, .int y4, .int y6]) (rest := []) ⟨hx, hb, hml, hown, hts⟩ (c_X12_cut l (cy := cy) (X := (XO c8 c9 qo qd f9 fd)) (D := D) S8 _ o1 (xe14.A h_o1) y2 y4 y6 (w10.w)) (cwV 3 hts gL_law_X12_cut rfl rfl rfl hd_X12_cut ⟨Nat.le_of_ble_eq_true rfl, Nat.le_of_ble_eq_true rfl⟩) ⟨fun a U g mk q => ⟨q.1, q.2.1, q.2.2.1.calling, NW.same (u := U) (U := U.calling g mk a) rfl q.2.2.2⟩, va_recv hK hP (q := (RX12, TX12, 34)) (ci := 16) (q0 := k16) rfl hk16, fun U hU hW => ⟨rfl, by rw [hU], wd_pre hP hK hD hU hW, hN.warm hW⟩⟩ rfl rfl hl.1 rfl (lv_room (Nat.le_of_ble_eq_true rfl)) dL_law_1591 ⟨by omega, by omega⟩) hS (fun q _ h => hFc q h) hFc (fun r15 u t H1 locs ht hvm hw hB hz1 hk1 hS => ?_)
  have w17 := hw
  obtain ⟨hP, hD⟩ := wd_post hFc ht hB
  generalize H1 = H at hP hS ⊢
  obtain ⟨S18, rfl⟩ : ∃ z, z = u := ⟨_, rfl⟩
  have v19 : IV S18 o1 := IV.keep w17 w10.w (xe14.A h_o1) (by decide) (by decide) v11
  have v20 : MV S18 o1 := MV.keep w17 w10.w (xe14.A h_o1) (by decide) (by decide) v12
  have v21 : (RG o2) S18 o1 := RG.keep w17 w10.w (xe14.A h_o1) (by decide) (by decide) v13
  have xe22 : ext S8 S18 := w17.x
  refine lv_istore (lv' := [(7, .int r15), (6, .int r7), (5, .int i), (4, .ref qd), (3, .ref qo), (2, .ref o1), (1, .ref o2), (0, .ref b)]) hx hb dL_law_1594 hl (by decide) rfl (fun ls hl => ?_)
  refine lv_goto (tgt := 2931) hx hb dL_law_1596 (by decide) ?_
  refine W.widen (k := cells + 40) (n := slots + 1200) (by omega) (by omega) ?_
  exact kk S18 f9 fd H _ ls ⟨hP, hD, w17.w, ((xe14.tr xe22).A h_o2), (xe22.A (xe14.A h_o1)), ((xe14.tr xe22).F h_o1 (by decide) h77), v20, v19, v21⟩ hS (lv_sub hl [2, 3, 4, 5, 6, 7] rfl)
set_option maxHeartbeats 4000000 in
set_option maxRecDepth 100000 in
theorem road_28 {p : Program} {l : Launch} {e : Env} {s : State} {m : MethodId} {below : List Frame} {meth : Method} {c : Code} {b L : Nat} {xs : Nat → Int32} {D : va_G} {cy : Nat → ClassId} {c8 c9 : ClassId} {e0 mi : Nat} {Q : State → Prop} {qo qd o1 o2 : Nat} (C0 : LC p l s m c b L xs D cy c8 c9 e0 mi) (hL9 : L ≤ 2560) {S : wPS} {fo : Nat → Int64} {fd : Nat → UInt64} {H : Heap} {locs : List Loc} {ls : Array Slot} {cells slots : Nat} {i : Int32} (hi : 0 ≤ i.toInt ∧ i.toInt + 5 ≤ L) (hI : LI D cy c8 c9 e0 (fun q => s.heap.size ≤ q) o1 o2 qo qd fo fd S H) (hS : va_S (fun q => s.heap.size ≤ q) s.heap H locs) (hc : cells + 40 ≤ room_1.cells) (hs : slots + 1200 ≤ room_1.slots) (hl : lv_has ls 9 [(5, .int i), (4, .ref qd), (3, .ref qo), (2, .ref o1), (1, .ref o2), (0, .ref b)]) (kk : ∀ (S2 : wPS) (fo2 : Nat → Int64) (fd2 : Nat → UInt64) (H2 : Heap) (locs2 : List Loc) (ls2 : Array Slot), LI D cy c8 c9 e0 (fun q => s.heap.size ≤ q) o1 o2 qo qd fo2 fd2 S2 H2 → va_S (fun q => s.heap.size ≤ q) s.heap H2 locs2 → lv_has ls2 9 [(5, .int i), (4, .ref qd), (3, .ref qo), (2, .ref o1), (1, .ref o2), (0, .ref b)] → W p l e room_1 s m #[Value.ref b] below meth c H2 locs2 (cells + 40) (slots + 1200) Q (F0 m 2931 ls2 [])) : W p l e room_1 s m #[Value.ref b] below meth c H locs cells slots Q (F0 m 1599 ls []) := by
  obtain ⟨hx, hb, hml, hown, hts, hX, hbl, hN, hTH, hOU, hKX, hst, hNC⟩ := id C0
  obtain ⟨hP, hD, hW, h_o2, h_o1, h77, hMV, hIV, hR_RG⟩ := hI
  have hK := kX hKX
  have hA : ∀ q : Nat, s.heap.size ≤ q → (fun q : Nat => s.heap.size ≤ q) q := fun _ h => h
  have hbA : ¬ (fun q : Nat => s.heap.size ≤ q) b := Nat.not_le.mpr hbl
  refine lv_aload_n hx hb dL_law_1599 rfl (lv_at hl 4 rfl) ?_
  refine lv_aload_n hx hb dL_law_1600 rfl (lv_at hl 5 rfl) ?_
  refine lv_iload hx hb dL_law_1601 (lv_at hl 0 rfl) ?_
  refine lv_iconst (v := 1) hx hb dL_law_1603 (by decide) ?_
  refine lv_iadd hx hb dL_law_1604 ?_
  have l32_1 : (1 : Int32).toInt = 1 := rfl
  have i1 : (i + (1 : Int32)).toInt = i.toInt + 1 := t_addr (n := 1) rfl (by omega)
  refine va_sld hx hb hX hbl hbA hS (inb (m := L) rfl (by omega) (by omega)) dL_law_1605 ?_
  obtain ⟨y2, ey2⟩ : ∃ z : Int32, xs (i + (1 : Int32)).toNatClampNeg = z := ⟨_, rfl⟩
  rw [ey2]
  refine lv_aload_n hx hb dL_law_1606 rfl (lv_at hl 5 rfl) ?_
  refine lv_iload hx hb dL_law_1607 (lv_at hl 0 rfl) ?_
  refine lv_iconst (v := 2) hx hb dL_law_1609 (by decide) ?_
  refine lv_iadd hx hb dL_law_1610 ?_
  have l32_2 : (2 : Int32).toInt = 2 := rfl
  have i3 : (i + (2 : Int32)).toInt = i.toInt + 2 := t_addr (n := 2) rfl (by omega)
  refine va_sld hx hb hX hbl hbA hS (inb (m := L) rfl (by omega) (by omega)) dL_law_1611 ?_
  obtain ⟨y4, ey4⟩ : ∃ z : Int32, xs (i + (2 : Int32)).toNatClampNeg = z := ⟨_, rfl⟩
  rw [ey4]
  refine lv_aload_n hx hb dL_law_1612 rfl (lv_at hl 2 rfl) ?_
  have hFc := free_all hD hS hA
  refine va_calli (vx_runSW (As := [.ref o2, .int y2, .int y4, .ref qo]) (rest := []) ⟨hx, hb, hml, hown, hts⟩ (c_L_wear l hst (e0 := e0) (mi := mi) (D := D) (cy := cy) (c8 := c8) (c9 := c9) qo qd fo fd S _ o2 h_o2 y2 y4 (hW)) (vx_cwSW 4 hts gL_law_L_wear rfl rfl rfl (by decide +kernel) ⟨Nat.le_of_ble_eq_true rfl, Nat.le_of_ble_eq_true rfl⟩) ⟨fun a U g mk q => ⟨q.1, q.2.1, q.2.2.1.calling, NW.same (u := U) (U := U.calling g mk a) rfl q.2.2.2.1, q.2.2.2.2.1.calling, q.2.2.2.2.2.1.calling, q.2.2.2.2.2.2.calling⟩, fun U hU hW => ⟨rfl, by rw [hU], wx_pre hP hKX hD hU hW, hN.warm hW, th_pre hTH hS hFc hU hW, ou_pre hOU hS hFc hU hW, hNC.moved hW.alike⟩⟩ rfl rfl hl.1 rfl (lv_room (Nat.le_of_ble_eq_true rfl)) dL_law_1613 ⟨by omega, by omega⟩) hS (fun q _ h => hFc q h) hFc (fun r5 u t H1 locs ht hvm hw hB hz1 hk1 hS => ?_)
  obtain ⟨S6, f7⟩ := u
  have w8 := hw
  obtain ⟨hP, hD⟩ := wx_post hFc ht hB
  generalize H1 = H at hP hS ⊢
  have w8 : stp ([] : List (Nat × Nat)) [] [] S S6 := w8
  have v9 : IV S6 o1 := IV.keep w8 hW h_o1 (by decide) (by decide) hIV
  have v10 : MV S6 o1 := MV.keep w8 hW h_o1 (by decide) (by decide) hMV
  have v11 : (RG o2) S6 o1 := RG.keep w8 hW h_o1 (by decide) (by decide) hR_RG
  have xe12 : ext S S6 := w8.x
  refine lv_istore (lv' := [(6, .int r5), (5, .int i), (4, .ref qd), (3, .ref qo), (2, .ref o1), (1, .ref o2), (0, .ref b)]) hx hb dL_law_1616 hl (by decide) rfl (fun ls hl => ?_)
  refine lv_aload_n hx hb dL_law_1618 rfl (lv_at hl 4 rfl) ?_
  refine lv_aload_n hx hb dL_law_1619 rfl (lv_at hl 6 rfl) ?_
  refine lv_iload hx hb dL_law_1620 (lv_at hl 1 rfl) ?_
  refine lv_iconst (v := 1) hx hb dL_law_1622 (by decide) ?_
  refine lv_iadd hx hb dL_law_1623 ?_
  refine va_sld hx hb hX hbl hbA hS (inb (m := L) rfl (by omega) (by omega)) dL_law_1624 ?_
  rw [ey2]
  refine lv_aload_n hx hb dL_law_1625 rfl (lv_at hl 6 rfl) ?_
  refine lv_iload hx hb dL_law_1626 (lv_at hl 1 rfl) ?_
  refine lv_iconst (v := 2) hx hb dL_law_1628 (by decide) ?_
  refine lv_iadd hx hb dL_law_1629 ?_
  refine va_sld hx hb hX hbl hbA hS (inb (m := L) rfl (by omega) (by omega)) dL_law_1630 ?_
  rw [ey4]
  have hFc := free_all hD hS hA
  obtain ⟨k14, gk14, hk14⟩ := wGt (cy := cy) (XO c8 c9 qo qd f7 fd) S6 (xe12.A h_o1).1 (xe12.A h_o1).2.1
  refine va_calli (va_runV (As := [.int y2, .int y4]) (rest := []) ⟨hx, hb, hml, hown, hts⟩ (c_X12_wear l (cy := cy) (X := (XO c8 c9 qo qd f7 fd)) (D := D) S6 _ o1 (xe12.A h_o1) y2 y4 (w8.w)) (cwV 2 hts gL_law_X12_wear rfl rfl rfl hd_X12_wear ⟨Nat.le_of_ble_eq_true rfl, Nat.le_of_ble_eq_true rfl⟩) ⟨fun a U g mk q => ⟨q.1, q.2.1, q.2.2.1.calling, NW.same (u := U) (U := U.calling g mk a) rfl q.2.2.2⟩, va_recv hK hP (q := (RX12, TX12, 34)) (ci := 16) (q0 := k14) rfl hk14, fun U hU hW => ⟨rfl, by rw [hU], wd_pre hP hK hD hU hW, hN.warm hW⟩⟩ rfl rfl hl.1 rfl (lv_room (Nat.le_of_ble_eq_true rfl)) dL_law_1631 ⟨by omega, by omega⟩) hS (fun q _ h => hFc q h) hFc (fun r13 u t H1 locs ht hvm hw hB hz1 hk1 hS => ?_)
  have w15 := hw
  obtain ⟨hP, hD⟩ := wd_post hFc ht hB
  generalize H1 = H at hP hS ⊢
  obtain ⟨S16, rfl⟩ : ∃ z, z = u := ⟨_, rfl⟩
  have v17 : IV S16 o1 := IV.keep w15 w8.w (xe12.A h_o1) (by decide) (by decide) v9
  have v18 : MV S16 o1 := MV.keep w15 w8.w (xe12.A h_o1) (by decide) (by decide) v10
  have v19 : (RG o2) S16 o1 := RG.keep w15 w8.w (xe12.A h_o1) (by decide) (by decide) v11
  have xe20 : ext S6 S16 := w15.x
  refine lv_istore (lv' := [(7, .int r13), (6, .int r5), (5, .int i), (4, .ref qd), (3, .ref qo), (2, .ref o1), (1, .ref o2), (0, .ref b)]) hx hb dL_law_1634 hl (by decide) rfl (fun ls hl => ?_)
  refine lv_goto (tgt := 2931) hx hb dL_law_1636 (by decide) ?_
  refine W.widen (k := cells + 40) (n := slots + 1200) (by omega) (by omega) ?_
  exact kk S16 f7 fd H _ ls ⟨hP, hD, w15.w, ((xe12.tr xe20).A h_o2), (xe20.A (xe12.A h_o1)), ((xe12.tr xe20).F h_o1 (by decide) h77), v18, v17, v19⟩ hS (lv_sub hl [2, 3, 4, 5, 6, 7] rfl)
set_option maxHeartbeats 4000000 in
set_option maxRecDepth 100000 in
theorem road_29 {p : Program} {l : Launch} {e : Env} {s : State} {m : MethodId} {below : List Frame} {meth : Method} {c : Code} {b L : Nat} {xs : Nat → Int32} {D : va_G} {cy : Nat → ClassId} {c8 c9 : ClassId} {e0 mi : Nat} {Q : State → Prop} {qo qd o1 o2 : Nat} (C0 : LC p l s m c b L xs D cy c8 c9 e0 mi) (hL9 : L ≤ 2560) {S : wPS} {fo : Nat → Int64} {fd : Nat → UInt64} {H : Heap} {locs : List Loc} {ls : Array Slot} {cells slots : Nat} {i : Int32} (hi : 0 ≤ i.toInt ∧ i.toInt + 5 ≤ L) (hI : LI D cy c8 c9 e0 (fun q => s.heap.size ≤ q) o1 o2 qo qd fo fd S H) (hS : va_S (fun q => s.heap.size ≤ q) s.heap H locs) (hc : cells + 40 ≤ room_1.cells) (hs : slots + 1200 ≤ room_1.slots) (hl : lv_has ls 9 [(5, .int i), (4, .ref qd), (3, .ref qo), (2, .ref o1), (1, .ref o2), (0, .ref b)]) (kk : ∀ (S2 : wPS) (fo2 : Nat → Int64) (fd2 : Nat → UInt64) (H2 : Heap) (locs2 : List Loc) (ls2 : Array Slot), LI D cy c8 c9 e0 (fun q => s.heap.size ≤ q) o1 o2 qo qd fo2 fd2 S2 H2 → va_S (fun q => s.heap.size ≤ q) s.heap H2 locs2 → lv_has ls2 9 [(5, .int i), (4, .ref qd), (3, .ref qo), (2, .ref o1), (1, .ref o2), (0, .ref b)] → W p l e room_1 s m #[Value.ref b] below meth c H2 locs2 (cells + 40) (slots + 1200) Q (F0 m 2931 ls2 [])) : W p l e room_1 s m #[Value.ref b] below meth c H locs cells slots Q (F0 m 1639 ls []) := by
  obtain ⟨hx, hb, hml, hown, hts, hX, hbl, hN, hTH, hOU, hKX, hst, hNC⟩ := id C0
  obtain ⟨hP, hD, hW, h_o2, h_o1, h77, hMV, hIV, hR_RG⟩ := hI
  have hK := kX hKX
  have hA : ∀ q : Nat, s.heap.size ≤ q → (fun q : Nat => s.heap.size ≤ q) q := fun _ h => h
  have hbA : ¬ (fun q : Nat => s.heap.size ≤ q) b := Nat.not_le.mpr hbl
  refine lv_aload_n hx hb dL_law_1639 rfl (lv_at hl 4 rfl) ?_
  refine lv_aload_n hx hb dL_law_1640 rfl (lv_at hl 5 rfl) ?_
  refine lv_iload hx hb dL_law_1641 (lv_at hl 0 rfl) ?_
  refine lv_iconst (v := 1) hx hb dL_law_1643 (by decide) ?_
  refine lv_iadd hx hb dL_law_1644 ?_
  have l32_1 : (1 : Int32).toInt = 1 := rfl
  have i1 : (i + (1 : Int32)).toInt = i.toInt + 1 := t_addr (n := 1) rfl (by omega)
  refine va_sld hx hb hX hbl hbA hS (inb (m := L) rfl (by omega) (by omega)) dL_law_1645 ?_
  obtain ⟨y2, ey2⟩ : ∃ z : Int32, xs (i + (1 : Int32)).toNatClampNeg = z := ⟨_, rfl⟩
  rw [ey2]
  refine lv_aload_n hx hb dL_law_1646 rfl (lv_at hl 2 rfl) ?_
  have hFc := free_all hD hS hA
  refine va_calli (vx_runSW (As := [.ref o2, .int y2, .ref qo]) (rest := []) ⟨hx, hb, hml, hown, hts⟩ (c_L_regrind l hst (e0 := e0) (mi := mi) (D := D) (cy := cy) (c8 := c8) (c9 := c9) qo qd fo fd S _ o2 h_o2 y2 (hW)) (vx_cwSW 3 hts gL_law_L_regrind rfl rfl rfl (by decide +kernel) ⟨Nat.le_of_ble_eq_true rfl, Nat.le_of_ble_eq_true rfl⟩) ⟨fun a U g mk q => ⟨q.1, q.2.1, q.2.2.1.calling, NW.same (u := U) (U := U.calling g mk a) rfl q.2.2.2.1, q.2.2.2.2.1.calling, q.2.2.2.2.2.1.calling, q.2.2.2.2.2.2.calling⟩, fun U hU hW => ⟨rfl, by rw [hU], wx_pre hP hKX hD hU hW, hN.warm hW, th_pre hTH hS hFc hU hW, ou_pre hOU hS hFc hU hW, hNC.moved hW.alike⟩⟩ rfl rfl hl.1 rfl (lv_room (Nat.le_of_ble_eq_true rfl)) dL_law_1647 ⟨by omega, by omega⟩) hS (fun q _ h => hFc q h) hFc (fun r3 u t H1 locs ht hvm hw hB hz1 hk1 hS => ?_)
  obtain ⟨S4, f5⟩ := u
  have w6 := hw
  obtain ⟨hP, hD⟩ := wx_post hFc ht hB
  generalize H1 = H at hP hS ⊢
  have w6 : stp [(3, 3), (3, 4), (28, 100)] [] [] S S4 := w6
  have v7 : IV S4 o1 := IV.keep w6 hW h_o1 (by decide) (by decide) hIV
  have v8 : MV S4 o1 := MV.keep w6 hW h_o1 (by decide) (by decide) hMV
  have v9 : (RG o2) S4 o1 := RG.keep w6 hW h_o1 (by decide) (by decide) hR_RG
  have xe10 : ext S S4 := w6.x
  refine lv_istore (lv' := [(6, .int r3), (5, .int i), (4, .ref qd), (3, .ref qo), (2, .ref o1), (1, .ref o2), (0, .ref b)]) hx hb dL_law_1650 hl (by decide) rfl (fun ls hl => ?_)
  refine lv_aload_n hx hb dL_law_1652 rfl (lv_at hl 4 rfl) ?_
  refine lv_aload_n hx hb dL_law_1653 rfl (lv_at hl 6 rfl) ?_
  refine lv_iload hx hb dL_law_1654 (lv_at hl 1 rfl) ?_
  refine lv_iconst (v := 1) hx hb dL_law_1656 (by decide) ?_
  refine lv_iadd hx hb dL_law_1657 ?_
  refine va_sld hx hb hX hbl hbA hS (inb (m := L) rfl (by omega) (by omega)) dL_law_1658 ?_
  rw [ey2]
  have hFc := free_all hD hS hA
  obtain ⟨k12, gk12, hk12⟩ := wGt (cy := cy) (XO c8 c9 qo qd f5 fd) S4 (xe10.A h_o1).1 (xe10.A h_o1).2.1
  refine va_calli (va_runV (As := [.int y2]) (rest := []) ⟨hx, hb, hml, hown, hts⟩ (c_X12_regrind l (cy := cy) (X := (XO c8 c9 qo qd f5 fd)) (D := D) S4 _ o1 (xe10.A h_o1) y2 (w6.w)) (cwV 1 hts gL_law_X12_regrind rfl rfl rfl hd_X12_regrind ⟨Nat.le_of_ble_eq_true rfl, Nat.le_of_ble_eq_true rfl⟩) ⟨fun a U g mk q => ⟨q.1, q.2.1, q.2.2.1.calling, NW.same (u := U) (U := U.calling g mk a) rfl q.2.2.2⟩, va_recv hK hP (q := (RX12, TX12, 34)) (ci := 16) (q0 := k12) rfl hk12, fun U hU hW => ⟨rfl, by rw [hU], wd_pre hP hK hD hU hW, hN.warm hW⟩⟩ rfl rfl hl.1 rfl (lv_room (Nat.le_of_ble_eq_true rfl)) dL_law_1659 ⟨by omega, by omega⟩) hS (fun q _ h => hFc q h) hFc (fun r11 u t H1 locs ht hvm hw hB hz1 hk1 hS => ?_)
  have w13 := hw
  obtain ⟨hP, hD⟩ := wd_post hFc ht hB
  generalize H1 = H at hP hS ⊢
  obtain ⟨S14, rfl⟩ : ∃ z, z = u := ⟨_, rfl⟩
  have v15 : IV S14 o1 := IV.keep w13 w6.w (xe10.A h_o1) (by decide) (by decide) v7
  have v16 : MV S14 o1 := MV.keep w13 w6.w (xe10.A h_o1) (by decide) (by decide) v8
  have v17 : (RG o2) S14 o1 := RG.keep w13 w6.w (xe10.A h_o1) (by decide) (by decide) v9
  have xe18 : ext S4 S14 := w13.x
  refine lv_istore (lv' := [(7, .int r11), (6, .int r3), (5, .int i), (4, .ref qd), (3, .ref qo), (2, .ref o1), (1, .ref o2), (0, .ref b)]) hx hb dL_law_1662 hl (by decide) rfl (fun ls hl => ?_)
  refine lv_goto (tgt := 2931) hx hb dL_law_1664 (by decide) ?_
  refine W.widen (k := cells + 40) (n := slots + 1200) (by omega) (by omega) ?_
  exact kk S14 f5 fd H _ ls ⟨hP, hD, w13.w, ((xe10.tr xe18).A h_o2), (xe18.A (xe10.A h_o1)), ((xe10.tr xe18).F h_o1 (by decide) h77), v16, v15, v17⟩ hS (lv_sub hl [2, 3, 4, 5, 6, 7] rfl)
set_option maxHeartbeats 4000000 in
set_option maxRecDepth 100000 in
theorem road_30 {p : Program} {l : Launch} {e : Env} {s : State} {m : MethodId} {below : List Frame} {meth : Method} {c : Code} {b L : Nat} {xs : Nat → Int32} {D : va_G} {cy : Nat → ClassId} {c8 c9 : ClassId} {e0 mi : Nat} {Q : State → Prop} {qo qd o1 o2 : Nat} (C0 : LC p l s m c b L xs D cy c8 c9 e0 mi) (hL9 : L ≤ 2560) {S : wPS} {fo : Nat → Int64} {fd : Nat → UInt64} {H : Heap} {locs : List Loc} {ls : Array Slot} {cells slots : Nat} {i : Int32} (hi : 0 ≤ i.toInt ∧ i.toInt + 5 ≤ L) (hI : LI D cy c8 c9 e0 (fun q => s.heap.size ≤ q) o1 o2 qo qd fo fd S H) (hS : va_S (fun q => s.heap.size ≤ q) s.heap H locs) (hc : cells + 40 ≤ room_1.cells) (hs : slots + 1200 ≤ room_1.slots) (hl : lv_has ls 9 [(5, .int i), (4, .ref qd), (3, .ref qo), (2, .ref o1), (1, .ref o2), (0, .ref b)]) (kk : ∀ (S2 : wPS) (fo2 : Nat → Int64) (fd2 : Nat → UInt64) (H2 : Heap) (locs2 : List Loc) (ls2 : Array Slot), LI D cy c8 c9 e0 (fun q => s.heap.size ≤ q) o1 o2 qo qd fo2 fd2 S2 H2 → va_S (fun q => s.heap.size ≤ q) s.heap H2 locs2 → lv_has ls2 9 [(5, .int i), (4, .ref qd), (3, .ref qo), (2, .ref o1), (1, .ref o2), (0, .ref b)] → W p l e room_1 s m #[Value.ref b] below meth c H2 locs2 (cells + 40) (slots + 1200) Q (F0 m 2931 ls2 [])) : W p l e room_1 s m #[Value.ref b] below meth c H locs cells slots Q (F0 m 1667 ls []) := by
  obtain ⟨hx, hb, hml, hown, hts, hX, hbl, hN, hTH, hOU, hKX, hst, hNC⟩ := id C0
  obtain ⟨hP, hD, hW, h_o2, h_o1, h77, hMV, hIV, hR_RG⟩ := hI
  have hK := kX hKX
  have hA : ∀ q : Nat, s.heap.size ≤ q → (fun q : Nat => s.heap.size ≤ q) q := fun _ h => h
  have hbA : ¬ (fun q : Nat => s.heap.size ≤ q) b := Nat.not_le.mpr hbl
  refine lv_aload_n hx hb dL_law_1667 rfl (lv_at hl 4 rfl) ?_
  refine lv_aload_n hx hb dL_law_1668 rfl (lv_at hl 5 rfl) ?_
  refine lv_iload hx hb dL_law_1669 (lv_at hl 0 rfl) ?_
  refine lv_iconst (v := 1) hx hb dL_law_1671 (by decide) ?_
  refine lv_iadd hx hb dL_law_1672 ?_
  have l32_1 : (1 : Int32).toInt = 1 := rfl
  have i1 : (i + (1 : Int32)).toInt = i.toInt + 1 := t_addr (n := 1) rfl (by omega)
  refine va_sld hx hb hX hbl hbA hS (inb (m := L) rfl (by omega) (by omega)) dL_law_1673 ?_
  obtain ⟨y2, ey2⟩ : ∃ z : Int32, xs (i + (1 : Int32)).toNatClampNeg = z := ⟨_, rfl⟩
  rw [ey2]
  refine lv_aload_n hx hb dL_law_1674 rfl (lv_at hl 5 rfl) ?_
  refine lv_iload hx hb dL_law_1675 (lv_at hl 0 rfl) ?_
  refine lv_iconst (v := 2) hx hb dL_law_1677 (by decide) ?_
  refine lv_iadd hx hb dL_law_1678 ?_
  have l32_2 : (2 : Int32).toInt = 2 := rfl
  have i3 : (i + (2 : Int32)).toInt = i.toInt + 2 := t_addr (n := 2) rfl (by omega)
  refine va_sld hx hb hX hbl hbA hS (inb (m := L) rfl (by omega) (by omega)) dL_law_1679 ?_
  obtain ⟨y4, ey4⟩ : ∃ z : Int32, xs (i + (2 : Int32)).toNatClampNeg = z := ⟨_, rfl⟩
  rw [ey4]
  refine lv_aload_n hx hb dL_law_1680 rfl (lv_at hl 5 rfl) ?_
  refine lv_iload hx hb dL_law_1681 (lv_at hl 0 rfl) ?_
  refine lv_iconst (v := 3) hx hb dL_law_1683 (by decide) ?_
  refine lv_iadd hx hb dL_law_1684 ?_
  have l32_3 : (3 : Int32).toInt = 3 := rfl
  have i5 : (i + (3 : Int32)).toInt = i.toInt + 3 := t_addr (n := 3) rfl (by omega)
  refine va_sld hx hb hX hbl hbA hS (inb (m := L) rfl (by omega) (by omega)) dL_law_1685 ?_
  obtain ⟨y6, ey6⟩ : ∃ z : Int32, xs (i + (3 : Int32)).toNatClampNeg = z := ⟨_, rfl⟩
  rw [ey6]
  refine lv_aload_n hx hb dL_law_1686 rfl (lv_at hl 5 rfl) ?_
  refine lv_iload hx hb dL_law_1687 (lv_at hl 0 rfl) ?_
  refine lv_iconst (v := 4) hx hb dL_law_1689 (by decide) ?_
  refine lv_iadd hx hb dL_law_1690 ?_
  have l32_4 : (4 : Int32).toInt = 4 := rfl
  have i7 : (i + (4 : Int32)).toInt = i.toInt + 4 := t_addr (n := 4) rfl (by omega)
  refine va_sld hx hb hX hbl hbA hS (inb (m := L) rfl (by omega) (by omega)) dL_law_1691 ?_
  obtain ⟨y8, ey8⟩ : ∃ z : Int32, xs (i + (4 : Int32)).toNatClampNeg = z := ⟨_, rfl⟩
  rw [ey8]
  refine lv_aload_n hx hb dL_law_1692 rfl (lv_at hl 2 rfl) ?_
  have hFc := free_all hD hS hA
  refine va_calli (vx_runSW (As := [.ref o2, .int y2, .int y4, .int y6, .int y8, .ref qo]) (rest := []) ⟨hx, hb, hml, hown, hts⟩ (c_L_inStep l hst (e0 := e0) (mi := mi) (D := D) (cy := cy) (c8 := c8) (c9 := c9) qo qd fo fd S _ o2 h_o2 y2 y4 y6 y8 (hW)) (vx_cwSW 6 hts gL_law_L_inStep rfl rfl rfl (by decide +kernel) ⟨Nat.le_of_ble_eq_true rfl, Nat.le_of_ble_eq_true rfl⟩) ⟨fun a U g mk q => ⟨q.1, q.2.1, q.2.2.1.calling, NW.same (u := U) (U := U.calling g mk a) rfl q.2.2.2.1, q.2.2.2.2.1.calling, q.2.2.2.2.2.1.calling, q.2.2.2.2.2.2.calling⟩, fun U hU hW => ⟨rfl, by rw [hU], wx_pre hP hKX hD hU hW, hN.warm hW, th_pre hTH hS hFc hU hW, ou_pre hOU hS hFc hU hW, hNC.moved hW.alike⟩⟩ rfl rfl hl.1 rfl (lv_room (Nat.le_of_ble_eq_true rfl)) dL_law_1693 ⟨by omega, by omega⟩) hS (fun q _ h => hFc q h) hFc (fun r9 u t H1 locs ht hvm hw hB hz1 hk1 hS => ?_)
  obtain ⟨S10, f11⟩ := u
  have w12 := hw
  obtain ⟨hP, hD⟩ := wx_post hFc ht hB
  generalize H1 = H at hP hS ⊢
  have w12 : stp ([] : List (Nat × Nat)) [] [] S S10 := w12
  have v13 : IV S10 o1 := IV.keep w12 hW h_o1 (by decide) (by decide) hIV
  have v14 : MV S10 o1 := MV.keep w12 hW h_o1 (by decide) (by decide) hMV
  have v15 : (RG o2) S10 o1 := RG.keep w12 hW h_o1 (by decide) (by decide) hR_RG
  have xe16 : ext S S10 := w12.x
  refine lv_istore (lv' := [(6, .int r9), (5, .int i), (4, .ref qd), (3, .ref qo), (2, .ref o1), (1, .ref o2), (0, .ref b)]) hx hb dL_law_1696 hl (by decide) rfl (fun ls hl => ?_)
  refine lv_aload_n hx hb dL_law_1698 rfl (lv_at hl 4 rfl) ?_
  refine lv_aload_n hx hb dL_law_1699 rfl (lv_at hl 6 rfl) ?_
  refine lv_iload hx hb dL_law_1700 (lv_at hl 1 rfl) ?_
  refine lv_iconst (v := 1) hx hb dL_law_1702 (by decide) ?_
  refine lv_iadd hx hb dL_law_1703 ?_
  refine va_sld hx hb hX hbl hbA hS (inb (m := L) rfl (by omega) (by omega)) dL_law_1704 ?_
  rw [ey2]
  refine lv_aload_n hx hb dL_law_1705 rfl (lv_at hl 6 rfl) ?_
  refine lv_iload hx hb dL_law_1706 (lv_at hl 1 rfl) ?_
  refine lv_iconst (v := 2) hx hb dL_law_1708 (by decide) ?_
  refine lv_iadd hx hb dL_law_1709 ?_
  refine va_sld hx hb hX hbl hbA hS (inb (m := L) rfl (by omega) (by omega)) dL_law_1710 ?_
  rw [ey4]
  refine lv_aload_n hx hb dL_law_1711 rfl (lv_at hl 6 rfl) ?_
  refine lv_iload hx hb dL_law_1712 (lv_at hl 1 rfl) ?_
  refine lv_iconst (v := 3) hx hb dL_law_1714 (by decide) ?_
  refine lv_iadd hx hb dL_law_1715 ?_
  refine va_sld hx hb hX hbl hbA hS (inb (m := L) rfl (by omega) (by omega)) dL_law_1716 ?_
  rw [ey6]
  refine lv_aload_n hx hb dL_law_1717 rfl (lv_at hl 6 rfl) ?_
  refine lv_iload hx hb dL_law_1718 (lv_at hl 1 rfl) ?_
  refine lv_iconst (v := 4) hx hb dL_law_1720 (by decide) ?_
  refine lv_iadd hx hb dL_law_1721 ?_
  refine va_sld hx hb hX hbl hbA hS (inb (m := L) rfl (by omega) (by omega)) dL_law_1722 ?_
  rw [ey8]
  have hFc := free_all hD hS hA
  obtain ⟨k18, gk18, hk18⟩ := wGt (cy := cy) (XO c8 c9 qo qd f11 fd) S10 (xe16.A h_o1).1 (xe16.A h_o1).2.1
  refine va_calli (va_runV (As := [.int y2, .int y4, .int y6, .int y8]) (rest := []) ⟨hx, hb, hml, hown, hts⟩ (c_X12_inStep l (cy := cy) (X := (XO c8 c9 qo qd f11 fd)) (D := D) S10 _ o1 (xe16.A h_o1) y2 y4 y6 y8 (w12.w)) (cwV 4 hts gL_law_X12_inStep rfl rfl rfl hd_X12_inStep ⟨Nat.le_of_ble_eq_true rfl, Nat.le_of_ble_eq_true rfl⟩) ⟨fun a U g mk q => ⟨q.1, q.2.1, q.2.2.1.calling, NW.same (u := U) (U := U.calling g mk a) rfl q.2.2.2⟩, va_recv hK hP (q := (RX12, TX12, 34)) (ci := 16) (q0 := k18) rfl hk18, fun U hU hW => ⟨rfl, by rw [hU], wd_pre hP hK hD hU hW, hN.warm hW⟩⟩ rfl rfl hl.1 rfl (lv_room (Nat.le_of_ble_eq_true rfl)) dL_law_1723 ⟨by omega, by omega⟩) hS (fun q _ h => hFc q h) hFc (fun r17 u t H1 locs ht hvm hw hB hz1 hk1 hS => ?_)
  obtain ⟨w19, y20⟩ := hw
  obtain ⟨hP, hD⟩ := wd_post hFc ht hB
  generalize H1 = H at hP hS ⊢
  obtain ⟨S21, rfl⟩ : ∃ z, z = u := ⟨_, rfl⟩
  have v22 : IV S21 o1 := IV.keep w19 w12.w (xe16.A h_o1) (by decide) (by decide) v13
  have v23 : MV S21 o1 := MV.keep w19 w12.w (xe16.A h_o1) (by decide) (by decide) v14
  have v24 : (RG o2) S21 o1 := RG.keep w19 w12.w (xe16.A h_o1) (by decide) (by decide) v15
  have xe25 : ext S10 S21 := w19.x
  refine lv_istore (lv' := [(7, .int r17), (6, .int r9), (5, .int i), (4, .ref qd), (3, .ref qo), (2, .ref o1), (1, .ref o2), (0, .ref b)]) hx hb dL_law_1726 hl (by decide) rfl (fun ls hl => ?_)
  refine lv_goto (tgt := 2931) hx hb dL_law_1728 (by decide) ?_
  refine W.widen (k := cells + 40) (n := slots + 1200) (by omega) (by omega) ?_
  exact kk S21 f11 fd H _ ls ⟨hP, hD, w19.w, ((xe16.tr xe25).A h_o2), (xe25.A (xe16.A h_o1)), ((xe16.tr xe25).F h_o1 (by decide) h77), v23, v22, v24⟩ hS (lv_sub hl [2, 3, 4, 5, 6, 7] rfl)
set_option maxHeartbeats 4000000 in
set_option maxRecDepth 100000 in
theorem road_31 {p : Program} {l : Launch} {e : Env} {s : State} {m : MethodId} {below : List Frame} {meth : Method} {c : Code} {b L : Nat} {xs : Nat → Int32} {D : va_G} {cy : Nat → ClassId} {c8 c9 : ClassId} {e0 mi : Nat} {Q : State → Prop} {qo qd o1 o2 : Nat} (C0 : LC p l s m c b L xs D cy c8 c9 e0 mi) (hL9 : L ≤ 2560) {S : wPS} {fo : Nat → Int64} {fd : Nat → UInt64} {H : Heap} {locs : List Loc} {ls : Array Slot} {cells slots : Nat} {i : Int32} (hi : 0 ≤ i.toInt ∧ i.toInt + 5 ≤ L) (hI : LI D cy c8 c9 e0 (fun q => s.heap.size ≤ q) o1 o2 qo qd fo fd S H) (hS : va_S (fun q => s.heap.size ≤ q) s.heap H locs) (hc : cells + 40 ≤ room_1.cells) (hs : slots + 1200 ≤ room_1.slots) (hl : lv_has ls 9 [(5, .int i), (4, .ref qd), (3, .ref qo), (2, .ref o1), (1, .ref o2), (0, .ref b)]) (kk : ∀ (S2 : wPS) (fo2 : Nat → Int64) (fd2 : Nat → UInt64) (H2 : Heap) (locs2 : List Loc) (ls2 : Array Slot), LI D cy c8 c9 e0 (fun q => s.heap.size ≤ q) o1 o2 qo qd fo2 fd2 S2 H2 → va_S (fun q => s.heap.size ≤ q) s.heap H2 locs2 → lv_has ls2 9 [(5, .int i), (4, .ref qd), (3, .ref qo), (2, .ref o1), (1, .ref o2), (0, .ref b)] → W p l e room_1 s m #[Value.ref b] below meth c H2 locs2 (cells + 40) (slots + 1200) Q (F0 m 2931 ls2 [])) : W p l e room_1 s m #[Value.ref b] below meth c H locs cells slots Q (F0 m 1731 ls []) := by
  obtain ⟨hx, hb, hml, hown, hts, hX, hbl, hN, hTH, hOU, hKX, hst, hNC⟩ := id C0
  obtain ⟨hP, hD, hW, h_o2, h_o1, h77, hMV, hIV, hR_RG⟩ := hI
  have hK := kX hKX
  have hA : ∀ q : Nat, s.heap.size ≤ q → (fun q : Nat => s.heap.size ≤ q) q := fun _ h => h
  have hbA : ¬ (fun q : Nat => s.heap.size ≤ q) b := Nat.not_le.mpr hbl
  refine lv_aload_n hx hb dL_law_1731 rfl (lv_at hl 4 rfl) ?_
  refine lv_aload_n hx hb dL_law_1732 rfl (lv_at hl 5 rfl) ?_
  refine lv_iload hx hb dL_law_1733 (lv_at hl 0 rfl) ?_
  refine lv_iconst (v := 1) hx hb dL_law_1735 (by decide) ?_
  refine lv_iadd hx hb dL_law_1736 ?_
  have l32_1 : (1 : Int32).toInt = 1 := rfl
  have i1 : (i + (1 : Int32)).toInt = i.toInt + 1 := t_addr (n := 1) rfl (by omega)
  refine va_sld hx hb hX hbl hbA hS (inb (m := L) rfl (by omega) (by omega)) dL_law_1737 ?_
  obtain ⟨y2, ey2⟩ : ∃ z : Int32, xs (i + (1 : Int32)).toNatClampNeg = z := ⟨_, rfl⟩
  rw [ey2]
  refine lv_aload_n hx hb dL_law_1738 rfl (lv_at hl 5 rfl) ?_
  refine lv_iload hx hb dL_law_1739 (lv_at hl 0 rfl) ?_
  refine lv_iconst (v := 2) hx hb dL_law_1741 (by decide) ?_
  refine lv_iadd hx hb dL_law_1742 ?_
  have l32_2 : (2 : Int32).toInt = 2 := rfl
  have i3 : (i + (2 : Int32)).toInt = i.toInt + 2 := t_addr (n := 2) rfl (by omega)
  refine va_sld hx hb hX hbl hbA hS (inb (m := L) rfl (by omega) (by omega)) dL_law_1743 ?_
  obtain ⟨y4, ey4⟩ : ∃ z : Int32, xs (i + (2 : Int32)).toNatClampNeg = z := ⟨_, rfl⟩
  rw [ey4]
  refine lv_aload_n hx hb dL_law_1744 rfl (lv_at hl 5 rfl) ?_
  refine lv_iload hx hb dL_law_1745 (lv_at hl 0 rfl) ?_
  refine lv_iconst (v := 3) hx hb dL_law_1747 (by decide) ?_
  refine lv_iadd hx hb dL_law_1748 ?_
  have l32_3 : (3 : Int32).toInt = 3 := rfl
  have i5 : (i + (3 : Int32)).toInt = i.toInt + 3 := t_addr (n := 3) rfl (by omega)
  refine va_sld hx hb hX hbl hbA hS (inb (m := L) rfl (by omega) (by omega)) dL_law_1749 ?_
  obtain ⟨y6, ey6⟩ : ∃ z : Int32, xs (i + (3 : Int32)).toNatClampNeg = z := ⟨_, rfl⟩
  rw [ey6]
  refine lv_aload_n hx hb dL_law_1750 rfl (lv_at hl 2 rfl) ?_
  have hFc := free_all hD hS hA
  refine va_calli (vx_runSW (As := [.ref o2, .int y2, .int y4, .int y6, .ref qo]) (rest := []) ⟨hx, hb, hml, hown, hts⟩ (c_L_clock l hst (e0 := e0) (mi := mi) (D := D) (cy := cy) (c8 := c8) (c9 := c9) qo qd fo fd S _ o2 h_o2 y2 y4 y6 (hW)) (vx_cwSW 5 hts gL_law_L_clock rfl rfl rfl (by decide +kernel) ⟨Nat.le_of_ble_eq_true rfl, Nat.le_of_ble_eq_true rfl⟩) ⟨fun a U g mk q => ⟨q.1, q.2.1, q.2.2.1.calling, NW.same (u := U) (U := U.calling g mk a) rfl q.2.2.2.1, q.2.2.2.2.1.calling, q.2.2.2.2.2.1.calling, q.2.2.2.2.2.2.calling⟩, fun U hU hW => ⟨rfl, by rw [hU], wx_pre hP hKX hD hU hW, hN.warm hW, th_pre hTH hS hFc hU hW, ou_pre hOU hS hFc hU hW, hNC.moved hW.alike⟩⟩ rfl rfl hl.1 rfl (lv_room (Nat.le_of_ble_eq_true rfl)) dL_law_1751 ⟨by omega, by omega⟩) hS (fun q _ h => hFc q h) hFc (fun r7 u t H1 locs ht hvm hw hB hz1 hk1 hS => ?_)
  obtain ⟨S8, f9⟩ := u
  have w10 := hw
  obtain ⟨hP, hD⟩ := wx_post hFc ht hB
  generalize H1 = H at hP hS ⊢
  have w10 : stp ([] : List (Nat × Nat)) [] [] S S8 := w10
  have v11 : IV S8 o1 := IV.keep w10 hW h_o1 (by decide) (by decide) hIV
  have v12 : MV S8 o1 := MV.keep w10 hW h_o1 (by decide) (by decide) hMV
  have v13 : (RG o2) S8 o1 := RG.keep w10 hW h_o1 (by decide) (by decide) hR_RG
  have xe14 : ext S S8 := w10.x
  refine lv_istore (lv' := [(6, .int r7), (5, .int i), (4, .ref qd), (3, .ref qo), (2, .ref o1), (1, .ref o2), (0, .ref b)]) hx hb dL_law_1754 hl (by decide) rfl (fun ls hl => ?_)
  refine lv_aload_n hx hb dL_law_1756 rfl (lv_at hl 4 rfl) ?_
  refine lv_aload_n hx hb dL_law_1757 rfl (lv_at hl 6 rfl) ?_
  refine lv_iload hx hb dL_law_1758 (lv_at hl 1 rfl) ?_
  refine lv_iconst (v := 1) hx hb dL_law_1760 (by decide) ?_
  refine lv_iadd hx hb dL_law_1761 ?_
  refine va_sld hx hb hX hbl hbA hS (inb (m := L) rfl (by omega) (by omega)) dL_law_1762 ?_
  rw [ey2]
  refine lv_aload_n hx hb dL_law_1763 rfl (lv_at hl 6 rfl) ?_
  refine lv_iload hx hb dL_law_1764 (lv_at hl 1 rfl) ?_
  refine lv_iconst (v := 2) hx hb dL_law_1766 (by decide) ?_
  refine lv_iadd hx hb dL_law_1767 ?_
  refine va_sld hx hb hX hbl hbA hS (inb (m := L) rfl (by omega) (by omega)) dL_law_1768 ?_
  rw [ey4]
  refine lv_aload_n hx hb dL_law_1769 rfl (lv_at hl 6 rfl) ?_
  refine lv_iload hx hb dL_law_1770 (lv_at hl 1 rfl) ?_
  refine lv_iconst (v := 3) hx hb dL_law_1772 (by decide) ?_
  refine lv_iadd hx hb dL_law_1773 ?_
  refine va_sld hx hb hX hbl hbA hS (inb (m := L) rfl (by omega) (by omega)) dL_law_1774 ?_
  rw [ey6]
  have hFc := free_all hD hS hA
  obtain ⟨k16, gk16, hk16⟩ := wGt (cy := cy) (XO c8 c9 qo qd f9 fd) S8 (xe14.A h_o1).1 (xe14.A h_o1).2.1
  refine va_calli (va_runV (As := [.int y2, .int y4, .int y6]) (rest := []) ⟨hx, hb, hml, hown, hts⟩ (c_X12_clock l (cy := cy) (X := (XO c8 c9 qo qd f9 fd)) (D := D) S8 _ o1 (xe14.A h_o1) y2 y4 y6 (w10.w)) (cwV 3 hts gL_law_X12_clock rfl rfl rfl hd_X12_clock ⟨Nat.le_of_ble_eq_true rfl, Nat.le_of_ble_eq_true rfl⟩) ⟨fun a U g mk q => ⟨q.1, q.2.1, q.2.2.1.calling, NW.same (u := U) (U := U.calling g mk a) rfl q.2.2.2⟩, va_recv hK hP (q := (RX12, TX12, 34)) (ci := 16) (q0 := k16) rfl hk16, fun U hU hW => ⟨rfl, by rw [hU], wd_pre hP hK hD hU hW, hN.warm hW⟩⟩ rfl rfl hl.1 rfl (lv_room (Nat.le_of_ble_eq_true rfl)) dL_law_1775 ⟨by omega, by omega⟩) hS (fun q _ h => hFc q h) hFc (fun r15 u t H1 locs ht hvm hw hB hz1 hk1 hS => ?_)
  obtain ⟨c17, w18⟩ := hw
  obtain ⟨hP, hD⟩ := wd_post hFc ht hB
  generalize H1 = H at hP hS ⊢
  obtain ⟨S19, rfl⟩ : ∃ z, z = u := ⟨_, rfl⟩
  have v20 : IV S19 o1 := IV.keep w18 w10.w (xe14.A h_o1) (by decide) (by decide) v11
  have v21 : MV S19 o1 := MV.keep w18 w10.w (xe14.A h_o1) (by decide) (by decide) v12
  have v22 : (RG o2) S19 o1 := RG.keep w18 w10.w (xe14.A h_o1) (by decide) (by decide) v13
  have xe23 : ext S8 S19 := w18.x
  refine lv_istore (lv' := [(7, .int r15), (6, .int r7), (5, .int i), (4, .ref qd), (3, .ref qo), (2, .ref o1), (1, .ref o2), (0, .ref b)]) hx hb dL_law_1778 hl (by decide) rfl (fun ls hl => ?_)
  refine lv_goto (tgt := 2931) hx hb dL_law_1780 (by decide) ?_
  refine W.widen (k := cells + 40) (n := slots + 1200) (by omega) (by omega) ?_
  exact kk S19 f9 fd H _ ls ⟨hP, hD, w18.w, ((xe14.tr xe23).A h_o2), (xe23.A (xe14.A h_o1)), ((xe14.tr xe23).F h_o1 (by decide) h77), v21, v20, v22⟩ hS (lv_sub hl [2, 3, 4, 5, 6, 7] rfl)
