theorem hi_L_law_X12 : ∀ w ∈ u_ws RX12 TX12 34, w ∈ wsL_law := fun w h => (List.mem_append_left _ (List.mem_append_left _ (List.mem_append_left _ (List.mem_append_left _ (List.mem_append_left _ (List.mem_append_left _ (List.mem_append_left _ (List.mem_append_left _ (List.mem_append_left _ (List.mem_append_left _ (List.mem_append_left _ (List.mem_append_left _ (List.mem_append_left _ (List.mem_append_left _ (List.mem_append_left _ (List.mem_append_left _ (List.mem_append_left _ (List.mem_append_left _ (List.mem_append_left _ (List.mem_append_left _ (List.mem_append_left _ (List.mem_append_left _ (List.mem_append_right _ h)))))))))))))))))))))))
theorem hi_L_law_X9 : ∀ w ∈ u_ws RX9 TX9 11, w ∈ wsL_law := fun w h => (List.mem_append_left _ (List.mem_append_left _ (List.mem_append_left _ (List.mem_append_left _ (List.mem_append_left _ (List.mem_append_left _ (List.mem_append_left _ (List.mem_append_left _ (List.mem_append_left _ (List.mem_append_left _ (List.mem_append_left _ (List.mem_append_left _ (List.mem_append_left _ (List.mem_append_left _ (List.mem_append_left _ (List.mem_append_left _ (List.mem_append_left _ (List.mem_append_left _ (List.mem_append_left _ (List.mem_append_left _ (List.mem_append_left _ (List.mem_append_left _ (List.mem_append_left _ (List.mem_append_right _ h))))))))))))))))))))))))
set_option maxHeartbeats 4000000 in
set_option maxRecDepth 100000 in
/-- the law from its entry -/
theorem law_start {p : Program} {l : Launch} {e : Env} {s : State} {m : MethodId} {below : List Frame} {meth : Method} {c : Code} {b L : Nat} {xs : Nat → Int32} {D : va_G} {cy : Nat → ClassId} {c8 c9 : ClassId} {e0 mi : Nat} {Q : State → Prop} (C0 : LC p l s m c b L xs D cy c8 c9 e0 mi) (hL9 : L ≤ 2560) (hend : ∀ (H : Heap) (locs : List Loc) (ls : Array Slot), va_S (fun q => s.heap.size ≤ q) s.heap H locs → W p l e room_1 s m #[Value.ref b] below meth c H locs 603072 7215210 Q (F0 m 2930 ls [])) (S : wPS) (hL0 : S.L = []) {ls : Array Slot} (hl : lv_has ls 9 [(0, .ref b)]) : W p l e room_1 s m #[Value.ref b] below meth c s.heap [] 0 0 Q (F0 m 0 ls []) := by
  obtain ⟨hx, hb, hml, hown, hts, hX, hbl, hN, hTH, hOU, hKX, hst, hNC⟩ := id C0
  have hK := kX hKX
  have hW : wtB S [] := fun a ha => by rw [hL0] at ha; exact absurd ha List.not_mem_nil
  obtain ⟨X, hXe⟩ : ∃ X : va_W, X = [] := ⟨_, rfl⟩
  obtain ⟨A, hAe⟩ : ∃ A : Nat → Prop, A = (fun q => s.heap.size ≤ q) := ⟨_, rfl⟩
  have hA : ∀ q : Nat, s.heap.size ≤ q → A q := fun q h => by rw [hAe]; exact h
  have hS : va_S A s.heap s.heap [] := va_S.rf
  have hOU : OU e0 mi A s s.heap := by rw [hAe]; exact hOU
  have hPL : X ++ PL cy S = [] := by rw [hXe]; show [] ++ va_pl S.L _ = []; rw [hL0]; rfl
  have hP : va_P D vwCl (X ++ PL cy S) s.heap := by rw [hPL]; exact fun k q h => by simp at h
  have hD : va_D A (X ++ PL cy S) := by rw [hPL]; exact ⟨fun i j p q h => by simp at h, fun k q h => by simp at h⟩
  obtain ⟨H, hHe⟩ : ∃ H : Heap, H = s.heap := ⟨_, rfl⟩
  have hP : va_P D vwCl (X ++ PL cy S) H := by rw [hHe]; exact hP
  have hS : va_S A s.heap H [] := by rw [hHe]; exact hS
  rw [← hHe]
  have t0 : stp ([] : List (Nat × Nat)) [] [] S S := stp.rf hW
  refine va_new (ci := 13) (fs := [.null, .int 0, .null, .int 0, .null, .int 0, .null, .null, .null, .int 0, .int 0]) (C := RX9) (T := TX9) (N := 11) hx hb hts hi_L_law_X9 tyX9 tyX9_ok hown (hts (.classLink RL 8 RX9) (by decide +kernel)) (hts (.instantiable RX9 11) (by decide +kernel)) (hts (.initialized RX9) (by decide +kernel)) hK hP hD hS hA rfl (fun j hj => by rcases (show j = 0 ∨ j = 1 ∨ j = 2 ∨ j = 3 ∨ j = 4 ∨ j = 5 ∨ j = 6 ∨ j = 7 ∨ j = 8 ∨ j = 9 ∨ j = 10 by omega) with rfl | rfl | rfl | rfl | rfl | rfl | rfl | rfl | rfl | rfl | rfl <;> rfl) (Nat.le_of_ble_eq_true rfl) (Nat.le_of_ble_eq_true rfl) dL_law_0 (fun qa1 H hP2 hD2 hS => ?_)
  have hqa1 : qa1 ∉ S.L := nw_q hD2
  have e9 := wNw (cy := cy) (X := X) (S := S) (a := qa1) (k := 9) (z := 0) (f := fun _ => 0) (g := fun _ => none) hqa1 rfl
  obtain ⟨S2, hS2⟩ : ∃ z, S.nw qa1 9 0 (fun _ => 0) (fun _ => none) = z := ⟨_, rfl⟩
  have hP : va_P D vwCl (X ++ PL cy S2) H := by rw [← hS2, ← e9]; exact hP2
  have hD : va_D A (X ++ PL cy S2) := by rw [← hS2, ← e9]; exact hD2
  have xe3 : ext S S2 := by rw [← hS2]; exact ext.nw hqa1
  have t4 : stp ([] : List (Nat × Nat)) [] (qa1 :: []) S S2 := by rw [← hS2]; exact t0.nw hqa1 (Or.inl (by decide))
  refine W.widen (k := 1) (n := 11) (Nat.le_of_ble_eq_true rfl) (Nat.le_of_ble_eq_true rfl) ?_
  have aqa1 : isA S2 qa1 9 := by rw [← hS2]; exact nw_A (by decide)
  have fqa1 : ∀ j, S2.F qa1 j = none := by rw [← hS2]; exact nw_F
  have iqa1 : ∀ j, S2.I qa1 j = 0 := by rw [← hS2]; exact nw_I
  have bqa1 : qa1 ∉ S.L := fun e => hqa1 e
  refine lv_dup hx hb dL_law_3 rfl ?_
  have hFc := free_all hD hS hA
  refine va_callv (va_runI (As := []) (rest := [.ref qa1]) ⟨hx, hb, hml, hown, hts⟩ (c_X9_init l (cy := cy) (X := X) (D := D) S2 _ qa1 aqa1 [] (t4.w) fqa1 iqa1) (cwI 0 hts gL_law_X9_init rfl rfl rfl (hts (.initialized RX9) (by decide +kernel)) (hts (.methodLink RL 221 yX9_init) (by decide +kernel)) (hts (.instanceMethod yX9_init) (by decide +kernel)) rfl (by decide +kernel) ⟨Nat.le_of_ble_eq_true rfl, Nat.le_of_ble_eq_true rfl⟩) (pS hP hK hD hN) rfl rfl hl.1 rfl (lv_room (Nat.le_of_ble_eq_true rfl)) dL_law_4 ⟨Nat.le_of_ble_eq_true rfl, Nat.le_of_ble_eq_true rfl⟩) hS (fun q _ h => hFc q h) hFc (fun u t H1 locs ht hvm hw hB hz1 hk1 hS => ?_)
  obtain ⟨w6, y7, y8, y9, y10, y11, y12, y13⟩ := hw
  obtain ⟨hP, hD⟩ := wd_post hFc ht hB
  generalize H1 = H at hP hS ⊢
  obtain ⟨S14, rfl⟩ : ∃ z, z = u := ⟨_, rfl⟩
  have t15 : stp ([] : List (Nat × Nat)) [] [] S S14 := t4.tr w6 (by decide) (fun z q => by rw [List.mem_singleton.mp q]; exact (Or.inr bqa1))
  have xe16 : ext S2 S14 := w6.x
  refine lv_astore_n (lv' := [(1, .ref qa1), (0, .ref b)]) hx hb dL_law_7 rfl hl (by decide) rfl (fun ls hl => ?_)
  refine va_new (ci := 16) (fs := [.null, .null, .null, .null, .null, .null, .null, .null, .null, .null, .null, .null, .null, .null, .null, .int 0, .int 0, .int 0, .int 0, .int 0, .int 0, .int 0, .int 0, .int 0, .int 0, .int 0, .int 0, .long 0, .long 0, .null, .null, .null, .null, .null]) (C := RX12) (T := TX12) (N := 34) hx hb hts hi_L_law_X12 tyX12 tyX12_ok hown (hts (.classLink RL 222 RX12) (by decide +kernel)) (hts (.instantiable RX12 34) (by decide +kernel)) (hts (.initialized RX12) (by decide +kernel)) hK hP hD hS hA rfl (fun j hj => by rcases (show j = 0 ∨ j = 1 ∨ j = 2 ∨ j = 3 ∨ j = 4 ∨ j = 5 ∨ j = 6 ∨ j = 7 ∨ j = 8 ∨ j = 9 ∨ j = 10 ∨ j = 11 ∨ j = 12 ∨ j = 13 ∨ j = 14 ∨ j = 15 ∨ j = 16 ∨ j = 17 ∨ j = 18 ∨ j = 19 ∨ j = 20 ∨ j = 21 ∨ j = 22 ∨ j = 23 ∨ j = 24 ∨ j = 25 ∨ j = 26 ∨ j = 27 ∨ j = 28 ∨ j = 29 ∨ j = 30 ∨ j = 31 ∨ j = 32 ∨ j = 33 by omega) with rfl | rfl | rfl | rfl | rfl | rfl | rfl | rfl | rfl | rfl | rfl | rfl | rfl | rfl | rfl | rfl | rfl | rfl | rfl | rfl | rfl | rfl | rfl | rfl | rfl | rfl | rfl | rfl | rfl | rfl | rfl | rfl | rfl | rfl <;> rfl) (Nat.le_of_ble_eq_true rfl) (Nat.le_of_ble_eq_true rfl) dL_law_8 (fun qa17 H hP2 hD2 hS => ?_)
  have hqa17 : qa17 ∉ S14.L := nw_q hD2
  have e9 := wNw (cy := cy) (X := X) (S := S14) (a := qa17) (k := 12) (z := 0) (f := fun _ => 0) (g := fun _ => none) hqa17 rfl
  obtain ⟨S18, hS18⟩ : ∃ z, S14.nw qa17 12 0 (fun _ => 0) (fun _ => none) = z := ⟨_, rfl⟩
  have hP : va_P D vwCl (X ++ PL cy S18) H := by rw [← hS18, ← e9]; exact hP2
  have hD : va_D A (X ++ PL cy S18) := by rw [← hS18, ← e9]; exact hD2
  have xe19 : ext S14 S18 := by rw [← hS18]; exact ext.nw hqa17
  have t20 : stp ([] : List (Nat × Nat)) [] (qa17 :: []) S S18 := by rw [← hS18]; exact t15.nw hqa17 (Or.inl (by decide))
  have k21 : (S18.I qa1 1).toInt = (S14.I qa1 1).toInt := by rw [← hS18]; exact congrArg Int32.toInt (nw_Io hqa17 (xe16.A aqa1).1)
  refine W.widen (k := 20) (n := 970) (Nat.le_of_ble_eq_true rfl) (Nat.le_of_ble_eq_true rfl) ?_
  have aqa17 : isA S18 qa17 12 := by rw [← hS18]; exact nw_A (by decide)
  have fqa17 : ∀ j, S18.F qa17 j = none := by rw [← hS18]; exact nw_F
  have iqa17 : ∀ j, S18.I qa17 j = 0 := by rw [← hS18]; exact nw_I
  have bqa17 : qa17 ∉ S.L := fun e => hqa17 ((xe3.tr xe16) _ e).1
  refine lv_dup hx hb dL_law_11 rfl ?_
  have hFc := free_all hD hS hA
  refine va_callv (va_runI (As := []) (rest := [.ref qa17]) ⟨hx, hb, hml, hown, hts⟩ (c_X12_init l (e0 := e0) (mi := mi) (cy := cy) (X := X) (D := D) S18 _ qa17 aqa17 [] (t20.w) fqa17 iqa17) (cwI 0 hts gL_law_X12_init rfl rfl rfl (hts (.initialized RX12) (by decide +kernel)) (hts (.methodLink RL 224 yX12_init) (by decide +kernel)) (hts (.instanceMethod yX12_init) (by decide +kernel)) rfl (by decide +kernel) ⟨Nat.le_of_ble_eq_true rfl, Nat.le_of_ble_eq_true rfl⟩) (pSo hP hK hD hN hOU hS hFc) rfl rfl hl.1 rfl (lv_room (Nat.le_of_ble_eq_true rfl)) dL_law_12 ⟨Nat.le_of_ble_eq_true rfl, Nat.le_of_ble_eq_true rfl⟩) hS (fun q _ h => hFc q h) hFc (fun u t H1 locs ht hvm hw hB hz1 hk1 hS => ?_)
  obtain ⟨w23, y24, y25, y26, y27, y28, y29, y30, y31, y32, y33, y34, y35, y36, y37, y38, y39, y40, y41, y42, y43, y44, y45⟩ := hw
  obtain ⟨hP, hD⟩ := wd_post hFc ht hB
  generalize H1 = H at hP hS ⊢
  obtain ⟨S46, rfl⟩ : ∃ z, z = u := ⟨_, rfl⟩
  have t47 : stp ([] : List (Nat × Nat)) [] [] S S46 := t20.tr w23 (by decide) (fun z q => by rw [List.mem_singleton.mp q]; exact (Or.inr bqa17))
  have xe48 : ext S18 S46 := w23.x
  have k49 : (S46.I qa1 1).toInt = (S18.I qa1 1).toInt := by rw [(w23.fR qa1 (xe19.A (xe16.A aqa1)).1 (by rw [List.mem_singleton]; exact fun e => hqa17 (e ▸ (xe16.A aqa1).1))).1 1 (by rw [(xe19.A (xe16.A aqa1)).2.1]; decide) |>.1]
  refine lv_astore_n (lv' := [(2, .ref qa17), (1, .ref qa1), (0, .ref b)]) hx hb dL_law_15 rfl hl (by decide) rfl (fun ls hl => ?_)
  have hMV : MV S46 qa17 := fun g hg => absurd (old10 t47 (by decide) hg).1 (by rw [hL0]; exact List.not_mem_nil)
  have hIV : IV S46 qa17 := by
    intro j j1 j2 i9
    have z0 : (0 : Int32).toInt = 0 := rfl
    rcases (show j = 9 ∨ j = 10 ∨ j = 11 ∨ j = 12 ∨ j = 13 ∨ j = 14 by omega) with rfl | rfl | rfl | rfl | rfl | rfl
    · rw [y40 i9, z0]; omega
    · rw [y41 i9, z0]; omega
    · rw [y42 i9, z0]; omega
    · rw [y43 i9, z0]; omega
    · rw [y44 i9, z0]; omega
    · rw [y45 i9, z0]; omega
  have lv0 : (0 : Int32).toInt = 0 := rfl
  have rc1 := congrArg Int32.toInt y8
  have rm9 := congrArg Int32.toInt y38
  have hR9_RG : RG qa1 S46 qa17 := ⟨((xe19.tr xe48).A (xe16.A aqa1)), ((t47.w.at (xe48.A aqa17) List.not_mem_nil).to_12 (xe48.A aqa17).2.1).F0, by omega, fun i hi => absurd hi (by omega), fun i j hi => absurd hi (by omega)⟩
  subst hXe
  subst hAe
  refine lv_iconst (v := 1) hx hb dL_law_16 (by decide) ?_
  refine va_newa (atype := .long) hx hb (hts (.arrayClass .long) (wsL_law_mem _ (by decide +kernel))) (ty := .long) rfl hKX hP hD hS hA (N' := 1) (a0 := (1, .inr (.inl (fun _ => 0)))) (fun _ => rfl) (by decide) (by decide) (by decide) (Nat.le_of_ble_eq_true rfl) (Nat.le_of_ble_eq_true rfl) dL_law_17 (fun qo k8 H hK2 hP2 hD2 hS => ?_)
  obtain rfl : k8 = c8 := cls_at hKX 8 rfl hK2
  have hP := va_P.swap (a := []) (b := PL cy S46) (c := [(qo, .inl (k8, 1, .inr (.inl (fun _ => 0))))]) hP2
  have hD := va_D.swap (a := []) (b := PL cy S46) (c := [(qo, .inl (k8, 1, .inr (.inl (fun _ => 0))))]) hD2
  clear hP2 hD2
  refine lv_astore_n (lv' := [(3, .ref qo), (2, .ref qa17), (1, .ref qa1), (0, .ref b)]) hx hb dL_law_19 rfl hl (by decide) rfl (fun ls hl => ?_)
  refine lv_iconst (v := 1) hx hb dL_law_20 (by decide) ?_
  refine va_newa (atype := .double) hx hb (hts (.arrayClass .double) (wsL_law_mem _ (by decide +kernel))) (ty := .double) rfl hKX hP hD hS hA (N' := 1) (a0 := (1, .inr (.inr (.inr (.inl (fun _ => 0)))))) (fun _ => rfl) (by decide) (by decide) (by decide) (Nat.le_of_ble_eq_true rfl) (Nat.le_of_ble_eq_true rfl) dL_law_21 (fun qd k9 H hK2 hP2 hD2 hS => ?_)
  obtain rfl : k9 = c9 := cls_at hKX 9 rfl hK2
  have hP := va_P.swap (a := [(qo, .inl (k8, 1, .inr (.inl (fun _ => 0))))]) (b := PL cy S46) (c := [(qd, .inl (k9, 1, .inr (.inr (.inr (.inl (fun _ => 0))))))]) hP2
  have hD := va_D.swap (a := [(qo, .inl (k8, 1, .inr (.inl (fun _ => 0))))]) (b := PL cy S46) (c := [(qd, .inl (k9, 1, .inr (.inr (.inr (.inl (fun _ => 0))))))]) hD2
  refine lv_astore (lv' := [(4, .ref qd), (3, .ref qo), (2, .ref qa17), (1, .ref qa1), (0, .ref b)]) hx hb dL_law_23 hl (by decide) rfl (fun ls hl => ?_)
  refine lv_iconst (v := 0) hx hb dL_law_25 (by decide) ?_
  refine lv_istore (lv' := [(5, .int (0 : Int32)), (4, .ref qd), (3, .ref qo), (2, .ref qa17), (1, .ref qa1), (0, .ref b)]) hx hb dL_law_26 hl (by decide) rfl (fun ls hl => ?_)
  have z0 : (0 : Int32).toInt = 0 := rfl
  refine W.widen (k := 42) (n := 1877) (Nat.le_of_ble_eq_true rfl) (Nat.le_of_ble_eq_true rfl) ?_
  exact law_loop C0 hL9 hend 512 (0 : Int32) 42 1877 S46 (fun _ => 0) (fun _ => 0) H _ ls (by omega) (by omega) (by omega) (Nat.le_of_ble_eq_true rfl) (Nat.le_of_ble_eq_true rfl) ⟨hP, hD, t47.w, ((xe19.tr xe48).A (xe16.A aqa1)), (xe48.A aqa17), y37, hMV, hIV, hR9_RG⟩ hS (lv_sub hl [0, 1, 2, 3, 4, 5] rfl)
