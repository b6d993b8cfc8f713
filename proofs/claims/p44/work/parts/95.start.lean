theorem hi_L_law_X12 : ∀ w ∈ u_ws RX12 TX12 34, w ∈ wsL_law := fun w h => (List.mem_append_left _ (List.mem_append_left _ (List.mem_append_left _ (List.mem_append_left _ (List.mem_append_left _ (List.mem_append_left _ (List.mem_append_left _ (List.mem_append_left _ (List.mem_append_left _ (List.mem_append_left _ (List.mem_append_left _ (List.mem_append_left _ (List.mem_append_left _ (List.mem_append_left _ (List.mem_append_left _ (List.mem_append_left _ (List.mem_append_left _ (List.mem_append_left _ (List.mem_append_left _ (List.mem_append_left _ (List.mem_append_left _ (List.mem_append_left _ (List.mem_append_right _ h)))))))))))))))))))))))
theorem hi_L_law_X9 : ∀ w ∈ u_ws RX9 TX9 11, w ∈ wsL_law := fun w h => (List.mem_append_left _ (List.mem_append_left _ (List.mem_append_left _ (List.mem_append_left _ (List.mem_append_left _ (List.mem_append_left _ (List.mem_append_left _ (List.mem_append_left _ (List.mem_append_left _ (List.mem_append_left _ (List.mem_append_left _ (List.mem_append_left _ (List.mem_append_left _ (List.mem_append_left _ (List.mem_append_left _ (List.mem_append_left _ (List.mem_append_left _ (List.mem_append_left _ (List.mem_append_left _ (List.mem_append_left _ (List.mem_append_left _ (List.mem_append_left _ (List.mem_append_left _ (List.mem_append_right _ h))))))))))))))))))))))))
set_option maxHeartbeats 4000000 in
set_option maxRecDepth 100000 in
/-- the law from its entry -/
theorem law_start {p : Program} {l : Launch} {e : Env} {s : State} {m : MethodId} {below : List Frame} {meth : Method} {c : Code} {b L : Nat} {xs : Nat → Int32} {D : va_G} {cy : Nat → ClassId} {c8 c9 : ClassId} {e0 mi : Nat} {Q : State → Prop} (C0 : LC p l s m c b L xs D cy c8 c9 e0 mi) (hL9 : L ≤ 2560) (hend : ∀ (H : Heap) (locs : List Loc) (ls : Array Slot), va_S (fun q => s.heap.size ≤ q) s.heap H locs → W p l e room_1 s m #[Value.ref b] below meth c H locs 603072 7215210 Q (F0 m 2930 ls [])) (S : wPS) (hL0 : S.L = []) {ls : Array Slot} (hl : lv_has ls 9 [(0, .ref b)]) : W p l e room_1 s m #[Value.ref b] below meth c s.heap [] 0 0 Q (F0 m 0 ls []) := by
  obtain ⟨hx, hb, hml, hown, hts, hX, hbl, hN, hTH, hOU, hKX, hst, hNC⟩ := id C0
  have hK := kX hKX
  have hW : wtB S [] := fun a ha => by rw [hL0] at ha; exact absurd ha List.not_mem_nil
  obtain ⟨X, hXe⟩ : ∃ X : va_W, X = [] := ⟨_, rfl⟩
  obtain ⟨A, hAe⟩ : ∃ A : Nat → Prop, A = (fun q => s.heap.size ≤ q) := ⟨_, rfl⟩
  have hA : ∀ q : Nat, s.heap.size ≤ q → A q := fun q h => by rw [hAe]; exact h
  have hS : va_S A s.heap s.heap [] := va_S.rf
  have hOU : OU e0 mi A s s.heap := by rw [hAe]; exact hOU
  have hPL : X ++ PL cy S = [] := by rw [hXe]; show [] ++ va_pl S.L _ = []; rw [hL0]; rfl
  have hP : va_P D vwCl (X ++ PL cy S) s.heap := by rw [hPL]; exact fun k q h => by simp at h
  have hD : va_D A (X ++ PL cy S) := by rw [hPL]; exact ⟨fun i j p q h => by simp at h, fun k q h => by simp at h⟩
  obtain ⟨H, hHe⟩ : ∃ H : Heap, H = s.heap := ⟨_, rfl⟩
  have hP : va_P D vwCl (X ++ PL cy S) H := by rw [hHe]; exact hP
  have hS : va_S A s.heap H [] := by rw [hHe]; exact hS
  rw [← hHe]
  have t0 : stp ([] : List (Nat × Nat)) [] [] S S := stp.rf hW
  refine va_new (ci := 13) (fs := [.null, .int 0, .null, .int 0, .null, .int 0, .null, .null, .null, .int 0, .int 0]) (C := RX9) (T := TX9) (N := 11) hx hb hts hi_L_law_X9 tyX9 tyX9_ok hown (hts (.classLink RL 8 RX9) (by decide +kernel)) (hts (.instantiable RX9 11) (by decide +kernel)) (hts (.initialized RX9) (by decide +kernel)) hK hP hD hS hA rfl (fun j hj => by rcases (show j = 0 ∨ j = 1 ∨ j = 2 ∨ j = 3 ∨ j = 4 ∨ j = 5 ∨ j = 6 ∨ j = 7 ∨ j = 8 ∨ j = 9 ∨ j = 10 by omega) with rfl | rfl | rfl | rfl | rfl | rfl | rfl | rfl | rfl | rfl | rfl <;> rfl) (Nat.le_of_ble_eq_true rfl) (Nat.le_of_ble_eq_true rfl) dL_law_0 (fun qa1 H hP2 hD2 hS => ?_)
  have hqa1 : qa1 ∉ S.L := nw_q hD2
  have e9 := wNw (cy := cy) (X := X) (S := S) (a := qa1) (k := 9) (z := 0) (f := fun _ => 0) (g := fun _ => none) hqa1 rfl
  obtain ⟨S2, hS2⟩ : ∃ z, S.nw qa1 9 0 (fun _ => 0) (fun _ => none) = z := ⟨_, rfl⟩
  have hP : va_P D vwCl (X ++ PL cy S2) H := by rw [← hS2, ← e9]; exact hP2
  have hD : va_D A (X ++ PL cy S2) := by rw [← hS2, ← e9]; exact hD2
  have xe3 : ext S S2 := by rw [← hS2]; exact ext.nw hqa1
  have t4 : stp ([] : List (Nat × Nat)) [] (qa1 :: []) S S2 := by rw [← hS2]; exact t0.nw hqa1 (Or.inl (by decide))
  refine W.widen (k := 1) (n := 11) (Nat.le_of_ble_eq_true rfl) (Nat.le_of_ble_eq_true rfl) ?_
  have aqa1 : isA S2 qa1 9 := by rw [← hS2]; exact nw_A (by decide)
  have fqa1 : ∀ j, S2.F qa1 j = none := by rw [← hS2]; exact nw_F
  have iqa1 : ∀ j, S2.I qa1 j = 0 := by rw [← hS2]; exact nw_I
  have bqa1 : qa1 ∉ S.L := fun e => hqa1 e
  refine lv_dup hx hb dL_law_3 rfl ?_
  have hFc := free_all hD hS hA
  refine va_callv (va_runI (As := []) (rest := [.ref qa1]) ⟨hx, hb, hml, hown, hts⟩ (c_X9_init l (cy := cy) (X := X) (D := D) S2 _ qa1 aqa1 [] (t4.w) fqa1 iqa1) (cwI 0 hts gL_law_X9_init rfl rfl rfl (hts (.initialized RX9) (by decide +kernel)) (hts (.methodLink RL 221 yX9_init) (by decide +kernel)) (hts (.instanceMethod yX9_init) (by decide +kernel)) rfl (by decide +kernel) ⟨Nat.le_of_ble_eq_true rfl, Nat.le_of_ble_eq_true rfl⟩) (pS hP hK hD hN) rfl rfl hl.1 rfl (lv_room (Nat.le_of_ble_eq_true rfl)) dL_law_4 ⟨Nat.le_of_ble_eq_true rfl, Nat.le_of_ble_eq_true rfl⟩) hS (fun q _ h => hFc q h) hFc (fun u t H1 locs ht hvm hw hB hz1 hk1 hS => ?_)
  obtain ⟨w6, y7, y8, y9, y10, y11, y12, y13, y14, y15, y16, y17, y18, y19⟩ := hw
  obtain ⟨hP, hD⟩ := wd_post hFc ht hB
  generalize H1 = H at hP hS ⊢
  obtain ⟨S20, rfl⟩ : ∃ z, z = u := ⟨_, rfl⟩
  have t21 : stp ([] : List (Nat × Nat)) [] [] S S20 := t4.tr w6 (by decide) (fun z q => by rw [List.mem_singleton.mp q]; exact (Or.inr bqa1))
  have xe22 : ext S2 S20 := w6.x
  refine lv_astore_n (lv' := [(1, .ref qa1), (0, .ref b)]) hx hb dL_law_7 rfl hl (by decide) rfl (fun ls hl => ?_)
  refine va_new (ci := 16) (fs := [.null, .null, .null, .null, .null, .null, .null, .null, .null, .null, .null, .null, .null, .null, .null, .int 0, .int 0, .int 0, .int 0, .int 0, .int 0, .int 0, .int 0, .int 0, .int 0, .int 0, .int 0, .long 0, .long 0, .null, .null, .null, .null, .null]) (C := RX12) (T := TX12) (N := 34) hx hb hts hi_L_law_X12 tyX12 tyX12_ok hown (hts (.classLink RL 222 RX12) (by decide +kernel)) (hts (.instantiable RX12 34) (by decide +kernel)) (hts (.initialized RX12) (by decide +kernel)) hK hP hD hS hA rfl (fun j hj => by rcases (show j = 0 ∨ j = 1 ∨ j = 2 ∨ j = 3 ∨ j = 4 ∨ j = 5 ∨ j = 6 ∨ j = 7 ∨ j = 8 ∨ j = 9 ∨ j = 10 ∨ j = 11 ∨ j = 12 ∨ j = 13 ∨ j = 14 ∨ j = 15 ∨ j = 16 ∨ j = 17 ∨ j = 18 ∨ j = 19 ∨ j = 20 ∨ j = 21 ∨ j = 22 ∨ j = 23 ∨ j = 24 ∨ j = 25 ∨ j = 26 ∨ j = 27 ∨ j = 28 ∨ j = 29 ∨ j = 30 ∨ j = 31 ∨ j = 32 ∨ j = 33 by omega) with rfl | rfl | rfl | rfl | rfl | rfl | rfl | rfl | rfl | rfl | rfl | rfl | rfl | rfl | rfl | rfl | rfl | rfl | rfl | rfl | rfl | rfl | rfl | rfl | rfl | rfl | rfl | rfl | rfl | rfl | rfl | rfl | rfl | rfl <;> rfl) (Nat.le_of_ble_eq_true rfl) (Nat.le_of_ble_eq_true rfl) dL_law_8 (fun qa23 H hP2 hD2 hS => ?_)
  have hqa23 : qa23 ∉ S20.L := nw_q hD2
  have e9 := wNw (cy := cy) (X := X) (S := S20) (a := qa23) (k := 12) (z := 0) (f := fun _ => 0) (g := fun _ => none) hqa23 rfl
  obtain ⟨S24, hS24⟩ : ∃ z, S20.nw qa23 12 0 (fun _ => 0) (fun _ => none) = z := ⟨_, rfl⟩
  have hP : va_P D vwCl (X ++ PL cy S24) H := by rw [← hS24, ← e9]; exact hP2
  have hD : va_D A (X ++ PL cy S24) := by rw [← hS24, ← e9]; exact hD2
  have xe25 : ext S20 S24 := by rw [← hS24]; exact ext.nw hqa23
  have t26 : stp ([] : List (Nat × Nat)) [] (qa23 :: []) S S24 := by rw [← hS24]; exact t21.nw hqa23 (Or.inl (by decide))
  have k27 : (S24.I qa1 1).toInt = (S20.I qa1 1).toInt := by rw [← hS24]; exact congrArg Int32.toInt (nw_Io hqa23 (xe22.A aqa1).1)
  have k28 : (S24.I qa1 1).toInt = (S20.I qa1 1).toInt := by rw [← hS24]; exact congrArg Int32.toInt (nw_Io hqa23 (xe22.A aqa1).1)
  refine W.widen (k := 20) (n := 970) (Nat.le_of_ble_eq_true rfl) (Nat.le_of_ble_eq_true rfl) ?_
  have aqa23 : isA S24 qa23 12 := by rw [← hS24]; exact nw_A (by decide)
  have fqa23 : ∀ j, S24.F qa23 j = none := by rw [← hS24]; exact nw_F
  have iqa23 : ∀ j, S24.I qa23 j = 0 := by rw [← hS24]; exact nw_I
  have bqa23 : qa23 ∉ S.L := fun e => hqa23 ((xe3.tr xe22) _ e).1
  refine lv_dup hx hb dL_law_11 rfl ?_
  have hFc := free_all hD hS hA
  refine va_callv (va_runI (As := []) (rest := [.ref qa23]) ⟨hx, hb, hml, hown, hts⟩ (c_X12_init l (e0 := e0) (mi := mi) (cy := cy) (X := X) (D := D) S24 _ qa23 aqa23 [] (t26.w) fqa23 iqa23) (cwI 0 hts gL_law_X12_init rfl rfl rfl (hts (.initialized RX12) (by decide +kernel)) (hts (.methodLink RL 224 yX12_init) (by decide +kernel)) (hts (.instanceMethod yX12_init) (by decide +kernel)) rfl (by decide +kernel) ⟨Nat.le_of_ble_eq_true rfl, Nat.le_of_ble_eq_true rfl⟩) (pSo hP hK hD hN hOU hS hFc) rfl rfl hl.1 rfl (lv_room (Nat.le_of_ble_eq_true rfl)) dL_law_12 ⟨Nat.le_of_ble_eq_true rfl, Nat.le_of_ble_eq_true rfl⟩) hS (fun q _ h => hFc q h) hFc (fun u t H1 locs ht hvm hw hB hz1 hk1 hS => ?_)
  obtain ⟨w30, y31, y32, y33, y34, y35, y36, y37, y38, y39, y40, y41, y42, y43, y44, y45, y46, y47, y48, y49, y50, y51, y52, y53, y54, y55, y56, y57, y58⟩ := hw
  obtain ⟨hP, hD⟩ := wd_post hFc ht hB
  generalize H1 = H at hP hS ⊢
  obtain ⟨S59, rfl⟩ : ∃ z, z = u := ⟨_, rfl⟩
  have t60 : stp ([] : List (Nat × Nat)) [] [] S S59 := t26.tr w30 (by decide) (fun z q => by rw [List.mem_singleton.mp q]; exact (Or.inr bqa23))
  have xe61 : ext S24 S59 := w30.x
  have k62 : (S59.I qa1 1).toInt = (S24.I qa1 1).toInt := by rw [(w30.fR qa1 (xe25.A (xe22.A aqa1)).1 (by rw [List.mem_singleton]; exact fun e => hqa23 (e ▸ (xe22.A aqa1).1))).1 1 (by rw [(xe25.A (xe22.A aqa1)).2.1]; decide) |>.1]
  have k63 : (S59.I qa1 1).toInt = (S24.I qa1 1).toInt := by rw [(w30.fR qa1 (xe25.A (xe22.A aqa1)).1 (by rw [List.mem_singleton]; exact fun e => hqa23 (e ▸ (xe22.A aqa1).1))).1 1 (by rw [(xe25.A (xe22.A aqa1)).2.1]; decide) |>.1]
  refine lv_astore_n (lv' := [(2, .ref qa23), (1, .ref qa1), (0, .ref b)]) hx hb dL_law_15 rfl hl (by decide) rfl (fun ls hl => ?_)
  have hMV : MV S59 qa23 := fun g hg => absurd (old10 t60 (by decide) hg).1 (by rw [hL0]; exact List.not_mem_nil)
  have hIV : IV S59 qa23 := by
    intro j j1 j2 i9
    have z0 : (0 : Int32).toInt = 0 := rfl
    rcases (show j = 9 ∨ j = 10 ∨ j = 11 ∨ j = 12 ∨ j = 13 ∨ j = 14 by omega) with rfl | rfl | rfl | rfl | rfl | rfl
    · rw [y47 i9, z0]; omega
    · rw [y48 i9, z0]; omega
    · rw [y49 i9, z0]; omega
    · rw [y50 i9, z0]; omega
    · rw [y51 i9, z0]; omega
    · rw [y52 i9, z0]; omega
  have lv0 : (0 : Int32).toInt = 0 := rfl
  have rc1 := congrArg Int32.toInt y8
  have rm9 := congrArg Int32.toInt y45
  have hR9_RG : RG qa1 S59 qa23 := ⟨((xe25.tr xe61).A (xe22.A aqa1)), ((t60.w.at (xe61.A aqa23) List.not_mem_nil).to_12 (xe61.A aqa23).2.1).F0, by omega, fun i hi => absurd hi (by omega), fun i j hi => absurd hi (by omega)⟩
  have rm9 := congrArg Int32.toInt y45
  have hR9_RK : RK qa1 S59 qa23 := ⟨((xe25.tr xe61).A (xe22.A aqa1)), ((t60.w.at (xe61.A aqa23) List.not_mem_nil).to_12 (xe61.A aqa23).2.1).F0, by omega, fun i hi => absurd hi (by omega), fun i j hi => absurd hi (by omega)⟩
  have hR9_RC : RC qa1 S59 qa23 := ⟨hR9_RK, fun i hi => absurd hi (by omega), fun i j hi => absurd hi (by omega)⟩
  have F64 := ((t21.w.at (xe22.A aqa1) List.not_mem_nil).to_9 (xe22.A aqa1).2.1).F7
  have q7r := ((xe25.tr xe61).F (xe22.A aqa1) (by decide) F64.1)
  have q7a := ((xe25.tr xe61).A F64.2)
  have F65 := ((t21.w.at F64.2 List.not_mem_nil).to_6 F64.2.2.1).F0
  have q7r0 := ((xe25.tr xe61).F F64.2 (by decide) F65.1)
  have F66 := ((t21.w.at F64.2 List.not_mem_nil).to_6 F64.2.2.1).F1
  have q7r1 := ((xe25.tr xe61).F F64.2 (by decide) F66.1)
  have F67 := ((t21.w.at F64.2 List.not_mem_nil).to_6 F64.2.2.1).F2
  have q7r2 := ((xe25.tr xe61).F F64.2 (by decide) F67.1)
  have F68 := ((t21.w.at F64.2 List.not_mem_nil).to_6 F64.2.2.1).F3
  have q7r3 := ((xe25.tr xe61).F F64.2 (by decide) F68.1)
  have F69 := ((t60.w.at (xe61.A aqa23) List.not_mem_nil).to_12 (xe61.A aqa23).2.1).F29
  have q12r0 := F69.1
  have F70 := ((t60.w.at (xe61.A aqa23) List.not_mem_nil).to_12 (xe61.A aqa23).2.1).F30
  have q12r1 := F70.1
  have F71 := ((t60.w.at (xe61.A aqa23) List.not_mem_nil).to_12 (xe61.A aqa23).2.1).F31
  have q12r2 := F71.1
  have F72 := ((t60.w.at (xe61.A aqa23) List.not_mem_nil).to_12 (xe61.A aqa23).2.1).F32
  have q12r3 := F72.1
  have hR9_RR : RR qa1 S59 qa23 := by
    refine ⟨((xe25.tr xe61).A (xe22.A aqa1)), ⟨by rw [f_of q7r]; exact q7r, by rw [f_of q7r]; exact q7a⟩, fun j hj => ?_, fun i j hi hj => ?_, fun j h1 h2 => ?_, fun i j h1 h2 h3 => ?_⟩
    · rcases (show j = 0 ∨ j = 1 ∨ j = 2 ∨ j = 3 by omega) with rfl | rfl | rfl | rfl
      · rw [f_of q7r, f_of q7r0]; exact q7r0
      · rw [f_of q7r, f_of q7r1]; exact q7r1
      · rw [f_of q7r, f_of q7r2]; exact q7r2
      · rw [f_of q7r, f_of q7r3]; exact q7r3
    · rcases (show (i = 0 ∧ j = 1) ∨ (i = 0 ∧ j = 2) ∨ (i = 0 ∧ j = 3) ∨ (i = 1 ∧ j = 2) ∨ (i = 1 ∧ j = 3) ∨ (i = 2 ∧ j = 3) by omega) with ⟨rfl, rfl⟩ | ⟨rfl, rfl⟩ | ⟨rfl, rfl⟩ | ⟨rfl, rfl⟩ | ⟨rfl, rfl⟩ | ⟨rfl, rfl⟩
      · rw [f_of q7r, f_of q7r0, f_of q7r1]; exact y14
      · rw [f_of q7r, f_of q7r0, f_of q7r2]; exact y15
      · rw [f_of q7r, f_of q7r0, f_of q7r3]; exact y16
      · rw [f_of q7r, f_of q7r1, f_of q7r2]; exact y17
      · rw [f_of q7r, f_of q7r1, f_of q7r3]; exact y18
      · rw [f_of q7r, f_of q7r2, f_of q7r3]; exact y19
    · rcases (show j = 29 ∨ j = 30 ∨ j = 31 ∨ j = 32 by omega) with rfl | rfl | rfl | rfl
      · rw [f_of q12r0]; exact q12r0
      · rw [f_of q12r1]; exact q12r1
      · rw [f_of q12r2]; exact q12r2
      · rw [f_of q12r3]; exact q12r3
    · rcases (show (i = 29 ∧ j = 30) ∨ (i = 29 ∧ j = 31) ∨ (i = 29 ∧ j = 32) ∨ (i = 30 ∧ j = 31) ∨ (i = 30 ∧ j = 32) ∨ (i = 31 ∧ j = 32) by omega) with ⟨rfl, rfl⟩ | ⟨rfl, rfl⟩ | ⟨rfl, rfl⟩ | ⟨rfl, rfl⟩ | ⟨rfl, rfl⟩ | ⟨rfl, rfl⟩
      · rw [f_of q12r0, f_of q12r1]; exact y53
      · rw [f_of q12r0, f_of q12r2]; exact y54
      · rw [f_of q12r0, f_of q12r3]; exact y55
      · rw [f_of q12r1, f_of q12r2]; exact y56
      · rw [f_of q12r1, f_of q12r3]; exact y57
      · rw [f_of q12r2, f_of q12r3]; exact y58
  subst hXe
  subst hAe
  refine lv_iconst (v := 1) hx hb dL_law_16 (by decide) ?_
  refine va_newa (atype := .long) hx hb (hts (.arrayClass .long) (wsL_law_mem _ (by decide +kernel))) (ty := .long) rfl hKX hP hD hS hA (N' := 1) (a0 := (1, .inr (.inl (fun _ => 0)))) (fun _ => rfl) (by decide) (by decide) (by decide) (Nat.le_of_ble_eq_true rfl) (Nat.le_of_ble_eq_true rfl) dL_law_17 (fun qo k8 H hK2 hP2 hD2 hS => ?_)
  obtain rfl : k8 = c8 := cls_at hKX 8 rfl hK2
  have hP := va_P.swap (a := []) (b := PL cy S59) (c := [(qo, .inl (k8, 1, .inr (.inl (fun _ => 0))))]) hP2
  have hD := va_D.swap (a := []) (b := PL cy S59) (c := [(qo, .inl (k8, 1, .inr (.inl (fun _ => 0))))]) hD2
  clear hP2 hD2
  refine lv_astore_n (lv' := [(3, .ref qo), (2, .ref qa23), (1, .ref qa1), (0, .ref b)]) hx hb dL_law_19 rfl hl (by decide) rfl (fun ls hl => ?_)
  refine lv_iconst (v := 1) hx hb dL_law_20 (by decide) ?_
  refine va_newa (atype := .double) hx hb (hts (.arrayClass .double) (wsL_law_mem _ (by decide +kernel))) (ty := .double) rfl hKX hP hD hS hA (N' := 1) (a0 := (1, .inr (.inr (.inr (.inl (fun _ => 0)))))) (fun _ => rfl) (by decide) (by decide) (by decide) (Nat.le_of_ble_eq_true rfl) (Nat.le_of_ble_eq_true rfl) dL_law_21 (fun qd k9 H hK2 hP2 hD2 hS => ?_)
  obtain rfl : k9 = c9 := cls_at hKX 9 rfl hK2
  have hP := va_P.swap (a := [(qo, .inl (k8, 1, .inr (.inl (fun _ => 0))))]) (b := PL cy S59) (c := [(qd, .inl (k9, 1, .inr (.inr (.inr (.inl (fun _ => 0))))))]) hP2
  have hD := va_D.swap (a := [(qo, .inl (k8, 1, .inr (.inl (fun _ => 0))))]) (b := PL cy S59) (c := [(qd, .inl (k9, 1, .inr (.inr (.inr (.inl (fun _ => 0))))))]) hD2
  refine lv_astore (lv' := [(4, .ref qd), (3, .ref qo), (2, .ref qa23), (1, .ref qa1), (0, .ref b)]) hx hb dL_law_23 hl (by decide) rfl (fun ls hl => ?_)
  refine lv_iconst (v := 0) hx hb dL_law_25 (by decide) ?_
  refine lv_istore (lv' := [(5, .int (0 : Int32)), (4, .ref qd), (3, .ref qo), (2, .ref qa23), (1, .ref qa1), (0, .ref b)]) hx hb dL_law_26 hl (by decide) rfl (fun ls hl => ?_)
  have z0 : (0 : Int32).toInt = 0 := rfl
  refine W.widen (k := 42) (n := 1877) (Nat.le_of_ble_eq_true rfl) (Nat.le_of_ble_eq_true rfl) ?_
  exact law_loop C0 hL9 hend 512 (0 : Int32) 42 1877 S59 (fun _ => 0) (fun _ => 0) H _ ls (by omega) (by omega) (by omega) (Nat.le_of_ble_eq_true rfl) (Nat.le_of_ble_eq_true rfl) ⟨hP, hD, t60.w, ((xe25.tr xe61).A (xe22.A aqa1)), (xe61.A aqa23), y44, hMV, hIV, hR9_RG, hR9_RC, hR9_RR⟩ hS (lv_sub hl [0, 1, 2, 3, 4, 5] rfl)
