theorem hi_X8_init_X8 : ∀ w ∈ u_ws RX8 TX8 5, w ∈ wsX8_init := by decide +kernel
set_option maxHeartbeats 4000000 in
set_option maxRecDepth 100000 in
theorem c_X8_init (l : Launch) {D : va_G} {cy : Nat → ClassId} {X : va_W} (S : wPS) (sz : Nat) (o1 : Nat) (h_o1 : isA S o1 8) (x1 : Int32) (x2 : Int32) (R : List Nat) (hW : wtB S (o1 :: R)) (hF0 : ∀ j, S.F o1 j = none) (hI0 : ∀ j, S.I o1 j = 0)  : Met l yX8_init wsX8_init ({ frames := 1, cells := 0, slots := 0, locals := 12 }) (va_Pc [.ref o1, .int x1, .int x2] (fun U => U.heap.size = sz ∧ WD D cy X (fun _ => True) S U ∧ NW U)) (va_Qv (fun (u : wPS) => stp ([] : List (Nat × Nat)) [o1] R S u ∧ isA u o1 8 ∧ u.I o1 0 = x1 ∧ u.I o1 1 = x2 ∧ u.I o1 2 = (0 : Int32) ∧ u.I o1 3 = (0 : Int32)) (fun u t => WD D cy X (va_A (X ++ PL cy S) sz) u t) (va_A (X ++ PL cy S) sz)) 0 0 (va_A (X ++ PL cy S) sz) := by
  refine Met.ofW (cc := cX8_init) (maxL := 3) (ret := none) (by decide) rfl ?_
  intro p e s m args below meth c s₁ B hml hv
  obtain ⟨rfl, hsz, ⟨hP, hK, hD0⟩, hN⟩ := hv
  have hx := B.exec
  have hb := B.bytes
  have hr := B.returns
  have hts := atoms_spec (ws := wsX8_init) B.pre
  have hown : s.vm.findClass RX8 = some m.cls := findClass_of_methodNamed (x := yX8_init) B.named
  have hlocks := B.notSynchronized
  have hin : meth.name = "<init>" := (name_of_methodNamed B.named B.method).1
  subst hsz
  have hD := hD0.self (sz := s.heap.size)
  generalize hAe : va_A (X ++ PL cy S) s.heap.size = A at hD ⊢
  have hA : ∀ q : Nat, s.heap.size ≤ q → A q := fun q h => by rw [← hAe]; exact Or.inr h
  have hS : va_S A s.heap s.heap [] := va_S.rf
  have hl := lv_entry ([.ref o1, .int x1, .int x2]) (n := 3) (Nat.le_of_ble_eq_true rfl)
  rw [lg_entry_eq]
  generalize (lg_sl ([.ref o1, .int x1, .int x2]) ++ List.replicate (3 - (lg_sl ([.ref o1, .int x1, .int x2])).length) Slot.unset).toArray = ls at hl ⊢
  have hl : lv_has ls 3 [(0, .ref o1), (1, .int x1), (2, .int x2)] := hl
  have t0 : stp ([] : List (Nat × Nat)) [o1] (o1 :: R) S S := stp.rf hW
  refine lv_aload_n hx hb dX8_init_0 rfl (lv_at hl 0 rfl) ?_
  refine W.objInit hx hb hown (hts (.methodLink RX8 1 objectInit) (by decide +kernel)) (hts (.instanceMethod objectInit) (by decide +kernel)) (hts (.code objectInit ⟨#[0xb1]⟩ 1 none) (by decide +kernel)) rfl (by rw [hml]; exact hl.1) rfl dX8_init_1 (Nat.le_of_ble_eq_true rfl) (Nat.le_of_ble_eq_true rfl) ?_
  refine W.eq (g2 := F0 m 4 ls []) rfl ?_
  refine lv_aload_n hx hb dX8_init_4 rfl (lv_at hl 0 rfl) ?_
  refine lv_iload_n hx hb dX8_init_5 rfl (lv_at hl 1 rfl) ?_
  obtain ⟨k1, gk1, hk1⟩ := wGt (cy := cy) X S h_o1.1 h_o1.2.1
  refine va_putF (D := D) (ci := 12) (v := .int x1) (ty := .int) (C := RX8) (T := TX8) (N := 5) hx hb hts hi_X8_init_X8 tyX8 tyX8_ok nmX8 hown hK hP hD hS k1 hk1 rfl 0 (by decide) (hts (.fieldLink RX8 7 "Hobhouse$Train" "up" "I") (by decide +kernel)) (fun _ h9 => h9) rfl hin rfl (by decide +kernel) (rfl) (rfl) (Nat.le_of_ble_eq_true rfl) dX8_init_6 (fun H locs hP2 hD2 hS => ?_)
  have e9 := wPuI (cy := cy) (j := 0) (v := x1) hD h_o1.1 h_o1.2.1 gk1 rfl
  obtain ⟨S2, hS2⟩ : ∃ z, S.sI o1 0 x1 = z := ⟨_, rfl⟩
  have hP : va_P D vwCl (X ++ PL cy S2) H := by rw [← hS2, ← e9]; exact hP2
  have hD : va_D A (X ++ PL cy S2) := by rw [← hS2, ← e9]; exact hD2
  have xe3 : ext S S2 := by rw [← hS2]; exact ext.sI _ _ _ _
  have t4 : stp ([] : List (Nat × Nat)) [o1] (o1 :: R) S S2 := by rw [← hS2]; exact t0.Ir 0 x1 List.mem_cons_self (Or.inl List.mem_cons_self)
  refine lv_aload_n hx hb dX8_init_9 rfl (lv_at hl 0 rfl) ?_
  refine lv_iload_n hx hb dX8_init_10 rfl (lv_at hl 2 rfl) ?_
  obtain ⟨k5, gk5, hk5⟩ := wGt (cy := cy) X S2 (xe3.A h_o1).1 (xe3.A h_o1).2.1
  refine va_putF (D := D) (ci := 12) (v := .int x2) (ty := .int) (C := RX8) (T := TX8) (N := 5) hx hb hts hi_X8_init_X8 tyX8 tyX8_ok nmX8 hown hK hP hD hS k5 hk5 rfl 1 (by decide) (hts (.fieldLink RX8 13 "Hobhouse$Train" "down" "I") (by decide +kernel)) (fun _ h9 => h9) rfl hin rfl (by decide +kernel) (rfl) (rfl) (Nat.le_of_ble_eq_true rfl) dX8_init_11 (fun H locs hP2 hD2 hS => ?_)
  have e9 := wPuI (cy := cy) (j := 1) (v := x2) hD (xe3.A h_o1).1 (xe3.A h_o1).2.1 gk5 rfl
  obtain ⟨S6, hS6⟩ : ∃ z, S2.sI o1 1 x2 = z := ⟨_, rfl⟩
  have hP : va_P D vwCl (X ++ PL cy S6) H := by rw [← hS6, ← e9]; exact hP2
  have hD : va_D A (X ++ PL cy S6) := by rw [← hS6, ← e9]; exact hD2
  have xe7 : ext S2 S6 := by rw [← hS6]; exact ext.sI _ _ _ _
  have t8 : stp ([] : List (Nat × Nat)) [o1] (o1 :: R) S S6 := by rw [← hS6]; exact t4.Ir 1 x2 List.mem_cons_self (Or.inl List.mem_cons_self)
  have oo : isA S6 o1 8 := (xe7.A (xe3.A h_o1))
  have I0 : S6.I o1 0 = x1 := (by rw [← hS6, sI_I (by rintro ⟨e1, e2⟩; exact absurd e2 (by decide))]; rw [← hS2, sI_eq])
  have I1 : S6.I o1 1 = x2 := (by rw [← hS6, sI_eq])
  have I2 : S6.I o1 2 = (0 : Int32) := (by rw [← hS6, sI_I (by rintro ⟨e1, e2⟩; exact absurd e2 (by decide))]; rw [← hS2, sI_I (by rintro ⟨e1, e2⟩; exact absurd e2 (by decide))]; exact hI0 2)
  have I3 : S6.I o1 3 = (0 : Int32) := (by rw [← hS6, sI_I (by rintro ⟨e1, e2⟩; exact absurd e2 (by decide))]; rw [← hS2, sI_I (by rintro ⟨e1, e2⟩; exact absurd e2 (by decide))]; exact hI0 3)
  have tt : stp ([] : List (Nat × Nat)) [o1] R S S6 := t8.un (okAt.no _ oo.2.1 (by decide) (by decide) (by decide) (by decide) (by decide) (by decide) (by decide) (by decide) (by decide) (by decide) (by decide) (by decide) (by decide) (by decide) (by decide) (by decide) (by decide))
  refine W.widen (k := 0) (n := 0) (Nat.le_of_ble_eq_true rfl) (Nat.le_of_ble_eq_true rfl) ?_
  exact W.vret hx hb hr (fun t ht hW9 => ⟨⟨S6, rfl, ⟨tt, oo, I0, I1, I2, I3⟩, wd_end hP hK hD ht hW9.alike⟩, hS.F ht⟩) hS.2.2 dX8_init_14 hlocks
def f_X8_comesFirst (S : wPS) (o1 : Nat) (x1 : Int32) (x2 : Int32) : Int32 := if (f_X9_commonDivisor x1 x2) = (1 : Int32) then if (f_X9_commonDivisor (S.I o1 2) (S.I o1 3)) = (1 : Int32) then if (1 : Int32) = (1 : Int32) then if (x1 + x2) = ((S.I o1 2) + (S.I o1 3)) then if (S.I o1 2) ≤ x1 then (0 : Int32) else (1 : Int32) else if ((S.I o1 2) + (S.I o1 3)) ≤ (x1 + x2) then (0 : Int32) else (1 : Int32) else 0 else if (1 : Int32) = (0 : Int32) then 0 else (1 : Int32) else if (f_X9_commonDivisor (S.I o1 2) (S.I o1 3)) = (1 : Int32) then if (0 : Int32) = (1 : Int32) then 0 else (0 : Int32) else if (0 : Int32) = (0 : Int32) then if (x1 + x2) = ((S.I o1 2) + (S.I o1 3)) then if (S.I o1 2) ≤ x1 then (0 : Int32) else (1 : Int32) else if ((S.I o1 2) + (S.I o1 3)) ≤ (x1 + x2) then (0 : Int32) else (1 : Int32) else 0
theorem f_X8_comesFirst_b (S : wPS) (o1 : Nat) (x1 : Int32) (x2 : Int32) : narrow .boolean (.int (f_X8_comesFirst S o1 x1 x2)) = .int (f_X8_comesFirst S o1 x1 x2) := by
  unfold f_X8_comesFirst; (repeat' split) <;> rfl
theorem hi_X8_comesFirst_X8 : ∀ w ∈ u_ws RX8 TX8 5, w ∈ wsX8_comesFirst := by decide +kernel
theorem hd_X8_comesFirst : yX8_comesFirst.cls = RX8 ∧ yX8_comesFirst.cls ≠ "java/lang/invoke/MethodHandle" ∧ yX8_comesFirst.cls ≠ "java/lang/invoke/VarHandle" ∧ (parseMethodDescriptor yX8_comesFirst.desc).map (fun d => d.parameters.length) = some 2 := by decide +kernel
set_option maxHeartbeats 4000000 in
set_option maxRecDepth 100000 in
theorem c_X8_comesFirst (l : Launch) {D : va_G} {cy : Nat → ClassId} {X : va_W} (S : wPS) (sz : Nat) (o1 : Nat) (h_o1 : isA S o1 8) (x1 : Int32) (x2 : Int32)  : Met l yX8_comesFirst wsX8_comesFirst ({ frames := 2, cells := 0, slots := 0, locals := 38 }) (va_Pc [.ref o1, .int x1, .int x2] (fun U => U.heap.size = sz ∧ WD D cy X (fun _ => True) S U ∧ NW U)) (va_Qi (fun r (_ : Unit) => r = f_X8_comesFirst S o1 x1 x2) (fun _ t => WD D cy X (va_A (X ++ PL cy S) sz) S t) (va_A (X ++ PL cy S) sz)) 0 0 (va_A (X ++ PL cy S) sz) := by
  refine Met.ofW (cc := cX8_comesFirst) (maxL := 5) (ret := (some .boolean)) (by decide) rfl ?_
  intro p e s m args below meth c s₁ B hml hv
  obtain ⟨rfl, hsz, ⟨hP, hK, hD0⟩, hN⟩ := hv
  have hx := B.exec
  have hb := B.bytes
  have hr := B.returns
  have hts := atoms_spec (ws := wsX8_comesFirst) B.pre
  have hown : s.vm.findClass RX8 = some m.cls := findClass_of_methodNamed (x := yX8_comesFirst) B.named
  have hlocks := B.notSynchronized
  subst hsz
  have hD := hD0.self (sz := s.heap.size)
  generalize hAe : va_A (X ++ PL cy S) s.heap.size = A at hD ⊢
  have hA : ∀ q : Nat, s.heap.size ≤ q → A q := fun q h => by rw [← hAe]; exact Or.inr h
  have hS : va_S A s.heap s.heap [] := va_S.rf
  have hl := lv_entry ([.ref o1, .int x1, .int x2]) (n := 5) (Nat.le_of_ble_eq_true rfl)
  rw [lg_entry_eq]
  generalize (lg_sl ([.ref o1, .int x1, .int x2]) ++ List.replicate (5 - (lg_sl ([.ref o1, .int x1, .int x2])).length) Slot.unset).toArray = ls at hl ⊢
  have hl : lv_has ls 5 [(0, .ref o1), (1, .int x1), (2, .int x2)] := hl
  refine lv_iload_n hx hb dX8_comesFirst_0 rfl (lv_at hl 1 rfl) ?_
  refine lv_iload_n hx hb dX8_comesFirst_1 rfl (lv_at hl 2 rfl) ?_
  have hFc := free_all hD hS hA
  refine va_calli (va_runSN (As := [.int x1, .int x2]) (rest := []) ⟨hx, hb, hml, hown, hts⟩ (c_X9_commonDivisor l (cy := cy) (X := X) (D := D) S _ x1 x2) ⟨va_cnB 2 hts gX8_comesFirst_X9_commonDivisor_n50 rfl rfl rfl (hN (.methodLinkNest RX8 50 yX9_commonDivisor RX9) (by decide +kernel)) (hts (.initialized RX9) (by decide +kernel)) (by decide +kernel) ⟨Nat.le_of_ble_eq_true rfl, Nat.le_of_ble_eq_true rfl⟩, hts (.static yX9_commonDivisor) (by decide +kernel), trivial⟩ (pS hP hK hD hN) rfl rfl hl.1 rfl (lv_room (Nat.le_of_ble_eq_true rfl)) dX8_comesFirst_2 ⟨(Nat.zero_le _), (Nat.zero_le _)⟩) hS (fun q _ h => hFc q h) hFc (fun r1 u t H1 locs ht hvm hw hB hz1 hk1 hS => ?_)
  have c2 := hw
  obtain ⟨hP, hD⟩ := wd_post hFc ht hB
  generalize H1 = H at hP hS ⊢
  obtain rfl : f_X9_commonDivisor x1 x2 = r1 := c2.symm
  have i3 := cd_i x1 x2
  refine lv_iconst (v := 1) hx hb dX8_comesFirst_5 (by decide) ?_
  refine lv_icmp_ne (tgt := 13) hx hb dX8_comesFirst_6 (by decide) (fun c4 => ?_) (fun c4 => ?_)
  · have c4i : ¬ (f_X9_commonDivisor x1 x2).toInt = 1 := neq_v rfl rfl c4
    refine lv_iconst (v := 0) hx hb dX8_comesFirst_13 (by decide) ?_
    refine lv_istore_n (lv' := [(3, .int (0 : Int32)), (0, .ref o1), (1, .int x1), (2, .int x2)]) hx hb dX8_comesFirst_14 rfl hl (by decide) rfl (fun ls hl => ?_)
    refine lv_aload_n hx hb dX8_comesFirst_15 rfl (lv_at hl 1 rfl) ?_
    obtain ⟨k5, gk5, hk5⟩ := wGt (cy := cy) X S h_o1.1 h_o1.2.1
    refine va_get (D := D) (ci := 12) (v := .int (S.I o1 2)) (C := RX8) (T := TX8) (N := 5) hx hb hts hi_X8_comesFirst_X8 hown hK hP k5 hk5 rfl 2 (by decide) (hts (.fieldLink RX8 47 "Hobhouse$Train" "first" "I") (by decide +kernel)) (fun _ h9 => h9) rfl dX8_comesFirst_16 ?_
    refine lv_aload_n hx hb dX8_comesFirst_19 rfl (lv_at hl 1 rfl) ?_
    obtain ⟨k6, gk6, hk6⟩ := wGt (cy := cy) X S h_o1.1 h_o1.2.1
    refine va_get (D := D) (ci := 12) (v := .int (S.I o1 3)) (C := RX8) (T := TX8) (N := 5) hx hb hts hi_X8_comesFirst_X8 hown hK hP k6 hk6 rfl 3 (by decide) (hts (.fieldLink RX8 36 "Hobhouse$Train" "second" "I") (by decide +kernel)) (fun _ h9 => h9) rfl dX8_comesFirst_20 ?_
    have hFc := free_all hD hS hA
    refine va_calli (va_runSN (As := [.int (S.I o1 2), .int (S.I o1 3)]) (rest := []) ⟨hx, hb, hml, hown, hts⟩ (c_X9_commonDivisor l (cy := cy) (X := X) (D := D) S _ (S.I o1 2) (S.I o1 3)) ⟨va_cnB 2 hts gX8_comesFirst_X9_commonDivisor_n50 rfl rfl rfl (hN (.methodLinkNest RX8 50 yX9_commonDivisor RX9) (by decide +kernel)) (hts (.initialized RX9) (by decide +kernel)) (by decide +kernel) ⟨Nat.le_of_ble_eq_true rfl, Nat.le_of_ble_eq_true rfl⟩, hts (.static yX9_commonDivisor) (by decide +kernel), trivial⟩ (pS hP hK hD hN) rfl rfl hl.1 rfl (lv_room (Nat.le_of_ble_eq_true rfl)) dX8_comesFirst_23 ⟨(Nat.zero_le _), (Nat.zero_le _)⟩) hS (fun q _ h => hFc q h) hFc (fun r7 u t H1 locs ht hvm hw hB hz1 hk1 hS => ?_)
    have c8 := hw
    obtain ⟨hP, hD⟩ := wd_post hFc ht hB
    generalize H1 = H at hP hS ⊢
    obtain rfl : f_X9_commonDivisor (S.I o1 2) (S.I o1 3) = r7 := c8.symm
    have i9 := cd_i (S.I o1 2) (S.I o1 3)
    refine lv_iconst (v := 1) hx hb dX8_comesFirst_26 (by decide) ?_
    refine lv_icmp_ne (tgt := 34) hx hb dX8_comesFirst_27 (by decide) (fun c10 => ?_) (fun c10 => ?_)
    · have c10i : ¬ (f_X9_commonDivisor (S.I o1 2) (S.I o1 3)).toInt = 1 := neq_v rfl rfl c10
      refine lv_iconst (v := 0) hx hb dX8_comesFirst_34 (by decide) ?_
      refine lv_istore (lv' := [(4, .int (0 : Int32)), (3, .int (0 : Int32)), (0, .ref o1), (1, .int x1), (2, .int x2)]) hx hb dX8_comesFirst_35 hl (by decide) rfl (fun ls hl => ?_)
      refine lv_iload_n hx hb dX8_comesFirst_37 rfl (lv_at hl 1 rfl) ?_
      refine lv_iload hx hb dX8_comesFirst_38 (lv_at hl 0 rfl) ?_
      refine lv_icmp_eq (tgt := 45) hx hb dX8_comesFirst_40 (by decide) (fun c11 => ?_) (fun c11 => ?_)
      · refine lv_iload_n hx hb dX8_comesFirst_45 rfl (lv_at hl 3 rfl) ?_
        refine lv_iload_n hx hb dX8_comesFirst_46 rfl (lv_at hl 4 rfl) ?_
        refine lv_iadd hx hb dX8_comesFirst_47 ?_
        refine lv_aload_n hx hb dX8_comesFirst_48 rfl (lv_at hl 2 rfl) ?_
        obtain ⟨k12, gk12, hk12⟩ := wGt (cy := cy) X S h_o1.1 h_o1.2.1
        refine va_get (D := D) (ci := 12) (v := .int (S.I o1 2)) (C := RX8) (T := TX8) (N := 5) hx hb hts hi_X8_comesFirst_X8 hown hK hP k12 hk12 rfl 2 (by decide) (hts (.fieldLink RX8 47 "Hobhouse$Train" "first" "I") (by decide +kernel)) (fun _ h9 => h9) rfl dX8_comesFirst_49 ?_
        refine lv_aload_n hx hb dX8_comesFirst_52 rfl (lv_at hl 2 rfl) ?_
        obtain ⟨k13, gk13, hk13⟩ := wGt (cy := cy) X S h_o1.1 h_o1.2.1
        refine va_get (D := D) (ci := 12) (v := .int (S.I o1 3)) (C := RX8) (T := TX8) (N := 5) hx hb hts hi_X8_comesFirst_X8 hown hK hP k13 hk13 rfl 3 (by decide) (hts (.fieldLink RX8 36 "Hobhouse$Train" "second" "I") (by decide +kernel)) (fun _ h9 => h9) rfl dX8_comesFirst_53 ?_
        refine lv_iadd hx hb dX8_comesFirst_56 ?_
        refine lv_icmp_eq (tgt := 81) hx hb dX8_comesFirst_57 (by decide) (fun c14 => ?_) (fun c14 => ?_)
        · have c14i : (x1 + x2).toInt = ((S.I o1 2) + (S.I o1 3)).toInt := eq_v rfl rfl c14
          refine lv_iload_n hx hb dX8_comesFirst_81 rfl (lv_at hl 3 rfl) ?_
          refine lv_aload_n hx hb dX8_comesFirst_82 rfl (lv_at hl 2 rfl) ?_
          obtain ⟨k15, gk15, hk15⟩ := wGt (cy := cy) X S h_o1.1 h_o1.2.1
          refine va_get (D := D) (ci := 12) (v := .int (S.I o1 2)) (C := RX8) (T := TX8) (N := 5) hx hb hts hi_X8_comesFirst_X8 hown hK hP k15 hk15 rfl 2 (by decide) (hts (.fieldLink RX8 47 "Hobhouse$Train" "first" "I") (by decide +kernel)) (fun _ h9 => h9) rfl dX8_comesFirst_83 ?_
          refine lv_icmp_ge (tgt := 93) hx hb dX8_comesFirst_86 (by decide) (fun c16 => ?_) (fun c16 => ?_)
          · have c16i : (S.I o1 2).toInt ≤ x1.toInt := le_v rfl rfl c16
            refine lv_iconst (v := 0) hx hb dX8_comesFirst_93 (by decide) ?_
            refine W.widen (k := 0) (n := 0) (Nat.le_of_ble_eq_true rfl) (Nat.le_of_ble_eq_true rfl) ?_
            exact W.zret (v := (0 : Int32)) hx hb hr (by rfl) (fun t ht hW9 => ⟨⟨(0 : Int32), (), rfl, (by show (0 : Int32) = f_X8_comesFirst S o1 x1 x2; unfold f_X8_comesFirst; rw [if_neg c4, if_neg c10, if_pos c11, if_pos c14, if_pos c16]), wd_end hP hK hD ht hW9.alike⟩, hS.F ht⟩) hS.2.2 dX8_comesFirst_94 hlocks
          · have c16i : x1.toInt < (S.I o1 2).toInt := nle_v rfl rfl c16
            refine lv_iconst (v := 1) hx hb dX8_comesFirst_89 (by decide) ?_
            refine lv_goto (tgt := 94) hx hb dX8_comesFirst_90 (by decide) ?_
            refine W.widen (k := 0) (n := 0) (Nat.le_of_ble_eq_true rfl) (Nat.le_of_ble_eq_true rfl) ?_
            exact W.zret (v := (1 : Int32)) hx hb hr (by rfl) (fun t ht hW9 => ⟨⟨(1 : Int32), (), rfl, (by show (1 : Int32) = f_X8_comesFirst S o1 x1 x2; unfold f_X8_comesFirst; rw [if_neg c4, if_neg c10, if_pos c11, if_pos c14, if_neg c16]), wd_end hP hK hD ht hW9.alike⟩, hS.F ht⟩) hS.2.2 dX8_comesFirst_94 hlocks
        · have c14i : ¬ (x1 + x2).toInt = ((S.I o1 2) + (S.I o1 3)).toInt := neq_v rfl rfl c14
          refine lv_iload_n hx hb dX8_comesFirst_60 rfl (lv_at hl 3 rfl) ?_
          refine lv_iload_n hx hb dX8_comesFirst_61 rfl (lv_at hl 4 rfl) ?_
          refine lv_iadd hx hb dX8_comesFirst_62 ?_
          refine lv_aload_n hx hb dX8_comesFirst_63 rfl (lv_at hl 2 rfl) ?_
          obtain ⟨k17, gk17, hk17⟩ := wGt (cy := cy) X S h_o1.1 h_o1.2.1
          refine va_get (D := D) (ci := 12) (v := .int (S.I o1 2)) (C := RX8) (T := TX8) (N := 5) hx hb hts hi_X8_comesFirst_X8 hown hK hP k17 hk17 rfl 2 (by decide) (hts (.fieldLink RX8 47 "Hobhouse$Train" "first" "I") (by decide +kernel)) (fun _ h9 => h9) rfl dX8_comesFirst_64 ?_
          refine lv_aload_n hx hb dX8_comesFirst_67 rfl (lv_at hl 2 rfl) ?_
          obtain ⟨k18, gk18, hk18⟩ := wGt (cy := cy) X S h_o1.1 h_o1.2.1
          refine va_get (D := D) (ci := 12) (v := .int (S.I o1 3)) (C := RX8) (T := TX8) (N := 5) hx hb hts hi_X8_comesFirst_X8 hown hK hP k18 hk18 rfl 3 (by decide) (hts (.fieldLink RX8 36 "Hobhouse$Train" "second" "I") (by decide +kernel)) (fun _ h9 => h9) rfl dX8_comesFirst_68 ?_
          refine lv_iadd hx hb dX8_comesFirst_71 ?_
          refine lv_icmp_ge (tgt := 79) hx hb dX8_comesFirst_72 (by decide) (fun c19 => ?_) (fun c19 => ?_)
          · have c19i : ((S.I o1 2) + (S.I o1 3)).toInt ≤ (x1 + x2).toInt := le_v rfl rfl c19
            refine lv_iconst (v := 0) hx hb dX8_comesFirst_79 (by decide) ?_
            refine W.widen (k := 0) (n := 0) (Nat.le_of_ble_eq_true rfl) (Nat.le_of_ble_eq_true rfl) ?_
            exact W.zret (v := (0 : Int32)) hx hb hr (by rfl) (fun t ht hW9 => ⟨⟨(0 : Int32), (), rfl, (by show (0 : Int32) = f_X8_comesFirst S o1 x1 x2; unfold f_X8_comesFirst; rw [if_neg c4, if_neg c10, if_pos c11, if_neg c14, if_pos c19]), wd_end hP hK hD ht hW9.alike⟩, hS.F ht⟩) hS.2.2 dX8_comesFirst_80 hlocks
          · have c19i : (x1 + x2).toInt < ((S.I o1 2) + (S.I o1 3)).toInt := nle_v rfl rfl c19
            refine lv_iconst (v := 1) hx hb dX8_comesFirst_75 (by decide) ?_
            refine lv_goto (tgt := 80) hx hb dX8_comesFirst_76 (by decide) ?_
            refine W.widen (k := 0) (n := 0) (Nat.le_of_ble_eq_true rfl) (Nat.le_of_ble_eq_true rfl) ?_
            exact W.zret (v := (1 : Int32)) hx hb hr (by rfl) (fun t ht hW9 => ⟨⟨(1 : Int32), (), rfl, (by show (1 : Int32) = f_X8_comesFirst S o1 x1 x2; unfold f_X8_comesFirst; rw [if_neg c4, if_neg c10, if_pos c11, if_neg c14, if_neg c19]), wd_end hP hK hD ht hW9.alike⟩, hS.F ht⟩) hS.2.2 dX8_comesFirst_80 hlocks
      · exact absurd (by decide) c11
    · have c10i : (f_X9_commonDivisor (S.I o1 2) (S.I o1 3)).toInt = 1 := eq_v rfl rfl c10
      refine lv_iconst (v := 1) hx hb dX8_comesFirst_30 (by decide) ?_
      refine lv_goto (tgt := 35) hx hb dX8_comesFirst_31 (by decide) ?_
      refine lv_istore (lv' := [(4, .int (1 : Int32)), (3, .int (0 : Int32)), (0, .ref o1), (1, .int x1), (2, .int x2)]) hx hb dX8_comesFirst_35 hl (by decide) rfl (fun ls hl => ?_)
      refine lv_iload_n hx hb dX8_comesFirst_37 rfl (lv_at hl 1 rfl) ?_
      refine lv_iload hx hb dX8_comesFirst_38 (lv_at hl 0 rfl) ?_
      refine lv_icmp_eq (tgt := 45) hx hb dX8_comesFirst_40 (by decide) (fun c20 => ?_) (fun c20 => ?_)
      · exact absurd c20 (by decide)
      · refine lv_iload_n hx hb dX8_comesFirst_43 rfl (lv_at hl 1 rfl) ?_
        refine W.widen (k := 0) (n := 0) (Nat.le_of_ble_eq_true rfl) (Nat.le_of_ble_eq_true rfl) ?_
        exact W.zret (v := (0 : Int32)) hx hb hr (by rfl) (fun t ht hW9 => ⟨⟨(0 : Int32), (), rfl, (by show (0 : Int32) = f_X8_comesFirst S o1 x1 x2; unfold f_X8_comesFirst; rw [if_neg c4, if_pos c10, if_neg c20]), wd_end hP hK hD ht hW9.alike⟩, hS.F ht⟩) hS.2.2 dX8_comesFirst_44 hlocks
  · have c4i : (f_X9_commonDivisor x1 x2).toInt = 1 := eq_v rfl rfl c4
    refine lv_iconst (v := 1) hx hb dX8_comesFirst_9 (by decide) ?_
    refine lv_goto (tgt := 14) hx hb dX8_comesFirst_10 (by decide) ?_
    refine lv_istore_n (lv' := [(3, .int (1 : Int32)), (0, .ref o1), (1, .int x1), (2, .int x2)]) hx hb dX8_comesFirst_14 rfl hl (by decide) rfl (fun ls hl => ?_)
    refine lv_aload_n hx hb dX8_comesFirst_15 rfl (lv_at hl 1 rfl) ?_
    obtain ⟨k21, gk21, hk21⟩ := wGt (cy := cy) X S h_o1.1 h_o1.2.1
    refine va_get (D := D) (ci := 12) (v := .int (S.I o1 2)) (C := RX8) (T := TX8) (N := 5) hx hb hts hi_X8_comesFirst_X8 hown hK hP k21 hk21 rfl 2 (by decide) (hts (.fieldLink RX8 47 "Hobhouse$Train" "first" "I") (by decide +kernel)) (fun _ h9 => h9) rfl dX8_comesFirst_16 ?_
    refine lv_aload_n hx hb dX8_comesFirst_19 rfl (lv_at hl 1 rfl) ?_
    obtain ⟨k22, gk22, hk22⟩ := wGt (cy := cy) X S h_o1.1 h_o1.2.1
    refine va_get (D := D) (ci := 12) (v := .int (S.I o1 3)) (C := RX8) (T := TX8) (N := 5) hx hb hts hi_X8_comesFirst_X8 hown hK hP k22 hk22 rfl 3 (by decide) (hts (.fieldLink RX8 36 "Hobhouse$Train" "second" "I") (by decide +kernel)) (fun _ h9 => h9) rfl dX8_comesFirst_20 ?_
    have hFc := free_all hD hS hA
    refine va_calli (va_runSN (As := [.int (S.I o1 2), .int (S.I o1 3)]) (rest := []) ⟨hx, hb, hml, hown, hts⟩ (c_X9_commonDivisor l (cy := cy) (X := X) (D := D) S _ (S.I o1 2) (S.I o1 3)) ⟨va_cnB 2 hts gX8_comesFirst_X9_commonDivisor_n50 rfl rfl rfl (hN (.methodLinkNest RX8 50 yX9_commonDivisor RX9) (by decide +kernel)) (hts (.initialized RX9) (by decide +kernel)) (by decide +kernel) ⟨Nat.le_of_ble_eq_true rfl, Nat.le_of_ble_eq_true rfl⟩, hts (.static yX9_commonDivisor) (by decide +kernel), trivial⟩ (pS hP hK hD hN) rfl rfl hl.1 rfl (lv_room (Nat.le_of_ble_eq_true rfl)) dX8_comesFirst_23 ⟨(Nat.zero_le _), (Nat.zero_le _)⟩) hS (fun q _ h => hFc q h) hFc (fun r23 u t H1 locs ht hvm hw hB hz1 hk1 hS => ?_)
    have c24 := hw
    obtain ⟨hP, hD⟩ := wd_post hFc ht hB
    generalize H1 = H at hP hS ⊢
    obtain rfl : f_X9_commonDivisor (S.I o1 2) (S.I o1 3) = r23 := c24.symm
    have i25 := cd_i (S.I o1 2) (S.I o1 3)
    refine lv_iconst (v := 1) hx hb dX8_comesFirst_26 (by decide) ?_
    refine lv_icmp_ne (tgt := 34) hx hb dX8_comesFirst_27 (by decide) (fun c26 => ?_) (fun c26 => ?_)
    · have c26i : ¬ (f_X9_commonDivisor (S.I o1 2) (S.I o1 3)).toInt = 1 := neq_v rfl rfl c26
      refine lv_iconst (v := 0) hx hb dX8_comesFirst_34 (by decide) ?_
      refine lv_istore (lv' := [(4, .int (0 : Int32)), (3, .int (1 : Int32)), (0, .ref o1), (1, .int x1), (2, .int x2)]) hx hb dX8_comesFirst_35 hl (by decide) rfl (fun ls hl => ?_)
      refine lv_iload_n hx hb dX8_comesFirst_37 rfl (lv_at hl 1 rfl) ?_
      refine lv_iload hx hb dX8_comesFirst_38 (lv_at hl 0 rfl) ?_
      refine lv_icmp_eq (tgt := 45) hx hb dX8_comesFirst_40 (by decide) (fun c27 => ?_) (fun c27 => ?_)
      · exact absurd c27 (by decide)
      · refine lv_iload_n hx hb dX8_comesFirst_43 rfl (lv_at hl 1 rfl) ?_
        refine W.widen (k := 0) (n := 0) (Nat.le_of_ble_eq_true rfl) (Nat.le_of_ble_eq_true rfl) ?_
        exact W.zret (v := (1 : Int32)) hx hb hr (by rfl) (fun t ht hW9 => ⟨⟨(1 : Int32), (), rfl, (by show (1 : Int32) = f_X8_comesFirst S o1 x1 x2; unfold f_X8_comesFirst; rw [if_pos c4, if_neg c26, if_neg c27]), wd_end hP hK hD ht hW9.alike⟩, hS.F ht⟩) hS.2.2 dX8_comesFirst_44 hlocks
    · have c26i : (f_X9_commonDivisor (S.I o1 2) (S.I o1 3)).toInt = 1 := eq_v rfl rfl c26
      refine lv_iconst (v := 1) hx hb dX8_comesFirst_30 (by decide) ?_
      refine lv_goto (tgt := 35) hx hb dX8_comesFirst_31 (by decide) ?_
      refine lv_istore (lv' := [(4, .int (1 : Int32)), (3, .int (1 : Int32)), (0, .ref o1), (1, .int x1), (2, .int x2)]) hx hb dX8_comesFirst_35 hl (by decide) rfl (fun ls hl => ?_)
      refine lv_iload_n hx hb dX8_comesFirst_37 rfl (lv_at hl 1 rfl) ?_
      refine lv_iload hx hb dX8_comesFirst_38 (lv_at hl 0 rfl) ?_
      refine lv_icmp_eq (tgt := 45) hx hb dX8_comesFirst_40 (by decide) (fun c28 => ?_) (fun c28 => ?_)
      · refine lv_iload_n hx hb dX8_comesFirst_45 rfl (lv_at hl 3 rfl) ?_
        refine lv_iload_n hx hb dX8_comesFirst_46 rfl (lv_at hl 4 rfl) ?_
        refine lv_iadd hx hb dX8_comesFirst_47 ?_
        refine lv_aload_n hx hb dX8_comesFirst_48 rfl (lv_at hl 2 rfl) ?_
        obtain ⟨k29, gk29, hk29⟩ := wGt (cy := cy) X S h_o1.1 h_o1.2.1
        refine va_get (D := D) (ci := 12) (v := .int (S.I o1 2)) (C := RX8) (T := TX8) (N := 5) hx hb hts hi_X8_comesFirst_X8 hown hK hP k29 hk29 rfl 2 (by decide) (hts (.fieldLink RX8 47 "Hobhouse$Train" "first" "I") (by decide +kernel)) (fun _ h9 => h9) rfl dX8_comesFirst_49 ?_
        refine lv_aload_n hx hb dX8_comesFirst_52 rfl (lv_at hl 2 rfl) ?_
        obtain ⟨k30, gk30, hk30⟩ := wGt (cy := cy) X S h_o1.1 h_o1.2.1
        refine va_get (D := D) (ci := 12) (v := .int (S.I o1 3)) (C := RX8) (T := TX8) (N := 5) hx hb hts hi_X8_comesFirst_X8 hown hK hP k30 hk30 rfl 3 (by decide) (hts (.fieldLink RX8 36 "Hobhouse$Train" "second" "I") (by decide +kernel)) (fun _ h9 => h9) rfl dX8_comesFirst_53 ?_
        refine lv_iadd hx hb dX8_comesFirst_56 ?_
        refine lv_icmp_eq (tgt := 81) hx hb dX8_comesFirst_57 (by decide) (fun c31 => ?_) (fun c31 => ?_)
        · have c31i : (x1 + x2).toInt = ((S.I o1 2) + (S.I o1 3)).toInt := eq_v rfl rfl c31
          refine lv_iload_n hx hb dX8_comesFirst_81 rfl (lv_at hl 3 rfl) ?_
          refine lv_aload_n hx hb dX8_comesFirst_82 rfl (lv_at hl 2 rfl) ?_
          obtain ⟨k32, gk32, hk32⟩ := wGt (cy := cy) X S h_o1.1 h_o1.2.1
          refine va_get (D := D) (ci := 12) (v := .int (S.I o1 2)) (C := RX8) (T := TX8) (N := 5) hx hb hts hi_X8_comesFirst_X8 hown hK hP k32 hk32 rfl 2 (by decide) (hts (.fieldLink RX8 47 "Hobhouse$Train" "first" "I") (by decide +kernel)) (fun _ h9 => h9) rfl dX8_comesFirst_83 ?_
          refine lv_icmp_ge (tgt := 93) hx hb dX8_comesFirst_86 (by decide) (fun c33 => ?_) (fun c33 => ?_)
          · have c33i : (S.I o1 2).toInt ≤ x1.toInt := le_v rfl rfl c33
            refine lv_iconst (v := 0) hx hb dX8_comesFirst_93 (by decide) ?_
            refine W.widen (k := 0) (n := 0) (Nat.le_of_ble_eq_true rfl) (Nat.le_of_ble_eq_true rfl) ?_
            exact W.zret (v := (0 : Int32)) hx hb hr (by rfl) (fun t ht hW9 => ⟨⟨(0 : Int32), (), rfl, (by show (0 : Int32) = f_X8_comesFirst S o1 x1 x2; unfold f_X8_comesFirst; rw [if_pos c4, if_pos c26, if_pos c28, if_pos c31, if_pos c33]), wd_end hP hK hD ht hW9.alike⟩, hS.F ht⟩) hS.2.2 dX8_comesFirst_94 hlocks
          · have c33i : x1.toInt < (S.I o1 2).toInt := nle_v rfl rfl c33
            refine lv_iconst (v := 1) hx hb dX8_comesFirst_89 (by decide) ?_
            refine lv_goto (tgt := 94) hx hb dX8_comesFirst_90 (by decide) ?_
            refine W.widen (k := 0) (n := 0) (Nat.le_of_ble_eq_true rfl) (Nat.le_of_ble_eq_true rfl) ?_
            exact W.zret (v := (1 : Int32)) hx hb hr (by rfl) (fun t ht hW9 => ⟨⟨(1 : Int32), (), rfl, (by show (1 : Int32) = f_X8_comesFirst S o1 x1 x2; unfold f_X8_comesFirst; rw [if_pos c4, if_pos c26, if_pos c28, if_pos c31, if_neg c33]), wd_end hP hK hD ht hW9.alike⟩, hS.F ht⟩) hS.2.2 dX8_comesFirst_94 hlocks
        · have c31i : ¬ (x1 + x2).toInt = ((S.I o1 2) + (S.I o1 3)).toInt := neq_v rfl rfl c31
          refine lv_iload_n hx hb dX8_comesFirst_60 rfl (lv_at hl 3 rfl) ?_
          refine lv_iload_n hx hb dX8_comesFirst_61 rfl (lv_at hl 4 rfl) ?_
          refine lv_iadd hx hb dX8_comesFirst_62 ?_
          refine lv_aload_n hx hb dX8_comesFirst_63 rfl (lv_at hl 2 rfl) ?_
          obtain ⟨k34, gk34, hk34⟩ := wGt (cy := cy) X S h_o1.1 h_o1.2.1
          refine va_get (D := D) (ci := 12) (v := .int (S.I o1 2)) (C := RX8) (T := TX8) (N := 5) hx hb hts hi_X8_comesFirst_X8 hown hK hP k34 hk34 rfl 2 (by decide) (hts (.fieldLink RX8 47 "Hobhouse$Train" "first" "I") (by decide +kernel)) (fun _ h9 => h9) rfl dX8_comesFirst_64 ?_
          refine lv_aload_n hx hb dX8_comesFirst_67 rfl (lv_at hl 2 rfl) ?_
          obtain ⟨k35, gk35, hk35⟩ := wGt (cy := cy) X S h_o1.1 h_o1.2.1
          refine va_get (D := D) (ci := 12) (v := .int (S.I o1 3)) (C := RX8) (T := TX8) (N := 5) hx hb hts hi_X8_comesFirst_X8 hown hK hP k35 hk35 rfl 3 (by decide) (hts (.fieldLink RX8 36 "Hobhouse$Train" "second" "I") (by decide +kernel)) (fun _ h9 => h9) rfl dX8_comesFirst_68 ?_
          refine lv_iadd hx hb dX8_comesFirst_71 ?_
          refine lv_icmp_ge (tgt := 79) hx hb dX8_comesFirst_72 (by decide) (fun c36 => ?_) (fun c36 => ?_)
          · have c36i : ((S.I o1 2) + (S.I o1 3)).toInt ≤ (x1 + x2).toInt := le_v rfl rfl c36
            refine lv_iconst (v := 0) hx hb dX8_comesFirst_79 (by decide) ?_
            refine W.widen (k := 0) (n := 0) (Nat.le_of_ble_eq_true rfl) (Nat.le_of_ble_eq_true rfl) ?_
            exact W.zret (v := (0 : Int32)) hx hb hr (by rfl) (fun t ht hW9 => ⟨⟨(0 : Int32), (), rfl, (by show (0 : Int32) = f_X8_comesFirst S o1 x1 x2; unfold f_X8_comesFirst; rw [if_pos c4, if_pos c26, if_pos c28, if_neg c31, if_pos c36]), wd_end hP hK hD ht hW9.alike⟩, hS.F ht⟩) hS.2.2 dX8_comesFirst_80 hlocks
          · have c36i : (x1 + x2).toInt < ((S.I o1 2) + (S.I o1 3)).toInt := nle_v rfl rfl c36
            refine lv_iconst (v := 1) hx hb dX8_comesFirst_75 (by decide) ?_
            refine lv_goto (tgt := 80) hx hb dX8_comesFirst_76 (by decide) ?_
            refine W.widen (k := 0) (n := 0) (Nat.le_of_ble_eq_true rfl) (Nat.le_of_ble_eq_true rfl) ?_
            exact W.zret (v := (1 : Int32)) hx hb hr (by rfl) (fun t ht hW9 => ⟨⟨(1 : Int32), (), rfl, (by show (1 : Int32) = f_X8_comesFirst S o1 x1 x2; unfold f_X8_comesFirst; rw [if_pos c4, if_pos c26, if_pos c28, if_neg c31, if_neg c36]), wd_end hP hK hD ht hW9.alike⟩, hS.F ht⟩) hS.2.2 dX8_comesFirst_80 hlocks
      · exact absurd (by decide) c28
def f_X8_compare (S : wPS) (o1 : Nat) (x1 : Int32) (x2 : Int32) : wPS := if (S.I o1 3) = (0 : Int32) then l1 (S.sI o1 2 x1) (fun S8 => l1 (S8.sI o1 3 x2) (fun S12 => l1 (S12.sJ o1 4 (if 0 < ((x1.toInt64 * ((S.I o1 1).toInt64)) - (x2.toInt64 * ((S.I o1 0).toInt64))) then ((x1.toInt64 * ((S.I o1 1).toInt64)) - (x2.toInt64 * ((S.I o1 0).toInt64))) else -((x1.toInt64 * ((S.I o1 1).toInt64)) - (x2.toInt64 * ((S.I o1 0).toInt64))))) (fun S16 => S16))) else if (lg_cmp ((if 0 < ((x1.toInt64 * ((S.I o1 1).toInt64)) - (x2.toInt64 * ((S.I o1 0).toInt64))) then ((x1.toInt64 * ((S.I o1 1).toInt64)) - (x2.toInt64 * ((S.I o1 0).toInt64))) else -((x1.toInt64 * ((S.I o1 1).toInt64)) - (x2.toInt64 * ((S.I o1 0).toInt64)))) * ((S.I o1 3).toInt64)) ((S.J o1 4) * x2.toInt64)) < (0 : Int32) then l1 (S.sI o1 2 x1) (fun S21 => l1 (S21.sI o1 3 x2) (fun S25 => l1 (S25.sJ o1 4 (if 0 < ((x1.toInt64 * ((S.I o1 1).toInt64)) - (x2.toInt64 * ((S.I o1 0).toInt64))) then ((x1.toInt64 * ((S.I o1 1).toInt64)) - (x2.toInt64 * ((S.I o1 0).toInt64))) else -((x1.toInt64 * ((S.I o1 1).toInt64)) - (x2.toInt64 * ((S.I o1 0).toInt64))))) (fun S29 => S29))) else if (lg_cmp ((if 0 < ((x1.toInt64 * ((S.I o1 1).toInt64)) - (x2.toInt64 * ((S.I o1 0).toInt64))) then ((x1.toInt64 * ((S.I o1 1).toInt64)) - (x2.toInt64 * ((S.I o1 0).toInt64))) else -((x1.toInt64 * ((S.I o1 1).toInt64)) - (x2.toInt64 * ((S.I o1 0).toInt64)))) * ((S.I o1 3).toInt64)) ((S.J o1 4) * x2.toInt64)) = (0 : Int32) then if (f_X8_comesFirst S o1 x1 x2) = (0 : Int32) then S else l1 (S.sI o1 2 x1) (fun S38 => l1 (S38.sI o1 3 x2) (fun S42 => l1 (S42.sJ o1 4 (if 0 < ((x1.toInt64 * ((S.I o1 1).toInt64)) - (x2.toInt64 * ((S.I o1 0).toInt64))) then ((x1.toInt64 * ((S.I o1 1).toInt64)) - (x2.toInt64 * ((S.I o1 0).toInt64))) else -((x1.toInt64 * ((S.I o1 1).toInt64)) - (x2.toInt64 * ((S.I o1 0).toInt64))))) (fun S46 => S46))) else S
theorem hi_X8_compare_X8 : ∀ w ∈ u_ws RX8 TX8 5, w ∈ wsX8_compare := by decide +kernel
theorem hd_X8_compare : yX8_compare.cls = RX8 ∧ yX8_compare.cls ≠ "java/lang/invoke/MethodHandle" ∧ yX8_compare.cls ≠ "java/lang/invoke/VarHandle" ∧ (parseMethodDescriptor yX8_compare.desc).map (fun d => d.parameters.length) = some 2 := by decide +kernel
set_option maxHeartbeats 4000000 in
set_option maxRecDepth 100000 in
theorem c_X8_compare (l : Launch) {D : va_G} {cy : Nat → ClassId} {X : va_W} (S : wPS) (sz : Nat) (o1 : Nat) (h_o1 : isA S o1 8) (x1 : Int32) (x2 : Int32) (hW : wtB S [])  : Met l yX8_compare wsX8_compare ({ frames := 3, cells := 0, slots := 0, locals := 62 }) (va_Pc [.ref o1, .int x1, .int x2] (fun U => U.heap.size = sz ∧ WD D cy X (fun _ => True) S U ∧ NW U)) (va_Qv (fun (u : wPS) => u = f_X8_compare S o1 x1 x2 ∧ stp [(8, 2), (8, 3), (8, 4)] [] [] S u) (fun u t => WD D cy X (va_A (X ++ PL cy S) sz) u t) (va_A (X ++ PL cy S) sz)) 0 0 (va_A (X ++ PL cy S) sz) := by
  refine Met.ofW (cc := cX8_compare) (maxL := 9) (ret := none) (by decide) rfl ?_
  intro p e s m args below meth c s₁ B hml hv
  obtain ⟨rfl, hsz, ⟨hP, hK, hD0⟩, hN⟩ := hv
  have hx := B.exec
  have hb := B.bytes
  have hr := B.returns
  have hts := atoms_spec (ws := wsX8_compare) B.pre
  have hown : s.vm.findClass RX8 = some m.cls := findClass_of_methodNamed (x := yX8_compare) B.named
  have hlocks := B.notSynchronized
  subst hsz
  have hD := hD0.self (sz := s.heap.size)
  generalize hAe : va_A (X ++ PL cy S) s.heap.size = A at hD ⊢
  have hA : ∀ q : Nat, s.heap.size ≤ q → A q := fun q h => by rw [← hAe]; exact Or.inr h
  have hS : va_S A s.heap s.heap [] := va_S.rf
  have hl := lv_entry ([.ref o1, .int x1, .int x2]) (n := 9) (Nat.le_of_ble_eq_true rfl)
  rw [lg_entry_eq]
  generalize (lg_sl ([.ref o1, .int x1, .int x2]) ++ List.replicate (9 - (lg_sl ([.ref o1, .int x1, .int x2])).length) Slot.unset).toArray = ls at hl ⊢
  have hl : lv_has ls 9 [(0, .ref o1), (1, .int x1), (2, .int x2)] := hl
  have t0 : stp [(8, 2), (8, 3), (8, 4)] [] [] S S := stp.rf hW
  refine lv_iload_n hx hb dX8_compare_0 rfl (lv_at hl 1 rfl) ?_
  refine lv_i2l hx hb dX8_compare_1 rfl ?_
  refine lv_aload_n hx hb dX8_compare_2 rfl (lv_at hl 0 rfl) ?_
  obtain ⟨k1, gk1, hk1⟩ := wGt (cy := cy) X S h_o1.1 h_o1.2.1
  refine va_get (D := D) (ci := 12) (v := .int (S.I o1 1)) (C := RX8) (T := TX8) (N := 5) hx hb hts hi_X8_compare_X8 hown hK hP k1 hk1 rfl 1 (by decide) (hts (.fieldLink RX8 13 "Hobhouse$Train" "down" "I") (by decide +kernel)) (fun _ h9 => h9) rfl dX8_compare_3 ?_
  refine lv_i2l hx hb dX8_compare_6 rfl ?_
  refine lv_lmul hx hb dX8_compare_7 ?_
  refine lv_iload_n hx hb dX8_compare_8 rfl (lv_at hl 2 rfl) ?_
  refine lv_i2l hx hb dX8_compare_9 rfl ?_
  refine lv_aload_n hx hb dX8_compare_10 rfl (lv_at hl 0 rfl) ?_
  obtain ⟨k2, gk2, hk2⟩ := wGt (cy := cy) X S h_o1.1 h_o1.2.1
  refine va_get (D := D) (ci := 12) (v := .int (S.I o1 0)) (C := RX8) (T := TX8) (N := 5) hx hb hts hi_X8_compare_X8 hown hK hP k2 hk2 rfl 0 (by decide) (hts (.fieldLink RX8 7 "Hobhouse$Train" "up" "I") (by decide +kernel)) (fun _ h9 => h9) rfl dX8_compare_11 ?_
  refine lv_i2l hx hb dX8_compare_14 rfl ?_
  refine lv_lmul hx hb dX8_compare_15 ?_
  refine lv_lsub hx hb dX8_compare_16 ?_
  refine va_mabs_long hx hb (hml.trans hl.1.symm) hown (hts (.methodLink RX8 32 Lib.MathLoose.abs_long.x) (by decide +kernel)) (hts (.static Lib.MathLoose.abs_long.x) (by decide +kernel)) (hts (.initialized "java/lang/Math") (by decide +kernel)) (hts (.code Lib.MathLoose.abs_long.x Lib.MathLoose.abs_long.code 2 (some .long)) (by decide +kernel)) (Nat.le_of_ble_eq_true rfl) (Nat.le_of_ble_eq_true rfl) (Nat.zero_le _) (Nat.zero_le _) dX8_compare_17 ?_
  refine lv_lstore_n (lv' := [(3, .long (if 0 < ((x1.toInt64 * ((S.I o1 1).toInt64)) - (x2.toInt64 * ((S.I o1 0).toInt64))) then ((x1.toInt64 * ((S.I o1 1).toInt64)) - (x2.toInt64 * ((S.I o1 0).toInt64))) else -((x1.toInt64 * ((S.I o1 1).toInt64)) - (x2.toInt64 * ((S.I o1 0).toInt64))))), (0, .ref o1), (1, .int x1), (2, .int x2)]) hx hb dX8_compare_20 rfl hl (by decide) rfl (fun ls hl => ?_)
  refine lv_lload_n hx hb dX8_compare_21 rfl (lv_at hl 0 rfl) ?_
  refine lv_aload_n hx hb dX8_compare_22 rfl (lv_at hl 1 rfl) ?_
  obtain ⟨k3, gk3, hk3⟩ := wGt (cy := cy) X S h_o1.1 h_o1.2.1
  refine va_get (D := D) (ci := 12) (v := .int (S.I o1 3)) (C := RX8) (T := TX8) (N := 5) hx hb hts hi_X8_compare_X8 hown hK hP k3 hk3 rfl 3 (by decide) (hts (.fieldLink RX8 36 "Hobhouse$Train" "second" "I") (by decide +kernel)) (fun _ h9 => h9) rfl dX8_compare_23 ?_
  refine lv_i2l hx hb dX8_compare_26 rfl ?_
  refine lv_lmul hx hb dX8_compare_27 ?_
  refine lv_lstore (lv' := [(5, .long ((if 0 < ((x1.toInt64 * ((S.I o1 1).toInt64)) - (x2.toInt64 * ((S.I o1 0).toInt64))) then ((x1.toInt64 * ((S.I o1 1).toInt64)) - (x2.toInt64 * ((S.I o1 0).toInt64))) else -((x1.toInt64 * ((S.I o1 1).toInt64)) - (x2.toInt64 * ((S.I o1 0).toInt64)))) * ((S.I o1 3).toInt64))), (3, .long (if 0 < ((x1.toInt64 * ((S.I o1 1).toInt64)) - (x2.toInt64 * ((S.I o1 0).toInt64))) then ((x1.toInt64 * ((S.I o1 1).toInt64)) - (x2.toInt64 * ((S.I o1 0).toInt64))) else -((x1.toInt64 * ((S.I o1 1).toInt64)) - (x2.toInt64 * ((S.I o1 0).toInt64))))), (0, .ref o1), (1, .int x1), (2, .int x2)]) hx hb dX8_compare_28 hl (by decide) rfl (fun ls hl => ?_)
  refine lv_aload_n hx hb dX8_compare_30 rfl (lv_at hl 2 rfl) ?_
  obtain ⟨k4, gk4, hk4⟩ := wGt (cy := cy) X S h_o1.1 h_o1.2.1
  refine va_get (D := D) (ci := 12) (v := .long (S.J o1 4)) (C := RX8) (T := TX8) (N := 5) hx hb hts hi_X8_compare_X8 hown hK hP k4 hk4 rfl 4 (by decide) (hts (.fieldLink RX8 39 "Hobhouse$Train" "leastError" "J") (by decide +kernel)) (fun _ h9 => h9) rfl dX8_compare_31 ?_
  refine lv_iload_n hx hb dX8_compare_34 rfl (lv_at hl 4 rfl) ?_
  refine lv_i2l hx hb dX8_compare_35 rfl ?_
  refine lv_lmul hx hb dX8_compare_36 ?_
  refine lv_lstore (lv' := [(7, .long ((S.J o1 4) * x2.toInt64)), (5, .long ((if 0 < ((x1.toInt64 * ((S.I o1 1).toInt64)) - (x2.toInt64 * ((S.I o1 0).toInt64))) then ((x1.toInt64 * ((S.I o1 1).toInt64)) - (x2.toInt64 * ((S.I o1 0).toInt64))) else -((x1.toInt64 * ((S.I o1 1).toInt64)) - (x2.toInt64 * ((S.I o1 0).toInt64)))) * ((S.I o1 3).toInt64))), (3, .long (if 0 < ((x1.toInt64 * ((S.I o1 1).toInt64)) - (x2.toInt64 * ((S.I o1 0).toInt64))) then ((x1.toInt64 * ((S.I o1 1).toInt64)) - (x2.toInt64 * ((S.I o1 0).toInt64))) else -((x1.toInt64 * ((S.I o1 1).toInt64)) - (x2.toInt64 * ((S.I o1 0).toInt64))))), (0, .ref o1), (1, .int x1), (2, .int x2)]) hx hb dX8_compare_37 hl (by decide) rfl (fun ls hl => ?_)
  refine lv_aload_n hx hb dX8_compare_39 rfl (lv_at hl 3 rfl) ?_
  obtain ⟨k5, gk5, hk5⟩ := wGt (cy := cy) X S h_o1.1 h_o1.2.1
  refine va_get (D := D) (ci := 12) (v := .int (S.I o1 3)) (C := RX8) (T := TX8) (N := 5) hx hb hts hi_X8_compare_X8 hown hK hP k5 hk5 rfl 3 (by decide) (hts (.fieldLink RX8 36 "Hobhouse$Train" "second" "I") (by decide +kernel)) (fun _ h9 => h9) rfl dX8_compare_40 ?_
  refine lv_if_eq (tgt := 71) hx hb dX8_compare_43 (by decide) (fun c6 => ?_) (fun c6 => ?_)
  · have c6i : (S.I o1 3).toInt = 0 := eq_v rfl rfl c6
    refine lv_aload_n hx hb dX8_compare_71 rfl (lv_at hl 3 rfl) ?_
    refine lv_iload_n hx hb dX8_compare_72 rfl (lv_at hl 4 rfl) ?_
    obtain ⟨k7, gk7, hk7⟩ := wGt (cy := cy) X S h_o1.1 h_o1.2.1
    refine va_put (D := D) (ci := 12) (v := .int x1) (ty := .int) (C := RX8) (T := TX8) (N := 5) hx hb hts hi_X8_compare_X8 tyX8 tyX8_ok nmX8 hown hK hP hD hS k7 hk7 rfl 2 (by decide) (hts (.fieldLink RX8 47 "Hobhouse$Train" "first" "I") (by decide +kernel)) (fun _ h9 => h9) rfl (by decide +kernel) (rfl) (rfl) (Nat.le_of_ble_eq_true rfl) dX8_compare_73 (fun H locs hP2 hD2 hS => ?_)
    have e9 := wPuI (cy := cy) (j := 2) (v := x1) hD h_o1.1 h_o1.2.1 gk7 rfl
    obtain ⟨S8, hS8⟩ : ∃ z, S.sI o1 2 x1 = z := ⟨_, rfl⟩
    have hP : va_P D vwCl (X ++ PL cy S8) H := by rw [← hS8, ← e9]; exact hP2
    have hD : va_D A (X ++ PL cy S8) := by rw [← hS8, ← e9]; exact hD2
    have xe9 : ext S S8 := by rw [← hS8]; exact ext.sI _ _ _ _
    have t10 : stp [(8, 2), (8, 3), (8, 4)] [] [] S S8 := by rw [← hS8]; exact t0.I 2 x1 h_o1 (by decide) (trivial) (Or.inl (by decide))
    refine lv_aload_n hx hb dX8_compare_76 rfl (lv_at hl 3 rfl) ?_
    refine lv_iload_n hx hb dX8_compare_77 rfl (lv_at hl 5 rfl) ?_
    obtain ⟨k11, gk11, hk11⟩ := wGt (cy := cy) X S8 (xe9.A h_o1).1 (xe9.A h_o1).2.1
    refine va_put (D := D) (ci := 12) (v := .int x2) (ty := .int) (C := RX8) (T := TX8) (N := 5) hx hb hts hi_X8_compare_X8 tyX8 tyX8_ok nmX8 hown hK hP hD hS k11 hk11 rfl 3 (by decide) (hts (.fieldLink RX8 36 "Hobhouse$Train" "second" "I") (by decide +kernel)) (fun _ h9 => h9) rfl (by decide +kernel) (rfl) (rfl) (Nat.le_of_ble_eq_true rfl) dX8_compare_78 (fun H locs hP2 hD2 hS => ?_)
    have e9 := wPuI (cy := cy) (j := 3) (v := x2) hD (xe9.A h_o1).1 (xe9.A h_o1).2.1 gk11 rfl
    obtain ⟨S12, hS12⟩ : ∃ z, S8.sI o1 3 x2 = z := ⟨_, rfl⟩
    have hP : va_P D vwCl (X ++ PL cy S12) H := by rw [← hS12, ← e9]; exact hP2
    have hD : va_D A (X ++ PL cy S12) := by rw [← hS12, ← e9]; exact hD2
    have xe13 : ext S8 S12 := by rw [← hS12]; exact ext.sI _ _ _ _
    have t14 : stp [(8, 2), (8, 3), (8, 4)] [] [] S S12 := by rw [← hS12]; exact t10.I 3 x2 (xe9.A h_o1) (by decide) (trivial) (Or.inl (by decide))
    refine lv_aload_n hx hb dX8_compare_81 rfl (lv_at hl 3 rfl) ?_
    refine lv_lload_n hx hb dX8_compare_82 rfl (lv_at hl 2 rfl) ?_
    obtain ⟨k15, gk15, hk15⟩ := wGt (cy := cy) X S12 (xe13.A (xe9.A h_o1)).1 (xe13.A (xe9.A h_o1)).2.1
    refine va_put (D := D) (ci := 12) (v := .long (if 0 < ((x1.toInt64 * ((S.I o1 1).toInt64)) - (x2.toInt64 * ((S.I o1 0).toInt64))) then ((x1.toInt64 * ((S.I o1 1).toInt64)) - (x2.toInt64 * ((S.I o1 0).toInt64))) else -((x1.toInt64 * ((S.I o1 1).toInt64)) - (x2.toInt64 * ((S.I o1 0).toInt64))))) (ty := .long) (C := RX8) (T := TX8) (N := 5) hx hb hts hi_X8_compare_X8 tyX8 tyX8_ok nmX8 hown hK hP hD hS k15 hk15 rfl 4 (by decide) (hts (.fieldLink RX8 39 "Hobhouse$Train" "leastError" "J") (by decide +kernel)) (fun _ h9 => h9) rfl (by decide +kernel) (rfl) (rfl) (Nat.le_of_ble_eq_true rfl) dX8_compare_83 (fun H locs hP2 hD2 hS => ?_)
    have e9 := wPuJ (cy := cy) (j := 4) (v := (if 0 < ((x1.toInt64 * ((S.I o1 1).toInt64)) - (x2.toInt64 * ((S.I o1 0).toInt64))) then ((x1.toInt64 * ((S.I o1 1).toInt64)) - (x2.toInt64 * ((S.I o1 0).toInt64))) else -((x1.toInt64 * ((S.I o1 1).toInt64)) - (x2.toInt64 * ((S.I o1 0).toInt64))))) hD (xe13.A (xe9.A h_o1)).1 (xe13.A (xe9.A h_o1)).2.1 gk15 rfl
    obtain ⟨S16, hS16⟩ : ∃ z, S12.sJ o1 4 (if 0 < ((x1.toInt64 * ((S.I o1 1).toInt64)) - (x2.toInt64 * ((S.I o1 0).toInt64))) then ((x1.toInt64 * ((S.I o1 1).toInt64)) - (x2.toInt64 * ((S.I o1 0).toInt64))) else -((x1.toInt64 * ((S.I o1 1).toInt64)) - (x2.toInt64 * ((S.I o1 0).toInt64)))) = z := ⟨_, rfl⟩
    have hP : va_P D vwCl (X ++ PL cy S16) H := by rw [← hS16, ← e9]; exact hP2
    have hD : va_D A (X ++ PL cy S16) := by rw [← hS16, ← e9]; exact hD2
    have xe17 : ext S12 S16 := by rw [← hS16]; exact ext.sJ _ _ _ _
    have t18 : stp [(8, 2), (8, 3), (8, 4)] [] [] S S16 := by rw [← hS16]; exact t14.J 4 (if 0 < ((x1.toInt64 * ((S.I o1 1).toInt64)) - (x2.toInt64 * ((S.I o1 0).toInt64))) then ((x1.toInt64 * ((S.I o1 1).toInt64)) - (x2.toInt64 * ((S.I o1 0).toInt64))) else -((x1.toInt64 * ((S.I o1 1).toInt64)) - (x2.toInt64 * ((S.I o1 0).toInt64)))) (xe13.A (xe9.A h_o1)) (by decide)
    refine W.widen (k := 0) (n := 0) (Nat.le_of_ble_eq_true rfl) (Nat.le_of_ble_eq_true rfl) ?_
    exact W.vret hx hb hr (fun t ht hW9 => ⟨⟨S16, rfl, ⟨(by show S16 = f_X8_compare S o1 x1 x2; unfold f_X8_compare; rw [if_pos c6, l1_eq hS8, l1_eq hS12, l1_eq hS16]), t18⟩, wd_end hP hK hD ht hW9.alike⟩, hS.F ht⟩) hS.2.2 dX8_compare_86 hlocks
  · have c6i : ¬ (S.I o1 3).toInt = 0 := neq_v rfl rfl c6
    refine lv_lload hx hb dX8_compare_46 (lv_at hl 1 rfl) ?_
    refine lv_lload hx hb dX8_compare_48 (lv_at hl 0 rfl) ?_
    refine W.lcmp hx hb dX8_compare_50 ?_
    refine lv_if_lt (tgt := 71) hx hb dX8_compare_51 (by decide) (fun c19 => ?_) (fun c19 => ?_)
    · refine lv_aload_n hx hb dX8_compare_71 rfl (lv_at hl 3 rfl) ?_
      refine lv_iload_n hx hb dX8_compare_72 rfl (lv_at hl 4 rfl) ?_
      obtain ⟨k20, gk20, hk20⟩ := wGt (cy := cy) X S h_o1.1 h_o1.2.1
      refine va_put (D := D) (ci := 12) (v := .int x1) (ty := .int) (C := RX8) (T := TX8) (N := 5) hx hb hts hi_X8_compare_X8 tyX8 tyX8_ok nmX8 hown hK hP hD hS k20 hk20 rfl 2 (by decide) (hts (.fieldLink RX8 47 "Hobhouse$Train" "first" "I") (by decide +kernel)) (fun _ h9 => h9) rfl (by decide +kernel) (rfl) (rfl) (Nat.le_of_ble_eq_true rfl) dX8_compare_73 (fun H locs hP2 hD2 hS => ?_)
      have e9 := wPuI (cy := cy) (j := 2) (v := x1) hD h_o1.1 h_o1.2.1 gk20 rfl
      obtain ⟨S21, hS21⟩ : ∃ z, S.sI o1 2 x1 = z := ⟨_, rfl⟩
      have hP : va_P D vwCl (X ++ PL cy S21) H := by rw [← hS21, ← e9]; exact hP2
      have hD : va_D A (X ++ PL cy S21) := by rw [← hS21, ← e9]; exact hD2
      have xe22 : ext S S21 := by rw [← hS21]; exact ext.sI _ _ _ _
      have t23 : stp [(8, 2), (8, 3), (8, 4)] [] [] S S21 := by rw [← hS21]; exact t0.I 2 x1 h_o1 (by decide) (trivial) (Or.inl (by decide))
      refine lv_aload_n hx hb dX8_compare_76 rfl (lv_at hl 3 rfl) ?_
      refine lv_iload_n hx hb dX8_compare_77 rfl (lv_at hl 5 rfl) ?_
      obtain ⟨k24, gk24, hk24⟩ := wGt (cy := cy) X S21 (xe22.A h_o1).1 (xe22.A h_o1).2.1
      refine va_put (D := D) (ci := 12) (v := .int x2) (ty := .int) (C := RX8) (T := TX8) (N := 5) hx hb hts hi_X8_compare_X8 tyX8 tyX8_ok nmX8 hown hK hP hD hS k24 hk24 rfl 3 (by decide) (hts (.fieldLink RX8 36 "Hobhouse$Train" "second" "I") (by decide +kernel)) (fun _ h9 => h9) rfl (by decide +kernel) (rfl) (rfl) (Nat.le_of_ble_eq_true rfl) dX8_compare_78 (fun H locs hP2 hD2 hS => ?_)
      have e9 := wPuI (cy := cy) (j := 3) (v := x2) hD (xe22.A h_o1).1 (xe22.A h_o1).2.1 gk24 rfl
      obtain ⟨S25, hS25⟩ : ∃ z, S21.sI o1 3 x2 = z := ⟨_, rfl⟩
      have hP : va_P D vwCl (X ++ PL cy S25) H := by rw [← hS25, ← e9]; exact hP2
      have hD : va_D A (X ++ PL cy S25) := by rw [← hS25, ← e9]; exact hD2
      have xe26 : ext S21 S25 := by rw [← hS25]; exact ext.sI _ _ _ _
      have t27 : stp [(8, 2), (8, 3), (8, 4)] [] [] S S25 := by rw [← hS25]; exact t23.I 3 x2 (xe22.A h_o1) (by decide) (trivial) (Or.inl (by decide))
      refine lv_aload_n hx hb dX8_compare_81 rfl (lv_at hl 3 rfl) ?_
      refine lv_lload_n hx hb dX8_compare_82 rfl (lv_at hl 2 rfl) ?_
      obtain ⟨k28, gk28, hk28⟩ := wGt (cy := cy) X S25 (xe26.A (xe22.A h_o1)).1 (xe26.A (xe22.A h_o1)).2.1
      refine va_put (D := D) (ci := 12) (v := .long (if 0 < ((x1.toInt64 * ((S.I o1 1).toInt64)) - (x2.toInt64 * ((S.I o1 0).toInt64))) then ((x1.toInt64 * ((S.I o1 1).toInt64)) - (x2.toInt64 * ((S.I o1 0).toInt64))) else -((x1.toInt64 * ((S.I o1 1).toInt64)) - (x2.toInt64 * ((S.I o1 0).toInt64))))) (ty := .long) (C := RX8) (T := TX8) (N := 5) hx hb hts hi_X8_compare_X8 tyX8 tyX8_ok nmX8 hown hK hP hD hS k28 hk28 rfl 4 (by decide) (hts (.fieldLink RX8 39 "Hobhouse$Train" "leastError" "J") (by decide +kernel)) (fun _ h9 => h9) rfl (by decide +kernel) (rfl) (rfl) (Nat.le_of_ble_eq_true rfl) dX8_compare_83 (fun H locs hP2 hD2 hS => ?_)
      have e9 := wPuJ (cy := cy) (j := 4) (v := (if 0 < ((x1.toInt64 * ((S.I o1 1).toInt64)) - (x2.toInt64 * ((S.I o1 0).toInt64))) then ((x1.toInt64 * ((S.I o1 1).toInt64)) - (x2.toInt64 * ((S.I o1 0).toInt64))) else -((x1.toInt64 * ((S.I o1 1).toInt64)) - (x2.toInt64 * ((S.I o1 0).toInt64))))) hD (xe26.A (xe22.A h_o1)).1 (xe26.A (xe22.A h_o1)).2.1 gk28 rfl
      obtain ⟨S29, hS29⟩ : ∃ z, S25.sJ o1 4 (if 0 < ((x1.toInt64 * ((S.I o1 1).toInt64)) - (x2.toInt64 * ((S.I o1 0).toInt64))) then ((x1.toInt64 * ((S.I o1 1).toInt64)) - (x2.toInt64 * ((S.I o1 0).toInt64))) else -((x1.toInt64 * ((S.I o1 1).toInt64)) - (x2.toInt64 * ((S.I o1 0).toInt64)))) = z := ⟨_, rfl⟩
      have hP : va_P D vwCl (X ++ PL cy S29) H := by rw [← hS29, ← e9]; exact hP2
      have hD : va_D A (X ++ PL cy S29) := by rw [← hS29, ← e9]; exact hD2
      have xe30 : ext S25 S29 := by rw [← hS29]; exact ext.sJ _ _ _ _
      have t31 : stp [(8, 2), (8, 3), (8, 4)] [] [] S S29 := by rw [← hS29]; exact t27.J 4 (if 0 < ((x1.toInt64 * ((S.I o1 1).toInt64)) - (x2.toInt64 * ((S.I o1 0).toInt64))) then ((x1.toInt64 * ((S.I o1 1).toInt64)) - (x2.toInt64 * ((S.I o1 0).toInt64))) else -((x1.toInt64 * ((S.I o1 1).toInt64)) - (x2.toInt64 * ((S.I o1 0).toInt64)))) (xe26.A (xe22.A h_o1)) (by decide)
      refine W.widen (k := 0) (n := 0) (Nat.le_of_ble_eq_true rfl) (Nat.le_of_ble_eq_true rfl) ?_
      exact W.vret hx hb hr (fun t ht hW9 => ⟨⟨S29, rfl, ⟨(by show S29 = f_X8_compare S o1 x1 x2; unfold f_X8_compare; rw [if_neg c6, if_pos c19, l1_eq hS21, l1_eq hS25, l1_eq hS29]), t31⟩, wd_end hP hK hD ht hW9.alike⟩, hS.F ht⟩) hS.2.2 dX8_compare_86 hlocks
    · refine lv_lload hx hb dX8_compare_54 (lv_at hl 1 rfl) ?_
      refine lv_lload hx hb dX8_compare_56 (lv_at hl 0 rfl) ?_
      refine W.lcmp hx hb dX8_compare_58 ?_
      refine lv_if_ne (tgt := 86) hx hb dX8_compare_59 (by decide) (fun c32 => ?_) (fun c32 => ?_)
      · refine W.widen (k := 0) (n := 0) (Nat.le_of_ble_eq_true rfl) (Nat.le_of_ble_eq_true rfl) ?_
        exact W.vret hx hb hr (fun t ht hW9 => ⟨⟨S, rfl, ⟨(by show S = f_X8_compare S o1 x1 x2; unfold f_X8_compare; rw [if_neg c6, if_neg c19, if_neg c32]), t0⟩, wd_end hP hK hD ht hW9.alike⟩, hS.F ht⟩) hS.2.2 dX8_compare_86 hlocks
      · refine lv_aload_n hx hb dX8_compare_62 rfl (lv_at hl 3 rfl) ?_
        refine lv_iload_n hx hb dX8_compare_63 rfl (lv_at hl 4 rfl) ?_
        refine lv_iload_n hx hb dX8_compare_64 rfl (lv_at hl 5 rfl) ?_
        have hFc := free_all hD hS hA
        obtain ⟨k33, gk33, hk33⟩ := wGt (cy := cy) X S h_o1.1 h_o1.2.1
        refine va_calli (va_runV (As := [.int x1, .int x2]) (rest := []) ⟨hx, hb, hml, hown, hts⟩ (c_X8_comesFirst l (cy := cy) (X := X) (D := D) S _ o1 h_o1 x1 x2) (cwV 2 hts gX8_compare_X8_comesFirst rfl rfl rfl hd_X8_comesFirst ⟨Nat.le_of_ble_eq_true rfl, Nat.le_of_ble_eq_true rfl⟩) (pV (va_recv hK hP (q := (RX8, TX8, 5)) (ci := 12) (q0 := k33) rfl hk33) hP hK hD hN) rfl rfl hl.1 rfl (lv_room (Nat.le_of_ble_eq_true rfl)) dX8_compare_65 ⟨(Nat.zero_le _), (Nat.zero_le _)⟩) hS (fun q _ h => hFc q h) hFc (fun r34 u t H1 locs ht hvm hw hB hz1 hk1 hS => ?_)
        have c35 := hw
        obtain ⟨hP, hD⟩ := wd_post hFc ht hB
        generalize H1 = H at hP hS ⊢
        obtain rfl : f_X8_comesFirst S o1 x1 x2 = r34 := c35.symm
        refine lv_if_eq (tgt := 86) hx hb dX8_compare_68 (by decide) (fun c36 => ?_) (fun c36 => ?_)
        · have c36i : (f_X8_comesFirst S o1 x1 x2).toInt = 0 := eq_v rfl rfl c36
          refine W.widen (k := 0) (n := 0) (Nat.le_of_ble_eq_true rfl) (Nat.le_of_ble_eq_true rfl) ?_
          exact W.vret hx hb hr (fun t ht hW9 => ⟨⟨S, rfl, ⟨(by show S = f_X8_compare S o1 x1 x2; unfold f_X8_compare; rw [if_neg c6, if_neg c19, if_pos c32, if_pos c36]), t0⟩, wd_end hP hK hD ht hW9.alike⟩, hS.F ht⟩) hS.2.2 dX8_compare_86 hlocks
        · have c36i : ¬ (f_X8_comesFirst S o1 x1 x2).toInt = 0 := neq_v rfl rfl c36
          refine lv_aload_n hx hb dX8_compare_71 rfl (lv_at hl 3 rfl) ?_
          refine lv_iload_n hx hb dX8_compare_72 rfl (lv_at hl 4 rfl) ?_
          obtain ⟨k37, gk37, hk37⟩ := wGt (cy := cy) X S h_o1.1 h_o1.2.1
          refine va_put (D := D) (ci := 12) (v := .int x1) (ty := .int) (C := RX8) (T := TX8) (N := 5) hx hb hts hi_X8_compare_X8 tyX8 tyX8_ok nmX8 hown hK hP hD hS k37 hk37 rfl 2 (by decide) (hts (.fieldLink RX8 47 "Hobhouse$Train" "first" "I") (by decide +kernel)) (fun _ h9 => h9) rfl (by decide +kernel) (rfl) (rfl) (Nat.le_of_ble_eq_true rfl) dX8_compare_73 (fun H locs hP2 hD2 hS => ?_)
          have e9 := wPuI (cy := cy) (j := 2) (v := x1) hD h_o1.1 h_o1.2.1 gk37 rfl
          obtain ⟨S38, hS38⟩ : ∃ z, S.sI o1 2 x1 = z := ⟨_, rfl⟩
          have hP : va_P D vwCl (X ++ PL cy S38) H := by rw [← hS38, ← e9]; exact hP2
          have hD : va_D A (X ++ PL cy S38) := by rw [← hS38, ← e9]; exact hD2
          have xe39 : ext S S38 := by rw [← hS38]; exact ext.sI _ _ _ _
          have t40 : stp [(8, 2), (8, 3), (8, 4)] [] [] S S38 := by rw [← hS38]; exact t0.I 2 x1 h_o1 (by decide) (trivial) (Or.inl (by decide))
          refine lv_aload_n hx hb dX8_compare_76 rfl (lv_at hl 3 rfl) ?_
          refine lv_iload_n hx hb dX8_compare_77 rfl (lv_at hl 5 rfl) ?_
          obtain ⟨k41, gk41, hk41⟩ := wGt (cy := cy) X S38 (xe39.A h_o1).1 (xe39.A h_o1).2.1
          refine va_put (D := D) (ci := 12) (v := .int x2) (ty := .int) (C := RX8) (T := TX8) (N := 5) hx hb hts hi_X8_compare_X8 tyX8 tyX8_ok nmX8 hown hK hP hD hS k41 hk41 rfl 3 (by decide) (hts (.fieldLink RX8 36 "Hobhouse$Train" "second" "I") (by decide +kernel)) (fun _ h9 => h9) rfl (by decide +kernel) (rfl) (rfl) (Nat.le_of_ble_eq_true rfl) dX8_compare_78 (fun H locs hP2 hD2 hS => ?_)
          have e9 := wPuI (cy := cy) (j := 3) (v := x2) hD (xe39.A h_o1).1 (xe39.A h_o1).2.1 gk41 rfl
          obtain ⟨S42, hS42⟩ : ∃ z, S38.sI o1 3 x2 = z := ⟨_, rfl⟩
          have hP : va_P D vwCl (X ++ PL cy S42) H := by rw [← hS42, ← e9]; exact hP2
          have hD : va_D A (X ++ PL cy S42) := by rw [← hS42, ← e9]; exact hD2
          have xe43 : ext S38 S42 := by rw [← hS42]; exact ext.sI _ _ _ _
          have t44 : stp [(8, 2), (8, 3), (8, 4)] [] [] S S42 := by rw [← hS42]; exact t40.I 3 x2 (xe39.A h_o1) (by decide) (trivial) (Or.inl (by decide))
          refine lv_aload_n hx hb dX8_compare_81 rfl (lv_at hl 3 rfl) ?_
          refine lv_lload_n hx hb dX8_compare_82 rfl (lv_at hl 2 rfl) ?_
          obtain ⟨k45, gk45, hk45⟩ := wGt (cy := cy) X S42 (xe43.A (xe39.A h_o1)).1 (xe43.A (xe39.A h_o1)).2.1
          refine va_put (D := D) (ci := 12) (v := .long (if 0 < ((x1.toInt64 * ((S.I o1 1).toInt64)) - (x2.toInt64 * ((S.I o1 0).toInt64))) then ((x1.toInt64 * ((S.I o1 1).toInt64)) - (x2.toInt64 * ((S.I o1 0).toInt64))) else -((x1.toInt64 * ((S.I o1 1).toInt64)) - (x2.toInt64 * ((S.I o1 0).toInt64))))) (ty := .long) (C := RX8) (T := TX8) (N := 5) hx hb hts hi_X8_compare_X8 tyX8 tyX8_ok nmX8 hown hK hP hD hS k45 hk45 rfl 4 (by decide) (hts (.fieldLink RX8 39 "Hobhouse$Train" "leastError" "J") (by decide +kernel)) (fun _ h9 => h9) rfl (by decide +kernel) (rfl) (rfl) (Nat.le_of_ble_eq_true rfl) dX8_compare_83 (fun H locs hP2 hD2 hS => ?_)
          have e9 := wPuJ (cy := cy) (j := 4) (v := (if 0 < ((x1.toInt64 * ((S.I o1 1).toInt64)) - (x2.toInt64 * ((S.I o1 0).toInt64))) then ((x1.toInt64 * ((S.I o1 1).toInt64)) - (x2.toInt64 * ((S.I o1 0).toInt64))) else -((x1.toInt64 * ((S.I o1 1).toInt64)) - (x2.toInt64 * ((S.I o1 0).toInt64))))) hD (xe43.A (xe39.A h_o1)).1 (xe43.A (xe39.A h_o1)).2.1 gk45 rfl
          obtain ⟨S46, hS46⟩ : ∃ z, S42.sJ o1 4 (if 0 < ((x1.toInt64 * ((S.I o1 1).toInt64)) - (x2.toInt64 * ((S.I o1 0).toInt64))) then ((x1.toInt64 * ((S.I o1 1).toInt64)) - (x2.toInt64 * ((S.I o1 0).toInt64))) else -((x1.toInt64 * ((S.I o1 1).toInt64)) - (x2.toInt64 * ((S.I o1 0).toInt64)))) = z := ⟨_, rfl⟩
          have hP : va_P D vwCl (X ++ PL cy S46) H := by rw [← hS46, ← e9]; exact hP2
          have hD : va_D A (X ++ PL cy S46) := by rw [← hS46, ← e9]; exact hD2
          have xe47 : ext S42 S46 := by rw [← hS46]; exact ext.sJ _ _ _ _
          have t48 : stp [(8, 2), (8, 3), (8, 4)] [] [] S S46 := by rw [← hS46]; exact t44.J 4 (if 0 < ((x1.toInt64 * ((S.I o1 1).toInt64)) - (x2.toInt64 * ((S.I o1 0).toInt64))) then ((x1.toInt64 * ((S.I o1 1).toInt64)) - (x2.toInt64 * ((S.I o1 0).toInt64))) else -((x1.toInt64 * ((S.I o1 1).toInt64)) - (x2.toInt64 * ((S.I o1 0).toInt64)))) (xe43.A (xe39.A h_o1)) (by decide)
          refine W.widen (k := 0) (n := 0) (Nat.le_of_ble_eq_true rfl) (Nat.le_of_ble_eq_true rfl) ?_
          exact W.vret hx hb hr (fun t ht hW9 => ⟨⟨S46, rfl, ⟨(by show S46 = f_X8_compare S o1 x1 x2; unfold f_X8_compare; rw [if_neg c6, if_neg c19, if_pos c32, if_neg c36, l1_eq hS38, l1_eq hS42, l1_eq hS46]), t48⟩, wd_end hP hK hD ht hW9.alike⟩, hS.F ht⟩) hS.2.2 dX8_compare_86 hlocks
theorem hi_X8_search_X8 : ∀ w ∈ u_ws RX8 TX8 5, w ∈ wsX8_search := by decide +kernel
theorem hd_X8_search : yX8_search.cls = RX8 ∧ yX8_search.cls ≠ "java/lang/invoke/MethodHandle" ∧ yX8_search.cls ≠ "java/lang/invoke/VarHandle" ∧ (parseMethodDescriptor yX8_search.desc).map (fun d => d.parameters.length) = some 2 := by decide +kernel
set_option maxHeartbeats 4000000 in
set_option maxRecDepth 100000 in
theorem c_X8_search (l : Launch) {D : va_G} {cy : Nat → ClassId} {X : va_W} (S : wPS) (sz : Nat) (o1 : Nat) (h_o1 : isA S o1 8) (x1 : Int32) (x2 : Int32) (hW : wtB S []) (h1 : 0 ≤ x1.toInt ∧ x1.toInt ≤ 200) (h2 : 0 ≤ x2.toInt ∧ x2.toInt ≤ 200) : Met l yX8_search wsX8_search ({ frames := 4, cells := 0, slots := 0, locals := 90 }) (va_Pc [.ref o1, .int x1, .int x2] (fun U => U.heap.size = sz ∧ WD D cy X (fun _ => True) S U ∧ NW U)) (va_Qv (fun (u : wPS) => stp [(8, 2), (8, 3), (8, 4)] [] [] S u) (fun u t => WD D cy X (va_A (X ++ PL cy S) sz) u t) (va_A (X ++ PL cy S) sz)) 0 0 (va_A (X ++ PL cy S) sz) := by
  refine Met.ofW (cc := cX8_search) (maxL := 5) (ret := none) (by decide) rfl ?_
  intro p e s m args below meth c s₁ B hml hv
  obtain ⟨rfl, hsz, ⟨hP, hK, hD0⟩, hN⟩ := hv
  have hx := B.exec
  have hb := B.bytes
  have hr := B.returns
  have hts := atoms_spec (ws := wsX8_search) B.pre
  have hown : s.vm.findClass RX8 = some m.cls := findClass_of_methodNamed (x := yX8_search) B.named
  have hlocks := B.notSynchronized
  subst hsz
  have hD := hD0.self (sz := s.heap.size)
  generalize hAe : va_A (X ++ PL cy S) s.heap.size = A at hD ⊢
  have hA : ∀ q : Nat, s.heap.size ≤ q → A q := fun q h => by rw [← hAe]; exact Or.inr h
  have hS : va_S A s.heap s.heap [] := va_S.rf
  have hl := lv_entry ([.ref o1, .int x1, .int x2]) (n := 5) (Nat.le_of_ble_eq_true rfl)
  rw [lg_entry_eq]
  generalize (lg_sl ([.ref o1, .int x1, .int x2]) ++ List.replicate (5 - (lg_sl ([.ref o1, .int x1, .int x2])).length) Slot.unset).toArray = ls at hl ⊢
  have hl : lv_has ls 5 [(0, .ref o1), (1, .int x1), (2, .int x2)] := hl
  have t0 : stp [(8, 2), (8, 3), (8, 4)] [] [] S S := stp.rf hW
  refine lv_iload_n hx hb dX8_search_0 rfl (lv_at hl 1 rfl) ?_
  refine lv_istore_n (lv' := [(3, .int x1), (0, .ref o1), (1, .int x1), (2, .int x2)]) hx hb dX8_search_1 rfl hl (by decide) rfl (fun ls hl => ?_)
  have loop2 : ∀ (n : Nat) (S2_ : wPS) (w2_3 : Int32) (H : Heap) (locs : List Loc) (ls : Array Slot), (202 - w2_3.toInt).toNat < n → 0 ≤ w2_3.toInt ∧ w2_3.toInt ≤ 201 → stp [(8, 2), (8, 3), (8, 4)] [] [] S S2_ → va_P D vwCl (X ++ PL cy S2_) H → va_D A (X ++ PL cy S2_) → va_S A s.heap H locs → lv_has ls 5 [(3, .int w2_3), (0, .ref o1), (1, .int x1), (2, .int x2)] → (∀ (S2_x : wPS) (w2_3x : Int32) (H : Heap) (locs : List Loc) (ls : Array Slot), 0 ≤ w2_3x.toInt ∧ w2_3x.toInt ≤ 201 → stp [(8, 2), (8, 3), (8, 4)] [] [] S S2_x → va_P D vwCl (X ++ PL cy S2_x) H → va_D A (X ++ PL cy S2_x) → va_S A s.heap H locs → lv_has ls 5 [(3, .int w2_3x), (0, .ref o1), (1, .int x1), (2, .int x2)] → W p l e (headSpec wsX8_search ({ frames := 4, cells := 0, slots := 0, locals := 90 } : Room)).room s m [.ref o1, .int x1, .int x2].toArray below meth c H locs 0 0 (MQ below (va_Qv (fun (u : wPS) => stp [(8, 2), (8, 3), (8, 4)] [] [] S u) (fun u t => WD D cy X A u t) A) [.ref o1, .int x1, .int x2].toArray s 0 0 A) (F0 m 67 ls [])) → W p l e (headSpec wsX8_search ({ frames := 4, cells := 0, slots := 0, locals := 90 } : Room)).room s m [.ref o1, .int x1, .int x2].toArray below meth c H locs 0 0 (MQ below (va_Qv (fun (u : wPS) => stp [(8, 2), (8, 3), (8, 4)] [] [] S u) (fun u t => WD D cy X A u t) A) [.ref o1, .int x1, .int x2].toArray s 0 0 A) (F0 m 2 ls []) := by
    intro n2
    induction n2 with
    | zero => intro S2_ w2_3 H locs ls hm; exact absurd hm (Nat.not_lt_zero _)
    | succ n2 ih2 =>
      intro S2_ w2_3 H locs ls hm2 hi2 hsh2 hP hD hS hl ko2
      refine lv_iload_n hx hb dX8_search_2 rfl (lv_at hl 0 rfl) ?_
      refine lv_iload_n hx hb dX8_search_3 rfl (lv_at hl 3 rfl) ?_
      refine lv_icmp_gt (tgt := 67) hx hb dX8_search_4 (by decide) (fun c1 => ?_) (fun c1 => ?_)
      · have c1i : x2.toInt < w2_3.toInt := lt_v rfl rfl c1
        exact ko2 S2_ w2_3 _ _ _ (by omega) hsh2 hP hD hS (lv_sub hl [0, 1, 2, 3] rfl)
      · have c1i : w2_3.toInt ≤ x2.toInt := nlt_v rfl rfl c1
        refine lv_aload_n hx hb dX8_search_7 rfl (lv_at hl 1 rfl) ?_
        obtain ⟨k2, gk2, hk2⟩ := wGt (cy := cy) X S2_ (hsh2.x.A h_o1).1 (hsh2.x.A h_o1).2.1
        refine va_get (D := D) (ci := 12) (v := .int (S2_.I o1 1)) (C := RX8) (T := TX8) (N := 5) hx hb hts hi_X8_search_X8 hown hK hP k2 hk2 rfl 1 (by decide) (hts (.fieldLink RX8 13 "Hobhouse$Train" "down" "I") (by decide +kernel)) (fun _ h9 => h9) rfl dX8_search_8 ?_
        refine lv_if_le (tgt := 67) hx hb dX8_search_11 (by decide) (fun c3 => ?_) (fun c3 => ?_)
        · have c3i : (S2_.I o1 1).toInt ≤ 0 := le_v rfl rfl c3
          exact ko2 S2_ w2_3 _ _ _ (by omega) hsh2 hP hD hS (lv_sub hl [0, 1, 2, 3] rfl)
        · have c3i : 0 < (S2_.I o1 1).toInt := nle_v rfl rfl c3
          refine lv_iload_n hx hb dX8_search_14 rfl (lv_at hl 2 rfl) ?_
          refine lv_i2l hx hb dX8_search_15 rfl ?_
          refine lv_iload_n hx hb dX8_search_16 rfl (lv_at hl 3 rfl) ?_
          refine lv_i2l hx hb dX8_search_17 rfl ?_
          refine lv_iload_n hx hb dX8_search_18 rfl (lv_at hl 0 rfl) ?_
          refine lv_i2l hx hb dX8_search_19 rfl ?_
          refine lv_aload_n hx hb dX8_search_20 rfl (lv_at hl 1 rfl) ?_
          obtain ⟨k4, gk4, hk4⟩ := wGt (cy := cy) X S2_ (hsh2.x.A h_o1).1 (hsh2.x.A h_o1).2.1
          refine va_get (D := D) (ci := 12) (v := .int (S2_.I o1 0)) (C := RX8) (T := TX8) (N := 5) hx hb hts hi_X8_search_X8 hown hK hP k4 hk4 rfl 0 (by decide) (hts (.fieldLink RX8 7 "Hobhouse$Train" "up" "I") (by decide +kernel)) (fun _ h9 => h9) rfl dX8_search_21 ?_
          refine lv_i2l hx hb dX8_search_24 rfl ?_
          refine lv_lmul hx hb dX8_search_25 ?_
          refine lv_aload_n hx hb dX8_search_26 rfl (lv_at hl 1 rfl) ?_
          obtain ⟨k5, gk5, hk5⟩ := wGt (cy := cy) X S2_ (hsh2.x.A h_o1).1 (hsh2.x.A h_o1).2.1
          refine va_get (D := D) (ci := 12) (v := .int (S2_.I o1 1)) (C := RX8) (T := TX8) (N := 5) hx hb hts hi_X8_search_X8 hown hK hP k5 hk5 rfl 1 (by decide) (hts (.fieldLink RX8 13 "Hobhouse$Train" "down" "I") (by decide +kernel)) (fun _ h9 => h9) rfl dX8_search_27 ?_
          refine lv_i2l hx hb dX8_search_30 rfl ?_
          refine lv_ldiv hx hb dX8_search_31 (nz_l (by omega)) ?_
          refine va_mmin_long hx hb (hml.trans hl.1.symm) hown (hts (.methodLink RX8 16 Lib.MathLoose.min_long.x) (by decide +kernel)) (hts (.static Lib.MathLoose.min_long.x) (by decide +kernel)) (hts (.initialized "java/lang/Math") (by decide +kernel)) (hts (.code Lib.MathLoose.min_long.x Lib.MathLoose.min_long.code 4 (some .long)) (by decide +kernel)) (Nat.le_of_ble_eq_true rfl) (Nat.le_of_ble_eq_true rfl) (Nat.zero_le _) (Nat.zero_le _) dX8_search_32 ?_
          refine va_mmax_long hx hb (hml.trans hl.1.symm) hown (hts (.methodLink RX8 22 Lib.MathLoose.max_long.x) (by decide +kernel)) (hts (.static Lib.MathLoose.max_long.x) (by decide +kernel)) (hts (.initialized "java/lang/Math") (by decide +kernel)) (hts (.code Lib.MathLoose.max_long.x Lib.MathLoose.max_long.code 4 (some .long)) (by decide +kernel)) (Nat.le_of_ble_eq_true rfl) (Nat.le_of_ble_eq_true rfl) (Nat.zero_le _) (Nat.zero_le _) dX8_search_35 ?_
          refine lv_l2i hx hb dX8_search_38 rfl ?_
          refine lv_istore (lv' := [(4, .int ((if (if ((w2_3.toInt64 * ((S2_.I o1 0).toInt64)) / ((S2_.I o1 1).toInt64)) < x2.toInt64 then ((w2_3.toInt64 * ((S2_.I o1 0).toInt64)) / ((S2_.I o1 1).toInt64)) else x2.toInt64) < x1.toInt64 then x1.toInt64 else (if ((w2_3.toInt64 * ((S2_.I o1 0).toInt64)) / ((S2_.I o1 1).toInt64)) < x2.toInt64 then ((w2_3.toInt64 * ((S2_.I o1 0).toInt64)) / ((S2_.I o1 1).toInt64)) else x2.toInt64)).toInt32)), (3, .int w2_3), (0, .ref o1), (1, .int x1), (2, .int x2)]) hx hb dX8_search_39 hl (by decide) rfl (fun ls hl => ?_)
          refine lv_aload_n hx hb dX8_search_41 rfl (lv_at hl 2 rfl) ?_
          refine lv_iload hx hb dX8_search_42 (lv_at hl 0 rfl) ?_
          refine lv_iload_n hx hb dX8_search_44 rfl (lv_at hl 1 rfl) ?_
          have hFc := free_all hD hS hA
          obtain ⟨k6, gk6, hk6⟩ := wGt (cy := cy) X S2_ (hsh2.x.A h_o1).1 (hsh2.x.A h_o1).2.1
          refine va_callv (va_runV (As := [.int ((if (if ((w2_3.toInt64 * ((S2_.I o1 0).toInt64)) / ((S2_.I o1 1).toInt64)) < x2.toInt64 then ((w2_3.toInt64 * ((S2_.I o1 0).toInt64)) / ((S2_.I o1 1).toInt64)) else x2.toInt64) < x1.toInt64 then x1.toInt64 else (if ((w2_3.toInt64 * ((S2_.I o1 0).toInt64)) / ((S2_.I o1 1).toInt64)) < x2.toInt64 then ((w2_3.toInt64 * ((S2_.I o1 0).toInt64)) / ((S2_.I o1 1).toInt64)) else x2.toInt64)).toInt32), .int w2_3]) (rest := []) ⟨hx, hb, hml, hown, hts⟩ (c_X8_compare l (cy := cy) (X := X) (D := D) S2_ _ o1 (hsh2.x.A h_o1) ((if (if ((w2_3.toInt64 * ((S2_.I o1 0).toInt64)) / ((S2_.I o1 1).toInt64)) < x2.toInt64 then ((w2_3.toInt64 * ((S2_.I o1 0).toInt64)) / ((S2_.I o1 1).toInt64)) else x2.toInt64) < x1.toInt64 then x1.toInt64 else (if ((w2_3.toInt64 * ((S2_.I o1 0).toInt64)) / ((S2_.I o1 1).toInt64)) < x2.toInt64 then ((w2_3.toInt64 * ((S2_.I o1 0).toInt64)) / ((S2_.I o1 1).toInt64)) else x2.toInt64)).toInt32) w2_3 (hsh2.w)) (cwV 2 hts gX8_search_X8_compare rfl rfl rfl hd_X8_compare ⟨Nat.le_of_ble_eq_true rfl, Nat.le_of_ble_eq_true rfl⟩) (pV (va_recv hK hP (q := (RX8, TX8, 5)) (ci := 12) (q0 := k6) rfl hk6) hP hK hD hN) rfl rfl hl.1 rfl (lv_room (Nat.le_of_ble_eq_true rfl)) dX8_search_45 ⟨(Nat.zero_le _), (Nat.zero_le _)⟩) hS (fun q _ h => hFc q h) hFc (fun u t H1 locs ht hvm hw hB hz1 hk1 hS => ?_)
          obtain ⟨c8, w9⟩ := hw
          obtain ⟨hP, hD⟩ := wd_post hFc ht hB
          generalize H1 = H at hP hS ⊢
          obtain ⟨S10, rfl⟩ : ∃ z, z = u := ⟨_, rfl⟩
          have t11 : stp [(8, 2), (8, 3), (8, 4)] [] [] S S10 := hsh2.tr w9 (by decide) (fun _ q => absurd q List.not_mem_nil)
          have xe12 : ext S2_ S10 := w9.x
          refine lv_aload_n hx hb dX8_search_48 rfl (lv_at hl 2 rfl) ?_
          refine lv_iload_n hx hb dX8_search_49 rfl (lv_at hl 4 rfl) ?_
          refine lv_iload hx hb dX8_search_50 (lv_at hl 0 rfl) ?_
          refine lv_iconst (v := 1) hx hb dX8_search_52 (by decide) ?_
          refine lv_iadd hx hb dX8_search_53 ?_
          refine va_mmin hx hb (hml.trans hl.1.symm) hown (hts (.methodLink RX8 29 Lib.Math.min.name) (by decide +kernel)) (hts (.static Lib.Math.min.name) (by decide +kernel)) (hts (.initialized "java/lang/Math") (by decide +kernel)) (hts (.code Lib.Math.min.name Lib.Math.min.code 2 (some .int)) (by decide +kernel)) (Nat.le_of_ble_eq_true rfl) (Nat.le_of_ble_eq_true rfl) (Nat.zero_le _) (Nat.zero_le _) dX8_search_54 ?_
          refine lv_iload_n hx hb dX8_search_57 rfl (lv_at hl 1 rfl) ?_
          have l32_1 : (1 : Int32).toInt = 1 := rfl
          have hFc := free_all hD hS hA
          obtain ⟨k13, gk13, hk13⟩ := wGt (cy := cy) X S10 (xe12.A (hsh2.x.A h_o1)).1 (xe12.A (hsh2.x.A h_o1)).2.1
          refine va_callv (va_runV (As := [.int (if (((if (if ((w2_3.toInt64 * ((S2_.I o1 0).toInt64)) / ((S2_.I o1 1).toInt64)) < x2.toInt64 then ((w2_3.toInt64 * ((S2_.I o1 0).toInt64)) / ((S2_.I o1 1).toInt64)) else x2.toInt64) < x1.toInt64 then x1.toInt64 else (if ((w2_3.toInt64 * ((S2_.I o1 0).toInt64)) / ((S2_.I o1 1).toInt64)) < x2.toInt64 then ((w2_3.toInt64 * ((S2_.I o1 0).toInt64)) / ((S2_.I o1 1).toInt64)) else x2.toInt64)).toInt32) + (1 : Int32)) < x2 then (((if (if ((w2_3.toInt64 * ((S2_.I o1 0).toInt64)) / ((S2_.I o1 1).toInt64)) < x2.toInt64 then ((w2_3.toInt64 * ((S2_.I o1 0).toInt64)) / ((S2_.I o1 1).toInt64)) else x2.toInt64) < x1.toInt64 then x1.toInt64 else (if ((w2_3.toInt64 * ((S2_.I o1 0).toInt64)) / ((S2_.I o1 1).toInt64)) < x2.toInt64 then ((w2_3.toInt64 * ((S2_.I o1 0).toInt64)) / ((S2_.I o1 1).toInt64)) else x2.toInt64)).toInt32) + (1 : Int32)) else x2), .int w2_3]) (rest := []) ⟨hx, hb, hml, hown, hts⟩ (c_X8_compare l (cy := cy) (X := X) (D := D) S10 _ o1 (xe12.A (hsh2.x.A h_o1)) (if (((if (if ((w2_3.toInt64 * ((S2_.I o1 0).toInt64)) / ((S2_.I o1 1).toInt64)) < x2.toInt64 then ((w2_3.toInt64 * ((S2_.I o1 0).toInt64)) / ((S2_.I o1 1).toInt64)) else x2.toInt64) < x1.toInt64 then x1.toInt64 else (if ((w2_3.toInt64 * ((S2_.I o1 0).toInt64)) / ((S2_.I o1 1).toInt64)) < x2.toInt64 then ((w2_3.toInt64 * ((S2_.I o1 0).toInt64)) / ((S2_.I o1 1).toInt64)) else x2.toInt64)).toInt32) + (1 : Int32)) < x2 then (((if (if ((w2_3.toInt64 * ((S2_.I o1 0).toInt64)) / ((S2_.I o1 1).toInt64)) < x2.toInt64 then ((w2_3.toInt64 * ((S2_.I o1 0).toInt64)) / ((S2_.I o1 1).toInt64)) else x2.toInt64) < x1.toInt64 then x1.toInt64 else (if ((w2_3.toInt64 * ((S2_.I o1 0).toInt64)) / ((S2_.I o1 1).toInt64)) < x2.toInt64 then ((w2_3.toInt64 * ((S2_.I o1 0).toInt64)) / ((S2_.I o1 1).toInt64)) else x2.toInt64)).toInt32) + (1 : Int32)) else x2) w2_3 (t11.w)) (cwV 2 hts gX8_search_X8_compare rfl rfl rfl hd_X8_compare ⟨Nat.le_of_ble_eq_true rfl, Nat.le_of_ble_eq_true rfl⟩) (pV (va_recv hK hP (q := (RX8, TX8, 5)) (ci := 12) (q0 := k13) rfl hk13) hP hK hD hN) rfl rfl hl.1 rfl (lv_room (Nat.le_of_ble_eq_true rfl)) dX8_search_58 ⟨(Nat.zero_le _), (Nat.zero_le _)⟩) hS (fun q _ h => hFc q h) hFc (fun u t H1 locs ht hvm hw hB hz1 hk1 hS => ?_)
          obtain ⟨c15, w16⟩ := hw
          obtain ⟨hP, hD⟩ := wd_post hFc ht hB
          generalize H1 = H at hP hS ⊢
          obtain ⟨S17, rfl⟩ : ∃ z, z = u := ⟨_, rfl⟩
          have t18 : stp [(8, 2), (8, 3), (8, 4)] [] [] S S17 := t11.tr w16 (by decide) (fun _ q => absurd q List.not_mem_nil)
          have xe19 : ext S10 S17 := w16.x
          refine lv_iinc (v := w2_3 + (1 : Int32)) (lv' := [(3, .int (w2_3 + (1 : Int32))), (4, .int ((if (if ((w2_3.toInt64 * ((S2_.I o1 0).toInt64)) / ((S2_.I o1 1).toInt64)) < x2.toInt64 then ((w2_3.toInt64 * ((S2_.I o1 0).toInt64)) / ((S2_.I o1 1).toInt64)) else x2.toInt64) < x1.toInt64 then x1.toInt64 else (if ((w2_3.toInt64 * ((S2_.I o1 0).toInt64)) / ((S2_.I o1 1).toInt64)) < x2.toInt64 then ((w2_3.toInt64 * ((S2_.I o1 0).toInt64)) / ((S2_.I o1 1).toInt64)) else x2.toInt64)).toInt32)), (0, .ref o1), (1, .int x1), (2, .int x2)]) hx hb dX8_search_61 hl (k := 1) rfl (by rfl) (by decide) rfl (fun ls hl => ?_)
          refine lv_goto (tgt := 2) hx hb dX8_search_64 (by decide) ?_
          have i20 : (w2_3 + (1 : Int32)).toInt = w2_3.toInt + 1 := t_addr (n := 1) rfl (by omega)
          exact ih2 S17 (w2_3 + (1 : Int32)) _ _ _ (Nat.lt_of_lt_of_le (by omega) (Nat.le_of_lt_succ hm2)) (by omega) t18 hP hD hS (lv_sub hl [0, 2, 3, 4] rfl) ko2
  refine loop2 203 S x1 _ _ _ (by omega) (by omega) (stp.rf hW) hP hD hS (lv_sub hl [0, 1, 2, 3] rfl) (fun S22 z23 H locs ls hi2 hsh2 hP hD hS hl => ?_)
  have t24 : stp [(8, 2), (8, 3), (8, 4)] [] [] S S22 := t0.tr hsh2 (fun _ q => q) (fun _ q => Or.inl q)
  have et24 := hsh2.x
  refine W.widen (k := 0) (n := 0) (Nat.le_of_ble_eq_true rfl) (Nat.le_of_ble_eq_true rfl) ?_
  exact W.vret hx hb hr (fun t ht hW9 => ⟨⟨S22, rfl, t24, wd_end hP hK hD ht hW9.alike⟩, hS.F ht⟩) hS.2.2 dX8_search_67 hlocks
theorem hi_X5_init_X5 : ∀ w ∈ u_ws RX5 TX5 6, w ∈ wsX5_init := by decide +kernel
set_option maxHeartbeats 4000000 in
set_option maxRecDepth 100000 in
theorem c_X5_init (l : Launch) {D : va_G} {cy : Nat → ClassId} {X : va_W} (S : wPS) (sz : Nat) (o1 : Nat) (h_o1 : isA S o1 5) (x1 : Int32) (x2 : Int32) (x3 : Int32) (R : List Nat) (hW : wtB S (o1 :: R)) (hF0 : ∀ j, S.F o1 j = none) (hI0 : ∀ j, S.I o1 j = 0)  : Met l yX5_init wsX5_init ({ frames := 1, cells := 0, slots := 0, locals := 12 }) (va_Pc [.ref o1, .int x1, .int x2, .int x3] (fun U => U.heap.size = sz ∧ WD D cy X (fun _ => True) S U ∧ NW U)) (va_Qv (fun (u : wPS) => stp ([] : List (Nat × Nat)) [o1] R S u ∧ isA u o1 5 ∧ u.I o1 0 = x1 ∧ u.I o1 1 = x2 ∧ u.I o1 2 = x3 ∧ u.I o1 3 = (0 : Int32) ∧ u.I o1 4 = (0 : Int32) ∧ u.I o1 5 = (2147483647 : Int32)) (fun u t => WD D cy X (va_A (X ++ PL cy S) sz) u t) (va_A (X ++ PL cy S) sz)) 0 0 (va_A (X ++ PL cy S) sz) := by
  refine Met.ofW (cc := cX5_init) (maxL := 4) (ret := none) (by decide) rfl ?_
  intro p e s m args below meth c s₁ B hml hv
  obtain ⟨rfl, hsz, ⟨hP, hK, hD0⟩, hN⟩ := hv
  have hx := B.exec
  have hb := B.bytes
  have hr := B.returns
  have hts := atoms_spec (ws := wsX5_init) B.pre
  have hown : s.vm.findClass RX5 = some m.cls := findClass_of_methodNamed (x := yX5_init) B.named
  have hlocks := B.notSynchronized
  have hin : meth.name = "<init>" := (name_of_methodNamed B.named B.method).1
  subst hsz
  have hD := hD0.self (sz := s.heap.size)
  generalize hAe : va_A (X ++ PL cy S) s.heap.size = A at hD ⊢
  have hA : ∀ q : Nat, s.heap.size ≤ q → A q := fun q h => by rw [← hAe]; exact Or.inr h
  have hS : va_S A s.heap s.heap [] := va_S.rf
  have hl := lv_entry ([.ref o1, .int x1, .int x2, .int x3]) (n := 4) (Nat.le_of_ble_eq_true rfl)
  rw [lg_entry_eq]
  generalize (lg_sl ([.ref o1, .int x1, .int x2, .int x3]) ++ List.replicate (4 - (lg_sl ([.ref o1, .int x1, .int x2, .int x3])).length) Slot.unset).toArray = ls at hl ⊢
  have hl : lv_has ls 4 [(0, .ref o1), (1, .int x1), (2, .int x2), (3, .int x3)] := hl
  have t0 : stp ([] : List (Nat × Nat)) [o1] (o1 :: R) S S := stp.rf hW
  refine lv_aload_n hx hb dX5_init_0 rfl (lv_at hl 0 rfl) ?_
  refine W.objInit hx hb hown (hts (.methodLink RX5 3 objectInit) (by decide +kernel)) (hts (.instanceMethod objectInit) (by decide +kernel)) (hts (.code objectInit ⟨#[0xb1]⟩ 1 none) (by decide +kernel)) rfl (by rw [hml]; exact hl.1) rfl dX5_init_1 (Nat.le_of_ble_eq_true rfl) (Nat.le_of_ble_eq_true rfl) ?_
  refine W.eq (g2 := F0 m 4 ls []) rfl ?_
  refine lv_aload_n hx hb dX5_init_4 rfl (lv_at hl 0 rfl) ?_
  refine lv_ldc (own := RX5) (v := 2147483647) hx hb hown (hts (.constant RX5 9 (2147483647)) (by decide +kernel)) dX5_init_5 ?_
  obtain ⟨k1, gk1, hk1⟩ := wGt (cy := cy) X S h_o1.1 h_o1.2.1
  refine va_put (D := D) (ci := 9) (v := .int (2147483647 : Int32)) (ty := .int) (C := RX5) (T := TX5) (N := 6) hx hb hts hi_X5_init_X5 tyX5 tyX5_ok nmX5 hown hK hP hD hS k1 hk1 rfl 5 (by decide) (hts (.fieldLink RX5 10 "Hobhouse$OldGear" "leastTip" "I") (by decide +kernel)) (fun _ h9 => h9) rfl (by decide +kernel) (rfl) (rfl) (Nat.le_of_ble_eq_true rfl) dX5_init_7 (fun H locs hP2 hD2 hS => ?_)
  have e9 := wPuI (cy := cy) (j := 5) (v := (2147483647 : Int32)) hD h_o1.1 h_o1.2.1 gk1 rfl
  obtain ⟨S2, hS2⟩ : ∃ z, S.sI o1 5 (2147483647 : Int32) = z := ⟨_, rfl⟩
  have hP : va_P D vwCl (X ++ PL cy S2) H := by rw [← hS2, ← e9]; exact hP2
  have hD : va_D A (X ++ PL cy S2) := by rw [← hS2, ← e9]; exact hD2
  have xe3 : ext S S2 := by rw [← hS2]; exact ext.sI _ _ _ _
  have t4 : stp ([] : List (Nat × Nat)) [o1] (o1 :: R) S S2 := by rw [← hS2]; exact t0.Ir 5 (2147483647 : Int32) List.mem_cons_self (Or.inl List.mem_cons_self)
  refine lv_aload_n hx hb dX5_init_10 rfl (lv_at hl 0 rfl) ?_
  refine lv_iload_n hx hb dX5_init_11 rfl (lv_at hl 1 rfl) ?_
  obtain ⟨k5, gk5, hk5⟩ := wGt (cy := cy) X S2 (xe3.A h_o1).1 (xe3.A h_o1).2.1
  refine va_putF (D := D) (ci := 9) (v := .int x1) (ty := .int) (C := RX5) (T := TX5) (N := 6) hx hb hts hi_X5_init_X5 tyX5 tyX5_ok nmX5 hown hK hP hD hS k5 hk5 rfl 0 (by decide) (hts (.fieldLink RX5 16 "Hobhouse$OldGear" "teeth" "I") (by decide +kernel)) (fun _ h9 => h9) rfl hin rfl (by decide +kernel) (rfl) (rfl) (Nat.le_of_ble_eq_true rfl) dX5_init_12 (fun H locs hP2 hD2 hS => ?_)
  have e9 := wPuI (cy := cy) (j := 0) (v := x1) hD (xe3.A h_o1).1 (xe3.A h_o1).2.1 gk5 rfl
  obtain ⟨S6, hS6⟩ : ∃ z, S2.sI o1 0 x1 = z := ⟨_, rfl⟩
  have hP : va_P D vwCl (X ++ PL cy S6) H := by rw [← hS6, ← e9]; exact hP2
  have hD : va_D A (X ++ PL cy S6) := by rw [← hS6, ← e9]; exact hD2
  have xe7 : ext S2 S6 := by rw [← hS6]; exact ext.sI _ _ _ _
  have t8 : stp ([] : List (Nat × Nat)) [o1] (o1 :: R) S S6 := by rw [← hS6]; exact t4.Ir 0 x1 List.mem_cons_self (Or.inl List.mem_cons_self)
  refine lv_aload_n hx hb dX5_init_15 rfl (lv_at hl 0 rfl) ?_
  refine lv_iload_n hx hb dX5_init_16 rfl (lv_at hl 2 rfl) ?_
  obtain ⟨k9, gk9, hk9⟩ := wGt (cy := cy) X S6 (xe7.A (xe3.A h_o1)).1 (xe7.A (xe3.A h_o1)).2.1
  refine va_putF (D := D) (ci := 9) (v := .int x2) (ty := .int) (C := RX5) (T := TX5) (N := 6) hx hb hts hi_X5_init_X5 tyX5 tyX5_ok nmX5 hown hK hP hD hS k9 hk9 rfl 1 (by decide) (hts (.fieldLink RX5 19 "Hobhouse$OldGear" "measured" "I") (by decide +kernel)) (fun _ h9 => h9) rfl hin rfl (by decide +kernel) (rfl) (rfl) (Nat.le_of_ble_eq_true rfl) dX5_init_17 (fun H locs hP2 hD2 hS => ?_)
  have e9 := wPuI (cy := cy) (j := 1) (v := x2) hD (xe7.A (xe3.A h_o1)).1 (xe7.A (xe3.A h_o1)).2.1 gk9 rfl
  obtain ⟨S10, hS10⟩ : ∃ z, S6.sI o1 1 x2 = z := ⟨_, rfl⟩
  have hP : va_P D vwCl (X ++ PL cy S10) H := by rw [← hS10, ← e9]; exact hP2
  have hD : va_D A (X ++ PL cy S10) := by rw [← hS10, ← e9]; exact hD2
  have xe11 : ext S6 S10 := by rw [← hS10]; exact ext.sI _ _ _ _
  have t12 : stp ([] : List (Nat × Nat)) [o1] (o1 :: R) S S10 := by rw [← hS10]; exact t8.Ir 1 x2 List.mem_cons_self (Or.inl List.mem_cons_self)
  refine lv_aload_n hx hb dX5_init_20 rfl (lv_at hl 0 rfl) ?_
  refine lv_iload_n hx hb dX5_init_21 rfl (lv_at hl 3 rfl) ?_
  obtain ⟨k13, gk13, hk13⟩ := wGt (cy := cy) X S10 (xe11.A (xe7.A (xe3.A h_o1))).1 (xe11.A (xe7.A (xe3.A h_o1))).2.1
  refine va_putF (D := D) (ci := 9) (v := .int x3) (ty := .int) (C := RX5) (T := TX5) (N := 6) hx hb hts hi_X5_init_X5 tyX5 tyX5_ok nmX5 hown hK hP hD hS k13 hk13 rfl 2 (by decide) (hts (.fieldLink RX5 22 "Hobhouse$OldGear" "worn" "I") (by decide +kernel)) (fun _ h9 => h9) rfl hin rfl (by decide +kernel) (rfl) (rfl) (Nat.le_of_ble_eq_true rfl) dX5_init_22 (fun H locs hP2 hD2 hS => ?_)
  have e9 := wPuI (cy := cy) (j := 2) (v := x3) hD (xe11.A (xe7.A (xe3.A h_o1))).1 (xe11.A (xe7.A (xe3.A h_o1))).2.1 gk13 rfl
  obtain ⟨S14, hS14⟩ : ∃ z, S10.sI o1 2 x3 = z := ⟨_, rfl⟩
  have hP : va_P D vwCl (X ++ PL cy S14) H := by rw [← hS14, ← e9]; exact hP2
  have hD : va_D A (X ++ PL cy S14) := by rw [← hS14, ← e9]; exact hD2
  have xe15 : ext S10 S14 := by rw [← hS14]; exact ext.sI _ _ _ _
  have t16 : stp ([] : List (Nat × Nat)) [o1] (o1 :: R) S S14 := by rw [← hS14]; exact t12.Ir 2 x3 List.mem_cons_self (Or.inl List.mem_cons_self)
  have oo : isA S14 o1 5 := (xe15.A (xe11.A (xe7.A (xe3.A h_o1))))
  have I0 : S14.I o1 0 = x1 := (by rw [← hS14, sI_I (by rintro ⟨e1, e2⟩; exact absurd e2 (by decide))]; rw [← hS10, sI_I (by rintro ⟨e1, e2⟩; exact absurd e2 (by decide))]; rw [← hS6, sI_eq])
  have I1 : S14.I o1 1 = x2 := (by rw [← hS14, sI_I (by rintro ⟨e1, e2⟩; exact absurd e2 (by decide))]; rw [← hS10, sI_eq])
  have I2 : S14.I o1 2 = x3 := (by rw [← hS14, sI_eq])
  have I3 : S14.I o1 3 = (0 : Int32) := (by rw [← hS14, sI_I (by rintro ⟨e1, e2⟩; exact absurd e2 (by decide))]; rw [← hS10, sI_I (by rintro ⟨e1, e2⟩; exact absurd e2 (by decide))]; rw [← hS6, sI_I (by rintro ⟨e1, e2⟩; exact absurd e2 (by decide))]; rw [← hS2, sI_I (by rintro ⟨e1, e2⟩; exact absurd e2 (by decide))]; exact hI0 3)
  have I4 : S14.I o1 4 = (0 : Int32) := (by rw [← hS14, sI_I (by rintro ⟨e1, e2⟩; exact absurd e2 (by decide))]; rw [← hS10, sI_I (by rintro ⟨e1, e2⟩; exact absurd e2 (by decide))]; rw [← hS6, sI_I (by rintro ⟨e1, e2⟩; exact absurd e2 (by decide))]; rw [← hS2, sI_I (by rintro ⟨e1, e2⟩; exact absurd e2 (by decide))]; exact hI0 4)
  have I5 : S14.I o1 5 = (2147483647 : Int32) := (by rw [← hS14, sI_I (by rintro ⟨e1, e2⟩; exact absurd e2 (by decide))]; rw [← hS10, sI_I (by rintro ⟨e1, e2⟩; exact absurd e2 (by decide))]; rw [← hS6, sI_I (by rintro ⟨e1, e2⟩; exact absurd e2 (by decide))]; rw [← hS2, sI_eq])
  have tt : stp ([] : List (Nat × Nat)) [o1] R S S14 := t16.un (okAt.no _ oo.2.1 (by decide) (by decide) (by decide) (by decide) (by decide) (by decide) (by decide) (by decide) (by decide) (by decide) (by decide) (by decide) (by decide) (by decide) (by decide) (by decide) (by decide))
  refine W.widen (k := 0) (n := 0) (Nat.le_of_ble_eq_true rfl) (Nat.le_of_ble_eq_true rfl) ?_
  exact W.vret hx hb hr (fun t ht hW9 => ⟨⟨S14, rfl, ⟨tt, oo, I0, I1, I2, I3, I4, I5⟩, wd_end hP hK hD ht hW9.alike⟩, hS.F ht⟩) hS.2.2 dX5_init_25 hlocks
def f_X5_isFound (S : wPS) (o1 : Nat) : Int32 := if (2147483647 : Int32) ≤ (S.I o1 5) then (0 : Int32) else (1 : Int32)
theorem f_X5_isFound_b (S : wPS) (o1 : Nat) : narrow .boolean (.int (f_X5_isFound S o1)) = .int (f_X5_isFound S o1) := by
  unfold f_X5_isFound; (repeat' split) <;> rfl
theorem hi_X5_isFound_X5 : ∀ w ∈ u_ws RX5 TX5 6, w ∈ wsX5_isFound := by decide +kernel
theorem hd_X5_isFound : yX5_isFound.cls = RX5 ∧ yX5_isFound.cls ≠ "java/lang/invoke/MethodHandle" ∧ yX5_isFound.cls ≠ "java/lang/invoke/VarHandle" ∧ (parseMethodDescriptor yX5_isFound.desc).map (fun d => d.parameters.length) = some 0 := by decide +kernel
set_option maxHeartbeats 4000000 in
set_option maxRecDepth 100000 in
theorem c_X5_isFound (l : Launch) {D : va_G} {cy : Nat → ClassId} {X : va_W} (S : wPS) (sz : Nat) (o1 : Nat) (h_o1 : isA S o1 5)  : Met l yX5_isFound wsX5_isFound ({ frames := 0, cells := 0, slots := 0, locals := 0 }) (va_Pc [.ref o1] (fun U => U.heap.size = sz ∧ WD D cy X (fun _ => True) S U ∧ NW U)) (va_Qi (fun r (_ : Unit) => r = f_X5_isFound S o1) (fun _ t => WD D cy X (va_A (X ++ PL cy S) sz) S t) (va_A (X ++ PL cy S) sz)) 0 0 (va_A (X ++ PL cy S) sz) := by
  refine Met.ofW (cc := cX5_isFound) (maxL := 1) (ret := (some .boolean)) (by decide) rfl ?_
  intro p e s m args below meth c s₁ B hml hv
  obtain ⟨rfl, hsz, ⟨hP, hK, hD0⟩, hN⟩ := hv
  have hx := B.exec
  have hb := B.bytes
  have hr := B.returns
  have hts := atoms_spec (ws := wsX5_isFound) B.pre
  have hown : s.vm.findClass RX5 = some m.cls := findClass_of_methodNamed (x := yX5_isFound) B.named
  have hlocks := B.notSynchronized
  subst hsz
  have hD := hD0.self (sz := s.heap.size)
  generalize hAe : va_A (X ++ PL cy S) s.heap.size = A at hD ⊢
  have hA : ∀ q : Nat, s.heap.size ≤ q → A q := fun q h => by rw [← hAe]; exact Or.inr h
  have hS : va_S A s.heap s.heap [] := va_S.rf
  have hl := lv_entry ([.ref o1]) (n := 1) (Nat.le_of_ble_eq_true rfl)
  rw [lg_entry_eq]
  generalize (lg_sl ([.ref o1]) ++ List.replicate (1 - (lg_sl ([.ref o1])).length) Slot.unset).toArray = ls at hl ⊢
  have hl : lv_has ls 1 [(0, .ref o1)] := hl
  refine lv_aload_n hx hb dX5_isFound_0 rfl (lv_at hl 0 rfl) ?_
  obtain ⟨k1, gk1, hk1⟩ := wGt (cy := cy) X S h_o1.1 h_o1.2.1
  refine va_get (D := D) (ci := 9) (v := .int (S.I o1 5)) (C := RX5) (T := TX5) (N := 6) hx hb hts hi_X5_isFound_X5 hown hK hP k1 hk1 rfl 5 (by decide) (hts (.fieldLink RX5 10 "Hobhouse$OldGear" "leastTip" "I") (by decide +kernel)) (fun _ h9 => h9) rfl dX5_isFound_1 ?_
  refine lv_ldc (own := RX5) (v := 2147483647) hx hb hown (hts (.constant RX5 9 (2147483647)) (by decide +kernel)) dX5_isFound_4 ?_
  refine lv_icmp_ge (tgt := 13) hx hb dX5_isFound_6 (by decide) (fun c2 => ?_) (fun c2 => ?_)
  · have c2i : 2147483647 ≤ (S.I o1 5).toInt := le_v rfl rfl c2
    refine lv_iconst (v := 0) hx hb dX5_isFound_13 (by decide) ?_
    refine W.widen (k := 0) (n := 0) (Nat.le_of_ble_eq_true rfl) (Nat.le_of_ble_eq_true rfl) ?_
    exact W.zret (v := (0 : Int32)) hx hb hr (by rfl) (fun t ht hW9 => ⟨⟨(0 : Int32), (), rfl, (by show (0 : Int32) = f_X5_isFound S o1; unfold f_X5_isFound; rw [if_pos c2]), wd_end hP hK hD ht hW9.alike⟩, hS.F ht⟩) hS.2.2 dX5_isFound_14 hlocks
  · have c2i : (S.I o1 5).toInt < 2147483647 := nle_v rfl rfl c2
    refine lv_iconst (v := 1) hx hb dX5_isFound_9 (by decide) ?_
    refine lv_goto (tgt := 14) hx hb dX5_isFound_10 (by decide) ?_
    refine W.widen (k := 0) (n := 0) (Nat.le_of_ble_eq_true rfl) (Nat.le_of_ble_eq_true rfl) ?_
    exact W.zret (v := (1 : Int32)) hx hb hr (by rfl) (fun t ht hW9 => ⟨⟨(1 : Int32), (), rfl, (by show (1 : Int32) = f_X5_isFound S o1; unfold f_X5_isFound; rw [if_neg c2]), wd_end hP hK hD ht hW9.alike⟩, hS.F ht⟩) hS.2.2 dX5_isFound_14 hlocks
def f_X5_compare (S : wPS) (o1 : Nat) (x1 : Int32) (x2 : Int32) : wPS := if (f_X9_tipOf (S.I o1 0) x1 x2) < (S.I o1 1) then if (0 : Int32) = (0 : Int32) then S else S else if (S.I o1 2) < ((f_X9_tipOf (S.I o1 0) x1 x2) - (S.I o1 1)) then if (0 : Int32) = (0 : Int32) then S else S else if (1 : Int32) = (0 : Int32) then S else if (S.I o1 5) ≤ (f_X9_tipOf (S.I o1 0) x1 x2) then S else l1 (S.sI o1 5 (f_X9_tipOf (S.I o1 0) x1 x2)) (fun S15 => l1 (S15.sI o1 3 x1) (fun S19 => l1 (S19.sI o1 4 x2) (fun S23 => S23)))
theorem hi_X5_compare_X5 : ∀ w ∈ u_ws RX5 TX5 6, w ∈ wsX5_compare := by decide +kernel
theorem hd_X5_compare : yX5_compare.cls = RX5 ∧ yX5_compare.cls ≠ "java/lang/invoke/MethodHandle" ∧ yX5_compare.cls ≠ "java/lang/invoke/VarHandle" ∧ (parseMethodDescriptor yX5_compare.desc).map (fun d => d.parameters.length) = some 2 := by decide +kernel
set_option maxHeartbeats 4000000 in
set_option maxRecDepth 100000 in
theorem c_X5_compare (l : Launch) {D : va_G} {cy : Nat → ClassId} {X : va_W} (S : wPS) (sz : Nat) (o1 : Nat) (h_o1 : isA S o1 5) (x1 : Int32) (x2 : Int32) (hW : wtB S [])  : Met l yX5_compare wsX5_compare ({ frames := 1, cells := 0, slots := 0, locals := 22 }) (va_Pc [.ref o1, .int x1, .int x2] (fun U => U.heap.size = sz ∧ WD D cy X (fun _ => True) S U ∧ NW U)) (va_Qv (fun (u : wPS) => u = f_X5_compare S o1 x1 x2 ∧ stp [(5, 3), (5, 4), (5, 5)] [] [] S u) (fun u t => WD D cy X (va_A (X ++ PL cy S) sz) u t) (va_A (X ++ PL cy S) sz)) 0 0 (va_A (X ++ PL cy S) sz) := by
  refine Met.ofW (cc := cX5_compare) (maxL := 5) (ret := none) (by decide) rfl ?_
  intro p e s m args below meth c s₁ B hml hv
  obtain ⟨rfl, hsz, ⟨hP, hK, hD0⟩, hN⟩ := hv
  have hx := B.exec
  have hb := B.bytes
  have hr := B.returns
  have hts := atoms_spec (ws := wsX5_compare) B.pre
  have hown : s.vm.findClass RX5 = some m.cls := findClass_of_methodNamed (x := yX5_compare) B.named
  have hlocks := B.notSynchronized
  subst hsz
  have hD := hD0.self (sz := s.heap.size)
  generalize hAe : va_A (X ++ PL cy S) s.heap.size = A at hD ⊢
  have hA : ∀ q : Nat, s.heap.size ≤ q → A q := fun q h => by rw [← hAe]; exact Or.inr h
  have hS : va_S A s.heap s.heap [] := va_S.rf
  have hl := lv_entry ([.ref o1, .int x1, .int x2]) (n := 5) (Nat.le_of_ble_eq_true rfl)
  rw [lg_entry_eq]
  generalize (lg_sl ([.ref o1, .int x1, .int x2]) ++ List.replicate (5 - (lg_sl ([.ref o1, .int x1, .int x2])).length) Slot.unset).toArray = ls at hl ⊢
  have hl : lv_has ls 5 [(0, .ref o1), (1, .int x1), (2, .int x2)] := hl
  have t0 : stp [(5, 3), (5, 4), (5, 5)] [] [] S S := stp.rf hW
  refine lv_aload_n hx hb dX5_compare_0 rfl (lv_at hl 0 rfl) ?_
  obtain ⟨k1, gk1, hk1⟩ := wGt (cy := cy) X S h_o1.1 h_o1.2.1
  refine va_get (D := D) (ci := 9) (v := .int (S.I o1 0)) (C := RX5) (T := TX5) (N := 6) hx hb hts hi_X5_compare_X5 hown hK hP k1 hk1 rfl 0 (by decide) (hts (.fieldLink RX5 16 "Hobhouse$OldGear" "teeth" "I") (by decide +kernel)) (fun _ h9 => h9) rfl dX5_compare_1 ?_
  refine lv_iload_n hx hb dX5_compare_4 rfl (lv_at hl 1 rfl) ?_
  refine lv_iload_n hx hb dX5_compare_5 rfl (lv_at hl 2 rfl) ?_
  have hFc := free_all hD hS hA
  refine va_calli (va_runSN (As := [.int (S.I o1 0), .int x1, .int x2]) (rest := []) ⟨hx, hb, hml, hown, hts⟩ (c_X9_tipOf l (cy := cy) (X := X) (D := D) S _ (S.I o1 0) x1 x2) ⟨va_cnB 3 hts gX5_compare_X9_tipOf_n33 rfl rfl rfl (hN (.methodLinkNest RX5 33 yX9_tipOf RX9) (by decide +kernel)) (hts (.initialized RX9) (by decide +kernel)) (by decide +kernel) ⟨Nat.le_of_ble_eq_true rfl, Nat.le_of_ble_eq_true rfl⟩, hts (.static yX9_tipOf) (by decide +kernel), trivial⟩ (pS hP hK hD hN) rfl rfl hl.1 rfl (lv_room (Nat.le_of_ble_eq_true rfl)) dX5_compare_6 ⟨(Nat.zero_le _), (Nat.zero_le _)⟩) hS (fun q _ h => hFc q h) hFc (fun r2 u t H1 locs ht hvm hw hB hz1 hk1 hS => ?_)
  have c3 := hw
  obtain ⟨hP, hD⟩ := wd_post hFc ht hB
  generalize H1 = H at hP hS ⊢
  obtain rfl : f_X9_tipOf (S.I o1 0) x1 x2 = r2 := c3.symm
  refine lv_istore_n (lv' := [(3, .int (f_X9_tipOf (S.I o1 0) x1 x2)), (0, .ref o1), (1, .int x1), (2, .int x2)]) hx hb dX5_compare_9 rfl hl (by decide) rfl (fun ls hl => ?_)
  refine lv_iload_n hx hb dX5_compare_10 rfl (lv_at hl 0 rfl) ?_
  refine lv_aload_n hx hb dX5_compare_11 rfl (lv_at hl 1 rfl) ?_
  obtain ⟨k4, gk4, hk4⟩ := wGt (cy := cy) X S h_o1.1 h_o1.2.1
  refine va_get (D := D) (ci := 9) (v := .int (S.I o1 1)) (C := RX5) (T := TX5) (N := 6) hx hb hts hi_X5_compare_X5 hown hK hP k4 hk4 rfl 1 (by decide) (hts (.fieldLink RX5 19 "Hobhouse$OldGear" "measured" "I") (by decide +kernel)) (fun _ h9 => h9) rfl dX5_compare_12 ?_
  refine lv_icmp_lt (tgt := 35) hx hb dX5_compare_15 (by decide) (fun c5 => ?_) (fun c5 => ?_)
  · have c5i : (f_X9_tipOf (S.I o1 0) x1 x2).toInt < (S.I o1 1).toInt := lt_v rfl rfl c5
    refine lv_iconst (v := 0) hx hb dX5_compare_35 (by decide) ?_
    refine lv_istore (lv' := [(4, .int (0 : Int32)), (3, .int (f_X9_tipOf (S.I o1 0) x1 x2)), (0, .ref o1), (1, .int x1), (2, .int x2)]) hx hb dX5_compare_36 hl (by decide) rfl (fun ls hl => ?_)
    refine lv_iload hx hb dX5_compare_38 (lv_at hl 0 rfl) ?_
    refine lv_if_eq (tgt := 66) hx hb dX5_compare_40 (by decide) (fun c6 => ?_) (fun c6 => ?_)
    · refine W.widen (k := 0) (n := 0) (Nat.le_of_ble_eq_true rfl) (Nat.le_of_ble_eq_true rfl) ?_
      exact W.vret hx hb hr (fun t ht hW9 => ⟨⟨S, rfl, ⟨(by show S = f_X5_compare S o1 x1 x2; unfold f_X5_compare; rw [if_pos c5, if_pos c6]), t0⟩, wd_end hP hK hD ht hW9.alike⟩, hS.F ht⟩) hS.2.2 dX5_compare_66 hlocks
    · exact absurd (by decide) c6
  · have c5i : (S.I o1 1).toInt ≤ (f_X9_tipOf (S.I o1 0) x1 x2).toInt := nlt_v rfl rfl c5
    refine lv_iload_n hx hb dX5_compare_18 rfl (lv_at hl 0 rfl) ?_
    refine lv_aload_n hx hb dX5_compare_19 rfl (lv_at hl 1 rfl) ?_
    obtain ⟨k7, gk7, hk7⟩ := wGt (cy := cy) X S h_o1.1 h_o1.2.1
    refine va_get (D := D) (ci := 9) (v := .int (S.I o1 1)) (C := RX5) (T := TX5) (N := 6) hx hb hts hi_X5_compare_X5 hown hK hP k7 hk7 rfl 1 (by decide) (hts (.fieldLink RX5 19 "Hobhouse$OldGear" "measured" "I") (by decide +kernel)) (fun _ h9 => h9) rfl dX5_compare_20 ?_
    refine lv_isub hx hb dX5_compare_23 ?_
    refine lv_aload_n hx hb dX5_compare_24 rfl (lv_at hl 1 rfl) ?_
    obtain ⟨k8, gk8, hk8⟩ := wGt (cy := cy) X S h_o1.1 h_o1.2.1
    refine va_get (D := D) (ci := 9) (v := .int (S.I o1 2)) (C := RX5) (T := TX5) (N := 6) hx hb hts hi_X5_compare_X5 hown hK hP k8 hk8 rfl 2 (by decide) (hts (.fieldLink RX5 22 "Hobhouse$OldGear" "worn" "I") (by decide +kernel)) (fun _ h9 => h9) rfl dX5_compare_25 ?_
    refine lv_icmp_gt (tgt := 35) hx hb dX5_compare_28 (by decide) (fun c9 => ?_) (fun c9 => ?_)
    · have c9i : (S.I o1 2).toInt < ((f_X9_tipOf (S.I o1 0) x1 x2) - (S.I o1 1)).toInt := lt_v rfl rfl c9
      refine lv_iconst (v := 0) hx hb dX5_compare_35 (by decide) ?_
      refine lv_istore (lv' := [(4, .int (0 : Int32)), (3, .int (f_X9_tipOf (S.I o1 0) x1 x2)), (0, .ref o1), (1, .int x1), (2, .int x2)]) hx hb dX5_compare_36 hl (by decide) rfl (fun ls hl => ?_)
      refine lv_iload hx hb dX5_compare_38 (lv_at hl 0 rfl) ?_
      refine lv_if_eq (tgt := 66) hx hb dX5_compare_40 (by decide) (fun c10 => ?_) (fun c10 => ?_)
      · refine W.widen (k := 0) (n := 0) (Nat.le_of_ble_eq_true rfl) (Nat.le_of_ble_eq_true rfl) ?_
        exact W.vret hx hb hr (fun t ht hW9 => ⟨⟨S, rfl, ⟨(by show S = f_X5_compare S o1 x1 x2; unfold f_X5_compare; rw [if_neg c5, if_pos c9, if_pos c10]), t0⟩, wd_end hP hK hD ht hW9.alike⟩, hS.F ht⟩) hS.2.2 dX5_compare_66 hlocks
      · exact absurd (by decide) c10
    · have c9i : ((f_X9_tipOf (S.I o1 0) x1 x2) - (S.I o1 1)).toInt ≤ (S.I o1 2).toInt := nlt_v rfl rfl c9
      refine lv_iconst (v := 1) hx hb dX5_compare_31 (by decide) ?_
      refine lv_goto (tgt := 36) hx hb dX5_compare_32 (by decide) ?_
      refine lv_istore (lv' := [(4, .int (1 : Int32)), (3, .int (f_X9_tipOf (S.I o1 0) x1 x2)), (0, .ref o1), (1, .int x1), (2, .int x2)]) hx hb dX5_compare_36 hl (by decide) rfl (fun ls hl => ?_)
      refine lv_iload hx hb dX5_compare_38 (lv_at hl 0 rfl) ?_
      refine lv_if_eq (tgt := 66) hx hb dX5_compare_40 (by decide) (fun c11 => ?_) (fun c11 => ?_)
      · exact absurd c11 (by decide)
      · refine lv_iload_n hx hb dX5_compare_43 rfl (lv_at hl 1 rfl) ?_
        refine lv_aload_n hx hb dX5_compare_44 rfl (lv_at hl 2 rfl) ?_
        obtain ⟨k12, gk12, hk12⟩ := wGt (cy := cy) X S h_o1.1 h_o1.2.1
        refine va_get (D := D) (ci := 9) (v := .int (S.I o1 5)) (C := RX5) (T := TX5) (N := 6) hx hb hts hi_X5_compare_X5 hown hK hP k12 hk12 rfl 5 (by decide) (hts (.fieldLink RX5 10 "Hobhouse$OldGear" "leastTip" "I") (by decide +kernel)) (fun _ h9 => h9) rfl dX5_compare_45 ?_
        refine lv_icmp_ge (tgt := 66) hx hb dX5_compare_48 (by decide) (fun c13 => ?_) (fun c13 => ?_)
        · have c13i : (S.I o1 5).toInt ≤ (f_X9_tipOf (S.I o1 0) x1 x2).toInt := le_v rfl rfl c13
          refine W.widen (k := 0) (n := 0) (Nat.le_of_ble_eq_true rfl) (Nat.le_of_ble_eq_true rfl) ?_
          exact W.vret hx hb hr (fun t ht hW9 => ⟨⟨S, rfl, ⟨(by show S = f_X5_compare S o1 x1 x2; unfold f_X5_compare; rw [if_neg c5, if_neg c9, if_neg c11, if_pos c13]), t0⟩, wd_end hP hK hD ht hW9.alike⟩, hS.F ht⟩) hS.2.2 dX5_compare_66 hlocks
        · have c13i : (f_X9_tipOf (S.I o1 0) x1 x2).toInt < (S.I o1 5).toInt := nle_v rfl rfl c13
          refine lv_aload_n hx hb dX5_compare_51 rfl (lv_at hl 2 rfl) ?_
          refine lv_iload_n hx hb dX5_compare_52 rfl (lv_at hl 1 rfl) ?_
          obtain ⟨k14, gk14, hk14⟩ := wGt (cy := cy) X S h_o1.1 h_o1.2.1
          refine va_put (D := D) (ci := 9) (v := .int (f_X9_tipOf (S.I o1 0) x1 x2)) (ty := .int) (C := RX5) (T := TX5) (N := 6) hx hb hts hi_X5_compare_X5 tyX5 tyX5_ok nmX5 hown hK hP hD hS k14 hk14 rfl 5 (by decide) (hts (.fieldLink RX5 10 "Hobhouse$OldGear" "leastTip" "I") (by decide +kernel)) (fun _ h9 => h9) rfl (by decide +kernel) (rfl) (rfl) (Nat.le_of_ble_eq_true rfl) dX5_compare_53 (fun H locs hP2 hD2 hS => ?_)
          have e9 := wPuI (cy := cy) (j := 5) (v := (f_X9_tipOf (S.I o1 0) x1 x2)) hD h_o1.1 h_o1.2.1 gk14 rfl
          obtain ⟨S15, hS15⟩ : ∃ z, S.sI o1 5 (f_X9_tipOf (S.I o1 0) x1 x2) = z := ⟨_, rfl⟩
          have hP : va_P D vwCl (X ++ PL cy S15) H := by rw [← hS15, ← e9]; exact hP2
          have hD : va_D A (X ++ PL cy S15) := by rw [← hS15, ← e9]; exact hD2
          have xe16 : ext S S15 := by rw [← hS15]; exact ext.sI _ _ _ _
          have t17 : stp [(5, 3), (5, 4), (5, 5)] [] [] S S15 := by rw [← hS15]; exact t0.I 5 (f_X9_tipOf (S.I o1 0) x1 x2) h_o1 (by decide) (trivial) (Or.inl (by decide))
          refine lv_aload_n hx hb dX5_compare_56 rfl (lv_at hl 2 rfl) ?_
          refine lv_iload_n hx hb dX5_compare_57 rfl (lv_at hl 3 rfl) ?_
          obtain ⟨k18, gk18, hk18⟩ := wGt (cy := cy) X S15 (xe16.A h_o1).1 (xe16.A h_o1).2.1
          refine va_put (D := D) (ci := 9) (v := .int x1) (ty := .int) (C := RX5) (T := TX5) (N := 6) hx hb hts hi_X5_compare_X5 tyX5 tyX5_ok nmX5 hown hK hP hD hS k18 hk18 rfl 3 (by decide) (hts (.fieldLink RX5 37 "Hobhouse$OldGear" "module" "I") (by decide +kernel)) (fun _ h9 => h9) rfl (by decide +kernel) (rfl) (rfl) (Nat.le_of_ble_eq_true rfl) dX5_compare_58 (fun H locs hP2 hD2 hS => ?_)
          have e9 := wPuI (cy := cy) (j := 3) (v := x1) hD (xe16.A h_o1).1 (xe16.A h_o1).2.1 gk18 rfl
          obtain ⟨S19, hS19⟩ : ∃ z, S15.sI o1 3 x1 = z := ⟨_, rfl⟩
          have hP : va_P D vwCl (X ++ PL cy S19) H := by rw [← hS19, ← e9]; exact hP2
          have hD : va_D A (X ++ PL cy S19) := by rw [← hS19, ← e9]; exact hD2
          have xe20 : ext S15 S19 := by rw [← hS19]; exact ext.sI _ _ _ _
          have t21 : stp [(5, 3), (5, 4), (5, 5)] [] [] S S19 := by rw [← hS19]; exact t17.I 3 x1 (xe16.A h_o1) (by decide) (trivial) (Or.inl (by decide))
          refine lv_aload_n hx hb dX5_compare_61 rfl (lv_at hl 2 rfl) ?_
          refine lv_iload_n hx hb dX5_compare_62 rfl (lv_at hl 4 rfl) ?_
          obtain ⟨k22, gk22, hk22⟩ := wGt (cy := cy) X S19 (xe20.A (xe16.A h_o1)).1 (xe20.A (xe16.A h_o1)).2.1
          refine va_put (D := D) (ci := 9) (v := .int x2) (ty := .int) (C := RX5) (T := TX5) (N := 6) hx hb hts hi_X5_compare_X5 tyX5 tyX5_ok nmX5 hown hK hP hD hS k22 hk22 rfl 4 (by decide) (hts (.fieldLink RX5 40 "Hobhouse$OldGear" "shift" "I") (by decide +kernel)) (fun _ h9 => h9) rfl (by decide +kernel) (rfl) (rfl) (Nat.le_of_ble_eq_true rfl) dX5_compare_63 (fun H locs hP2 hD2 hS => ?_)
          have e9 := wPuI (cy := cy) (j := 4) (v := x2) hD (xe20.A (xe16.A h_o1)).1 (xe20.A (xe16.A h_o1)).2.1 gk22 rfl
          obtain ⟨S23, hS23⟩ : ∃ z, S19.sI o1 4 x2 = z := ⟨_, rfl⟩
          have hP : va_P D vwCl (X ++ PL cy S23) H := by rw [← hS23, ← e9]; exact hP2
          have hD : va_D A (X ++ PL cy S23) := by rw [← hS23, ← e9]; exact hD2
          have xe24 : ext S19 S23 := by rw [← hS23]; exact ext.sI _ _ _ _
          have t25 : stp [(5, 3), (5, 4), (5, 5)] [] [] S S23 := by rw [← hS23]; exact t21.I 4 x2 (xe20.A (xe16.A h_o1)) (by decide) (trivial) (Or.inl (by decide))
          refine W.widen (k := 0) (n := 0) (Nat.le_of_ble_eq_true rfl) (Nat.le_of_ble_eq_true rfl) ?_
          exact W.vret hx hb hr (fun t ht hW9 => ⟨⟨S23, rfl, ⟨(by show S23 = f_X5_compare S o1 x1 x2; unfold f_X5_compare; rw [if_neg c5, if_neg c9, if_neg c11, if_neg c13, l1_eq hS15, l1_eq hS19, l1_eq hS23]), t25⟩, wd_end hP hK hD ht hW9.alike⟩, hS.F ht⟩) hS.2.2 dX5_compare_66 hlocks
theorem hd_X5_search : yX5_search.cls = RX5 ∧ yX5_search.cls ≠ "java/lang/invoke/MethodHandle" ∧ yX5_search.cls ≠ "java/lang/invoke/VarHandle" ∧ (parseMethodDescriptor yX5_search.desc).map (fun d => d.parameters.length) = some 0 := by decide +kernel
set_option maxHeartbeats 4000000 in
set_option maxRecDepth 100000 in
theorem c_X5_search (l : Launch) {D : va_G} {cy : Nat → ClassId} {X : va_W} (S : wPS) (sz : Nat) (o1 : Nat) (h_o1 : isA S o1 5) (hW : wtB S [])  : Met l yX5_search wsX5_search ({ frames := 2, cells := 0, slots := 0, locals := 46 }) (va_Pc [.ref o1] (fun U => U.heap.size = sz ∧ WD D cy X (fun _ => True) S U ∧ NW U)) (va_Qv (fun (u : wPS) => stp [(5, 3), (5, 4), (5, 5)] [] [] S u) (fun u t => WD D cy X (va_A (X ++ PL cy S) sz) u t) (va_A (X ++ PL cy S) sz)) 0 0 (va_A (X ++ PL cy S) sz) := by
  refine Met.ofW (cc := cX5_search) (maxL := 3) (ret := none) (by decide) rfl ?_
  intro p e s m args below meth c s₁ B hml hv
  obtain ⟨rfl, hsz, ⟨hP, hK, hD0⟩, hN⟩ := hv
  have hx := B.exec
  have hb := B.bytes
  have hr := B.returns
  have hts := atoms_spec (ws := wsX5_search) B.pre
  have hown : s.vm.findClass RX5 = some m.cls := findClass_of_methodNamed (x := yX5_search) B.named
  have hlocks := B.notSynchronized
  subst hsz
  have hD := hD0.self (sz := s.heap.size)
  generalize hAe : va_A (X ++ PL cy S) s.heap.size = A at hD ⊢
  have hA : ∀ q : Nat, s.heap.size ≤ q → A q := fun q h => by rw [← hAe]; exact Or.inr h
  have hS : va_S A s.heap s.heap [] := va_S.rf
  have hl := lv_entry ([.ref o1]) (n := 3) (Nat.le_of_ble_eq_true rfl)
  rw [lg_entry_eq]
  generalize (lg_sl ([.ref o1]) ++ List.replicate (3 - (lg_sl ([.ref o1])).length) Slot.unset).toArray = ls at hl ⊢
  have hl : lv_has ls 3 [(0, .ref o1)] := hl
  have t0 : stp [(5, 3), (5, 4), (5, 5)] [] [] S S := stp.rf hW
  refine lv_iconst (v := 0) hx hb dX5_search_0 (by decide) ?_
  refine lv_istore_n (lv' := [(1, .int (0 : Int32)), (0, .ref o1)]) hx hb dX5_search_1 rfl hl (by decide) rfl (fun ls hl => ?_)
  have l32_0 : (0 : Int32).toInt = 0 := rfl
  have loop2 : ∀ (n : Nat) (S2_ : wPS) (w2_1 : Int32) (H : Heap) (locs : List Loc) (ls : Array Slot), (60 - w2_1.toInt).toNat < n → 0 ≤ w2_1.toInt ∧ w2_1.toInt ≤ 51 → stp [(5, 3), (5, 4), (5, 5)] [] [] S S2_ → va_P D vwCl (X ++ PL cy S2_) H → va_D A (X ++ PL cy S2_) → va_S A s.heap H locs → lv_has ls 3 [(1, .int w2_1), (0, .ref o1)] → (∀ (S2_x : wPS) (w2_1x : Int32) (H : Heap) (locs : List Loc) (ls : Array Slot), 0 ≤ w2_1x.toInt ∧ w2_1x.toInt ≤ 51 → stp [(5, 3), (5, 4), (5, 5)] [] [] S S2_x → va_P D vwCl (X ++ PL cy S2_x) H → va_D A (X ++ PL cy S2_x) → va_S A s.heap H locs → lv_has ls 3 [(1, .int w2_1x), (0, .ref o1)] → W p l e (headSpec wsX5_search ({ frames := 2, cells := 0, slots := 0, locals := 46 } : Room)).room s m [.ref o1].toArray below meth c H locs 0 0 (MQ below (va_Qv (fun (u : wPS) => stp [(5, 3), (5, 4), (5, 5)] [] [] S u) (fun u t => WD D cy X A u t) A) [.ref o1].toArray s 0 0 A) (F0 m 54 ls [])) → W p l e (headSpec wsX5_search ({ frames := 2, cells := 0, slots := 0, locals := 46 } : Room)).room s m [.ref o1].toArray below meth c H locs 0 0 (MQ below (va_Qv (fun (u : wPS) => stp [(5, 3), (5, 4), (5, 5)] [] [] S u) (fun u t => WD D cy X A u t) A) [.ref o1].toArray s 0 0 A) (F0 m 2 ls []) := by
    intro n2
    induction n2 with
    | zero => intro S2_ w2_1 H locs ls hm; exact absurd hm (Nat.not_lt_zero _)
    | succ n2 ih2 =>
      intro S2_ w2_1 H locs ls hm2 hi2 hsh2 hP hD hS hl ko2
      refine lv_iload_n hx hb dX5_search_2 rfl (lv_at hl 0 rfl) ?_
      refine lv_bipush (v := 50) hx hb dX5_search_3 (by decide +kernel) ?_
      refine lv_icmp_gt (tgt := 54) hx hb dX5_search_5 (by decide) (fun c1 => ?_) (fun c1 => ?_)
      · have c1i : 50 < w2_1.toInt := lt_v rfl rfl c1
        exact ko2 S2_ w2_1 _ _ _ (by omega) hsh2 hP hD hS (lv_sub hl [0, 1] rfl)
      · have c1i : w2_1.toInt ≤ 50 := nlt_v rfl rfl c1
        refine lv_aload_n hx hb dX5_search_8 rfl (lv_at hl 1 rfl) ?_
        have hFc := free_all hD hS hA
        obtain ⟨k2, gk2, hk2⟩ := wGt (cy := cy) X S2_ (hsh2.x.A h_o1).1 (hsh2.x.A h_o1).2.1
        refine va_calli (va_runV (As := []) (rest := []) ⟨hx, hb, hml, hown, hts⟩ (c_X5_isFound l (cy := cy) (X := X) (D := D) S2_ _ o1 (hsh2.x.A h_o1)) (cwV 0 hts gX5_search_X5_isFound rfl rfl rfl hd_X5_isFound ⟨Nat.le_of_ble_eq_true rfl, Nat.le_of_ble_eq_true rfl⟩) (pV (va_recv hK hP (q := (RX5, TX5, 6)) (ci := 9) (q0 := k2) rfl hk2) hP hK hD hN) rfl rfl hl.1 rfl (lv_room (Nat.le_of_ble_eq_true rfl)) dX5_search_9 ⟨(Nat.zero_le _), (Nat.zero_le _)⟩) hS (fun q _ h => hFc q h) hFc (fun r3 u t H1 locs ht hvm hw hB hz1 hk1 hS => ?_)
        have c4 := hw
        obtain ⟨hP, hD⟩ := wd_post hFc ht hB
        generalize H1 = H at hP hS ⊢
        obtain rfl : f_X5_isFound S2_ o1 = r3 := c4.symm
        refine lv_if_ne (tgt := 54) hx hb dX5_search_12 (by decide) (fun c5 => ?_) (fun c5 => ?_)
        · have c5i : ¬ (f_X5_isFound S2_ o1).toInt = 0 := neq_v rfl rfl c5
          exact ko2 S2_ w2_1 _ _ _ (by omega) hsh2 hP hD hS (lv_sub hl [0, 1] rfl)
        · have c5i : (f_X5_isFound S2_ o1).toInt = 0 := eq_v rfl rfl c5
          refine lv_sipush (v := 500) hx hb dX5_search_15 (by decide +kernel) ?_
          refine lv_istore_n (lv' := [(2, .int (500 : Int32)), (1, .int w2_1), (0, .ref o1)]) hx hb dX5_search_18 rfl hl (by decide) rfl (fun ls hl => ?_)
          have l32_500 : (500 : Int32).toInt = 500 := rfl
          have loop19 : ∀ (n : Nat) (S19_ : wPS) (w19_2 : Int32) (H : Heap) (locs : List Loc) (ls : Array Slot), (20000 - w19_2.toInt).toNat < n → 0 ≤ w19_2.toInt ∧ w19_2.toInt ≤ 11000 → stp [(5, 3), (5, 4), (5, 5)] [] [] S2_ S19_ → va_P D vwCl (X ++ PL cy S19_) H → va_D A (X ++ PL cy S19_) → va_S A s.heap H locs → lv_has ls 3 [(2, .int w19_2), (1, .int w2_1), (0, .ref o1)] → (∀ (S19_x : wPS) (w19_2x : Int32) (H : Heap) (locs : List Loc) (ls : Array Slot), 0 ≤ w19_2x.toInt ∧ w19_2x.toInt ≤ 11000 → stp [(5, 3), (5, 4), (5, 5)] [] [] S2_ S19_x → va_P D vwCl (X ++ PL cy S19_x) H → va_D A (X ++ PL cy S19_x) → va_S A s.heap H locs → lv_has ls 3 [(2, .int w19_2x), (1, .int w2_1), (0, .ref o1)] → W p l e (headSpec wsX5_search ({ frames := 2, cells := 0, slots := 0, locals := 46 } : Room)).room s m [.ref o1].toArray below meth c H locs 0 0 (MQ below (va_Qv (fun (u : wPS) => stp [(5, 3), (5, 4), (5, 5)] [] [] S u) (fun u t => WD D cy X A u t) A) [.ref o1].toArray s 0 0 A) (F0 m 48 ls [])) → W p l e (headSpec wsX5_search ({ frames := 2, cells := 0, slots := 0, locals := 46 } : Room)).room s m [.ref o1].toArray below meth c H locs 0 0 (MQ below (va_Qv (fun (u : wPS) => stp [(5, 3), (5, 4), (5, 5)] [] [] S u) (fun u t => WD D cy X A u t) A) [.ref o1].toArray s 0 0 A) (F0 m 19 ls []) := by
            intro n19
            induction n19 with
            | zero => intro S19_ w19_2 H locs ls hm; exact absurd hm (Nat.not_lt_zero _)
            | succ n19 ih19 =>
              intro S19_ w19_2 H locs ls hm19 hi19 hsh19 hP hD hS hl ko19
              refine lv_iload_n hx hb dX5_search_19 rfl (lv_at hl 0 rfl) ?_
              refine lv_sipush (v := 10000) hx hb dX5_search_20 (by decide +kernel) ?_
              refine lv_icmp_gt (tgt := 48) hx hb dX5_search_23 (by decide) (fun c6 => ?_) (fun c6 => ?_)
              · have c6i : 10000 < w19_2.toInt := lt_v rfl rfl c6
                exact ko19 S19_ w19_2 _ _ _ (by omega) hsh19 hP hD hS (lv_sub hl [0, 1, 2] rfl)
              · have c6i : w19_2.toInt ≤ 10000 := nlt_v rfl rfl c6
                refine lv_aload_n hx hb dX5_search_26 rfl (lv_at hl 2 rfl) ?_
                refine lv_iload_n hx hb dX5_search_27 rfl (lv_at hl 0 rfl) ?_
                refine lv_iload_n hx hb dX5_search_28 rfl (lv_at hl 1 rfl) ?_
                have hFc := free_all hD hS hA
                obtain ⟨k7, gk7, hk7⟩ := wGt (cy := cy) X S19_ (hsh19.x.A (hsh2.x.A h_o1)).1 (hsh19.x.A (hsh2.x.A h_o1)).2.1
                refine va_callv (va_runV (As := [.int w19_2, .int w2_1]) (rest := []) ⟨hx, hb, hml, hown, hts⟩ (c_X5_compare l (cy := cy) (X := X) (D := D) S19_ _ o1 (hsh19.x.A (hsh2.x.A h_o1)) w19_2 w2_1 (hsh19.w)) (cwV 2 hts gX5_search_X5_compare rfl rfl rfl hd_X5_compare ⟨Nat.le_of_ble_eq_true rfl, Nat.le_of_ble_eq_true rfl⟩) (pV (va_recv hK hP (q := (RX5, TX5, 6)) (ci := 9) (q0 := k7) rfl hk7) hP hK hD hN) rfl rfl hl.1 rfl (lv_room (Nat.le_of_ble_eq_true rfl)) dX5_search_29 ⟨(Nat.zero_le _), (Nat.zero_le _)⟩) hS (fun q _ h => hFc q h) hFc (fun u t H1 locs ht hvm hw hB hz1 hk1 hS => ?_)
                obtain ⟨c9, w10⟩ := hw
                obtain ⟨hP, hD⟩ := wd_post hFc ht hB
                generalize H1 = H at hP hS ⊢
                obtain ⟨S11, rfl⟩ : ∃ z, z = u := ⟨_, rfl⟩
                have t12 : stp [(5, 3), (5, 4), (5, 5)] [] [] S2_ S11 := hsh19.tr w10 (by decide) (fun _ q => absurd q List.not_mem_nil)
                have xe13 : ext S19_ S11 := w10.x
                refine lv_aload_n hx hb dX5_search_32 rfl (lv_at hl 2 rfl) ?_
                refine lv_iload_n hx hb dX5_search_33 rfl (lv_at hl 0 rfl) ?_
                refine lv_iload_n hx hb dX5_search_34 rfl (lv_at hl 1 rfl) ?_
                refine lv_ineg hx hb dX5_search_35 ?_
                have hFc := free_all hD hS hA
                obtain ⟨k14, gk14, hk14⟩ := wGt (cy := cy) X S11 (xe13.A (hsh19.x.A (hsh2.x.A h_o1))).1 (xe13.A (hsh19.x.A (hsh2.x.A h_o1))).2.1
                refine va_callv (va_runV (As := [.int w19_2, .int (-w2_1)]) (rest := []) ⟨hx, hb, hml, hown, hts⟩ (c_X5_compare l (cy := cy) (X := X) (D := D) S11 _ o1 (xe13.A (hsh19.x.A (hsh2.x.A h_o1))) w19_2 (-w2_1) (t12.w)) (cwV 2 hts gX5_search_X5_compare rfl rfl rfl hd_X5_compare ⟨Nat.le_of_ble_eq_true rfl, Nat.le_of_ble_eq_true rfl⟩) (pV (va_recv hK hP (q := (RX5, TX5, 6)) (ci := 9) (q0 := k14) rfl hk14) hP hK hD hN) rfl rfl hl.1 rfl (lv_room (Nat.le_of_ble_eq_true rfl)) dX5_search_36 ⟨(Nat.zero_le _), (Nat.zero_le _)⟩) hS (fun q _ h => hFc q h) hFc (fun u t H1 locs ht hvm hw hB hz1 hk1 hS => ?_)
                obtain ⟨c16, w17⟩ := hw
                obtain ⟨hP, hD⟩ := wd_post hFc ht hB
                generalize H1 = H at hP hS ⊢
                obtain ⟨S18, rfl⟩ : ∃ z, z = u := ⟨_, rfl⟩
                have t19 : stp [(5, 3), (5, 4), (5, 5)] [] [] S2_ S18 := t12.tr w17 (by decide) (fun _ q => absurd q List.not_mem_nil)
                have xe20 : ext S11 S18 := w17.x
                refine lv_iincW (v := w19_2 + (250 : Int32)) (lv' := [(2, .int (w19_2 + (250 : Int32))), (1, .int w2_1), (0, .ref o1)]) hx hb dX5_search_39 hl (k := 0) rfl (by rfl) (by decide) rfl (fun ls hl => ?_)
                refine lv_goto (tgt := 19) hx hb dX5_search_45 (by decide) ?_
                have l32_250 : (250 : Int32).toInt = 250 := rfl
                have i21 : (w19_2 + (250 : Int32)).toInt = w19_2.toInt + 250 := t_addr (n := 250) rfl (by omega)
                exact ih19 S18 (w19_2 + (250 : Int32)) _ _ _ (Nat.lt_of_lt_of_le (by omega) (Nat.le_of_lt_succ hm19)) (by omega) t19 hP hD hS (lv_sub hl [0, 1, 2] rfl) ko19
          refine loop19 20001 S2_ (500 : Int32) _ _ _ (by omega) (by omega) (stp.rf hsh2.w) hP hD hS (lv_sub hl [0, 1, 2] rfl) (fun S23 z24 H locs ls hi19 hsh19 hP hD hS hl => ?_)
          have t25 : stp [(5, 3), (5, 4), (5, 5)] [] [] S S23 := hsh2.tr hsh19 (fun _ q => q) (fun _ q => Or.inl q)
          have et25 := hsh19.x
          refine lv_iinc (v := w2_1 + (1 : Int32)) (lv' := [(1, .int (w2_1 + (1 : Int32))), (2, .int z24), (0, .ref o1)]) hx hb dX5_search_48 hl (k := 1) rfl (by rfl) (by decide) rfl (fun ls hl => ?_)
          refine lv_goto (tgt := 2) hx hb dX5_search_51 (by decide) ?_
          have l32_1 : (1 : Int32).toInt = 1 := rfl
          have i26 : (w2_1 + (1 : Int32)).toInt = w2_1.toInt + 1 := t_addr (n := 1) rfl (by omega)
          exact ih2 S23 (w2_1 + (1 : Int32)) _ _ _ (Nat.lt_of_lt_of_le (by omega) (Nat.le_of_lt_succ hm2)) (by omega) t25 hP hD hS (lv_sub hl [0, 2] rfl) ko2
  refine loop2 61 S (0 : Int32) _ _ _ (by omega) (by omega) (stp.rf hW) hP hD hS (lv_sub hl [0, 1] rfl) (fun S28 z29 H locs ls hi2 hsh2 hP hD hS hl => ?_)
  have t30 : stp [(5, 3), (5, 4), (5, 5)] [] [] S S28 := t0.tr hsh2 (fun _ q => q) (fun _ q => Or.inl q)
  have et30 := hsh2.x
  refine W.widen (k := 0) (n := 0) (Nat.le_of_ble_eq_true rfl) (Nat.le_of_ble_eq_true rfl) ?_
  exact W.vret hx hb hr (fun t ht hW9 => ⟨⟨S28, rfl, t30, wd_end hP hK hD ht hW9.alike⟩, hS.F ht⟩) hS.2.2 dX5_search_54 hlocks
