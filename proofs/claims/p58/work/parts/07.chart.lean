def f_X1_sumOfClass_L5 (S : wPS) (o1 : Nat) (x1 : Int32) (x2 : Int32) : Nat → Int32 → Int32 → Int32 × Int32
  | 0, w5_3, w5_4 => (w5_3, w5_4)
  | n + 1, w5_3, w5_4 => if x2 ≤ (0 : Int32) then (w5_3, w5_4) else if (nI (S.n (S.f o1 0))) ≤ w5_4 then (w5_3, w5_4) else f_X1_sumOfClass_L5 S o1 x1 x2 n (w5_3 + (S.i (S.f o1 0) w5_4.toNatClampNeg)) (w5_4 + x2)
theorem f_X1_sumOfClass_L5_s (S : wPS) (o1 : Nat) (x1 : Int32) (x2 : Int32) (n : Nat) (w5_3 : Int32) (w5_4 : Int32) : f_X1_sumOfClass_L5 S o1 x1 x2 (n + 1) w5_3 w5_4 = if x2 ≤ (0 : Int32) then (w5_3, w5_4) else if (nI (S.n (S.f o1 0))) ≤ w5_4 then (w5_3, w5_4) else f_X1_sumOfClass_L5 S o1 x1 x2 n (w5_3 + (S.i (S.f o1 0) w5_4.toNatClampNeg)) (w5_4 + x2) := rfl
def f_X1_sumOfClass (S : wPS) (o1 : Nat) (x1 : Int32) (x2 : Int32) : Int32 := l2 (f_X1_sumOfClass_L5 S o1 x1 x2 100001 (0 : Int32) x1) (fun z14 z15 => z14)
theorem hi_X1_sumOfClass_X1 : ∀ w ∈ u_ws RX1 TX1 3, w ∈ wsX1_sumOfClass := by decide +kernel
theorem hd_X1_sumOfClass : yX1_sumOfClass.cls = RX1 ∧ yX1_sumOfClass.cls ≠ "java/lang/invoke/MethodHandle" ∧ yX1_sumOfClass.cls ≠ "java/lang/invoke/VarHandle" ∧ (parseMethodDescriptor yX1_sumOfClass.desc).map (fun d => d.parameters.length) = some 2 := by decide +kernel
set_option maxHeartbeats 4000000 in
set_option maxRecDepth 100000 in
theorem c_X1_sumOfClass (l : Launch) {D : va_G} {cy : Nat → ClassId} {X : va_W} (S : wPS) (sz : Nat) (o1 : Nat) (h_o1 : isA S o1 1) (x1 : Int32) (x2 : Int32) (hW : wtB S []) (h1 : 0 ≤ x1.toInt ∧ x1.toInt ≤ 1000) (h2 : x2.toInt ≤ 1000) : Met l yX1_sumOfClass wsX1_sumOfClass ({ frames := 0, cells := 0, slots := 0, locals := 0 }) (va_Pc [.ref o1, .int x1, .int x2] (fun U => U.heap.size = sz ∧ WD D cy X (fun _ => True) S U ∧ NW U)) (va_Qi (fun r (_ : Unit) => r = f_X1_sumOfClass S o1 x1 x2) (fun _ t => WD D cy X (va_A (X ++ PL cy S) sz) S t) (va_A (X ++ PL cy S) sz)) 0 0 (va_A (X ++ PL cy S) sz) := by
  refine Met.ofW (cc := cX1_sumOfClass) (maxL := 5) (ret := (some .int)) (by decide) rfl ?_
  intro p e s m args below meth c s₁ B hml hv
  obtain ⟨rfl, hsz, ⟨hP, hK, hD0⟩, hN⟩ := hv
  have hx := B.exec
  have hb := B.bytes
  have hr := B.returns
  have hts := atoms_spec (ws := wsX1_sumOfClass) B.pre
  have hown : s.vm.findClass RX1 = some m.cls := findClass_of_methodNamed (x := yX1_sumOfClass) B.named
  have hlocks := B.notSynchronized
  subst hsz
  have hD := hD0.self (sz := s.heap.size)
  generalize hAe : va_A (X ++ PL cy S) s.heap.size = A at hD ⊢
  have hA : ∀ q : Nat, s.heap.size ≤ q → A q := fun q h => by rw [← hAe]; exact Or.inr h
  have hS : va_S A s.heap s.heap [] := va_S.rf
  have hl := lv_entry ([.ref o1, .int x1, .int x2]) (n := 5) (Nat.le_of_ble_eq_true rfl)
  rw [lg_entry_eq]
  generalize (lg_sl ([.ref o1, .int x1, .int x2]) ++ List.replicate (5 - (lg_sl ([.ref o1, .int x1, .int x2])).length) Slot.unset).toArray = ls at hl ⊢
  have hl : lv_has ls 5 [(0, .ref o1), (1, .int x1), (2, .int x2)] := hl
  refine lv_iconst (v := 0) hx hb dX1_sumOfClass_0 (by decide) ?_
  refine lv_istore_n (lv' := [(3, .int (0 : Int32)), (0, .ref o1), (1, .int x1), (2, .int x2)]) hx hb dX1_sumOfClass_1 rfl hl (by decide) rfl (fun ls hl => ?_)
  refine lv_iload_n hx hb dX1_sumOfClass_2 rfl (lv_at hl 2 rfl) ?_
  refine lv_istore (lv' := [(4, .int x1), (3, .int (0 : Int32)), (0, .ref o1), (1, .int x1), (2, .int x2)]) hx hb dX1_sumOfClass_3 hl (by decide) rfl (fun ls hl => ?_)
  have loop5 : ∀ (n : Nat) (w5_3 : Int32) (w5_4 : Int32) (H : Heap) (locs : List Loc) (ls : Array Slot), (100000 - w5_4.toInt).toNat < n → 0 ≤ w5_4.toInt ∧ w5_4.toInt ≤ 100000 → va_P D vwCl (X ++ PL cy S) H → va_S A s.heap H locs → lv_has ls 5 [(4, .int w5_4), (3, .int w5_3), (0, .ref o1), (1, .int x1), (2, .int x2)] → (∀ (w5_3x : Int32) (w5_4x : Int32) (H : Heap) (locs : List Loc) (ls : Array Slot), 0 ≤ w5_4x.toInt ∧ w5_4x.toInt ≤ 100000 → va_P D vwCl (X ++ PL cy S) H → va_S A s.heap H locs → lv_has ls 5 [(4, .int w5_4x), (3, .int w5_3x), (0, .ref o1), (1, .int x1), (2, .int x2)] → f_X1_sumOfClass_L5 S o1 x1 x2 n w5_3 w5_4 = (w5_3x, w5_4x) → W p l e (headSpec wsX1_sumOfClass ({ frames := 0, cells := 0, slots := 0, locals := 0 } : Room)).room s m [.ref o1, .int x1, .int x2].toArray below meth c H locs 0 0 (MQ below (va_Qi (fun r (_ : Unit) => r = f_X1_sumOfClass S o1 x1 x2) (fun _ t => WD D cy X A S t) A) [.ref o1, .int x1, .int x2].toArray s 0 0 A) (F0 m 38 ls [])) → W p l e (headSpec wsX1_sumOfClass ({ frames := 0, cells := 0, slots := 0, locals := 0 } : Room)).room s m [.ref o1, .int x1, .int x2].toArray below meth c H locs 0 0 (MQ below (va_Qi (fun r (_ : Unit) => r = f_X1_sumOfClass S o1 x1 x2) (fun _ t => WD D cy X A S t) A) [.ref o1, .int x1, .int x2].toArray s 0 0 A) (F0 m 5 ls []) := by
    intro n5
    induction n5 with
    | zero => intro w5_3 w5_4 H locs ls hm; exact absurd hm (Nat.not_lt_zero _)
    | succ n5 ih5 =>
      intro w5_3 w5_4 H locs ls hm5 hi5 hP hS hl ko5
      refine lv_iload_n hx hb dX1_sumOfClass_5 rfl (lv_at hl 4 rfl) ?_
      refine lv_if_le (tgt := 38) hx hb dX1_sumOfClass_6 (by decide) (fun c1 => ?_) (fun c1 => ?_)
      · have c1i : x2.toInt ≤ 0 := le_v rfl rfl c1
        exact ko5 w5_3 w5_4 _ _ _ (by omega) hP hS (lv_sub hl [0, 1, 2, 3, 4] rfl) (by rw [f_X1_sumOfClass_L5_s, if_pos c1])
      · have c1i : 0 < x2.toInt := nle_v rfl rfl c1
        refine lv_iload hx hb dX1_sumOfClass_9 (lv_at hl 0 rfl) ?_
        refine lv_aload_n hx hb dX1_sumOfClass_11 rfl (lv_at hl 2 rfl) ?_
        have F2 := ((hW.at h_o1 List.not_mem_nil).to_1 h_o1.2.1).F0
        obtain ⟨k3, gk3, hk3⟩ := wGt (cy := cy) X S h_o1.1 h_o1.2.1
        simp only [kE, F2.1] at hk3
        refine va_get (D := D) (ci := 5) (v := .ref (S.f o1 0)) (C := RX1) (T := TX1) (N := 3) hx hb hts hi_X1_sumOfClass_X1 hown hK hP k3 hk3 rfl 0 (by decide) (hts (.fieldLink RX1 7 "Hobhouse$Chart" "errors" "[I") (by decide +kernel)) (fun _ h9 => h9) rfl dX1_sumOfClass_12 ?_
        obtain ⟨k4, gk4, hk4⟩ := wGt (cy := cy) X S F2.2.1.1 F2.2.1.2.1
        have i5 : (nI (S.n (S.f o1 0))).toInt = ((S.n (S.f o1 0) : Nat) : Int) := nI_toInt F2.2.1.2.2
        have i6 := F2.2.1.2.2
        have i7 := F2.2.2
        refine va_alen (D := D) (cl := vwCl) (tys := tyL cy) hx hb hK hP k4 2 hk4 rfl (v := nI (S.n (S.f o1 0))) rfl dX1_sumOfClass_15 ?_
        refine lv_icmp_ge (tgt := 38) hx hb dX1_sumOfClass_16 (by decide) (fun c8 => ?_) (fun c8 => ?_)
        · have c8i : (nI (S.n (S.f o1 0))).toInt ≤ w5_4.toInt := le_v rfl rfl c8
          exact ko5 w5_3 w5_4 _ _ _ (by omega) hP hS (lv_sub hl [0, 1, 2, 3, 4] rfl) (by rw [f_X1_sumOfClass_L5_s, if_neg c1, if_pos c8])
        · have c8i : w5_4.toInt < (nI (S.n (S.f o1 0))).toInt := nle_v rfl rfl c8
          refine lv_iload_n hx hb dX1_sumOfClass_19 rfl (lv_at hl 1 rfl) ?_
          refine lv_aload_n hx hb dX1_sumOfClass_20 rfl (lv_at hl 2 rfl) ?_
          obtain ⟨k9, gk9, hk9⟩ := wGt (cy := cy) X S h_o1.1 h_o1.2.1
          simp only [kE, F2.1] at hk9
          refine va_get (D := D) (ci := 5) (v := .ref (S.f o1 0)) (C := RX1) (T := TX1) (N := 3) hx hb hts hi_X1_sumOfClass_X1 hown hK hP k9 hk9 rfl 0 (by decide) (hts (.fieldLink RX1 7 "Hobhouse$Chart" "errors" "[I") (by decide +kernel)) (fun _ h9 => h9) rfl dX1_sumOfClass_21 ?_
          refine lv_iload hx hb dX1_sumOfClass_24 (lv_at hl 0 rfl) ?_
          have i10 := F2.2.2
          obtain ⟨k11, gk11, hk11⟩ := wGt (cy := cy) X S F2.2.1.1 F2.2.1.2.1
          refine va_iald hx hb hK hP k11 2 hk11 rfl (inb (m := S.n (S.f o1 0)) rfl (by omega) (by omega)) dX1_sumOfClass_26 ?_
          refine lv_iadd hx hb dX1_sumOfClass_27 ?_
          refine lv_istore_n (lv' := [(3, .int (w5_3 + (S.i (S.f o1 0) w5_4.toNatClampNeg))), (4, .int w5_4), (0, .ref o1), (1, .int x1), (2, .int x2)]) hx hb dX1_sumOfClass_28 rfl hl (by decide) rfl (fun ls hl => ?_)
          refine lv_iload hx hb dX1_sumOfClass_29 (lv_at hl 1 rfl) ?_
          refine lv_iload_n hx hb dX1_sumOfClass_31 rfl (lv_at hl 4 rfl) ?_
          refine lv_iadd hx hb dX1_sumOfClass_32 ?_
          refine lv_istore (lv' := [(4, .int (w5_4 + x2)), (3, .int (w5_3 + (S.i (S.f o1 0) w5_4.toNatClampNeg))), (0, .ref o1), (1, .int x1), (2, .int x2)]) hx hb dX1_sumOfClass_33 hl (by decide) rfl (fun ls hl => ?_)
          refine lv_goto (tgt := 5) hx hb dX1_sumOfClass_35 (by decide) ?_
          have i12 : (w5_4 + x2).toInt = w5_4.toInt + x2.toInt := t_add (by omega)
          exact ih5 (w5_3 + (S.i (S.f o1 0) w5_4.toNatClampNeg)) (w5_4 + x2) _ _ _ (Nat.lt_of_lt_of_le (by omega) (Nat.le_of_lt_succ hm5)) (by omega) hP hS (lv_sub hl [0, 1, 2, 3, 4] rfl) (fun w5_3y w5_4y H9 locs9 ls9 i9 P9 S9 l9 hfe => ko5 w5_3y w5_4y H9 locs9 ls9 i9 P9 S9 l9 (Eq.trans (by rw [f_X1_sumOfClass_L5_s, if_neg c1, if_neg c8]) hfe))
  refine loop5 100001 (0 : Int32) x1 _ _ _ (by omega) (by omega) hP hS (lv_sub hl [0, 1, 2, 3, 4] rfl) (fun z14 z15 H locs ls hi5 hP hS hl c13 => ?_)
  refine lv_iload_n hx hb dX1_sumOfClass_38 rfl (lv_at hl 1 rfl) ?_
  refine W.widen (k := 0) (n := 0) (Nat.le_of_ble_eq_true rfl) (Nat.le_of_ble_eq_true rfl) ?_
  exact W.iret (v := z14) hx hb hr (fun t ht hW9 => ⟨⟨z14, (), rfl, (by show z14 = f_X1_sumOfClass S o1 x1 x2; unfold f_X1_sumOfClass; rw [l2_eq c13]), wd_end hP hK hD ht hW9.alike⟩, hS.F ht⟩) hS.2.2 dX1_sumOfClass_39 hlocks
def f_X1_worstPitch_L13 (S : wPS) (o1 : Nat) : Nat → Int32 → Int32 → Int32 × Int32
  | 0, w13_1, w13_4 => (w13_1, w13_4)
  | n + 1, w13_1, w13_4 => if (nI (S.n (S.f o1 0))) ≤ w13_4 then (w13_1, w13_4) else f_X1_worstPitch_L13 S o1 n (if w13_1 < (if 0 ≤ (S.i (S.f o1 0) w13_4.toNatClampNeg) then (S.i (S.f o1 0) w13_4.toNatClampNeg) else 0 - (S.i (S.f o1 0) w13_4.toNatClampNeg)) then (if 0 ≤ (S.i (S.f o1 0) w13_4.toNatClampNeg) then (S.i (S.f o1 0) w13_4.toNatClampNeg) else 0 - (S.i (S.f o1 0) w13_4.toNatClampNeg)) else w13_1) (w13_4 + (1 : Int32))
theorem f_X1_worstPitch_L13_s (S : wPS) (o1 : Nat) (n : Nat) (w13_1 : Int32) (w13_4 : Int32) : f_X1_worstPitch_L13 S o1 (n + 1) w13_1 w13_4 = if (nI (S.n (S.f o1 0))) ≤ w13_4 then (w13_1, w13_4) else f_X1_worstPitch_L13 S o1 n (if w13_1 < (if 0 ≤ (S.i (S.f o1 0) w13_4.toNatClampNeg) then (S.i (S.f o1 0) w13_4.toNatClampNeg) else 0 - (S.i (S.f o1 0) w13_4.toNatClampNeg)) then (if 0 ≤ (S.i (S.f o1 0) w13_4.toNatClampNeg) then (S.i (S.f o1 0) w13_4.toNatClampNeg) else 0 - (S.i (S.f o1 0) w13_4.toNatClampNeg)) else w13_1) (w13_4 + (1 : Int32)) := rfl
def f_X1_worstPitch (S : wPS) (o1 : Nat) : Int32 := l2 (f_X1_worstPitch_L13 S o1 201 (0 : Int32) (0 : Int32)) (fun z12 z13 => z12)
theorem hi_X1_worstPitch_X1 : ∀ w ∈ u_ws RX1 TX1 3, w ∈ wsX1_worstPitch := by decide +kernel
theorem hd_X1_worstPitch : yX1_worstPitch.cls = RX1 ∧ yX1_worstPitch.cls ≠ "java/lang/invoke/MethodHandle" ∧ yX1_worstPitch.cls ≠ "java/lang/invoke/VarHandle" ∧ (parseMethodDescriptor yX1_worstPitch.desc).map (fun d => d.parameters.length) = some 0 := by decide +kernel
set_option maxHeartbeats 4000000 in
set_option maxRecDepth 100000 in
theorem c_X1_worstPitch (l : Launch) {D : va_G} {cy : Nat → ClassId} {X : va_W} (S : wPS) (sz : Nat) (o1 : Nat) (h_o1 : isA S o1 1) (hW : wtB S [])  : Met l yX1_worstPitch wsX1_worstPitch ({ frames := 1, cells := 0, slots := 0, locals := 14 }) (va_Pc [.ref o1] (fun U => U.heap.size = sz ∧ WD D cy X (fun _ => True) S U ∧ NW U)) (va_Qi (fun r (_ : Unit) => r = f_X1_worstPitch S o1) (fun _ t => WD D cy X (va_A (X ++ PL cy S) sz) S t) (va_A (X ++ PL cy S) sz)) 0 0 (va_A (X ++ PL cy S) sz) := by
  refine Met.ofW (cc := cX1_worstPitch) (maxL := 6) (ret := (some .int)) (by decide) rfl ?_
  intro p e s m args below meth c s₁ B hml hv
  obtain ⟨rfl, hsz, ⟨hP, hK, hD0⟩, hN⟩ := hv
  have hx := B.exec
  have hb := B.bytes
  have hr := B.returns
  have hts := atoms_spec (ws := wsX1_worstPitch) B.pre
  have hown : s.vm.findClass RX1 = some m.cls := findClass_of_methodNamed (x := yX1_worstPitch) B.named
  have hlocks := B.notSynchronized
  subst hsz
  have hD := hD0.self (sz := s.heap.size)
  generalize hAe : va_A (X ++ PL cy S) s.heap.size = A at hD ⊢
  have hA : ∀ q : Nat, s.heap.size ≤ q → A q := fun q h => by rw [← hAe]; exact Or.inr h
  have hS : va_S A s.heap s.heap [] := va_S.rf
  have hl := lv_entry ([.ref o1]) (n := 6) (Nat.le_of_ble_eq_true rfl)
  rw [lg_entry_eq]
  generalize (lg_sl ([.ref o1]) ++ List.replicate (6 - (lg_sl ([.ref o1])).length) Slot.unset).toArray = ls at hl ⊢
  have hl : lv_has ls 6 [(0, .ref o1)] := hl
  refine lv_iconst (v := 0) hx hb dX1_worstPitch_0 (by decide) ?_
  refine lv_istore_n (lv' := [(1, .int (0 : Int32)), (0, .ref o1)]) hx hb dX1_worstPitch_1 rfl hl (by decide) rfl (fun ls hl => ?_)
  refine lv_aload_n hx hb dX1_worstPitch_2 rfl (lv_at hl 1 rfl) ?_
  have F1 := ((hW.at h_o1 List.not_mem_nil).to_1 h_o1.2.1).F0
  obtain ⟨k2, gk2, hk2⟩ := wGt (cy := cy) X S h_o1.1 h_o1.2.1
  simp only [kE, F1.1] at hk2
  refine va_get (D := D) (ci := 5) (v := .ref (S.f o1 0)) (C := RX1) (T := TX1) (N := 3) hx hb hts hi_X1_worstPitch_X1 hown hK hP k2 hk2 rfl 0 (by decide) (hts (.fieldLink RX1 7 "Hobhouse$Chart" "errors" "[I") (by decide +kernel)) (fun _ h9 => h9) rfl dX1_worstPitch_3 ?_
  refine lv_astore_n (lv' := [(2, .ref (S.f o1 0)), (1, .int (0 : Int32)), (0, .ref o1)]) hx hb dX1_worstPitch_6 rfl hl (by decide) rfl (fun ls hl => ?_)
  refine lv_aload_n hx hb dX1_worstPitch_7 rfl (lv_at hl 0 rfl) ?_
  obtain ⟨k3, gk3, hk3⟩ := wGt (cy := cy) X S F1.2.1.1 F1.2.1.2.1
  have i4 : (nI (S.n (S.f o1 0))).toInt = ((S.n (S.f o1 0) : Nat) : Int) := nI_toInt F1.2.1.2.2
  have i5 := F1.2.1.2.2
  have i6 := F1.2.2
  refine va_alen (D := D) (cl := vwCl) (tys := tyL cy) hx hb hK hP k3 2 hk3 rfl (v := nI (S.n (S.f o1 0))) rfl dX1_worstPitch_8 ?_
  refine lv_istore_n (lv' := [(3, .int (nI (S.n (S.f o1 0)))), (2, .ref (S.f o1 0)), (1, .int (0 : Int32)), (0, .ref o1)]) hx hb dX1_worstPitch_9 rfl hl (by decide) rfl (fun ls hl => ?_)
  refine lv_iconst (v := 0) hx hb dX1_worstPitch_10 (by decide) ?_
  refine lv_istore (lv' := [(4, .int (0 : Int32)), (3, .int (nI (S.n (S.f o1 0)))), (2, .ref (S.f o1 0)), (1, .int (0 : Int32)), (0, .ref o1)]) hx hb dX1_worstPitch_11 hl (by decide) rfl (fun ls hl => ?_)
  have l32_0 : (0 : Int32).toInt = 0 := rfl
  have loop13 : ∀ (n : Nat) (w13_1 : Int32) (w13_4 : Int32) (H : Heap) (locs : List Loc) (ls : Array Slot), (200 - w13_4.toInt).toNat < n → 0 ≤ w13_4.toInt ∧ w13_4.toInt ≤ 200 → va_P D vwCl (X ++ PL cy S) H → va_S A s.heap H locs → lv_has ls 6 [(4, .int w13_4), (3, .int (nI (S.n (S.f o1 0)))), (2, .ref (S.f o1 0)), (1, .int w13_1), (0, .ref o1)] → (∀ (w13_1x : Int32) (w13_4x : Int32) (H : Heap) (locs : List Loc) (ls : Array Slot), 0 ≤ w13_4x.toInt ∧ w13_4x.toInt ≤ 200 → va_P D vwCl (X ++ PL cy S) H → va_S A s.heap H locs → lv_has ls 6 [(4, .int w13_4x), (3, .int (nI (S.n (S.f o1 0)))), (2, .ref (S.f o1 0)), (1, .int w13_1x), (0, .ref o1)] → f_X1_worstPitch_L13 S o1 n w13_1 w13_4 = (w13_1x, w13_4x) → W p l e (headSpec wsX1_worstPitch ({ frames := 1, cells := 0, slots := 0, locals := 14 } : Room)).room s m [.ref o1].toArray below meth c H locs 0 0 (MQ below (va_Qi (fun r (_ : Unit) => r = f_X1_worstPitch S o1) (fun _ t => WD D cy X A S t) A) [.ref o1].toArray s 0 0 A) (F0 m 41 ls [])) → W p l e (headSpec wsX1_worstPitch ({ frames := 1, cells := 0, slots := 0, locals := 14 } : Room)).room s m [.ref o1].toArray below meth c H locs 0 0 (MQ below (va_Qi (fun r (_ : Unit) => r = f_X1_worstPitch S o1) (fun _ t => WD D cy X A S t) A) [.ref o1].toArray s 0 0 A) (F0 m 13 ls []) := by
    intro n13
    induction n13 with
    | zero => intro w13_1 w13_4 H locs ls hm; exact absurd hm (Nat.not_lt_zero _)
    | succ n13 ih13 =>
      intro w13_1 w13_4 H locs ls hm13 hi13 hP hS hl ko13
      refine lv_iload hx hb dX1_worstPitch_13 (lv_at hl 0 rfl) ?_
      refine lv_iload_n hx hb dX1_worstPitch_15 rfl (lv_at hl 1 rfl) ?_
      refine lv_icmp_ge (tgt := 41) hx hb dX1_worstPitch_16 (by decide) (fun c7 => ?_) (fun c7 => ?_)
      · have c7i : (nI (S.n (S.f o1 0))).toInt ≤ w13_4.toInt := le_v rfl rfl c7
        exact ko13 w13_1 w13_4 _ _ _ (by omega) hP hS (lv_sub hl [0, 1, 2, 3, 4] rfl) (by rw [f_X1_worstPitch_L13_s, if_pos c7])
      · have c7i : w13_4.toInt < (nI (S.n (S.f o1 0))).toInt := nle_v rfl rfl c7
        refine lv_aload_n hx hb dX1_worstPitch_19 rfl (lv_at hl 2 rfl) ?_
        refine lv_iload hx hb dX1_worstPitch_20 (lv_at hl 0 rfl) ?_
        have i8 := F1.2.2
        obtain ⟨k9, gk9, hk9⟩ := wGt (cy := cy) X S F1.2.1.1 F1.2.1.2.1
        refine va_iald hx hb hK hP k9 2 hk9 rfl (inb (m := S.n (S.f o1 0)) rfl (by omega) (by omega)) dX1_worstPitch_22 ?_
        refine lv_istore (lv' := [(5, .int (S.i (S.f o1 0) w13_4.toNatClampNeg)), (4, .int w13_4), (3, .int (nI (S.n (S.f o1 0)))), (2, .ref (S.f o1 0)), (1, .int w13_1), (0, .ref o1)]) hx hb dX1_worstPitch_23 hl (by decide) rfl (fun ls hl => ?_)
        refine lv_iload_n hx hb dX1_worstPitch_25 rfl (lv_at hl 4 rfl) ?_
        refine lv_iload hx hb dX1_worstPitch_26 (lv_at hl 0 rfl) ?_
        refine va_mabs hx hb (hml.trans hl.1.symm) hown (hts (.methodLink RX1 36 Lib.Math.abs.name) (by decide +kernel)) (hts (.static Lib.Math.abs.name) (by decide +kernel)) (hts (.initialized "java/lang/Math") (by decide +kernel)) (hts (.code Lib.Math.abs.name Lib.Math.abs.code 1 (some .int)) (by decide +kernel)) (Nat.le_of_ble_eq_true rfl) (Nat.le_of_ble_eq_true rfl) (Nat.zero_le _) (Nat.zero_le _) dX1_worstPitch_28 ?_
        refine va_mmax hx hb (hml.trans hl.1.symm) hown (hts (.methodLink RX1 40 Lib.Math.max.name) (by decide +kernel)) (hts (.static Lib.Math.max.name) (by decide +kernel)) (hts (.initialized "java/lang/Math") (by decide +kernel)) (hts (.code Lib.Math.max.name Lib.Math.max.code 2 (some .int)) (by decide +kernel)) (Nat.le_of_ble_eq_true rfl) (Nat.le_of_ble_eq_true rfl) (Nat.zero_le _) (Nat.zero_le _) dX1_worstPitch_31 ?_
        refine lv_istore_n (lv' := [(1, .int (if w13_1 < (if 0 ≤ (S.i (S.f o1 0) w13_4.toNatClampNeg) then (S.i (S.f o1 0) w13_4.toNatClampNeg) else 0 - (S.i (S.f o1 0) w13_4.toNatClampNeg)) then (if 0 ≤ (S.i (S.f o1 0) w13_4.toNatClampNeg) then (S.i (S.f o1 0) w13_4.toNatClampNeg) else 0 - (S.i (S.f o1 0) w13_4.toNatClampNeg)) else w13_1)), (5, .int (S.i (S.f o1 0) w13_4.toNatClampNeg)), (4, .int w13_4), (3, .int (nI (S.n (S.f o1 0)))), (2, .ref (S.f o1 0)), (0, .ref o1)]) hx hb dX1_worstPitch_34 rfl hl (by decide) rfl (fun ls hl => ?_)
        refine lv_iinc (v := w13_4 + (1 : Int32)) (lv' := [(4, .int (w13_4 + (1 : Int32))), (1, .int (if w13_1 < (if 0 ≤ (S.i (S.f o1 0) w13_4.toNatClampNeg) then (S.i (S.f o1 0) w13_4.toNatClampNeg) else 0 - (S.i (S.f o1 0) w13_4.toNatClampNeg)) then (if 0 ≤ (S.i (S.f o1 0) w13_4.toNatClampNeg) then (S.i (S.f o1 0) w13_4.toNatClampNeg) else 0 - (S.i (S.f o1 0) w13_4.toNatClampNeg)) else w13_1)), (5, .int (S.i (S.f o1 0) w13_4.toNatClampNeg)), (3, .int (nI (S.n (S.f o1 0)))), (2, .ref (S.f o1 0)), (0, .ref o1)]) hx hb dX1_worstPitch_35 hl (k := 2) rfl (by rfl) (by decide) rfl (fun ls hl => ?_)
        refine lv_goto (tgt := 13) hx hb dX1_worstPitch_38 (by decide) ?_
        have l32_1 : (1 : Int32).toInt = 1 := rfl
        have i10 : (w13_4 + (1 : Int32)).toInt = w13_4.toInt + 1 := t_addr (n := 1) rfl (by omega)
        exact ih13 (if w13_1 < (if 0 ≤ (S.i (S.f o1 0) w13_4.toNatClampNeg) then (S.i (S.f o1 0) w13_4.toNatClampNeg) else 0 - (S.i (S.f o1 0) w13_4.toNatClampNeg)) then (if 0 ≤ (S.i (S.f o1 0) w13_4.toNatClampNeg) then (S.i (S.f o1 0) w13_4.toNatClampNeg) else 0 - (S.i (S.f o1 0) w13_4.toNatClampNeg)) else w13_1) (w13_4 + (1 : Int32)) _ _ _ (Nat.lt_of_lt_of_le (by omega) (Nat.le_of_lt_succ hm13)) (by omega) hP hS (lv_sub hl [0, 3, 4, 1, 5] rfl) (fun w13_1y w13_4y H9 locs9 ls9 i9 P9 S9 l9 hfe => ko13 w13_1y w13_4y H9 locs9 ls9 i9 P9 S9 l9 (Eq.trans (by rw [f_X1_worstPitch_L13_s, if_neg c7]) hfe))
  refine loop13 201 (0 : Int32) (0 : Int32) _ _ _ (by omega) (by omega) hP hS (lv_sub hl [0, 1, 2, 3, 4] rfl) (fun z12 z13 H locs ls hi13 hP hS hl c11 => ?_)
  refine lv_iload_n hx hb dX1_worstPitch_41 rfl (lv_at hl 3 rfl) ?_
  refine W.widen (k := 0) (n := 0) (Nat.le_of_ble_eq_true rfl) (Nat.le_of_ble_eq_true rfl) ?_
  exact W.iret (v := z12) hx hb hr (fun t ht hW9 => ⟨⟨z12, (), rfl, (by show z12 = f_X1_worstPitch S o1; unfold f_X1_worstPitch; rw [l2_eq c11]), wd_end hP hK hD ht hW9.alike⟩, hS.F ht⟩) hS.2.2 dX1_worstPitch_42 hlocks
def f_X1_partOf_L37 (S : wPS) (o1 : Nat) (x1 : Int32) : Nat → Int32 → Int32 → Int32 → Int32 × Int32 × Int32
  | 0, w37_2, w37_3, w37_4 => (w37_2, w37_3, w37_4)
  | n + 1, w37_2, w37_3, w37_4 => if x1 ≤ w37_4 then (w37_2, w37_3, w37_4) else f_X1_partOf_L37 S o1 x1 n (if w37_2 < (f_X1_sumOfClass S o1 w37_4 x1) then (f_X1_sumOfClass S o1 w37_4 x1) else w37_2) (if (f_X1_sumOfClass S o1 w37_4 x1) < w37_3 then (f_X1_sumOfClass S o1 w37_4 x1) else w37_3) (w37_4 + (1 : Int32))
theorem f_X1_partOf_L37_s (S : wPS) (o1 : Nat) (x1 : Int32) (n : Nat) (w37_2 : Int32) (w37_3 : Int32) (w37_4 : Int32) : f_X1_partOf_L37 S o1 x1 (n + 1) w37_2 w37_3 w37_4 = if x1 ≤ w37_4 then (w37_2, w37_3, w37_4) else f_X1_partOf_L37 S o1 x1 n (if w37_2 < (f_X1_sumOfClass S o1 w37_4 x1) then (f_X1_sumOfClass S o1 w37_4 x1) else w37_2) (if (f_X1_sumOfClass S o1 w37_4 x1) < w37_3 then (f_X1_sumOfClass S o1 w37_4 x1) else w37_3) (w37_4 + (1 : Int32)) := rfl
def f_X1_partOf (S : wPS) (o1 : Nat) (x1 : Int32) : Int32 := if x1 < (1 : Int32) then (0 : Int32) else if (nI (S.n (S.f o1 0))) = (0 : Int32) then (0 : Int32) else if ((nI (S.n (S.f o1 0))) - (nI (S.n (S.f o1 0))) / x1 * x1) = (0 : Int32) then l3 (f_X1_partOf_L37 S o1 x1 201 (f_X1_sumOfClass S o1 (0 : Int32) x1) (f_X1_sumOfClass S o1 (0 : Int32) x1) (1 : Int32)) (fun z21 z22 z23 => ((((z21 - z22).toInt64) * x1.toInt64) / ((nI (S.n (S.f o1 0))).toInt64)).toInt32) else (0 : Int32)
theorem hi_X1_partOf_X1 : ∀ w ∈ u_ws RX1 TX1 3, w ∈ wsX1_partOf := by decide +kernel
theorem hd_X1_partOf : yX1_partOf.cls = RX1 ∧ yX1_partOf.cls ≠ "java/lang/invoke/MethodHandle" ∧ yX1_partOf.cls ≠ "java/lang/invoke/VarHandle" ∧ (parseMethodDescriptor yX1_partOf.desc).map (fun d => d.parameters.length) = some 1 := by decide +kernel
set_option maxHeartbeats 4000000 in
set_option maxRecDepth 100000 in
theorem c_X1_partOf (l : Launch) {D : va_G} {cy : Nat → ClassId} {X : va_W} (S : wPS) (sz : Nat) (o1 : Nat) (h_o1 : isA S o1 1) (x1 : Int32) (hW : wtB S [])  : Met l yX1_partOf wsX1_partOf ({ frames := 1, cells := 0, slots := 0, locals := 24 }) (va_Pc [.ref o1, .int x1] (fun U => U.heap.size = sz ∧ WD D cy X (fun _ => True) S U ∧ NW U)) (va_Qi (fun r (_ : Unit) => r = f_X1_partOf S o1 x1) (fun _ t => WD D cy X (va_A (X ++ PL cy S) sz) S t) (va_A (X ++ PL cy S) sz)) 0 0 (va_A (X ++ PL cy S) sz) := by
  refine Met.ofW (cc := cX1_partOf) (maxL := 6) (ret := (some .int)) (by decide) rfl ?_
  intro p e s m args below meth c s₁ B hml hv
  obtain ⟨rfl, hsz, ⟨hP, hK, hD0⟩, hN⟩ := hv
  have hx := B.exec
  have hb := B.bytes
  have hr := B.returns
  have hts := atoms_spec (ws := wsX1_partOf) B.pre
  have hown : s.vm.findClass RX1 = some m.cls := findClass_of_methodNamed (x := yX1_partOf) B.named
  have hlocks := B.notSynchronized
  subst hsz
  have hD := hD0.self (sz := s.heap.size)
  generalize hAe : va_A (X ++ PL cy S) s.heap.size = A at hD ⊢
  have hA : ∀ q : Nat, s.heap.size ≤ q → A q := fun q h => by rw [← hAe]; exact Or.inr h
  have hS : va_S A s.heap s.heap [] := va_S.rf
  have hl := lv_entry ([.ref o1, .int x1]) (n := 6) (Nat.le_of_ble_eq_true rfl)
  rw [lg_entry_eq]
  generalize (lg_sl ([.ref o1, .int x1]) ++ List.replicate (6 - (lg_sl ([.ref o1, .int x1])).length) Slot.unset).toArray = ls at hl ⊢
  have hl : lv_has ls 6 [(0, .ref o1), (1, .int x1)] := hl
  refine lv_iload_n hx hb dX1_partOf_0 rfl (lv_at hl 1 rfl) ?_
  refine lv_iconst (v := 1) hx hb dX1_partOf_1 (by decide) ?_
  refine lv_icmp_lt (tgt := 23) hx hb dX1_partOf_2 (by decide) (fun c1 => ?_) (fun c1 => ?_)
  · have c1i : x1.toInt < 1 := lt_v rfl rfl c1
    refine lv_iconst (v := 0) hx hb dX1_partOf_23 (by decide) ?_
    refine W.widen (k := 0) (n := 0) (Nat.le_of_ble_eq_true rfl) (Nat.le_of_ble_eq_true rfl) ?_
    exact W.iret (v := (0 : Int32)) hx hb hr (fun t ht hW9 => ⟨⟨(0 : Int32), (), rfl, (by show (0 : Int32) = f_X1_partOf S o1 x1; unfold f_X1_partOf; rw [if_pos c1]), wd_end hP hK hD ht hW9.alike⟩, hS.F ht⟩) hS.2.2 dX1_partOf_24 hlocks
  · have c1i : 1 ≤ x1.toInt := nlt_v rfl rfl c1
    refine lv_aload_n hx hb dX1_partOf_5 rfl (lv_at hl 0 rfl) ?_
    have F2 := ((hW.at h_o1 List.not_mem_nil).to_1 h_o1.2.1).F0
    obtain ⟨k3, gk3, hk3⟩ := wGt (cy := cy) X S h_o1.1 h_o1.2.1
    simp only [kE, F2.1] at hk3
    refine va_get (D := D) (ci := 5) (v := .ref (S.f o1 0)) (C := RX1) (T := TX1) (N := 3) hx hb hts hi_X1_partOf_X1 hown hK hP k3 hk3 rfl 0 (by decide) (hts (.fieldLink RX1 7 "Hobhouse$Chart" "errors" "[I") (by decide +kernel)) (fun _ h9 => h9) rfl dX1_partOf_6 ?_
    obtain ⟨k4, gk4, hk4⟩ := wGt (cy := cy) X S F2.2.1.1 F2.2.1.2.1
    have i5 : (nI (S.n (S.f o1 0))).toInt = ((S.n (S.f o1 0) : Nat) : Int) := nI_toInt F2.2.1.2.2
    have i6 := F2.2.1.2.2
    have i7 := F2.2.2
    refine va_alen (D := D) (cl := vwCl) (tys := tyL cy) hx hb hK hP k4 2 hk4 rfl (v := nI (S.n (S.f o1 0))) rfl dX1_partOf_9 ?_
    refine lv_if_eq (tgt := 23) hx hb dX1_partOf_10 (by decide) (fun c8 => ?_) (fun c8 => ?_)
    · have c8i : (nI (S.n (S.f o1 0))).toInt = 0 := eq_v rfl rfl c8
      refine lv_iconst (v := 0) hx hb dX1_partOf_23 (by decide) ?_
      refine W.widen (k := 0) (n := 0) (Nat.le_of_ble_eq_true rfl) (Nat.le_of_ble_eq_true rfl) ?_
      exact W.iret (v := (0 : Int32)) hx hb hr (fun t ht hW9 => ⟨⟨(0 : Int32), (), rfl, (by show (0 : Int32) = f_X1_partOf S o1 x1; unfold f_X1_partOf; rw [if_neg c1, if_pos c8]), wd_end hP hK hD ht hW9.alike⟩, hS.F ht⟩) hS.2.2 dX1_partOf_24 hlocks
    · have c8i : ¬ (nI (S.n (S.f o1 0))).toInt = 0 := neq_v rfl rfl c8
      refine lv_aload_n hx hb dX1_partOf_13 rfl (lv_at hl 0 rfl) ?_
      obtain ⟨k9, gk9, hk9⟩ := wGt (cy := cy) X S h_o1.1 h_o1.2.1
      simp only [kE, F2.1] at hk9
      refine va_get (D := D) (ci := 5) (v := .ref (S.f o1 0)) (C := RX1) (T := TX1) (N := 3) hx hb hts hi_X1_partOf_X1 hown hK hP k9 hk9 rfl 0 (by decide) (hts (.fieldLink RX1 7 "Hobhouse$Chart" "errors" "[I") (by decide +kernel)) (fun _ h9 => h9) rfl dX1_partOf_14 ?_
      obtain ⟨k10, gk10, hk10⟩ := wGt (cy := cy) X S F2.2.1.1 F2.2.1.2.1
      refine va_alen (D := D) (cl := vwCl) (tys := tyL cy) hx hb hK hP k10 2 hk10 rfl (v := nI (S.n (S.f o1 0))) rfl dX1_partOf_17 ?_
      refine lv_iload_n hx hb dX1_partOf_18 rfl (lv_at hl 1 rfl) ?_
      refine lv_irem hx hb dX1_partOf_19 (nz_i (by omega)) ?_
      refine lv_if_eq (tgt := 25) hx hb dX1_partOf_20 (by decide) (fun c11 => ?_) (fun c11 => ?_)
      · have c11i : ((nI (S.n (S.f o1 0))) - (nI (S.n (S.f o1 0))) / x1 * x1).toInt = 0 := eq_v rfl rfl c11
        have hp := rem0_le (x := nI (S.n (S.f o1 0))) (y := x1) (by omega) (by omega) c11
        refine lv_aload_n hx hb dX1_partOf_25 rfl (lv_at hl 0 rfl) ?_
        refine lv_iconst (v := 0) hx hb dX1_partOf_26 (by decide) ?_
        refine lv_iload_n hx hb dX1_partOf_27 rfl (lv_at hl 1 rfl) ?_
        have l32_0 : (0 : Int32).toInt = 0 := rfl
        have hFc := free_all hD hS hA
        obtain ⟨k12, gk12, hk12⟩ := wGt (cy := cy) X S h_o1.1 h_o1.2.1
        refine va_calli (va_runV (As := [.int (0 : Int32), .int x1]) (rest := []) ⟨hx, hb, hml, hown, hts⟩ (c_X1_sumOfClass l (cy := cy) (X := X) (D := D) S _ o1 h_o1 (0 : Int32) x1 (hW) (by omega) (by omega)) (cwV 2 hts gX1_partOf_X1_sumOfClass rfl rfl rfl hd_X1_sumOfClass ⟨Nat.le_of_ble_eq_true rfl, Nat.le_of_ble_eq_true rfl⟩) (pV (va_recv hK hP (q := (RX1, TX1, 3)) (ci := 5) (q0 := k12) rfl hk12) hP hK hD hN) rfl rfl hl.1 rfl (lv_room (Nat.le_of_ble_eq_true rfl)) dX1_partOf_28 ⟨(Nat.zero_le _), (Nat.zero_le _)⟩) hS (fun q _ h => hFc q h) hFc (fun r13 u t H1 locs ht hvm hw hB hz1 hk1 hS => ?_)
        have c14 := hw
        obtain ⟨hP, hD⟩ := wd_post hFc ht hB
        generalize H1 = H at hP hS ⊢
        obtain rfl : f_X1_sumOfClass S o1 (0 : Int32) x1 = r13 := c14.symm
        refine lv_istore_n (lv' := [(2, .int (f_X1_sumOfClass S o1 (0 : Int32) x1)), (0, .ref o1), (1, .int x1)]) hx hb dX1_partOf_31 rfl hl (by decide) rfl (fun ls hl => ?_)
        refine lv_iload_n hx hb dX1_partOf_32 rfl (lv_at hl 0 rfl) ?_
        refine lv_istore_n (lv' := [(3, .int (f_X1_sumOfClass S o1 (0 : Int32) x1)), (2, .int (f_X1_sumOfClass S o1 (0 : Int32) x1)), (0, .ref o1), (1, .int x1)]) hx hb dX1_partOf_33 rfl hl (by decide) rfl (fun ls hl => ?_)
        refine lv_iconst (v := 1) hx hb dX1_partOf_34 (by decide) ?_
        refine lv_istore (lv' := [(4, .int (1 : Int32)), (3, .int (f_X1_sumOfClass S o1 (0 : Int32) x1)), (2, .int (f_X1_sumOfClass S o1 (0 : Int32) x1)), (0, .ref o1), (1, .int x1)]) hx hb dX1_partOf_35 hl (by decide) rfl (fun ls hl => ?_)
        have l32_1 : (1 : Int32).toInt = 1 := rfl
        have loop37 : ∀ (n : Nat) (w37_2 : Int32) (w37_3 : Int32) (w37_4 : Int32) (H : Heap) (locs : List Loc) (ls : Array Slot), (x1.toInt - w37_4.toInt).toNat < n → 1 ≤ w37_4.toInt ∧ w37_4.toInt ≤ x1.toInt → va_P D vwCl (X ++ PL cy S) H → va_S A s.heap H locs → lv_has ls 6 [(4, .int w37_4), (3, .int w37_3), (2, .int w37_2), (0, .ref o1), (1, .int x1)] → (∀ (w37_2x : Int32) (w37_3x : Int32) (w37_4x : Int32) (H : Heap) (locs : List Loc) (ls : Array Slot), 1 ≤ w37_4x.toInt ∧ w37_4x.toInt ≤ x1.toInt → va_P D vwCl (X ++ PL cy S) H → va_S A s.heap H locs → lv_has ls 6 [(4, .int w37_4x), (3, .int w37_3x), (2, .int w37_2x), (0, .ref o1), (1, .int x1)] → f_X1_partOf_L37 S o1 x1 n w37_2 w37_3 w37_4 = (w37_2x, w37_3x, w37_4x) → W p l e (headSpec wsX1_partOf ({ frames := 1, cells := 0, slots := 0, locals := 24 } : Room)).room s m [.ref o1, .int x1].toArray below meth c H locs 0 0 (MQ below (va_Qi (fun r (_ : Unit) => r = f_X1_partOf S o1 x1) (fun _ t => WD D cy X A S t) A) [.ref o1, .int x1].toArray s 0 0 A) (F0 m 72 ls [])) → W p l e (headSpec wsX1_partOf ({ frames := 1, cells := 0, slots := 0, locals := 24 } : Room)).room s m [.ref o1, .int x1].toArray below meth c H locs 0 0 (MQ below (va_Qi (fun r (_ : Unit) => r = f_X1_partOf S o1 x1) (fun _ t => WD D cy X A S t) A) [.ref o1, .int x1].toArray s 0 0 A) (F0 m 37 ls []) := by
          intro n37
          induction n37 with
          | zero => intro w37_2 w37_3 w37_4 H locs ls hm; exact absurd hm (Nat.not_lt_zero _)
          | succ n37 ih37 =>
            intro w37_2 w37_3 w37_4 H locs ls hm37 hi37 hP hS hl ko37
            refine lv_iload hx hb dX1_partOf_37 (lv_at hl 0 rfl) ?_
            refine lv_iload_n hx hb dX1_partOf_39 rfl (lv_at hl 4 rfl) ?_
            refine lv_icmp_ge (tgt := 72) hx hb dX1_partOf_40 (by decide) (fun c15 => ?_) (fun c15 => ?_)
            · have c15i : x1.toInt ≤ w37_4.toInt := le_v rfl rfl c15
              exact ko37 w37_2 w37_3 w37_4 _ _ _ (by omega) hP hS (lv_sub hl [0, 1, 2, 3, 4] rfl) (by rw [f_X1_partOf_L37_s, if_pos c15])
            · have c15i : w37_4.toInt < x1.toInt := nle_v rfl rfl c15
              refine lv_aload_n hx hb dX1_partOf_43 rfl (lv_at hl 3 rfl) ?_
              refine lv_iload hx hb dX1_partOf_44 (lv_at hl 0 rfl) ?_
              refine lv_iload_n hx hb dX1_partOf_46 rfl (lv_at hl 4 rfl) ?_
              have hFc := free_all hD hS hA
              obtain ⟨k16, gk16, hk16⟩ := wGt (cy := cy) X S h_o1.1 h_o1.2.1
              refine va_calli (va_runV (As := [.int w37_4, .int x1]) (rest := []) ⟨hx, hb, hml, hown, hts⟩ (c_X1_sumOfClass l (cy := cy) (X := X) (D := D) S _ o1 h_o1 w37_4 x1 (hW) (by omega) (by omega)) (cwV 2 hts gX1_partOf_X1_sumOfClass rfl rfl rfl hd_X1_sumOfClass ⟨Nat.le_of_ble_eq_true rfl, Nat.le_of_ble_eq_true rfl⟩) (pV (va_recv hK hP (q := (RX1, TX1, 3)) (ci := 5) (q0 := k16) rfl hk16) hP hK hD hN) rfl rfl hl.1 rfl (lv_room (Nat.le_of_ble_eq_true rfl)) dX1_partOf_47 ⟨(Nat.zero_le _), (Nat.zero_le _)⟩) hS (fun q _ h => hFc q h) hFc (fun r17 u t H1 locs ht hvm hw hB hz1 hk1 hS => ?_)
              have c18 := hw
              obtain ⟨hP, hD⟩ := wd_post hFc ht hB
              generalize H1 = H at hP hS ⊢
              obtain rfl : f_X1_sumOfClass S o1 w37_4 x1 = r17 := c18.symm
              refine lv_istore (lv' := [(5, .int (f_X1_sumOfClass S o1 w37_4 x1)), (4, .int w37_4), (3, .int w37_3), (2, .int w37_2), (0, .ref o1), (1, .int x1)]) hx hb dX1_partOf_50 hl (by decide) rfl (fun ls hl => ?_)
              refine lv_iload_n hx hb dX1_partOf_52 rfl (lv_at hl 3 rfl) ?_
              refine lv_iload hx hb dX1_partOf_53 (lv_at hl 0 rfl) ?_
              refine va_mmax hx hb (hml.trans hl.1.symm) hown (hts (.methodLink RX1 40 Lib.Math.max.name) (by decide +kernel)) (hts (.static Lib.Math.max.name) (by decide +kernel)) (hts (.initialized "java/lang/Math") (by decide +kernel)) (hts (.code Lib.Math.max.name Lib.Math.max.code 2 (some .int)) (by decide +kernel)) (Nat.le_of_ble_eq_true rfl) (Nat.le_of_ble_eq_true rfl) (Nat.zero_le _) (Nat.zero_le _) dX1_partOf_55 ?_
              refine lv_istore_n (lv' := [(2, .int (if w37_2 < (f_X1_sumOfClass S o1 w37_4 x1) then (f_X1_sumOfClass S o1 w37_4 x1) else w37_2)), (5, .int (f_X1_sumOfClass S o1 w37_4 x1)), (4, .int w37_4), (3, .int w37_3), (0, .ref o1), (1, .int x1)]) hx hb dX1_partOf_58 rfl hl (by decide) rfl (fun ls hl => ?_)
              refine lv_iload_n hx hb dX1_partOf_59 rfl (lv_at hl 3 rfl) ?_
              refine lv_iload hx hb dX1_partOf_60 (lv_at hl 1 rfl) ?_
              refine va_mmin hx hb (hml.trans hl.1.symm) hown (hts (.methodLink RX1 42 Lib.Math.min.name) (by decide +kernel)) (hts (.static Lib.Math.min.name) (by decide +kernel)) (hts (.initialized "java/lang/Math") (by decide +kernel)) (hts (.code Lib.Math.min.name Lib.Math.min.code 2 (some .int)) (by decide +kernel)) (Nat.le_of_ble_eq_true rfl) (Nat.le_of_ble_eq_true rfl) (Nat.zero_le _) (Nat.zero_le _) dX1_partOf_62 ?_
              refine lv_istore_n (lv' := [(3, .int (if (f_X1_sumOfClass S o1 w37_4 x1) < w37_3 then (f_X1_sumOfClass S o1 w37_4 x1) else w37_3)), (2, .int (if w37_2 < (f_X1_sumOfClass S o1 w37_4 x1) then (f_X1_sumOfClass S o1 w37_4 x1) else w37_2)), (5, .int (f_X1_sumOfClass S o1 w37_4 x1)), (4, .int w37_4), (0, .ref o1), (1, .int x1)]) hx hb dX1_partOf_65 rfl hl (by decide) rfl (fun ls hl => ?_)
              refine lv_iinc (v := w37_4 + (1 : Int32)) (lv' := [(4, .int (w37_4 + (1 : Int32))), (3, .int (if (f_X1_sumOfClass S o1 w37_4 x1) < w37_3 then (f_X1_sumOfClass S o1 w37_4 x1) else w37_3)), (2, .int (if w37_2 < (f_X1_sumOfClass S o1 w37_4 x1) then (f_X1_sumOfClass S o1 w37_4 x1) else w37_2)), (5, .int (f_X1_sumOfClass S o1 w37_4 x1)), (0, .ref o1), (1, .int x1)]) hx hb dX1_partOf_66 hl (k := 3) rfl (by rfl) (by decide) rfl (fun ls hl => ?_)
              refine lv_goto (tgt := 37) hx hb dX1_partOf_69 (by decide) ?_
              have i19 : (w37_4 + (1 : Int32)).toInt = w37_4.toInt + 1 := t_addr (n := 1) rfl (by omega)
              exact ih37 (if w37_2 < (f_X1_sumOfClass S o1 w37_4 x1) then (f_X1_sumOfClass S o1 w37_4 x1) else w37_2) (if (f_X1_sumOfClass S o1 w37_4 x1) < w37_3 then (f_X1_sumOfClass S o1 w37_4 x1) else w37_3) (w37_4 + (1 : Int32)) _ _ _ (Nat.lt_of_lt_of_le (by omega) (Nat.le_of_lt_succ hm37)) (by omega) hP hS (lv_sub hl [0, 1, 2, 4, 5] rfl) (fun w37_2y w37_3y w37_4y H9 locs9 ls9 i9 P9 S9 l9 hfe => ko37 w37_2y w37_3y w37_4y H9 locs9 ls9 i9 P9 S9 l9 (Eq.trans (by rw [f_X1_partOf_L37_s, if_neg c15]) hfe))
        refine loop37 201 (f_X1_sumOfClass S o1 (0 : Int32) x1) (f_X1_sumOfClass S o1 (0 : Int32) x1) (1 : Int32) _ _ _ (by omega) (by omega) hP hS (lv_sub hl [0, 1, 2, 3, 4] rfl) (fun z21 z22 z23 H locs ls hi37 hP hS hl c20 => ?_)
        refine lv_iload_n hx hb dX1_partOf_72 rfl (lv_at hl 2 rfl) ?_
        refine lv_iload_n hx hb dX1_partOf_73 rfl (lv_at hl 1 rfl) ?_
        refine lv_isub hx hb dX1_partOf_74 ?_
        refine lv_i2l hx hb dX1_partOf_75 rfl ?_
        refine lv_iload_n hx hb dX1_partOf_76 rfl (lv_at hl 4 rfl) ?_
        refine lv_i2l hx hb dX1_partOf_77 rfl ?_
        refine lv_lmul hx hb dX1_partOf_78 ?_
        refine lv_aload_n hx hb dX1_partOf_79 rfl (lv_at hl 3 rfl) ?_
        obtain ⟨k24, gk24, hk24⟩ := wGt (cy := cy) X S h_o1.1 h_o1.2.1
        simp only [kE, F2.1] at hk24
        refine va_get (D := D) (ci := 5) (v := .ref (S.f o1 0)) (C := RX1) (T := TX1) (N := 3) hx hb hts hi_X1_partOf_X1 hown hK hP k24 hk24 rfl 0 (by decide) (hts (.fieldLink RX1 7 "Hobhouse$Chart" "errors" "[I") (by decide +kernel)) (fun _ h9 => h9) rfl dX1_partOf_80 ?_
        obtain ⟨k25, gk25, hk25⟩ := wGt (cy := cy) X S F2.2.1.1 F2.2.1.2.1
        refine va_alen (D := D) (cl := vwCl) (tys := tyL cy) hx hb hK hP k25 2 hk25 rfl (v := nI (S.n (S.f o1 0))) rfl dX1_partOf_83 ?_
        refine lv_i2l hx hb dX1_partOf_84 rfl ?_
        refine lv_ldiv hx hb dX1_partOf_85 (nz_l (by omega)) ?_
        refine lv_l2i hx hb dX1_partOf_86 rfl ?_
        refine W.widen (k := 0) (n := 0) (Nat.le_of_ble_eq_true rfl) (Nat.le_of_ble_eq_true rfl) ?_
        exact W.iret (v := ((((z21 - z22).toInt64) * x1.toInt64) / ((nI (S.n (S.f o1 0))).toInt64)).toInt32) hx hb hr (fun t ht hW9 => ⟨⟨((((z21 - z22).toInt64) * x1.toInt64) / ((nI (S.n (S.f o1 0))).toInt64)).toInt32, (), rfl, (by show (((((z21 - z22).toInt64) * x1.toInt64) / ((nI (S.n (S.f o1 0))).toInt64)).toInt32) = f_X1_partOf S o1 x1; unfold f_X1_partOf; rw [if_neg c1, if_neg c8, if_pos c11, l3_eq c20]), wd_end hP hK hD ht hW9.alike⟩, hS.F ht⟩) hS.2.2 dX1_partOf_87 hlocks
      · have c11i : ¬ ((nI (S.n (S.f o1 0))) - (nI (S.n (S.f o1 0))) / x1 * x1).toInt = 0 := neq_v rfl rfl c11
        refine lv_iconst (v := 0) hx hb dX1_partOf_23 (by decide) ?_
        refine W.widen (k := 0) (n := 0) (Nat.le_of_ble_eq_true rfl) (Nat.le_of_ble_eq_true rfl) ?_
        exact W.iret (v := (0 : Int32)) hx hb hr (fun t ht hW9 => ⟨⟨(0 : Int32), (), rfl, (by show (0 : Int32) = f_X1_partOf S o1 x1; unfold f_X1_partOf; rw [if_neg c1, if_neg c8, if_neg c11]), wd_end hP hK hD ht hW9.alike⟩, hS.F ht⟩) hS.2.2 dX1_partOf_24 hlocks
def f_X1_measure_L19 (S : wPS) (o1 : Nat) : Nat → wPS → Int64 → Int64 → Int64 → Int32 → wPS × Int64 × Int64 × Int64 × Int32
  | 0, S19_, w19_3, w19_5, w19_7, w19_9 => (S19_, w19_3, w19_5, w19_7, w19_9)
  | n + 1, S19_, w19_3, w19_5, w19_7, w19_9 => if (nI (S.n (S.f o1 0))) ≤ w19_9 then (S19_, w19_3, w19_5, w19_7, w19_9) else l1 (S19_.si (S.f o1 1) (upd (S19_.i (S.f o1 1)) w19_9.toNatClampNeg ((((((nI (S.n (S.f o1 0))).toInt64) * w19_3) - (w19_9.toInt64 * ((f_X1_sumOfClass S o1 (0 : Int32) (1 : Int32)).toInt64))) / ((nI (S.n (S.f o1 0))).toInt64)).toInt32))) (fun S19 => l1 (S19.sI o1 2 ((((if ((((nI (S.n (S.f o1 0))).toInt64) * w19_3) - (w19_9.toInt64 * ((f_X1_sumOfClass S o1 (0 : Int32) (1 : Int32)).toInt64))) < w19_5 then w19_5 else ((((nI (S.n (S.f o1 0))).toInt64) * w19_3) - (w19_9.toInt64 * ((f_X1_sumOfClass S o1 (0 : Int32) (1 : Int32)).toInt64)))) - (if ((((nI (S.n (S.f o1 0))).toInt64) * w19_3) - (w19_9.toInt64 * ((f_X1_sumOfClass S o1 (0 : Int32) (1 : Int32)).toInt64))) < w19_7 then ((((nI (S.n (S.f o1 0))).toInt64) * w19_3) - (w19_9.toInt64 * ((f_X1_sumOfClass S o1 (0 : Int32) (1 : Int32)).toInt64))) else w19_7)) / ((nI (S.n (S.f o1 0))).toInt64)).toInt32)) (fun S25 => f_X1_measure_L19 S o1 n S25 (w19_3 + ((S25.i (S.f o1 0) w19_9.toNatClampNeg).toInt64)) (if ((((nI (S.n (S.f o1 0))).toInt64) * w19_3) - (w19_9.toInt64 * ((f_X1_sumOfClass S o1 (0 : Int32) (1 : Int32)).toInt64))) < w19_5 then w19_5 else ((((nI (S.n (S.f o1 0))).toInt64) * w19_3) - (w19_9.toInt64 * ((f_X1_sumOfClass S o1 (0 : Int32) (1 : Int32)).toInt64)))) (if ((((nI (S.n (S.f o1 0))).toInt64) * w19_3) - (w19_9.toInt64 * ((f_X1_sumOfClass S o1 (0 : Int32) (1 : Int32)).toInt64))) < w19_7 then ((((nI (S.n (S.f o1 0))).toInt64) * w19_3) - (w19_9.toInt64 * ((f_X1_sumOfClass S o1 (0 : Int32) (1 : Int32)).toInt64))) else w19_7) (w19_9 + (1 : Int32))))
theorem f_X1_measure_L19_s (S : wPS) (o1 : Nat) (n : Nat) (S19_ : wPS) (w19_3 : Int64) (w19_5 : Int64) (w19_7 : Int64) (w19_9 : Int32) : f_X1_measure_L19 S o1 (n + 1) S19_ w19_3 w19_5 w19_7 w19_9 = if (nI (S.n (S.f o1 0))) ≤ w19_9 then (S19_, w19_3, w19_5, w19_7, w19_9) else l1 (S19_.si (S.f o1 1) (upd (S19_.i (S.f o1 1)) w19_9.toNatClampNeg ((((((nI (S.n (S.f o1 0))).toInt64) * w19_3) - (w19_9.toInt64 * ((f_X1_sumOfClass S o1 (0 : Int32) (1 : Int32)).toInt64))) / ((nI (S.n (S.f o1 0))).toInt64)).toInt32))) (fun S19 => l1 (S19.sI o1 2 ((((if ((((nI (S.n (S.f o1 0))).toInt64) * w19_3) - (w19_9.toInt64 * ((f_X1_sumOfClass S o1 (0 : Int32) (1 : Int32)).toInt64))) < w19_5 then w19_5 else ((((nI (S.n (S.f o1 0))).toInt64) * w19_3) - (w19_9.toInt64 * ((f_X1_sumOfClass S o1 (0 : Int32) (1 : Int32)).toInt64)))) - (if ((((nI (S.n (S.f o1 0))).toInt64) * w19_3) - (w19_9.toInt64 * ((f_X1_sumOfClass S o1 (0 : Int32) (1 : Int32)).toInt64))) < w19_7 then ((((nI (S.n (S.f o1 0))).toInt64) * w19_3) - (w19_9.toInt64 * ((f_X1_sumOfClass S o1 (0 : Int32) (1 : Int32)).toInt64))) else w19_7)) / ((nI (S.n (S.f o1 0))).toInt64)).toInt32)) (fun S25 => f_X1_measure_L19 S o1 n S25 (w19_3 + ((S25.i (S.f o1 0) w19_9.toNatClampNeg).toInt64)) (if ((((nI (S.n (S.f o1 0))).toInt64) * w19_3) - (w19_9.toInt64 * ((f_X1_sumOfClass S o1 (0 : Int32) (1 : Int32)).toInt64))) < w19_5 then w19_5 else ((((nI (S.n (S.f o1 0))).toInt64) * w19_3) - (w19_9.toInt64 * ((f_X1_sumOfClass S o1 (0 : Int32) (1 : Int32)).toInt64)))) (if ((((nI (S.n (S.f o1 0))).toInt64) * w19_3) - (w19_9.toInt64 * ((f_X1_sumOfClass S o1 (0 : Int32) (1 : Int32)).toInt64))) < w19_7 then ((((nI (S.n (S.f o1 0))).toInt64) * w19_3) - (w19_9.toInt64 * ((f_X1_sumOfClass S o1 (0 : Int32) (1 : Int32)).toInt64))) else w19_7) (w19_9 + (1 : Int32)))) := rfl
def f_X1_measure (S : wPS) (o1 : Nat) : wPS := l5 (f_X1_measure_L19 S o1 201 S (0 : Int64) (0 : Int64) (0 : Int64) (0 : Int32)) (fun S33 z34 z35 z36 z37 => S33)
theorem hi_X1_measure_X1 : ∀ w ∈ u_ws RX1 TX1 3, w ∈ wsX1_measure := by decide +kernel
theorem hd_X1_measure : yX1_measure.cls = RX1 ∧ yX1_measure.cls ≠ "java/lang/invoke/MethodHandle" ∧ yX1_measure.cls ≠ "java/lang/invoke/VarHandle" ∧ (parseMethodDescriptor yX1_measure.desc).map (fun d => d.parameters.length) = some 0 := by decide +kernel
set_option maxHeartbeats 4000000 in
set_option maxRecDepth 100000 in
theorem c_X1_measure (l : Launch) {D : va_G} {cy : Nat → ClassId} {X : va_W} (S : wPS) (sz : Nat) (o1 : Nat) (h_o1 : isA S o1 1) (hW : wtB S [])  : Met l yX1_measure wsX1_measure ({ frames := 1, cells := 0, slots := 0, locals := 24 }) (va_Pc [.ref o1] (fun U => U.heap.size = sz ∧ WD D cy X (fun _ => True) S U ∧ NW U)) (va_Qv (fun (u : wPS) => u = f_X1_measure S o1 ∧ stp [(1, 2), (26, 100)] [] [] S u) (fun u t => WD D cy X (va_A (X ++ PL cy S) sz) u t) (va_A (X ++ PL cy S) sz)) 0 0 (va_A (X ++ PL cy S) sz) := by
  refine Met.ofW (cc := cX1_measure) (maxL := 12) (ret := none) (by decide) rfl ?_
  intro p e s m args below meth c s₁ B hml hv
  obtain ⟨rfl, hsz, ⟨hP, hK, hD0⟩, hN⟩ := hv
  have hx := B.exec
  have hb := B.bytes
  have hr := B.returns
  have hts := atoms_spec (ws := wsX1_measure) B.pre
  have hown : s.vm.findClass RX1 = some m.cls := findClass_of_methodNamed (x := yX1_measure) B.named
  have hlocks := B.notSynchronized
  subst hsz
  have hD := hD0.self (sz := s.heap.size)
  generalize hAe : va_A (X ++ PL cy S) s.heap.size = A at hD ⊢
  have hA : ∀ q : Nat, s.heap.size ≤ q → A q := fun q h => by rw [← hAe]; exact Or.inr h
  have hS : va_S A s.heap s.heap [] := va_S.rf
  have hl := lv_entry ([.ref o1]) (n := 12) (Nat.le_of_ble_eq_true rfl)
  rw [lg_entry_eq]
  generalize (lg_sl ([.ref o1]) ++ List.replicate (12 - (lg_sl ([.ref o1])).length) Slot.unset).toArray = ls at hl ⊢
  have hl : lv_has ls 12 [(0, .ref o1)] := hl
  have t0 : stp [(1, 2), (26, 100)] [] [] S S := stp.rf hW
  refine lv_aload_n hx hb dX1_measure_0 rfl (lv_at hl 0 rfl) ?_
  refine lv_iconst (v := 0) hx hb dX1_measure_1 (by decide) ?_
  refine lv_iconst (v := 1) hx hb dX1_measure_2 (by decide) ?_
  have l32_0 : (0 : Int32).toInt = 0 := rfl
  have l32_1 : (1 : Int32).toInt = 1 := rfl
  have hFc := free_all hD hS hA
  obtain ⟨k1, gk1, hk1⟩ := wGt (cy := cy) X S h_o1.1 h_o1.2.1
  refine va_calli (va_runV (As := [.int (0 : Int32), .int (1 : Int32)]) (rest := []) ⟨hx, hb, hml, hown, hts⟩ (c_X1_sumOfClass l (cy := cy) (X := X) (D := D) S _ o1 h_o1 (0 : Int32) (1 : Int32) (hW) (by omega) (by omega)) (cwV 2 hts gX1_measure_X1_sumOfClass rfl rfl rfl hd_X1_sumOfClass ⟨Nat.le_of_ble_eq_true rfl, Nat.le_of_ble_eq_true rfl⟩) (pV (va_recv hK hP (q := (RX1, TX1, 3)) (ci := 5) (q0 := k1) rfl hk1) hP hK hD hN) rfl rfl hl.1 rfl (lv_room (Nat.le_of_ble_eq_true rfl)) dX1_measure_3 ⟨(Nat.zero_le _), (Nat.zero_le _)⟩) hS (fun q _ h => hFc q h) hFc (fun r2 u t H1 locs ht hvm hw hB hz1 hk1 hS => ?_)
  have c3 := hw
  obtain ⟨hP, hD⟩ := wd_post hFc ht hB
  generalize H1 = H at hP hS ⊢
  obtain rfl : f_X1_sumOfClass S o1 (0 : Int32) (1 : Int32) = r2 := c3.symm
  refine lv_i2l hx hb dX1_measure_6 rfl ?_
  refine lv_lstore_n (lv' := [(1, .long ((f_X1_sumOfClass S o1 (0 : Int32) (1 : Int32)).toInt64)), (0, .ref o1)]) hx hb dX1_measure_7 rfl hl (by decide) rfl (fun ls hl => ?_)
  refine lv_lconst (v := 0) hx hb dX1_measure_8 (by decide) ?_
  refine lv_lstore_n (lv' := [(3, .long (0 : Int64)), (1, .long ((f_X1_sumOfClass S o1 (0 : Int32) (1 : Int32)).toInt64)), (0, .ref o1)]) hx hb dX1_measure_9 rfl hl (by decide) rfl (fun ls hl => ?_)
  refine lv_lconst (v := 0) hx hb dX1_measure_10 (by decide) ?_
  refine lv_lstore (lv' := [(5, .long (0 : Int64)), (3, .long (0 : Int64)), (1, .long ((f_X1_sumOfClass S o1 (0 : Int32) (1 : Int32)).toInt64)), (0, .ref o1)]) hx hb dX1_measure_11 hl (by decide) rfl (fun ls hl => ?_)
  refine lv_lconst (v := 0) hx hb dX1_measure_13 (by decide) ?_
  refine lv_lstore (lv' := [(7, .long (0 : Int64)), (5, .long (0 : Int64)), (3, .long (0 : Int64)), (1, .long ((f_X1_sumOfClass S o1 (0 : Int32) (1 : Int32)).toInt64)), (0, .ref o1)]) hx hb dX1_measure_14 hl (by decide) rfl (fun ls hl => ?_)
  refine lv_iconst (v := 0) hx hb dX1_measure_16 (by decide) ?_
  refine lv_istore (lv' := [(9, .int (0 : Int32)), (7, .long (0 : Int64)), (5, .long (0 : Int64)), (3, .long (0 : Int64)), (1, .long ((f_X1_sumOfClass S o1 (0 : Int32) (1 : Int32)).toInt64)), (0, .ref o1)]) hx hb dX1_measure_17 hl (by decide) rfl (fun ls hl => ?_)
  have loop19 : ∀ (n : Nat) (S19_ : wPS) (w19_3 : Int64) (w19_5 : Int64) (w19_7 : Int64) (w19_9 : Int32) (H : Heap) (locs : List Loc) (ls : Array Slot), (200 - w19_9.toInt).toNat < n → 0 ≤ w19_9.toInt ∧ w19_9.toInt ≤ 200 → stp [(1, 2), (26, 100)] [] [] S S19_ → va_P D vwCl (X ++ PL cy S19_) H → va_D A (X ++ PL cy S19_) → va_S A s.heap H locs → lv_has ls 12 [(9, .int w19_9), (7, .long w19_7), (5, .long w19_5), (3, .long w19_3), (1, .long ((f_X1_sumOfClass S o1 (0 : Int32) (1 : Int32)).toInt64)), (0, .ref o1)] → (∀ (S19_x : wPS) (w19_3x : Int64) (w19_5x : Int64) (w19_7x : Int64) (w19_9x : Int32) (H : Heap) (locs : List Loc) (ls : Array Slot), 0 ≤ w19_9x.toInt ∧ w19_9x.toInt ≤ 200 → stp [(1, 2), (26, 100)] [] [] S S19_x → va_P D vwCl (X ++ PL cy S19_x) H → va_D A (X ++ PL cy S19_x) → va_S A s.heap H locs → lv_has ls 12 [(9, .int w19_9x), (7, .long w19_7x), (5, .long w19_5x), (3, .long w19_3x), (1, .long ((f_X1_sumOfClass S o1 (0 : Int32) (1 : Int32)).toInt64)), (0, .ref o1)] → f_X1_measure_L19 S o1 n S19_ w19_3 w19_5 w19_7 w19_9 = (S19_x, w19_3x, w19_5x, w19_7x, w19_9x) → W p l e (headSpec wsX1_measure ({ frames := 1, cells := 0, slots := 0, locals := 24 } : Room)).room s m [.ref o1].toArray below meth c H locs 0 0 (MQ below (va_Qv (fun (u : wPS) => u = f_X1_measure S o1 ∧ stp [(1, 2), (26, 100)] [] [] S u) (fun u t => WD D cy X A u t) A) [.ref o1].toArray s 0 0 A) (F0 m 114 ls [])) → W p l e (headSpec wsX1_measure ({ frames := 1, cells := 0, slots := 0, locals := 24 } : Room)).room s m [.ref o1].toArray below meth c H locs 0 0 (MQ below (va_Qv (fun (u : wPS) => u = f_X1_measure S o1 ∧ stp [(1, 2), (26, 100)] [] [] S u) (fun u t => WD D cy X A u t) A) [.ref o1].toArray s 0 0 A) (F0 m 19 ls []) := by
    intro n19
    induction n19 with
    | zero => intro S19_ w19_3 w19_5 w19_7 w19_9 H locs ls hm; exact absurd hm (Nat.not_lt_zero _)
    | succ n19 ih19 =>
      intro S19_ w19_3 w19_5 w19_7 w19_9 H locs ls hm19 hi19 hsh19 hP hD hS hl ko19
      refine lv_iload hx hb dX1_measure_19 (lv_at hl 0 rfl) ?_
      refine lv_aload_n hx hb dX1_measure_21 rfl (lv_at hl 5 rfl) ?_
      have F4 := ((hW.at h_o1 List.not_mem_nil).to_1 h_o1.2.1).F0
      obtain ⟨k5, gk5, hk5⟩ := wGt (cy := cy) X S19_ (hsh19.x.A h_o1).1 (hsh19.x.A h_o1).2.1
      simp only [kE, (hsh19.x.F h_o1 (by decide) F4.1)] at hk5
      refine va_get (D := D) (ci := 5) (v := .ref (S.f o1 0)) (C := RX1) (T := TX1) (N := 3) hx hb hts hi_X1_measure_X1 hown hK hP k5 hk5 rfl 0 (by decide) (hts (.fieldLink RX1 7 "Hobhouse$Chart" "errors" "[I") (by decide +kernel)) (fun _ h9 => h9) rfl dX1_measure_22 ?_
      obtain ⟨k6, gk6, hk6⟩ := wGt (cy := cy) X S19_ (hsh19.x.A F4.2.1).1 (hsh19.x.A F4.2.1).2.1
      have i7 : (nI (S.n (S.f o1 0))).toInt = ((S.n (S.f o1 0) : Nat) : Int) := nI_toInt F4.2.1.2.2
      have i8 := F4.2.1.2.2
      have i9 := F4.2.2
      refine va_alen (D := D) (cl := vwCl) (tys := tyL cy) hx hb hK hP k6 2 hk6 rfl (v := nI (S.n (S.f o1 0))) (by rw [(hsh19.x.n F4.2.1)]; rfl) dX1_measure_25 ?_
      refine lv_icmp_ge (tgt := 114) hx hb dX1_measure_26 (by decide) (fun c10 => ?_) (fun c10 => ?_)
      · have c10i : (nI (S.n (S.f o1 0))).toInt ≤ w19_9.toInt := le_v rfl rfl c10
        exact ko19 S19_ w19_3 w19_5 w19_7 w19_9 _ _ _ (by omega) hsh19 hP hD hS (lv_sub hl [0, 1, 2, 3, 4, 5] rfl) (by rw [f_X1_measure_L19_s, if_pos c10])
      · have c10i : w19_9.toInt < (nI (S.n (S.f o1 0))).toInt := nle_v rfl rfl c10
        refine lv_aload_n hx hb dX1_measure_29 rfl (lv_at hl 5 rfl) ?_
        obtain ⟨k11, gk11, hk11⟩ := wGt (cy := cy) X S19_ (hsh19.x.A h_o1).1 (hsh19.x.A h_o1).2.1
        simp only [kE, (hsh19.x.F h_o1 (by decide) F4.1)] at hk11
        refine va_get (D := D) (ci := 5) (v := .ref (S.f o1 0)) (C := RX1) (T := TX1) (N := 3) hx hb hts hi_X1_measure_X1 hown hK hP k11 hk11 rfl 0 (by decide) (hts (.fieldLink RX1 7 "Hobhouse$Chart" "errors" "[I") (by decide +kernel)) (fun _ h9 => h9) rfl dX1_measure_30 ?_
        obtain ⟨k12, gk12, hk12⟩ := wGt (cy := cy) X S19_ (hsh19.x.A F4.2.1).1 (hsh19.x.A F4.2.1).2.1
        refine va_alen (D := D) (cl := vwCl) (tys := tyL cy) hx hb hK hP k12 2 hk12 rfl (v := nI (S.n (S.f o1 0))) (by rw [(hsh19.x.n F4.2.1)]; rfl) dX1_measure_33 ?_
        refine lv_i2l hx hb dX1_measure_34 rfl ?_
        refine lv_lload_n hx hb dX1_measure_35 rfl (lv_at hl 3 rfl) ?_
        refine lv_lmul hx hb dX1_measure_36 ?_
        refine lv_iload hx hb dX1_measure_37 (lv_at hl 0 rfl) ?_
        refine lv_i2l hx hb dX1_measure_39 rfl ?_
        refine lv_lload_n hx hb dX1_measure_40 rfl (lv_at hl 4 rfl) ?_
        refine lv_lmul hx hb dX1_measure_41 ?_
        refine lv_lsub hx hb dX1_measure_42 ?_
        refine lv_lstore (lv' := [(10, .long ((((nI (S.n (S.f o1 0))).toInt64) * w19_3) - (w19_9.toInt64 * ((f_X1_sumOfClass S o1 (0 : Int32) (1 : Int32)).toInt64)))), (9, .int w19_9), (7, .long w19_7), (5, .long w19_5), (3, .long w19_3), (1, .long ((f_X1_sumOfClass S o1 (0 : Int32) (1 : Int32)).toInt64)), (0, .ref o1)]) hx hb dX1_measure_43 hl (by decide) rfl (fun ls hl => ?_)
        refine lv_lload hx hb dX1_measure_45 (lv_at hl 3 rfl) ?_
        refine lv_lload hx hb dX1_measure_47 (lv_at hl 0 rfl) ?_
        refine va_mmax_long hx hb (hml.trans hl.1.symm) hown (hts (.methodLink RX1 23 Lib.MathLoose.max_long.x) (by decide +kernel)) (hts (.static Lib.MathLoose.max_long.x) (by decide +kernel)) (hts (.initialized "java/lang/Math") (by decide +kernel)) (hts (.code Lib.MathLoose.max_long.x Lib.MathLoose.max_long.code 4 (some .long)) (by decide +kernel)) (Nat.le_of_ble_eq_true rfl) (Nat.le_of_ble_eq_true rfl) (Nat.zero_le _) (Nat.zero_le _) dX1_measure_49 ?_
        refine lv_lstore (lv' := [(5, .long (if ((((nI (S.n (S.f o1 0))).toInt64) * w19_3) - (w19_9.toInt64 * ((f_X1_sumOfClass S o1 (0 : Int32) (1 : Int32)).toInt64))) < w19_5 then w19_5 else ((((nI (S.n (S.f o1 0))).toInt64) * w19_3) - (w19_9.toInt64 * ((f_X1_sumOfClass S o1 (0 : Int32) (1 : Int32)).toInt64))))), (10, .long ((((nI (S.n (S.f o1 0))).toInt64) * w19_3) - (w19_9.toInt64 * ((f_X1_sumOfClass S o1 (0 : Int32) (1 : Int32)).toInt64)))), (9, .int w19_9), (7, .long w19_7), (3, .long w19_3), (1, .long ((f_X1_sumOfClass S o1 (0 : Int32) (1 : Int32)).toInt64)), (0, .ref o1)]) hx hb dX1_measure_52 hl (by decide) rfl (fun ls hl => ?_)
        refine lv_lload hx hb dX1_measure_54 (lv_at hl 3 rfl) ?_
        refine lv_lload hx hb dX1_measure_56 (lv_at hl 1 rfl) ?_
        refine va_mmin_long hx hb (hml.trans hl.1.symm) hown (hts (.methodLink RX1 29 Lib.MathLoose.min_long.x) (by decide +kernel)) (hts (.static Lib.MathLoose.min_long.x) (by decide +kernel)) (hts (.initialized "java/lang/Math") (by decide +kernel)) (hts (.code Lib.MathLoose.min_long.x Lib.MathLoose.min_long.code 4 (some .long)) (by decide +kernel)) (Nat.le_of_ble_eq_true rfl) (Nat.le_of_ble_eq_true rfl) (Nat.zero_le _) (Nat.zero_le _) dX1_measure_58 ?_
        refine lv_lstore (lv' := [(7, .long (if ((((nI (S.n (S.f o1 0))).toInt64) * w19_3) - (w19_9.toInt64 * ((f_X1_sumOfClass S o1 (0 : Int32) (1 : Int32)).toInt64))) < w19_7 then ((((nI (S.n (S.f o1 0))).toInt64) * w19_3) - (w19_9.toInt64 * ((f_X1_sumOfClass S o1 (0 : Int32) (1 : Int32)).toInt64))) else w19_7)), (5, .long (if ((((nI (S.n (S.f o1 0))).toInt64) * w19_3) - (w19_9.toInt64 * ((f_X1_sumOfClass S o1 (0 : Int32) (1 : Int32)).toInt64))) < w19_5 then w19_5 else ((((nI (S.n (S.f o1 0))).toInt64) * w19_3) - (w19_9.toInt64 * ((f_X1_sumOfClass S o1 (0 : Int32) (1 : Int32)).toInt64))))), (10, .long ((((nI (S.n (S.f o1 0))).toInt64) * w19_3) - (w19_9.toInt64 * ((f_X1_sumOfClass S o1 (0 : Int32) (1 : Int32)).toInt64)))), (9, .int w19_9), (3, .long w19_3), (1, .long ((f_X1_sumOfClass S o1 (0 : Int32) (1 : Int32)).toInt64)), (0, .ref o1)]) hx hb dX1_measure_61 hl (by decide) rfl (fun ls hl => ?_)
        refine lv_aload_n hx hb dX1_measure_63 rfl (lv_at hl 6 rfl) ?_
        have F13 := ((hW.at h_o1 List.not_mem_nil).to_1 h_o1.2.1).F1
        obtain ⟨k14, gk14, hk14⟩ := wGt (cy := cy) X S19_ (hsh19.x.A h_o1).1 (hsh19.x.A h_o1).2.1
        simp only [kE, (hsh19.x.F h_o1 (by decide) F13.1)] at hk14
        refine va_get (D := D) (ci := 5) (v := .ref (S.f o1 1)) (C := RX1) (T := TX1) (N := 3) hx hb hts hi_X1_measure_X1 hown hK hP k14 hk14 rfl 1 (by decide) (hts (.fieldLink RX1 13 "Hobhouse$Chart" "stands" "[I") (by decide +kernel)) (fun _ h9 => h9) rfl dX1_measure_64 ?_
        refine lv_iload hx hb dX1_measure_67 (lv_at hl 3 rfl) ?_
        refine lv_lload hx hb dX1_measure_69 (lv_at hl 2 rfl) ?_
        refine lv_aload_n hx hb dX1_measure_71 rfl (lv_at hl 6 rfl) ?_
        obtain ⟨k15, gk15, hk15⟩ := wGt (cy := cy) X S19_ (hsh19.x.A h_o1).1 (hsh19.x.A h_o1).2.1
        simp only [kE, (hsh19.x.F h_o1 (by decide) F4.1)] at hk15
        refine va_get (D := D) (ci := 5) (v := .ref (S.f o1 0)) (C := RX1) (T := TX1) (N := 3) hx hb hts hi_X1_measure_X1 hown hK hP k15 hk15 rfl 0 (by decide) (hts (.fieldLink RX1 7 "Hobhouse$Chart" "errors" "[I") (by decide +kernel)) (fun _ h9 => h9) rfl dX1_measure_72 ?_
        obtain ⟨k16, gk16, hk16⟩ := wGt (cy := cy) X S19_ (hsh19.x.A F4.2.1).1 (hsh19.x.A F4.2.1).2.1
        refine va_alen (D := D) (cl := vwCl) (tys := tyL cy) hx hb hK hP k16 2 hk16 rfl (v := nI (S.n (S.f o1 0))) (by rw [(hsh19.x.n F4.2.1)]; rfl) dX1_measure_75 ?_
        refine lv_i2l hx hb dX1_measure_76 rfl ?_
        refine lv_ldiv hx hb dX1_measure_77 (nz_l (by omega)) ?_
        refine lv_l2i hx hb dX1_measure_78 rfl ?_
        have i17 := F13.2.2
        obtain ⟨k18, gk18, hk18⟩ := wGt (cy := cy) X S19_ (hsh19.x.A F13.2.1).1 (hsh19.x.A F13.2.1).2.1
        refine va_iast hx hb hK hP hD hS k18 2 hk18 rfl (inb (m := S.n (S.f o1 1)) (hsh19.x.n F13.2.1) (by omega) (by omega)) dX1_measure_79 (fun H locs hP2 hD2 hS => ?_)
        have e9 := wPui (cy := cy) (f := (upd (S19_.i (S.f o1 1)) w19_9.toNatClampNeg ((((((nI (S.n (S.f o1 0))).toInt64) * w19_3) - (w19_9.toInt64 * ((f_X1_sumOfClass S o1 (0 : Int32) (1 : Int32)).toInt64))) / ((nI (S.n (S.f o1 0))).toInt64)).toInt32))) hD (hsh19.x.A F13.2.1).1 (hsh19.x.A F13.2.1).2.1 gk18 rfl
        obtain ⟨S19, hS19⟩ : ∃ z, S19_.si (S.f o1 1) (upd (S19_.i (S.f o1 1)) w19_9.toNatClampNeg ((((((nI (S.n (S.f o1 0))).toInt64) * w19_3) - (w19_9.toInt64 * ((f_X1_sumOfClass S o1 (0 : Int32) (1 : Int32)).toInt64))) / ((nI (S.n (S.f o1 0))).toInt64)).toInt32)) = z := ⟨_, rfl⟩
        have hP : va_P D vwCl (X ++ PL cy S19) H := by rw [← hS19, ← e9]; exact hP2
        have hD : va_D A (X ++ PL cy S19) := by rw [← hS19, ← e9]; exact hD2
        have xe20 : ext S19_ S19 := by rw [← hS19]; exact ext.si _ _ _
        have t21 : stp [(1, 2), (26, 100)] [] [] S S19 := by rw [← hS19]; exact hsh19.i (upd (S19_.i (S.f o1 1)) w19_9.toNatClampNeg ((((((nI (S.n (S.f o1 0))).toInt64) * w19_3) - (w19_9.toInt64 * ((f_X1_sumOfClass S o1 (0 : Int32) (1 : Int32)).toInt64))) / ((nI (S.n (S.f o1 0))).toInt64)).toInt32)) (hsh19.x.A F13.2.1) (by decide)
        refine lv_aload_n hx hb dX1_measure_80 rfl (lv_at hl 6 rfl) ?_
        refine lv_lload hx hb dX1_measure_81 (lv_at hl 1 rfl) ?_
        refine lv_lload hx hb dX1_measure_83 (lv_at hl 0 rfl) ?_
        refine lv_lsub hx hb dX1_measure_85 ?_
        refine lv_aload_n hx hb dX1_measure_86 rfl (lv_at hl 6 rfl) ?_
        obtain ⟨k22, gk22, hk22⟩ := wGt (cy := cy) X S19 (xe20.A (hsh19.x.A h_o1)).1 (xe20.A (hsh19.x.A h_o1)).2.1
        simp only [kE, ((hsh19.x.tr xe20).F h_o1 (by decide) F4.1)] at hk22
        refine va_get (D := D) (ci := 5) (v := .ref (S.f o1 0)) (C := RX1) (T := TX1) (N := 3) hx hb hts hi_X1_measure_X1 hown hK hP k22 hk22 rfl 0 (by decide) (hts (.fieldLink RX1 7 "Hobhouse$Chart" "errors" "[I") (by decide +kernel)) (fun _ h9 => h9) rfl dX1_measure_87 ?_
        obtain ⟨k23, gk23, hk23⟩ := wGt (cy := cy) X S19 (xe20.A (hsh19.x.A F4.2.1)).1 (xe20.A (hsh19.x.A F4.2.1)).2.1
        refine va_alen (D := D) (cl := vwCl) (tys := tyL cy) hx hb hK hP k23 2 hk23 rfl (v := nI (S.n (S.f o1 0))) (by rw [((hsh19.x.tr xe20).n F4.2.1)]; rfl) dX1_measure_90 ?_
        refine lv_i2l hx hb dX1_measure_91 rfl ?_
        refine lv_ldiv hx hb dX1_measure_92 (nz_l (by omega)) ?_
        refine lv_l2i hx hb dX1_measure_93 rfl ?_
        obtain ⟨k24, gk24, hk24⟩ := wGt (cy := cy) X S19 (xe20.A (hsh19.x.A h_o1)).1 (xe20.A (hsh19.x.A h_o1)).2.1
        refine va_put (D := D) (ci := 5) (v := .int ((((if ((((nI (S.n (S.f o1 0))).toInt64) * w19_3) - (w19_9.toInt64 * ((f_X1_sumOfClass S o1 (0 : Int32) (1 : Int32)).toInt64))) < w19_5 then w19_5 else ((((nI (S.n (S.f o1 0))).toInt64) * w19_3) - (w19_9.toInt64 * ((f_X1_sumOfClass S o1 (0 : Int32) (1 : Int32)).toInt64)))) - (if ((((nI (S.n (S.f o1 0))).toInt64) * w19_3) - (w19_9.toInt64 * ((f_X1_sumOfClass S o1 (0 : Int32) (1 : Int32)).toInt64))) < w19_7 then ((((nI (S.n (S.f o1 0))).toInt64) * w19_3) - (w19_9.toInt64 * ((f_X1_sumOfClass S o1 (0 : Int32) (1 : Int32)).toInt64))) else w19_7)) / ((nI (S.n (S.f o1 0))).toInt64)).toInt32)) (ty := .int) (C := RX1) (T := TX1) (N := 3) hx hb hts hi_X1_measure_X1 tyX1 tyX1_ok nmX1 hown hK hP hD hS k24 hk24 rfl 2 (by decide) (hts (.fieldLink RX1 32 "Hobhouse$Chart" "spread" "I") (by decide +kernel)) (fun _ h9 => h9) rfl (by decide +kernel) (rfl) (rfl) (Nat.le_of_ble_eq_true rfl) dX1_measure_94 (fun H locs hP2 hD2 hS => ?_)
        have e9 := wPuI (cy := cy) (j := 2) (v := ((((if ((((nI (S.n (S.f o1 0))).toInt64) * w19_3) - (w19_9.toInt64 * ((f_X1_sumOfClass S o1 (0 : Int32) (1 : Int32)).toInt64))) < w19_5 then w19_5 else ((((nI (S.n (S.f o1 0))).toInt64) * w19_3) - (w19_9.toInt64 * ((f_X1_sumOfClass S o1 (0 : Int32) (1 : Int32)).toInt64)))) - (if ((((nI (S.n (S.f o1 0))).toInt64) * w19_3) - (w19_9.toInt64 * ((f_X1_sumOfClass S o1 (0 : Int32) (1 : Int32)).toInt64))) < w19_7 then ((((nI (S.n (S.f o1 0))).toInt64) * w19_3) - (w19_9.toInt64 * ((f_X1_sumOfClass S o1 (0 : Int32) (1 : Int32)).toInt64))) else w19_7)) / ((nI (S.n (S.f o1 0))).toInt64)).toInt32)) hD (xe20.A (hsh19.x.A h_o1)).1 (xe20.A (hsh19.x.A h_o1)).2.1 gk24 rfl
        obtain ⟨S25, hS25⟩ : ∃ z, S19.sI o1 2 ((((if ((((nI (S.n (S.f o1 0))).toInt64) * w19_3) - (w19_9.toInt64 * ((f_X1_sumOfClass S o1 (0 : Int32) (1 : Int32)).toInt64))) < w19_5 then w19_5 else ((((nI (S.n (S.f o1 0))).toInt64) * w19_3) - (w19_9.toInt64 * ((f_X1_sumOfClass S o1 (0 : Int32) (1 : Int32)).toInt64)))) - (if ((((nI (S.n (S.f o1 0))).toInt64) * w19_3) - (w19_9.toInt64 * ((f_X1_sumOfClass S o1 (0 : Int32) (1 : Int32)).toInt64))) < w19_7 then ((((nI (S.n (S.f o1 0))).toInt64) * w19_3) - (w19_9.toInt64 * ((f_X1_sumOfClass S o1 (0 : Int32) (1 : Int32)).toInt64))) else w19_7)) / ((nI (S.n (S.f o1 0))).toInt64)).toInt32) = z := ⟨_, rfl⟩
        have hP : va_P D vwCl (X ++ PL cy S25) H := by rw [← hS25, ← e9]; exact hP2
        have hD : va_D A (X ++ PL cy S25) := by rw [← hS25, ← e9]; exact hD2
        have xe26 : ext S19 S25 := by rw [← hS25]; exact ext.sI _ _ _ _
        have t27 : stp [(1, 2), (26, 100)] [] [] S S25 := by rw [← hS25]; exact t21.I 2 ((((if ((((nI (S.n (S.f o1 0))).toInt64) * w19_3) - (w19_9.toInt64 * ((f_X1_sumOfClass S o1 (0 : Int32) (1 : Int32)).toInt64))) < w19_5 then w19_5 else ((((nI (S.n (S.f o1 0))).toInt64) * w19_3) - (w19_9.toInt64 * ((f_X1_sumOfClass S o1 (0 : Int32) (1 : Int32)).toInt64)))) - (if ((((nI (S.n (S.f o1 0))).toInt64) * w19_3) - (w19_9.toInt64 * ((f_X1_sumOfClass S o1 (0 : Int32) (1 : Int32)).toInt64))) < w19_7 then ((((nI (S.n (S.f o1 0))).toInt64) * w19_3) - (w19_9.toInt64 * ((f_X1_sumOfClass S o1 (0 : Int32) (1 : Int32)).toInt64))) else w19_7)) / ((nI (S.n (S.f o1 0))).toInt64)).toInt32) (xe20.A (hsh19.x.A h_o1)) (by decide) (trivial) (Or.inl (by decide))
        refine lv_lload_n hx hb dX1_measure_97 rfl (lv_at hl 4 rfl) ?_
        refine lv_aload_n hx hb dX1_measure_98 rfl (lv_at hl 6 rfl) ?_
        obtain ⟨k28, gk28, hk28⟩ := wGt (cy := cy) X S25 (xe26.A (xe20.A (hsh19.x.A h_o1))).1 (xe26.A (xe20.A (hsh19.x.A h_o1))).2.1
        simp only [kE, ((hsh19.x.tr (xe20.tr xe26)).F h_o1 (by decide) F4.1)] at hk28
        refine va_get (D := D) (ci := 5) (v := .ref (S.f o1 0)) (C := RX1) (T := TX1) (N := 3) hx hb hts hi_X1_measure_X1 hown hK hP k28 hk28 rfl 0 (by decide) (hts (.fieldLink RX1 7 "Hobhouse$Chart" "errors" "[I") (by decide +kernel)) (fun _ h9 => h9) rfl dX1_measure_99 ?_
        refine lv_iload hx hb dX1_measure_102 (lv_at hl 3 rfl) ?_
        have i29 := F4.2.2
        obtain ⟨k30, gk30, hk30⟩ := wGt (cy := cy) X S25 (xe26.A (xe20.A (hsh19.x.A F4.2.1))).1 (xe26.A (xe20.A (hsh19.x.A F4.2.1))).2.1
        refine va_iald hx hb hK hP k30 2 hk30 rfl (inb (m := S.n (S.f o1 0)) ((hsh19.x.tr (xe20.tr xe26)).n F4.2.1) (by omega) (by omega)) dX1_measure_104 ?_
        refine lv_i2l hx hb dX1_measure_105 rfl ?_
        refine lv_ladd hx hb dX1_measure_106 ?_
        refine lv_lstore_n (lv' := [(3, .long (w19_3 + ((S25.i (S.f o1 0) w19_9.toNatClampNeg).toInt64))), (7, .long (if ((((nI (S.n (S.f o1 0))).toInt64) * w19_3) - (w19_9.toInt64 * ((f_X1_sumOfClass S o1 (0 : Int32) (1 : Int32)).toInt64))) < w19_7 then ((((nI (S.n (S.f o1 0))).toInt64) * w19_3) - (w19_9.toInt64 * ((f_X1_sumOfClass S o1 (0 : Int32) (1 : Int32)).toInt64))) else w19_7)), (5, .long (if ((((nI (S.n (S.f o1 0))).toInt64) * w19_3) - (w19_9.toInt64 * ((f_X1_sumOfClass S o1 (0 : Int32) (1 : Int32)).toInt64))) < w19_5 then w19_5 else ((((nI (S.n (S.f o1 0))).toInt64) * w19_3) - (w19_9.toInt64 * ((f_X1_sumOfClass S o1 (0 : Int32) (1 : Int32)).toInt64))))), (10, .long ((((nI (S.n (S.f o1 0))).toInt64) * w19_3) - (w19_9.toInt64 * ((f_X1_sumOfClass S o1 (0 : Int32) (1 : Int32)).toInt64)))), (9, .int w19_9), (1, .long ((f_X1_sumOfClass S o1 (0 : Int32) (1 : Int32)).toInt64)), (0, .ref o1)]) hx hb dX1_measure_107 rfl hl (by decide) rfl (fun ls hl => ?_)
        refine lv_iinc (v := w19_9 + (1 : Int32)) (lv' := [(9, .int (w19_9 + (1 : Int32))), (3, .long (w19_3 + ((S25.i (S.f o1 0) w19_9.toNatClampNeg).toInt64))), (7, .long (if ((((nI (S.n (S.f o1 0))).toInt64) * w19_3) - (w19_9.toInt64 * ((f_X1_sumOfClass S o1 (0 : Int32) (1 : Int32)).toInt64))) < w19_7 then ((((nI (S.n (S.f o1 0))).toInt64) * w19_3) - (w19_9.toInt64 * ((f_X1_sumOfClass S o1 (0 : Int32) (1 : Int32)).toInt64))) else w19_7)), (5, .long (if ((((nI (S.n (S.f o1 0))).toInt64) * w19_3) - (w19_9.toInt64 * ((f_X1_sumOfClass S o1 (0 : Int32) (1 : Int32)).toInt64))) < w19_5 then w19_5 else ((((nI (S.n (S.f o1 0))).toInt64) * w19_3) - (w19_9.toInt64 * ((f_X1_sumOfClass S o1 (0 : Int32) (1 : Int32)).toInt64))))), (10, .long ((((nI (S.n (S.f o1 0))).toInt64) * w19_3) - (w19_9.toInt64 * ((f_X1_sumOfClass S o1 (0 : Int32) (1 : Int32)).toInt64)))), (1, .long ((f_X1_sumOfClass S o1 (0 : Int32) (1 : Int32)).toInt64)), (0, .ref o1)]) hx hb dX1_measure_108 hl (k := 4) rfl (by rfl) (by decide) rfl (fun ls hl => ?_)
        refine lv_goto (tgt := 19) hx hb dX1_measure_111 (by decide) ?_
        have i31 : (w19_9 + (1 : Int32)).toInt = w19_9.toInt + 1 := t_addr (n := 1) rfl (by omega)
        exact ih19 S25 (w19_3 + ((S25.i (S.f o1 0) w19_9.toNatClampNeg).toInt64)) (if ((((nI (S.n (S.f o1 0))).toInt64) * w19_3) - (w19_9.toInt64 * ((f_X1_sumOfClass S o1 (0 : Int32) (1 : Int32)).toInt64))) < w19_5 then w19_5 else ((((nI (S.n (S.f o1 0))).toInt64) * w19_3) - (w19_9.toInt64 * ((f_X1_sumOfClass S o1 (0 : Int32) (1 : Int32)).toInt64)))) (if ((((nI (S.n (S.f o1 0))).toInt64) * w19_3) - (w19_9.toInt64 * ((f_X1_sumOfClass S o1 (0 : Int32) (1 : Int32)).toInt64))) < w19_7 then ((((nI (S.n (S.f o1 0))).toInt64) * w19_3) - (w19_9.toInt64 * ((f_X1_sumOfClass S o1 (0 : Int32) (1 : Int32)).toInt64))) else w19_7) (w19_9 + (1 : Int32)) _ _ _ (Nat.lt_of_lt_of_le (by omega) (Nat.le_of_lt_succ hm19)) (by omega) t27 hP hD hS (lv_sub hl [0, 2, 3, 1, 5, 6] rfl) (fun S19_y w19_3y w19_5y w19_7y w19_9y H9 locs9 ls9 i9 sh9 P9 D9 S9 l9 hfe => ko19 S19_y w19_3y w19_5y w19_7y w19_9y H9 locs9 ls9 i9 sh9 P9 D9 S9 l9 (Eq.trans (by rw [f_X1_measure_L19_s, if_neg c10, l1_eq hS19, l1_eq hS25]) hfe))
  refine loop19 201 S (0 : Int64) (0 : Int64) (0 : Int64) (0 : Int32) _ _ _ (by omega) (by omega) (stp.rf hW) hP hD hS (lv_sub hl [0, 1, 2, 3, 4, 5] rfl) (fun S33 z34 z35 z36 z37 H locs ls hi19 hsh19 hP hD hS hl c32 => ?_)
  have t38 : stp [(1, 2), (26, 100)] [] [] S S33 := t0.tr hsh19 (fun _ q => q) (fun _ q => Or.inl q)
  have et38 := hsh19.x
  refine W.widen (k := 0) (n := 0) (Nat.le_of_ble_eq_true rfl) (Nat.le_of_ble_eq_true rfl) ?_
  exact W.vret hx hb hr (fun t ht hW9 => ⟨⟨S33, rfl, ⟨(by show S33 = f_X1_measure S o1; unfold f_X1_measure; rw [l5_eq c32]), t38⟩, wd_end hP hK hD ht hW9.alike⟩, hS.F ht⟩) hS.2.2 dX1_measure_114 hlocks
def f_X1_tell (S : wPS) (o1 : Nat) (x1 : Int32) (x2 : Int32) : (Int32 × wPS) := if x1 < (0 : Int32) then ((0 : Int32), S) else if x1 < (nI (S.n (S.f o1 0))) then l1 (S.si (S.f o1 0) (upd (S.i (S.f o1 0)) x1.toNatClampNeg x2)) (fun S14 => l1 (f_X1_measure S14 o1) (fun S21 => (S.i (S.f o1 0) x1.toNatClampNeg, S21))) else ((0 : Int32), S)
theorem hi_X1_tell_X1 : ∀ w ∈ u_ws RX1 TX1 3, w ∈ wsX1_tell := by decide +kernel
theorem hd_X1_tell : yX1_tell.cls = RX1 ∧ yX1_tell.cls ≠ "java/lang/invoke/MethodHandle" ∧ yX1_tell.cls ≠ "java/lang/invoke/VarHandle" ∧ (parseMethodDescriptor yX1_tell.desc).map (fun d => d.parameters.length) = some 2 := by decide +kernel
set_option maxHeartbeats 4000000 in
set_option maxRecDepth 100000 in
theorem c_X1_tell (l : Launch) {D : va_G} {cy : Nat → ClassId} {X : va_W} (S : wPS) (sz : Nat) (o1 : Nat) (h_o1 : isA S o1 1) (x1 : Int32) (x2 : Int32) (hW : wtB S [])  : Met l yX1_tell wsX1_tell ({ frames := 2, cells := 0, slots := 0, locals := 55 }) (va_Pc [.ref o1, .int x1, .int x2] (fun U => U.heap.size = sz ∧ WD D cy X (fun _ => True) S U ∧ NW U)) (va_Qi (fun r (u : wPS) => (r, u) = f_X1_tell S o1 x1 x2 ∧ stp [(1, 2), (25, 100), (26, 100)] [] [] S u) (fun u t => WD D cy X (va_A (X ++ PL cy S) sz) u t) (va_A (X ++ PL cy S) sz)) 0 0 (va_A (X ++ PL cy S) sz) := by
  refine Met.ofW (cc := cX1_tell) (maxL := 4) (ret := (some .int)) (by decide) rfl ?_
  intro p e s m args below meth c s₁ B hml hv
  obtain ⟨rfl, hsz, ⟨hP, hK, hD0⟩, hN⟩ := hv
  have hx := B.exec
  have hb := B.bytes
  have hr := B.returns
  have hts := atoms_spec (ws := wsX1_tell) B.pre
  have hown : s.vm.findClass RX1 = some m.cls := findClass_of_methodNamed (x := yX1_tell) B.named
  have hlocks := B.notSynchronized
  subst hsz
  have hD := hD0.self (sz := s.heap.size)
  generalize hAe : va_A (X ++ PL cy S) s.heap.size = A at hD ⊢
  have hA : ∀ q : Nat, s.heap.size ≤ q → A q := fun q h => by rw [← hAe]; exact Or.inr h
  have hS : va_S A s.heap s.heap [] := va_S.rf
  have hl := lv_entry ([.ref o1, .int x1, .int x2]) (n := 4) (Nat.le_of_ble_eq_true rfl)
  rw [lg_entry_eq]
  generalize (lg_sl ([.ref o1, .int x1, .int x2]) ++ List.replicate (4 - (lg_sl ([.ref o1, .int x1, .int x2])).length) Slot.unset).toArray = ls at hl ⊢
  have hl : lv_has ls 4 [(0, .ref o1), (1, .int x1), (2, .int x2)] := hl
  have t0 : stp [(1, 2), (25, 100), (26, 100)] [] [] S S := stp.rf hW
  refine lv_iload_n hx hb dX1_tell_0 rfl (lv_at hl 1 rfl) ?_
  refine lv_if_lt (tgt := 13) hx hb dX1_tell_1 (by decide) (fun c1 => ?_) (fun c1 => ?_)
  · have c1i : x1.toInt < 0 := lt_v rfl rfl c1
    refine lv_iconst (v := 0) hx hb dX1_tell_13 (by decide) ?_
    refine W.widen (k := 0) (n := 0) (Nat.le_of_ble_eq_true rfl) (Nat.le_of_ble_eq_true rfl) ?_
    exact W.iret (v := (0 : Int32)) hx hb hr (fun t ht hW9 => ⟨⟨(0 : Int32), S, rfl, ⟨(by show ((0 : Int32), S) = f_X1_tell S o1 x1 x2; unfold f_X1_tell; rw [if_pos c1]), t0⟩, wd_end hP hK hD ht hW9.alike⟩, hS.F ht⟩) hS.2.2 dX1_tell_14 hlocks
  · have c1i : 0 ≤ x1.toInt := nlt_v rfl rfl c1
    refine lv_iload_n hx hb dX1_tell_4 rfl (lv_at hl 1 rfl) ?_
    refine lv_aload_n hx hb dX1_tell_5 rfl (lv_at hl 0 rfl) ?_
    have F2 := ((hW.at h_o1 List.not_mem_nil).to_1 h_o1.2.1).F0
    obtain ⟨k3, gk3, hk3⟩ := wGt (cy := cy) X S h_o1.1 h_o1.2.1
    simp only [kE, F2.1] at hk3
    refine va_get (D := D) (ci := 5) (v := .ref (S.f o1 0)) (C := RX1) (T := TX1) (N := 3) hx hb hts hi_X1_tell_X1 hown hK hP k3 hk3 rfl 0 (by decide) (hts (.fieldLink RX1 7 "Hobhouse$Chart" "errors" "[I") (by decide +kernel)) (fun _ h9 => h9) rfl dX1_tell_6 ?_
    obtain ⟨k4, gk4, hk4⟩ := wGt (cy := cy) X S F2.2.1.1 F2.2.1.2.1
    have i5 : (nI (S.n (S.f o1 0))).toInt = ((S.n (S.f o1 0) : Nat) : Int) := nI_toInt F2.2.1.2.2
    have i6 := F2.2.1.2.2
    have i7 := F2.2.2
    refine va_alen (D := D) (cl := vwCl) (tys := tyL cy) hx hb hK hP k4 2 hk4 rfl (v := nI (S.n (S.f o1 0))) rfl dX1_tell_9 ?_
    refine lv_icmp_lt (tgt := 15) hx hb dX1_tell_10 (by decide) (fun c8 => ?_) (fun c8 => ?_)
    · have c8i : x1.toInt < (nI (S.n (S.f o1 0))).toInt := lt_v rfl rfl c8
      refine lv_aload_n hx hb dX1_tell_15 rfl (lv_at hl 0 rfl) ?_
      obtain ⟨k9, gk9, hk9⟩ := wGt (cy := cy) X S h_o1.1 h_o1.2.1
      simp only [kE, F2.1] at hk9
      refine va_get (D := D) (ci := 5) (v := .ref (S.f o1 0)) (C := RX1) (T := TX1) (N := 3) hx hb hts hi_X1_tell_X1 hown hK hP k9 hk9 rfl 0 (by decide) (hts (.fieldLink RX1 7 "Hobhouse$Chart" "errors" "[I") (by decide +kernel)) (fun _ h9 => h9) rfl dX1_tell_16 ?_
      refine lv_iload_n hx hb dX1_tell_19 rfl (lv_at hl 1 rfl) ?_
      have i10 := F2.2.2
      obtain ⟨k11, gk11, hk11⟩ := wGt (cy := cy) X S F2.2.1.1 F2.2.1.2.1
      refine va_iald hx hb hK hP k11 2 hk11 rfl (inb (m := S.n (S.f o1 0)) rfl (by omega) (by omega)) dX1_tell_20 ?_
      refine lv_istore_n (lv' := [(3, .int (S.i (S.f o1 0) x1.toNatClampNeg)), (0, .ref o1), (1, .int x1), (2, .int x2)]) hx hb dX1_tell_21 rfl hl (by decide) rfl (fun ls hl => ?_)
      refine lv_aload_n hx hb dX1_tell_22 rfl (lv_at hl 1 rfl) ?_
      obtain ⟨k12, gk12, hk12⟩ := wGt (cy := cy) X S h_o1.1 h_o1.2.1
      simp only [kE, F2.1] at hk12
      refine va_get (D := D) (ci := 5) (v := .ref (S.f o1 0)) (C := RX1) (T := TX1) (N := 3) hx hb hts hi_X1_tell_X1 hown hK hP k12 hk12 rfl 0 (by decide) (hts (.fieldLink RX1 7 "Hobhouse$Chart" "errors" "[I") (by decide +kernel)) (fun _ h9 => h9) rfl dX1_tell_23 ?_
      refine lv_iload_n hx hb dX1_tell_26 rfl (lv_at hl 2 rfl) ?_
      refine lv_iload_n hx hb dX1_tell_27 rfl (lv_at hl 3 rfl) ?_
      obtain ⟨k13, gk13, hk13⟩ := wGt (cy := cy) X S F2.2.1.1 F2.2.1.2.1
      refine va_iast hx hb hK hP hD hS k13 2 hk13 rfl (inb (m := S.n (S.f o1 0)) rfl (by omega) (by omega)) dX1_tell_28 (fun H locs hP2 hD2 hS => ?_)
      have e9 := wPui (cy := cy) (f := (upd (S.i (S.f o1 0)) x1.toNatClampNeg x2)) hD F2.2.1.1 F2.2.1.2.1 gk13 rfl
      obtain ⟨S14, hS14⟩ : ∃ z, S.si (S.f o1 0) (upd (S.i (S.f o1 0)) x1.toNatClampNeg x2) = z := ⟨_, rfl⟩
      have hP : va_P D vwCl (X ++ PL cy S14) H := by rw [← hS14, ← e9]; exact hP2
      have hD : va_D A (X ++ PL cy S14) := by rw [← hS14, ← e9]; exact hD2
      have xe15 : ext S S14 := by rw [← hS14]; exact ext.si _ _ _
      have t16 : stp [(1, 2), (25, 100), (26, 100)] [] [] S S14 := by rw [← hS14]; exact t0.i (upd (S.i (S.f o1 0)) x1.toNatClampNeg x2) F2.2.1 (by decide)
      refine lv_aload_n hx hb dX1_tell_29 rfl (lv_at hl 1 rfl) ?_
      have hFc := free_all hD hS hA
      obtain ⟨k17, gk17, hk17⟩ := wGt (cy := cy) X S14 (xe15.A h_o1).1 (xe15.A h_o1).2.1
      refine va_callv (va_runV (As := []) (rest := []) ⟨hx, hb, hml, hown, hts⟩ (c_X1_measure l (cy := cy) (X := X) (D := D) S14 _ o1 (xe15.A h_o1) (t16.w)) (cwV 0 hts gX1_tell_X1_measure rfl rfl rfl hd_X1_measure ⟨Nat.le_of_ble_eq_true rfl, Nat.le_of_ble_eq_true rfl⟩) (pV (va_recv hK hP (q := (RX1, TX1, 3)) (ci := 5) (q0 := k17) rfl hk17) hP hK hD hN) rfl rfl hl.1 rfl (lv_room (Nat.le_of_ble_eq_true rfl)) dX1_tell_30 ⟨(Nat.zero_le _), (Nat.zero_le _)⟩) hS (fun q _ h => hFc q h) hFc (fun u t H1 locs ht hvm hw hB hz1 hk1 hS => ?_)
      obtain ⟨c19, w20⟩ := hw
      obtain ⟨hP, hD⟩ := wd_post hFc ht hB
      generalize H1 = H at hP hS ⊢
      obtain ⟨S21, rfl⟩ : ∃ z, z = u := ⟨_, rfl⟩
      have t22 : stp [(1, 2), (25, 100), (26, 100)] [] [] S S21 := t16.tr w20 (by decide) (fun _ q => absurd q List.not_mem_nil)
      have xe23 : ext S14 S21 := w20.x
      refine lv_iload_n hx hb dX1_tell_33 rfl (lv_at hl 0 rfl) ?_
      refine W.widen (k := 0) (n := 0) (Nat.le_of_ble_eq_true rfl) (Nat.le_of_ble_eq_true rfl) ?_
      exact W.iret (v := S.i (S.f o1 0) x1.toNatClampNeg) hx hb hr (fun t ht hW9 => ⟨⟨S.i (S.f o1 0) x1.toNatClampNeg, S21, rfl, ⟨(by show (S.i (S.f o1 0) x1.toNatClampNeg, S21) = f_X1_tell S o1 x1 x2; unfold f_X1_tell; rw [if_neg c1, if_pos c8, l1_eq hS14, l1_eq c19.symm]), t22⟩, wd_end hP hK hD ht hW9.alike⟩, hS.F ht⟩) hS.2.2 dX1_tell_34 hlocks
    · have c8i : (nI (S.n (S.f o1 0))).toInt ≤ x1.toInt := nlt_v rfl rfl c8
      refine lv_iconst (v := 0) hx hb dX1_tell_13 (by decide) ?_
      refine W.widen (k := 0) (n := 0) (Nat.le_of_ble_eq_true rfl) (Nat.le_of_ble_eq_true rfl) ?_
      exact W.iret (v := (0 : Int32)) hx hb hr (fun t ht hW9 => ⟨⟨(0 : Int32), S, rfl, ⟨(by show ((0 : Int32), S) = f_X1_tell S o1 x1 x2; unfold f_X1_tell; rw [if_neg c1, if_neg c8]), t0⟩, wd_end hP hK hD ht hW9.alike⟩, hS.F ht⟩) hS.2.2 dX1_tell_14 hlocks
