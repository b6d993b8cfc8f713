def f_X9_gradeOf_L2 (x1 : Int32) : Nat → Int32 → Int32
  | 0, w2_1 => w2_1
  | n + 1, w2_1 => if (13 : Int32) ≤ w2_1 then w2_1 else if x1 ≤ (gradesF w2_1.toNatClampNeg) then w2_1 else f_X9_gradeOf_L2 x1 n (w2_1 + (1 : Int32))
theorem f_X9_gradeOf_L2_s (x1 : Int32) (n : Nat) (w2_1 : Int32) : f_X9_gradeOf_L2 x1 (n + 1) w2_1 = if (13 : Int32) ≤ w2_1 then w2_1 else if x1 ≤ (gradesF w2_1.toNatClampNeg) then w2_1 else f_X9_gradeOf_L2 x1 n (w2_1 + (1 : Int32)) := rfl
def f_X9_gradeOf (x1 : Int32) : Int32 := l1 (f_X9_gradeOf_L2 x1 21 (0 : Int32)) (fun z5 => z5)
theorem hd_X9_gradeOf : yX9_gradeOf.cls = RX9 ∧ yX9_gradeOf.cls ≠ "java/lang/invoke/MethodHandle" ∧ yX9_gradeOf.cls ≠ "java/lang/invoke/VarHandle" ∧ (parseMethodDescriptor yX9_gradeOf.desc).map (fun d => d.parameters.length) = some 1 := by decide +kernel
set_option maxHeartbeats 4000000 in
set_option maxRecDepth 100000 in
theorem c_X9_gradeOf (l : Launch) {e0 mi : Nat} {D : va_G} {cy : Nat → ClassId} {X : va_W} (S : wPS) (sz : Nat) (x1 : Int32)  : Met l yX9_gradeOf wsX9_gradeOf ({ frames := 0, cells := 0, slots := 0, locals := 0 }) (va_Pc [.int x1] (fun U => U.heap.size = sz ∧ WD D cy X (fun _ => True) S U ∧ NW U ∧ OU e0 mi (va_A (X ++ PL cy S) sz) U U.heap)) (va_Qi (fun r (_ : Unit) => r = f_X9_gradeOf x1 ∧ 0 ≤ r.toInt ∧ r.toInt ≤ 13) (fun _ t => WD D cy X (va_A (X ++ PL cy S) sz) S t) (va_A (X ++ PL cy S) sz)) 0 0 (va_A (X ++ PL cy S) sz) := by
  refine Met.ofW (cc := cX9_gradeOf) (maxL := 2) (ret := (some .int)) (by decide) rfl ?_
  intro p e s m args below meth c s₁ B hml hv
  obtain ⟨rfl, hsz, ⟨hP, hK, hD0⟩, hN, hOU⟩ := hv
  have hx := B.exec
  have hb := B.bytes
  have hr := B.returns
  have hts := atoms_spec (ws := wsX9_gradeOf) B.pre
  have hown : s.vm.findClass RX9 = some m.cls := findClass_of_methodNamed (x := yX9_gradeOf) B.named
  have hlocks := B.notSynchronized
  subst hsz
  have hD := hD0.self (sz := s.heap.size)
  generalize hAe : va_A (X ++ PL cy S) s.heap.size = A at hD hOU ⊢
  have hA : ∀ q : Nat, s.heap.size ≤ q → A q := fun q h => by rw [← hAe]; exact Or.inr h
  have hS : va_S A s.heap s.heap [] := va_S.rf
  have hl := lv_entry ([.int x1]) (n := 2) (Nat.le_of_ble_eq_true rfl)
  rw [lg_entry_eq]
  generalize (lg_sl ([.int x1]) ++ List.replicate (2 - (lg_sl ([.int x1])).length) Slot.unset).toArray = ls at hl ⊢
  have hl : lv_has ls 2 [(0, .int x1)] := hl
  obtain ⟨⟨ga, gZ, gX, gl, gA⟩, ⟨sa9, sZ, sX, sl9, sA⟩, cZ, eZ, eX, el, eA, hMi, hDc, ⟨pf, pZ⟩⟩ := id hOU
  refine lv_iconst (v := 0) hx hb dX9_gradeOf_0 (by decide) ?_
  refine lv_istore_n (lv' := [(1, .int (0 : Int32)), (0, .int x1)]) hx hb dX9_gradeOf_1 rfl hl (by decide) rfl (fun ls hl => ?_)
  have l32_0 : (0 : Int32).toInt = 0 := rfl
  have loop2 : ∀ (n : Nat) (w2_1 : Int32) (H : Heap) (locs : List Loc) (ls : Array Slot), (20 - w2_1.toInt).toNat < n → 0 ≤ w2_1.toInt ∧ w2_1.toInt ≤ 13 → va_P D vwCl (X ++ PL cy S) H → va_S A s.heap H locs → lv_has ls 2 [(1, .int w2_1), (0, .int x1)] → (∀ (w2_1x : Int32) (H : Heap) (locs : List Loc) (ls : Array Slot), 0 ≤ w2_1x.toInt ∧ w2_1x.toInt ≤ 13 → va_P D vwCl (X ++ PL cy S) H → va_S A s.heap H locs → lv_has ls 2 [(1, .int w2_1x), (0, .int x1)] → f_X9_gradeOf_L2 x1 n w2_1 = w2_1x → W p l e (headSpec wsX9_gradeOf ({ frames := 0, cells := 0, slots := 0, locals := 0 } : Room)).room s m [.int x1].toArray below meth c H locs 0 0 (MQ below (va_Qi (fun r (_ : Unit) => r = f_X9_gradeOf x1 ∧ 0 ≤ r.toInt ∧ r.toInt ≤ 13) (fun _ t => WD D cy X A S t) A) [.int x1].toArray s 0 0 A) (F0 m 25 ls [])) → W p l e (headSpec wsX9_gradeOf ({ frames := 0, cells := 0, slots := 0, locals := 0 } : Room)).room s m [.int x1].toArray below meth c H locs 0 0 (MQ below (va_Qi (fun r (_ : Unit) => r = f_X9_gradeOf x1 ∧ 0 ≤ r.toInt ∧ r.toInt ≤ 13) (fun _ t => WD D cy X A S t) A) [.int x1].toArray s 0 0 A) (F0 m 2 ls []) := by
    intro n2
    induction n2 with
    | zero => intro w2_1 H locs ls hm; exact absurd hm (Nat.not_lt_zero _)
    | succ n2 ih2 =>
      intro w2_1 H locs ls hm2 hi2 hP hS hl ko2
      refine lv_iload_n hx hb dX9_gradeOf_2 rfl (lv_at hl 0 rfl) ?_
      refine va_gets hx hb gZ hS hown (hts (.fieldLink RX9 544 "Hobhouse" "GRADES" "[I") (by decide +kernel)) (fun _ h9 => h9) dX9_gradeOf_3 ?_
      refine va_slen hx hb gX gl gA hS dX9_gradeOf_6 ?_
      refine W.eq (g2 := F0 m 7 ls [.int (13 : Int32), .int w2_1]) rfl ?_
      refine lv_icmp_ge (tgt := 25) hx hb dX9_gradeOf_7 (by decide) (fun c1 => ?_) (fun c1 => ?_)
      · have c1i : 13 ≤ w2_1.toInt := le_v rfl rfl c1
        exact ko2 w2_1 _ _ _ (by omega) hP hS (lv_sub hl [0, 1] rfl) (by rw [f_X9_gradeOf_L2_s, if_pos c1])
      · have c1i : w2_1.toInt < 13 := nle_v rfl rfl c1
        refine va_gets hx hb gZ hS hown (hts (.fieldLink RX9 544 "Hobhouse" "GRADES" "[I") (by decide +kernel)) (fun _ h9 => h9) dX9_gradeOf_10 ?_
        refine lv_iload_n hx hb dX9_gradeOf_13 rfl (lv_at hl 0 rfl) ?_
        refine va_sld hx hb gX gl gA hS (inb (m := 13) rfl (by omega) (by omega)) dX9_gradeOf_14 ?_
        refine lv_iload_n hx hb dX9_gradeOf_15 rfl (lv_at hl 1 rfl) ?_
        refine lv_icmp_ge (tgt := 25) hx hb dX9_gradeOf_16 (by decide) (fun c2 => ?_) (fun c2 => ?_)
        · have c2i : x1.toInt ≤ (gradesF w2_1.toNatClampNeg).toInt := le_v rfl rfl c2
          exact ko2 w2_1 _ _ _ (by omega) hP hS (lv_sub hl [0, 1] rfl) (by rw [f_X9_gradeOf_L2_s, if_neg c1, if_pos c2])
        · have c2i : (gradesF w2_1.toNatClampNeg).toInt < x1.toInt := nle_v rfl rfl c2
          refine lv_iinc (v := w2_1 + (1 : Int32)) (lv' := [(1, .int (w2_1 + (1 : Int32))), (0, .int x1)]) hx hb dX9_gradeOf_19 hl (k := 0) rfl (by rfl) (by decide) rfl (fun ls hl => ?_)
          refine lv_goto (tgt := 2) hx hb dX9_gradeOf_22 (by decide) ?_
          have l32_1 : (1 : Int32).toInt = 1 := rfl
          have i3 : (w2_1 + (1 : Int32)).toInt = w2_1.toInt + 1 := t_addr (n := 1) rfl (by omega)
          exact ih2 (w2_1 + (1 : Int32)) _ _ _ (Nat.lt_of_lt_of_le (by omega) (Nat.le_of_lt_succ hm2)) (by omega) hP hS (lv_sub hl [0, 1] rfl) (fun w2_1y H9 locs9 ls9 i9 P9 S9 l9 hfe => ko2 w2_1y H9 locs9 ls9 i9 P9 S9 l9 (Eq.trans (by rw [f_X9_gradeOf_L2_s, if_neg c1, if_neg c2]) hfe))
  refine loop2 21 (0 : Int32) _ _ _ (by omega) (by omega) hP hS (lv_sub hl [0, 1] rfl) (fun z5 H locs ls hi2 hP hS hl c4 => ?_)
  refine lv_iload_n hx hb dX9_gradeOf_25 rfl (lv_at hl 0 rfl) ?_
  refine W.widen (k := 0) (n := 0) (Nat.le_of_ble_eq_true rfl) (Nat.le_of_ble_eq_true rfl) ?_
  exact W.iret (v := z5) hx hb hr (fun t ht hW9 => ⟨⟨z5, (), rfl, ⟨(by show z5 = f_X9_gradeOf x1; unfold f_X9_gradeOf; rw [l1_eq c4]), (by omega)⟩, wd_end hP hK hD ht hW9.alike⟩, hS.F ht⟩) hS.2.2 dX9_gradeOf_26 hlocks
def f_X2_worstGrade (S : wPS) (o1 : Nat) : Int32 := (if (if (f_X9_gradeOf (f_X1_worstPitch S (S.f o1 5))) < (f_X9_gradeOf ((S.I (S.f o1 5) 2) / (4 : Int32))) then (f_X9_gradeOf ((S.I (S.f o1 5) 2) / (4 : Int32))) else (f_X9_gradeOf (f_X1_worstPitch S (S.f o1 5)))) < (f_X9_gradeOf ((2 : Int32) * (S.I o1 11))) then (f_X9_gradeOf ((2 : Int32) * (S.I o1 11))) else (if (f_X9_gradeOf (f_X1_worstPitch S (S.f o1 5))) < (f_X9_gradeOf ((S.I (S.f o1 5) 2) / (4 : Int32))) then (f_X9_gradeOf ((S.I (S.f o1 5) 2) / (4 : Int32))) else (f_X9_gradeOf (f_X1_worstPitch S (S.f o1 5)))))
theorem hi_X2_worstGrade_X1 : ∀ w ∈ u_ws RX1 TX1 3, w ∈ wsX2_worstGrade := by decide +kernel
theorem hi_X2_worstGrade_X2 : ∀ w ∈ u_ws RX2 TX2 20, w ∈ wsX2_worstGrade := by decide +kernel
theorem hd_X2_worstGrade : yX2_worstGrade.cls = RX2 ∧ yX2_worstGrade.cls ≠ "java/lang/invoke/MethodHandle" ∧ yX2_worstGrade.cls ≠ "java/lang/invoke/VarHandle" ∧ (parseMethodDescriptor yX2_worstGrade.desc).map (fun d => d.parameters.length) = some 0 := by decide +kernel
set_option maxHeartbeats 4000000 in
set_option maxRecDepth 100000 in
theorem c_X2_worstGrade (l : Launch) {e0 mi : Nat} {D : va_G} {cy : Nat → ClassId} {X : va_W} (S : wPS) (sz : Nat) (o1 : Nat) (h_o1 : isA S o1 2) (hW : wtB S [])  : Met l yX2_worstGrade wsX2_worstGrade ({ frames := 2, cells := 0, slots := 0, locals := 39 }) (va_Pc [.ref o1] (fun U => U.heap.size = sz ∧ WD D cy X (fun _ => True) S U ∧ NW U ∧ OU e0 mi (va_A (X ++ PL cy S) sz) U U.heap)) (va_Qi (fun r (_ : Unit) => r = f_X2_worstGrade S o1 ∧ 0 ≤ r.toInt ∧ r.toInt ≤ 13) (fun _ t => WD D cy X (va_A (X ++ PL cy S) sz) S t) (va_A (X ++ PL cy S) sz)) 0 0 (va_A (X ++ PL cy S) sz) := by
  refine Met.ofW (cc := cX2_worstGrade) (maxL := 2) (ret := (some .int)) (by decide) rfl ?_
  intro p e s m args below meth c s₁ B hml hv
  obtain ⟨rfl, hsz, ⟨hP, hK, hD0⟩, hN, hOU⟩ := hv
  have hx := B.exec
  have hb := B.bytes
  have hr := B.returns
  have hts := atoms_spec (ws := wsX2_worstGrade) B.pre
  have hown : s.vm.findClass RX2 = some m.cls := findClass_of_methodNamed (x := yX2_worstGrade) B.named
  have hlocks := B.notSynchronized
  subst hsz
  have hD := hD0.self (sz := s.heap.size)
  generalize hAe : va_A (X ++ PL cy S) s.heap.size = A at hD hOU ⊢
  have hA : ∀ q : Nat, s.heap.size ≤ q → A q := fun q h => by rw [← hAe]; exact Or.inr h
  have hS : va_S A s.heap s.heap [] := va_S.rf
  have hl := lv_entry ([.ref o1]) (n := 2) (Nat.le_of_ble_eq_true rfl)
  rw [lg_entry_eq]
  generalize (lg_sl ([.ref o1]) ++ List.replicate (2 - (lg_sl ([.ref o1])).length) Slot.unset).toArray = ls at hl ⊢
  have hl : lv_has ls 2 [(0, .ref o1)] := hl
  obtain ⟨⟨ga, gZ, gX, gl, gA⟩, ⟨sa9, sZ, sX, sl9, sA⟩, cZ, eZ, eX, el, eA, hMi, hDc, ⟨pf, pZ⟩⟩ := id hOU
  refine lv_aload_n hx hb dX2_worstGrade_0 rfl (lv_at hl 0 rfl) ?_
  have F1 := ((hW.at h_o1 List.not_mem_nil).to_2 h_o1.2.1).F5
  obtain ⟨k2, gk2, hk2⟩ := wGt (cy := cy) X S h_o1.1 h_o1.2.1
  simp only [kE, F1.1] at hk2
  refine va_get (D := D) (ci := 6) (v := .ref (S.f o1 5)) (C := RX2) (T := TX2) (N := 20) hx hb hts hi_X2_worstGrade_X2 hown hK hP k2 hk2 rfl 5 (by decide) (hts (.fieldLink RX2 32 "Hobhouse$Gear" "chart" "LHobhouse$Chart;") (by decide +kernel)) (fun _ h9 => h9) rfl dX2_worstGrade_1 ?_
  have hFc := free_all hD hS hA
  obtain ⟨k3, gk3, hk3⟩ := wGt (cy := cy) X S F1.2.1 F1.2.2.1
  refine va_calli (va_runV (As := []) (rest := []) ⟨hx, hb, hml, hown, hts⟩ (c_X1_worstPitch l (cy := cy) (X := X) (D := D) S _ (S.f o1 5) F1.2 (hW)) (cwV 0 hts gX2_worstGrade_X1_worstPitch rfl rfl rfl hd_X1_worstPitch ⟨Nat.le_of_ble_eq_true rfl, Nat.le_of_ble_eq_true rfl⟩) (pV (va_recv hK hP (q := (RX1, TX1, 3)) (ci := 5) (q0 := k3) rfl hk3) hP hK hD hN) rfl rfl hl.1 rfl (lv_room (Nat.le_of_ble_eq_true rfl)) dX2_worstGrade_4 ⟨(Nat.zero_le _), (Nat.zero_le _)⟩) hS (fun q _ h => hFc q h) hFc (fun r4 u t H1 locs ht hvm hw hB hz1 hk1 hS => ?_)
  have c5 := hw
  obtain ⟨hP, hD⟩ := wd_post hFc ht hB
  generalize H1 = H at hP hS ⊢
  obtain rfl : f_X1_worstPitch S (S.f o1 5) = r4 := c5.symm
  have hFc := free_all hD hS hA
  refine va_calli (va_runSN (As := [.int (f_X1_worstPitch S (S.f o1 5))]) (rest := []) ⟨hx, hb, hml, hown, hts⟩ (c_X9_gradeOf l (e0 := e0) (mi := mi) (cy := cy) (X := X) (D := D) S _ (f_X1_worstPitch S (S.f o1 5))) ⟨va_cnB 1 hts gX2_worstGrade_X9_gradeOf_n131 rfl rfl rfl (hN (.methodLinkNest RX2 131 yX9_gradeOf RX9) (by decide +kernel)) (hts (.initialized RX9) (by decide +kernel)) (by decide +kernel) ⟨Nat.le_of_ble_eq_true rfl, Nat.le_of_ble_eq_true rfl⟩, hts (.static yX9_gradeOf) (by decide +kernel), trivial⟩ (pSo hP hK hD hN hOU hS hFc) rfl rfl hl.1 rfl (lv_room (Nat.le_of_ble_eq_true rfl)) dX2_worstGrade_7 ⟨(Nat.zero_le _), (Nat.zero_le _)⟩) hS (fun q _ h => hFc q h) hFc (fun r6 u t H1 locs ht hvm hw hB hz1 hk1 hS => ?_)
  obtain ⟨c7, y8⟩ := hw
  obtain ⟨hP, hD⟩ := wd_post hFc ht hB
  generalize H1 = H at hP hS ⊢
  obtain rfl : f_X9_gradeOf (f_X1_worstPitch S (S.f o1 5)) = r6 := c7.symm
  refine lv_aload_n hx hb dX2_worstGrade_10 rfl (lv_at hl 0 rfl) ?_
  obtain ⟨k9, gk9, hk9⟩ := wGt (cy := cy) X S h_o1.1 h_o1.2.1
  simp only [kE, F1.1] at hk9
  refine va_get (D := D) (ci := 6) (v := .ref (S.f o1 5)) (C := RX2) (T := TX2) (N := 20) hx hb hts hi_X2_worstGrade_X2 hown hK hP k9 hk9 rfl 5 (by decide) (hts (.fieldLink RX2 32 "Hobhouse$Gear" "chart" "LHobhouse$Chart;") (by decide +kernel)) (fun _ h9 => h9) rfl dX2_worstGrade_11 ?_
  obtain ⟨k10, gk10, hk10⟩ := wGt (cy := cy) X S F1.2.1 F1.2.2.1
  refine va_get (D := D) (ci := 5) (v := .int (S.I (S.f o1 5) 2)) (C := RX1) (T := TX1) (N := 3) hx hb hts hi_X2_worstGrade_X1 hown hK hP k10 hk10 rfl 2 (by decide) (hts (.fieldLink RX2 134 "Hobhouse$Chart" "spread" "I") (by decide +kernel)) (fun _ h9 => h9) rfl dX2_worstGrade_14 ?_
  refine lv_iconst (v := 4) hx hb dX2_worstGrade_17 (by decide) ?_
  refine lv_idiv hx hb dX2_worstGrade_18 (by decide) ?_
  have l32_4 : (4 : Int32).toInt = 4 := rfl
  have hFc := free_all hD hS hA
  refine va_calli (va_runSN (As := [.int ((S.I (S.f o1 5) 2) / (4 : Int32))]) (rest := [.int (f_X9_gradeOf (f_X1_worstPitch S (S.f o1 5)))]) ⟨hx, hb, hml, hown, hts⟩ (c_X9_gradeOf l (e0 := e0) (mi := mi) (cy := cy) (X := X) (D := D) S _ ((S.I (S.f o1 5) 2) / (4 : Int32))) ⟨va_cnB 1 hts gX2_worstGrade_X9_gradeOf_n131 rfl rfl rfl (hN (.methodLinkNest RX2 131 yX9_gradeOf RX9) (by decide +kernel)) (hts (.initialized RX9) (by decide +kernel)) (by decide +kernel) ⟨Nat.le_of_ble_eq_true rfl, Nat.le_of_ble_eq_true rfl⟩, hts (.static yX9_gradeOf) (by decide +kernel), trivial⟩ (pSo hP hK hD hN hOU hS hFc) rfl rfl hl.1 rfl (lv_room (Nat.le_of_ble_eq_true rfl)) dX2_worstGrade_19 ⟨(Nat.zero_le _), (Nat.zero_le _)⟩) hS (fun q _ h => hFc q h) hFc (fun r11 u t H1 locs ht hvm hw hB hz1 hk1 hS => ?_)
  obtain ⟨c12, y13⟩ := hw
  obtain ⟨hP, hD⟩ := wd_post hFc ht hB
  generalize H1 = H at hP hS ⊢
  obtain rfl : f_X9_gradeOf ((S.I (S.f o1 5) 2) / (4 : Int32)) = r11 := c12.symm
  refine va_mmax hx hb (hml.trans hl.1.symm) hown (hts (.methodLink RX2 119 Lib.Math.max.name) (by decide +kernel)) (hts (.static Lib.Math.max.name) (by decide +kernel)) (hts (.initialized "java/lang/Math") (by decide +kernel)) (hts (.code Lib.Math.max.name Lib.Math.max.code 2 (some .int)) (by decide +kernel)) (Nat.le_of_ble_eq_true rfl) (Nat.le_of_ble_eq_true rfl) (Nat.zero_le _) (Nat.zero_le _) dX2_worstGrade_22 ?_
  have i14 := mmax_i (f_X9_gradeOf (f_X1_worstPitch S (S.f o1 5))) (f_X9_gradeOf ((S.I (S.f o1 5) 2) / (4 : Int32)))
  refine lv_istore_n (lv' := [(1, .int (if (f_X9_gradeOf (f_X1_worstPitch S (S.f o1 5))) < (f_X9_gradeOf ((S.I (S.f o1 5) 2) / (4 : Int32))) then (f_X9_gradeOf ((S.I (S.f o1 5) 2) / (4 : Int32))) else (f_X9_gradeOf (f_X1_worstPitch S (S.f o1 5))))), (0, .ref o1)]) hx hb dX2_worstGrade_25 rfl hl (by decide) rfl (fun ls hl => ?_)
  refine lv_iload_n hx hb dX2_worstGrade_26 rfl (lv_at hl 0 rfl) ?_
  refine lv_iconst (v := 2) hx hb dX2_worstGrade_27 (by decide) ?_
  refine lv_aload_n hx hb dX2_worstGrade_28 rfl (lv_at hl 1 rfl) ?_
  obtain ⟨k15, gk15, hk15⟩ := wGt (cy := cy) X S h_o1.1 h_o1.2.1
  refine va_get (D := D) (ci := 6) (v := .int (S.I o1 11)) (C := RX2) (T := TX2) (N := 20) hx hb hts hi_X2_worstGrade_X2 hown hK hP k15 hk15 rfl 11 (by decide) (hts (.fieldLink RX2 137 "Hobhouse$Gear" "profileError" "I") (by decide +kernel)) (fun _ h9 => h9) rfl dX2_worstGrade_29 ?_
  refine lv_imul hx hb dX2_worstGrade_32 ?_
  have l32_2 : (2 : Int32).toInt = 2 := rfl
  have hFc := free_all hD hS hA
  refine va_calli (va_runSN (As := [.int ((2 : Int32) * (S.I o1 11))]) (rest := [.int (if (f_X9_gradeOf (f_X1_worstPitch S (S.f o1 5))) < (f_X9_gradeOf ((S.I (S.f o1 5) 2) / (4 : Int32))) then (f_X9_gradeOf ((S.I (S.f o1 5) 2) / (4 : Int32))) else (f_X9_gradeOf (f_X1_worstPitch S (S.f o1 5))))]) ⟨hx, hb, hml, hown, hts⟩ (c_X9_gradeOf l (e0 := e0) (mi := mi) (cy := cy) (X := X) (D := D) S _ ((2 : Int32) * (S.I o1 11))) ⟨va_cnB 1 hts gX2_worstGrade_X9_gradeOf_n131 rfl rfl rfl (hN (.methodLinkNest RX2 131 yX9_gradeOf RX9) (by decide +kernel)) (hts (.initialized RX9) (by decide +kernel)) (by decide +kernel) ⟨Nat.le_of_ble_eq_true rfl, Nat.le_of_ble_eq_true rfl⟩, hts (.static yX9_gradeOf) (by decide +kernel), trivial⟩ (pSo hP hK hD hN hOU hS hFc) rfl rfl hl.1 rfl (lv_room (Nat.le_of_ble_eq_true rfl)) dX2_worstGrade_33 ⟨(Nat.zero_le _), (Nat.zero_le _)⟩) hS (fun q _ h => hFc q h) hFc (fun r16 u t H1 locs ht hvm hw hB hz1 hk1 hS => ?_)
  obtain ⟨c17, y18⟩ := hw
  obtain ⟨hP, hD⟩ := wd_post hFc ht hB
  generalize H1 = H at hP hS ⊢
  obtain rfl : f_X9_gradeOf ((2 : Int32) * (S.I o1 11)) = r16 := c17.symm
  refine va_mmax hx hb (hml.trans hl.1.symm) hown (hts (.methodLink RX2 119 Lib.Math.max.name) (by decide +kernel)) (hts (.static Lib.Math.max.name) (by decide +kernel)) (hts (.initialized "java/lang/Math") (by decide +kernel)) (hts (.code Lib.Math.max.name Lib.Math.max.code 2 (some .int)) (by decide +kernel)) (Nat.le_of_ble_eq_true rfl) (Nat.le_of_ble_eq_true rfl) (Nat.zero_le _) (Nat.zero_le _) dX2_worstGrade_36 ?_
  have i19 := mmax_i (if (f_X9_gradeOf (f_X1_worstPitch S (S.f o1 5))) < (f_X9_gradeOf ((S.I (S.f o1 5) 2) / (4 : Int32))) then (f_X9_gradeOf ((S.I (S.f o1 5) 2) / (4 : Int32))) else (f_X9_gradeOf (f_X1_worstPitch S (S.f o1 5)))) (f_X9_gradeOf ((2 : Int32) * (S.I o1 11)))
  refine W.widen (k := 0) (n := 0) (Nat.le_of_ble_eq_true rfl) (Nat.le_of_ble_eq_true rfl) ?_
  exact W.iret (v := (if (if (f_X9_gradeOf (f_X1_worstPitch S (S.f o1 5))) < (f_X9_gradeOf ((S.I (S.f o1 5) 2) / (4 : Int32))) then (f_X9_gradeOf ((S.I (S.f o1 5) 2) / (4 : Int32))) else (f_X9_gradeOf (f_X1_worstPitch S (S.f o1 5)))) < (f_X9_gradeOf ((2 : Int32) * (S.I o1 11))) then (f_X9_gradeOf ((2 : Int32) * (S.I o1 11))) else (if (f_X9_gradeOf (f_X1_worstPitch S (S.f o1 5))) < (f_X9_gradeOf ((S.I (S.f o1 5) 2) / (4 : Int32))) then (f_X9_gradeOf ((S.I (S.f o1 5) 2) / (4 : Int32))) else (f_X9_gradeOf (f_X1_worstPitch S (S.f o1 5)))))) hx hb hr (fun t ht hW9 => ⟨⟨(if (if (f_X9_gradeOf (f_X1_worstPitch S (S.f o1 5))) < (f_X9_gradeOf ((S.I (S.f o1 5) 2) / (4 : Int32))) then (f_X9_gradeOf ((S.I (S.f o1 5) 2) / (4 : Int32))) else (f_X9_gradeOf (f_X1_worstPitch S (S.f o1 5)))) < (f_X9_gradeOf ((2 : Int32) * (S.I o1 11))) then (f_X9_gradeOf ((2 : Int32) * (S.I o1 11))) else (if (f_X9_gradeOf (f_X1_worstPitch S (S.f o1 5))) < (f_X9_gradeOf ((S.I (S.f o1 5) 2) / (4 : Int32))) then (f_X9_gradeOf ((S.I (S.f o1 5) 2) / (4 : Int32))) else (f_X9_gradeOf (f_X1_worstPitch S (S.f o1 5))))), (), rfl, ⟨(by show (if (if (f_X9_gradeOf (f_X1_worstPitch S (S.f o1 5))) < (f_X9_gradeOf ((S.I (S.f o1 5) 2) / (4 : Int32))) then (f_X9_gradeOf ((S.I (S.f o1 5) 2) / (4 : Int32))) else (f_X9_gradeOf (f_X1_worstPitch S (S.f o1 5)))) < (f_X9_gradeOf ((2 : Int32) * (S.I o1 11))) then (f_X9_gradeOf ((2 : Int32) * (S.I o1 11))) else (if (f_X9_gradeOf (f_X1_worstPitch S (S.f o1 5))) < (f_X9_gradeOf ((S.I (S.f o1 5) 2) / (4 : Int32))) then (f_X9_gradeOf ((S.I (S.f o1 5) 2) / (4 : Int32))) else (f_X9_gradeOf (f_X1_worstPitch S (S.f o1 5))))) = f_X2_worstGrade S o1; unfold f_X2_worstGrade; rfl), (by omega)⟩, wd_end hP hK hD ht hW9.alike⟩, hS.F ht⟩) hS.2.2 dX2_worstGrade_39 hlocks
def f_X9_grade (S : wPS) (o1 : Nat) (x1 : Int32) : Except String Int32 := eB (f_X9_gearAt S o1 x1) (fun r2 => .ok (f_X2_worstGrade S r2))
theorem hd_X9_grade : yX9_grade.cls = RX9 ∧ yX9_grade.cls ≠ "java/lang/invoke/MethodHandle" ∧ yX9_grade.cls ≠ "java/lang/invoke/VarHandle" ∧ (parseMethodDescriptor yX9_grade.desc).map (fun d => d.parameters.length) = some 1 := by decide +kernel
set_option maxHeartbeats 4000000 in
set_option maxRecDepth 100000 in
theorem c_X9_grade (l : Launch) (hst : l.stackTraces = false) {e0 mi : Nat} {D : va_G} {cy : Nat → ClassId} {X : va_W} (S : wPS) (sz : Nat) (o1 : Nat) (h_o1 : isA S o1 9) (x1 : Int32) (hW : wtB S [])  : vx_Met l yX9_grade wsX9_grade ({ frames := 7, cells := 1, slots := 6, locals := 103 }) (va_Pc [.ref o1, .int x1] (fun U => U.heap.size = sz ∧ WD D cy X (fun _ => True) S U ∧ NW U ∧ TH (va_A (X ++ PL cy S) sz) U ∧ OU e0 mi (va_A (X ++ PL cy S) sz) U U.heap)) (va_Qi (fun r (_ : Unit) => f_X9_grade S o1 x1 = .ok r) (fun _ t => WD D cy X (va_A (X ++ PL cy S) sz) S t) (va_A (X ++ PL cy S) sz)) (vx_X (fun (_ : Unit) => True) (fun E _ t => f_X9_grade S o1 x1 = .error E ∧ E ∈ ["java/lang/IndexOutOfBoundsException"] ∧ WD D cy X (va_A (X ++ PL cy S) sz) S t) (va_A (X ++ PL cy S) sz)) 1 6 (va_A (X ++ PL cy S) sz) := by
  refine vx_ofW (cc := cX9_grade) (maxL := 2) (ret := (some .int)) (by decide) rfl ?_
  intro p e s m args below meth c s₁ B hml hno hv
  obtain ⟨rfl, hsz, ⟨hP, hK, hD0⟩, hN, hTH, hOU⟩ := hv
  have hx := B.exec
  have hb := B.bytes
  have hr := B.returns
  have hts := atoms_spec (ws := wsX9_grade) B.pre
  have hown : s.vm.findClass RX9 = some m.cls := findClass_of_methodNamed (x := yX9_grade) B.named
  have hlocks := B.notSynchronized
  subst hsz
  have hD := hD0.self (sz := s.heap.size)
  generalize hAe : va_A (X ++ PL cy S) s.heap.size = A at hD hTH hOU ⊢
  have hA : ∀ q : Nat, s.heap.size ≤ q → A q := fun q h => by rw [← hAe]; exact Or.inr h
  have hS : va_S A s.heap s.heap [] := va_S.rf
  have hl := lv_entry ([.ref o1, .int x1]) (n := 2) (Nat.le_of_ble_eq_true rfl)
  rw [lg_entry_eq]
  generalize (lg_sl ([.ref o1, .int x1]) ++ List.replicate (2 - (lg_sl ([.ref o1, .int x1])).length) Slot.unset).toArray = ls at hl ⊢
  have hl : lv_has ls 2 [(0, .ref o1), (1, .int x1)] := hl
  obtain ⟨⟨ga, gZ, gX, gl, gA⟩, ⟨sa9, sZ, sX, sl9, sA⟩, cZ, eZ, eX, el, eA, hMi, hDc, ⟨pf, pZ⟩⟩ := id hOU
  refine lv_aload_n hx hb dX9_grade_0 rfl (lv_at hl 0 rfl) ?_
  refine lv_iload_n hx hb dX9_grade_1 rfl (lv_at hl 1 rfl) ?_
  have hFc := free_all hD hS hA
  obtain ⟨k1, gk1, hk1⟩ := wGt (cy := cy) X S h_o1.1 h_o1.2.1
  refine vx_callq (vx_runV (As := [.int x1]) (rest := []) ⟨hx, hb, hml, hown, hts⟩ (c_X9_gearAt l hst (cy := cy) (X := X) (D := D) S _ o1 h_o1 x1 (hW)) (cwV 1 hts gX9_grade_X9_gearAt rfl rfl rfl hd_X9_gearAt ⟨Nat.le_of_ble_eq_true rfl, Nat.le_of_ble_eq_true rfl⟩) (pVt (va_recv hK hP (q := (RX9, TX9, 11)) (ci := 13) (q0 := k1) rfl hk1) hP hK hD hN hTH hS hFc) rfl rfl hl.1 rfl (lv_room (Nat.le_of_ble_eq_true rfl)) dX9_grade_2 ⟨Nat.le_of_ble_eq_true rfl, Nat.le_of_ble_eq_true rfl⟩) hS (fun q _ h => hFc q h) hFc (fun q _ h => hFc q h) (fun E ce q9 u t H1 locs ht hvm hw hB hz1 hk1 hS hq9 hce hcl => ?_) (fun r2 u t H1 locs ht hvm hw hB hz1 hk1 hS => ?_)
  · obtain ⟨c3, hEc3, hB2⟩ := hB
    obtain ⟨hP, hD⟩ := wd_post hFc ht hB2
    exact vx_out (fun x h => (hno x h).elim) hlocks hq9 hce hcl (fun t2 ht2 hA2 => ⟨(), trivial, ⟨(by show f_X9_grade S o1 x1 = .error E; unfold f_X9_grade; rw [eB_er c3]), (el_in (by decide) hEc3), wd_end hP hK hD ht2 hA2⟩, hS.F ht2⟩) hS.2.2 (Nat.le_of_ble_eq_true rfl) (Nat.le_of_ble_eq_true rfl)
  · obtain ⟨r2, rfl, c4, o5⟩ := hw
    obtain ⟨hP, hD⟩ := wd_post hFc ht hB
    generalize H1 = H at hP hS ⊢
    refine W.eq (g2 := F0 m 5 ls [.ref r2]) rfl ?_
    have hFc := free_all hD hS hA
    obtain ⟨k6, gk6, hk6⟩ := wGt (cy := cy) X S o5.1 o5.2.1
    refine va_calli (va_runV (As := []) (rest := []) ⟨hx, hb, hml, hown, hts⟩ (c_X2_worstGrade l (e0 := e0) (mi := mi) (cy := cy) (X := X) (D := D) S _ r2 o5 (hW)) (cwV 0 hts gX9_grade_X2_worstGrade rfl rfl rfl hd_X2_worstGrade ⟨Nat.le_of_ble_eq_true rfl, Nat.le_of_ble_eq_true rfl⟩) (pVo (va_recv hK hP (q := (RX2, TX2, 20)) (ci := 6) (q0 := k6) rfl hk6) hP hK hD hN hOU hS hFc) rfl rfl hl.1 rfl (lv_room (Nat.le_of_ble_eq_true rfl)) dX9_grade_5 ⟨Nat.le_of_ble_eq_true rfl, Nat.le_of_ble_eq_true rfl⟩) hS (fun q _ h => hFc q h) hFc (fun r7 u t H1 locs ht hvm hw hB hz1 hk1 hS => ?_)
    obtain ⟨c8, y9⟩ := hw
    obtain ⟨hP, hD⟩ := wd_post hFc ht hB
    generalize H1 = H at hP hS ⊢
    obtain rfl : f_X2_worstGrade S r2 = r7 := c8.symm
    refine vx_ret ?_
    refine W.widen (k := 1) (n := 6) (Nat.le_of_ble_eq_true rfl) (Nat.le_of_ble_eq_true rfl) ?_
    exact W.iret (v := f_X2_worstGrade S r2) hx hb hr (fun t ht hW9 => ⟨⟨f_X2_worstGrade S r2, (), rfl, (by show f_X9_grade S o1 x1 = .ok (f_X2_worstGrade S r2); unfold f_X9_grade; rw [eB_ok c4]), wd_end hP hK hD ht hW9.alike⟩, hS.F ht⟩) hS.2.2 dX9_grade_8 hlocks
def f_X9_planetSign (x1 : Int32) (x2 : Int32) (x3 : Int32) : Int32 := if ((x2 - x1) - (x2 - x1) / (2 : Int32) * (2 : Int32)) = (0 : Int32) then if (6 : Int32) ≤ ((x2 - x1) / (2 : Int32)) then if x3 < (3 : Int32) then (97 : Int32) else if (4 : Int32) ≤ (x3 - (3 : Int32)) then (97 : Int32) else if ((x1 + x2) - (x1 + x2) / x3 * x3) = (0 : Int32) then if ((x1 + ((x2 - x1) / (2 : Int32))) * (sinesF (x3 - (3 : Int32)).toNatClampNeg)) ≤ ((1000 : Int32) * (((x2 - x1) / (2 : Int32)) + (2 : Int32))) then (114 : Int32) else (103 : Int32) else (97 : Int32) else (119 : Int32) else (119 : Int32)
theorem f_X9_planetSign_b (x1 : Int32) (x2 : Int32) (x3 : Int32) : narrow .char (.int (f_X9_planetSign x1 x2 x3)) = .int (f_X9_planetSign x1 x2 x3) := by
  unfold f_X9_planetSign; (repeat' split) <;> rfl
theorem hd_X9_planetSign : yX9_planetSign.cls = RX9 ∧ yX9_planetSign.cls ≠ "java/lang/invoke/MethodHandle" ∧ yX9_planetSign.cls ≠ "java/lang/invoke/VarHandle" ∧ (parseMethodDescriptor yX9_planetSign.desc).map (fun d => d.parameters.length) = some 3 := by decide +kernel
set_option maxHeartbeats 4000000 in
set_option maxRecDepth 100000 in
theorem c_X9_planetSign (l : Launch) {e0 mi : Nat} {D : va_G} {cy : Nat → ClassId} {X : va_W} (S : wPS) (sz : Nat) (x1 : Int32) (x2 : Int32) (x3 : Int32)  : Met l yX9_planetSign wsX9_planetSign ({ frames := 0, cells := 0, slots := 0, locals := 0 }) (va_Pc [.int x1, .int x2, .int x3] (fun U => U.heap.size = sz ∧ WD D cy X (fun _ => True) S U ∧ NW U ∧ OU e0 mi (va_A (X ++ PL cy S) sz) U U.heap)) (va_Qi (fun r (_ : Unit) => r = f_X9_planetSign x1 x2 x3) (fun _ t => WD D cy X (va_A (X ++ PL cy S) sz) S t) (va_A (X ++ PL cy S) sz)) 0 0 (va_A (X ++ PL cy S) sz) := by
  refine Met.ofW (cc := cX9_planetSign) (maxL := 4) (ret := (some .char)) (by decide) rfl ?_
  intro p e s m args below meth c s₁ B hml hv
  obtain ⟨rfl, hsz, ⟨hP, hK, hD0⟩, hN, hOU⟩ := hv
  have hx := B.exec
  have hb := B.bytes
  have hr := B.returns
  have hts := atoms_spec (ws := wsX9_planetSign) B.pre
  have hown : s.vm.findClass RX9 = some m.cls := findClass_of_methodNamed (x := yX9_planetSign) B.named
  have hlocks := B.notSynchronized
  subst hsz
  have hD := hD0.self (sz := s.heap.size)
  generalize hAe : va_A (X ++ PL cy S) s.heap.size = A at hD hOU ⊢
  have hA : ∀ q : Nat, s.heap.size ≤ q → A q := fun q h => by rw [← hAe]; exact Or.inr h
  have hS : va_S A s.heap s.heap [] := va_S.rf
  have hl := lv_entry ([.int x1, .int x2, .int x3]) (n := 4) (Nat.le_of_ble_eq_true rfl)
  rw [lg_entry_eq]
  generalize (lg_sl ([.int x1, .int x2, .int x3]) ++ List.replicate (4 - (lg_sl ([.int x1, .int x2, .int x3])).length) Slot.unset).toArray = ls at hl ⊢
  have hl : lv_has ls 4 [(0, .int x1), (1, .int x2), (2, .int x3)] := hl
  obtain ⟨⟨ga, gZ, gX, gl, gA⟩, ⟨sa9, sZ, sX, sl9, sA⟩, cZ, eZ, eX, el, eA, hMi, hDc, ⟨pf, pZ⟩⟩ := id hOU
  refine lv_iload_n hx hb dX9_planetSign_0 rfl (lv_at hl 1 rfl) ?_
  refine lv_iload_n hx hb dX9_planetSign_1 rfl (lv_at hl 0 rfl) ?_
  refine lv_isub hx hb dX9_planetSign_2 ?_
  refine lv_iconst (v := 2) hx hb dX9_planetSign_3 (by decide) ?_
  refine lv_idiv hx hb dX9_planetSign_4 (by decide) ?_
  refine lv_istore_n (lv' := [(3, .int ((x2 - x1) / (2 : Int32))), (0, .int x1), (1, .int x2), (2, .int x3)]) hx hb dX9_planetSign_5 rfl hl (by decide) rfl (fun ls hl => ?_)
  refine lv_iload_n hx hb dX9_planetSign_6 rfl (lv_at hl 2 rfl) ?_
  refine lv_iload_n hx hb dX9_planetSign_7 rfl (lv_at hl 1 rfl) ?_
  refine lv_isub hx hb dX9_planetSign_8 ?_
  refine lv_iconst (v := 2) hx hb dX9_planetSign_9 (by decide) ?_
  refine lv_irem hx hb dX9_planetSign_10 (by decide) ?_
  refine lv_if_ne (tgt := 20) hx hb dX9_planetSign_11 (by decide) (fun c1 => ?_) (fun c1 => ?_)
  · have c1i : ¬ ((x2 - x1) - (x2 - x1) / (2 : Int32) * (2 : Int32)).toInt = 0 := neq_v rfl rfl c1
    refine lv_bipush (v := 119) hx hb dX9_planetSign_20 (by decide +kernel) ?_
    refine W.widen (k := 0) (n := 0) (Nat.le_of_ble_eq_true rfl) (Nat.le_of_ble_eq_true rfl) ?_
    exact W.zret (v := (119 : Int32)) hx hb hr (by rfl) (fun t ht hW9 => ⟨⟨(119 : Int32), (), rfl, (by show (119 : Int32) = f_X9_planetSign x1 x2 x3; unfold f_X9_planetSign; rw [if_neg c1]), wd_end hP hK hD ht hW9.alike⟩, hS.F ht⟩) hS.2.2 dX9_planetSign_22 hlocks
  · have c1i : ((x2 - x1) - (x2 - x1) / (2 : Int32) * (2 : Int32)).toInt = 0 := eq_v rfl rfl c1
    refine lv_iload_n hx hb dX9_planetSign_14 rfl (lv_at hl 0 rfl) ?_
    refine lv_bipush (v := 6) hx hb dX9_planetSign_15 (by decide +kernel) ?_
    refine lv_icmp_ge (tgt := 23) hx hb dX9_planetSign_17 (by decide) (fun c2 => ?_) (fun c2 => ?_)
    · have c2i : 6 ≤ ((x2 - x1) / (2 : Int32)).toInt := le_v rfl rfl c2
      refine lv_iload_n hx hb dX9_planetSign_23 rfl (lv_at hl 3 rfl) ?_
      refine lv_iconst (v := 3) hx hb dX9_planetSign_24 (by decide) ?_
      refine lv_icmp_lt (tgt := 46) hx hb dX9_planetSign_25 (by decide) (fun c3 => ?_) (fun c3 => ?_)
      · have c3i : x3.toInt < 3 := lt_v rfl rfl c3
        refine lv_bipush (v := 97) hx hb dX9_planetSign_46 (by decide +kernel) ?_
        refine W.widen (k := 0) (n := 0) (Nat.le_of_ble_eq_true rfl) (Nat.le_of_ble_eq_true rfl) ?_
        exact W.zret (v := (97 : Int32)) hx hb hr (by rfl) (fun t ht hW9 => ⟨⟨(97 : Int32), (), rfl, (by show (97 : Int32) = f_X9_planetSign x1 x2 x3; unfold f_X9_planetSign; rw [if_pos c1, if_pos c2, if_pos c3]), wd_end hP hK hD ht hW9.alike⟩, hS.F ht⟩) hS.2.2 dX9_planetSign_48 hlocks
      · have c3i : 3 ≤ x3.toInt := nlt_v rfl rfl c3
        refine lv_iload_n hx hb dX9_planetSign_28 rfl (lv_at hl 3 rfl) ?_
        refine lv_iconst (v := 3) hx hb dX9_planetSign_29 (by decide) ?_
        refine lv_isub hx hb dX9_planetSign_30 ?_
        refine va_gets hx hb sZ hS hown (hts (.fieldLink RX9 222 "Hobhouse" "SINES" "[I") (by decide +kernel)) (fun _ h9 => h9) dX9_planetSign_31 ?_
        refine va_slen hx hb sX sl9 sA hS dX9_planetSign_34 ?_
        refine W.eq (g2 := F0 m 35 ls [.int (4 : Int32), .int (x3 - (3 : Int32))]) rfl ?_
        have hr9 := t_rng x3
        have l32_3 : (3 : Int32).toInt = 3 := rfl
        have i4 : (x3 - (3 : Int32)).toInt = x3.toInt - 3 := t_subr (n := 3) rfl (by omega)
        have l32_4 : (4 : Int32).toInt = 4 := rfl
        refine lv_icmp_ge (tgt := 46) hx hb dX9_planetSign_35 (by decide) (fun c5 => ?_) (fun c5 => ?_)
        · have c5i : 4 ≤ (x3 - (3 : Int32)).toInt := le_v rfl rfl c5
          refine lv_bipush (v := 97) hx hb dX9_planetSign_46 (by decide +kernel) ?_
          refine W.widen (k := 0) (n := 0) (Nat.le_of_ble_eq_true rfl) (Nat.le_of_ble_eq_true rfl) ?_
          exact W.zret (v := (97 : Int32)) hx hb hr (by rfl) (fun t ht hW9 => ⟨⟨(97 : Int32), (), rfl, (by show (97 : Int32) = f_X9_planetSign x1 x2 x3; unfold f_X9_planetSign; rw [if_pos c1, if_pos c2, if_neg c3, if_pos c5]), wd_end hP hK hD ht hW9.alike⟩, hS.F ht⟩) hS.2.2 dX9_planetSign_48 hlocks
        · have c5i : (x3 - (3 : Int32)).toInt < 4 := nle_v rfl rfl c5
          refine lv_iload_n hx hb dX9_planetSign_38 rfl (lv_at hl 1 rfl) ?_
          refine lv_iload_n hx hb dX9_planetSign_39 rfl (lv_at hl 2 rfl) ?_
          refine lv_iadd hx hb dX9_planetSign_40 ?_
          refine lv_iload_n hx hb dX9_planetSign_41 rfl (lv_at hl 3 rfl) ?_
          refine lv_irem hx hb dX9_planetSign_42 (nz_i (by omega)) ?_
          refine lv_if_eq (tgt := 49) hx hb dX9_planetSign_43 (by decide) (fun c6 => ?_) (fun c6 => ?_)
          · have c6i : ((x1 + x2) - (x1 + x2) / x3 * x3).toInt = 0 := eq_v rfl rfl c6
            refine lv_iload_n hx hb dX9_planetSign_49 rfl (lv_at hl 1 rfl) ?_
            refine lv_iload_n hx hb dX9_planetSign_50 rfl (lv_at hl 0 rfl) ?_
            refine lv_iadd hx hb dX9_planetSign_51 ?_
            refine va_gets hx hb sZ hS hown (hts (.fieldLink RX9 222 "Hobhouse" "SINES" "[I") (by decide +kernel)) (fun _ h9 => h9) dX9_planetSign_52 ?_
            refine lv_iload_n hx hb dX9_planetSign_55 rfl (lv_at hl 3 rfl) ?_
            refine lv_iconst (v := 3) hx hb dX9_planetSign_56 (by decide) ?_
            refine lv_isub hx hb dX9_planetSign_57 ?_
            refine va_sld hx hb sX sl9 sA hS (inb (m := 4) rfl (by omega) (by omega)) dX9_planetSign_58 ?_
            refine lv_imul hx hb dX9_planetSign_59 ?_
            refine lv_sipush (v := 1000) hx hb dX9_planetSign_60 (by decide +kernel) ?_
            refine lv_iload_n hx hb dX9_planetSign_63 rfl (lv_at hl 0 rfl) ?_
            refine lv_iconst (v := 2) hx hb dX9_planetSign_64 (by decide) ?_
            refine lv_iadd hx hb dX9_planetSign_65 ?_
            refine lv_imul hx hb dX9_planetSign_66 ?_
            refine lv_icmp_le (tgt := 75) hx hb dX9_planetSign_67 (by decide) (fun c7 => ?_) (fun c7 => ?_)
            · have c7i : ((x1 + ((x2 - x1) / (2 : Int32))) * (sinesF (x3 - (3 : Int32)).toNatClampNeg)).toInt ≤ ((1000 : Int32) * (((x2 - x1) / (2 : Int32)) + (2 : Int32))).toInt := le_v rfl rfl c7
              refine lv_bipush (v := 114) hx hb dX9_planetSign_75 (by decide +kernel) ?_
              refine W.widen (k := 0) (n := 0) (Nat.le_of_ble_eq_true rfl) (Nat.le_of_ble_eq_true rfl) ?_
              exact W.zret (v := (114 : Int32)) hx hb hr (by rfl) (fun t ht hW9 => ⟨⟨(114 : Int32), (), rfl, (by show (114 : Int32) = f_X9_planetSign x1 x2 x3; unfold f_X9_planetSign; rw [if_pos c1, if_pos c2, if_neg c3, if_neg c5, if_pos c6, if_pos c7]), wd_end hP hK hD ht hW9.alike⟩, hS.F ht⟩) hS.2.2 dX9_planetSign_77 hlocks
            · have c7i : ((1000 : Int32) * (((x2 - x1) / (2 : Int32)) + (2 : Int32))).toInt < ((x1 + ((x2 - x1) / (2 : Int32))) * (sinesF (x3 - (3 : Int32)).toNatClampNeg)).toInt := nle_v rfl rfl c7
              refine lv_bipush (v := 103) hx hb dX9_planetSign_70 (by decide +kernel) ?_
              refine lv_goto (tgt := 77) hx hb dX9_planetSign_72 (by decide) ?_
              refine W.widen (k := 0) (n := 0) (Nat.le_of_ble_eq_true rfl) (Nat.le_of_ble_eq_true rfl) ?_
              exact W.zret (v := (103 : Int32)) hx hb hr (by rfl) (fun t ht hW9 => ⟨⟨(103 : Int32), (), rfl, (by show (103 : Int32) = f_X9_planetSign x1 x2 x3; unfold f_X9_planetSign; rw [if_pos c1, if_pos c2, if_neg c3, if_neg c5, if_pos c6, if_neg c7]), wd_end hP hK hD ht hW9.alike⟩, hS.F ht⟩) hS.2.2 dX9_planetSign_77 hlocks
          · have c6i : ¬ ((x1 + x2) - (x1 + x2) / x3 * x3).toInt = 0 := neq_v rfl rfl c6
            refine lv_bipush (v := 97) hx hb dX9_planetSign_46 (by decide +kernel) ?_
            refine W.widen (k := 0) (n := 0) (Nat.le_of_ble_eq_true rfl) (Nat.le_of_ble_eq_true rfl) ?_
            exact W.zret (v := (97 : Int32)) hx hb hr (by rfl) (fun t ht hW9 => ⟨⟨(97 : Int32), (), rfl, (by show (97 : Int32) = f_X9_planetSign x1 x2 x3; unfold f_X9_planetSign; rw [if_pos c1, if_pos c2, if_neg c3, if_neg c5, if_neg c6]), wd_end hP hK hD ht hW9.alike⟩, hS.F ht⟩) hS.2.2 dX9_planetSign_48 hlocks
    · have c2i : ((x2 - x1) / (2 : Int32)).toInt < 6 := nle_v rfl rfl c2
      refine lv_bipush (v := 119) hx hb dX9_planetSign_20 (by decide +kernel) ?_
      refine W.widen (k := 0) (n := 0) (Nat.le_of_ble_eq_true rfl) (Nat.le_of_ble_eq_true rfl) ?_
      exact W.zret (v := (119 : Int32)) hx hb hr (by rfl) (fun t ht hW9 => ⟨⟨(119 : Int32), (), rfl, (by show (119 : Int32) = f_X9_planetSign x1 x2 x3; unfold f_X9_planetSign; rw [if_pos c1, if_neg c2]), wd_end hP hK hD ht hW9.alike⟩, hS.F ht⟩) hS.2.2 dX9_planetSign_22 hlocks
def f_X9_planets (S : wPS) (o1 : Nat) (x1 : Int32) (x2 : Int32) (x3 : Int32) : Except String Int32 := eB (f_X9_needTeeth x1) (fun _ => eB (f_X9_needRange x2 (x1 + (1 : Int32)) (600 : Int32)) (fun _ => eB (f_X9_needRange x3 (3 : Int32) (6 : Int32)) (fun _ => .ok (f_X9_planetSign x1 x2 x3))))
theorem hd_X9_planets : yX9_planets.cls = RX9 ∧ yX9_planets.cls ≠ "java/lang/invoke/MethodHandle" ∧ yX9_planets.cls ≠ "java/lang/invoke/VarHandle" ∧ (parseMethodDescriptor yX9_planets.desc).map (fun d => d.parameters.length) = some 3 := by decide +kernel
set_option maxHeartbeats 4000000 in
set_option maxRecDepth 100000 in
theorem c_X9_planets (l : Launch) (hst : l.stackTraces = false) {e0 mi : Nat} {D : va_G} {cy : Nat → ClassId} {X : va_W} (S : wPS) (sz : Nat) (o1 : Nat) (h_o1 : isA S o1 9) (x1 : Int32) (x2 : Int32) (x3 : Int32) (hW : wtB S [])  : vx_Met l yX9_planets wsX9_planets ({ frames := 8, cells := 3, slots := 18, locals := 124 }) (va_Pc [.ref o1, .int x1, .int x2, .int x3] (fun U => U.heap.size = sz ∧ WD D cy X (fun _ => True) S U ∧ NW U ∧ TH (va_A (X ++ PL cy S) sz) U ∧ OU e0 mi (va_A (X ++ PL cy S) sz) U U.heap)) (va_Qi (fun r (_ : Unit) => f_X9_planets S o1 x1 x2 x3 = .ok r) (fun _ t => WD D cy X (va_A (X ++ PL cy S) sz) S t) (va_A (X ++ PL cy S) sz)) (vx_X (fun (_ : Unit) => True) (fun E _ t => f_X9_planets S o1 x1 x2 x3 = .error E ∧ E ∈ ["java/lang/IllegalArgumentException"] ∧ WD D cy X (va_A (X ++ PL cy S) sz) S t) (va_A (X ++ PL cy S) sz)) 3 18 (va_A (X ++ PL cy S) sz) := by
  refine vx_ofW (cc := cX9_planets) (maxL := 4) (ret := (some .char)) (by decide) rfl ?_
  intro p e s m args below meth c s₁ B hml hno hv
  obtain ⟨rfl, hsz, ⟨hP, hK, hD0⟩, hN, hTH, hOU⟩ := hv
  have hx := B.exec
  have hb := B.bytes
  have hr := B.returns
  have hts := atoms_spec (ws := wsX9_planets) B.pre
  have hown : s.vm.findClass RX9 = some m.cls := findClass_of_methodNamed (x := yX9_planets) B.named
  have hlocks := B.notSynchronized
  subst hsz
  have hD := hD0.self (sz := s.heap.size)
  generalize hAe : va_A (X ++ PL cy S) s.heap.size = A at hD hTH hOU ⊢
  have hA : ∀ q : Nat, s.heap.size ≤ q → A q := fun q h => by rw [← hAe]; exact Or.inr h
  have hS : va_S A s.heap s.heap [] := va_S.rf
  have hl := lv_entry ([.ref o1, .int x1, .int x2, .int x3]) (n := 4) (Nat.le_of_ble_eq_true rfl)
  rw [lg_entry_eq]
  generalize (lg_sl ([.ref o1, .int x1, .int x2, .int x3]) ++ List.replicate (4 - (lg_sl ([.ref o1, .int x1, .int x2, .int x3])).length) Slot.unset).toArray = ls at hl ⊢
  have hl : lv_has ls 4 [(0, .ref o1), (1, .int x1), (2, .int x2), (3, .int x3)] := hl
  obtain ⟨⟨ga, gZ, gX, gl, gA⟩, ⟨sa9, sZ, sX, sl9, sA⟩, cZ, eZ, eX, el, eA, hMi, hDc, ⟨pf, pZ⟩⟩ := id hOU
  refine lv_iload_n hx hb dX9_planets_0 rfl (lv_at hl 1 rfl) ?_
  have hFc := free_all hD hS hA
  refine vx_callv (vx_runS (As := [.int x1]) (rest := []) ⟨hx, hb, hml, hown, hts⟩ (c_X9_needTeeth l hst (cy := cy) (X := X) (D := D) S _ x1) (cwS 1 hts gX9_planets_X9_needTeeth rfl rfl rfl hd_X9_needTeeth ⟨Nat.le_of_ble_eq_true rfl, Nat.le_of_ble_eq_true rfl⟩) (pSt hP hK hD hN hTH hS hFc) rfl rfl hl.1 rfl (lv_room (Nat.le_of_ble_eq_true rfl)) dX9_planets_1 ⟨Nat.le_of_ble_eq_true rfl, Nat.le_of_ble_eq_true rfl⟩) hS (fun q _ h => hFc q h) hFc (fun q _ h => hFc q h) (fun E ce q9 u t H1 locs ht hvm hw hB hz1 hk1 hS hq9 hce hcl => ?_) (fun u t H1 locs ht hvm hw hB hz1 hk1 hS => ?_)
  · obtain ⟨c2, hEc2, hB2⟩ := hB
    obtain ⟨hP, hD⟩ := wd_post hFc ht hB2
    exact vx_out (fun x h => (hno x h).elim) hlocks hq9 hce hcl (fun t2 ht2 hA2 => ⟨(), trivial, ⟨(by show f_X9_planets S o1 x1 x2 x3 = .error E; unfold f_X9_planets; rw [eB_er c2]), (el_in (by decide) hEc2), wd_end hP hK hD ht2 hA2⟩, hS.F ht2⟩) hS.2.2 (Nat.le_of_ble_eq_true rfl) (Nat.le_of_ble_eq_true rfl)
  · have c3 := hw
    obtain ⟨hP, hD⟩ := wd_post hFc ht hB
    generalize H1 = H at hP hS ⊢
    have i4 := nt_i c3
    refine lv_iload_n hx hb dX9_planets_4 rfl (lv_at hl 2 rfl) ?_
    refine lv_iload_n hx hb dX9_planets_5 rfl (lv_at hl 1 rfl) ?_
    refine lv_iconst (v := 1) hx hb dX9_planets_6 (by decide) ?_
    refine lv_iadd hx hb dX9_planets_7 ?_
    refine lv_sipush (v := 600) hx hb dX9_planets_8 (by decide +kernel) ?_
    have l32_1 : (1 : Int32).toInt = 1 := rfl
    have l32_600 : (600 : Int32).toInt = 600 := rfl
    have hFc := free_all hD hS hA
    refine vx_callv (vx_runS (As := [.int x2, .int (x1 + (1 : Int32)), .int (600 : Int32)]) (rest := []) ⟨hx, hb, hml, hown, hts⟩ (c_X9_needRange l hst (cy := cy) (X := X) (D := D) S _ x2 (x1 + (1 : Int32)) (600 : Int32)) (cwS 3 hts gX9_planets_X9_needRange rfl rfl rfl hd_X9_needRange ⟨Nat.le_of_ble_eq_true rfl, Nat.le_of_ble_eq_true rfl⟩) (pSt hP hK hD hN hTH hS hFc) rfl rfl hl.1 rfl (lv_room (Nat.le_of_ble_eq_true rfl)) dX9_planets_11 ⟨Nat.le_of_ble_eq_true rfl, Nat.le_of_ble_eq_true rfl⟩) hS (fun q _ h => hFc q h) hFc (fun q _ h => hFc q h) (fun E ce q9 u t H1 locs ht hvm hw hB hz1 hk1 hS hq9 hce hcl => ?_) (fun u t H1 locs ht hvm hw hB hz1 hk1 hS => ?_)
    · obtain ⟨c6, hEc6, hB2⟩ := hB
      obtain ⟨hP, hD⟩ := wd_post hFc ht hB2
      exact vx_out (fun x h => (hno x h).elim) hlocks hq9 hce hcl (fun t2 ht2 hA2 => ⟨(), trivial, ⟨(by show f_X9_planets S o1 x1 x2 x3 = .error E; unfold f_X9_planets; rw [eB_ok c3, eB_er c6]), (el_in (by decide) hEc6), wd_end hP hK hD ht2 hA2⟩, hS.F ht2⟩) hS.2.2 (Nat.le_of_ble_eq_true rfl) (Nat.le_of_ble_eq_true rfl)
    · have c7 := hw
      obtain ⟨hP, hD⟩ := wd_post hFc ht hB
      generalize H1 = H at hP hS ⊢
      have i8 := nr_i c7
      have i8l := i8.1
      have i8h := i8.2
      have l9 : (600 : Int32).toInt = 600 := rfl
      refine lv_iload_n hx hb dX9_planets_14 rfl (lv_at hl 3 rfl) ?_
      refine lv_iconst (v := 3) hx hb dX9_planets_15 (by decide) ?_
      refine lv_bipush (v := 6) hx hb dX9_planets_16 (by decide +kernel) ?_
      have l32_3 : (3 : Int32).toInt = 3 := rfl
      have l32_6 : (6 : Int32).toInt = 6 := rfl
      have hFc := free_all hD hS hA
      refine vx_callv (vx_runS (As := [.int x3, .int (3 : Int32), .int (6 : Int32)]) (rest := []) ⟨hx, hb, hml, hown, hts⟩ (c_X9_needRange l hst (cy := cy) (X := X) (D := D) S _ x3 (3 : Int32) (6 : Int32)) (cwS 3 hts gX9_planets_X9_needRange rfl rfl rfl hd_X9_needRange ⟨Nat.le_of_ble_eq_true rfl, Nat.le_of_ble_eq_true rfl⟩) (pSt hP hK hD hN hTH hS hFc) rfl rfl hl.1 rfl (lv_room (Nat.le_of_ble_eq_true rfl)) dX9_planets_18 ⟨Nat.le_of_ble_eq_true rfl, Nat.le_of_ble_eq_true rfl⟩) hS (fun q _ h => hFc q h) hFc (fun q _ h => hFc q h) (fun E ce q9 u t H1 locs ht hvm hw hB hz1 hk1 hS hq9 hce hcl => ?_) (fun u t H1 locs ht hvm hw hB hz1 hk1 hS => ?_)
      · obtain ⟨c11, hEc11, hB2⟩ := hB
        obtain ⟨hP, hD⟩ := wd_post hFc ht hB2
        exact vx_out (fun x h => (hno x h).elim) hlocks hq9 hce hcl (fun t2 ht2 hA2 => ⟨(), trivial, ⟨(by show f_X9_planets S o1 x1 x2 x3 = .error E; unfold f_X9_planets; rw [eB_ok c3, eB_ok c7, eB_er c11]), (el_in (by decide) hEc11), wd_end hP hK hD ht2 hA2⟩, hS.F ht2⟩) hS.2.2 (Nat.le_of_ble_eq_true rfl) (Nat.le_of_ble_eq_true rfl)
      · have c12 := hw
        obtain ⟨hP, hD⟩ := wd_post hFc ht hB
        generalize H1 = H at hP hS ⊢
        have i13 := nr_i c12
        have i13l := i13.1
        have i13h := i13.2
        have l14 : (3 : Int32).toInt = 3 := rfl
        have l15 : (6 : Int32).toInt = 6 := rfl
        refine lv_iload_n hx hb dX9_planets_21 rfl (lv_at hl 1 rfl) ?_
        refine lv_iload_n hx hb dX9_planets_22 rfl (lv_at hl 2 rfl) ?_
        refine lv_iload_n hx hb dX9_planets_23 rfl (lv_at hl 3 rfl) ?_
        have hFc := free_all hD hS hA
        refine va_calli (va_runS (As := [.int x1, .int x2, .int x3]) (rest := []) ⟨hx, hb, hml, hown, hts⟩ (c_X9_planetSign l (e0 := e0) (mi := mi) (cy := cy) (X := X) (D := D) S _ x1 x2 x3) (cwS 3 hts gX9_planets_X9_planetSign rfl rfl rfl hd_X9_planetSign ⟨Nat.le_of_ble_eq_true rfl, Nat.le_of_ble_eq_true rfl⟩) (pSo hP hK hD hN hOU hS hFc) rfl rfl hl.1 rfl (lv_room (Nat.le_of_ble_eq_true rfl)) dX9_planets_24 ⟨Nat.le_of_ble_eq_true rfl, Nat.le_of_ble_eq_true rfl⟩) hS (fun q _ h => hFc q h) hFc (fun r16 u t H1 locs ht hvm hw hB hz1 hk1 hS => ?_)
        have c17 := hw
        obtain ⟨hP, hD⟩ := wd_post hFc ht hB
        generalize H1 = H at hP hS ⊢
        obtain rfl : f_X9_planetSign x1 x2 x3 = r16 := c17.symm
        refine vx_ret ?_
        refine W.widen (k := 3) (n := 18) (Nat.le_of_ble_eq_true rfl) (Nat.le_of_ble_eq_true rfl) ?_
        exact W.zret (v := f_X9_planetSign x1 x2 x3) hx hb hr (f_X9_planetSign_b x1 x2 x3) (fun t ht hW9 => ⟨⟨f_X9_planetSign x1 x2 x3, (), rfl, (by show f_X9_planets S o1 x1 x2 x3 = .ok (f_X9_planetSign x1 x2 x3); unfold f_X9_planets; rw [eB_ok c3, eB_ok c7, eB_ok c12]), wd_end hP hK hD ht hW9.alike⟩, hS.F ht⟩) hS.2.2 dX9_planets_27 hlocks
def f_X9_rings_L40 (S : wPS) (o1 : Nat) (x1 : Int32) (x2 : Int32) (x3 : Int32) (x4 : Int32) : Nat → Int32 → Int32 → Int32 × Int32
  | 0, w40_5, w40_6 => (w40_5, w40_6)
  | n + 1, w40_5, w40_6 => if (600 : Int32) < w40_6 then (w40_5, w40_6) else if ((100 : Int32) * (x1 + w40_6)) < (x3 * x1) then if (0 : Int32) = (0 : Int32) then f_X9_rings_L40 S o1 x1 x2 x3 x4 n w40_5 (w40_6 + (1 : Int32)) else (w40_5, w40_6) else if (x4 * x1) < ((100 : Int32) * (x1 + w40_6)) then if (0 : Int32) = (0 : Int32) then f_X9_rings_L40 S o1 x1 x2 x3 x4 n w40_5 (w40_6 + (1 : Int32)) else (w40_5, w40_6) else if (1 : Int32) = (0 : Int32) then (w40_5, w40_6) else if (f_X9_planetSign x1 w40_6 x2) = (103 : Int32) then f_X9_rings_L40 S o1 x1 x2 x3 x4 n (w40_5 + (1 : Int32)) (w40_6 + (1 : Int32)) else f_X9_rings_L40 S o1 x1 x2 x3 x4 n w40_5 (w40_6 + (1 : Int32))
theorem f_X9_rings_L40_s (S : wPS) (o1 : Nat) (x1 : Int32) (x2 : Int32) (x3 : Int32) (x4 : Int32) (n : Nat) (w40_5 : Int32) (w40_6 : Int32) : f_X9_rings_L40 S o1 x1 x2 x3 x4 (n + 1) w40_5 w40_6 = if (600 : Int32) < w40_6 then (w40_5, w40_6) else if ((100 : Int32) * (x1 + w40_6)) < (x3 * x1) then if (0 : Int32) = (0 : Int32) then f_X9_rings_L40 S o1 x1 x2 x3 x4 n w40_5 (w40_6 + (1 : Int32)) else (w40_5, w40_6) else if (x4 * x1) < ((100 : Int32) * (x1 + w40_6)) then if (0 : Int32) = (0 : Int32) then f_X9_rings_L40 S o1 x1 x2 x3 x4 n w40_5 (w40_6 + (1 : Int32)) else (w40_5, w40_6) else if (1 : Int32) = (0 : Int32) then (w40_5, w40_6) else if (f_X9_planetSign x1 w40_6 x2) = (103 : Int32) then f_X9_rings_L40 S o1 x1 x2 x3 x4 n (w40_5 + (1 : Int32)) (w40_6 + (1 : Int32)) else f_X9_rings_L40 S o1 x1 x2 x3 x4 n w40_5 (w40_6 + (1 : Int32)) := rfl
def f_X9_rings (S : wPS) (o1 : Nat) (x1 : Int32) (x2 : Int32) (x3 : Int32) (x4 : Int32) : Except String Int32 := eB (f_X9_needTeeth x1) (fun _ => eB (f_X9_needRange x2 (3 : Int32) (6 : Int32)) (fun _ => eB (f_X9_needRange x3 (200 : Int32) (9999 : Int32)) (fun _ => eB (f_X9_needRange x4 (200 : Int32) (9999 : Int32)) (fun _ => l2 (f_X9_rings_L40 S o1 x1 x2 x3 x4 701 (0 : Int32) (x1 + (1 : Int32))) (fun z38 z39 => .ok z38)))))
theorem hd_X9_rings : yX9_rings.cls = RX9 ∧ yX9_rings.cls ≠ "java/lang/invoke/MethodHandle" ∧ yX9_rings.cls ≠ "java/lang/invoke/VarHandle" ∧ (parseMethodDescriptor yX9_rings.desc).map (fun d => d.parameters.length) = some 4 := by decide +kernel
set_option maxHeartbeats 4000000 in
set_option maxRecDepth 100000 in
theorem c_X9_rings (l : Launch) (hst : l.stackTraces = false) {e0 mi : Nat} {D : va_G} {cy : Nat → ClassId} {X : va_W} (S : wPS) (sz : Nat) (o1 : Nat) (h_o1 : isA S o1 9) (x1 : Int32) (x2 : Int32) (x3 : Int32) (x4 : Int32) (hW : wtB S [])  : vx_Met l yX9_rings wsX9_rings ({ frames := 8, cells := 4, slots := 24, locals := 124 }) (va_Pc [.ref o1, .int x1, .int x2, .int x3, .int x4] (fun U => U.heap.size = sz ∧ WD D cy X (fun _ => True) S U ∧ NW U ∧ TH (va_A (X ++ PL cy S) sz) U ∧ OU e0 mi (va_A (X ++ PL cy S) sz) U U.heap)) (va_Qi (fun r (_ : Unit) => f_X9_rings S o1 x1 x2 x3 x4 = .ok r) (fun _ t => WD D cy X (va_A (X ++ PL cy S) sz) S t) (va_A (X ++ PL cy S) sz)) (vx_X (fun (_ : Unit) => True) (fun E _ t => f_X9_rings S o1 x1 x2 x3 x4 = .error E ∧ E ∈ ["java/lang/IllegalArgumentException"] ∧ WD D cy X (va_A (X ++ PL cy S) sz) S t) (va_A (X ++ PL cy S) sz)) 4 24 (va_A (X ++ PL cy S) sz) := by
  refine vx_ofW (cc := cX9_rings) (maxL := 9) (ret := (some .int)) (by decide) rfl ?_
  intro p e s m args below meth c s₁ B hml hno hv
  obtain ⟨rfl, hsz, ⟨hP, hK, hD0⟩, hN, hTH, hOU⟩ := hv
  have hx := B.exec
  have hb := B.bytes
  have hr := B.returns
  have hts := atoms_spec (ws := wsX9_rings) B.pre
  have hown : s.vm.findClass RX9 = some m.cls := findClass_of_methodNamed (x := yX9_rings) B.named
  have hlocks := B.notSynchronized
  subst hsz
  have hD := hD0.self (sz := s.heap.size)
  generalize hAe : va_A (X ++ PL cy S) s.heap.size = A at hD hTH hOU ⊢
  have hA : ∀ q : Nat, s.heap.size ≤ q → A q := fun q h => by rw [← hAe]; exact Or.inr h
  have hS : va_S A s.heap s.heap [] := va_S.rf
  have hl := lv_entry ([.ref o1, .int x1, .int x2, .int x3, .int x4]) (n := 9) (Nat.le_of_ble_eq_true rfl)
  rw [lg_entry_eq]
  generalize (lg_sl ([.ref o1, .int x1, .int x2, .int x3, .int x4]) ++ List.replicate (9 - (lg_sl ([.ref o1, .int x1, .int x2, .int x3, .int x4])).length) Slot.unset).toArray = ls at hl ⊢
  have hl : lv_has ls 9 [(0, .ref o1), (1, .int x1), (2, .int x2), (3, .int x3), (4, .int x4)] := hl
  obtain ⟨⟨ga, gZ, gX, gl, gA⟩, ⟨sa9, sZ, sX, sl9, sA⟩, cZ, eZ, eX, el, eA, hMi, hDc, ⟨pf, pZ⟩⟩ := id hOU
  refine lv_iload_n hx hb dX9_rings_0 rfl (lv_at hl 1 rfl) ?_
  have hFc := free_all hD hS hA
  refine vx_callv (vx_runS (As := [.int x1]) (rest := []) ⟨hx, hb, hml, hown, hts⟩ (c_X9_needTeeth l hst (cy := cy) (X := X) (D := D) S _ x1) (cwS 1 hts gX9_rings_X9_needTeeth rfl rfl rfl hd_X9_needTeeth ⟨Nat.le_of_ble_eq_true rfl, Nat.le_of_ble_eq_true rfl⟩) (pSt hP hK hD hN hTH hS hFc) rfl rfl hl.1 rfl (lv_room (Nat.le_of_ble_eq_true rfl)) dX9_rings_1 ⟨Nat.le_of_ble_eq_true rfl, Nat.le_of_ble_eq_true rfl⟩) hS (fun q _ h => hFc q h) hFc (fun q _ h => hFc q h) (fun E ce q9 u t H1 locs ht hvm hw hB hz1 hk1 hS hq9 hce hcl => ?_) (fun u t H1 locs ht hvm hw hB hz1 hk1 hS => ?_)
  · obtain ⟨c2, hEc2, hB2⟩ := hB
    obtain ⟨hP, hD⟩ := wd_post hFc ht hB2
    exact vx_out (fun x h => (hno x h).elim) hlocks hq9 hce hcl (fun t2 ht2 hA2 => ⟨(), trivial, ⟨(by show f_X9_rings S o1 x1 x2 x3 x4 = .error E; unfold f_X9_rings; rw [eB_er c2]), (el_in (by decide) hEc2), wd_end hP hK hD ht2 hA2⟩, hS.F ht2⟩) hS.2.2 (Nat.le_of_ble_eq_true rfl) (Nat.le_of_ble_eq_true rfl)
  · have c3 := hw
    obtain ⟨hP, hD⟩ := wd_post hFc ht hB
    generalize H1 = H at hP hS ⊢
    have i4 := nt_i c3
    refine lv_iload_n hx hb dX9_rings_4 rfl (lv_at hl 2 rfl) ?_
    refine lv_iconst (v := 3) hx hb dX9_rings_5 (by decide) ?_
    refine lv_bipush (v := 6) hx hb dX9_rings_6 (by decide +kernel) ?_
    have l32_3 : (3 : Int32).toInt = 3 := rfl
    have l32_6 : (6 : Int32).toInt = 6 := rfl
    have hFc := free_all hD hS hA
    refine vx_callv (vx_runS (As := [.int x2, .int (3 : Int32), .int (6 : Int32)]) (rest := []) ⟨hx, hb, hml, hown, hts⟩ (c_X9_needRange l hst (cy := cy) (X := X) (D := D) S _ x2 (3 : Int32) (6 : Int32)) (cwS 3 hts gX9_rings_X9_needRange rfl rfl rfl hd_X9_needRange ⟨Nat.le_of_ble_eq_true rfl, Nat.le_of_ble_eq_true rfl⟩) (pSt hP hK hD hN hTH hS hFc) rfl rfl hl.1 rfl (lv_room (Nat.le_of_ble_eq_true rfl)) dX9_rings_8 ⟨Nat.le_of_ble_eq_true rfl, Nat.le_of_ble_eq_true rfl⟩) hS (fun q _ h => hFc q h) hFc (fun q _ h => hFc q h) (fun E ce q9 u t H1 locs ht hvm hw hB hz1 hk1 hS hq9 hce hcl => ?_) (fun u t H1 locs ht hvm hw hB hz1 hk1 hS => ?_)
    · obtain ⟨c6, hEc6, hB2⟩ := hB
      obtain ⟨hP, hD⟩ := wd_post hFc ht hB2
      exact vx_out (fun x h => (hno x h).elim) hlocks hq9 hce hcl (fun t2 ht2 hA2 => ⟨(), trivial, ⟨(by show f_X9_rings S o1 x1 x2 x3 x4 = .error E; unfold f_X9_rings; rw [eB_ok c3, eB_er c6]), (el_in (by decide) hEc6), wd_end hP hK hD ht2 hA2⟩, hS.F ht2⟩) hS.2.2 (Nat.le_of_ble_eq_true rfl) (Nat.le_of_ble_eq_true rfl)
    · have c7 := hw
      obtain ⟨hP, hD⟩ := wd_post hFc ht hB
      generalize H1 = H at hP hS ⊢
      have i8 := nr_i c7
      have i8l := i8.1
      have i8h := i8.2
      have l9 : (3 : Int32).toInt = 3 := rfl
      have l10 : (6 : Int32).toInt = 6 := rfl
      refine lv_iload_n hx hb dX9_rings_11 rfl (lv_at hl 3 rfl) ?_
      refine lv_sipush (v := 200) hx hb dX9_rings_12 (by decide +kernel) ?_
      refine lv_sipush (v := 9999) hx hb dX9_rings_15 (by decide +kernel) ?_
      have l32_200 : (200 : Int32).toInt = 200 := rfl
      have l32_9999 : (9999 : Int32).toInt = 9999 := rfl
      have hFc := free_all hD hS hA
      refine vx_callv (vx_runS (As := [.int x3, .int (200 : Int32), .int (9999 : Int32)]) (rest := []) ⟨hx, hb, hml, hown, hts⟩ (c_X9_needRange l hst (cy := cy) (X := X) (D := D) S _ x3 (200 : Int32) (9999 : Int32)) (cwS 3 hts gX9_rings_X9_needRange rfl rfl rfl hd_X9_needRange ⟨Nat.le_of_ble_eq_true rfl, Nat.le_of_ble_eq_true rfl⟩) (pSt hP hK hD hN hTH hS hFc) rfl rfl hl.1 rfl (lv_room (Nat.le_of_ble_eq_true rfl)) dX9_rings_18 ⟨Nat.le_of_ble_eq_true rfl, Nat.le_of_ble_eq_true rfl⟩) hS (fun q _ h => hFc q h) hFc (fun q _ h => hFc q h) (fun E ce q9 u t H1 locs ht hvm hw hB hz1 hk1 hS hq9 hce hcl => ?_) (fun u t H1 locs ht hvm hw hB hz1 hk1 hS => ?_)
      · obtain ⟨c12, hEc12, hB2⟩ := hB
        obtain ⟨hP, hD⟩ := wd_post hFc ht hB2
        exact vx_out (fun x h => (hno x h).elim) hlocks hq9 hce hcl (fun t2 ht2 hA2 => ⟨(), trivial, ⟨(by show f_X9_rings S o1 x1 x2 x3 x4 = .error E; unfold f_X9_rings; rw [eB_ok c3, eB_ok c7, eB_er c12]), (el_in (by decide) hEc12), wd_end hP hK hD ht2 hA2⟩, hS.F ht2⟩) hS.2.2 (Nat.le_of_ble_eq_true rfl) (Nat.le_of_ble_eq_true rfl)
      · have c13 := hw
        obtain ⟨hP, hD⟩ := wd_post hFc ht hB
        generalize H1 = H at hP hS ⊢
        have i14 := nr_i c13
        have i14l := i14.1
        have i14h := i14.2
        have l15 : (200 : Int32).toInt = 200 := rfl
        have l16 : (9999 : Int32).toInt = 9999 := rfl
        refine lv_iload hx hb dX9_rings_21 (lv_at hl 4 rfl) ?_
        refine lv_sipush (v := 200) hx hb dX9_rings_23 (by decide +kernel) ?_
        refine lv_sipush (v := 9999) hx hb dX9_rings_26 (by decide +kernel) ?_
        have hFc := free_all hD hS hA
        refine vx_callv (vx_runS (As := [.int x4, .int (200 : Int32), .int (9999 : Int32)]) (rest := []) ⟨hx, hb, hml, hown, hts⟩ (c_X9_needRange l hst (cy := cy) (X := X) (D := D) S _ x4 (200 : Int32) (9999 : Int32)) (cwS 3 hts gX9_rings_X9_needRange rfl rfl rfl hd_X9_needRange ⟨Nat.le_of_ble_eq_true rfl, Nat.le_of_ble_eq_true rfl⟩) (pSt hP hK hD hN hTH hS hFc) rfl rfl hl.1 rfl (lv_room (Nat.le_of_ble_eq_true rfl)) dX9_rings_29 ⟨Nat.le_of_ble_eq_true rfl, Nat.le_of_ble_eq_true rfl⟩) hS (fun q _ h => hFc q h) hFc (fun q _ h => hFc q h) (fun E ce q9 u t H1 locs ht hvm hw hB hz1 hk1 hS hq9 hce hcl => ?_) (fun u t H1 locs ht hvm hw hB hz1 hk1 hS => ?_)
        · obtain ⟨c18, hEc18, hB2⟩ := hB
          obtain ⟨hP, hD⟩ := wd_post hFc ht hB2
          exact vx_out (fun x h => (hno x h).elim) hlocks hq9 hce hcl (fun t2 ht2 hA2 => ⟨(), trivial, ⟨(by show f_X9_rings S o1 x1 x2 x3 x4 = .error E; unfold f_X9_rings; rw [eB_ok c3, eB_ok c7, eB_ok c13, eB_er c18]), (el_in (by decide) hEc18), wd_end hP hK hD ht2 hA2⟩, hS.F ht2⟩) hS.2.2 (Nat.le_of_ble_eq_true rfl) (Nat.le_of_ble_eq_true rfl)
        · have c19 := hw
          obtain ⟨hP, hD⟩ := wd_post hFc ht hB
          generalize H1 = H at hP hS ⊢
          have i20 := nr_i c19
          have i20l := i20.1
          have i20h := i20.2
          have l21 : (200 : Int32).toInt = 200 := rfl
          have l22 : (9999 : Int32).toInt = 9999 := rfl
          refine lv_iconst (v := 0) hx hb dX9_rings_32 (by decide) ?_
          refine lv_istore (lv' := [(5, .int (0 : Int32)), (0, .ref o1), (1, .int x1), (2, .int x2), (3, .int x3), (4, .int x4)]) hx hb dX9_rings_33 hl (by decide) rfl (fun ls hl => ?_)
          refine lv_iload_n hx hb dX9_rings_35 rfl (lv_at hl 2 rfl) ?_
          refine lv_iconst (v := 1) hx hb dX9_rings_36 (by decide) ?_
          refine lv_iadd hx hb dX9_rings_37 ?_
          refine lv_istore (lv' := [(6, .int (x1 + (1 : Int32))), (5, .int (0 : Int32)), (0, .ref o1), (1, .int x1), (2, .int x2), (3, .int x3), (4, .int x4)]) hx hb dX9_rings_38 hl (by decide) rfl (fun ls hl => ?_)
          have l32_1 : (1 : Int32).toInt = 1 := rfl
          have i23 : (x1 + (1 : Int32)).toInt = x1.toInt + 1 := t_addr (n := 1) rfl (by omega)
          have loop40 : ∀ (n : Nat) (w40_5 : Int32) (w40_6 : Int32) (H : Heap) (locs : List Loc) (ls : Array Slot), (700 - w40_6.toInt).toNat < n → 1 ≤ w40_6.toInt ∧ w40_6.toInt ≤ 601 → va_P D vwCl (X ++ PL cy S) H → va_S A s.heap H locs → lv_has ls 9 [(6, .int w40_6), (5, .int w40_5), (0, .ref o1), (1, .int x1), (2, .int x2), (3, .int x3), (4, .int x4)] → (∀ (w40_5x : Int32) (w40_6x : Int32) (H : Heap) (locs : List Loc) (ls : Array Slot), 1 ≤ w40_6x.toInt ∧ w40_6x.toInt ≤ 601 → va_P D vwCl (X ++ PL cy S) H → va_S A s.heap H locs → lv_has ls 9 [(6, .int w40_6x), (5, .int w40_5x), (0, .ref o1), (1, .int x1), (2, .int x2), (3, .int x3), (4, .int x4)] → f_X9_rings_L40 S o1 x1 x2 x3 x4 n w40_5 w40_6 = (w40_5x, w40_6x) → W p l e (headSpec wsX9_rings ({ frames := 8, cells := 4, slots := 24, locals := 124 } : Room)).room s m [.ref o1, .int x1, .int x2, .int x3, .int x4].toArray below meth c H locs 4 24 (vx_MQ below (va_Qi (fun r (_ : Unit) => f_X9_rings S o1 x1 x2 x3 x4 = .ok r) (fun _ t => WD D cy X A S t) A) (vx_X (fun (_ : Unit) => True) (fun E _ t => f_X9_rings S o1 x1 x2 x3 x4 = .error E ∧ E ∈ ["java/lang/IllegalArgumentException"] ∧ WD D cy X A S t) A) [.ref o1, .int x1, .int x2, .int x3, .int x4].toArray s 4 24 A) (F0 m 107 ls [])) → W p l e (headSpec wsX9_rings ({ frames := 8, cells := 4, slots := 24, locals := 124 } : Room)).room s m [.ref o1, .int x1, .int x2, .int x3, .int x4].toArray below meth c H locs 4 24 (vx_MQ below (va_Qi (fun r (_ : Unit) => f_X9_rings S o1 x1 x2 x3 x4 = .ok r) (fun _ t => WD D cy X A S t) A) (vx_X (fun (_ : Unit) => True) (fun E _ t => f_X9_rings S o1 x1 x2 x3 x4 = .error E ∧ E ∈ ["java/lang/IllegalArgumentException"] ∧ WD D cy X A S t) A) [.ref o1, .int x1, .int x2, .int x3, .int x4].toArray s 4 24 A) (F0 m 40 ls []) := by
            intro n40
            induction n40 with
            | zero => intro w40_5 w40_6 H locs ls hm; exact absurd hm (Nat.not_lt_zero _)
            | succ n40 ih40 =>
              intro w40_5 w40_6 H locs ls hm40 hi40 hP hS hl ko40
              refine lv_iload hx hb dX9_rings_40 (lv_at hl 0 rfl) ?_
              refine lv_sipush (v := 600) hx hb dX9_rings_42 (by decide +kernel) ?_
              refine lv_icmp_gt (tgt := 107) hx hb dX9_rings_45 (by decide) (fun c24 => ?_) (fun c24 => ?_)
              · have c24i : 600 < w40_6.toInt := lt_v rfl rfl c24
                exact ko40 w40_5 w40_6 _ _ _ (by omega) hP hS (lv_sub hl [0, 1, 2, 3, 4, 5, 6] rfl) (by rw [f_X9_rings_L40_s, if_pos c24])
              · have c24i : w40_6.toInt ≤ 600 := nlt_v rfl rfl c24
                refine lv_bipush (v := 100) hx hb dX9_rings_48 (by decide +kernel) ?_
                refine lv_iload_n hx hb dX9_rings_50 rfl (lv_at hl 3 rfl) ?_
                refine lv_iload hx hb dX9_rings_51 (lv_at hl 0 rfl) ?_
                refine lv_iadd hx hb dX9_rings_53 ?_
                refine lv_imul hx hb dX9_rings_54 ?_
                refine lv_istore (lv' := [(7, .int ((100 : Int32) * (x1 + w40_6))), (6, .int w40_6), (5, .int w40_5), (0, .ref o1), (1, .int x1), (2, .int x2), (3, .int x3), (4, .int x4)]) hx hb dX9_rings_55 hl (by decide) rfl (fun ls hl => ?_)
                refine lv_iload hx hb dX9_rings_57 (lv_at hl 0 rfl) ?_
                refine lv_iload_n hx hb dX9_rings_59 rfl (lv_at hl 6 rfl) ?_
                refine lv_iload_n hx hb dX9_rings_60 rfl (lv_at hl 4 rfl) ?_
                refine lv_imul hx hb dX9_rings_61 ?_
                refine lv_icmp_lt (tgt := 78) hx hb dX9_rings_62 (by decide) (fun c25 => ?_) (fun c25 => ?_)
                · have c25i : ((100 : Int32) * (x1 + w40_6)).toInt < (x3 * x1).toInt := lt_v rfl rfl c25
                  refine lv_iconst (v := 0) hx hb dX9_rings_78 (by decide) ?_
                  refine lv_istore (lv' := [(8, .int (0 : Int32)), (7, .int ((100 : Int32) * (x1 + w40_6))), (6, .int w40_6), (5, .int w40_5), (0, .ref o1), (1, .int x1), (2, .int x2), (3, .int x3), (4, .int x4)]) hx hb dX9_rings_79 hl (by decide) rfl (fun ls hl => ?_)
                  refine lv_iload hx hb dX9_rings_81 (lv_at hl 0 rfl) ?_
                  refine lv_if_eq (tgt := 101) hx hb dX9_rings_83 (by decide) (fun c26 => ?_) (fun c26 => ?_)
                  · refine lv_iinc (v := w40_6 + (1 : Int32)) (lv' := [(6, .int (w40_6 + (1 : Int32))), (8, .int (0 : Int32)), (7, .int ((100 : Int32) * (x1 + w40_6))), (5, .int w40_5), (0, .ref o1), (1, .int x1), (2, .int x2), (3, .int x3), (4, .int x4)]) hx hb dX9_rings_101 hl (k := 2) rfl (by rfl) (by decide) rfl (fun ls hl => ?_)
                    refine lv_goto (tgt := 40) hx hb dX9_rings_104 (by decide) ?_
                    have i27 : (w40_6 + (1 : Int32)).toInt = w40_6.toInt + 1 := t_addr (n := 1) rfl (by omega)
                    exact ih40 w40_5 (w40_6 + (1 : Int32)) _ _ _ (Nat.lt_of_lt_of_le (by omega) (Nat.le_of_lt_succ hm40)) (by omega) hP hS (lv_sub hl [0, 3, 4, 5, 6, 7, 8] rfl) (fun w40_5y w40_6y H9 locs9 ls9 i9 P9 S9 l9 hfe => ko40 w40_5y w40_6y H9 locs9 ls9 i9 P9 S9 l9 (Eq.trans (by rw [f_X9_rings_L40_s, if_neg c24, if_pos c25, if_pos c26]) hfe))
                  · exact absurd (by decide) c26
                · have c25i : (x3 * x1).toInt ≤ ((100 : Int32) * (x1 + w40_6)).toInt := nlt_v rfl rfl c25
                  refine lv_iload hx hb dX9_rings_65 (lv_at hl 0 rfl) ?_
                  refine lv_iload hx hb dX9_rings_67 (lv_at hl 7 rfl) ?_
                  refine lv_iload_n hx hb dX9_rings_69 rfl (lv_at hl 4 rfl) ?_
                  refine lv_imul hx hb dX9_rings_70 ?_
                  refine lv_icmp_gt (tgt := 78) hx hb dX9_rings_71 (by decide) (fun c28 => ?_) (fun c28 => ?_)
                  · have c28i : (x4 * x1).toInt < ((100 : Int32) * (x1 + w40_6)).toInt := lt_v rfl rfl c28
                    refine lv_iconst (v := 0) hx hb dX9_rings_78 (by decide) ?_
                    refine lv_istore (lv' := [(8, .int (0 : Int32)), (7, .int ((100 : Int32) * (x1 + w40_6))), (6, .int w40_6), (5, .int w40_5), (0, .ref o1), (1, .int x1), (2, .int x2), (3, .int x3), (4, .int x4)]) hx hb dX9_rings_79 hl (by decide) rfl (fun ls hl => ?_)
                    refine lv_iload hx hb dX9_rings_81 (lv_at hl 0 rfl) ?_
                    refine lv_if_eq (tgt := 101) hx hb dX9_rings_83 (by decide) (fun c29 => ?_) (fun c29 => ?_)
                    · refine lv_iinc (v := w40_6 + (1 : Int32)) (lv' := [(6, .int (w40_6 + (1 : Int32))), (8, .int (0 : Int32)), (7, .int ((100 : Int32) * (x1 + w40_6))), (5, .int w40_5), (0, .ref o1), (1, .int x1), (2, .int x2), (3, .int x3), (4, .int x4)]) hx hb dX9_rings_101 hl (k := 2) rfl (by rfl) (by decide) rfl (fun ls hl => ?_)
                      refine lv_goto (tgt := 40) hx hb dX9_rings_104 (by decide) ?_
                      have i30 : (w40_6 + (1 : Int32)).toInt = w40_6.toInt + 1 := t_addr (n := 1) rfl (by omega)
                      exact ih40 w40_5 (w40_6 + (1 : Int32)) _ _ _ (Nat.lt_of_lt_of_le (by omega) (Nat.le_of_lt_succ hm40)) (by omega) hP hS (lv_sub hl [0, 3, 4, 5, 6, 7, 8] rfl) (fun w40_5y w40_6y H9 locs9 ls9 i9 P9 S9 l9 hfe => ko40 w40_5y w40_6y H9 locs9 ls9 i9 P9 S9 l9 (Eq.trans (by rw [f_X9_rings_L40_s, if_neg c24, if_neg c25, if_pos c28, if_pos c29]) hfe))
                    · exact absurd (by decide) c29
                  · have c28i : ((100 : Int32) * (x1 + w40_6)).toInt ≤ (x4 * x1).toInt := nlt_v rfl rfl c28
                    refine lv_iconst (v := 1) hx hb dX9_rings_74 (by decide) ?_
                    refine lv_goto (tgt := 79) hx hb dX9_rings_75 (by decide) ?_
                    refine lv_istore (lv' := [(8, .int (1 : Int32)), (7, .int ((100 : Int32) * (x1 + w40_6))), (6, .int w40_6), (5, .int w40_5), (0, .ref o1), (1, .int x1), (2, .int x2), (3, .int x3), (4, .int x4)]) hx hb dX9_rings_79 hl (by decide) rfl (fun ls hl => ?_)
                    refine lv_iload hx hb dX9_rings_81 (lv_at hl 0 rfl) ?_
                    refine lv_if_eq (tgt := 101) hx hb dX9_rings_83 (by decide) (fun c31 => ?_) (fun c31 => ?_)
                    · exact absurd c31 (by decide)
                    · refine lv_iload_n hx hb dX9_rings_86 rfl (lv_at hl 5 rfl) ?_
                      refine lv_iload hx hb dX9_rings_87 (lv_at hl 2 rfl) ?_
                      refine lv_iload_n hx hb dX9_rings_89 rfl (lv_at hl 6 rfl) ?_
                      have hFc := free_all hD hS hA
                      refine va_calli (va_runS (As := [.int x1, .int w40_6, .int x2]) (rest := []) ⟨hx, hb, hml, hown, hts⟩ (c_X9_planetSign l (e0 := e0) (mi := mi) (cy := cy) (X := X) (D := D) S _ x1 w40_6 x2) (cwS 3 hts gX9_rings_X9_planetSign rfl rfl rfl hd_X9_planetSign ⟨Nat.le_of_ble_eq_true rfl, Nat.le_of_ble_eq_true rfl⟩) (pSo hP hK hD hN hOU hS hFc) rfl rfl hl.1 rfl (lv_room (Nat.le_of_ble_eq_true rfl)) dX9_rings_90 ⟨Nat.le_of_ble_eq_true rfl, Nat.le_of_ble_eq_true rfl⟩) hS (fun q _ h => hFc q h) hFc (fun r32 u t H1 locs ht hvm hw hB hz1 hk1 hS => ?_)
                      have c33 := hw
                      obtain ⟨hP, hD⟩ := wd_post hFc ht hB
                      generalize H1 = H at hP hS ⊢
                      obtain rfl : f_X9_planetSign x1 w40_6 x2 = r32 := c33.symm
                      refine lv_bipush (v := 103) hx hb dX9_rings_93 (by decide +kernel) ?_
                      refine lv_icmp_ne (tgt := 101) hx hb dX9_rings_95 (by decide) (fun c34 => ?_) (fun c34 => ?_)
                      · have c34i : ¬ (f_X9_planetSign x1 w40_6 x2).toInt = 103 := neq_v rfl rfl c34
                        refine lv_iinc (v := w40_6 + (1 : Int32)) (lv' := [(6, .int (w40_6 + (1 : Int32))), (8, .int (1 : Int32)), (7, .int ((100 : Int32) * (x1 + w40_6))), (5, .int w40_5), (0, .ref o1), (1, .int x1), (2, .int x2), (3, .int x3), (4, .int x4)]) hx hb dX9_rings_101 hl (k := 2) rfl (by rfl) (by decide) rfl (fun ls hl => ?_)
                        refine lv_goto (tgt := 40) hx hb dX9_rings_104 (by decide) ?_
                        have i35 : (w40_6 + (1 : Int32)).toInt = w40_6.toInt + 1 := t_addr (n := 1) rfl (by omega)
                        exact ih40 w40_5 (w40_6 + (1 : Int32)) _ _ _ (Nat.lt_of_lt_of_le (by omega) (Nat.le_of_lt_succ hm40)) (by omega) hP hS (lv_sub hl [0, 3, 4, 5, 6, 7, 8] rfl) (fun w40_5y w40_6y H9 locs9 ls9 i9 P9 S9 l9 hfe => ko40 w40_5y w40_6y H9 locs9 ls9 i9 P9 S9 l9 (Eq.trans (by rw [f_X9_rings_L40_s, if_neg c24, if_neg c25, if_neg c28, if_neg c31, if_neg c34]) hfe))
                      · have c34i : (f_X9_planetSign x1 w40_6 x2).toInt = 103 := eq_v rfl rfl c34
                        refine lv_iinc (v := w40_5 + (1 : Int32)) (lv' := [(5, .int (w40_5 + (1 : Int32))), (8, .int (1 : Int32)), (7, .int ((100 : Int32) * (x1 + w40_6))), (6, .int w40_6), (0, .ref o1), (1, .int x1), (2, .int x2), (3, .int x3), (4, .int x4)]) hx hb dX9_rings_98 hl (k := 3) rfl (by rfl) (by decide) rfl (fun ls hl => ?_)
                        refine lv_iinc (v := w40_6 + (1 : Int32)) (lv' := [(6, .int (w40_6 + (1 : Int32))), (5, .int (w40_5 + (1 : Int32))), (8, .int (1 : Int32)), (7, .int ((100 : Int32) * (x1 + w40_6))), (0, .ref o1), (1, .int x1), (2, .int x2), (3, .int x3), (4, .int x4)]) hx hb dX9_rings_101 hl (k := 3) rfl (by rfl) (by decide) rfl (fun ls hl => ?_)
                        refine lv_goto (tgt := 40) hx hb dX9_rings_104 (by decide) ?_
                        have i36 : (w40_6 + (1 : Int32)).toInt = w40_6.toInt + 1 := t_addr (n := 1) rfl (by omega)
                        exact ih40 (w40_5 + (1 : Int32)) (w40_6 + (1 : Int32)) _ _ _ (Nat.lt_of_lt_of_le (by omega) (Nat.le_of_lt_succ hm40)) (by omega) hP hS (lv_sub hl [0, 1, 4, 5, 6, 7, 8] rfl) (fun w40_5y w40_6y H9 locs9 ls9 i9 P9 S9 l9 hfe => ko40 w40_5y w40_6y H9 locs9 ls9 i9 P9 S9 l9 (Eq.trans (by rw [f_X9_rings_L40_s, if_neg c24, if_neg c25, if_neg c28, if_neg c31, if_pos c34]) hfe))
          refine loop40 701 (0 : Int32) (x1 + (1 : Int32)) _ _ _ (by omega) (by omega) hP hS (lv_sub hl [0, 1, 2, 3, 4, 5, 6] rfl) (fun z38 z39 H locs ls hi40 hP hS hl c37 => ?_)
          refine lv_iload hx hb dX9_rings_107 (lv_at hl 1 rfl) ?_
          refine vx_ret ?_
          refine W.widen (k := 4) (n := 24) (Nat.le_of_ble_eq_true rfl) (Nat.le_of_ble_eq_true rfl) ?_
          exact W.iret (v := z38) hx hb hr (fun t ht hW9 => ⟨⟨z38, (), rfl, (by show f_X9_rings S o1 x1 x2 x3 x4 = .ok z38; unfold f_X9_rings; rw [eB_ok c3, eB_ok c7, eB_ok c13, eB_ok c19, l2_eq c37]), wd_end hP hK hD ht hW9.alike⟩, hS.F ht⟩) hS.2.2 dX9_rings_109 hlocks
