def f_X9_balancedShift_L10 (S : wPS) (o1 : Nat) (o2 : Nat) : Nat → Int32 → Int64 → Int32 → Int32 × Int64 × Int32
  | 0, w10_2, w10_3, w10_5 => (w10_2, w10_3, w10_5)
  | n + 1, w10_2, w10_3, w10_5 => if (100 : Int32) < w10_5 then (w10_2, w10_3, w10_5) else if (f_X2_isGoodAt S o1 (f_X9_nearestToZero w10_5)) = (0 : Int32) then f_X9_balancedShift_L10 S o1 o2 n w10_2 w10_3 (w10_5 + (1 : Int32)) else if (f_X2_isGoodAt S o2 (-(f_X9_nearestToZero w10_5))) = (0 : Int32) then f_X9_balancedShift_L10 S o1 o2 n w10_2 w10_3 (w10_5 + (1 : Int32)) else if (0 : Int32) ≤ (lg_cmp (if 0 < ((f_X2_wayAt S o1 (f_X9_nearestToZero w10_5)) - (f_X2_wayAt S o2 (-(f_X9_nearestToZero w10_5)))) then ((f_X2_wayAt S o1 (f_X9_nearestToZero w10_5)) - (f_X2_wayAt S o2 (-(f_X9_nearestToZero w10_5)))) else -((f_X2_wayAt S o1 (f_X9_nearestToZero w10_5)) - (f_X2_wayAt S o2 (-(f_X9_nearestToZero w10_5))))) w10_3) then f_X9_balancedShift_L10 S o1 o2 n w10_2 w10_3 (w10_5 + (1 : Int32)) else f_X9_balancedShift_L10 S o1 o2 n (f_X9_nearestToZero w10_5) (if 0 < ((f_X2_wayAt S o1 (f_X9_nearestToZero w10_5)) - (f_X2_wayAt S o2 (-(f_X9_nearestToZero w10_5)))) then ((f_X2_wayAt S o1 (f_X9_nearestToZero w10_5)) - (f_X2_wayAt S o2 (-(f_X9_nearestToZero w10_5)))) else -((f_X2_wayAt S o1 (f_X9_nearestToZero w10_5)) - (f_X2_wayAt S o2 (-(f_X9_nearestToZero w10_5))))) (w10_5 + (1 : Int32))
theorem f_X9_balancedShift_L10_s (S : wPS) (o1 : Nat) (o2 : Nat) (n : Nat) (w10_2 : Int32) (w10_3 : Int64) (w10_5 : Int32) : f_X9_balancedShift_L10 S o1 o2 (n + 1) w10_2 w10_3 w10_5 = if (100 : Int32) < w10_5 then (w10_2, w10_3, w10_5) else if (f_X2_isGoodAt S o1 (f_X9_nearestToZero w10_5)) = (0 : Int32) then f_X9_balancedShift_L10 S o1 o2 n w10_2 w10_3 (w10_5 + (1 : Int32)) else if (f_X2_isGoodAt S o2 (-(f_X9_nearestToZero w10_5))) = (0 : Int32) then f_X9_balancedShift_L10 S o1 o2 n w10_2 w10_3 (w10_5 + (1 : Int32)) else if (0 : Int32) ≤ (lg_cmp (if 0 < ((f_X2_wayAt S o1 (f_X9_nearestToZero w10_5)) - (f_X2_wayAt S o2 (-(f_X9_nearestToZero w10_5)))) then ((f_X2_wayAt S o1 (f_X9_nearestToZero w10_5)) - (f_X2_wayAt S o2 (-(f_X9_nearestToZero w10_5)))) else -((f_X2_wayAt S o1 (f_X9_nearestToZero w10_5)) - (f_X2_wayAt S o2 (-(f_X9_nearestToZero w10_5))))) w10_3) then f_X9_balancedShift_L10 S o1 o2 n w10_2 w10_3 (w10_5 + (1 : Int32)) else f_X9_balancedShift_L10 S o1 o2 n (f_X9_nearestToZero w10_5) (if 0 < ((f_X2_wayAt S o1 (f_X9_nearestToZero w10_5)) - (f_X2_wayAt S o2 (-(f_X9_nearestToZero w10_5)))) then ((f_X2_wayAt S o1 (f_X9_nearestToZero w10_5)) - (f_X2_wayAt S o2 (-(f_X9_nearestToZero w10_5)))) else -((f_X2_wayAt S o1 (f_X9_nearestToZero w10_5)) - (f_X2_wayAt S o2 (-(f_X9_nearestToZero w10_5))))) (w10_5 + (1 : Int32)) := rfl
def f_X9_balancedShift (S : wPS) (o1 : Nat) (o2 : Nat) : Int32 := l3 (f_X9_balancedShift_L10 S o1 o2 128 (51 : Int32) (9223372036854775807 : Int64) (0 : Int32)) (fun z15 z16 z17 => z15)
set_option maxHeartbeats 4000000 in
set_option maxRecDepth 100000 in
theorem c_X9_balancedShift (l : Launch) {D : va_G} {cy : Nat → ClassId} {X : va_W} (S : wPS) (sz : Nat) (o1 : Nat) (h_o1 : ok2 S o1) (o2 : Nat) (h_o2 : ok2 S o2)  : Met l yX9_balancedShift wsX9_balancedShift ({ frames := 4, cells := 0, slots := 0, locals := 91 }) (va_Pc [.ref o1, .ref o2] (fun U => U.heap.size = sz ∧ WD D cy X (fun _ => True) S U ∧ NW U)) (va_Qi (fun r (_ : Unit) => r = f_X9_balancedShift S o1 o2) (fun _ t => WD D cy X (va_A (X ++ PL cy S) sz) S t) (va_A (X ++ PL cy S) sz)) 0 0 (va_A (X ++ PL cy S) sz) := by
  refine Met.ofW (cc := cX9_balancedShift) (maxL := 9) (ret := (some .int)) (by decide) rfl ?_
  intro p e s m args below meth c s₁ B hml hv
  obtain ⟨rfl, hsz, ⟨hP, hK, hD0⟩, hN⟩ := hv
  have hx := B.exec
  have hb := B.bytes
  have hr := B.returns
  have hts := atoms_spec (ws := wsX9_balancedShift) B.pre
  have hown : s.vm.findClass RX9 = some m.cls := findClass_of_methodNamed B.named
  have hlocks := B.notSynchronized
  subst hsz
  have hD := hD0.self (sz := s.heap.size)
  generalize hAe : va_A (X ++ PL cy S) s.heap.size = A at hD ⊢
  have hA : ∀ q : Nat, s.heap.size ≤ q → A q := fun q h => by rw [← hAe]; exact Or.inr h
  have hS : va_S A s.heap s.heap [] := va_S.rf
  have hl := lv_entry ([.ref o1, .ref o2]) (n := 9) (Nat.le_of_ble_eq_true rfl)
  rw [lg_entry_eq]
  generalize (lg_sl ([.ref o1, .ref o2]) ++ List.replicate (9 - (lg_sl ([.ref o1, .ref o2])).length) Slot.unset).toArray = ls at hl ⊢
  have hl : lv_has ls 9 [(0, .ref o1), (1, .ref o2)] := hl
  refine lv_bipush (v := 51) hx hb dX9_balancedShift_0 (by decide +kernel) ?_
  refine lv_istore_n (lv' := [(2, .int (51 : Int32)), (0, .ref o1), (1, .ref o2)]) hx hb dX9_balancedShift_2 rfl hl (by decide) rfl (fun ls hl => ?_)
  refine lv_ldc2 (own := RX9) (v := 9223372036854775807) hx hb hown (hts (.constantLong RX9 192 (9223372036854775807)) (by decide +kernel)) dX9_balancedShift_3 ?_
  refine lv_lstore_n (lv' := [(3, .long (9223372036854775807 : Int64)), (2, .int (51 : Int32)), (0, .ref o1), (1, .ref o2)]) hx hb dX9_balancedShift_6 rfl hl (by decide) rfl (fun ls hl => ?_)
  refine lv_iconst (v := 0) hx hb dX9_balancedShift_7 (by decide) ?_
  refine lv_istore (lv' := [(5, .int (0 : Int32)), (3, .long (9223372036854775807 : Int64)), (2, .int (51 : Int32)), (0, .ref o1), (1, .ref o2)]) hx hb dX9_balancedShift_8 hl (by decide) rfl (fun ls hl => ?_)
  have loop10 : ∀ (n : Nat) (w10_2 : Int32) (w10_3 : Int64) (w10_5 : Int32) (H : Heap) (locs : List Loc) (ls : Array Slot), ((100 : Int32).toInt + 1 - w10_5.toInt).toNat < n → True → va_P D vwCl (X ++ PL cy S) H → va_S A s.heap H locs → lv_has ls 9 [(5, .int w10_5), (3, .long w10_3), (2, .int w10_2), (0, .ref o1), (1, .ref o2)] → (∀ (w10_2x : Int32) (w10_3x : Int64) (w10_5x : Int32) (H : Heap) (locs : List Loc) (ls : Array Slot), True → va_P D vwCl (X ++ PL cy S) H → va_S A s.heap H locs → lv_has ls 9 [(5, .int w10_5x), (3, .long w10_3x), (2, .int w10_2x), (0, .ref o1), (1, .ref o2)] → f_X9_balancedShift_L10 S o1 o2 n w10_2 w10_3 w10_5 = (w10_2x, w10_3x, w10_5x) → W p l e (headSpec wsX9_balancedShift ({ frames := 4, cells := 0, slots := 0, locals := 91 } : Room)).room s m [.ref o1, .ref o2].toArray below meth c H locs 0 0 (MQ below (va_Qi (fun r (_ : Unit) => r = f_X9_balancedShift S o1 o2) (fun _ t => WD D cy X A S t) A) [.ref o1, .ref o2].toArray s 0 0 A) (F0 m 81 ls [])) → W p l e (headSpec wsX9_balancedShift ({ frames := 4, cells := 0, slots := 0, locals := 91 } : Room)).room s m [.ref o1, .ref o2].toArray below meth c H locs 0 0 (MQ below (va_Qi (fun r (_ : Unit) => r = f_X9_balancedShift S o1 o2) (fun _ t => WD D cy X A S t) A) [.ref o1, .ref o2].toArray s 0 0 A) (F0 m 10 ls []) := by
    intro n
    induction n with
    | zero => intro w10_2 w10_3 w10_5 H locs ls hm; exact absurd hm (Nat.not_lt_zero _)
    | succ n ih10 =>
      intro w10_2 w10_3 w10_5 H locs ls hm hi hP hS hl ko
      refine lv_iload hx hb dX9_balancedShift_10 (lv_at hl 0 rfl) ?_
      refine lv_bipush (v := 100) hx hb dX9_balancedShift_12 (by decide +kernel) ?_
      refine lv_icmp_gt (tgt := 81) hx hb dX9_balancedShift_14 (by decide) (fun c1 => ?_) (fun c1 => ?_)
      · exact ko w10_2 w10_3 w10_5 _ _ _ (hi) hP hS (lv_sub hl [0, 1, 2, 3, 4] rfl) (by rw [f_X9_balancedShift_L10_s, if_pos c1])
      · refine lv_iload hx hb dX9_balancedShift_17 (lv_at hl 0 rfl) ?_
        have hFc := free_all hD hS hA
        refine va_calli (va_runS (As := [.int w10_5]) (rest := []) ⟨hx, hb, hml, hown, hts⟩ (c_X9_nearestToZero l (cy := cy) (X := X) (D := D) S _ w10_5) (cwS 1 hts gX9_balancedShift_X9_nearestToZero rfl rfl rfl (by decide +kernel) ⟨Nat.le_of_ble_eq_true rfl, Nat.le_of_ble_eq_true rfl⟩) ⟨fun a U g mk q => ⟨q.1, q.2.1, q.2.2.1.calling, NW.same (u := U) (U := U.calling g mk a) rfl q.2.2.2⟩, fun U hU hW => ⟨rfl, by rw [hU], wd_pre hP hK hD hU hW, hN.warm hW⟩⟩ rfl rfl hl.1 rfl (lv_room (Nat.le_of_ble_eq_true rfl)) dX9_balancedShift_19 ⟨(Nat.zero_le _), (Nat.zero_le _)⟩) hS (fun q _ h => hFc q h) hFc (fun r2 u t H1 locs ht hvm hw hB hz1 hk1 hS => ?_)
        obtain ⟨hP, hD⟩ := wd_post hFc ht hB
        generalize H1 = H at hP hS ⊢
        obtain rfl : r2 = f_X9_nearestToZero w10_5 := hw
        refine lv_istore (lv' := [(6, .int (f_X9_nearestToZero w10_5)), (5, .int w10_5), (3, .long w10_3), (2, .int w10_2), (0, .ref o1), (1, .ref o2)]) hx hb dX9_balancedShift_22 hl (by decide) rfl (fun ls hl => ?_)
        refine lv_aload_n hx hb dX9_balancedShift_24 rfl (lv_at hl 4 rfl) ?_
        refine lv_iload hx hb dX9_balancedShift_25 (lv_at hl 0 rfl) ?_
        have hFc := free_all hD hS hA
        obtain ⟨k3, gk3, hk3⟩ := wGt (cy := cy) X S h_o1.1.1 h_o1.1.2.1
        refine va_calli (va_runV (As := [.int (f_X9_nearestToZero w10_5)]) (rest := []) ⟨hx, hb, hml, hown, hts⟩ (c_X2_isGoodAt l (cy := cy) (X := X) (D := D) S _ o1 h_o1 (f_X9_nearestToZero w10_5)) (cwV 1 hts gX9_balancedShift_X2_isGoodAt rfl rfl rfl (by decide +kernel) ⟨Nat.le_of_ble_eq_true rfl, Nat.le_of_ble_eq_true rfl⟩) ⟨fun a U g mk q => ⟨q.1, q.2.1, q.2.2.1.calling, NW.same (u := U) (U := U.calling g mk a) rfl q.2.2.2⟩, va_recv hK hP (ci := 6) (q0 := k3) rfl hk3, fun U hU hW => ⟨rfl, by rw [hU], wd_pre hP hK hD hU hW, hN.warm hW⟩⟩ rfl rfl hl.1 rfl (lv_room (Nat.le_of_ble_eq_true rfl)) dX9_balancedShift_27 ⟨(Nat.zero_le _), (Nat.zero_le _)⟩) hS (fun q _ h => hFc q h) hFc (fun r4 u t H1 locs ht hvm hw hB hz1 hk1 hS => ?_)
        obtain ⟨hP, hD⟩ := wd_post hFc ht hB
        generalize H1 = H at hP hS ⊢
        obtain rfl : r4 = f_X2_isGoodAt S o1 (f_X9_nearestToZero w10_5) := hw
        refine lv_if_eq (tgt := 75) hx hb dX9_balancedShift_30 (by decide) (fun c5 => ?_) (fun c5 => ?_)
        · refine lv_iinc (v := w10_5 + (1 : Int32)) (lv' := [(5, .int (w10_5 + (1 : Int32))), (6, .int (f_X9_nearestToZero w10_5)), (3, .long w10_3), (2, .int w10_2), (0, .ref o1), (1, .ref o2)]) hx hb dX9_balancedShift_75 hl (k := 1) rfl (by rfl) (by decide) rfl (fun ls hl => ?_)
          refine lv_goto (tgt := 10) hx hb dX9_balancedShift_78 (by decide) ?_
          exact ih10 w10_2 w10_3 (w10_5 + (1 : Int32)) _ _ _ (Nat.lt_of_lt_of_le (up_le c1 (by decide)) (Nat.le_of_lt_succ hm)) (trivial) hP hS (lv_sub hl [0, 2, 3, 4, 5] rfl) (fun w10_2y w10_3y w10_5y H9 locs9 ls9 i9 P9 S9 l9 hfe => ko w10_2y w10_3y w10_5y H9 locs9 ls9 i9 P9 S9 l9 (Eq.trans (by rw [f_X9_balancedShift_L10_s, if_neg c1, if_pos c5]) hfe))
        · refine lv_aload_n hx hb dX9_balancedShift_33 rfl (lv_at hl 5 rfl) ?_
          refine lv_iload hx hb dX9_balancedShift_34 (lv_at hl 0 rfl) ?_
          refine lv_ineg hx hb dX9_balancedShift_36 ?_
          have hFc := free_all hD hS hA
          obtain ⟨k6, gk6, hk6⟩ := wGt (cy := cy) X S h_o2.1.1 h_o2.1.2.1
          refine va_calli (va_runV (As := [.int (-(f_X9_nearestToZero w10_5))]) (rest := []) ⟨hx, hb, hml, hown, hts⟩ (c_X2_isGoodAt l (cy := cy) (X := X) (D := D) S _ o2 h_o2 (-(f_X9_nearestToZero w10_5))) (cwV 1 hts gX9_balancedShift_X2_isGoodAt rfl rfl rfl (by decide +kernel) ⟨Nat.le_of_ble_eq_true rfl, Nat.le_of_ble_eq_true rfl⟩) ⟨fun a U g mk q => ⟨q.1, q.2.1, q.2.2.1.calling, NW.same (u := U) (U := U.calling g mk a) rfl q.2.2.2⟩, va_recv hK hP (ci := 6) (q0 := k6) rfl hk6, fun U hU hW => ⟨rfl, by rw [hU], wd_pre hP hK hD hU hW, hN.warm hW⟩⟩ rfl rfl hl.1 rfl (lv_room (Nat.le_of_ble_eq_true rfl)) dX9_balancedShift_37 ⟨(Nat.zero_le _), (Nat.zero_le _)⟩) hS (fun q _ h => hFc q h) hFc (fun r7 u t H1 locs ht hvm hw hB hz1 hk1 hS => ?_)
          obtain ⟨hP, hD⟩ := wd_post hFc ht hB
          generalize H1 = H at hP hS ⊢
          obtain rfl : r7 = f_X2_isGoodAt S o2 (-(f_X9_nearestToZero w10_5)) := hw
          refine lv_if_eq (tgt := 75) hx hb dX9_balancedShift_40 (by decide) (fun c8 => ?_) (fun c8 => ?_)
          · refine lv_iinc (v := w10_5 + (1 : Int32)) (lv' := [(5, .int (w10_5 + (1 : Int32))), (6, .int (f_X9_nearestToZero w10_5)), (3, .long w10_3), (2, .int w10_2), (0, .ref o1), (1, .ref o2)]) hx hb dX9_balancedShift_75 hl (k := 1) rfl (by rfl) (by decide) rfl (fun ls hl => ?_)
            refine lv_goto (tgt := 10) hx hb dX9_balancedShift_78 (by decide) ?_
            exact ih10 w10_2 w10_3 (w10_5 + (1 : Int32)) _ _ _ (Nat.lt_of_lt_of_le (up_le c1 (by decide)) (Nat.le_of_lt_succ hm)) (trivial) hP hS (lv_sub hl [0, 2, 3, 4, 5] rfl) (fun w10_2y w10_3y w10_5y H9 locs9 ls9 i9 P9 S9 l9 hfe => ko w10_2y w10_3y w10_5y H9 locs9 ls9 i9 P9 S9 l9 (Eq.trans (by rw [f_X9_balancedShift_L10_s, if_neg c1, if_neg c5, if_pos c8]) hfe))
          · refine lv_aload_n hx hb dX9_balancedShift_43 rfl (lv_at hl 4 rfl) ?_
            refine lv_iload hx hb dX9_balancedShift_44 (lv_at hl 0 rfl) ?_
            have hFc := free_all hD hS hA
            obtain ⟨k9, gk9, hk9⟩ := wGt (cy := cy) X S h_o1.1.1 h_o1.1.2.1
            refine va_calll (va_runV (As := [.int (f_X9_nearestToZero w10_5)]) (rest := []) ⟨hx, hb, hml, hown, hts⟩ (c_X2_wayAt l (cy := cy) (X := X) (D := D) S _ o1 h_o1 (f_X9_nearestToZero w10_5)) (cwV 1 hts gX9_balancedShift_X2_wayAt rfl rfl rfl (by decide +kernel) ⟨Nat.le_of_ble_eq_true rfl, Nat.le_of_ble_eq_true rfl⟩) ⟨fun a U g mk q => ⟨q.1, q.2.1, q.2.2.1.calling, NW.same (u := U) (U := U.calling g mk a) rfl q.2.2.2⟩, va_recv hK hP (ci := 6) (q0 := k9) rfl hk9, fun U hU hW => ⟨rfl, by rw [hU], wd_pre hP hK hD hU hW, hN.warm hW⟩⟩ rfl rfl hl.1 rfl (lv_room (Nat.le_of_ble_eq_true rfl)) dX9_balancedShift_46 ⟨(Nat.zero_le _), (Nat.zero_le _)⟩) hS (fun q _ h => hFc q h) hFc (fun r10 u t H1 locs ht hvm hw hB hz1 hk1 hS => ?_)
            obtain ⟨hP, hD⟩ := wd_post hFc ht hB
            generalize H1 = H at hP hS ⊢
            obtain rfl : r10 = f_X2_wayAt S o1 (f_X9_nearestToZero w10_5) := hw
            refine lv_aload_n hx hb dX9_balancedShift_49 rfl (lv_at hl 5 rfl) ?_
            refine lv_iload hx hb dX9_balancedShift_50 (lv_at hl 0 rfl) ?_
            refine lv_ineg hx hb dX9_balancedShift_52 ?_
            have hFc := free_all hD hS hA
            obtain ⟨k11, gk11, hk11⟩ := wGt (cy := cy) X S h_o2.1.1 h_o2.1.2.1
            refine va_calll (va_runV (As := [.int (-(f_X9_nearestToZero w10_5))]) (rest := [.long (f_X2_wayAt S o1 (f_X9_nearestToZero w10_5))]) ⟨hx, hb, hml, hown, hts⟩ (c_X2_wayAt l (cy := cy) (X := X) (D := D) S _ o2 h_o2 (-(f_X9_nearestToZero w10_5))) (cwV 1 hts gX9_balancedShift_X2_wayAt rfl rfl rfl (by decide +kernel) ⟨Nat.le_of_ble_eq_true rfl, Nat.le_of_ble_eq_true rfl⟩) ⟨fun a U g mk q => ⟨q.1, q.2.1, q.2.2.1.calling, NW.same (u := U) (U := U.calling g mk a) rfl q.2.2.2⟩, va_recv hK hP (ci := 6) (q0 := k11) rfl hk11, fun U hU hW => ⟨rfl, by rw [hU], wd_pre hP hK hD hU hW, hN.warm hW⟩⟩ rfl rfl hl.1 rfl (lv_room (Nat.le_of_ble_eq_true rfl)) dX9_balancedShift_53 ⟨(Nat.zero_le _), (Nat.zero_le _)⟩) hS (fun q _ h => hFc q h) hFc (fun r12 u t H1 locs ht hvm hw hB hz1 hk1 hS => ?_)
            obtain ⟨hP, hD⟩ := wd_post hFc ht hB
            generalize H1 = H at hP hS ⊢
            obtain rfl : r12 = f_X2_wayAt S o2 (-(f_X9_nearestToZero w10_5)) := hw
            refine lv_lsub hx hb dX9_balancedShift_56 ?_
            refine va_mabs_long hx hb (hml.trans hl.1.symm) hown (hts (.methodLink RX9 140 Lib.MathLoose.abs_long.x) (by decide +kernel)) (hts (.static Lib.MathLoose.abs_long.x) (by decide +kernel)) (hts (.initialized "java/lang/Math") (by decide +kernel)) (hts (.code Lib.MathLoose.abs_long.x Lib.MathLoose.abs_long.code 2 (some .long)) (by decide +kernel)) (Nat.le_of_ble_eq_true rfl) (Nat.le_of_ble_eq_true rfl) (Nat.zero_le _) (Nat.zero_le _) dX9_balancedShift_57 ?_
            refine lv_lstore (lv' := [(7, .long (if 0 < ((f_X2_wayAt S o1 (f_X9_nearestToZero w10_5)) - (f_X2_wayAt S o2 (-(f_X9_nearestToZero w10_5)))) then ((f_X2_wayAt S o1 (f_X9_nearestToZero w10_5)) - (f_X2_wayAt S o2 (-(f_X9_nearestToZero w10_5)))) else -((f_X2_wayAt S o1 (f_X9_nearestToZero w10_5)) - (f_X2_wayAt S o2 (-(f_X9_nearestToZero w10_5)))))), (6, .int (f_X9_nearestToZero w10_5)), (5, .int w10_5), (3, .long w10_3), (2, .int w10_2), (0, .ref o1), (1, .ref o2)]) hx hb dX9_balancedShift_60 hl (by decide) rfl (fun ls hl => ?_)
            refine lv_lload hx hb dX9_balancedShift_62 (lv_at hl 0 rfl) ?_
            refine lv_lload_n hx hb dX9_balancedShift_64 rfl (lv_at hl 3 rfl) ?_
            refine W.lcmp hx hb dX9_balancedShift_65 ?_
            refine lv_if_ge (tgt := 75) hx hb dX9_balancedShift_66 (by decide) (fun c13 => ?_) (fun c13 => ?_)
            · refine lv_iinc (v := w10_5 + (1 : Int32)) (lv' := [(5, .int (w10_5 + (1 : Int32))), (7, .long (if 0 < ((f_X2_wayAt S o1 (f_X9_nearestToZero w10_5)) - (f_X2_wayAt S o2 (-(f_X9_nearestToZero w10_5)))) then ((f_X2_wayAt S o1 (f_X9_nearestToZero w10_5)) - (f_X2_wayAt S o2 (-(f_X9_nearestToZero w10_5)))) else -((f_X2_wayAt S o1 (f_X9_nearestToZero w10_5)) - (f_X2_wayAt S o2 (-(f_X9_nearestToZero w10_5)))))), (6, .int (f_X9_nearestToZero w10_5)), (3, .long w10_3), (2, .int w10_2), (0, .ref o1), (1, .ref o2)]) hx hb dX9_balancedShift_75 hl (k := 2) rfl (by rfl) (by decide) rfl (fun ls hl => ?_)
              refine lv_goto (tgt := 10) hx hb dX9_balancedShift_78 (by decide) ?_
              exact ih10 w10_2 w10_3 (w10_5 + (1 : Int32)) _ _ _ (Nat.lt_of_lt_of_le (up_le c1 (by decide)) (Nat.le_of_lt_succ hm)) (trivial) hP hS (lv_sub hl [0, 3, 4, 5, 6] rfl) (fun w10_2y w10_3y w10_5y H9 locs9 ls9 i9 P9 S9 l9 hfe => ko w10_2y w10_3y w10_5y H9 locs9 ls9 i9 P9 S9 l9 (Eq.trans (by rw [f_X9_balancedShift_L10_s, if_neg c1, if_neg c5, if_neg c8, if_pos c13]) hfe))
            · refine lv_lload hx hb dX9_balancedShift_69 (lv_at hl 0 rfl) ?_
              refine lv_lstore_n (lv' := [(3, .long (if 0 < ((f_X2_wayAt S o1 (f_X9_nearestToZero w10_5)) - (f_X2_wayAt S o2 (-(f_X9_nearestToZero w10_5)))) then ((f_X2_wayAt S o1 (f_X9_nearestToZero w10_5)) - (f_X2_wayAt S o2 (-(f_X9_nearestToZero w10_5)))) else -((f_X2_wayAt S o1 (f_X9_nearestToZero w10_5)) - (f_X2_wayAt S o2 (-(f_X9_nearestToZero w10_5)))))), (7, .long (if 0 < ((f_X2_wayAt S o1 (f_X9_nearestToZero w10_5)) - (f_X2_wayAt S o2 (-(f_X9_nearestToZero w10_5)))) then ((f_X2_wayAt S o1 (f_X9_nearestToZero w10_5)) - (f_X2_wayAt S o2 (-(f_X9_nearestToZero w10_5)))) else -((f_X2_wayAt S o1 (f_X9_nearestToZero w10_5)) - (f_X2_wayAt S o2 (-(f_X9_nearestToZero w10_5)))))), (6, .int (f_X9_nearestToZero w10_5)), (5, .int w10_5), (2, .int w10_2), (0, .ref o1), (1, .ref o2)]) hx hb dX9_balancedShift_71 rfl hl (by decide) rfl (fun ls hl => ?_)
              refine lv_iload hx hb dX9_balancedShift_72 (lv_at hl 2 rfl) ?_
              refine lv_istore_n (lv' := [(2, .int (f_X9_nearestToZero w10_5)), (3, .long (if 0 < ((f_X2_wayAt S o1 (f_X9_nearestToZero w10_5)) - (f_X2_wayAt S o2 (-(f_X9_nearestToZero w10_5)))) then ((f_X2_wayAt S o1 (f_X9_nearestToZero w10_5)) - (f_X2_wayAt S o2 (-(f_X9_nearestToZero w10_5)))) else -((f_X2_wayAt S o1 (f_X9_nearestToZero w10_5)) - (f_X2_wayAt S o2 (-(f_X9_nearestToZero w10_5)))))), (7, .long (if 0 < ((f_X2_wayAt S o1 (f_X9_nearestToZero w10_5)) - (f_X2_wayAt S o2 (-(f_X9_nearestToZero w10_5)))) then ((f_X2_wayAt S o1 (f_X9_nearestToZero w10_5)) - (f_X2_wayAt S o2 (-(f_X9_nearestToZero w10_5)))) else -((f_X2_wayAt S o1 (f_X9_nearestToZero w10_5)) - (f_X2_wayAt S o2 (-(f_X9_nearestToZero w10_5)))))), (6, .int (f_X9_nearestToZero w10_5)), (5, .int w10_5), (0, .ref o1), (1, .ref o2)]) hx hb dX9_balancedShift_74 rfl hl (by decide) rfl (fun ls hl => ?_)
              refine lv_iinc (v := w10_5 + (1 : Int32)) (lv' := [(5, .int (w10_5 + (1 : Int32))), (2, .int (f_X9_nearestToZero w10_5)), (3, .long (if 0 < ((f_X2_wayAt S o1 (f_X9_nearestToZero w10_5)) - (f_X2_wayAt S o2 (-(f_X9_nearestToZero w10_5)))) then ((f_X2_wayAt S o1 (f_X9_nearestToZero w10_5)) - (f_X2_wayAt S o2 (-(f_X9_nearestToZero w10_5)))) else -((f_X2_wayAt S o1 (f_X9_nearestToZero w10_5)) - (f_X2_wayAt S o2 (-(f_X9_nearestToZero w10_5)))))), (7, .long (if 0 < ((f_X2_wayAt S o1 (f_X9_nearestToZero w10_5)) - (f_X2_wayAt S o2 (-(f_X9_nearestToZero w10_5)))) then ((f_X2_wayAt S o1 (f_X9_nearestToZero w10_5)) - (f_X2_wayAt S o2 (-(f_X9_nearestToZero w10_5)))) else -((f_X2_wayAt S o1 (f_X9_nearestToZero w10_5)) - (f_X2_wayAt S o2 (-(f_X9_nearestToZero w10_5)))))), (6, .int (f_X9_nearestToZero w10_5)), (0, .ref o1), (1, .ref o2)]) hx hb dX9_balancedShift_75 hl (k := 4) rfl (by rfl) (by decide) rfl (fun ls hl => ?_)
              refine lv_goto (tgt := 10) hx hb dX9_balancedShift_78 (by decide) ?_
              exact ih10 (f_X9_nearestToZero w10_5) (if 0 < ((f_X2_wayAt S o1 (f_X9_nearestToZero w10_5)) - (f_X2_wayAt S o2 (-(f_X9_nearestToZero w10_5)))) then ((f_X2_wayAt S o1 (f_X9_nearestToZero w10_5)) - (f_X2_wayAt S o2 (-(f_X9_nearestToZero w10_5)))) else -((f_X2_wayAt S o1 (f_X9_nearestToZero w10_5)) - (f_X2_wayAt S o2 (-(f_X9_nearestToZero w10_5))))) (w10_5 + (1 : Int32)) _ _ _ (Nat.lt_of_lt_of_le (up_le c1 (by decide)) (Nat.le_of_lt_succ hm)) (trivial) hP hS (lv_sub hl [0, 2, 1, 5, 6] rfl) (fun w10_2y w10_3y w10_5y H9 locs9 ls9 i9 P9 S9 l9 hfe => ko w10_2y w10_3y w10_5y H9 locs9 ls9 i9 P9 S9 l9 (Eq.trans (by rw [f_X9_balancedShift_L10_s, if_neg c1, if_neg c5, if_neg c8, if_neg c13]) hfe))
  refine loop10 128 (51 : Int32) (9223372036854775807 : Int64) (0 : Int32) _ _ _ (by decide) (trivial) hP hS (lv_sub hl [0, 1, 2, 3, 4] rfl) (fun z15 z16 z17 H locs ls hi10 hP hS hl c14 => ?_)
  refine lv_iload_n hx hb dX9_balancedShift_81 rfl (lv_at hl 2 rfl) ?_
  exact W.iret (v := z15) hx hb hr (fun t ht hW => ⟨⟨z15, (), rfl, (by show z15 = f_X9_balancedShift S o1 o2; unfold f_X9_balancedShift; rw [l3_eq c14]), wd_end hP hK hD ht hW.alike⟩, hS.F ht⟩) hS.2.2 dX9_balancedShift_82 hlocks
