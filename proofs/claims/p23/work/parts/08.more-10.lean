def f_X2_turn (S : wPS) (o1 : Nat) (x1 : Int64) (x2 : Int64) : wPS := if (lg_cmp (f_X2_lifeUnder S o1 x1) (0 : Int64)) = (0 : Int32) then S.sJ o1 18 ((S.J o1 18) + (1000000 : Int64)) else if (lg_cmp (f_X2_lifeUnder S o1 x1) (0 : Int64)) ≤ (0 : Int32) then S else S.sJ o1 18 ((S.J o1 18) + (((1000000 : Int64) * x2) / (f_X2_lifeUnder S o1 x1)))
set_option maxHeartbeats 4000000 in
set_option maxRecDepth 100000 in
theorem c_X2_turn (l : Launch) {D : va_G} {cy : Nat → ClassId} {X : va_W} (S : wPS) (sz : Nat) (o1 : Nat) (h_o1 : ok2 S o1) (x1 : Int64) (x2 : Int64) (b1 : ¬ (f_X2_pitchDiameter S o1).toInt64 = 0) (b2 : ¬ (S.I o1 1).toInt64 = 0) (b3 : ¬ (S.I o1 4).toInt64 * (S.I o1 2).toInt64 = 0) (b4 : ¬ (S.I o1 4).toInt64 = 0) (b5 : 0 < lg_cmp x1 ((f_X2_borneTorque S o1).toInt64) → ¬ x1 = 0) : Met l yX2_turn wsX2_turn ({ frames := 4, cells := 0, slots := 0, locals := 106 }) (va_Pc [.ref o1, .long x1, .long x2] (fun U => U.heap.size = sz ∧ WD D cy X (fun _ => True) S U ∧ NW U)) (va_Qv (fun (u : wPS) => u = f_X2_turn S o1 x1 x2 ∧ sh S u) (fun u t => WD D cy X (va_A (X ++ PL cy S) sz) u t) (va_A (X ++ PL cy S) sz)) 0 0 (va_A (X ++ PL cy S) sz) := by
  refine Met.ofW (cc := cX2_turn) (maxL := 7) (ret := none) (by decide) rfl ?_
  intro p e s m args below meth c s₁ B hml hv
  obtain ⟨rfl, hsz, ⟨hP, hK, hD0⟩, hN⟩ := hv
  have hx := B.exec
  have hb := B.bytes
  have hr := B.returns
  have hts := atoms_spec (ws := wsX2_turn) B.pre
  have hown : s.vm.findClass RX2 = some m.cls := findClass_of_methodNamed B.named
  have hlocks := B.notSynchronized
  subst hsz
  have hD := hD0.self (sz := s.heap.size)
  generalize hAe : va_A (X ++ PL cy S) s.heap.size = A at hD ⊢
  have hA : ∀ q : Nat, s.heap.size ≤ q → A q := fun q h => by rw [← hAe]; exact Or.inr h
  have hS : va_S A s.heap s.heap [] := va_S.rf
  have hl := lv_entry ([.ref o1, .long x1, .long x2]) (n := 7) (Nat.le_of_ble_eq_true rfl)
  rw [lg_entry_eq]
  generalize (lg_sl ([.ref o1, .long x1, .long x2]) ++ List.replicate (7 - (lg_sl ([.ref o1, .long x1, .long x2])).length) Slot.unset).toArray = ls at hl ⊢
  have hl : lv_has ls 7 [(0, .ref o1), (1, .long x1), (3, .long x2)] := hl
  refine lv_aload_n hx hb dX2_turn_0 rfl (lv_at hl 0 rfl) ?_
  refine lv_lload_n hx hb dX2_turn_1 rfl (lv_at hl 1 rfl) ?_
  have hFc := free_all hD hS hA
  obtain ⟨k1, gk1, hk1⟩ := wGt (cy := cy) X S h_o1.1.1 h_o1.1.2.1
  refine va_calll (va_runV (As := [.long x1]) (rest := []) ⟨hx, hb, hml, hown, hts⟩ (c_X2_lifeUnder l (cy := cy) (X := X) (D := D) S _ o1 h_o1 x1 b1 b2 b3 b4 b5) (cwV 1 hts gX2_turn_X2_lifeUnder rfl rfl rfl (by decide +kernel) ⟨Nat.le_of_ble_eq_true rfl, Nat.le_of_ble_eq_true rfl⟩) ⟨fun a U g mk q => ⟨q.1, q.2.1, q.2.2.1.calling, NW.same (u := U) (U := U.calling g mk a) rfl q.2.2.2⟩, va_recv hK hP (ci := 6) (q0 := k1) rfl hk1, fun U hU hW => ⟨rfl, by rw [hU], wd_pre hP hK hD hU hW, hN.warm hW⟩⟩ rfl rfl hl.1 rfl (lv_room (Nat.le_of_ble_eq_true rfl)) dX2_turn_2 ⟨(Nat.zero_le _), (Nat.zero_le _)⟩) hS (fun q _ h => hFc q h) hFc (fun r2 u t H1 locs ht hvm hw hB hz1 hk1 hS => ?_)
  obtain ⟨hP, hD⟩ := wd_post hFc ht hB
  generalize H1 = H at hP hS ⊢
  obtain rfl : r2 = f_X2_lifeUnder S o1 x1 := hw
  refine lv_lstore (lv' := [(5, .long (f_X2_lifeUnder S o1 x1)), (0, .ref o1), (1, .long x1), (3, .long x2)]) hx hb dX2_turn_5 hl (by decide) rfl (fun ls hl => ?_)
  refine lv_lload hx hb dX2_turn_7 (lv_at hl 0 rfl) ?_
  refine lv_lconst (v := 0) hx hb dX2_turn_9 (by decide) ?_
  refine W.lcmp hx hb dX2_turn_10 ?_
  refine lv_if_ne (tgt := 29) hx hb dX2_turn_11 (by decide) (fun c3 => ?_) (fun c3 => ?_)
  · refine lv_lload hx hb dX2_turn_29 (lv_at hl 0 rfl) ?_
    refine lv_lconst (v := 0) hx hb dX2_turn_31 (by decide) ?_
    refine W.lcmp hx hb dX2_turn_32 ?_
    refine lv_if_le (tgt := 53) hx hb dX2_turn_33 (by decide) (fun c4 => ?_) (fun c4 => ?_)
    · exact W.vret hx hb hr (fun t ht hW => ⟨⟨S, rfl, (⟨(by show S = f_X2_turn S o1 x1 x2; unfold f_X2_turn; rw [if_neg c3, if_pos c4]), (sh.rf S)⟩), wd_end hP hK hD ht hW.alike⟩, hS.F ht⟩) hS.2.2 dX2_turn_53 hlocks
    · refine lv_aload_n hx hb dX2_turn_36 rfl (lv_at hl 1 rfl) ?_
      refine lv_dup hx hb dX2_turn_37 rfl ?_
      obtain ⟨k5, gk5, hk5⟩ := wGt (cy := cy) X S h_o1.1.1 h_o1.1.2.1
      refine va_get (D := D) (ci := 6) (v := .long (S.J o1 18)) (C := RX2) (T := TX2) (N := 20) hx hb hts (by decide +kernel) hown hK hP k5 hk5 rfl 18 (by decide) (hts (.fieldLink RX2 82 "Hobhouse$Gear" "hurt" "J") (by decide +kernel)) (fun _ h9 => h9) rfl dX2_turn_38 ?_
      refine lv_ldc2 (own := RX2) (v := 1000000) hx hb hown (hts (.constantLong RX2 86 (1000000)) (by decide +kernel)) dX2_turn_41 ?_
      refine lv_lload_n hx hb dX2_turn_44 rfl (lv_at hl 3 rfl) ?_
      refine lv_lmul hx hb dX2_turn_45 ?_
      refine lv_lload hx hb dX2_turn_46 (lv_at hl 0 rfl) ?_
      refine lv_ldiv hx hb dX2_turn_48 (ne_cmp (by assumption)) ?_
      refine lv_ladd hx hb dX2_turn_49 ?_
      obtain ⟨k6, gk6, hk6⟩ := wGt (cy := cy) X S h_o1.1.1 h_o1.1.2.1
      refine va_put (D := D) (ci := 6) (v := .long ((S.J o1 18) + (((1000000 : Int64) * x2) / (f_X2_lifeUnder S o1 x1)))) (ty := .long) (C := RX2) (T := TX2) (N := 20) hx hb hts (by decide +kernel) tyX2 tyX2_ok nmX2 hown hK hP hD hS k6 hk6 rfl 18 (by decide) (hts (.fieldLink RX2 82 "Hobhouse$Gear" "hurt" "J") (by decide +kernel)) (fun _ h9 => h9) rfl (by decide +kernel) (rfl) (rfl) (Nat.le_of_ble_eq_true rfl) dX2_turn_50 (fun H locs hP2 hD2 hS => ?_)
      have e9 := wPuJ (cy := cy) (j := 18) (v := (S.J o1 18) + (((1000000 : Int64) * x2) / (f_X2_lifeUnder S o1 x1))) hD h_o1.1.1 h_o1.1.2.1 gk6 rfl
      have hP : va_P D vwCl (X ++ PL cy (S.sJ o1 18 ((S.J o1 18) + (((1000000 : Int64) * x2) / (f_X2_lifeUnder S o1 x1))))) H := by rw [← e9]; exact hP2
      have hD : va_D A (X ++ PL cy (S.sJ o1 18 ((S.J o1 18) + (((1000000 : Int64) * x2) / (f_X2_lifeUnder S o1 x1))))) := by rw [← e9]; exact hD2
      exact W.vret hx hb hr (fun t ht hW => ⟨⟨S.sJ o1 18 ((S.J o1 18) + (((1000000 : Int64) * x2) / (f_X2_lifeUnder S o1 x1))), rfl, (⟨(by show (S.sJ o1 18 ((S.J o1 18) + (((1000000 : Int64) * x2) / (f_X2_lifeUnder S o1 x1)))) = f_X2_turn S o1 x1 x2; unfold f_X2_turn; rw [if_neg c3, if_neg c4]), ((sh.rf S).J o1 18 ((S.J o1 18) + (((1000000 : Int64) * x2) / (f_X2_lifeUnder S o1 x1))))⟩), wd_end hP hK hD ht hW.alike⟩, hS.F ht⟩) hS.2.2 dX2_turn_53 hlocks
  · refine lv_aload_n hx hb dX2_turn_14 rfl (lv_at hl 1 rfl) ?_
    refine lv_dup hx hb dX2_turn_15 rfl ?_
    obtain ⟨k7, gk7, hk7⟩ := wGt (cy := cy) X S h_o1.1.1 h_o1.1.2.1
    refine va_get (D := D) (ci := 6) (v := .long (S.J o1 18)) (C := RX2) (T := TX2) (N := 20) hx hb hts (by decide +kernel) hown hK hP k7 hk7 rfl 18 (by decide) (hts (.fieldLink RX2 82 "Hobhouse$Gear" "hurt" "J") (by decide +kernel)) (fun _ h9 => h9) rfl dX2_turn_16 ?_
    refine lv_ldc2 (own := RX2) (v := 1000000) hx hb hown (hts (.constantLong RX2 86 (1000000)) (by decide +kernel)) dX2_turn_19 ?_
    refine lv_ladd hx hb dX2_turn_22 ?_
    obtain ⟨k8, gk8, hk8⟩ := wGt (cy := cy) X S h_o1.1.1 h_o1.1.2.1
    refine va_put (D := D) (ci := 6) (v := .long ((S.J o1 18) + (1000000 : Int64))) (ty := .long) (C := RX2) (T := TX2) (N := 20) hx hb hts (by decide +kernel) tyX2 tyX2_ok nmX2 hown hK hP hD hS k8 hk8 rfl 18 (by decide) (hts (.fieldLink RX2 82 "Hobhouse$Gear" "hurt" "J") (by decide +kernel)) (fun _ h9 => h9) rfl (by decide +kernel) (rfl) (rfl) (Nat.le_of_ble_eq_true rfl) dX2_turn_23 (fun H locs hP2 hD2 hS => ?_)
    have e9 := wPuJ (cy := cy) (j := 18) (v := (S.J o1 18) + (1000000 : Int64)) hD h_o1.1.1 h_o1.1.2.1 gk8 rfl
    have hP : va_P D vwCl (X ++ PL cy (S.sJ o1 18 ((S.J o1 18) + (1000000 : Int64)))) H := by rw [← e9]; exact hP2
    have hD : va_D A (X ++ PL cy (S.sJ o1 18 ((S.J o1 18) + (1000000 : Int64)))) := by rw [← e9]; exact hD2
    refine lv_goto (tgt := 53) hx hb dX2_turn_26 (by decide) ?_
    exact W.vret hx hb hr (fun t ht hW => ⟨⟨S.sJ o1 18 ((S.J o1 18) + (1000000 : Int64)), rfl, (⟨(by show (S.sJ o1 18 ((S.J o1 18) + (1000000 : Int64))) = f_X2_turn S o1 x1 x2; unfold f_X2_turn; rw [if_pos c3]), ((sh.rf S).J o1 18 ((S.J o1 18) + (1000000 : Int64)))⟩), wd_end hP hK hD ht hW.alike⟩, hS.F ht⟩) hS.2.2 dX2_turn_53 hlocks
