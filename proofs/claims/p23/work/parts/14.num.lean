/-- a gear's numbers, and its chart's arrays -/
def gnum (S : wPS) (o : Nat) : Prop := 6 ≤ (S.I o 1).toInt ∧ (S.I o 1).toInt ≤ 200 ∧ 500 ≤ (S.I o 2).toInt ∧ (S.I o 2).toInt ≤ 10000 ∧ -500 ≤ (S.I o 3).toInt ∧ (S.I o 3).toInt ≤ 500 ∧ 1000 ≤ (S.I o 4).toInt ∧ (S.I o 4).toInt ≤ 99999 ∧ S.n (S.f (S.f o 5) 0) = (S.I o 1).toInt.toNat ∧ S.n (S.f (S.f o 5) 1) = (S.I o 1).toInt.toNat
theorem t_mul {x y : Int32} (h : -2147483648 ≤ x.toInt * y.toInt ∧ x.toInt * y.toInt < 2147483648) : (x * y).toInt = x.toInt * y.toInt := by
  rw [Int32.toInt_mul]
  exact Int.bmod_eq_of_le (by omega) (by omega)
theorem mul_rng {a b l1 h1 l2 h2 : Int} (x : 0 ≤ l1) (y : 0 ≤ l2) (p : l1 ≤ a) (q : a ≤ h1) (r : l2 ≤ b) (s : b ≤ h2) : l1 * l2 ≤ a * b ∧ a * b ≤ h1 * h2 :=
  ⟨Int.mul_le_mul p r y (by omega), Int.mul_le_mul q s (by omega) (by omega)⟩
theorem ne_pos32 {x : Int32} (h : 0 < x.toInt) : ¬ x = 0 := fun e => by
  rw [e] at h
  exact absurd h (by decide)
theorem gn_pitch {S : wPS} {o : Nat} (h : gnum S o) : 3000 ≤ (f_X2_pitchDiameter S o).toInt ∧ (f_X2_pitchDiameter S o).toInt ≤ 2000000 := by
  have h9 := mul_rng (by decide) (by decide) h.1 h.2.1 h.2.2.1 h.2.2.2.1
  unfold f_X2_pitchDiameter
  rw [t_mul (by omega)]
  omega
theorem gn_b1 {S : wPS} {o : Nat} (h : gnum S o) : ¬ (f_X2_pitchDiameter S o).toInt64 = 0 := ne64 (ne_pos32 (by have := (gn_pitch h).1; omega))
theorem gn_b2 {S : wPS} {o : Nat} (h : gnum S o) : ¬ (S.I o 1).toInt64 = 0 := ne64 (ne_pos32 (by have := h.1; omega))
theorem gn_b4 {S : wPS} {o : Nat} (h : gnum S o) : ¬ (S.I o 4).toInt64 = 0 := ne64 (ne_pos32 (by have := h.2.2.2.2.2.2.1; omega))
theorem mul64 {x y : Int32} (h : 0 < x.toInt * y.toInt ∧ x.toInt * y.toInt < 2147483648) : ¬ x.toInt64 * y.toInt64 = 0 := fun e => by
  have h1 : (x.toInt64 * y.toInt64).toInt = (0 : Int64).toInt := by rw [e]
  rw [Int64.toInt_mul, Int32.toInt_toInt64, Int32.toInt_toInt64, Int.bmod_eq_of_le (by omega) (by omega)] at h1
  have h4 : (0 : Int64).toInt = 0 := rfl
  rw [h4] at h1
  omega
theorem gn_b3 {S : wPS} {o : Nat} (h : gnum S o) : ¬ (S.I o 4).toInt64 * (S.I o 2).toInt64 = 0 := by
  have h9 := mul_rng (by decide) (by decide) h.2.2.2.2.2.2.1 h.2.2.2.2.2.2.2.1 h.2.2.1 h.2.2.2.1
  exact mul64 (by omega)
theorem gn_hm {S : wPS} {o : Nat} (h : gnum S o) : ¬ (355 : Int64) * (S.I o 2).toInt64 = 0 := by
  have e : (355 : Int64) = (355 : Int32).toInt64 := rfl
  have h9 := h.2.2.1
  have h8 := h.2.2.2.1
  have e2 : (355 : Int32).toInt = 355 := rfl
  rw [e]
  exact mul64 (by rw [e2]; omega)
def f_X9_bears (S : wPS) (o1 : Nat) (x1 : Int32) : Except String Int32 := eB (f_X9_gearAt S o1 x1) (fun r2 => .ok (f_X2_borneTorque S r2))
set_option maxHeartbeats 4000000 in
set_option maxRecDepth 100000 in
theorem c_X9_bears (l : Launch) (hst : l.stackTraces = false) {D : va_G} {cy : Nat → ClassId} {X : va_W} (S : wPS) (sz : Nat) (o1 : Nat) (h_o1 : ok9 S o1) (x1 : Int32) (hGs : gearsOk S o1) (hgn : ∀ r : Nat, ok2 S r → gnum S r) : vx_Met l yX9_bears wsX9_bears ({ frames := 7, cells := 1, slots := 6, locals := 103 }) (va_Pc [.ref o1, .int x1] (fun U => U.heap.size = sz ∧ WD D cy X (fun _ => True) S U ∧ NW U ∧ TH (va_A (X ++ PL cy S) sz) U)) (va_Qi (fun r (_ : Unit) => f_X9_bears S o1 x1 = .ok r) (fun _ t => WD D cy X (va_A (X ++ PL cy S) sz) S t) (va_A (X ++ PL cy S) sz)) (vx_X (fun (_ : Unit) => True) (fun E _ t => f_X9_bears S o1 x1 = .error E ∧ WD D cy X (va_A (X ++ PL cy S) sz) S t) (va_A (X ++ PL cy S) sz)) 1 6 (va_A (X ++ PL cy S) sz) := by
  refine vx_ofW (cc := cX9_bears) (maxL := 2) (ret := (some .int)) (by decide) rfl ?_
  intro p e s m args below meth c s₁ B hml hno hv
  obtain ⟨rfl, hsz, ⟨hP, hK, hD0⟩, hN, hTH⟩ := hv
  have hx := B.exec
  have hb := B.bytes
  have hr := B.returns
  have hts := atoms_spec (ws := wsX9_bears) B.pre
  have hown : s.vm.findClass RX9 = some m.cls := findClass_of_methodNamed B.named
  have hlocks := B.notSynchronized
  subst hsz
  have hD := hD0.self (sz := s.heap.size)
  generalize hAe : va_A (X ++ PL cy S) s.heap.size = A at hD hTH ⊢
  have hA : ∀ q : Nat, s.heap.size ≤ q → A q := fun q h => by rw [← hAe]; exact Or.inr h
  have hS : va_S A s.heap s.heap [] := va_S.rf
  have hl := lv_entry ([.ref o1, .int x1]) (n := 2) (Nat.le_of_ble_eq_true rfl)
  rw [lg_entry_eq]
  generalize (lg_sl ([.ref o1, .int x1]) ++ List.replicate (2 - (lg_sl ([.ref o1, .int x1])).length) Slot.unset).toArray = ls at hl ⊢
  have hl : lv_has ls 2 [(0, .ref o1), (1, .int x1)] := hl
  refine lv_aload_n hx hb dX9_bears_0 rfl (lv_at hl 0 rfl) ?_
  refine lv_iload_n hx hb dX9_bears_1 rfl (lv_at hl 1 rfl) ?_
  have hFc := free_all hD hS hA
  obtain ⟨k1, gk1, hk1⟩ := wGt (cy := cy) X S h_o1.1.1 h_o1.1.2.1
  refine vx_callq (vx_runV (As := [.int x1]) (rest := []) ⟨hx, hb, hml, hown, hts⟩ (c_X9_gearAt l hst (cy := cy) (X := X) (D := D) S _ o1 h_o1 x1 hGs) (cwV 1 hts gX9_bears_X9_gearAt rfl rfl rfl (by decide +kernel) ⟨Nat.le_of_ble_eq_true rfl, Nat.le_of_ble_eq_true rfl⟩) ⟨fun a U g mk q => ⟨q.1, q.2.1, q.2.2.1.calling, NW.same (u := U) (U := U.calling g mk a) rfl q.2.2.2.1, q.2.2.2.2.calling⟩, va_recv hK hP (ci := 13) (q0 := k1) rfl hk1, fun U hU hW => ⟨rfl, by rw [hU], wd_pre hP hK hD hU hW, hN.warm hW, th_pre hTH hS hFc hU hW⟩⟩ rfl rfl hl.1 rfl (lv_room (Nat.le_of_ble_eq_true rfl)) dX9_bears_2 ⟨Nat.le_of_ble_eq_true rfl, Nat.le_of_ble_eq_true rfl⟩) hS (fun q _ h => hFc q h) hFc (fun q _ h => hFc q h) (fun E ce q9 u t H1 locs ht hvm hw hB hz1 hk1 hS hq9 hce hcl => ?_) (fun r2 u t H1 locs ht hvm hw hB hz1 hk1 hS => ?_)
  · obtain ⟨c3, hB2⟩ := hB
    obtain ⟨hP, hD⟩ := wd_post hFc ht hB2
    exact vx_out (fun x h => (hno x h).elim) hlocks hq9 hce hcl (fun t2 ht2 hA2 => ⟨(), trivial, ⟨(by show f_X9_bears S o1 x1 = .error E; unfold f_X9_bears; rw [eB_er c3]), wd_end hP hK hD ht2 hA2⟩, hS.F ht2⟩) hS.2.2 (Nat.le_of_ble_eq_true rfl) (Nat.le_of_ble_eq_true rfl)
  · obtain ⟨r2, rfl, c4, o5⟩ := hw
    obtain ⟨hP, hD⟩ := wd_post hFc ht hB
    generalize H1 = H at hP hS ⊢
    refine W.eq (g2 := F0 m 5 ls [.ref r2]) rfl ?_
    have hFc := free_all hD hS hA
    obtain ⟨k6, gk6, hk6⟩ := wGt (cy := cy) X S o5.1.1 o5.1.2.1
    refine va_calli (va_runV (As := []) (rest := []) ⟨hx, hb, hml, hown, hts⟩ (c_X2_borneTorque l (cy := cy) (X := X) (D := D) S _ r2 o5 (gn_b1 (hgn _ o5)) (gn_b2 (hgn _ o5)) (gn_b3 (hgn _ o5)) (gn_b4 (hgn _ o5))) (cwV 0 hts gX9_bears_X2_borneTorque rfl rfl rfl (by decide +kernel) ⟨Nat.le_of_ble_eq_true rfl, Nat.le_of_ble_eq_true rfl⟩) ⟨fun a U g mk q => ⟨q.1, q.2.1, q.2.2.1.calling, NW.same (u := U) (U := U.calling g mk a) rfl q.2.2.2⟩, va_recv hK hP (ci := 6) (q0 := k6) rfl hk6, fun U hU hW => ⟨rfl, by rw [hU], wd_pre hP hK hD hU hW, hN.warm hW⟩⟩ rfl rfl hl.1 rfl (lv_room (Nat.le_of_ble_eq_true rfl)) dX9_bears_5 ⟨Nat.le_of_ble_eq_true rfl, Nat.le_of_ble_eq_true rfl⟩) hS (fun q _ h => hFc q h) hFc (fun r7 u t H1 locs ht hvm hw hB hz1 hk1 hS => ?_)
    obtain ⟨hP, hD⟩ := wd_post hFc ht hB
    generalize H1 = H at hP hS ⊢
    obtain rfl : r7 = f_X2_borneTorque S r2 := hw
    refine vx_ret ?_
    refine W.widen (k := 1) (n := 6) (Nat.le_of_ble_eq_true rfl) (Nat.le_of_ble_eq_true rfl) ?_
    exact W.iret (v := f_X2_borneTorque S r2) hx hb hr (fun t ht hW => ⟨⟨f_X2_borneTorque S r2, (), rfl, (by show f_X9_bears S o1 x1 = .ok (f_X2_borneTorque S r2); unfold f_X9_bears; rw [eB_ok c4]), wd_end hP hK hD ht hW.alike⟩, hS.F ht⟩) hS.2.2 dX9_bears_8 hlocks
def f_X9_harden (S : wPS) (o1 : Nat) (x1 : Int32) (x2 : Int32) (x3 : Int32) : Except String (Int32 × wPS) := eB (f_X9_gearAt S o1 x1) (fun r2 => eB (f_X9_needRange x2 (1 : Int32) (99 : Int32)) (fun _ => if (f_X2_isWhole S r2) = (0 : Int32) then eB (f_X9_allowOnly (0 : Int32)) (fun _ => .ok ((f_X2_heat S r2 x2 x3).1, (f_X2_heat S r2 x2 x3).2)) else if (S.I r2 13) = (0 : Int32) then eB (f_X9_allowOnly (1 : Int32)) (fun _ => .ok ((f_X2_heat S r2 x2 x3).1, (f_X2_heat S r2 x2 x3).2)) else eB (f_X9_allowOnly (0 : Int32)) (fun _ => .ok ((f_X2_heat S r2 x2 x3).1, (f_X2_heat S r2 x2 x3).2))))
set_option maxHeartbeats 4000000 in
set_option maxRecDepth 100000 in
theorem c_X9_harden (l : Launch) (hst : l.stackTraces = false) {D : va_G} {cy : Nat → ClassId} {X : va_W} (S : wPS) (sz : Nat) (o1 : Nat) (h_o1 : ok9 S o1) (x1 : Int32) (x2 : Int32) (x3 : Int32) (hGs : gearsOk S o1) (hgn : ∀ r : Nat, ok2 S r → gnum S r) : vx_Met l yX9_harden wsX9_harden ({ frames := 7, cells := 3, slots := 18, locals := 104 }) (va_Pc [.ref o1, .int x1, .int x2, .int x3] (fun U => U.heap.size = sz ∧ WD D cy X (fun _ => True) S U ∧ NW U ∧ TH (va_A (X ++ PL cy S) sz) U)) (va_Qi (fun r (u : wPS) => f_X9_harden S o1 x1 x2 x3 = .ok (r, u) ∧ sh S u) (fun u t => WD D cy X (va_A (X ++ PL cy S) sz) u t) (va_A (X ++ PL cy S) sz)) (vx_X (fun (_ : Unit) => True) (fun E _ t => f_X9_harden S o1 x1 x2 x3 = .error E ∧ WD D cy X (va_A (X ++ PL cy S) sz) S t) (va_A (X ++ PL cy S) sz)) 3 18 (va_A (X ++ PL cy S) sz) := by
  refine vx_ofW (cc := cX9_harden) (maxL := 5) (ret := (some .int)) (by decide) rfl ?_
  intro p e s m args below meth c s₁ B hml hno hv
  obtain ⟨rfl, hsz, ⟨hP, hK, hD0⟩, hN, hTH⟩ := hv
  have hx := B.exec
  have hb := B.bytes
  have hr := B.returns
  have hts := atoms_spec (ws := wsX9_harden) B.pre
  have hown : s.vm.findClass RX9 = some m.cls := findClass_of_methodNamed B.named
  have hlocks := B.notSynchronized
  subst hsz
  have hD := hD0.self (sz := s.heap.size)
  generalize hAe : va_A (X ++ PL cy S) s.heap.size = A at hD hTH ⊢
  have hA : ∀ q : Nat, s.heap.size ≤ q → A q := fun q h => by rw [← hAe]; exact Or.inr h
  have hS : va_S A s.heap s.heap [] := va_S.rf
  have hl := lv_entry ([.ref o1, .int x1, .int x2, .int x3]) (n := 5) (Nat.le_of_ble_eq_true rfl)
  rw [lg_entry_eq]
  generalize (lg_sl ([.ref o1, .int x1, .int x2, .int x3]) ++ List.replicate (5 - (lg_sl ([.ref o1, .int x1, .int x2, .int x3])).length) Slot.unset).toArray = ls at hl ⊢
  have hl : lv_has ls 5 [(0, .ref o1), (1, .int x1), (2, .int x2), (3, .int x3)] := hl
  refine lv_aload_n hx hb dX9_harden_0 rfl (lv_at hl 0 rfl) ?_
  refine lv_iload_n hx hb dX9_harden_1 rfl (lv_at hl 1 rfl) ?_
  have hFc := free_all hD hS hA
  obtain ⟨k1, gk1, hk1⟩ := wGt (cy := cy) X S h_o1.1.1 h_o1.1.2.1
  refine vx_callq (vx_runV (As := [.int x1]) (rest := []) ⟨hx, hb, hml, hown, hts⟩ (c_X9_gearAt l hst (cy := cy) (X := X) (D := D) S _ o1 h_o1 x1 hGs) (cwV 1 hts gX9_harden_X9_gearAt rfl rfl rfl (by decide +kernel) ⟨Nat.le_of_ble_eq_true rfl, Nat.le_of_ble_eq_true rfl⟩) ⟨fun a U g mk q => ⟨q.1, q.2.1, q.2.2.1.calling, NW.same (u := U) (U := U.calling g mk a) rfl q.2.2.2.1, q.2.2.2.2.calling⟩, va_recv hK hP (ci := 13) (q0 := k1) rfl hk1, fun U hU hW => ⟨rfl, by rw [hU], wd_pre hP hK hD hU hW, hN.warm hW, th_pre hTH hS hFc hU hW⟩⟩ rfl rfl hl.1 rfl (lv_room (Nat.le_of_ble_eq_true rfl)) dX9_harden_2 ⟨Nat.le_of_ble_eq_true rfl, Nat.le_of_ble_eq_true rfl⟩) hS (fun q _ h => hFc q h) hFc (fun q _ h => hFc q h) (fun E ce q9 u t H1 locs ht hvm hw hB hz1 hk1 hS hq9 hce hcl => ?_) (fun r2 u t H1 locs ht hvm hw hB hz1 hk1 hS => ?_)
  · obtain ⟨c3, hB2⟩ := hB
    obtain ⟨hP, hD⟩ := wd_post hFc ht hB2
    exact vx_out (fun x h => (hno x h).elim) hlocks hq9 hce hcl (fun t2 ht2 hA2 => ⟨(), trivial, ⟨(by show f_X9_harden S o1 x1 x2 x3 = .error E; unfold f_X9_harden; rw [eB_er c3]), wd_end hP hK hD ht2 hA2⟩, hS.F ht2⟩) hS.2.2 (Nat.le_of_ble_eq_true rfl) (Nat.le_of_ble_eq_true rfl)
  · obtain ⟨r2, rfl, c4, o5⟩ := hw
    obtain ⟨hP, hD⟩ := wd_post hFc ht hB
    generalize H1 = H at hP hS ⊢
    refine W.eq (g2 := F0 m 5 ls [.ref r2]) rfl ?_
    refine lv_astore (lv' := [(4, .ref r2), (0, .ref o1), (1, .int x1), (2, .int x2), (3, .int x3)]) hx hb dX9_harden_5 hl (by decide) rfl (fun ls hl => ?_)
    refine lv_iload_n hx hb dX9_harden_7 rfl (lv_at hl 3 rfl) ?_
    refine lv_iconst (v := 1) hx hb dX9_harden_8 (by decide) ?_
    refine lv_bipush (v := 99) hx hb dX9_harden_9 (by decide +kernel) ?_
    have hFc := free_all hD hS hA
    refine vx_callv (vx_runS (As := [.int x2, .int (1 : Int32), .int (99 : Int32)]) (rest := []) ⟨hx, hb, hml, hown, hts⟩ (c_X9_needRange l hst (cy := cy) (X := X) (D := D) S _ x2 (1 : Int32) (99 : Int32)) (cwS 3 hts gX9_harden_X9_needRange rfl rfl rfl (by decide +kernel) ⟨Nat.le_of_ble_eq_true rfl, Nat.le_of_ble_eq_true rfl⟩) ⟨fun a U g mk q => ⟨q.1, q.2.1, q.2.2.1.calling, NW.same (u := U) (U := U.calling g mk a) rfl q.2.2.2.1, q.2.2.2.2.calling⟩, fun U hU hW => ⟨rfl, by rw [hU], wd_pre hP hK hD hU hW, hN.warm hW, th_pre hTH hS hFc hU hW⟩⟩ rfl rfl hl.1 rfl (lv_room (Nat.le_of_ble_eq_true rfl)) dX9_harden_11 ⟨Nat.le_of_ble_eq_true rfl, Nat.le_of_ble_eq_true rfl⟩) hS (fun q _ h => hFc q h) hFc (fun q _ h => hFc q h) (fun E ce q9 u t H1 locs ht hvm hw hB hz1 hk1 hS hq9 hce hcl => ?_) (fun u t H1 locs ht hvm hw hB hz1 hk1 hS => ?_)
    · obtain ⟨c7, hB2⟩ := hB
      obtain ⟨hP, hD⟩ := wd_post hFc ht hB2
      exact vx_out (fun x h => (hno x h).elim) hlocks hq9 hce hcl (fun t2 ht2 hA2 => ⟨(), trivial, ⟨(by show f_X9_harden S o1 x1 x2 x3 = .error E; unfold f_X9_harden; rw [eB_ok c4, eB_er c7]), wd_end hP hK hD ht2 hA2⟩, hS.F ht2⟩) hS.2.2 (Nat.le_of_ble_eq_true rfl) (Nat.le_of_ble_eq_true rfl)
    · have c8 := hw
      obtain ⟨hP, hD⟩ := wd_post hFc ht hB
      generalize H1 = H at hP hS ⊢
      refine lv_aload hx hb dX9_harden_14 (lv_at hl 0 rfl) ?_
      have hFc := free_all hD hS hA
      obtain ⟨k9, gk9, hk9⟩ := wGt (cy := cy) X S o5.1.1 o5.1.2.1
      refine va_calli (va_runV (As := []) (rest := []) ⟨hx, hb, hml, hown, hts⟩ (c_X2_isWhole l (cy := cy) (X := X) (D := D) S _ r2 o5) (cwV 0 hts gX9_harden_X2_isWhole rfl rfl rfl (by decide +kernel) ⟨Nat.le_of_ble_eq_true rfl, Nat.le_of_ble_eq_true rfl⟩) ⟨fun a U g mk q => ⟨q.1, q.2.1, q.2.2.1.calling, NW.same (u := U) (U := U.calling g mk a) rfl q.2.2.2⟩, va_recv hK hP (ci := 6) (q0 := k9) rfl hk9, fun U hU hW => ⟨rfl, by rw [hU], wd_pre hP hK hD hU hW, hN.warm hW⟩⟩ rfl rfl hl.1 rfl (lv_room (Nat.le_of_ble_eq_true rfl)) dX9_harden_16 ⟨Nat.le_of_ble_eq_true rfl, Nat.le_of_ble_eq_true rfl⟩) hS (fun q _ h => hFc q h) hFc (fun r10 u t H1 locs ht hvm hw hB hz1 hk1 hS => ?_)
      obtain ⟨hP, hD⟩ := wd_post hFc ht hB
      generalize H1 = H at hP hS ⊢
      obtain rfl : r10 = f_X2_isWhole S r2 := hw
      refine lv_if_eq (tgt := 34) hx hb dX9_harden_19 (by decide) (fun c11 => ?_) (fun c11 => ?_)
      · refine lv_iconst (v := 0) hx hb dX9_harden_34 (by decide) ?_
        have hFc := free_all hD hS hA
        refine vx_callv (vx_runS (As := [.int (0 : Int32)]) (rest := []) ⟨hx, hb, hml, hown, hts⟩ (c_X9_allowOnly l hst (cy := cy) (X := X) (D := D) S _ (0 : Int32)) (cwS 1 hts gX9_harden_X9_allowOnly rfl rfl rfl (by decide +kernel) ⟨Nat.le_of_ble_eq_true rfl, Nat.le_of_ble_eq_true rfl⟩) ⟨fun a U g mk q => ⟨q.1, q.2.1, q.2.2.1.calling, NW.same (u := U) (U := U.calling g mk a) rfl q.2.2.2.1, q.2.2.2.2.calling⟩, fun U hU hW => ⟨rfl, by rw [hU], wd_pre hP hK hD hU hW, hN.warm hW, th_pre hTH hS hFc hU hW⟩⟩ rfl rfl hl.1 rfl (lv_room (Nat.le_of_ble_eq_true rfl)) dX9_harden_35 ⟨Nat.le_of_ble_eq_true rfl, Nat.le_of_ble_eq_true rfl⟩) hS (fun q _ h => hFc q h) hFc (fun q _ h => hFc q h) (fun E ce q9 u t H1 locs ht hvm hw hB hz1 hk1 hS hq9 hce hcl => ?_) (fun u t H1 locs ht hvm hw hB hz1 hk1 hS => ?_)
        · obtain ⟨c13, hB2⟩ := hB
          obtain ⟨hP, hD⟩ := wd_post hFc ht hB2
          exact vx_out (fun x h => (hno x h).elim) hlocks hq9 hce hcl (fun t2 ht2 hA2 => ⟨(), trivial, ⟨(by show f_X9_harden S o1 x1 x2 x3 = .error E; unfold f_X9_harden; rw [eB_ok c4, eB_ok c8, if_pos c11, eB_er c13]), wd_end hP hK hD ht2 hA2⟩, hS.F ht2⟩) hS.2.2 (Nat.le_of_ble_eq_true rfl) (Nat.le_of_ble_eq_true rfl)
        · have c14 := hw
          obtain ⟨hP, hD⟩ := wd_post hFc ht hB
          generalize H1 = H at hP hS ⊢
          refine lv_aload hx hb dX9_harden_38 (lv_at hl 0 rfl) ?_
          refine lv_iload_n hx hb dX9_harden_40 rfl (lv_at hl 3 rfl) ?_
          refine lv_iload_n hx hb dX9_harden_41 rfl (lv_at hl 4 rfl) ?_
          have hFc := free_all hD hS hA
          obtain ⟨k15, gk15, hk15⟩ := wGt (cy := cy) X S o5.1.1 o5.1.2.1
          refine va_calli (va_runV (As := [.int x2, .int x3]) (rest := []) ⟨hx, hb, hml, hown, hts⟩ (c_X2_heat l (cy := cy) (X := X) (D := D) S _ r2 o5 x2 x3 (gn_b4 (hgn _ o5))) (cwV 2 hts gX9_harden_X2_heat rfl rfl rfl (by decide +kernel) ⟨Nat.le_of_ble_eq_true rfl, Nat.le_of_ble_eq_true rfl⟩) ⟨fun a U g mk q => ⟨q.1, q.2.1, q.2.2.1.calling, NW.same (u := U) (U := U.calling g mk a) rfl q.2.2.2⟩, va_recv hK hP (ci := 6) (q0 := k15) rfl hk15, fun U hU hW => ⟨rfl, by rw [hU], wd_pre hP hK hD hU hW, hN.warm hW⟩⟩ rfl rfl hl.1 rfl (lv_room (Nat.le_of_ble_eq_true rfl)) dX9_harden_42 ⟨Nat.le_of_ble_eq_true rfl, Nat.le_of_ble_eq_true rfl⟩) hS (fun q _ h => hFc q h) hFc (fun r16 u t H1 locs ht hvm hw hB hz1 hk1 hS => ?_)
          obtain ⟨hP, hD⟩ := wd_post hFc ht hB
          generalize H1 = H at hP hS ⊢
          obtain ⟨hw1, shq17⟩ := hw
          obtain rfl : r16 = (f_X2_heat S r2 x2 x3).1 := congrArg Prod.fst hw1
          obtain rfl : u = (f_X2_heat S r2 x2 x3).2 := congrArg Prod.snd hw1
          refine vx_ret ?_
          refine W.widen (k := 3) (n := 18) (Nat.le_of_ble_eq_true rfl) (Nat.le_of_ble_eq_true rfl) ?_
          exact W.iret (v := (f_X2_heat S r2 x2 x3).1) hx hb hr (fun t ht hW => ⟨⟨(f_X2_heat S r2 x2 x3).1, (f_X2_heat S r2 x2 x3).2, rfl, (⟨(by show f_X9_harden S o1 x1 x2 x3 = .ok ((f_X2_heat S r2 x2 x3).1, (f_X2_heat S r2 x2 x3).2); unfold f_X9_harden; rw [eB_ok c4, eB_ok c8, if_pos c11, eB_ok c14]), shq17⟩), wd_end hP hK hD ht hW.alike⟩, hS.F ht⟩) hS.2.2 dX9_harden_45 hlocks
      · refine lv_aload hx hb dX9_harden_22 (lv_at hl 0 rfl) ?_
        obtain ⟨k18, gk18, hk18⟩ := wGt (cy := cy) X S o5.1.1 o5.1.2.1
        refine va_get (D := D) (ci := 6) (v := .int (S.I r2 13)) (C := RX2) (T := TX2) (N := 20) hx hb hts (by decide +kernel) hown hK hP k18 hk18 rfl 13 (by decide) (hts (.fieldLink RX9 314 "Hobhouse$Gear" "isHardened" "Z") (by decide +kernel)) (fun _ h9 => h9) rfl dX9_harden_24 ?_
        refine lv_if_ne (tgt := 34) hx hb dX9_harden_27 (by decide) (fun c19 => ?_) (fun c19 => ?_)
        · refine lv_iconst (v := 0) hx hb dX9_harden_34 (by decide) ?_
          have hFc := free_all hD hS hA
          refine vx_callv (vx_runS (As := [.int (0 : Int32)]) (rest := []) ⟨hx, hb, hml, hown, hts⟩ (c_X9_allowOnly l hst (cy := cy) (X := X) (D := D) S _ (0 : Int32)) (cwS 1 hts gX9_harden_X9_allowOnly rfl rfl rfl (by decide +kernel) ⟨Nat.le_of_ble_eq_true rfl, Nat.le_of_ble_eq_true rfl⟩) ⟨fun a U g mk q => ⟨q.1, q.2.1, q.2.2.1.calling, NW.same (u := U) (U := U.calling g mk a) rfl q.2.2.2.1, q.2.2.2.2.calling⟩, fun U hU hW => ⟨rfl, by rw [hU], wd_pre hP hK hD hU hW, hN.warm hW, th_pre hTH hS hFc hU hW⟩⟩ rfl rfl hl.1 rfl (lv_room (Nat.le_of_ble_eq_true rfl)) dX9_harden_35 ⟨Nat.le_of_ble_eq_true rfl, Nat.le_of_ble_eq_true rfl⟩) hS (fun q _ h => hFc q h) hFc (fun q _ h => hFc q h) (fun E ce q9 u t H1 locs ht hvm hw hB hz1 hk1 hS hq9 hce hcl => ?_) (fun u t H1 locs ht hvm hw hB hz1 hk1 hS => ?_)
          · obtain ⟨c21, hB2⟩ := hB
            obtain ⟨hP, hD⟩ := wd_post hFc ht hB2
            exact vx_out (fun x h => (hno x h).elim) hlocks hq9 hce hcl (fun t2 ht2 hA2 => ⟨(), trivial, ⟨(by show f_X9_harden S o1 x1 x2 x3 = .error E; unfold f_X9_harden; rw [eB_ok c4, eB_ok c8, if_neg c11, if_neg c19, eB_er c21]), wd_end hP hK hD ht2 hA2⟩, hS.F ht2⟩) hS.2.2 (Nat.le_of_ble_eq_true rfl) (Nat.le_of_ble_eq_true rfl)
          · have c22 := hw
            obtain ⟨hP, hD⟩ := wd_post hFc ht hB
            generalize H1 = H at hP hS ⊢
            refine lv_aload hx hb dX9_harden_38 (lv_at hl 0 rfl) ?_
            refine lv_iload_n hx hb dX9_harden_40 rfl (lv_at hl 3 rfl) ?_
            refine lv_iload_n hx hb dX9_harden_41 rfl (lv_at hl 4 rfl) ?_
            have hFc := free_all hD hS hA
            obtain ⟨k23, gk23, hk23⟩ := wGt (cy := cy) X S o5.1.1 o5.1.2.1
            refine va_calli (va_runV (As := [.int x2, .int x3]) (rest := []) ⟨hx, hb, hml, hown, hts⟩ (c_X2_heat l (cy := cy) (X := X) (D := D) S _ r2 o5 x2 x3 (gn_b4 (hgn _ o5))) (cwV 2 hts gX9_harden_X2_heat rfl rfl rfl (by decide +kernel) ⟨Nat.le_of_ble_eq_true rfl, Nat.le_of_ble_eq_true rfl⟩) ⟨fun a U g mk q => ⟨q.1, q.2.1, q.2.2.1.calling, NW.same (u := U) (U := U.calling g mk a) rfl q.2.2.2⟩, va_recv hK hP (ci := 6) (q0 := k23) rfl hk23, fun U hU hW => ⟨rfl, by rw [hU], wd_pre hP hK hD hU hW, hN.warm hW⟩⟩ rfl rfl hl.1 rfl (lv_room (Nat.le_of_ble_eq_true rfl)) dX9_harden_42 ⟨Nat.le_of_ble_eq_true rfl, Nat.le_of_ble_eq_true rfl⟩) hS (fun q _ h => hFc q h) hFc (fun r24 u t H1 locs ht hvm hw hB hz1 hk1 hS => ?_)
            obtain ⟨hP, hD⟩ := wd_post hFc ht hB
            generalize H1 = H at hP hS ⊢
            obtain ⟨hw1, shq25⟩ := hw
            obtain rfl : r24 = (f_X2_heat S r2 x2 x3).1 := congrArg Prod.fst hw1
            obtain rfl : u = (f_X2_heat S r2 x2 x3).2 := congrArg Prod.snd hw1
            refine vx_ret ?_
            refine W.widen (k := 3) (n := 18) (Nat.le_of_ble_eq_true rfl) (Nat.le_of_ble_eq_true rfl) ?_
            exact W.iret (v := (f_X2_heat S r2 x2 x3).1) hx hb hr (fun t ht hW => ⟨⟨(f_X2_heat S r2 x2 x3).1, (f_X2_heat S r2 x2 x3).2, rfl, (⟨(by show f_X9_harden S o1 x1 x2 x3 = .ok ((f_X2_heat S r2 x2 x3).1, (f_X2_heat S r2 x2 x3).2); unfold f_X9_harden; rw [eB_ok c4, eB_ok c8, if_neg c11, if_neg c19, eB_ok c22]), shq25⟩), wd_end hP hK hD ht hW.alike⟩, hS.F ht⟩) hS.2.2 dX9_harden_45 hlocks
        · refine lv_iconst (v := 1) hx hb dX9_harden_30 (by decide) ?_
          refine lv_goto (tgt := 35) hx hb dX9_harden_31 (by decide) ?_
          have hFc := free_all hD hS hA
          refine vx_callv (vx_runS (As := [.int (1 : Int32)]) (rest := []) ⟨hx, hb, hml, hown, hts⟩ (c_X9_allowOnly l hst (cy := cy) (X := X) (D := D) S _ (1 : Int32)) (cwS 1 hts gX9_harden_X9_allowOnly rfl rfl rfl (by decide +kernel) ⟨Nat.le_of_ble_eq_true rfl, Nat.le_of_ble_eq_true rfl⟩) ⟨fun a U g mk q => ⟨q.1, q.2.1, q.2.2.1.calling, NW.same (u := U) (U := U.calling g mk a) rfl q.2.2.2.1, q.2.2.2.2.calling⟩, fun U hU hW => ⟨rfl, by rw [hU], wd_pre hP hK hD hU hW, hN.warm hW, th_pre hTH hS hFc hU hW⟩⟩ rfl rfl hl.1 rfl (lv_room (Nat.le_of_ble_eq_true rfl)) dX9_harden_35 ⟨Nat.le_of_ble_eq_true rfl, Nat.le_of_ble_eq_true rfl⟩) hS (fun q _ h => hFc q h) hFc (fun q _ h => hFc q h) (fun E ce q9 u t H1 locs ht hvm hw hB hz1 hk1 hS hq9 hce hcl => ?_) (fun u t H1 locs ht hvm hw hB hz1 hk1 hS => ?_)
          · obtain ⟨c27, hB2⟩ := hB
            obtain ⟨hP, hD⟩ := wd_post hFc ht hB2
            exact vx_out (fun x h => (hno x h).elim) hlocks hq9 hce hcl (fun t2 ht2 hA2 => ⟨(), trivial, ⟨(by show f_X9_harden S o1 x1 x2 x3 = .error E; unfold f_X9_harden; rw [eB_ok c4, eB_ok c8, if_neg c11, if_pos c19, eB_er c27]), wd_end hP hK hD ht2 hA2⟩, hS.F ht2⟩) hS.2.2 (Nat.le_of_ble_eq_true rfl) (Nat.le_of_ble_eq_true rfl)
          · have c28 := hw
            obtain ⟨hP, hD⟩ := wd_post hFc ht hB
            generalize H1 = H at hP hS ⊢
            refine lv_aload hx hb dX9_harden_38 (lv_at hl 0 rfl) ?_
            refine lv_iload_n hx hb dX9_harden_40 rfl (lv_at hl 3 rfl) ?_
            refine lv_iload_n hx hb dX9_harden_41 rfl (lv_at hl 4 rfl) ?_
            have hFc := free_all hD hS hA
            obtain ⟨k29, gk29, hk29⟩ := wGt (cy := cy) X S o5.1.1 o5.1.2.1
            refine va_calli (va_runV (As := [.int x2, .int x3]) (rest := []) ⟨hx, hb, hml, hown, hts⟩ (c_X2_heat l (cy := cy) (X := X) (D := D) S _ r2 o5 x2 x3 (gn_b4 (hgn _ o5))) (cwV 2 hts gX9_harden_X2_heat rfl rfl rfl (by decide +kernel) ⟨Nat.le_of_ble_eq_true rfl, Nat.le_of_ble_eq_true rfl⟩) ⟨fun a U g mk q => ⟨q.1, q.2.1, q.2.2.1.calling, NW.same (u := U) (U := U.calling g mk a) rfl q.2.2.2⟩, va_recv hK hP (ci := 6) (q0 := k29) rfl hk29, fun U hU hW => ⟨rfl, by rw [hU], wd_pre hP hK hD hU hW, hN.warm hW⟩⟩ rfl rfl hl.1 rfl (lv_room (Nat.le_of_ble_eq_true rfl)) dX9_harden_42 ⟨Nat.le_of_ble_eq_true rfl, Nat.le_of_ble_eq_true rfl⟩) hS (fun q _ h => hFc q h) hFc (fun r30 u t H1 locs ht hvm hw hB hz1 hk1 hS => ?_)
            obtain ⟨hP, hD⟩ := wd_post hFc ht hB
            generalize H1 = H at hP hS ⊢
            obtain ⟨hw1, shq31⟩ := hw
            obtain rfl : r30 = (f_X2_heat S r2 x2 x3).1 := congrArg Prod.fst hw1
            obtain rfl : u = (f_X2_heat S r2 x2 x3).2 := congrArg Prod.snd hw1
            refine vx_ret ?_
            refine W.widen (k := 3) (n := 18) (Nat.le_of_ble_eq_true rfl) (Nat.le_of_ble_eq_true rfl) ?_
            exact W.iret (v := (f_X2_heat S r2 x2 x3).1) hx hb hr (fun t ht hW => ⟨⟨(f_X2_heat S r2 x2 x3).1, (f_X2_heat S r2 x2 x3).2, rfl, (⟨(by show f_X9_harden S o1 x1 x2 x3 = .ok ((f_X2_heat S r2 x2 x3).1, (f_X2_heat S r2 x2 x3).2); unfold f_X9_harden; rw [eB_ok c4, eB_ok c8, if_neg c11, if_pos c19, eB_ok c28]), shq31⟩), wd_end hP hK hD ht hW.alike⟩, hS.F ht⟩) hS.2.2 dX9_harden_45 hlocks
def f_X9_overlap (S : wPS) (o1 : Nat) (x1 : Int32) (x2 : Int32) : Except String Int64 := eB (f_X9_gearAt S o1 x1) (fun r2 => eB (f_X9_gearAt S o1 x2) (fun r7 => eB (f_X9_needPair S r2 r7) (fun _ => .ok (f_X9_overlapOf S r2 r7))))
set_option maxHeartbeats 4000000 in
set_option maxRecDepth 100000 in
theorem c_X9_overlap (l : Launch) (hst : l.stackTraces = false) {D : va_G} {cy : Nat → ClassId} {X : va_W} (S : wPS) (sz : Nat) (o1 : Nat) (h_o1 : ok9 S o1) (x1 : Int32) (x2 : Int32) (hGs : gearsOk S o1) (hgn : ∀ r : Nat, ok2 S r → gnum S r) : vx_Met l yX9_overlap wsX9_overlap ({ frames := 8, cells := 3, slots := 18, locals := 123 }) (va_Pc [.ref o1, .int x1, .int x2] (fun U => U.heap.size = sz ∧ WD D cy X (fun _ => True) S U ∧ NW U ∧ TH (va_A (X ++ PL cy S) sz) U)) (va_Ql (fun r (_ : Unit) => f_X9_overlap S o1 x1 x2 = .ok r) (fun _ t => WD D cy X (va_A (X ++ PL cy S) sz) S t) (va_A (X ++ PL cy S) sz)) (vx_X (fun (_ : Unit) => True) (fun E _ t => f_X9_overlap S o1 x1 x2 = .error E ∧ WD D cy X (va_A (X ++ PL cy S) sz) S t) (va_A (X ++ PL cy S) sz)) 3 18 (va_A (X ++ PL cy S) sz) := by
  refine vx_ofW (cc := cX9_overlap) (maxL := 5) (ret := (some .long)) (by decide) rfl ?_
  intro p e s m args below meth c s₁ B hml hno hv
  obtain ⟨rfl, hsz, ⟨hP, hK, hD0⟩, hN, hTH⟩ := hv
  have hx := B.exec
  have hb := B.bytes
  have hr := B.returns
  have hts := atoms_spec (ws := wsX9_overlap) B.pre
  have hown : s.vm.findClass RX9 = some m.cls := findClass_of_methodNamed B.named
  have hlocks := B.notSynchronized
  subst hsz
  have hD := hD0.self (sz := s.heap.size)
  generalize hAe : va_A (X ++ PL cy S) s.heap.size = A at hD hTH ⊢
  have hA : ∀ q : Nat, s.heap.size ≤ q → A q := fun q h => by rw [← hAe]; exact Or.inr h
  have hS : va_S A s.heap s.heap [] := va_S.rf
  have hl := lv_entry ([.ref o1, .int x1, .int x2]) (n := 5) (Nat.le_of_ble_eq_true rfl)
  rw [lg_entry_eq]
  generalize (lg_sl ([.ref o1, .int x1, .int x2]) ++ List.replicate (5 - (lg_sl ([.ref o1, .int x1, .int x2])).length) Slot.unset).toArray = ls at hl ⊢
  have hl : lv_has ls 5 [(0, .ref o1), (1, .int x1), (2, .int x2)] := hl
  refine lv_aload_n hx hb dX9_overlap_0 rfl (lv_at hl 0 rfl) ?_
  refine lv_iload_n hx hb dX9_overlap_1 rfl (lv_at hl 1 rfl) ?_
  have hFc := free_all hD hS hA
  obtain ⟨k1, gk1, hk1⟩ := wGt (cy := cy) X S h_o1.1.1 h_o1.1.2.1
  refine vx_callq (vx_runV (As := [.int x1]) (rest := []) ⟨hx, hb, hml, hown, hts⟩ (c_X9_gearAt l hst (cy := cy) (X := X) (D := D) S _ o1 h_o1 x1 hGs) (cwV 1 hts gX9_overlap_X9_gearAt rfl rfl rfl (by decide +kernel) ⟨Nat.le_of_ble_eq_true rfl, Nat.le_of_ble_eq_true rfl⟩) ⟨fun a U g mk q => ⟨q.1, q.2.1, q.2.2.1.calling, NW.same (u := U) (U := U.calling g mk a) rfl q.2.2.2.1, q.2.2.2.2.calling⟩, va_recv hK hP (ci := 13) (q0 := k1) rfl hk1, fun U hU hW => ⟨rfl, by rw [hU], wd_pre hP hK hD hU hW, hN.warm hW, th_pre hTH hS hFc hU hW⟩⟩ rfl rfl hl.1 rfl (lv_room (Nat.le_of_ble_eq_true rfl)) dX9_overlap_2 ⟨Nat.le_of_ble_eq_true rfl, Nat.le_of_ble_eq_true rfl⟩) hS (fun q _ h => hFc q h) hFc (fun q _ h => hFc q h) (fun E ce q9 u t H1 locs ht hvm hw hB hz1 hk1 hS hq9 hce hcl => ?_) (fun r2 u t H1 locs ht hvm hw hB hz1 hk1 hS => ?_)
  · obtain ⟨c3, hB2⟩ := hB
    obtain ⟨hP, hD⟩ := wd_post hFc ht hB2
    exact vx_out (fun x h => (hno x h).elim) hlocks hq9 hce hcl (fun t2 ht2 hA2 => ⟨(), trivial, ⟨(by show f_X9_overlap S o1 x1 x2 = .error E; unfold f_X9_overlap; rw [eB_er c3]), wd_end hP hK hD ht2 hA2⟩, hS.F ht2⟩) hS.2.2 (Nat.le_of_ble_eq_true rfl) (Nat.le_of_ble_eq_true rfl)
  · obtain ⟨r2, rfl, c4, o5⟩ := hw
    obtain ⟨hP, hD⟩ := wd_post hFc ht hB
    generalize H1 = H at hP hS ⊢
    refine W.eq (g2 := F0 m 5 ls [.ref r2]) rfl ?_
    refine lv_astore_n (lv' := [(3, .ref r2), (0, .ref o1), (1, .int x1), (2, .int x2)]) hx hb dX9_overlap_5 rfl hl (by decide) rfl (fun ls hl => ?_)
    refine lv_aload_n hx hb dX9_overlap_6 rfl (lv_at hl 1 rfl) ?_
    refine lv_iload_n hx hb dX9_overlap_7 rfl (lv_at hl 3 rfl) ?_
    have hFc := free_all hD hS hA
    obtain ⟨k6, gk6, hk6⟩ := wGt (cy := cy) X S h_o1.1.1 h_o1.1.2.1
    refine vx_callq (vx_runV (As := [.int x2]) (rest := []) ⟨hx, hb, hml, hown, hts⟩ (c_X9_gearAt l hst (cy := cy) (X := X) (D := D) S _ o1 h_o1 x2 hGs) (cwV 1 hts gX9_overlap_X9_gearAt rfl rfl rfl (by decide +kernel) ⟨Nat.le_of_ble_eq_true rfl, Nat.le_of_ble_eq_true rfl⟩) ⟨fun a U g mk q => ⟨q.1, q.2.1, q.2.2.1.calling, NW.same (u := U) (U := U.calling g mk a) rfl q.2.2.2.1, q.2.2.2.2.calling⟩, va_recv hK hP (ci := 13) (q0 := k6) rfl hk6, fun U hU hW => ⟨rfl, by rw [hU], wd_pre hP hK hD hU hW, hN.warm hW, th_pre hTH hS hFc hU hW⟩⟩ rfl rfl hl.1 rfl (lv_room (Nat.le_of_ble_eq_true rfl)) dX9_overlap_8 ⟨Nat.le_of_ble_eq_true rfl, Nat.le_of_ble_eq_true rfl⟩) hS (fun q _ h => hFc q h) hFc (fun q _ h => hFc q h) (fun E ce q9 u t H1 locs ht hvm hw hB hz1 hk1 hS hq9 hce hcl => ?_) (fun r7 u t H1 locs ht hvm hw hB hz1 hk1 hS => ?_)
    · obtain ⟨c8, hB2⟩ := hB
      obtain ⟨hP, hD⟩ := wd_post hFc ht hB2
      exact vx_out (fun x h => (hno x h).elim) hlocks hq9 hce hcl (fun t2 ht2 hA2 => ⟨(), trivial, ⟨(by show f_X9_overlap S o1 x1 x2 = .error E; unfold f_X9_overlap; rw [eB_ok c4, eB_er c8]), wd_end hP hK hD ht2 hA2⟩, hS.F ht2⟩) hS.2.2 (Nat.le_of_ble_eq_true rfl) (Nat.le_of_ble_eq_true rfl)
    · obtain ⟨r7, rfl, c9, o10⟩ := hw
      obtain ⟨hP, hD⟩ := wd_post hFc ht hB
      generalize H1 = H at hP hS ⊢
      refine W.eq (g2 := F0 m 11 ls [.ref r7]) rfl ?_
      refine lv_astore (lv' := [(4, .ref r7), (3, .ref r2), (0, .ref o1), (1, .int x1), (2, .int x2)]) hx hb dX9_overlap_11 hl (by decide) rfl (fun ls hl => ?_)
      refine lv_aload_n hx hb dX9_overlap_13 rfl (lv_at hl 1 rfl) ?_
      refine lv_aload hx hb dX9_overlap_14 (lv_at hl 0 rfl) ?_
      have hFc := free_all hD hS hA
      refine vx_callv (vx_runS (As := [.ref r2, .ref r7]) (rest := []) ⟨hx, hb, hml, hown, hts⟩ (c_X9_needPair l hst (cy := cy) (X := X) (D := D) S _ r2 o5 r7 o10) (cwS 2 hts gX9_overlap_X9_needPair rfl rfl rfl (by decide +kernel) ⟨Nat.le_of_ble_eq_true rfl, Nat.le_of_ble_eq_true rfl⟩) ⟨fun a U g mk q => ⟨q.1, q.2.1, q.2.2.1.calling, NW.same (u := U) (U := U.calling g mk a) rfl q.2.2.2.1, q.2.2.2.2.calling⟩, fun U hU hW => ⟨rfl, by rw [hU], wd_pre hP hK hD hU hW, hN.warm hW, th_pre hTH hS hFc hU hW⟩⟩ rfl rfl hl.1 rfl (lv_room (Nat.le_of_ble_eq_true rfl)) dX9_overlap_16 ⟨Nat.le_of_ble_eq_true rfl, Nat.le_of_ble_eq_true rfl⟩) hS (fun q _ h => hFc q h) hFc (fun q _ h => hFc q h) (fun E ce q9 u t H1 locs ht hvm hw hB hz1 hk1 hS hq9 hce hcl => ?_) (fun u t H1 locs ht hvm hw hB hz1 hk1 hS => ?_)
      · obtain ⟨c12, hB2⟩ := hB
        obtain ⟨hP, hD⟩ := wd_post hFc ht hB2
        exact vx_out (fun x h => (hno x h).elim) hlocks hq9 hce hcl (fun t2 ht2 hA2 => ⟨(), trivial, ⟨(by show f_X9_overlap S o1 x1 x2 = .error E; unfold f_X9_overlap; rw [eB_ok c4, eB_ok c9, eB_er c12]), wd_end hP hK hD ht2 hA2⟩, hS.F ht2⟩) hS.2.2 (Nat.le_of_ble_eq_true rfl) (Nat.le_of_ble_eq_true rfl)
      · have c13 := hw
        obtain ⟨hP, hD⟩ := wd_post hFc ht hB
        generalize H1 = H at hP hS ⊢
        refine lv_aload_n hx hb dX9_overlap_19 rfl (lv_at hl 1 rfl) ?_
        refine lv_aload hx hb dX9_overlap_20 (lv_at hl 0 rfl) ?_
        have hFc := free_all hD hS hA
        refine va_calll (va_runS (As := [.ref r2, .ref r7]) (rest := []) ⟨hx, hb, hml, hown, hts⟩ (c_X9_overlapOf l (cy := cy) (X := X) (D := D) S _ r2 o5 r7 o10 (gn_hm (hgn _ o5))) (cwS 2 hts gX9_overlap_X9_overlapOf rfl rfl rfl (by decide +kernel) ⟨Nat.le_of_ble_eq_true rfl, Nat.le_of_ble_eq_true rfl⟩) ⟨fun a U g mk q => ⟨q.1, q.2.1, q.2.2.1.calling, NW.same (u := U) (U := U.calling g mk a) rfl q.2.2.2⟩, fun U hU hW => ⟨rfl, by rw [hU], wd_pre hP hK hD hU hW, hN.warm hW⟩⟩ rfl rfl hl.1 rfl (lv_room (Nat.le_of_ble_eq_true rfl)) dX9_overlap_22 ⟨Nat.le_of_ble_eq_true rfl, Nat.le_of_ble_eq_true rfl⟩) hS (fun q _ h => hFc q h) hFc (fun r14 u t H1 locs ht hvm hw hB hz1 hk1 hS => ?_)
        obtain ⟨hP, hD⟩ := wd_post hFc ht hB
        generalize H1 = H at hP hS ⊢
        obtain rfl : r14 = f_X9_overlapOf S r2 r7 := hw
        refine vx_ret ?_
        refine W.widen (k := 3) (n := 18) (Nat.le_of_ble_eq_true rfl) (Nat.le_of_ble_eq_true rfl) ?_
        exact W.lret (v := f_X9_overlapOf S r2 r7) hx hb hr (fun t ht hW => ⟨⟨f_X9_overlapOf S r2 r7, (), rfl, (by show f_X9_overlap S o1 x1 x2 = .ok (f_X9_overlapOf S r2 r7); unfold f_X9_overlap; rw [eB_ok c4, eB_ok c9, eB_ok c13]), wd_end hP hK hD ht hW.alike⟩, hS.F ht⟩) hS.2.2 dX9_overlap_25 hlocks
def f_X9_runsWell (S : wPS) (o1 : Nat) (x1 : Int32) (x2 : Int32) : Except String Int32 := eB (f_X9_gearAt S o1 x1) (fun r2 => eB (f_X9_gearAt S o1 x2) (fun r7 => eB (f_X9_needPair S r2 r7) (fun _ => if (f_X2_isGoodAt S r2 (S.I r2 7)) = (0 : Int32) then .ok (0 : Int32) else if (f_X2_isGoodAt S r7 (S.I r7 7)) = (0 : Int32) then .ok (0 : Int32) else if (lg_cmp ((f_X9_contactOf S r2 r7) + (f_X9_overlapOf S r2 r7)) (1200 : Int64)) < (0 : Int32) then .ok (0 : Int32) else .ok (1 : Int32))))
set_option maxHeartbeats 4000000 in
set_option maxRecDepth 100000 in
theorem c_X9_runsWell (l : Launch) (hst : l.stackTraces = false) {D : va_G} {cy : Nat → ClassId} {X : va_W} (S : wPS) (sz : Nat) (o1 : Nat) (h_o1 : ok9 S o1) (x1 : Int32) (x2 : Int32) (hGs : gearsOk S o1) (hgn : ∀ r : Nat, ok2 S r → gnum S r) : vx_Met l yX9_runsWell wsX9_runsWell ({ frames := 8, cells := 3, slots := 18, locals := 123 }) (va_Pc [.ref o1, .int x1, .int x2] (fun U => U.heap.size = sz ∧ WD D cy X (fun _ => True) S U ∧ NW U ∧ TH (va_A (X ++ PL cy S) sz) U)) (va_Qi (fun r (_ : Unit) => f_X9_runsWell S o1 x1 x2 = .ok r) (fun _ t => WD D cy X (va_A (X ++ PL cy S) sz) S t) (va_A (X ++ PL cy S) sz)) (vx_X (fun (_ : Unit) => True) (fun E _ t => f_X9_runsWell S o1 x1 x2 = .error E ∧ WD D cy X (va_A (X ++ PL cy S) sz) S t) (va_A (X ++ PL cy S) sz)) 3 18 (va_A (X ++ PL cy S) sz) := by
  refine vx_ofW (cc := cX9_runsWell) (maxL := 5) (ret := (some .boolean)) (by decide) rfl ?_
  intro p e s m args below meth c s₁ B hml hno hv
  obtain ⟨rfl, hsz, ⟨hP, hK, hD0⟩, hN, hTH⟩ := hv
  have hx := B.exec
  have hb := B.bytes
  have hr := B.returns
  have hts := atoms_spec (ws := wsX9_runsWell) B.pre
  have hown : s.vm.findClass RX9 = some m.cls := findClass_of_methodNamed B.named
  have hlocks := B.notSynchronized
  subst hsz
  have hD := hD0.self (sz := s.heap.size)
  generalize hAe : va_A (X ++ PL cy S) s.heap.size = A at hD hTH ⊢
  have hA : ∀ q : Nat, s.heap.size ≤ q → A q := fun q h => by rw [← hAe]; exact Or.inr h
  have hS : va_S A s.heap s.heap [] := va_S.rf
  have hl := lv_entry ([.ref o1, .int x1, .int x2]) (n := 5) (Nat.le_of_ble_eq_true rfl)
  rw [lg_entry_eq]
  generalize (lg_sl ([.ref o1, .int x1, .int x2]) ++ List.replicate (5 - (lg_sl ([.ref o1, .int x1, .int x2])).length) Slot.unset).toArray = ls at hl ⊢
  have hl : lv_has ls 5 [(0, .ref o1), (1, .int x1), (2, .int x2)] := hl
  refine lv_aload_n hx hb dX9_runsWell_0 rfl (lv_at hl 0 rfl) ?_
  refine lv_iload_n hx hb dX9_runsWell_1 rfl (lv_at hl 1 rfl) ?_
  have hFc := free_all hD hS hA
  obtain ⟨k1, gk1, hk1⟩ := wGt (cy := cy) X S h_o1.1.1 h_o1.1.2.1
  refine vx_callq (vx_runV (As := [.int x1]) (rest := []) ⟨hx, hb, hml, hown, hts⟩ (c_X9_gearAt l hst (cy := cy) (X := X) (D := D) S _ o1 h_o1 x1 hGs) (cwV 1 hts gX9_runsWell_X9_gearAt rfl rfl rfl (by decide +kernel) ⟨Nat.le_of_ble_eq_true rfl, Nat.le_of_ble_eq_true rfl⟩) ⟨fun a U g mk q => ⟨q.1, q.2.1, q.2.2.1.calling, NW.same (u := U) (U := U.calling g mk a) rfl q.2.2.2.1, q.2.2.2.2.calling⟩, va_recv hK hP (ci := 13) (q0 := k1) rfl hk1, fun U hU hW => ⟨rfl, by rw [hU], wd_pre hP hK hD hU hW, hN.warm hW, th_pre hTH hS hFc hU hW⟩⟩ rfl rfl hl.1 rfl (lv_room (Nat.le_of_ble_eq_true rfl)) dX9_runsWell_2 ⟨Nat.le_of_ble_eq_true rfl, Nat.le_of_ble_eq_true rfl⟩) hS (fun q _ h => hFc q h) hFc (fun q _ h => hFc q h) (fun E ce q9 u t H1 locs ht hvm hw hB hz1 hk1 hS hq9 hce hcl => ?_) (fun r2 u t H1 locs ht hvm hw hB hz1 hk1 hS => ?_)
  · obtain ⟨c3, hB2⟩ := hB
    obtain ⟨hP, hD⟩ := wd_post hFc ht hB2
    exact vx_out (fun x h => (hno x h).elim) hlocks hq9 hce hcl (fun t2 ht2 hA2 => ⟨(), trivial, ⟨(by show f_X9_runsWell S o1 x1 x2 = .error E; unfold f_X9_runsWell; rw [eB_er c3]), wd_end hP hK hD ht2 hA2⟩, hS.F ht2⟩) hS.2.2 (Nat.le_of_ble_eq_true rfl) (Nat.le_of_ble_eq_true rfl)
  · obtain ⟨r2, rfl, c4, o5⟩ := hw
    obtain ⟨hP, hD⟩ := wd_post hFc ht hB
    generalize H1 = H at hP hS ⊢
    refine W.eq (g2 := F0 m 5 ls [.ref r2]) rfl ?_
    refine lv_astore_n (lv' := [(3, .ref r2), (0, .ref o1), (1, .int x1), (2, .int x2)]) hx hb dX9_runsWell_5 rfl hl (by decide) rfl (fun ls hl => ?_)
    refine lv_aload_n hx hb dX9_runsWell_6 rfl (lv_at hl 1 rfl) ?_
    refine lv_iload_n hx hb dX9_runsWell_7 rfl (lv_at hl 3 rfl) ?_
    have hFc := free_all hD hS hA
    obtain ⟨k6, gk6, hk6⟩ := wGt (cy := cy) X S h_o1.1.1 h_o1.1.2.1
    refine vx_callq (vx_runV (As := [.int x2]) (rest := []) ⟨hx, hb, hml, hown, hts⟩ (c_X9_gearAt l hst (cy := cy) (X := X) (D := D) S _ o1 h_o1 x2 hGs) (cwV 1 hts gX9_runsWell_X9_gearAt rfl rfl rfl (by decide +kernel) ⟨Nat.le_of_ble_eq_true rfl, Nat.le_of_ble_eq_true rfl⟩) ⟨fun a U g mk q => ⟨q.1, q.2.1, q.2.2.1.calling, NW.same (u := U) (U := U.calling g mk a) rfl q.2.2.2.1, q.2.2.2.2.calling⟩, va_recv hK hP (ci := 13) (q0 := k6) rfl hk6, fun U hU hW => ⟨rfl, by rw [hU], wd_pre hP hK hD hU hW, hN.warm hW, th_pre hTH hS hFc hU hW⟩⟩ rfl rfl hl.1 rfl (lv_room (Nat.le_of_ble_eq_true rfl)) dX9_runsWell_8 ⟨Nat.le_of_ble_eq_true rfl, Nat.le_of_ble_eq_true rfl⟩) hS (fun q _ h => hFc q h) hFc (fun q _ h => hFc q h) (fun E ce q9 u t H1 locs ht hvm hw hB hz1 hk1 hS hq9 hce hcl => ?_) (fun r7 u t H1 locs ht hvm hw hB hz1 hk1 hS => ?_)
    · obtain ⟨c8, hB2⟩ := hB
      obtain ⟨hP, hD⟩ := wd_post hFc ht hB2
      exact vx_out (fun x h => (hno x h).elim) hlocks hq9 hce hcl (fun t2 ht2 hA2 => ⟨(), trivial, ⟨(by show f_X9_runsWell S o1 x1 x2 = .error E; unfold f_X9_runsWell; rw [eB_ok c4, eB_er c8]), wd_end hP hK hD ht2 hA2⟩, hS.F ht2⟩) hS.2.2 (Nat.le_of_ble_eq_true rfl) (Nat.le_of_ble_eq_true rfl)
    · obtain ⟨r7, rfl, c9, o10⟩ := hw
      obtain ⟨hP, hD⟩ := wd_post hFc ht hB
      generalize H1 = H at hP hS ⊢
      refine W.eq (g2 := F0 m 11 ls [.ref r7]) rfl ?_
      refine lv_astore (lv' := [(4, .ref r7), (3, .ref r2), (0, .ref o1), (1, .int x1), (2, .int x2)]) hx hb dX9_runsWell_11 hl (by decide) rfl (fun ls hl => ?_)
      refine lv_aload_n hx hb dX9_runsWell_13 rfl (lv_at hl 1 rfl) ?_
      refine lv_aload hx hb dX9_runsWell_14 (lv_at hl 0 rfl) ?_
      have hFc := free_all hD hS hA
      refine vx_callv (vx_runS (As := [.ref r2, .ref r7]) (rest := []) ⟨hx, hb, hml, hown, hts⟩ (c_X9_needPair l hst (cy := cy) (X := X) (D := D) S _ r2 o5 r7 o10) (cwS 2 hts gX9_runsWell_X9_needPair rfl rfl rfl (by decide +kernel) ⟨Nat.le_of_ble_eq_true rfl, Nat.le_of_ble_eq_true rfl⟩) ⟨fun a U g mk q => ⟨q.1, q.2.1, q.2.2.1.calling, NW.same (u := U) (U := U.calling g mk a) rfl q.2.2.2.1, q.2.2.2.2.calling⟩, fun U hU hW => ⟨rfl, by rw [hU], wd_pre hP hK hD hU hW, hN.warm hW, th_pre hTH hS hFc hU hW⟩⟩ rfl rfl hl.1 rfl (lv_room (Nat.le_of_ble_eq_true rfl)) dX9_runsWell_16 ⟨Nat.le_of_ble_eq_true rfl, Nat.le_of_ble_eq_true rfl⟩) hS (fun q _ h => hFc q h) hFc (fun q _ h => hFc q h) (fun E ce q9 u t H1 locs ht hvm hw hB hz1 hk1 hS hq9 hce hcl => ?_) (fun u t H1 locs ht hvm hw hB hz1 hk1 hS => ?_)
      · obtain ⟨c12, hB2⟩ := hB
        obtain ⟨hP, hD⟩ := wd_post hFc ht hB2
        exact vx_out (fun x h => (hno x h).elim) hlocks hq9 hce hcl (fun t2 ht2 hA2 => ⟨(), trivial, ⟨(by show f_X9_runsWell S o1 x1 x2 = .error E; unfold f_X9_runsWell; rw [eB_ok c4, eB_ok c9, eB_er c12]), wd_end hP hK hD ht2 hA2⟩, hS.F ht2⟩) hS.2.2 (Nat.le_of_ble_eq_true rfl) (Nat.le_of_ble_eq_true rfl)
      · have c13 := hw
        obtain ⟨hP, hD⟩ := wd_post hFc ht hB
        generalize H1 = H at hP hS ⊢
        refine lv_aload_n hx hb dX9_runsWell_19 rfl (lv_at hl 1 rfl) ?_
        refine lv_aload_n hx hb dX9_runsWell_20 rfl (lv_at hl 1 rfl) ?_
        obtain ⟨k14, gk14, hk14⟩ := wGt (cy := cy) X S o5.1.1 o5.1.2.1
        refine va_get (D := D) (ci := 6) (v := .int (S.I r2 7)) (C := RX2) (T := TX2) (N := 20) hx hb hts (by decide +kernel) hown hK hP k14 hk14 rfl 7 (by decide) (hts (.fieldLink RX9 89 "Hobhouse$Gear" "shift" "I") (by decide +kernel)) (fun _ h9 => h9) rfl dX9_runsWell_21 ?_
        have hFc := free_all hD hS hA
        obtain ⟨k15, gk15, hk15⟩ := wGt (cy := cy) X S o5.1.1 o5.1.2.1
        refine va_calli (va_runV (As := [.int (S.I r2 7)]) (rest := []) ⟨hx, hb, hml, hown, hts⟩ (c_X2_isGoodAt l (cy := cy) (X := X) (D := D) S _ r2 o5 (S.I r2 7)) (cwV 1 hts gX9_runsWell_X2_isGoodAt rfl rfl rfl (by decide +kernel) ⟨Nat.le_of_ble_eq_true rfl, Nat.le_of_ble_eq_true rfl⟩) ⟨fun a U g mk q => ⟨q.1, q.2.1, q.2.2.1.calling, NW.same (u := U) (U := U.calling g mk a) rfl q.2.2.2⟩, va_recv hK hP (ci := 6) (q0 := k15) rfl hk15, fun U hU hW => ⟨rfl, by rw [hU], wd_pre hP hK hD hU hW, hN.warm hW⟩⟩ rfl rfl hl.1 rfl (lv_room (Nat.le_of_ble_eq_true rfl)) dX9_runsWell_24 ⟨Nat.le_of_ble_eq_true rfl, Nat.le_of_ble_eq_true rfl⟩) hS (fun q _ h => hFc q h) hFc (fun r16 u t H1 locs ht hvm hw hB hz1 hk1 hS => ?_)
        obtain ⟨hP, hD⟩ := wd_post hFc ht hB
        generalize H1 = H at hP hS ⊢
        obtain rfl : r16 = f_X2_isGoodAt S r2 (S.I r2 7) := hw
        refine lv_if_eq (tgt := 67) hx hb dX9_runsWell_27 (by decide) (fun c17 => ?_) (fun c17 => ?_)
        · refine lv_iconst (v := 0) hx hb dX9_runsWell_67 (by decide) ?_
          refine vx_ret ?_
          refine W.widen (k := 3) (n := 18) (Nat.le_of_ble_eq_true rfl) (Nat.le_of_ble_eq_true rfl) ?_
          exact W.zret (v := (0 : Int32)) hx hb hr (by rfl) (fun t ht hW => ⟨⟨(0 : Int32), (), rfl, (by show f_X9_runsWell S o1 x1 x2 = .ok (0 : Int32); unfold f_X9_runsWell; rw [eB_ok c4, eB_ok c9, eB_ok c13, if_pos c17]), wd_end hP hK hD ht hW.alike⟩, hS.F ht⟩) hS.2.2 dX9_runsWell_68 hlocks
        · refine lv_aload hx hb dX9_runsWell_30 (lv_at hl 0 rfl) ?_
          refine lv_aload hx hb dX9_runsWell_32 (lv_at hl 0 rfl) ?_
          obtain ⟨k18, gk18, hk18⟩ := wGt (cy := cy) X S o10.1.1 o10.1.2.1
          refine va_get (D := D) (ci := 6) (v := .int (S.I r7 7)) (C := RX2) (T := TX2) (N := 20) hx hb hts (by decide +kernel) hown hK hP k18 hk18 rfl 7 (by decide) (hts (.fieldLink RX9 89 "Hobhouse$Gear" "shift" "I") (by decide +kernel)) (fun _ h9 => h9) rfl dX9_runsWell_34 ?_
          have hFc := free_all hD hS hA
          obtain ⟨k19, gk19, hk19⟩ := wGt (cy := cy) X S o10.1.1 o10.1.2.1
          refine va_calli (va_runV (As := [.int (S.I r7 7)]) (rest := []) ⟨hx, hb, hml, hown, hts⟩ (c_X2_isGoodAt l (cy := cy) (X := X) (D := D) S _ r7 o10 (S.I r7 7)) (cwV 1 hts gX9_runsWell_X2_isGoodAt rfl rfl rfl (by decide +kernel) ⟨Nat.le_of_ble_eq_true rfl, Nat.le_of_ble_eq_true rfl⟩) ⟨fun a U g mk q => ⟨q.1, q.2.1, q.2.2.1.calling, NW.same (u := U) (U := U.calling g mk a) rfl q.2.2.2⟩, va_recv hK hP (ci := 6) (q0 := k19) rfl hk19, fun U hU hW => ⟨rfl, by rw [hU], wd_pre hP hK hD hU hW, hN.warm hW⟩⟩ rfl rfl hl.1 rfl (lv_room (Nat.le_of_ble_eq_true rfl)) dX9_runsWell_37 ⟨Nat.le_of_ble_eq_true rfl, Nat.le_of_ble_eq_true rfl⟩) hS (fun q _ h => hFc q h) hFc (fun r20 u t H1 locs ht hvm hw hB hz1 hk1 hS => ?_)
          obtain ⟨hP, hD⟩ := wd_post hFc ht hB
          generalize H1 = H at hP hS ⊢
          obtain rfl : r20 = f_X2_isGoodAt S r7 (S.I r7 7) := hw
          refine lv_if_eq (tgt := 67) hx hb dX9_runsWell_40 (by decide) (fun c21 => ?_) (fun c21 => ?_)
          · refine lv_iconst (v := 0) hx hb dX9_runsWell_67 (by decide) ?_
            refine vx_ret ?_
            refine W.widen (k := 3) (n := 18) (Nat.le_of_ble_eq_true rfl) (Nat.le_of_ble_eq_true rfl) ?_
            exact W.zret (v := (0 : Int32)) hx hb hr (by rfl) (fun t ht hW => ⟨⟨(0 : Int32), (), rfl, (by show f_X9_runsWell S o1 x1 x2 = .ok (0 : Int32); unfold f_X9_runsWell; rw [eB_ok c4, eB_ok c9, eB_ok c13, if_neg c17, if_pos c21]), wd_end hP hK hD ht hW.alike⟩, hS.F ht⟩) hS.2.2 dX9_runsWell_68 hlocks
          · refine lv_aload_n hx hb dX9_runsWell_43 rfl (lv_at hl 1 rfl) ?_
            refine lv_aload hx hb dX9_runsWell_44 (lv_at hl 0 rfl) ?_
            have hFc := free_all hD hS hA
            refine va_calll (va_runS (As := [.ref r2, .ref r7]) (rest := []) ⟨hx, hb, hml, hown, hts⟩ (c_X9_contactOf l (cy := cy) (X := X) (D := D) S _ r2 o5 r7 o10) (cwS 2 hts gX9_runsWell_X9_contactOf rfl rfl rfl (by decide +kernel) ⟨Nat.le_of_ble_eq_true rfl, Nat.le_of_ble_eq_true rfl⟩) ⟨fun a U g mk q => ⟨q.1, q.2.1, q.2.2.1.calling, NW.same (u := U) (U := U.calling g mk a) rfl q.2.2.2⟩, fun U hU hW => ⟨rfl, by rw [hU], wd_pre hP hK hD hU hW, hN.warm hW⟩⟩ rfl rfl hl.1 rfl (lv_room (Nat.le_of_ble_eq_true rfl)) dX9_runsWell_46 ⟨Nat.le_of_ble_eq_true rfl, Nat.le_of_ble_eq_true rfl⟩) hS (fun q _ h => hFc q h) hFc (fun r22 u t H1 locs ht hvm hw hB hz1 hk1 hS => ?_)
            obtain ⟨hP, hD⟩ := wd_post hFc ht hB
            generalize H1 = H at hP hS ⊢
            obtain rfl : r22 = f_X9_contactOf S r2 r7 := hw
            refine lv_aload_n hx hb dX9_runsWell_49 rfl (lv_at hl 1 rfl) ?_
            refine lv_aload hx hb dX9_runsWell_50 (lv_at hl 0 rfl) ?_
            have hFc := free_all hD hS hA
            refine va_calll (va_runS (As := [.ref r2, .ref r7]) (rest := [.long (f_X9_contactOf S r2 r7)]) ⟨hx, hb, hml, hown, hts⟩ (c_X9_overlapOf l (cy := cy) (X := X) (D := D) S _ r2 o5 r7 o10 (gn_hm (hgn _ o5))) (cwS 2 hts gX9_runsWell_X9_overlapOf rfl rfl rfl (by decide +kernel) ⟨Nat.le_of_ble_eq_true rfl, Nat.le_of_ble_eq_true rfl⟩) ⟨fun a U g mk q => ⟨q.1, q.2.1, q.2.2.1.calling, NW.same (u := U) (U := U.calling g mk a) rfl q.2.2.2⟩, fun U hU hW => ⟨rfl, by rw [hU], wd_pre hP hK hD hU hW, hN.warm hW⟩⟩ rfl rfl hl.1 rfl (lv_room (Nat.le_of_ble_eq_true rfl)) dX9_runsWell_52 ⟨Nat.le_of_ble_eq_true rfl, Nat.le_of_ble_eq_true rfl⟩) hS (fun q _ h => hFc q h) hFc (fun r23 u t H1 locs ht hvm hw hB hz1 hk1 hS => ?_)
            obtain ⟨hP, hD⟩ := wd_post hFc ht hB
            generalize H1 = H at hP hS ⊢
            obtain rfl : r23 = f_X9_overlapOf S r2 r7 := hw
            refine lv_ladd hx hb dX9_runsWell_55 ?_
            refine lv_ldc2 (own := RX9) (v := 1200) hx hb hown (hts (.constantLong RX9 134 (1200)) (by decide +kernel)) dX9_runsWell_56 ?_
            refine W.lcmp hx hb dX9_runsWell_59 ?_
            refine lv_if_lt (tgt := 67) hx hb dX9_runsWell_60 (by decide) (fun c24 => ?_) (fun c24 => ?_)
            · refine lv_iconst (v := 0) hx hb dX9_runsWell_67 (by decide) ?_
              refine vx_ret ?_
              refine W.widen (k := 3) (n := 18) (Nat.le_of_ble_eq_true rfl) (Nat.le_of_ble_eq_true rfl) ?_
              exact W.zret (v := (0 : Int32)) hx hb hr (by rfl) (fun t ht hW => ⟨⟨(0 : Int32), (), rfl, (by show f_X9_runsWell S o1 x1 x2 = .ok (0 : Int32); unfold f_X9_runsWell; rw [eB_ok c4, eB_ok c9, eB_ok c13, if_neg c17, if_neg c21, if_pos c24]), wd_end hP hK hD ht hW.alike⟩, hS.F ht⟩) hS.2.2 dX9_runsWell_68 hlocks
            · refine lv_iconst (v := 1) hx hb dX9_runsWell_63 (by decide) ?_
              refine lv_goto (tgt := 68) hx hb dX9_runsWell_64 (by decide) ?_
              refine vx_ret ?_
              refine W.widen (k := 3) (n := 18) (Nat.le_of_ble_eq_true rfl) (Nat.le_of_ble_eq_true rfl) ?_
              exact W.zret (v := (1 : Int32)) hx hb hr (by rfl) (fun t ht hW => ⟨⟨(1 : Int32), (), rfl, (by show f_X9_runsWell S o1 x1 x2 = .ok (1 : Int32); unfold f_X9_runsWell; rw [eB_ok c4, eB_ok c9, eB_ok c13, if_neg c17, if_neg c21, if_neg c24]), wd_end hP hK hD ht hW.alike⟩, hS.F ht⟩) hS.2.2 dX9_runsWell_68 hlocks
