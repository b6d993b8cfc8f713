def f_X3_sharpen_L23 (S : wPS) (o1 : Nat) : Nat → wPS → Int32 → wPS × Int32
  | 0, S23, w23_1 => (S23, w23_1)
  | n + 1, S23, w23_1 => if (nI (S.n (S.f o1 2))) ≤ w23_1 then (S23, w23_1) else f_X3_sharpen_L23 S o1 n (S23.si (S.f o1 2) (upd (S23.i (S.f o1 2)) w23_1.toNatClampNeg (0 : Int32))) (w23_1 + (1 : Int32))
theorem f_X3_sharpen_L23_s (S : wPS) (o1 : Nat) (n : Nat) (S23 : wPS) (w23_1 : Int32) : f_X3_sharpen_L23 S o1 (n + 1) S23 w23_1 = if (nI (S.n (S.f o1 2))) ≤ w23_1 then (S23, w23_1) else f_X3_sharpen_L23 S o1 n (S23.si (S.f o1 2) (upd (S23.i (S.f o1 2)) w23_1.toNatClampNeg (0 : Int32))) (w23_1 + (1 : Int32)) := rfl
def f_X3_sharpen (S : wPS) (o1 : Nat) : wPS := l2 (f_X3_sharpen_L23 S o1 1000001 ((S.sI o1 3 ((S.I o1 3) - (100 : Int32))).sI o1 4 (((S.sI o1 3 ((S.I o1 3) - (100 : Int32))).I o1 4) + (1 : Int32))) (0 : Int32)) (fun z11 z12 => z11)
set_option maxHeartbeats 4000000 in
set_option maxRecDepth 100000 in
theorem c_X3_sharpen (l : Launch) {D : va_G} {cy : Nat → ClassId} {X : va_W} (S : wPS) (sz : Nat) (o1 : Nat) (h_o1 : ok3 S o1) (hln : S.n (S.f o1 2) ≤ 1000000) : Met l yX3_sharpen wsX3_sharpen ({ frames := 0, cells := 0, slots := 0, locals := 0 }) (va_Pc [.ref o1] (fun U => U.heap.size = sz ∧ WD D cy X (fun _ => True) S U ∧ NW U)) (va_Qv (fun (u : wPS) => u = f_X3_sharpen S o1 ∧ sh S u) (fun u t => WD D cy X (va_A (X ++ PL cy S) sz) u t) (va_A (X ++ PL cy S) sz)) 0 0 (va_A (X ++ PL cy S) sz) := by
  refine Met.ofW (cc := cX3_sharpen) (maxL := 2) (ret := none) (by decide) rfl ?_
  intro p e s m args below meth c s₁ B hml hv
  obtain ⟨rfl, hsz, ⟨hP, hK, hD0⟩, hN⟩ := hv
  have hx := B.exec
  have hb := B.bytes
  have hr := B.returns
  have hts := atoms_spec (ws := wsX3_sharpen) B.pre
  have hown : s.vm.findClass RX3 = some m.cls := findClass_of_methodNamed B.named
  have hlocks := B.notSynchronized
  subst hsz
  have hD := hD0.self (sz := s.heap.size)
  generalize hAe : va_A (X ++ PL cy S) s.heap.size = A at hD ⊢
  have hA : ∀ q : Nat, s.heap.size ≤ q → A q := fun q h => by rw [← hAe]; exact Or.inr h
  have hS : va_S A s.heap s.heap [] := va_S.rf
  have hl := lv_entry ([.ref o1]) (n := 2) (Nat.le_of_ble_eq_true rfl)
  rw [lg_entry_eq]
  generalize (lg_sl ([.ref o1]) ++ List.replicate (2 - (lg_sl ([.ref o1])).length) Slot.unset).toArray = ls at hl ⊢
  have hl : lv_has ls 2 [(0, .ref o1)] := hl
  refine lv_aload_n hx hb dX3_sharpen_0 rfl (lv_at hl 0 rfl) ?_
  refine lv_dup hx hb dX3_sharpen_1 rfl ?_
  obtain ⟨k1, gk1, hk1⟩ := wGt (cy := cy) X S h_o1.1.1 h_o1.1.2.1
  refine va_get (D := D) (ci := 7) (v := .int (S.I o1 3)) (C := RX3) (T := TX3) (N := 6) hx hb hts (by decide +kernel) hown hK hP k1 hk1 rfl 3 (by decide) (hts (.fieldLink RX3 18 "Hobhouse$Hob" "diameter" "I") (by decide +kernel)) (fun _ h9 => h9) rfl dX3_sharpen_2 ?_
  refine lv_bipush (v := 100) hx hb dX3_sharpen_5 (by decide +kernel) ?_
  refine lv_isub hx hb dX3_sharpen_7 ?_
  obtain ⟨k2, gk2, hk2⟩ := wGt (cy := cy) X S h_o1.1.1 h_o1.1.2.1
  refine va_put (D := D) (ci := 7) (v := .int ((S.I o1 3) - (100 : Int32))) (ty := .int) (C := RX3) (T := TX3) (N := 6) hx hb hts (by decide +kernel) tyX3 tyX3_ok nmX3 hown hK hP hD hS k2 hk2 rfl 3 (by decide) (hts (.fieldLink RX3 18 "Hobhouse$Hob" "diameter" "I") (by decide +kernel)) (fun _ h9 => h9) rfl (by decide +kernel) (rfl) (rfl) (Nat.le_of_ble_eq_true rfl) dX3_sharpen_8 (fun H locs hP2 hD2 hS => ?_)
  have e9 := wPuI (cy := cy) (j := 3) (v := (S.I o1 3) - (100 : Int32)) hD h_o1.1.1 h_o1.1.2.1 gk2 rfl
  have hP : va_P D vwCl (X ++ PL cy (S.sI o1 3 ((S.I o1 3) - (100 : Int32)))) H := by rw [← e9]; exact hP2
  have hD : va_D A (X ++ PL cy (S.sI o1 3 ((S.I o1 3) - (100 : Int32)))) := by rw [← e9]; exact hD2
  refine lv_aload_n hx hb dX3_sharpen_11 rfl (lv_at hl 0 rfl) ?_
  refine lv_dup hx hb dX3_sharpen_12 rfl ?_
  obtain ⟨k3, gk3, hk3⟩ := wGt (cy := cy) X (S.sI o1 3 ((S.I o1 3) - (100 : Int32))) (((sh.rf S).I o1 3 ((S.I o1 3) - (100 : Int32))).L h_o1.1.1) (((sh.rf S).I o1 3 ((S.I o1 3) - (100 : Int32))).K h_o1.1.2.1)
  refine va_get (D := D) (ci := 7) (v := .int ((S.sI o1 3 ((S.I o1 3) - (100 : Int32))).I o1 4)) (C := RX3) (T := TX3) (N := 6) hx hb hts (by decide +kernel) hown hK hP k3 hk3 rfl 4 (by decide) (hts (.fieldLink RX3 52 "Hobhouse$Hob" "profileError" "I") (by decide +kernel)) (fun _ h9 => h9) rfl dX3_sharpen_13 ?_
  refine lv_iconst (v := 1) hx hb dX3_sharpen_16 (by decide) ?_
  refine lv_iadd hx hb dX3_sharpen_17 ?_
  obtain ⟨k4, gk4, hk4⟩ := wGt (cy := cy) X (S.sI o1 3 ((S.I o1 3) - (100 : Int32))) (((sh.rf S).I o1 3 ((S.I o1 3) - (100 : Int32))).L h_o1.1.1) (((sh.rf S).I o1 3 ((S.I o1 3) - (100 : Int32))).K h_o1.1.2.1)
  refine va_put (D := D) (ci := 7) (v := .int (((S.sI o1 3 ((S.I o1 3) - (100 : Int32))).I o1 4) + (1 : Int32))) (ty := .int) (C := RX3) (T := TX3) (N := 6) hx hb hts (by decide +kernel) tyX3 tyX3_ok nmX3 hown hK hP hD hS k4 hk4 rfl 4 (by decide) (hts (.fieldLink RX3 52 "Hobhouse$Hob" "profileError" "I") (by decide +kernel)) (fun _ h9 => h9) rfl (by decide +kernel) (rfl) (rfl) (Nat.le_of_ble_eq_true rfl) dX3_sharpen_18 (fun H locs hP2 hD2 hS => ?_)
  have e9 := wPuI (cy := cy) (j := 4) (v := ((S.sI o1 3 ((S.I o1 3) - (100 : Int32))).I o1 4) + (1 : Int32)) hD (((sh.rf S).I o1 3 ((S.I o1 3) - (100 : Int32))).L h_o1.1.1) (((sh.rf S).I o1 3 ((S.I o1 3) - (100 : Int32))).K h_o1.1.2.1) gk4 rfl
  have hP : va_P D vwCl (X ++ PL cy ((S.sI o1 3 ((S.I o1 3) - (100 : Int32))).sI o1 4 (((S.sI o1 3 ((S.I o1 3) - (100 : Int32))).I o1 4) + (1 : Int32)))) H := by rw [← e9]; exact hP2
  have hD : va_D A (X ++ PL cy ((S.sI o1 3 ((S.I o1 3) - (100 : Int32))).sI o1 4 (((S.sI o1 3 ((S.I o1 3) - (100 : Int32))).I o1 4) + (1 : Int32)))) := by rw [← e9]; exact hD2
  refine lv_iconst (v := 0) hx hb dX3_sharpen_21 (by decide) ?_
  refine lv_istore_n (lv' := [(1, .int (0 : Int32)), (0, .ref o1)]) hx hb dX3_sharpen_22 rfl hl (by decide) rfl (fun ls hl => ?_)
  have loop23 : ∀ (n : Nat) (S23 : wPS) (w23_1 : Int32) (H : Heap) (locs : List Loc) (ls : Array Slot), ((nI (S.n (S.f o1 2))).toInt - w23_1.toInt).toNat < n → 0 ≤ w23_1 → sh S S23 → va_P D vwCl (X ++ PL cy S23) H → va_D A (X ++ PL cy S23) → va_S A s.heap H locs → lv_has ls 2 [(1, .int w23_1), (0, .ref o1)] → (∀ (S23x : wPS) (w23_1x : Int32) (H : Heap) (locs : List Loc) (ls : Array Slot), 0 ≤ w23_1x → sh S S23x → va_P D vwCl (X ++ PL cy S23x) H → va_D A (X ++ PL cy S23x) → va_S A s.heap H locs → lv_has ls 2 [(1, .int w23_1x), (0, .ref o1)] → f_X3_sharpen_L23 S o1 n S23 w23_1 = (S23x, w23_1x) → W p l e (headSpec wsX3_sharpen ({ frames := 0, cells := 0, slots := 0, locals := 0 } : Room)).room s m [.ref o1].toArray below meth c H locs 0 0 (MQ below (va_Qv (fun (u : wPS) => u = f_X3_sharpen S o1 ∧ sh S u) (fun u t => WD D cy X A u t) A) [.ref o1].toArray s 0 0 A) (F0 m 45 ls [])) → W p l e (headSpec wsX3_sharpen ({ frames := 0, cells := 0, slots := 0, locals := 0 } : Room)).room s m [.ref o1].toArray below meth c H locs 0 0 (MQ below (va_Qv (fun (u : wPS) => u = f_X3_sharpen S o1 ∧ sh S u) (fun u t => WD D cy X A u t) A) [.ref o1].toArray s 0 0 A) (F0 m 23 ls []) := by
    intro n
    induction n with
    | zero => intro S23 w23_1 H locs ls hm; exact absurd hm (Nat.not_lt_zero _)
    | succ n ih23 =>
      intro S23 w23_1 H locs ls hm hi hsh hP hD hS hl ko
      refine lv_iload_n hx hb dX3_sharpen_23 rfl (lv_at hl 0 rfl) ?_
      refine lv_aload_n hx hb dX3_sharpen_24 rfl (lv_at hl 1 rfl) ?_
      obtain ⟨k5, gk5, hk5⟩ := wGt (cy := cy) X S23 (hsh.L h_o1.1.1) (hsh.K h_o1.1.2.1)
      simp only [kE, (hsh.F h_o1.2.1.1)] at hk5
      refine va_get (D := D) (ci := 7) (v := .ref (S.f o1 2)) (C := RX3) (T := TX3) (N := 6) hx hb hts (by decide +kernel) hown hK hP k5 hk5 rfl 2 (by decide) (hts (.fieldLink RX3 21 "Hobhouse$Hob" "worn" "[I") (by decide +kernel)) (fun _ h9 => h9) rfl dX3_sharpen_25 ?_
      obtain ⟨k6, gk6, hk6⟩ := wGt (cy := cy) X S23 (hsh.L h_o1.2.1.2.1) (hsh.K h_o1.2.1.2.2.1)
      refine va_alen (D := D) (cl := vwCl) (tys := tyL cy) hx hb hK hP k6 2 hk6 rfl (v := nI (S.n (S.f o1 2))) (hsh.n _) dX3_sharpen_28 ?_
      refine lv_icmp_ge (tgt := 45) hx hb dX3_sharpen_29 (by decide) (fun c7 => ?_) (fun c7 => ?_)
      · exact ko S23 w23_1 _ _ _ (hi) (hsh) hP hD hS (lv_sub hl [0, 1] rfl) (by rw [f_X3_sharpen_L23_s, if_pos c7])
      · refine lv_aload_n hx hb dX3_sharpen_32 rfl (lv_at hl 1 rfl) ?_
        obtain ⟨k8, gk8, hk8⟩ := wGt (cy := cy) X S23 (hsh.L h_o1.1.1) (hsh.K h_o1.1.2.1)
        simp only [kE, (hsh.F h_o1.2.1.1)] at hk8
        refine va_get (D := D) (ci := 7) (v := .ref (S.f o1 2)) (C := RX3) (T := TX3) (N := 6) hx hb hts (by decide +kernel) hown hK hP k8 hk8 rfl 2 (by decide) (hts (.fieldLink RX3 21 "Hobhouse$Hob" "worn" "[I") (by decide +kernel)) (fun _ h9 => h9) rfl dX3_sharpen_33 ?_
        refine lv_iload_n hx hb dX3_sharpen_36 rfl (lv_at hl 0 rfl) ?_
        refine lv_iconst (v := 0) hx hb dX3_sharpen_37 (by decide) ?_
        obtain ⟨k9, gk9, hk9⟩ := wGt (cy := cy) X S23 (hsh.L h_o1.2.1.2.1) (hsh.K h_o1.2.1.2.2.1)
        refine va_iast hx hb hK hP hD hS k9 2 hk9 rfl (hsh.v (in_len (by assumption) hi (by omega))) dX3_sharpen_38 (fun H locs hP2 hD2 hS => ?_)
        have e9 := wPui (cy := cy) (f := (upd (S23.i (S.f o1 2)) w23_1.toNatClampNeg (0 : Int32))) hD (hsh.L h_o1.2.1.2.1) (hsh.K h_o1.2.1.2.2.1) gk9 rfl
        have hP : va_P D vwCl (X ++ PL cy (S23.si (S.f o1 2) (upd (S23.i (S.f o1 2)) w23_1.toNatClampNeg (0 : Int32)))) H := by rw [← e9]; exact hP2
        have hD : va_D A (X ++ PL cy (S23.si (S.f o1 2) (upd (S23.i (S.f o1 2)) w23_1.toNatClampNeg (0 : Int32)))) := by rw [← e9]; exact hD2
        refine lv_iinc (v := w23_1 + (1 : Int32)) (lv' := [(1, .int (w23_1 + (1 : Int32))), (0, .ref o1)]) hx hb dX3_sharpen_39 hl (k := 0) rfl (by rfl) (by decide) rfl (fun ls hl => ?_)
        refine lv_goto (tgt := 23) hx hb dX3_sharpen_42 (by decide) ?_
        exact ih23 (S23.si (S.f o1 2) (upd (S23.i (S.f o1 2)) w23_1.toNatClampNeg (0 : Int32))) (w23_1 + (1 : Int32)) _ _ _ (Nat.lt_of_lt_of_le (up_lt (by assumption)) (Nat.le_of_lt_succ hm)) (up_in (by assumption) hi) ((hsh.i (S.f o1 2) (upd (S23.i (S.f o1 2)) w23_1.toNatClampNeg (0 : Int32)))) hP hD hS (lv_sub hl [0, 1] rfl) (fun S23y w23_1y H9 locs9 ls9 i9 sh9 P9 D9 S9 l9 hfe => ko S23y w23_1y H9 locs9 ls9 i9 sh9 P9 D9 S9 l9 (Eq.trans (by rw [f_X3_sharpen_L23_s, if_neg c7]) hfe))
  refine loop23 1000001 ((S.sI o1 3 ((S.I o1 3) - (100 : Int32))).sI o1 4 (((S.sI o1 3 ((S.I o1 3) - (100 : Int32))).I o1 4) + (1 : Int32))) (0 : Int32) _ _ _ (fuel_len hln (by decide)) (by decide) (((sh.rf S).I o1 3 ((S.I o1 3) - (100 : Int32))).I o1 4 (((S.sI o1 3 ((S.I o1 3) - (100 : Int32))).I o1 4) + (1 : Int32))) hP hD hS (lv_sub hl [0, 1] rfl) (fun z11 z12 H locs ls hi23 hsh23 hP hD hS hl c10 => ?_)
  exact W.vret hx hb hr (fun t ht hW => ⟨⟨z11, rfl, (⟨(by show z11 = f_X3_sharpen S o1; unfold f_X3_sharpen; rw [l2_eq c10]), hsh23⟩), wd_end hP hK hD ht hW.alike⟩, hS.F ht⟩) hS.2.2 dX3_sharpen_45 hlocks
