def f_X0_searchWith_L17 (S : wPS) (o1 : Nat) (x1 : Int32) (x2 : Int32) (S4 : wPS) (w4_3 : Int32) : Nat → wPS → Int32 → wPS × Int32
  | 0, S17, w17_4 => (S17, w17_4)
  | n + 1, S17, w17_4 => if (S17.I o1 2) ≤ w17_4 then (S17, w17_4) else if w4_3 = x2 then f_X0_searchWith_L17 S o1 x1 x2 S4 w4_3 n S17 (w17_4 + (1 : Int32)) else if w4_3 = w17_4 then f_X0_searchWith_L17 S o1 x1 x2 S4 w4_3 n S17 (w17_4 + (1 : Int32)) else if w17_4 = x1 then f_X0_searchWith_L17 S o1 x1 x2 S4 w4_3 n S17 (w17_4 + (1 : Int32)) else f_X0_searchWith_L17 S o1 x1 x2 S4 w4_3 n (f_X0_compare S17 o1 (S17.i (S.f o1 0) x1.toNatClampNeg) (S17.i (S.f o1 0) x2.toNatClampNeg) (S17.i (S.f o1 0) w4_3.toNatClampNeg) (S17.i (S.f o1 0) w17_4.toNatClampNeg)) (w17_4 + (1 : Int32))
theorem f_X0_searchWith_L17_s (S : wPS) (o1 : Nat) (x1 : Int32) (x2 : Int32) (S4 : wPS) (w4_3 : Int32) (n : Nat) (S17 : wPS) (w17_4 : Int32) : f_X0_searchWith_L17 S o1 x1 x2 S4 w4_3 (n + 1) S17 w17_4 = if (S17.I o1 2) ≤ w17_4 then (S17, w17_4) else if w4_3 = x2 then f_X0_searchWith_L17 S o1 x1 x2 S4 w4_3 n S17 (w17_4 + (1 : Int32)) else if w4_3 = w17_4 then f_X0_searchWith_L17 S o1 x1 x2 S4 w4_3 n S17 (w17_4 + (1 : Int32)) else if w17_4 = x1 then f_X0_searchWith_L17 S o1 x1 x2 S4 w4_3 n S17 (w17_4 + (1 : Int32)) else f_X0_searchWith_L17 S o1 x1 x2 S4 w4_3 n (f_X0_compare S17 o1 (S17.i (S.f o1 0) x1.toNatClampNeg) (S17.i (S.f o1 0) x2.toNatClampNeg) (S17.i (S.f o1 0) w4_3.toNatClampNeg) (S17.i (S.f o1 0) w17_4.toNatClampNeg)) (w17_4 + (1 : Int32)) := rfl
def f_X0_searchWith_L4 (S : wPS) (o1 : Nat) (x1 : Int32) (x2 : Int32) : Nat → wPS → Int32 → wPS × Int32
  | 0, S4, w4_3 => (S4, w4_3)
  | n + 1, S4, w4_3 => if (S4.I o1 2) ≤ w4_3 then (S4, w4_3) else l2 (f_X0_searchWith_L17 S o1 x1 x2 S4 w4_3 64 S4 (x2 + (1 : Int32))) (fun z20 z21 => f_X0_searchWith_L4 S o1 x1 x2 n z20 (w4_3 + (1 : Int32)))
theorem f_X0_searchWith_L4_s (S : wPS) (o1 : Nat) (x1 : Int32) (x2 : Int32) (n : Nat) (S4 : wPS) (w4_3 : Int32) : f_X0_searchWith_L4 S o1 x1 x2 (n + 1) S4 w4_3 = if (S4.I o1 2) ≤ w4_3 then (S4, w4_3) else l2 (f_X0_searchWith_L17 S o1 x1 x2 S4 w4_3 64 S4 (x2 + (1 : Int32))) (fun z20 z21 => f_X0_searchWith_L4 S o1 x1 x2 n z20 (w4_3 + (1 : Int32))) := rfl
def f_X0_searchWith (S : wPS) (o1 : Nat) (x1 : Int32) (x2 : Int32) : wPS := l2 (f_X0_searchWith_L4 S o1 x1 x2 64 S (x1 + (1 : Int32))) (fun z23 z24 => z23)
set_option maxHeartbeats 4000000 in
set_option maxRecDepth 100000 in
theorem c_X0_searchWith (l : Launch) {D : va_G} {cy : Nat → ClassId} {X : va_W} (S : wPS) (sz : Nat) (o1 : Nat) (h_o1 : ok0 S o1) (x1 : Int32) (x2 : Int32) (h16 : S.n (S.f o1 0) = 16) (h4 : S.n (S.f o1 1) = 4) (ha : 0 ≤ x1.toInt ∧ x1.toInt < (S.I o1 2).toInt) (hb2 : 0 ≤ x2.toInt ∧ x2.toInt < (S.I o1 2).toInt) (hc : (S.I o1 2).toInt ≤ 16) : Met l yX0_searchWith wsX0_searchWith ({ frames := 2, cells := 0, slots := 0, locals := 41 }) (va_Pc [.ref o1, .int x1, .int x2] (fun U => U.heap.size = sz ∧ WD D cy X (fun _ => True) S U ∧ NW U)) (va_Qv (fun (u : wPS) => u = f_X0_searchWith S o1 x1 x2 ∧ sh S u) (fun u t => WD D cy X (va_A (X ++ PL cy S) sz) u t) (va_A (X ++ PL cy S) sz)) 0 0 (va_A (X ++ PL cy S) sz) := by
  refine Met.ofW (cc := cX0_searchWith) (maxL := 5) (ret := none) (by decide) rfl ?_
  intro p e s m args below meth c s₁ B hml hv
  obtain ⟨rfl, hsz, ⟨hP, hK, hD0⟩, hN⟩ := hv
  have hx := B.exec
  have hb := B.bytes
  have hr := B.returns
  have hts := atoms_spec (ws := wsX0_searchWith) B.pre
  have hown : s.vm.findClass RX0 = some m.cls := findClass_of_methodNamed B.named
  have hlocks := B.notSynchronized
  subst hsz
  have hD := hD0.self (sz := s.heap.size)
  generalize hAe : va_A (X ++ PL cy S) s.heap.size = A at hD ⊢
  have hA : ∀ q : Nat, s.heap.size ≤ q → A q := fun q h => by rw [← hAe]; exact Or.inr h
  have hS : va_S A s.heap s.heap [] := va_S.rf
  have hl := lv_entry ([.ref o1, .int x1, .int x2]) (n := 5) (Nat.le_of_ble_eq_true rfl)
  rw [lg_entry_eq]
  generalize (lg_sl ([.ref o1, .int x1, .int x2]) ++ List.replicate (5 - (lg_sl ([.ref o1, .int x1, .int x2])).length) Slot.unset).toArray = ls at hl ⊢
  have hl : lv_has ls 5 [(0, .ref o1), (1, .int x1), (2, .int x2)] := hl
  refine lv_iload_n hx hb dX0_searchWith_0 rfl (lv_at hl 1 rfl) ?_
  refine lv_iconst (v := 1) hx hb dX0_searchWith_1 (by decide) ?_
  refine lv_iadd hx hb dX0_searchWith_2 ?_
  refine lv_istore_n (lv' := [(3, .int (x1 + (1 : Int32))), (0, .ref o1), (1, .int x1), (2, .int x2)]) hx hb dX0_searchWith_3 rfl hl (by decide) rfl (fun ls hl => ?_)
  have loop4 : ∀ (n : Nat) (S4 : wPS) (w4_3 : Int32) (H : Heap) (locs : List Loc) (ls : Array Slot), ((S.I o1 2).toInt - w4_3.toInt).toNat < n → S4.I = S.I ∧ 0 ≤ w4_3.toInt → sh S S4 → va_P D vwCl (X ++ PL cy S4) H → va_D A (X ++ PL cy S4) → va_S A s.heap H locs → lv_has ls 5 [(3, .int w4_3), (0, .ref o1), (1, .int x1), (2, .int x2)] → (∀ (S4x : wPS) (w4_3x : Int32) (H : Heap) (locs : List Loc) (ls : Array Slot), S4x.I = S.I ∧ 0 ≤ w4_3x.toInt → sh S S4x → va_P D vwCl (X ++ PL cy S4x) H → va_D A (X ++ PL cy S4x) → va_S A s.heap H locs → lv_has ls 5 [(3, .int w4_3x), (0, .ref o1), (1, .int x1), (2, .int x2)] → f_X0_searchWith_L4 S o1 x1 x2 n S4 w4_3 = (S4x, w4_3x) → W p l e (headSpec wsX0_searchWith ({ frames := 2, cells := 0, slots := 0, locals := 41 } : Room)).room s m [.ref o1, .int x1, .int x2].toArray below meth c H locs 0 0 (MQ below (va_Qv (fun (u : wPS) => u = f_X0_searchWith S o1 x1 x2 ∧ sh S u) (fun u t => WD D cy X A u t) A) [.ref o1, .int x1, .int x2].toArray s 0 0 A) (F0 m 84 ls [])) → W p l e (headSpec wsX0_searchWith ({ frames := 2, cells := 0, slots := 0, locals := 41 } : Room)).room s m [.ref o1, .int x1, .int x2].toArray below meth c H locs 0 0 (MQ below (va_Qv (fun (u : wPS) => u = f_X0_searchWith S o1 x1 x2 ∧ sh S u) (fun u t => WD D cy X A u t) A) [.ref o1, .int x1, .int x2].toArray s 0 0 A) (F0 m 4 ls []) := by
    intro n
    induction n with
    | zero => intro S4 w4_3 H locs ls hm; exact absurd hm (Nat.not_lt_zero _)
    | succ n ih4 =>
      intro S4 w4_3 H locs ls hm hi hsh hP hD hS hl ko
      refine lv_iload_n hx hb dX0_searchWith_4 rfl (lv_at hl 0 rfl) ?_
      refine lv_aload_n hx hb dX0_searchWith_5 rfl (lv_at hl 1 rfl) ?_
      obtain ⟨k1, gk1, hk1⟩ := wGt (cy := cy) X S4 (hsh.L h_o1.1.1) (hsh.K h_o1.1.2.1)
      refine va_get (D := D) (ci := 4) (v := .int (S4.I o1 2)) (C := RX0) (T := TX0) (N := 7) hx hb hts (by decide +kernel) hown hK hP k1 hk1 rfl 2 (by decide) (hts (.fieldLink RX0 18 "Hobhouse$Box" "count" "I") (by decide +kernel)) (fun _ h9 => h9) rfl dX0_searchWith_6 ?_
      refine lv_icmp_ge (tgt := 84) hx hb dX0_searchWith_9 (by decide) (fun c2 => ?_) (fun c2 => ?_)
      · exact ko S4 w4_3 _ _ _ (hi) (hsh) hP hD hS (lv_sub hl [0, 1, 2, 3] rfl) (by rw [f_X0_searchWith_L4_s, if_pos c2])
      · refine lv_iload_n hx hb dX0_searchWith_12 rfl (lv_at hl 3 rfl) ?_
        refine lv_iconst (v := 1) hx hb dX0_searchWith_13 (by decide) ?_
        refine lv_iadd hx hb dX0_searchWith_14 ?_
        refine lv_istore (lv' := [(4, .int (x2 + (1 : Int32))), (3, .int w4_3), (0, .ref o1), (1, .int x1), (2, .int x2)]) hx hb dX0_searchWith_15 hl (by decide) rfl (fun ls hl => ?_)
        have loop17 : ∀ (n : Nat) (S17 : wPS) (w17_4 : Int32) (H : Heap) (locs : List Loc) (ls : Array Slot), ((S.I o1 2).toInt - w17_4.toInt).toNat < n → S17.I = S.I ∧ 0 ≤ w17_4.toInt ∧ 0 ≤ w4_3.toInt ∧ w4_3.toInt < (S.I o1 2).toInt → sh S S17 → va_P D vwCl (X ++ PL cy S17) H → va_D A (X ++ PL cy S17) → va_S A s.heap H locs → lv_has ls 5 [(4, .int w17_4), (3, .int w4_3), (0, .ref o1), (1, .int x1), (2, .int x2)] → (∀ (S17x : wPS) (w17_4x : Int32) (H : Heap) (locs : List Loc) (ls : Array Slot), S17x.I = S.I ∧ 0 ≤ w17_4x.toInt ∧ 0 ≤ w4_3.toInt ∧ w4_3.toInt < (S.I o1 2).toInt → sh S S17x → va_P D vwCl (X ++ PL cy S17x) H → va_D A (X ++ PL cy S17x) → va_S A s.heap H locs → lv_has ls 5 [(4, .int w17_4x), (3, .int w4_3), (0, .ref o1), (1, .int x1), (2, .int x2)] → f_X0_searchWith_L17 S o1 x1 x2 S4 w4_3 n S17 w17_4 = (S17x, w17_4x) → W p l e (headSpec wsX0_searchWith ({ frames := 2, cells := 0, slots := 0, locals := 41 } : Room)).room s m [.ref o1, .int x1, .int x2].toArray below meth c H locs 0 0 (MQ below (va_Qv (fun (u : wPS) => u = f_X0_searchWith S o1 x1 x2 ∧ sh S u) (fun u t => WD D cy X A u t) A) [.ref o1, .int x1, .int x2].toArray s 0 0 A) (F0 m 78 ls [])) → W p l e (headSpec wsX0_searchWith ({ frames := 2, cells := 0, slots := 0, locals := 41 } : Room)).room s m [.ref o1, .int x1, .int x2].toArray below meth c H locs 0 0 (MQ below (va_Qv (fun (u : wPS) => u = f_X0_searchWith S o1 x1 x2 ∧ sh S u) (fun u t => WD D cy X A u t) A) [.ref o1, .int x1, .int x2].toArray s 0 0 A) (F0 m 17 ls []) := by
          intro n
          induction n with
          | zero => intro S17 w17_4 H locs ls hm; exact absurd hm (Nat.not_lt_zero _)
          | succ n ih17 =>
            intro S17 w17_4 H locs ls hm hi hsh hP hD hS hl ko
            refine lv_iload hx hb dX0_searchWith_17 (lv_at hl 0 rfl) ?_
            refine lv_aload_n hx hb dX0_searchWith_19 rfl (lv_at hl 2 rfl) ?_
            obtain ⟨k3, gk3, hk3⟩ := wGt (cy := cy) X S17 (hsh.L h_o1.1.1) (hsh.K h_o1.1.2.1)
            refine va_get (D := D) (ci := 4) (v := .int (S17.I o1 2)) (C := RX0) (T := TX0) (N := 7) hx hb hts (by decide +kernel) hown hK hP k3 hk3 rfl 2 (by decide) (hts (.fieldLink RX0 18 "Hobhouse$Box" "count" "I") (by decide +kernel)) (fun _ h9 => h9) rfl dX0_searchWith_20 ?_
            refine lv_icmp_ge (tgt := 78) hx hb dX0_searchWith_23 (by decide) (fun c4 => ?_) (fun c4 => ?_)
            · exact ko S17 w17_4 _ _ _ (hi) (hsh) hP hD hS (lv_sub hl [0, 1, 2, 3, 4] rfl) (by rw [f_X0_searchWith_L17_s, if_pos c4])
            · refine lv_iload_n hx hb dX0_searchWith_26 rfl (lv_at hl 1 rfl) ?_
              refine lv_iload_n hx hb dX0_searchWith_27 rfl (lv_at hl 4 rfl) ?_
              refine lv_icmp_eq (tgt := 72) hx hb dX0_searchWith_28 (by decide) (fun c5 => ?_) (fun c5 => ?_)
              · refine lv_iinc (v := w17_4 + (1 : Int32)) (lv' := [(4, .int (w17_4 + (1 : Int32))), (3, .int w4_3), (0, .ref o1), (1, .int x1), (2, .int x2)]) hx hb dX0_searchWith_72 hl (k := 0) rfl (by rfl) (by decide) rfl (fun ls hl => ?_)
                refine lv_goto (tgt := 17) hx hb dX0_searchWith_75 (by decide) ?_
                exact ih17 S17 (w17_4 + (1 : Int32)) _ _ _ (Nat.lt_of_lt_of_le (up_lt (by have h9 := (by assumption : ¬ S17.I o1 2 ≤ w17_4); rw [hi.1] at h9; exact h9)) (Nat.le_of_lt_succ hm)) (by have h8 := nlt_of (by have h9 := (by assumption : ¬ S17.I o1 2 ≤ w17_4); rw [hi.1] at h9; exact h9); first | exact ⟨(cmp_I _ _ _ _ _ _).trans hi.1, by rw [t_inc (by omega)]; omega, hi.2.2⟩ | exact ⟨hi.1, by rw [t_inc (by omega)]; omega, hi.2.2⟩) (hsh) hP hD hS (lv_sub hl [0, 1, 2, 3, 4] rfl) (fun S17y w17_4y H9 locs9 ls9 i9 sh9 P9 D9 S9 l9 hfe => ko S17y w17_4y H9 locs9 ls9 i9 sh9 P9 D9 S9 l9 (Eq.trans (by rw [f_X0_searchWith_L17_s, if_neg c4, if_pos c5]) hfe))
              · refine lv_iload_n hx hb dX0_searchWith_31 rfl (lv_at hl 1 rfl) ?_
                refine lv_iload hx hb dX0_searchWith_32 (lv_at hl 0 rfl) ?_
                refine lv_icmp_eq (tgt := 72) hx hb dX0_searchWith_34 (by decide) (fun c6 => ?_) (fun c6 => ?_)
                · refine lv_iinc (v := w17_4 + (1 : Int32)) (lv' := [(4, .int (w17_4 + (1 : Int32))), (3, .int w4_3), (0, .ref o1), (1, .int x1), (2, .int x2)]) hx hb dX0_searchWith_72 hl (k := 0) rfl (by rfl) (by decide) rfl (fun ls hl => ?_)
                  refine lv_goto (tgt := 17) hx hb dX0_searchWith_75 (by decide) ?_
                  exact ih17 S17 (w17_4 + (1 : Int32)) _ _ _ (Nat.lt_of_lt_of_le (up_lt (by have h9 := (by assumption : ¬ S17.I o1 2 ≤ w17_4); rw [hi.1] at h9; exact h9)) (Nat.le_of_lt_succ hm)) (by have h8 := nlt_of (by have h9 := (by assumption : ¬ S17.I o1 2 ≤ w17_4); rw [hi.1] at h9; exact h9); first | exact ⟨(cmp_I _ _ _ _ _ _).trans hi.1, by rw [t_inc (by omega)]; omega, hi.2.2⟩ | exact ⟨hi.1, by rw [t_inc (by omega)]; omega, hi.2.2⟩) (hsh) hP hD hS (lv_sub hl [0, 1, 2, 3, 4] rfl) (fun S17y w17_4y H9 locs9 ls9 i9 sh9 P9 D9 S9 l9 hfe => ko S17y w17_4y H9 locs9 ls9 i9 sh9 P9 D9 S9 l9 (Eq.trans (by rw [f_X0_searchWith_L17_s, if_neg c4, if_neg c5, if_pos c6]) hfe))
                · refine lv_iload hx hb dX0_searchWith_37 (lv_at hl 0 rfl) ?_
                  refine lv_iload_n hx hb dX0_searchWith_39 rfl (lv_at hl 3 rfl) ?_
                  refine lv_icmp_eq (tgt := 72) hx hb dX0_searchWith_40 (by decide) (fun c7 => ?_) (fun c7 => ?_)
                  · refine lv_iinc (v := w17_4 + (1 : Int32)) (lv' := [(4, .int (w17_4 + (1 : Int32))), (3, .int w4_3), (0, .ref o1), (1, .int x1), (2, .int x2)]) hx hb dX0_searchWith_72 hl (k := 0) rfl (by rfl) (by decide) rfl (fun ls hl => ?_)
                    refine lv_goto (tgt := 17) hx hb dX0_searchWith_75 (by decide) ?_
                    exact ih17 S17 (w17_4 + (1 : Int32)) _ _ _ (Nat.lt_of_lt_of_le (up_lt (by have h9 := (by assumption : ¬ S17.I o1 2 ≤ w17_4); rw [hi.1] at h9; exact h9)) (Nat.le_of_lt_succ hm)) (by have h8 := nlt_of (by have h9 := (by assumption : ¬ S17.I o1 2 ≤ w17_4); rw [hi.1] at h9; exact h9); first | exact ⟨(cmp_I _ _ _ _ _ _).trans hi.1, by rw [t_inc (by omega)]; omega, hi.2.2⟩ | exact ⟨hi.1, by rw [t_inc (by omega)]; omega, hi.2.2⟩) (hsh) hP hD hS (lv_sub hl [0, 1, 2, 3, 4] rfl) (fun S17y w17_4y H9 locs9 ls9 i9 sh9 P9 D9 S9 l9 hfe => ko S17y w17_4y H9 locs9 ls9 i9 sh9 P9 D9 S9 l9 (Eq.trans (by rw [f_X0_searchWith_L17_s, if_neg c4, if_neg c5, if_neg c6, if_pos c7]) hfe))
                  · refine lv_aload_n hx hb dX0_searchWith_43 rfl (lv_at hl 2 rfl) ?_
                    refine lv_aload_n hx hb dX0_searchWith_44 rfl (lv_at hl 2 rfl) ?_
                    obtain ⟨k8, gk8, hk8⟩ := wGt (cy := cy) X S17 (hsh.L h_o1.1.1) (hsh.K h_o1.1.2.1)
                    simp only [kE, (hsh.F h_o1.2.1.1)] at hk8
                    refine va_get (D := D) (ci := 4) (v := .ref (S.f o1 0)) (C := RX0) (T := TX0) (N := 7) hx hb hts (by decide +kernel) hown hK hP k8 hk8 rfl 0 (by decide) (hts (.fieldLink RX0 9 "Hobhouse$Box" "wheels" "[I") (by decide +kernel)) (fun _ h9 => h9) rfl dX0_searchWith_45 ?_
                    refine lv_iload_n hx hb dX0_searchWith_48 rfl (lv_at hl 3 rfl) ?_
                    obtain ⟨k9, gk9, hk9⟩ := wGt (cy := cy) X S17 (hsh.L h_o1.2.1.2.1) (hsh.K h_o1.2.1.2.2.1)
                    refine va_iald hx hb hK hP k9 2 hk9 rfl (hsh.v (by rw [h16]; exact in_of ha.1 (by omega))) dX0_searchWith_49 ?_
                    refine lv_aload_n hx hb dX0_searchWith_50 rfl (lv_at hl 2 rfl) ?_
                    obtain ⟨k10, gk10, hk10⟩ := wGt (cy := cy) X S17 (hsh.L h_o1.1.1) (hsh.K h_o1.1.2.1)
                    simp only [kE, (hsh.F h_o1.2.1.1)] at hk10
                    refine va_get (D := D) (ci := 4) (v := .ref (S.f o1 0)) (C := RX0) (T := TX0) (N := 7) hx hb hts (by decide +kernel) hown hK hP k10 hk10 rfl 0 (by decide) (hts (.fieldLink RX0 9 "Hobhouse$Box" "wheels" "[I") (by decide +kernel)) (fun _ h9 => h9) rfl dX0_searchWith_51 ?_
                    refine lv_iload_n hx hb dX0_searchWith_54 rfl (lv_at hl 4 rfl) ?_
                    obtain ⟨k11, gk11, hk11⟩ := wGt (cy := cy) X S17 (hsh.L h_o1.2.1.2.1) (hsh.K h_o1.2.1.2.2.1)
                    refine va_iald hx hb hK hP k11 2 hk11 rfl (hsh.v (by rw [h16]; exact in_of hb2.1 (by omega))) dX0_searchWith_55 ?_
                    refine lv_aload_n hx hb dX0_searchWith_56 rfl (lv_at hl 2 rfl) ?_
                    obtain ⟨k12, gk12, hk12⟩ := wGt (cy := cy) X S17 (hsh.L h_o1.1.1) (hsh.K h_o1.1.2.1)
                    simp only [kE, (hsh.F h_o1.2.1.1)] at hk12
                    refine va_get (D := D) (ci := 4) (v := .ref (S.f o1 0)) (C := RX0) (T := TX0) (N := 7) hx hb hts (by decide +kernel) hown hK hP k12 hk12 rfl 0 (by decide) (hts (.fieldLink RX0 9 "Hobhouse$Box" "wheels" "[I") (by decide +kernel)) (fun _ h9 => h9) rfl dX0_searchWith_57 ?_
                    refine lv_iload_n hx hb dX0_searchWith_60 rfl (lv_at hl 1 rfl) ?_
                    obtain ⟨k13, gk13, hk13⟩ := wGt (cy := cy) X S17 (hsh.L h_o1.2.1.2.1) (hsh.K h_o1.2.1.2.2.1)
                    refine va_iald hx hb hK hP k13 2 hk13 rfl (hsh.v (by rw [h16]; exact in_of hi.2.2.1 (by omega))) dX0_searchWith_61 ?_
                    refine lv_aload_n hx hb dX0_searchWith_62 rfl (lv_at hl 2 rfl) ?_
                    obtain ⟨k14, gk14, hk14⟩ := wGt (cy := cy) X S17 (hsh.L h_o1.1.1) (hsh.K h_o1.1.2.1)
                    simp only [kE, (hsh.F h_o1.2.1.1)] at hk14
                    refine va_get (D := D) (ci := 4) (v := .ref (S.f o1 0)) (C := RX0) (T := TX0) (N := 7) hx hb hts (by decide +kernel) hown hK hP k14 hk14 rfl 0 (by decide) (hts (.fieldLink RX0 9 "Hobhouse$Box" "wheels" "[I") (by decide +kernel)) (fun _ h9 => h9) rfl dX0_searchWith_63 ?_
                    refine lv_iload hx hb dX0_searchWith_66 (lv_at hl 0 rfl) ?_
                    obtain ⟨k15, gk15, hk15⟩ := wGt (cy := cy) X S17 (hsh.L h_o1.2.1.2.1) (hsh.K h_o1.2.1.2.2.1)
                    refine va_iald hx hb hK hP k15 2 hk15 rfl (hsh.v (by have h8 := nlt_of (by have h9 := (by assumption : ¬ S17.I o1 2 ≤ w17_4); rw [hi.1] at h9; exact h9); rw [h16]; exact in_of hi.2.1 (by omega))) dX0_searchWith_68 ?_
                    have hFc := free_all hD hS hA
                    obtain ⟨k16, gk16, hk16⟩ := wGt (cy := cy) X S17 (hsh.L h_o1.1.1) (hsh.K h_o1.1.2.1)
                    refine va_callv (va_runV (As := [.int (S17.i (S.f o1 0) x1.toNatClampNeg), .int (S17.i (S.f o1 0) x2.toNatClampNeg), .int (S17.i (S.f o1 0) w4_3.toNatClampNeg), .int (S17.i (S.f o1 0) w17_4.toNatClampNeg)]) (rest := []) ⟨hx, hb, hml, hown, hts⟩ (c_X0_compare l (cy := cy) (X := X) (D := D) S17 _ o1 (hsh.k0 h_o1) (S17.i (S.f o1 0) x1.toNatClampNeg) (S17.i (S.f o1 0) x2.toNatClampNeg) (S17.i (S.f o1 0) w4_3.toNatClampNeg) (S17.i (S.f o1 0) w17_4.toNatClampNeg) (by rw [hsh.2.2.2.1, hsh.g]; exact h4)) (cwV 4 hts gX0_searchWith_X0_compare rfl rfl rfl (by decide +kernel) ⟨Nat.le_of_ble_eq_true rfl, Nat.le_of_ble_eq_true rfl⟩) ⟨fun a U g mk q => ⟨q.1, q.2.1, q.2.2.1.calling, NW.same (u := U) (U := U.calling g mk a) rfl q.2.2.2⟩, va_recv hK hP (ci := 4) (q0 := k16) rfl hk16, fun U hU hW => ⟨rfl, by rw [hU], wd_pre hP hK hD hU hW, hN.warm hW⟩⟩ rfl rfl hl.1 rfl (lv_room (Nat.le_of_ble_eq_true rfl)) dX0_searchWith_69 ⟨(Nat.zero_le _), (Nat.zero_le _)⟩) hS (fun q _ h => hFc q h) hFc (fun u t H1 locs ht hvm hw hB hz1 hk1 hS => ?_)
                    obtain ⟨hP, hD⟩ := wd_post hFc ht hB
                    generalize H1 = H at hP hS ⊢
                    obtain ⟨hw1, shq18⟩ := hw
                    obtain rfl : u = f_X0_compare S17 o1 (S17.i (S.f o1 0) x1.toNatClampNeg) (S17.i (S.f o1 0) x2.toNatClampNeg) (S17.i (S.f o1 0) w4_3.toNatClampNeg) (S17.i (S.f o1 0) w17_4.toNatClampNeg) := hw1
                    refine lv_iinc (v := w17_4 + (1 : Int32)) (lv' := [(4, .int (w17_4 + (1 : Int32))), (3, .int w4_3), (0, .ref o1), (1, .int x1), (2, .int x2)]) hx hb dX0_searchWith_72 hl (k := 0) rfl (by rfl) (by decide) rfl (fun ls hl => ?_)
                    refine lv_goto (tgt := 17) hx hb dX0_searchWith_75 (by decide) ?_
                    exact ih17 (f_X0_compare S17 o1 (S17.i (S.f o1 0) x1.toNatClampNeg) (S17.i (S.f o1 0) x2.toNatClampNeg) (S17.i (S.f o1 0) w4_3.toNatClampNeg) (S17.i (S.f o1 0) w17_4.toNatClampNeg)) (w17_4 + (1 : Int32)) _ _ _ (Nat.lt_of_lt_of_le (up_lt (by have h9 := (by assumption : ¬ S17.I o1 2 ≤ w17_4); rw [hi.1] at h9; exact h9)) (Nat.le_of_lt_succ hm)) (by have h8 := nlt_of (by have h9 := (by assumption : ¬ S17.I o1 2 ≤ w17_4); rw [hi.1] at h9; exact h9); first | exact ⟨(cmp_I _ _ _ _ _ _).trans hi.1, by rw [t_inc (by omega)]; omega, hi.2.2⟩ | exact ⟨hi.1, by rw [t_inc (by omega)]; omega, hi.2.2⟩) ((hsh.trans shq18)) hP hD hS (lv_sub hl [0, 1, 2, 3, 4] rfl) (fun S17y w17_4y H9 locs9 ls9 i9 sh9 P9 D9 S9 l9 hfe => ko S17y w17_4y H9 locs9 ls9 i9 sh9 P9 D9 S9 l9 (Eq.trans (by rw [f_X0_searchWith_L17_s, if_neg c4, if_neg c5, if_neg c6, if_neg c7]) hfe))
        refine loop17 64 S4 (x2 + (1 : Int32)) _ _ _ (by rw [t_inc (by omega)]; omega) (⟨hi.1, by rw [t_inc (by omega)]; omega, hi.2, nlt_of (by have h9 := (by assumption : ¬ S4.I o1 2 ≤ w4_3); rw [hi.1] at h9; exact h9)⟩) hsh hP hD hS (lv_sub hl [0, 1, 2, 3, 4] rfl) (fun z20 z21 H locs ls hi17 hsh17 hP hD hS hl c19 => ?_)
        refine lv_iinc (v := w4_3 + (1 : Int32)) (lv' := [(3, .int (w4_3 + (1 : Int32))), (4, .int z21), (0, .ref o1), (1, .int x1), (2, .int x2)]) hx hb dX0_searchWith_78 hl (k := 1) rfl (by rfl) (by decide) rfl (fun ls hl => ?_)
        refine lv_goto (tgt := 4) hx hb dX0_searchWith_81 (by decide) ?_
        exact ih4 z20 (w4_3 + (1 : Int32)) _ _ _ (Nat.lt_of_lt_of_le (up_lt (by have h9 := (by assumption : ¬ S4.I o1 2 ≤ w4_3); rw [hi.1] at h9; exact h9)) (Nat.le_of_lt_succ hm)) (⟨hi17.1, by rw [t_inc (by omega)]; omega⟩) (hsh17) hP hD hS (lv_sub hl [0, 2, 3, 4] rfl) (fun S4y w4_3y H9 locs9 ls9 i9 sh9 P9 D9 S9 l9 hfe => ko S4y w4_3y H9 locs9 ls9 i9 sh9 P9 D9 S9 l9 (Eq.trans (by rw [f_X0_searchWith_L4_s, if_neg c2, l2_eq c19]) hfe))
  refine loop4 64 S (x1 + (1 : Int32)) _ _ _ (by rw [t_inc (by omega)]; omega) (⟨rfl, by rw [t_inc (by omega)]; omega⟩) (sh.rf S) hP hD hS (lv_sub hl [0, 1, 2, 3] rfl) (fun z23 z24 H locs ls hi4 hsh4 hP hD hS hl c22 => ?_)
  exact W.vret hx hb hr (fun t ht hW => ⟨⟨z23, rfl, (⟨(by show z23 = f_X0_searchWith S o1 x1 x2; unfold f_X0_searchWith; rw [l2_eq c22]), hsh4⟩), wd_end hP hK hD ht hW.alike⟩, hS.F ht⟩) hS.2.2 dX0_searchWith_84 hlocks
