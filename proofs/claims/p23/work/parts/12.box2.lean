theorem sw_I17 (S : wPS) (o1 : Nat) (x1 x2 : Int32) (S4 : wPS) (w4_3 : Int32) : ∀ (n : Nat) (T : wPS) (w : Int32), (f_X0_searchWith_L17 S o1 x1 x2 S4 w4_3 n T w).1.I = T.I := by
  intro n
  induction n with
  | zero => intro T w; rfl
  | succ n ih =>
    intro T w
    rw [f_X0_searchWith_L17_s]
    (repeat' split) <;> first | rfl | exact ih _ _ | exact (ih _ _).trans (cmp_I _ _ _ _ _ _)
theorem sw_I4 (S : wPS) (o1 : Nat) (x1 x2 : Int32) : ∀ (n : Nat) (T : wPS) (w : Int32), (f_X0_searchWith_L4 S o1 x1 x2 n T w).1.I = T.I := by
  intro n
  induction n with
  | zero => intro T w; rfl
  | succ n ih =>
    intro T w
    rw [f_X0_searchWith_L4_s]
    split
    · rfl
    · exact (ih _ _).trans (sw_I17 ..)
theorem sw_I (S : wPS) (o1 : Nat) (x1 x2 : Int32) : (f_X0_searchWith S o1 x1 x2).I = S.I := sw_I4 S o1 x1 x2 64 S (x1 + 1)
def f_X0_search_L37 (S : wPS) (o1 : Nat) (x1 : Int64) (x2 : Int64) (S25 : wPS) (w25_5 : Int32) : Nat → wPS → Int32 → wPS × Int32
  | 0, S37, w37_6 => (S37, w37_6)
  | n + 1, S37, w37_6 => if (S37.I o1 2) ≤ w37_6 then (S37, w37_6) else if w25_5 = w37_6 then f_X0_search_L37 S o1 x1 x2 S25 w25_5 n S37 (w37_6 + (1 : Int32)) else f_X0_search_L37 S o1 x1 x2 S25 w25_5 n (f_X0_searchWith S37 o1 w25_5 w37_6) (w37_6 + (1 : Int32))
theorem f_X0_search_L37_s (S : wPS) (o1 : Nat) (x1 : Int64) (x2 : Int64) (S25 : wPS) (w25_5 : Int32) (n : Nat) (S37 : wPS) (w37_6 : Int32) : f_X0_search_L37 S o1 x1 x2 S25 w25_5 (n + 1) S37 w37_6 = if (S37.I o1 2) ≤ w37_6 then (S37, w37_6) else if w25_5 = w37_6 then f_X0_search_L37 S o1 x1 x2 S25 w25_5 n S37 (w37_6 + (1 : Int32)) else f_X0_search_L37 S o1 x1 x2 S25 w25_5 n (f_X0_searchWith S37 o1 w25_5 w37_6) (w37_6 + (1 : Int32)) := rfl
def f_X0_search_L25 (S : wPS) (o1 : Nat) (x1 : Int64) (x2 : Int64) : Nat → wPS → Int32 → wPS × Int32
  | 0, S25, w25_5 => (S25, w25_5)
  | n + 1, S25, w25_5 => if (S25.I o1 2) ≤ w25_5 then (S25, w25_5) else l2 (f_X0_search_L37 S o1 x1 x2 S25 w25_5 64 S25 (0 : Int32)) (fun z14 z15 => f_X0_search_L25 S o1 x1 x2 n z14 (w25_5 + (1 : Int32)))
theorem f_X0_search_L25_s (S : wPS) (o1 : Nat) (x1 : Int64) (x2 : Int64) (n : Nat) (S25 : wPS) (w25_5 : Int32) : f_X0_search_L25 S o1 x1 x2 (n + 1) S25 w25_5 = if (S25.I o1 2) ≤ w25_5 then (S25, w25_5) else l2 (f_X0_search_L37 S o1 x1 x2 S25 w25_5 64 S25 (0 : Int32)) (fun z14 z15 => f_X0_search_L25 S o1 x1 x2 n z14 (w25_5 + (1 : Int32))) := rfl
def f_X0_search (S : wPS) (o1 : Nat) (x1 : Int64) (x2 : Int64) : wPS := l2 (f_X0_search_L25 S o1 x1 x2 64 ((((S.sJ o1 3 x1).sJ o1 4 x2).sJ o1 5 (9223372036854775807 : Int64)).sJ o1 6 (0 : Int64)) (0 : Int32)) (fun z17 z18 => z17)
set_option maxHeartbeats 4000000 in
set_option maxRecDepth 100000 in
theorem c_X0_search (l : Launch) {D : va_G} {cy : Nat → ClassId} {X : va_W} (S : wPS) (sz : Nat) (o1 : Nat) (h_o1 : ok0 S o1) (x1 : Int64) (x2 : Int64) (h16 : S.n (S.f o1 0) = 16) (h4 : S.n (S.f o1 1) = 4) (hc : 0 ≤ (S.I o1 2).toInt ∧ (S.I o1 2).toInt ≤ 16) : Met l yX0_search wsX0_search ({ frames := 3, cells := 0, slots := 0, locals := 65 }) (va_Pc [.ref o1, .long x1, .long x2] (fun U => U.heap.size = sz ∧ WD D cy X (fun _ => True) S U ∧ NW U)) (va_Qv (fun (u : wPS) => u = f_X0_search S o1 x1 x2 ∧ sh S u) (fun u t => WD D cy X (va_A (X ++ PL cy S) sz) u t) (va_A (X ++ PL cy S) sz)) 0 0 (va_A (X ++ PL cy S) sz) := by
  refine Met.ofW (cc := cX0_search) (maxL := 7) (ret := none) (by decide) rfl ?_
  intro p e s m args below meth c s₁ B hml hv
  obtain ⟨rfl, hsz, ⟨hP, hK, hD0⟩, hN⟩ := hv
  have hx := B.exec
  have hb := B.bytes
  have hr := B.returns
  have hts := atoms_spec (ws := wsX0_search) B.pre
  have hown : s.vm.findClass RX0 = some m.cls := findClass_of_methodNamed B.named
  have hlocks := B.notSynchronized
  subst hsz
  have hD := hD0.self (sz := s.heap.size)
  generalize hAe : va_A (X ++ PL cy S) s.heap.size = A at hD ⊢
  have hA : ∀ q : Nat, s.heap.size ≤ q → A q := fun q h => by rw [← hAe]; exact Or.inr h
  have hS : va_S A s.heap s.heap [] := va_S.rf
  have hl := lv_entry ([.ref o1, .long x1, .long x2]) (n := 7) (Nat.le_of_ble_eq_true rfl)
  rw [lg_entry_eq]
  generalize (lg_sl ([.ref o1, .long x1, .long x2]) ++ List.replicate (7 - (lg_sl ([.ref o1, .long x1, .long x2])).length) Slot.unset).toArray = ls at hl ⊢
  have hl : lv_has ls 7 [(0, .ref o1), (1, .long x1), (3, .long x2)] := hl
  refine lv_aload_n hx hb dX0_search_0 rfl (lv_at hl 0 rfl) ?_
  refine lv_lload_n hx hb dX0_search_1 rfl (lv_at hl 1 rfl) ?_
  obtain ⟨k1, gk1, hk1⟩ := wGt (cy := cy) X S h_o1.1.1 h_o1.1.2.1
  refine va_put (D := D) (ci := 4) (v := .long x1) (ty := .long) (C := RX0) (T := TX0) (N := 7) hx hb hts (by decide +kernel) tyX0 tyX0_ok nmX0 hown hK hP hD hS k1 hk1 rfl 3 (by decide) (hts (.fieldLink RX0 22 "Hobhouse$Box" "ratioUp" "J") (by decide +kernel)) (fun _ h9 => h9) rfl (by decide +kernel) (rfl) (rfl) (Nat.le_of_ble_eq_true rfl) dX0_search_2 (fun H locs hP2 hD2 hS => ?_)
  have e9 := wPuJ (cy := cy) (j := 3) (v := x1) hD h_o1.1.1 h_o1.1.2.1 gk1 rfl
  have hP : va_P D vwCl (X ++ PL cy (S.sJ o1 3 x1)) H := by rw [← e9]; exact hP2
  have hD : va_D A (X ++ PL cy (S.sJ o1 3 x1)) := by rw [← e9]; exact hD2
  refine lv_aload_n hx hb dX0_search_5 rfl (lv_at hl 0 rfl) ?_
  refine lv_lload_n hx hb dX0_search_6 rfl (lv_at hl 2 rfl) ?_
  obtain ⟨k2, gk2, hk2⟩ := wGt (cy := cy) X (S.sJ o1 3 x1) (((sh.rf S).J o1 3 x1).L h_o1.1.1) (((sh.rf S).J o1 3 x1).K h_o1.1.2.1)
  refine va_put (D := D) (ci := 4) (v := .long x2) (ty := .long) (C := RX0) (T := TX0) (N := 7) hx hb hts (by decide +kernel) tyX0 tyX0_ok nmX0 hown hK hP hD hS k2 hk2 rfl 4 (by decide) (hts (.fieldLink RX0 26 "Hobhouse$Box" "ratioDown" "J") (by decide +kernel)) (fun _ h9 => h9) rfl (by decide +kernel) (rfl) (rfl) (Nat.le_of_ble_eq_true rfl) dX0_search_7 (fun H locs hP2 hD2 hS => ?_)
  have e9 := wPuJ (cy := cy) (j := 4) (v := x2) hD (((sh.rf S).J o1 3 x1).L h_o1.1.1) (((sh.rf S).J o1 3 x1).K h_o1.1.2.1) gk2 rfl
  have hP : va_P D vwCl (X ++ PL cy ((S.sJ o1 3 x1).sJ o1 4 x2)) H := by rw [← e9]; exact hP2
  have hD : va_D A (X ++ PL cy ((S.sJ o1 3 x1).sJ o1 4 x2)) := by rw [← e9]; exact hD2
  refine lv_aload_n hx hb dX0_search_10 rfl (lv_at hl 0 rfl) ?_
  refine lv_ldc2 (own := RX0) (v := 9223372036854775807) hx hb hown (hts (.constantLong RX0 29 (9223372036854775807)) (by decide +kernel)) dX0_search_11 ?_
  obtain ⟨k3, gk3, hk3⟩ := wGt (cy := cy) X ((S.sJ o1 3 x1).sJ o1 4 x2) ((((sh.rf S).J o1 3 x1).J o1 4 x2).L h_o1.1.1) ((((sh.rf S).J o1 3 x1).J o1 4 x2).K h_o1.1.2.1)
  refine va_put (D := D) (ci := 4) (v := .long (9223372036854775807 : Int64)) (ty := .long) (C := RX0) (T := TX0) (N := 7) hx hb hts (by decide +kernel) tyX0 tyX0_ok nmX0 hown hK hP hD hS k3 hk3 rfl 5 (by decide) (hts (.fieldLink RX0 31 "Hobhouse$Box" "leastError" "J") (by decide +kernel)) (fun _ h9 => h9) rfl (by decide +kernel) (rfl) (rfl) (Nat.le_of_ble_eq_true rfl) dX0_search_14 (fun H locs hP2 hD2 hS => ?_)
  have e9 := wPuJ (cy := cy) (j := 5) (v := (9223372036854775807 : Int64)) hD ((((sh.rf S).J o1 3 x1).J o1 4 x2).L h_o1.1.1) ((((sh.rf S).J o1 3 x1).J o1 4 x2).K h_o1.1.2.1) gk3 rfl
  have hP : va_P D vwCl (X ++ PL cy (((S.sJ o1 3 x1).sJ o1 4 x2).sJ o1 5 (9223372036854775807 : Int64))) H := by rw [← e9]; exact hP2
  have hD : va_D A (X ++ PL cy (((S.sJ o1 3 x1).sJ o1 4 x2).sJ o1 5 (9223372036854775807 : Int64))) := by rw [← e9]; exact hD2
  refine lv_aload_n hx hb dX0_search_17 rfl (lv_at hl 0 rfl) ?_
  refine lv_lconst (v := 0) hx hb dX0_search_18 (by decide) ?_
  obtain ⟨k4, gk4, hk4⟩ := wGt (cy := cy) X (((S.sJ o1 3 x1).sJ o1 4 x2).sJ o1 5 (9223372036854775807 : Int64)) (((((sh.rf S).J o1 3 x1).J o1 4 x2).J o1 5 (9223372036854775807 : Int64)).L h_o1.1.1) (((((sh.rf S).J o1 3 x1).J o1 4 x2).J o1 5 (9223372036854775807 : Int64)).K h_o1.1.2.1)
  refine va_put (D := D) (ci := 4) (v := .long (0 : Int64)) (ty := .long) (C := RX0) (T := TX0) (N := 7) hx hb hts (by decide +kernel) tyX0 tyX0_ok nmX0 hown hK hP hD hS k4 hk4 rfl 6 (by decide) (hts (.fieldLink RX0 34 "Hobhouse$Box" "leastBase" "J") (by decide +kernel)) (fun _ h9 => h9) rfl (by decide +kernel) (rfl) (rfl) (Nat.le_of_ble_eq_true rfl) dX0_search_19 (fun H locs hP2 hD2 hS => ?_)
  have e9 := wPuJ (cy := cy) (j := 6) (v := (0 : Int64)) hD (((((sh.rf S).J o1 3 x1).J o1 4 x2).J o1 5 (9223372036854775807 : Int64)).L h_o1.1.1) (((((sh.rf S).J o1 3 x1).J o1 4 x2).J o1 5 (9223372036854775807 : Int64)).K h_o1.1.2.1) gk4 rfl
  have hP : va_P D vwCl (X ++ PL cy ((((S.sJ o1 3 x1).sJ o1 4 x2).sJ o1 5 (9223372036854775807 : Int64)).sJ o1 6 (0 : Int64))) H := by rw [← e9]; exact hP2
  have hD : va_D A (X ++ PL cy ((((S.sJ o1 3 x1).sJ o1 4 x2).sJ o1 5 (9223372036854775807 : Int64)).sJ o1 6 (0 : Int64))) := by rw [← e9]; exact hD2
  refine lv_iconst (v := 0) hx hb dX0_search_22 (by decide) ?_
  refine lv_istore (lv' := [(5, .int (0 : Int32)), (0, .ref o1), (1, .long x1), (3, .long x2)]) hx hb dX0_search_23 hl (by decide) rfl (fun ls hl => ?_)
  have loop25 : ∀ (n : Nat) (S25 : wPS) (w25_5 : Int32) (H : Heap) (locs : List Loc) (ls : Array Slot), ((S.I o1 2).toInt - w25_5.toInt).toNat < n → S25.I = S.I ∧ 0 ≤ w25_5 → sh S S25 → va_P D vwCl (X ++ PL cy S25) H → va_D A (X ++ PL cy S25) → va_S A s.heap H locs → lv_has ls 7 [(5, .int w25_5), (0, .ref o1), (1, .long x1), (3, .long x2)] → (∀ (S25x : wPS) (w25_5x : Int32) (H : Heap) (locs : List Loc) (ls : Array Slot), S25x.I = S.I ∧ 0 ≤ w25_5x → sh S S25x → va_P D vwCl (X ++ PL cy S25x) H → va_D A (X ++ PL cy S25x) → va_S A s.heap H locs → lv_has ls 7 [(5, .int w25_5x), (0, .ref o1), (1, .long x1), (3, .long x2)] → f_X0_search_L25 S o1 x1 x2 n S25 w25_5 = (S25x, w25_5x) → W p l e (headSpec wsX0_search ({ frames := 3, cells := 0, slots := 0, locals := 65 } : Room)).room s m [.ref o1, .long x1, .long x2].toArray below meth c H locs 0 0 (MQ below (va_Qv (fun (u : wPS) => u = f_X0_search S o1 x1 x2 ∧ sh S u) (fun u t => WD D cy X A u t) A) [.ref o1, .long x1, .long x2].toArray s 0 0 A) (F0 m 73 ls [])) → W p l e (headSpec wsX0_search ({ frames := 3, cells := 0, slots := 0, locals := 65 } : Room)).room s m [.ref o1, .long x1, .long x2].toArray below meth c H locs 0 0 (MQ below (va_Qv (fun (u : wPS) => u = f_X0_search S o1 x1 x2 ∧ sh S u) (fun u t => WD D cy X A u t) A) [.ref o1, .long x1, .long x2].toArray s 0 0 A) (F0 m 25 ls []) := by
    intro n
    induction n with
    | zero => intro S25 w25_5 H locs ls hm; exact absurd hm (Nat.not_lt_zero _)
    | succ n ih25 =>
      intro S25 w25_5 H locs ls hm hi hsh hP hD hS hl ko
      refine lv_iload hx hb dX0_search_25 (lv_at hl 0 rfl) ?_
      refine lv_aload_n hx hb dX0_search_27 rfl (lv_at hl 1 rfl) ?_
      obtain ⟨k5, gk5, hk5⟩ := wGt (cy := cy) X S25 (hsh.L h_o1.1.1) (hsh.K h_o1.1.2.1)
      refine va_get (D := D) (ci := 4) (v := .int (S25.I o1 2)) (C := RX0) (T := TX0) (N := 7) hx hb hts (by decide +kernel) hown hK hP k5 hk5 rfl 2 (by decide) (hts (.fieldLink RX0 18 "Hobhouse$Box" "count" "I") (by decide +kernel)) (fun _ h9 => h9) rfl dX0_search_28 ?_
      refine lv_icmp_ge (tgt := 73) hx hb dX0_search_31 (by decide) (fun c6 => ?_) (fun c6 => ?_)
      · exact ko S25 w25_5 _ _ _ (hi) (hsh) hP hD hS (lv_sub hl [0, 1, 2, 3] rfl) (by rw [f_X0_search_L25_s, if_pos c6])
      · refine lv_iconst (v := 0) hx hb dX0_search_34 (by decide) ?_
        refine lv_istore (lv' := [(6, .int (0 : Int32)), (5, .int w25_5), (0, .ref o1), (1, .long x1), (3, .long x2)]) hx hb dX0_search_35 hl (by decide) rfl (fun ls hl => ?_)
        have loop37 : ∀ (n : Nat) (S37 : wPS) (w37_6 : Int32) (H : Heap) (locs : List Loc) (ls : Array Slot), ((S.I o1 2).toInt - w37_6.toInt).toNat < n → S37.I = S.I ∧ 0 ≤ w37_6 ∧ 0 ≤ w25_5.toInt ∧ w25_5.toInt < (S.I o1 2).toInt → sh S S37 → va_P D vwCl (X ++ PL cy S37) H → va_D A (X ++ PL cy S37) → va_S A s.heap H locs → lv_has ls 7 [(6, .int w37_6), (5, .int w25_5), (0, .ref o1), (1, .long x1), (3, .long x2)] → (∀ (S37x : wPS) (w37_6x : Int32) (H : Heap) (locs : List Loc) (ls : Array Slot), S37x.I = S.I ∧ 0 ≤ w37_6x ∧ 0 ≤ w25_5.toInt ∧ w25_5.toInt < (S.I o1 2).toInt → sh S S37x → va_P D vwCl (X ++ PL cy S37x) H → va_D A (X ++ PL cy S37x) → va_S A s.heap H locs → lv_has ls 7 [(6, .int w37_6x), (5, .int w25_5), (0, .ref o1), (1, .long x1), (3, .long x2)] → f_X0_search_L37 S o1 x1 x2 S25 w25_5 n S37 w37_6 = (S37x, w37_6x) → W p l e (headSpec wsX0_search ({ frames := 3, cells := 0, slots := 0, locals := 65 } : Room)).room s m [.ref o1, .long x1, .long x2].toArray below meth c H locs 0 0 (MQ below (va_Qv (fun (u : wPS) => u = f_X0_search S o1 x1 x2 ∧ sh S u) (fun u t => WD D cy X A u t) A) [.ref o1, .long x1, .long x2].toArray s 0 0 A) (F0 m 67 ls [])) → W p l e (headSpec wsX0_search ({ frames := 3, cells := 0, slots := 0, locals := 65 } : Room)).room s m [.ref o1, .long x1, .long x2].toArray below meth c H locs 0 0 (MQ below (va_Qv (fun (u : wPS) => u = f_X0_search S o1 x1 x2 ∧ sh S u) (fun u t => WD D cy X A u t) A) [.ref o1, .long x1, .long x2].toArray s 0 0 A) (F0 m 37 ls []) := by
          intro n
          induction n with
          | zero => intro S37 w37_6 H locs ls hm; exact absurd hm (Nat.not_lt_zero _)
          | succ n ih37 =>
            intro S37 w37_6 H locs ls hm hi hsh hP hD hS hl ko
            refine lv_iload hx hb dX0_search_37 (lv_at hl 0 rfl) ?_
            refine lv_aload_n hx hb dX0_search_39 rfl (lv_at hl 2 rfl) ?_
            obtain ⟨k7, gk7, hk7⟩ := wGt (cy := cy) X S37 (hsh.L h_o1.1.1) (hsh.K h_o1.1.2.1)
            refine va_get (D := D) (ci := 4) (v := .int (S37.I o1 2)) (C := RX0) (T := TX0) (N := 7) hx hb hts (by decide +kernel) hown hK hP k7 hk7 rfl 2 (by decide) (hts (.fieldLink RX0 18 "Hobhouse$Box" "count" "I") (by decide +kernel)) (fun _ h9 => h9) rfl dX0_search_40 ?_
            refine lv_icmp_ge (tgt := 67) hx hb dX0_search_43 (by decide) (fun c8 => ?_) (fun c8 => ?_)
            · exact ko S37 w37_6 _ _ _ (hi) (hsh) hP hD hS (lv_sub hl [0, 1, 2, 3, 4] rfl) (by rw [f_X0_search_L37_s, if_pos c8])
            · refine lv_iload hx hb dX0_search_46 (lv_at hl 1 rfl) ?_
              refine lv_iload hx hb dX0_search_48 (lv_at hl 0 rfl) ?_
              refine lv_icmp_eq (tgt := 61) hx hb dX0_search_50 (by decide) (fun c9 => ?_) (fun c9 => ?_)
              · refine lv_iinc (v := w37_6 + (1 : Int32)) (lv' := [(6, .int (w37_6 + (1 : Int32))), (5, .int w25_5), (0, .ref o1), (1, .long x1), (3, .long x2)]) hx hb dX0_search_61 hl (k := 0) rfl (by rfl) (by decide) rfl (fun ls hl => ?_)
                refine lv_goto (tgt := 37) hx hb dX0_search_64 (by decide) ?_
                exact ih37 S37 (w37_6 + (1 : Int32)) _ _ _ (Nat.lt_of_lt_of_le (up_lt (by have h9 := c8; rw [hi.1] at h9; exact h9)) (Nat.le_of_lt_succ hm)) (by first | exact ⟨(sw_I _ _ _ _).trans hi.1, up_in c8 hi.2.1, hi.2.2⟩ | exact ⟨hi.1, up_in c8 hi.2.1, hi.2.2⟩) (hsh) hP hD hS (lv_sub hl [0, 1, 2, 3, 4] rfl) (fun S37y w37_6y H9 locs9 ls9 i9 sh9 P9 D9 S9 l9 hfe => ko S37y w37_6y H9 locs9 ls9 i9 sh9 P9 D9 S9 l9 (Eq.trans (by rw [f_X0_search_L37_s, if_neg c8, if_pos c9]) hfe))
              · refine lv_aload_n hx hb dX0_search_53 rfl (lv_at hl 2 rfl) ?_
                refine lv_iload hx hb dX0_search_54 (lv_at hl 1 rfl) ?_
                refine lv_iload hx hb dX0_search_56 (lv_at hl 0 rfl) ?_
                have hFc := free_all hD hS hA
                obtain ⟨k10, gk10, hk10⟩ := wGt (cy := cy) X S37 (hsh.L h_o1.1.1) (hsh.K h_o1.1.2.1)
                refine va_callv (va_runV (As := [.int w25_5, .int w37_6]) (rest := []) ⟨hx, hb, hml, hown, hts⟩ (c_X0_searchWith l (cy := cy) (X := X) (D := D) S37 _ o1 (hsh.k0 h_o1) w25_5 w37_6 (by rw [hsh.2.2.2.1, hsh.g]; exact h16) (by rw [hsh.2.2.2.1, hsh.g]; exact h4) (by rw [hi.1]; exact ⟨hi.2.2.1, hi.2.2.2⟩) (by have h9 := nlt_of (by assumption : ¬ S37.I o1 2 ≤ w37_6); exact ⟨z_le hi.2.1, h9⟩) (by rw [hi.1]; exact hc.2)) (cwV 2 hts gX0_search_X0_searchWith rfl rfl rfl (by decide +kernel) ⟨Nat.le_of_ble_eq_true rfl, Nat.le_of_ble_eq_true rfl⟩) ⟨fun a U g mk q => ⟨q.1, q.2.1, q.2.2.1.calling, NW.same (u := U) (U := U.calling g mk a) rfl q.2.2.2⟩, va_recv hK hP (ci := 4) (q0 := k10) rfl hk10, fun U hU hW => ⟨rfl, by rw [hU], wd_pre hP hK hD hU hW, hN.warm hW⟩⟩ rfl rfl hl.1 rfl (lv_room (Nat.le_of_ble_eq_true rfl)) dX0_search_58 ⟨(Nat.zero_le _), (Nat.zero_le _)⟩) hS (fun q _ h => hFc q h) hFc (fun u t H1 locs ht hvm hw hB hz1 hk1 hS => ?_)
                obtain ⟨hP, hD⟩ := wd_post hFc ht hB
                generalize H1 = H at hP hS ⊢
                obtain ⟨hw1, shq12⟩ := hw
                obtain rfl : u = f_X0_searchWith S37 o1 w25_5 w37_6 := hw1
                refine lv_iinc (v := w37_6 + (1 : Int32)) (lv' := [(6, .int (w37_6 + (1 : Int32))), (5, .int w25_5), (0, .ref o1), (1, .long x1), (3, .long x2)]) hx hb dX0_search_61 hl (k := 0) rfl (by rfl) (by decide) rfl (fun ls hl => ?_)
                refine lv_goto (tgt := 37) hx hb dX0_search_64 (by decide) ?_
                exact ih37 (f_X0_searchWith S37 o1 w25_5 w37_6) (w37_6 + (1 : Int32)) _ _ _ (Nat.lt_of_lt_of_le (up_lt (by have h9 := c8; rw [hi.1] at h9; exact h9)) (Nat.le_of_lt_succ hm)) (by first | exact ⟨(sw_I _ _ _ _).trans hi.1, up_in c8 hi.2.1, hi.2.2⟩ | exact ⟨hi.1, up_in c8 hi.2.1, hi.2.2⟩) ((hsh.trans shq12)) hP hD hS (lv_sub hl [0, 1, 2, 3, 4] rfl) (fun S37y w37_6y H9 locs9 ls9 i9 sh9 P9 D9 S9 l9 hfe => ko S37y w37_6y H9 locs9 ls9 i9 sh9 P9 D9 S9 l9 (Eq.trans (by rw [f_X0_search_L37_s, if_neg c8, if_neg c9]) hfe))
        refine loop37 64 S25 (0 : Int32) _ _ _ (by have h0 : (0 : Int32).toInt = 0 := rfl; rw [h0]; omega) (⟨hi.1, by decide, z_le hi.2, nlt_of (by have h9 := c6; rw [hi.1] at h9; exact h9)⟩) hsh hP hD hS (lv_sub hl [0, 1, 2, 3, 4] rfl) (fun z14 z15 H locs ls hi37 hsh37 hP hD hS hl c13 => ?_)
        refine lv_iinc (v := w25_5 + (1 : Int32)) (lv' := [(5, .int (w25_5 + (1 : Int32))), (6, .int z15), (0, .ref o1), (1, .long x1), (3, .long x2)]) hx hb dX0_search_67 hl (k := 1) rfl (by rfl) (by decide) rfl (fun ls hl => ?_)
        refine lv_goto (tgt := 25) hx hb dX0_search_70 (by decide) ?_
        exact ih25 z14 (w25_5 + (1 : Int32)) _ _ _ (Nat.lt_of_lt_of_le (up_lt (by have h9 := c6; rw [hi.1] at h9; exact h9)) (Nat.le_of_lt_succ hm)) (⟨hi37.1, up_in c6 hi.2⟩) (hsh37) hP hD hS (lv_sub hl [0, 2, 3, 4] rfl) (fun S25y w25_5y H9 locs9 ls9 i9 sh9 P9 D9 S9 l9 hfe => ko S25y w25_5y H9 locs9 ls9 i9 sh9 P9 D9 S9 l9 (Eq.trans (by rw [f_X0_search_L25_s, if_neg c6, l2_eq c13]) hfe))
  refine loop25 64 ((((S.sJ o1 3 x1).sJ o1 4 x2).sJ o1 5 (9223372036854775807 : Int64)).sJ o1 6 (0 : Int64)) (0 : Int32) _ _ _ (by have h0 : (0 : Int32).toInt = 0 := rfl; rw [h0]; omega) (⟨rfl, by decide⟩) (((((sh.rf S).J o1 3 x1).J o1 4 x2).J o1 5 (9223372036854775807 : Int64)).J o1 6 (0 : Int64)) hP hD hS (lv_sub hl [0, 1, 2, 3] rfl) (fun z17 z18 H locs ls hi25 hsh25 hP hD hS hl c16 => ?_)
  exact W.vret hx hb hr (fun t ht hW => ⟨⟨z17, rfl, (⟨(by show z17 = f_X0_search S o1 x1 x2; unfold f_X0_search; rw [l2_eq c16]), hsh25⟩), wd_end hP hK hD ht hW.alike⟩, hS.F ht⟩) hS.2.2 dX0_search_73 hlocks
def f_X9_fewest_L10 (S : wPS) (o1 : Nat) (x1 : Int32) : Nat → Int32 → Int32
  | 0, w10_2 => w10_2
  | n + 1, w10_2 => if (200 : Int32) ≤ w10_2 then w10_2 else if (f_X9_undercuts w10_2 x1) = (0 : Int32) then w10_2 else f_X9_fewest_L10 S o1 x1 n (w10_2 + (1 : Int32))
theorem f_X9_fewest_L10_s (S : wPS) (o1 : Nat) (x1 : Int32) (n : Nat) (w10_2 : Int32) : f_X9_fewest_L10 S o1 x1 (n + 1) w10_2 = if (200 : Int32) ≤ w10_2 then w10_2 else if (f_X9_undercuts w10_2 x1) = (0 : Int32) then w10_2 else f_X9_fewest_L10 S o1 x1 n (w10_2 + (1 : Int32)) := rfl
def f_X9_fewest (S : wPS) (o1 : Nat) (x1 : Int32) : Except String Int32 := eB (f_X9_needRange x1 (-100 : Int32) (100 : Int32)) (fun _ => l1 (f_X9_fewest_L10 S o1 x1 256 (1 : Int32)) (fun z8 => .ok z8))
set_option maxHeartbeats 4000000 in
set_option maxRecDepth 100000 in
theorem c_X9_fewest (l : Launch) (hst : l.stackTraces = false) {D : va_G} {cy : Nat → ClassId} {X : va_W} (S : wPS) (sz : Nat) (o1 : Nat) (h_o1 : ok9 S o1) (x1 : Int32)  : vx_Met l yX9_fewest wsX9_fewest ({ frames := 7, cells := 1, slots := 6, locals := 104 }) (va_Pc [.ref o1, .int x1] (fun U => U.heap.size = sz ∧ WD D cy X (fun _ => True) S U ∧ NW U ∧ TH (va_A (X ++ PL cy S) sz) U)) (va_Qi (fun r (_ : Unit) => f_X9_fewest S o1 x1 = .ok r) (fun _ t => WD D cy X (va_A (X ++ PL cy S) sz) S t) (va_A (X ++ PL cy S) sz)) (vx_X (fun (_ : Unit) => True) (fun E _ t => f_X9_fewest S o1 x1 = .error E ∧ WD D cy X (va_A (X ++ PL cy S) sz) S t) (va_A (X ++ PL cy S) sz)) 1 6 (va_A (X ++ PL cy S) sz) := by
  refine vx_ofW (cc := cX9_fewest) (maxL := 3) (ret := (some .int)) (by decide) rfl ?_
  intro p e s m args below meth c s₁ B hml hno hv
  obtain ⟨rfl, hsz, ⟨hP, hK, hD0⟩, hN, hTH⟩ := hv
  have hx := B.exec
  have hb := B.bytes
  have hr := B.returns
  have hts := atoms_spec (ws := wsX9_fewest) B.pre
  have hown : s.vm.findClass RX9 = some m.cls := findClass_of_methodNamed B.named
  have hlocks := B.notSynchronized
  subst hsz
  have hD := hD0.self (sz := s.heap.size)
  generalize hAe : va_A (X ++ PL cy S) s.heap.size = A at hD hTH ⊢
  have hA : ∀ q : Nat, s.heap.size ≤ q → A q := fun q h => by rw [← hAe]; exact Or.inr h
  have hS : va_S A s.heap s.heap [] := va_S.rf
  have hl := lv_entry ([.ref o1, .int x1]) (n := 3) (Nat.le_of_ble_eq_true rfl)
  rw [lg_entry_eq]
  generalize (lg_sl ([.ref o1, .int x1]) ++ List.replicate (3 - (lg_sl ([.ref o1, .int x1])).length) Slot.unset).toArray = ls at hl ⊢
  have hl : lv_has ls 3 [(0, .ref o1), (1, .int x1)] := hl
  refine lv_iload_n hx hb dX9_fewest_0 rfl (lv_at hl 1 rfl) ?_
  refine lv_bipush (v := -100) hx hb dX9_fewest_1 (by decide +kernel) ?_
  refine lv_bipush (v := 100) hx hb dX9_fewest_3 (by decide +kernel) ?_
  have hFc := free_all hD hS hA
  refine vx_callv (vx_runS (As := [.int x1, .int (-100 : Int32), .int (100 : Int32)]) (rest := []) ⟨hx, hb, hml, hown, hts⟩ (c_X9_needRange l hst (cy := cy) (X := X) (D := D) S _ x1 (-100 : Int32) (100 : Int32)) (cwS 3 hts gX9_fewest_X9_needRange rfl rfl rfl (by decide +kernel) ⟨Nat.le_of_ble_eq_true rfl, Nat.le_of_ble_eq_true rfl⟩) ⟨fun a U g mk q => ⟨q.1, q.2.1, q.2.2.1.calling, NW.same (u := U) (U := U.calling g mk a) rfl q.2.2.2.1, q.2.2.2.2.calling⟩, fun U hU hW => ⟨rfl, by rw [hU], wd_pre hP hK hD hU hW, hN.warm hW, th_pre hTH hS hFc hU hW⟩⟩ rfl rfl hl.1 rfl (lv_room (Nat.le_of_ble_eq_true rfl)) dX9_fewest_5 ⟨Nat.le_of_ble_eq_true rfl, Nat.le_of_ble_eq_true rfl⟩) hS (fun q _ h => hFc q h) hFc (fun q _ h => hFc q h) (fun E ce q9 u t H1 locs ht hvm hw hB hz1 hk1 hS hq9 hce hcl => ?_) (fun u t H1 locs ht hvm hw hB hz1 hk1 hS => ?_)
  · obtain ⟨c2, hB2⟩ := hB
    obtain ⟨hP, hD⟩ := wd_post hFc ht hB2
    exact vx_out (fun x h => (hno x h).elim) hlocks hq9 hce hcl (fun t2 ht2 hA2 => ⟨(), trivial, ⟨(by show f_X9_fewest S o1 x1 = .error E; unfold f_X9_fewest; rw [eB_er c2]), wd_end hP hK hD ht2 hA2⟩, hS.F ht2⟩) hS.2.2 (Nat.le_of_ble_eq_true rfl) (Nat.le_of_ble_eq_true rfl)
  · have c3 := hw
    obtain ⟨hP, hD⟩ := wd_post hFc ht hB
    generalize H1 = H at hP hS ⊢
    refine lv_iconst (v := 1) hx hb dX9_fewest_8 (by decide) ?_
    refine lv_istore_n (lv' := [(2, .int (1 : Int32)), (0, .ref o1), (1, .int x1)]) hx hb dX9_fewest_9 rfl hl (by decide) rfl (fun ls hl => ?_)
    have loop10 : ∀ (n : Nat) (w10_2 : Int32) (H : Heap) (locs : List Loc) (ls : Array Slot), ((200 : Int32).toInt - w10_2.toInt).toNat < n → True → va_P D vwCl (X ++ PL cy S) H → va_S A s.heap H locs → lv_has ls 3 [(2, .int w10_2), (0, .ref o1), (1, .int x1)] → (∀ (w10_2x : Int32) (H : Heap) (locs : List Loc) (ls : Array Slot), True → va_P D vwCl (X ++ PL cy S) H → va_S A s.heap H locs → lv_has ls 3 [(2, .int w10_2x), (0, .ref o1), (1, .int x1)] → f_X9_fewest_L10 S o1 x1 n w10_2 = w10_2x → W p l e (headSpec wsX9_fewest ({ frames := 7, cells := 1, slots := 6, locals := 104 } : Room)).room s m [.ref o1, .int x1].toArray below meth c H locs 1 6 (vx_MQ below (va_Qi (fun r (_ : Unit) => f_X9_fewest S o1 x1 = .ok r) (fun _ t => WD D cy X A S t) A) (vx_X (fun (_ : Unit) => True) (fun E _ t => f_X9_fewest S o1 x1 = .error E ∧ WD D cy X A S t) A) [.ref o1, .int x1].toArray s 1 6 A) (F0 m 31 ls [])) → W p l e (headSpec wsX9_fewest ({ frames := 7, cells := 1, slots := 6, locals := 104 } : Room)).room s m [.ref o1, .int x1].toArray below meth c H locs 1 6 (vx_MQ below (va_Qi (fun r (_ : Unit) => f_X9_fewest S o1 x1 = .ok r) (fun _ t => WD D cy X A S t) A) (vx_X (fun (_ : Unit) => True) (fun E _ t => f_X9_fewest S o1 x1 = .error E ∧ WD D cy X A S t) A) [.ref o1, .int x1].toArray s 1 6 A) (F0 m 10 ls []) := by
      intro n
      induction n with
      | zero => intro w10_2 H locs ls hm; exact absurd hm (Nat.not_lt_zero _)
      | succ n ih10 =>
        intro w10_2 H locs ls hm hi hP hS hl ko
        refine lv_iload_n hx hb dX9_fewest_10 rfl (lv_at hl 0 rfl) ?_
        refine lv_sipush (v := 200) hx hb dX9_fewest_11 (by decide +kernel) ?_
        refine lv_icmp_ge (tgt := 31) hx hb dX9_fewest_14 (by decide) (fun c4 => ?_) (fun c4 => ?_)
        · exact ko w10_2 _ _ _ (hi) hP hS (lv_sub hl [0, 1, 2] rfl) (by rw [f_X9_fewest_L10_s, if_pos c4])
        · refine lv_iload_n hx hb dX9_fewest_17 rfl (lv_at hl 0 rfl) ?_
          refine lv_iload_n hx hb dX9_fewest_18 rfl (lv_at hl 2 rfl) ?_
          have hFc := free_all hD hS hA
          refine va_calli (va_runS (As := [.int w10_2, .int x1]) (rest := []) ⟨hx, hb, hml, hown, hts⟩ (c_X9_undercuts l (cy := cy) (X := X) (D := D) S _ w10_2 x1) (cwS 2 hts gX9_fewest_X9_undercuts rfl rfl rfl (by decide +kernel) ⟨Nat.le_of_ble_eq_true rfl, Nat.le_of_ble_eq_true rfl⟩) ⟨fun a U g mk q => ⟨q.1, q.2.1, q.2.2.1.calling, NW.same (u := U) (U := U.calling g mk a) rfl q.2.2.2⟩, fun U hU hW => ⟨rfl, by rw [hU], wd_pre hP hK hD hU hW, hN.warm hW⟩⟩ rfl rfl hl.1 rfl (lv_room (Nat.le_of_ble_eq_true rfl)) dX9_fewest_19 ⟨Nat.le_of_ble_eq_true rfl, Nat.le_of_ble_eq_true rfl⟩) hS (fun q _ h => hFc q h) hFc (fun r5 u t H1 locs ht hvm hw hB hz1 hk1 hS => ?_)
          obtain ⟨hP, hD⟩ := wd_post hFc ht hB
          generalize H1 = H at hP hS ⊢
          obtain rfl : r5 = f_X9_undercuts w10_2 x1 := hw
          refine lv_if_eq (tgt := 31) hx hb dX9_fewest_22 (by decide) (fun c6 => ?_) (fun c6 => ?_)
          · exact ko w10_2 _ _ _ (hi) hP hS (lv_sub hl [0, 1, 2] rfl) (by rw [f_X9_fewest_L10_s, if_neg c4, if_pos c6])
          · refine lv_iinc (v := w10_2 + (1 : Int32)) (lv' := [(2, .int (w10_2 + (1 : Int32))), (0, .ref o1), (1, .int x1)]) hx hb dX9_fewest_25 hl (k := 0) rfl (by rfl) (by decide) rfl (fun ls hl => ?_)
            refine lv_goto (tgt := 10) hx hb dX9_fewest_28 (by decide) ?_
            exact ih10 (w10_2 + (1 : Int32)) _ _ _ (Nat.lt_of_lt_of_le (up_lt c4) (Nat.le_of_lt_succ hm)) (trivial) hP hS (lv_sub hl [0, 1, 2] rfl) (fun w10_2y H9 locs9 ls9 i9 P9 S9 l9 hfe => ko w10_2y H9 locs9 ls9 i9 P9 S9 l9 (Eq.trans (by rw [f_X9_fewest_L10_s, if_neg c4, if_neg c6]) hfe))
    refine loop10 256 (1 : Int32) _ _ _ (by decide) (trivial) hP hS (lv_sub hl [0, 1, 2] rfl) (fun z8 H locs ls hi10 hP hS hl c7 => ?_)
    refine lv_iload_n hx hb dX9_fewest_31 rfl (lv_at hl 0 rfl) ?_
    refine vx_ret ?_
    refine W.widen (k := 1) (n := 6) (Nat.le_of_ble_eq_true rfl) (Nat.le_of_ble_eq_true rfl) ?_
    exact W.iret (v := z8) hx hb hr (fun t ht hW => ⟨⟨z8, (), rfl, (by show f_X9_fewest S o1 x1 = .ok z8; unfold f_X9_fewest; rw [eB_ok c3, l1_eq c7]), wd_end hP hK hD ht hW.alike⟩, hS.F ht⟩) hS.2.2 dX9_fewest_32 hlocks
def f_X9_wheel (S : wPS) (o1 : Nat) (x1 : Int32) : Except String (Int32 × wPS) := eB (f_X9_needRange x1 (15 : Int32) (127 : Int32)) (fun _ => if (f_X0_isFull S (S.f o1 6)) = (0 : Int32) then .ok ((f_X0_put S (S.f o1 6) x1).1, (f_X0_put S (S.f o1 6) x1).2) else .error "java/lang/IllegalStateException")
set_option maxRecDepth 20000 in
theorem s_X9_wheel_ISE : ∀ w ∈ (vx_atS RX9 71 "java/lang/IllegalStateException" ["java/lang/RuntimeException", "java/lang/Exception"]).filter goodWord, w ∈ wsX9_wheel := fun w h => List.mem_cons_of_mem _ (List.mem_append_left _ (List.mem_append_left _ (List.mem_append_right _ h)))
set_option maxHeartbeats 4000000 in
set_option maxRecDepth 100000 in
theorem c_X9_wheel (l : Launch) (hst : l.stackTraces = false) {D : va_G} {cy : Nat → ClassId} {X : va_W} (S : wPS) (sz : Nat) (o1 : Nat) (h_o1 : ok9 S o1) (x1 : Int32) (h16 : S.n (S.f (S.f o1 6) 0) = 16) (hc : 0 ≤ (S.I (S.f o1 6) 2).toInt) : vx_Met l yX9_wheel wsX9_wheel ({ frames := 7, cells := 2, slots := 12, locals := 104 }) (va_Pc [.ref o1, .int x1] (fun U => U.heap.size = sz ∧ WD D cy X (fun _ => True) S U ∧ NW U ∧ TH (va_A (X ++ PL cy S) sz) U)) (va_Qi (fun r (u : wPS) => f_X9_wheel S o1 x1 = .ok (r, u) ∧ sh S u) (fun u t => WD D cy X (va_A (X ++ PL cy S) sz) u t) (va_A (X ++ PL cy S) sz)) (vx_X (fun (_ : Unit) => True) (fun E _ t => f_X9_wheel S o1 x1 = .error E ∧ WD D cy X (va_A (X ++ PL cy S) sz) S t) (va_A (X ++ PL cy S) sz)) 2 12 (va_A (X ++ PL cy S) sz) := by
  refine vx_ofW (cc := cX9_wheel) (maxL := 2) (ret := (some .int)) (by decide) rfl ?_
  intro p e s m args below meth c s₁ B hml hno hv
  obtain ⟨rfl, hsz, ⟨hP, hK, hD0⟩, hN, hTH⟩ := hv
  have hx := B.exec
  have hb := B.bytes
  have hr := B.returns
  have hts := atoms_spec (ws := wsX9_wheel) B.pre
  have hown : s.vm.findClass RX9 = some m.cls := findClass_of_methodNamed B.named
  have hlocks := B.notSynchronized
  subst hsz
  have hD := hD0.self (sz := s.heap.size)
  generalize hAe : va_A (X ++ PL cy S) s.heap.size = A at hD hTH ⊢
  have hA : ∀ q : Nat, s.heap.size ≤ q → A q := fun q h => by rw [← hAe]; exact Or.inr h
  have hS : va_S A s.heap s.heap [] := va_S.rf
  have hl := lv_entry ([.ref o1, .int x1]) (n := 2) (Nat.le_of_ble_eq_true rfl)
  rw [lg_entry_eq]
  generalize (lg_sl ([.ref o1, .int x1]) ++ List.replicate (2 - (lg_sl ([.ref o1, .int x1])).length) Slot.unset).toArray = ls at hl ⊢
  have hl : lv_has ls 2 [(0, .ref o1), (1, .int x1)] := hl
  refine lv_iload_n hx hb dX9_wheel_0 rfl (lv_at hl 1 rfl) ?_
  refine lv_bipush (v := 15) hx hb dX9_wheel_1 (by decide +kernel) ?_
  refine lv_bipush (v := 127) hx hb dX9_wheel_3 (by decide +kernel) ?_
  have hFc := free_all hD hS hA
  refine vx_callv (vx_runS (As := [.int x1, .int (15 : Int32), .int (127 : Int32)]) (rest := []) ⟨hx, hb, hml, hown, hts⟩ (c_X9_needRange l hst (cy := cy) (X := X) (D := D) S _ x1 (15 : Int32) (127 : Int32)) (cwS 3 hts gX9_wheel_X9_needRange rfl rfl rfl (by decide +kernel) ⟨Nat.le_of_ble_eq_true rfl, Nat.le_of_ble_eq_true rfl⟩) ⟨fun a U g mk q => ⟨q.1, q.2.1, q.2.2.1.calling, NW.same (u := U) (U := U.calling g mk a) rfl q.2.2.2.1, q.2.2.2.2.calling⟩, fun U hU hW => ⟨rfl, by rw [hU], wd_pre hP hK hD hU hW, hN.warm hW, th_pre hTH hS hFc hU hW⟩⟩ rfl rfl hl.1 rfl (lv_room (Nat.le_of_ble_eq_true rfl)) dX9_wheel_5 ⟨Nat.le_of_ble_eq_true rfl, Nat.le_of_ble_eq_true rfl⟩) hS (fun q _ h => hFc q h) hFc (fun q _ h => hFc q h) (fun E ce q9 u t H1 locs ht hvm hw hB hz1 hk1 hS hq9 hce hcl => ?_) (fun u t H1 locs ht hvm hw hB hz1 hk1 hS => ?_)
  · obtain ⟨c2, hB2⟩ := hB
    obtain ⟨hP, hD⟩ := wd_post hFc ht hB2
    exact vx_out (fun x h => (hno x h).elim) hlocks hq9 hce hcl (fun t2 ht2 hA2 => ⟨(), trivial, ⟨(by show f_X9_wheel S o1 x1 = .error E; unfold f_X9_wheel; rw [eB_er c2]), wd_end hP hK hD ht2 hA2⟩, hS.F ht2⟩) hS.2.2 (Nat.le_of_ble_eq_true rfl) (Nat.le_of_ble_eq_true rfl)
  · have c3 := hw
    obtain ⟨hP, hD⟩ := wd_post hFc ht hB
    generalize H1 = H at hP hS ⊢
    refine lv_aload_n hx hb dX9_wheel_8 rfl (lv_at hl 0 rfl) ?_
    obtain ⟨k4, gk4, hk4⟩ := wGt (cy := cy) X S h_o1.1.1 h_o1.1.2.1
    simp only [kE, h_o1.2.2.2.2.1.1] at hk4
    refine va_get (D := D) (ci := 13) (v := .ref (S.f o1 6)) (C := RX9) (T := TX9) (N := 11) hx hb hts (by decide +kernel) hown hK hP k4 hk4 rfl 6 (by decide) (hts (.fieldLink RX9 30 "Hobhouse" "box" "LHobhouse$Box;") (by decide +kernel)) (fun _ h9 => h9) rfl dX9_wheel_9 ?_
    have hFc := free_all hD hS hA
    obtain ⟨k5, gk5, hk5⟩ := wGt (cy := cy) X S h_o1.2.2.2.2.1.2.1.1 h_o1.2.2.2.2.1.2.1.2.1
    refine va_calli (va_runV (As := []) (rest := []) ⟨hx, hb, hml, hown, hts⟩ (c_X0_isFull l (cy := cy) (X := X) (D := D) S _ (S.f o1 6) h_o1.2.2.2.2.1.2) (cwV 0 hts gX9_wheel_X0_isFull rfl rfl rfl (by decide +kernel) ⟨Nat.le_of_ble_eq_true rfl, Nat.le_of_ble_eq_true rfl⟩) ⟨fun a U g mk q => ⟨q.1, q.2.1, q.2.2.1.calling, NW.same (u := U) (U := U.calling g mk a) rfl q.2.2.2⟩, va_recv hK hP (ci := 4) (q0 := k5) rfl hk5, fun U hU hW => ⟨rfl, by rw [hU], wd_pre hP hK hD hU hW, hN.warm hW⟩⟩ rfl rfl hl.1 rfl (lv_room (Nat.le_of_ble_eq_true rfl)) dX9_wheel_12 ⟨Nat.le_of_ble_eq_true rfl, Nat.le_of_ble_eq_true rfl⟩) hS (fun q _ h => hFc q h) hFc (fun r6 u t H1 locs ht hvm hw hB hz1 hk1 hS => ?_)
    obtain ⟨hP, hD⟩ := wd_post hFc ht hB
    generalize H1 = H at hP hS ⊢
    obtain rfl : r6 = f_X0_isFull S (S.f o1 6) := hw
    refine lv_if_eq (tgt := 28) hx hb dX9_wheel_15 (by decide) (fun c7 => ?_) (fun c7 => ?_)
    · refine lv_aload_n hx hb dX9_wheel_28 rfl (lv_at hl 0 rfl) ?_
      obtain ⟨k8, gk8, hk8⟩ := wGt (cy := cy) X S h_o1.1.1 h_o1.1.2.1
      simp only [kE, h_o1.2.2.2.2.1.1] at hk8
      refine va_get (D := D) (ci := 13) (v := .ref (S.f o1 6)) (C := RX9) (T := TX9) (N := 11) hx hb hts (by decide +kernel) hown hK hP k8 hk8 rfl 6 (by decide) (hts (.fieldLink RX9 30 "Hobhouse" "box" "LHobhouse$Box;") (by decide +kernel)) (fun _ h9 => h9) rfl dX9_wheel_29 ?_
      refine lv_iload_n hx hb dX9_wheel_32 rfl (lv_at hl 1 rfl) ?_
      have hFc := free_all hD hS hA
      obtain ⟨k9, gk9, hk9⟩ := wGt (cy := cy) X S h_o1.2.2.2.2.1.2.1.1 h_o1.2.2.2.2.1.2.1.2.1
      refine va_calli (va_runV (As := [.int x1]) (rest := []) ⟨hx, hb, hml, hown, hts⟩ (c_X0_put l (cy := cy) (X := X) (D := D) S _ (S.f o1 6) h_o1.2.2.2.2.1.2 x1 h16 hc) (cwV 1 hts gX9_wheel_X0_put rfl rfl rfl (by decide +kernel) ⟨Nat.le_of_ble_eq_true rfl, Nat.le_of_ble_eq_true rfl⟩) ⟨fun a U g mk q => ⟨q.1, q.2.1, q.2.2.1.calling, NW.same (u := U) (U := U.calling g mk a) rfl q.2.2.2⟩, va_recv hK hP (ci := 4) (q0 := k9) rfl hk9, fun U hU hW => ⟨rfl, by rw [hU], wd_pre hP hK hD hU hW, hN.warm hW⟩⟩ rfl rfl hl.1 rfl (lv_room (Nat.le_of_ble_eq_true rfl)) dX9_wheel_33 ⟨Nat.le_of_ble_eq_true rfl, Nat.le_of_ble_eq_true rfl⟩) hS (fun q _ h => hFc q h) hFc (fun r10 u t H1 locs ht hvm hw hB hz1 hk1 hS => ?_)
      obtain ⟨hP, hD⟩ := wd_post hFc ht hB
      generalize H1 = H at hP hS ⊢
      obtain ⟨hw1, shq11⟩ := hw
      obtain rfl : r10 = (f_X0_put S (S.f o1 6) x1).1 := congrArg Prod.fst hw1
      obtain rfl : u = (f_X0_put S (S.f o1 6) x1).2 := congrArg Prod.snd hw1
      refine vx_ret ?_
      refine W.widen (k := 2) (n := 12) (Nat.le_of_ble_eq_true rfl) (Nat.le_of_ble_eq_true rfl) ?_
      exact W.iret (v := (f_X0_put S (S.f o1 6) x1).1) hx hb hr (fun t ht hW => ⟨⟨(f_X0_put S (S.f o1 6) x1).1, (f_X0_put S (S.f o1 6) x1).2, rfl, (⟨(by show f_X9_wheel S o1 x1 = .ok ((f_X0_put S (S.f o1 6) x1).1, (f_X0_put S (S.f o1 6) x1).2); unfold f_X9_wheel; rw [eB_ok c3, if_pos c7]), shq11⟩), wd_end hP hK hD ht hW.alike⟩, hS.F ht⟩) hS.2.2 dX9_wheel_36 hlocks
    · obtain ⟨sa, hsa⟩ := hTH.2.2 (RX9, 230, "the box has 16 wheels") (by decide +kernel)
      exact vx_throwS hx hb hst (names := ["java/lang/RuntimeException", "java/lang/Exception"]) hown (by decide +kernel) (by decide +kernel) (hts (.classLink RX9 67 "java/lang/IllegalStateException") (by decide +kernel)) (hts (.initialized "java/lang/IllegalStateException") (by decide +kernel)) hsa (th_at (B := exW_X9_ISE) (fun w h => hts w (s_X9_wheel_ISE w h)) rfl (by simp only [exW, List.mem_append]; intro w h; simp [h]) hTH.2.1) (List.forall_mem_cons.mpr ⟨by decide +kernel, List.forall_mem_cons.mpr ⟨by decide +kernel, exW_X9_ISE_ok⟩⟩) hTH.1.1 hTH.1.2 hS (hl.1.trans hml.symm) dX9_wheel_18 dX9_wheel_21 dX9_wheel_22 dX9_wheel_24 dX9_wheel_27 (fun x h => (hno x h).elim) (Nat.le_of_ble_eq_true rfl) (Nat.le_of_ble_eq_true rfl) (Nat.le_of_ble_eq_true rfl) (Nat.le_of_ble_eq_true rfl) hlocks (fun t hA2 h1 h2 => ⟨(), trivial, ⟨(by show f_X9_wheel S o1 x1 = .error "java/lang/IllegalStateException"; unfold f_X9_wheel; rw [eB_ok c3, if_neg c7]), wd_exc hP hK hD hA2 h2⟩, exc_F hS h1 h2⟩) hS.2.2 (Nat.le_of_ble_eq_true rfl) (Nat.le_of_ble_eq_true rfl)
