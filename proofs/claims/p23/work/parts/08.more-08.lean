def f_X5_search_L19 (S : wPS) (o1 : Nat) (S2 : wPS) (w2_1 : Int32) : Nat → wPS → Int32 → wPS × Int32
  | 0, S19, w19_2 => (S19, w19_2)
  | n + 1, S19, w19_2 => if (10000 : Int32) < w19_2 then (S19, w19_2) else f_X5_search_L19 S o1 S2 w2_1 n (f_X5_compare (f_X5_compare S19 o1 w19_2 w2_1) o1 w19_2 (-w2_1)) (w19_2 + (250 : Int32))
theorem f_X5_search_L19_s (S : wPS) (o1 : Nat) (S2 : wPS) (w2_1 : Int32) (n : Nat) (S19 : wPS) (w19_2 : Int32) : f_X5_search_L19 S o1 S2 w2_1 (n + 1) S19 w19_2 = if (10000 : Int32) < w19_2 then (S19, w19_2) else f_X5_search_L19 S o1 S2 w2_1 n (f_X5_compare (f_X5_compare S19 o1 w19_2 w2_1) o1 w19_2 (-w2_1)) (w19_2 + (250 : Int32)) := rfl
def f_X5_search_L2 (S : wPS) (o1 : Nat) : Nat → wPS → Int32 → wPS × Int32
  | 0, S2, w2_1 => (S2, w2_1)
  | n + 1, S2, w2_1 => if (50 : Int32) < w2_1 then (S2, w2_1) else if (f_X5_isFound S2 o1) = (0 : Int32) then l2 (f_X5_search_L19 S o1 S2 w2_1 20000 S2 (500 : Int32)) (fun z13 z14 => f_X5_search_L2 S o1 n z13 (w2_1 + (1 : Int32))) else (S2, w2_1)
theorem f_X5_search_L2_s (S : wPS) (o1 : Nat) (n : Nat) (S2 : wPS) (w2_1 : Int32) : f_X5_search_L2 S o1 (n + 1) S2 w2_1 = if (50 : Int32) < w2_1 then (S2, w2_1) else if (f_X5_isFound S2 o1) = (0 : Int32) then l2 (f_X5_search_L19 S o1 S2 w2_1 20000 S2 (500 : Int32)) (fun z13 z14 => f_X5_search_L2 S o1 n z13 (w2_1 + (1 : Int32))) else (S2, w2_1) := rfl
def f_X5_search (S : wPS) (o1 : Nat) : wPS := l2 (f_X5_search_L2 S o1 64 S (0 : Int32)) (fun z16 z17 => z16)
set_option maxHeartbeats 4000000 in
set_option maxRecDepth 100000 in
theorem c_X5_search (l : Launch) {D : va_G} {cy : Nat → ClassId} {X : va_W} (S : wPS) (sz : Nat) (o1 : Nat) (h_o1 : ok5 S o1)  : Met l yX5_search wsX5_search ({ frames := 2, cells := 0, slots := 0, locals := 46 }) (va_Pc [.ref o1] (fun U => U.heap.size = sz ∧ WD D cy X (fun _ => True) S U ∧ NW U)) (va_Qv (fun (u : wPS) => u = f_X5_search S o1 ∧ sh S u) (fun u t => WD D cy X (va_A (X ++ PL cy S) sz) u t) (va_A (X ++ PL cy S) sz)) 0 0 (va_A (X ++ PL cy S) sz) := by
  refine Met.ofW (cc := cX5_search) (maxL := 3) (ret := none) (by decide) rfl ?_
  intro p e s m args below meth c s₁ B hml hv
  obtain ⟨rfl, hsz, ⟨hP, hK, hD0⟩, hN⟩ := hv
  have hx := B.exec
  have hb := B.bytes
  have hr := B.returns
  have hts := atoms_spec (ws := wsX5_search) B.pre
  have hown : s.vm.findClass RX5 = some m.cls := findClass_of_methodNamed B.named
  have hlocks := B.notSynchronized
  subst hsz
  have hD := hD0.self (sz := s.heap.size)
  generalize hAe : va_A (X ++ PL cy S) s.heap.size = A at hD ⊢
  have hA : ∀ q : Nat, s.heap.size ≤ q → A q := fun q h => by rw [← hAe]; exact Or.inr h
  have hS : va_S A s.heap s.heap [] := va_S.rf
  have hl := lv_entry ([.ref o1]) (n := 3) (Nat.le_of_ble_eq_true rfl)
  rw [lg_entry_eq]
  generalize (lg_sl ([.ref o1]) ++ List.replicate (3 - (lg_sl ([.ref o1])).length) Slot.unset).toArray = ls at hl ⊢
  have hl : lv_has ls 3 [(0, .ref o1)] := hl
  refine lv_iconst (v := 0) hx hb dX5_search_0 (by decide) ?_
  refine lv_istore_n (lv' := [(1, .int (0 : Int32)), (0, .ref o1)]) hx hb dX5_search_1 rfl hl (by decide) rfl (fun ls hl => ?_)
  have loop2 : ∀ (n : Nat) (S2 : wPS) (w2_1 : Int32) (H : Heap) (locs : List Loc) (ls : Array Slot), ((50 : Int32).toInt + 1 - w2_1.toInt).toNat < n → True → sh S S2 → va_P D vwCl (X ++ PL cy S2) H → va_D A (X ++ PL cy S2) → va_S A s.heap H locs → lv_has ls 3 [(1, .int w2_1), (0, .ref o1)] → (∀ (S2x : wPS) (w2_1x : Int32) (H : Heap) (locs : List Loc) (ls : Array Slot), True → sh S S2x → va_P D vwCl (X ++ PL cy S2x) H → va_D A (X ++ PL cy S2x) → va_S A s.heap H locs → lv_has ls 3 [(1, .int w2_1x), (0, .ref o1)] → f_X5_search_L2 S o1 n S2 w2_1 = (S2x, w2_1x) → W p l e (headSpec wsX5_search ({ frames := 2, cells := 0, slots := 0, locals := 46 } : Room)).room s m [.ref o1].toArray below meth c H locs 0 0 (MQ below (va_Qv (fun (u : wPS) => u = f_X5_search S o1 ∧ sh S u) (fun u t => WD D cy X A u t) A) [.ref o1].toArray s 0 0 A) (F0 m 54 ls [])) → W p l e (headSpec wsX5_search ({ frames := 2, cells := 0, slots := 0, locals := 46 } : Room)).room s m [.ref o1].toArray below meth c H locs 0 0 (MQ below (va_Qv (fun (u : wPS) => u = f_X5_search S o1 ∧ sh S u) (fun u t => WD D cy X A u t) A) [.ref o1].toArray s 0 0 A) (F0 m 2 ls []) := by
    intro n
    induction n with
    | zero => intro S2 w2_1 H locs ls hm; exact absurd hm (Nat.not_lt_zero _)
    | succ n ih2 =>
      intro S2 w2_1 H locs ls hm hi hsh hP hD hS hl ko
      refine lv_iload_n hx hb dX5_search_2 rfl (lv_at hl 0 rfl) ?_
      refine lv_bipush (v := 50) hx hb dX5_search_3 (by decide +kernel) ?_
      refine lv_icmp_gt (tgt := 54) hx hb dX5_search_5 (by decide) (fun c1 => ?_) (fun c1 => ?_)
      · exact ko S2 w2_1 _ _ _ (hi) (hsh) hP hD hS (lv_sub hl [0, 1] rfl) (by rw [f_X5_search_L2_s, if_pos c1])
      · refine lv_aload_n hx hb dX5_search_8 rfl (lv_at hl 1 rfl) ?_
        have hFc := free_all hD hS hA
        obtain ⟨k2, gk2, hk2⟩ := wGt (cy := cy) X S2 (hsh.L h_o1.1.1) (hsh.K h_o1.1.2.1)
        refine va_calli (va_runV (As := []) (rest := []) ⟨hx, hb, hml, hown, hts⟩ (c_X5_isFound l (cy := cy) (X := X) (D := D) S2 _ o1 (hsh.k5 h_o1)) (cwV 0 hts gX5_search_X5_isFound rfl rfl rfl (by decide +kernel) ⟨Nat.le_of_ble_eq_true rfl, Nat.le_of_ble_eq_true rfl⟩) ⟨fun a U g mk q => ⟨q.1, q.2.1, q.2.2.1.calling, NW.same (u := U) (U := U.calling g mk a) rfl q.2.2.2⟩, va_recv hK hP (ci := 9) (q0 := k2) rfl hk2, fun U hU hW => ⟨rfl, by rw [hU], wd_pre hP hK hD hU hW, hN.warm hW⟩⟩ rfl rfl hl.1 rfl (lv_room (Nat.le_of_ble_eq_true rfl)) dX5_search_9 ⟨(Nat.zero_le _), (Nat.zero_le _)⟩) hS (fun q _ h => hFc q h) hFc (fun r3 u t H1 locs ht hvm hw hB hz1 hk1 hS => ?_)
        obtain ⟨hP, hD⟩ := wd_post hFc ht hB
        generalize H1 = H at hP hS ⊢
        obtain rfl : r3 = f_X5_isFound S2 o1 := hw
        refine lv_if_ne (tgt := 54) hx hb dX5_search_12 (by decide) (fun c4 => ?_) (fun c4 => ?_)
        · exact ko S2 w2_1 _ _ _ (hi) (hsh) hP hD hS (lv_sub hl [0, 1] rfl) (by rw [f_X5_search_L2_s, if_neg c1, if_neg c4])
        · refine lv_sipush (v := 500) hx hb dX5_search_15 (by decide +kernel) ?_
          refine lv_istore_n (lv' := [(2, .int (500 : Int32)), (1, .int w2_1), (0, .ref o1)]) hx hb dX5_search_18 rfl hl (by decide) rfl (fun ls hl => ?_)
          have loop19 : ∀ (n : Nat) (S19 : wPS) (w19_2 : Int32) (H : Heap) (locs : List Loc) (ls : Array Slot), ((10000 : Int32).toInt + 250 - w19_2.toInt).toNat < n → True → sh S S19 → va_P D vwCl (X ++ PL cy S19) H → va_D A (X ++ PL cy S19) → va_S A s.heap H locs → lv_has ls 3 [(2, .int w19_2), (1, .int w2_1), (0, .ref o1)] → (∀ (S19x : wPS) (w19_2x : Int32) (H : Heap) (locs : List Loc) (ls : Array Slot), True → sh S S19x → va_P D vwCl (X ++ PL cy S19x) H → va_D A (X ++ PL cy S19x) → va_S A s.heap H locs → lv_has ls 3 [(2, .int w19_2x), (1, .int w2_1), (0, .ref o1)] → f_X5_search_L19 S o1 S2 w2_1 n S19 w19_2 = (S19x, w19_2x) → W p l e (headSpec wsX5_search ({ frames := 2, cells := 0, slots := 0, locals := 46 } : Room)).room s m [.ref o1].toArray below meth c H locs 0 0 (MQ below (va_Qv (fun (u : wPS) => u = f_X5_search S o1 ∧ sh S u) (fun u t => WD D cy X A u t) A) [.ref o1].toArray s 0 0 A) (F0 m 48 ls [])) → W p l e (headSpec wsX5_search ({ frames := 2, cells := 0, slots := 0, locals := 46 } : Room)).room s m [.ref o1].toArray below meth c H locs 0 0 (MQ below (va_Qv (fun (u : wPS) => u = f_X5_search S o1 ∧ sh S u) (fun u t => WD D cy X A u t) A) [.ref o1].toArray s 0 0 A) (F0 m 19 ls []) := by
            intro n
            induction n with
            | zero => intro S19 w19_2 H locs ls hm; exact absurd hm (Nat.not_lt_zero _)
            | succ n ih19 =>
              intro S19 w19_2 H locs ls hm hi hsh hP hD hS hl ko
              refine lv_iload_n hx hb dX5_search_19 rfl (lv_at hl 0 rfl) ?_
              refine lv_sipush (v := 10000) hx hb dX5_search_20 (by decide +kernel) ?_
              refine lv_icmp_gt (tgt := 48) hx hb dX5_search_23 (by decide) (fun c5 => ?_) (fun c5 => ?_)
              · exact ko S19 w19_2 _ _ _ (hi) (hsh) hP hD hS (lv_sub hl [0, 1, 2] rfl) (by rw [f_X5_search_L19_s, if_pos c5])
              · refine lv_aload_n hx hb dX5_search_26 rfl (lv_at hl 2 rfl) ?_
                refine lv_iload_n hx hb dX5_search_27 rfl (lv_at hl 0 rfl) ?_
                refine lv_iload_n hx hb dX5_search_28 rfl (lv_at hl 1 rfl) ?_
                have hFc := free_all hD hS hA
                obtain ⟨k6, gk6, hk6⟩ := wGt (cy := cy) X S19 (hsh.L h_o1.1.1) (hsh.K h_o1.1.2.1)
                refine va_callv (va_runV (As := [.int w19_2, .int w2_1]) (rest := []) ⟨hx, hb, hml, hown, hts⟩ (c_X5_compare l (cy := cy) (X := X) (D := D) S19 _ o1 (hsh.k5 h_o1) w19_2 w2_1) (cwV 2 hts gX5_search_X5_compare rfl rfl rfl (by decide +kernel) ⟨Nat.le_of_ble_eq_true rfl, Nat.le_of_ble_eq_true rfl⟩) ⟨fun a U g mk q => ⟨q.1, q.2.1, q.2.2.1.calling, NW.same (u := U) (U := U.calling g mk a) rfl q.2.2.2⟩, va_recv hK hP (ci := 9) (q0 := k6) rfl hk6, fun U hU hW => ⟨rfl, by rw [hU], wd_pre hP hK hD hU hW, hN.warm hW⟩⟩ rfl rfl hl.1 rfl (lv_room (Nat.le_of_ble_eq_true rfl)) dX5_search_29 ⟨(Nat.zero_le _), (Nat.zero_le _)⟩) hS (fun q _ h => hFc q h) hFc (fun u t H1 locs ht hvm hw hB hz1 hk1 hS => ?_)
                obtain ⟨hP, hD⟩ := wd_post hFc ht hB
                generalize H1 = H at hP hS ⊢
                obtain ⟨hw1, shq8⟩ := hw
                obtain rfl : u = f_X5_compare S19 o1 w19_2 w2_1 := hw1
                refine lv_aload_n hx hb dX5_search_32 rfl (lv_at hl 2 rfl) ?_
                refine lv_iload_n hx hb dX5_search_33 rfl (lv_at hl 0 rfl) ?_
                refine lv_iload_n hx hb dX5_search_34 rfl (lv_at hl 1 rfl) ?_
                refine lv_ineg hx hb dX5_search_35 ?_
                have hFc := free_all hD hS hA
                obtain ⟨k9, gk9, hk9⟩ := wGt (cy := cy) X (f_X5_compare S19 o1 w19_2 w2_1) ((hsh.trans shq8).L h_o1.1.1) ((hsh.trans shq8).K h_o1.1.2.1)
                refine va_callv (va_runV (As := [.int w19_2, .int (-w2_1)]) (rest := []) ⟨hx, hb, hml, hown, hts⟩ (c_X5_compare l (cy := cy) (X := X) (D := D) (f_X5_compare S19 o1 w19_2 w2_1) _ o1 ((hsh.trans shq8).k5 h_o1) w19_2 (-w2_1)) (cwV 2 hts gX5_search_X5_compare rfl rfl rfl (by decide +kernel) ⟨Nat.le_of_ble_eq_true rfl, Nat.le_of_ble_eq_true rfl⟩) ⟨fun a U g mk q => ⟨q.1, q.2.1, q.2.2.1.calling, NW.same (u := U) (U := U.calling g mk a) rfl q.2.2.2⟩, va_recv hK hP (ci := 9) (q0 := k9) rfl hk9, fun U hU hW => ⟨rfl, by rw [hU], wd_pre hP hK hD hU hW, hN.warm hW⟩⟩ rfl rfl hl.1 rfl (lv_room (Nat.le_of_ble_eq_true rfl)) dX5_search_36 ⟨(Nat.zero_le _), (Nat.zero_le _)⟩) hS (fun q _ h => hFc q h) hFc (fun u t H1 locs ht hvm hw hB hz1 hk1 hS => ?_)
                obtain ⟨hP, hD⟩ := wd_post hFc ht hB
                generalize H1 = H at hP hS ⊢
                obtain ⟨hw1, shq11⟩ := hw
                obtain rfl : u = f_X5_compare (f_X5_compare S19 o1 w19_2 w2_1) o1 w19_2 (-w2_1) := hw1
                refine lv_iincW (v := w19_2 + (250 : Int32)) (lv' := [(2, .int (w19_2 + (250 : Int32))), (1, .int w2_1), (0, .ref o1)]) hx hb dX5_search_39 hl (k := 0) rfl (by rfl) (by decide) rfl (fun ls hl => ?_)
                refine lv_goto (tgt := 19) hx hb dX5_search_45 (by decide) ?_
                exact ih19 (f_X5_compare (f_X5_compare S19 o1 w19_2 w2_1) o1 w19_2 (-w2_1)) (w19_2 + (250 : Int32)) _ _ _ (Nat.lt_of_lt_of_le (st_le 250 rfl (by decide) (by assumption) (by decide)) (Nat.le_of_lt_succ hm)) (trivial) (((hsh.trans shq8).trans shq11)) hP hD hS (lv_sub hl [0, 1, 2] rfl) (fun S19y w19_2y H9 locs9 ls9 i9 sh9 P9 D9 S9 l9 hfe => ko S19y w19_2y H9 locs9 ls9 i9 sh9 P9 D9 S9 l9 (Eq.trans (by rw [f_X5_search_L19_s, if_neg c5]) hfe))
          refine loop19 20000 S2 (500 : Int32) _ _ _ (by decide) (trivial) hsh hP hD hS (lv_sub hl [0, 1, 2] rfl) (fun z13 z14 H locs ls hi19 hsh19 hP hD hS hl c12 => ?_)
          refine lv_iinc (v := w2_1 + (1 : Int32)) (lv' := [(1, .int (w2_1 + (1 : Int32))), (2, .int z14), (0, .ref o1)]) hx hb dX5_search_48 hl (k := 1) rfl (by rfl) (by decide) rfl (fun ls hl => ?_)
          refine lv_goto (tgt := 2) hx hb dX5_search_51 (by decide) ?_
          exact ih2 z13 (w2_1 + (1 : Int32)) _ _ _ (Nat.lt_of_lt_of_le (up_le (by assumption) (by decide)) (Nat.le_of_lt_succ hm)) (trivial) (hsh19) hP hD hS (lv_sub hl [0, 2] rfl) (fun S2y w2_1y H9 locs9 ls9 i9 sh9 P9 D9 S9 l9 hfe => ko S2y w2_1y H9 locs9 ls9 i9 sh9 P9 D9 S9 l9 (Eq.trans (by rw [f_X5_search_L2_s, if_neg c1, if_pos c4, l2_eq c12]) hfe))
  refine loop2 64 S (0 : Int32) _ _ _ (by decide) (trivial) (sh.rf S) hP hD hS (lv_sub hl [0, 1] rfl) (fun z16 z17 H locs ls hi2 hsh2 hP hD hS hl c15 => ?_)
  exact W.vret hx hb hr (fun t ht hW => ⟨⟨z16, rfl, (⟨(by show z16 = f_X5_search S o1; unfold f_X5_search; rw [l2_eq c15]), hsh2⟩), wd_end hP hK hD ht hW.alike⟩, hS.F ht⟩) hS.2.2 dX5_search_54 hlocks
