set_option maxHeartbeats 4000000 in
set_option maxRecDepth 100000 in
theorem c_X12_matches_1 (l : Launch) {D : va_G} {cy : Nat → ClassId} {X : va_W} (S : wPS) (sz : Nat) (o1 : Nat) (h_o1 : isA S o1 12) (x1 : Int32) (x2 : Int32) (x3 : Int32) (x4 : Int64) (hW : wtB S []) (hv : IV S o1) (hd : x3.toInt = 1 ∧ 1 ≤ (S.I o1 26).toInt) (hf : 0 ≤ x1.toInt ∧ x1.toInt ≤ 6) (hs : 1 ≤ (S.I (S.f o1 0) 2).toInt) : Met l yX12_matches wsX12_matches ({ frames := 7, cells := 0, slots := 0, locals := 163 }) (va_Pc [.ref o1, .int x1, .int x2, .int x3, .long x4] (fun U => U.heap.size = sz ∧ WD D cy X (fun _ => True) S U ∧ NW U)) (va_Qv (fun (u : wPS) => stp [(12, 28), (23, 100)] [] [] S u ∧ IV u o1) (fun u t => WD D cy X (va_A (X ++ PL cy S) sz) u t) (va_A (X ++ PL cy S) sz)) 0 0 (va_A (X ++ PL cy S) sz) := by
  refine Met.ofW (cc := cX12_matches) (maxL := 8) (ret := none) (by decide) rfl ?_
  intro p e s m args below meth c s₁ B hml hv
  obtain ⟨rfl, hsz, ⟨hP, hK, hD0⟩, hN⟩ := hv
  have hx := B.exec
  have hb := B.bytes
  have hr := B.returns
  have hts := atoms_spec (ws := wsX12_matches) B.pre
  have hown : s.vm.findClass RX12 = some m.cls := findClass_of_methodNamed (x := yX12_matches) B.named
  have hlocks := B.notSynchronized
  subst hsz
  have hD := hD0.self (sz := s.heap.size)
  generalize hAe : va_A (X ++ PL cy S) s.heap.size = A at hD ⊢
  have hA : ∀ q : Nat, s.heap.size ≤ q → A q := fun q h => by rw [← hAe]; exact Or.inr h
  have hS : va_S A s.heap s.heap [] := va_S.rf
  have hl := lv_entry ([.ref o1, .int x1, .int x2, .int x3, .long x4]) (n := 8) (Nat.le_of_ble_eq_true rfl)
  rw [lg_entry_eq]
  generalize (lg_sl ([.ref o1, .int x1, .int x2, .int x3, .long x4]) ++ List.replicate (8 - (lg_sl ([.ref o1, .int x1, .int x2, .int x3, .long x4])).length) Slot.unset).toArray = ls at hl ⊢
  have hl : lv_has ls 8 [(0, .ref o1), (1, .int x1), (2, .int x2), (3, .int x3), (4, .long x4)] := hl
  have t0 : stp [(12, 28), (23, 100)] [] [] S S := stp.rf hW
  have F1 := ((hW.at h_o1 List.not_mem_nil).to_12 h_o1.2.1).F0
  have F2 := ((hW.at h_o1 List.not_mem_nil).to_12 h_o1.2.1).F9
  have F3 := ((hW.at h_o1 List.not_mem_nil).to_12 h_o1.2.1).F10
  have F4 := ((hW.at h_o1 List.not_mem_nil).to_12 h_o1.2.1).F11
  have F5 := ((hW.at h_o1 List.not_mem_nil).to_12 h_o1.2.1).F12
  have F6 := ((hW.at h_o1 List.not_mem_nil).to_12 h_o1.2.1).F13
  have F7 := ((hW.at h_o1 List.not_mem_nil).to_12 h_o1.2.1).F14
  refine lv_iload_n hx hb dX12_matches_0 rfl (lv_at hl 3 rfl) ?_
  refine lv_aload_n hx hb dX12_matches_1 rfl (lv_at hl 0 rfl) ?_
  obtain ⟨k8, gk8, hk8⟩ := wGt (cy := cy) X S h_o1.1 h_o1.2.1
  have i9 := ((hW.at h_o1 List.not_mem_nil).to_12 h_o1.2.1).R26
  refine va_get (D := D) (ci := 16) (v := .int (S.I o1 26)) (C := RX12) (T := TX12) (N := 34) hx hb hts (by decide +kernel) hown hK hP k8 hk8 rfl 26 (by decide) (hts (.fieldLink RX12 461 "HobhouseModel" "wanted" "I") (by decide +kernel)) (fun _ h9 => h9) rfl dX12_matches_2 ?_
  refine lv_icmp_ne (tgt := 81) hx hb dX12_matches_5 (by decide) (fun c10 => ?_) (fun c10 => ?_)
  · have c10i : ¬ x3.toInt = (S.I o1 26).toInt := neq_v rfl rfl c10
    refine lv_iload_n hx hb dX12_matches_81 rfl (lv_at hl 1 rfl) ?_
    refine lv_istore (lv' := [(6, .int x1), (0, .ref o1), (1, .int x1), (2, .int x2), (3, .int x3), (4, .long x4)]) hx hb dX12_matches_82 hl (by decide) rfl (fun ls hl => ?_)
    have loop84 : ∀ (n : Nat) (S84_ : wPS) (w84_6 : Int32) (H : Heap) (locs : List Loc) (ls : Array Slot), (7 - w84_6.toInt).toNat < n → (0 ≤ w84_6.toInt ∧ w84_6.toInt ≤ 6 ∧ (S84_.I o1 24).toInt = (S.I o1 24).toInt ∧ (S84_.I o1 25).toInt = (S.I o1 25).toInt ∧ (S84_.I o1 26).toInt = (S.I o1 26).toInt ∧ (S84_.I (S.f o1 0) 2).toInt = (S.I (S.f o1 0) 2).toInt) ∧ IV S84_ o1 → stp [(12, 28), (23, 100)] [] [] S S84_ → va_P D vwCl (X ++ PL cy S84_) H → va_D A (X ++ PL cy S84_) → va_S A s.heap H locs → lv_has ls 8 [(6, .int w84_6), (0, .ref o1), (1, .int x1), (2, .int x2), (3, .int x3), (4, .long x4)] → (∀ (S84_x : wPS) (w84_6x : Int32) (H : Heap) (locs : List Loc) (ls : Array Slot), (0 ≤ w84_6x.toInt ∧ w84_6x.toInt ≤ 6 ∧ (S84_x.I o1 24).toInt = (S.I o1 24).toInt ∧ (S84_x.I o1 25).toInt = (S.I o1 25).toInt ∧ (S84_x.I o1 26).toInt = (S.I o1 26).toInt ∧ (S84_x.I (S.f o1 0) 2).toInt = (S.I (S.f o1 0) 2).toInt) ∧ IV S84_x o1 → stp [(12, 28), (23, 100)] [] [] S S84_x → va_P D vwCl (X ++ PL cy S84_x) H → va_D A (X ++ PL cy S84_x) → va_S A s.heap H locs → lv_has ls 8 [(6, .int w84_6x), (0, .ref o1), (1, .int x1), (2, .int x2), (3, .int x3), (4, .long x4)] → W p l e (headSpec wsX12_matches ({ frames := 7, cells := 0, slots := 0, locals := 163 } : Room)).room s m [.ref o1, .int x1, .int x2, .int x3, .long x4].toArray below meth c H locs 0 0 (MQ below (va_Qv (fun (u : wPS) => stp [(12, 28), (23, 100)] [] [] S u ∧ IV u o1) (fun u t => WD D cy X A u t) A) [.ref o1, .int x1, .int x2, .int x3, .long x4].toArray s 0 0 A) (F0 m 210 ls [])) → W p l e (headSpec wsX12_matches ({ frames := 7, cells := 0, slots := 0, locals := 163 } : Room)).room s m [.ref o1, .int x1, .int x2, .int x3, .long x4].toArray below meth c H locs 0 0 (MQ below (va_Qv (fun (u : wPS) => stp [(12, 28), (23, 100)] [] [] S u ∧ IV u o1) (fun u t => WD D cy X A u t) A) [.ref o1, .int x1, .int x2, .int x3, .long x4].toArray s 0 0 A) (F0 m 84 ls []) := by
      intro n84
      induction n84 with
      | zero => intro S84_ w84_6 H locs ls hm; exact absurd hm (Nat.not_lt_zero _)
      | succ n84 ih84 =>
        intro S84_ w84_6 H locs ls hm84 hi84 hsh84 hP hD hS hl ko84
        have hi84a := hi84.1
        refine lv_iload hx hb dX12_matches_84 (lv_at hl 0 rfl) ?_
        refine lv_aload_n hx hb dX12_matches_86 rfl (lv_at hl 1 rfl) ?_
        obtain ⟨k11, gk11, hk11⟩ := wGt (cy := cy) X S84_ (hsh84.x.A h_o1).1 (hsh84.x.A h_o1).2.1
        have i12 := ((hsh84.w.at (hsh84.x.A h_o1) List.not_mem_nil).to_12 (hsh84.x.A h_o1).2.1).R24
        refine va_get (D := D) (ci := 16) (v := .int (S84_.I o1 24)) (C := RX12) (T := TX12) (N := 34) hx hb hts (by decide +kernel) hown hK hP k11 hk11 rfl 24 (by decide) (hts (.fieldLink RX12 467 "HobhouseModel" "manyFirst" "I") (by decide +kernel)) (fun _ h9 => h9) rfl dX12_matches_87 ?_
        refine lv_icmp_ge (tgt := 210) hx hb dX12_matches_90 (by decide) (fun c13 => ?_) (fun c13 => ?_)
        · have c13i : (S84_.I o1 24).toInt ≤ w84_6.toInt := le_v rfl rfl c13
          exact ko84 S84_ w84_6 _ _ _ (⟨by omega, hi84.2⟩) hsh84 hP hD hS (lv_sub hl [0, 1, 2, 3, 4, 5] rfl)
        · have c13i : w84_6.toInt < (S84_.I o1 24).toInt := nle_v rfl rfl c13
          refine lv_iconst (v := 0) hx hb dX12_matches_93 (by decide) ?_
          refine lv_istore (lv' := [(7, .int (0 : Int32)), (6, .int w84_6), (0, .ref o1), (1, .int x1), (2, .int x2), (3, .int x3), (4, .long x4)]) hx hb dX12_matches_94 hl (by decide) rfl (fun ls hl => ?_)
          have l32_0 : (0 : Int32).toInt = 0 := rfl
          have loop96 : ∀ (n : Nat) (S96_ : wPS) (w96_7 : Int32) (H : Heap) (locs : List Loc) (ls : Array Slot), (6 - w96_7.toInt).toNat < n → (0 ≤ w96_7.toInt ∧ w96_7.toInt ≤ 5 ∧ (S96_.I o1 24).toInt = (S.I o1 24).toInt ∧ (S96_.I o1 25).toInt = (S.I o1 25).toInt ∧ (S96_.I o1 26).toInt = (S.I o1 26).toInt ∧ (S96_.I (S.f o1 0) 2).toInt = (S.I (S.f o1 0) 2).toInt) ∧ IV S96_ o1 → stp [(12, 28), (23, 100)] [] [] S84_ S96_ → va_P D vwCl (X ++ PL cy S96_) H → va_D A (X ++ PL cy S96_) → va_S A s.heap H locs → lv_has ls 8 [(7, .int w96_7), (6, .int w84_6), (0, .ref o1), (1, .int x1), (2, .int x2), (3, .int x3), (4, .long x4)] → (∀ (S96_x : wPS) (w96_7x : Int32) (H : Heap) (locs : List Loc) (ls : Array Slot), (0 ≤ w96_7x.toInt ∧ w96_7x.toInt ≤ 5 ∧ (S96_x.I o1 24).toInt = (S.I o1 24).toInt ∧ (S96_x.I o1 25).toInt = (S.I o1 25).toInt ∧ (S96_x.I o1 26).toInt = (S.I o1 26).toInt ∧ (S96_x.I (S.f o1 0) 2).toInt = (S.I (S.f o1 0) 2).toInt) ∧ IV S96_x o1 → stp [(12, 28), (23, 100)] [] [] S84_ S96_x → va_P D vwCl (X ++ PL cy S96_x) H → va_D A (X ++ PL cy S96_x) → va_S A s.heap H locs → lv_has ls 8 [(7, .int w96_7x), (6, .int w84_6), (0, .ref o1), (1, .int x1), (2, .int x2), (3, .int x3), (4, .long x4)] → W p l e (headSpec wsX12_matches ({ frames := 7, cells := 0, slots := 0, locals := 163 } : Room)).room s m [.ref o1, .int x1, .int x2, .int x3, .long x4].toArray below meth c H locs 0 0 (MQ below (va_Qv (fun (u : wPS) => stp [(12, 28), (23, 100)] [] [] S u ∧ IV u o1) (fun u t => WD D cy X A u t) A) [.ref o1, .int x1, .int x2, .int x3, .long x4].toArray s 0 0 A) (F0 m 204 ls [])) → W p l e (headSpec wsX12_matches ({ frames := 7, cells := 0, slots := 0, locals := 163 } : Room)).room s m [.ref o1, .int x1, .int x2, .int x3, .long x4].toArray below meth c H locs 0 0 (MQ below (va_Qv (fun (u : wPS) => stp [(12, 28), (23, 100)] [] [] S u ∧ IV u o1) (fun u t => WD D cy X A u t) A) [.ref o1, .int x1, .int x2, .int x3, .long x4].toArray s 0 0 A) (F0 m 96 ls []) := by
            intro n96
            induction n96 with
            | zero => intro S96_ w96_7 H locs ls hm; exact absurd hm (Nat.not_lt_zero _)
            | succ n96 ih96 =>
              intro S96_ w96_7 H locs ls hm96 hi96 hsh96 hP hD hS hl ko96
              have hi96a := hi96.1
              refine lv_iload hx hb dX12_matches_96 (lv_at hl 0 rfl) ?_
              refine lv_aload_n hx hb dX12_matches_98 rfl (lv_at hl 2 rfl) ?_
              obtain ⟨k14, gk14, hk14⟩ := wGt (cy := cy) X S96_ (hsh96.x.A (hsh84.x.A h_o1)).1 (hsh96.x.A (hsh84.x.A h_o1)).2.1
              have i15 := ((hsh96.w.at (hsh96.x.A (hsh84.x.A h_o1)) List.not_mem_nil).to_12 (hsh96.x.A (hsh84.x.A h_o1)).2.1).R25
              refine va_get (D := D) (ci := 16) (v := .int (S96_.I o1 25)) (C := RX12) (T := TX12) (N := 34) hx hb hts (by decide +kernel) hown hK hP k14 hk14 rfl 25 (by decide) (hts (.fieldLink RX12 470 "HobhouseModel" "manySecond" "I") (by decide +kernel)) (fun _ h9 => h9) rfl dX12_matches_99 ?_
              refine lv_icmp_ge (tgt := 204) hx hb dX12_matches_102 (by decide) (fun c16 => ?_) (fun c16 => ?_)
              · have c16i : (S96_.I o1 25).toInt ≤ w96_7.toInt := le_v rfl rfl c16
                exact ko96 S96_ w96_7 _ _ _ (⟨by omega, hi96.2⟩) hsh96 hP hD hS (lv_sub hl [0, 1, 2, 3, 4, 5, 6] rfl)
              · have c16i : w96_7.toInt < (S96_.I o1 25).toInt := nle_v rfl rfl c16
                refine lv_iload_n hx hb dX12_matches_105 rfl (lv_at hl 4 rfl) ?_
                refine lv_iload hx hb dX12_matches_106 (lv_at hl 0 rfl) ?_
                refine lv_ishr hx hb dX12_matches_108 ?_
                refine lv_iconst (v := 1) hx hb dX12_matches_109 (by decide) ?_
                refine lv_iand hx hb dX12_matches_110 ?_
                refine lv_iconst (v := 1) hx hb dX12_matches_111 (by decide) ?_
                refine lv_icmp_eq (tgt := 198) hx hb dX12_matches_112 (by decide) (fun c17 => ?_) (fun c17 => ?_)
                · have c17i : ((x2 >>> (w96_7 &&& 31)) &&& (1 : Int32)).toInt = 1 := eq_v rfl rfl c17
                  refine lv_iinc (v := w96_7 + (1 : Int32)) (lv' := [(7, .int (w96_7 + (1 : Int32))), (6, .int w84_6), (0, .ref o1), (1, .int x1), (2, .int x2), (3, .int x3), (4, .long x4)]) hx hb dX12_matches_198 hl (k := 0) rfl (by rfl) (by decide) rfl (fun ls hl => ?_)
                  refine lv_goto (tgt := 96) hx hb dX12_matches_201 (by decide) ?_
                  have l32_1 : (1 : Int32).toInt = 1 := rfl
                  have i18 : (w96_7 + (1 : Int32)).toInt = w96_7.toInt + 1 := t_addr (n := 1) rfl (by omega)
                  exact ih96 S96_ (w96_7 + (1 : Int32)) _ _ _ (Nat.lt_of_lt_of_le (by omega) (Nat.le_of_lt_succ hm96)) (⟨by omega, hi96.2⟩) hsh96 hP hD hS (lv_sub hl [0, 1, 2, 3, 4, 5, 6] rfl) ko96
                · have c17i : ¬ ((x2 >>> (w96_7 &&& 31)) &&& (1 : Int32)).toInt = 1 := neq_v rfl rfl c17
                  refine lv_aload_n hx hb dX12_matches_115 rfl (lv_at hl 2 rfl) ?_
                  refine lv_aload_n hx hb dX12_matches_116 rfl (lv_at hl 2 rfl) ?_
                  obtain ⟨k19, gk19, hk19⟩ := wGt (cy := cy) X S96_ (hsh96.x.A (hsh84.x.A h_o1)).1 (hsh96.x.A (hsh84.x.A h_o1)).2.1
                  simp only [kE, ((hsh84.x.tr hsh96.x).F h_o1 (by decide) F6.1)] at hk19
                  refine va_get (D := D) (ci := 16) (v := .ref (S.f o1 13)) (C := RX12) (T := TX12) (N := 34) hx hb hts (by decide +kernel) hown hK hP k19 hk19 rfl 13 (by decide) (hts (.fieldLink RX12 66 "HobhouseModel" "firsts" "[I") (by decide +kernel)) (fun _ h9 => h9) rfl dX12_matches_117 ?_
                  refine lv_iload hx hb dX12_matches_120 (lv_at hl 1 rfl) ?_
                  obtain ⟨k20, gk20, hk20⟩ := wGt (cy := cy) X S96_ ((hsh84.x.tr hsh96.x).A F6.2.1).1 ((hsh84.x.tr hsh96.x).A F6.2.1).2.1
                  refine va_iald hx hb hK hP k20 2 hk20 rfl (inb (m := 5) (((hsh84.x.tr hsh96.x).n F6.2.1).trans F6.2.2) (by omega) (by omega)) dX12_matches_122 ?_
                  refine lv_aload_n hx hb dX12_matches_123 rfl (lv_at hl 2 rfl) ?_
                  obtain ⟨k21, gk21, hk21⟩ := wGt (cy := cy) X S96_ (hsh96.x.A (hsh84.x.A h_o1)).1 (hsh96.x.A (hsh84.x.A h_o1)).2.1
                  simp only [kE, ((hsh84.x.tr hsh96.x).F h_o1 (by decide) F7.1)] at hk21
                  refine va_get (D := D) (ci := 16) (v := .ref (S.f o1 14)) (C := RX12) (T := TX12) (N := 34) hx hb hts (by decide +kernel) hown hK hP k21 hk21 rfl 14 (by decide) (hts (.fieldLink RX12 69 "HobhouseModel" "seconds" "[I") (by decide +kernel)) (fun _ h9 => h9) rfl dX12_matches_124 ?_
                  refine lv_iload hx hb dX12_matches_127 (lv_at hl 0 rfl) ?_
                  obtain ⟨k22, gk22, hk22⟩ := wGt (cy := cy) X S96_ ((hsh84.x.tr hsh96.x).A F7.2.1).1 ((hsh84.x.tr hsh96.x).A F7.2.1).2.1
                  refine va_iald hx hb hK hP k22 2 hk22 rfl (inb (m := 5) (((hsh84.x.tr hsh96.x).n F7.2.1).trans F7.2.2) (by omega) (by omega)) dX12_matches_129 ?_
                  have v9a := iv_at hi96.2 (j := 13) (by decide) (by decide) (f_of ((hsh84.x.tr hsh96.x).F h_o1 (by decide) F6.1)) (f_of ((hsh84.x.tr hsh96.x).F h_o1 (by decide) F1.1)) w84_6.toNatClampNeg
                  have v9b := iv_at hi96.2 (j := 14) (by decide) (by decide) (f_of ((hsh84.x.tr hsh96.x).F h_o1 (by decide) F7.1)) (f_of ((hsh84.x.tr hsh96.x).F h_o1 (by decide) F1.1)) w96_7.toNatClampNeg
                  have hFc := free_all hD hS hA
                  obtain ⟨k23, gk23, hk23⟩ := wGt (cy := cy) X S96_ (hsh96.x.A (hsh84.x.A h_o1)).1 (hsh96.x.A (hsh84.x.A h_o1)).2.1
                  refine va_calli (va_runV (As := [.int (S96_.i (S.f o1 13) w84_6.toNatClampNeg), .int (S96_.i (S.f o1 14) w96_7.toNatClampNeg)]) (rest := []) ⟨hx, hb, hml, hown, hts⟩ (c_X12_isPair l (cy := cy) (X := X) (D := D) S96_ _ o1 (hsh96.x.A (hsh84.x.A h_o1)) (S96_.i (S.f o1 13) w84_6.toNatClampNeg) (S96_.i (S.f o1 14) w96_7.toNatClampNeg) (hsh96.w) (by rw [f_of ((hsh84.x.tr hsh96.x).F h_o1 (by decide) F1.1)]; omega) (by rw [f_of ((hsh84.x.tr hsh96.x).F h_o1 (by decide) F1.1)]; omega)) (cwV 2 hts gX12_matches_X12_isPair rfl rfl rfl hd_X12_isPair ⟨Nat.le_of_ble_eq_true rfl, Nat.le_of_ble_eq_true rfl⟩) ⟨fun a U g mk q => ⟨q.1, q.2.1, q.2.2.1.calling, NW.same (u := U) (U := U.calling g mk a) rfl q.2.2.2⟩, va_recv hK hP (q := (RX12, TX12, 34)) (ci := 16) (q0 := k23) rfl hk23, fun U hU hW => ⟨rfl, by rw [hU], wd_pre hP hK hD hU hW, hN.warm hW⟩⟩ rfl rfl hl.1 rfl (lv_room (Nat.le_of_ble_eq_true rfl)) dX12_matches_130 ⟨(Nat.zero_le _), (Nat.zero_le _)⟩) hS (fun q _ h => hFc q h) hFc (fun r24 u t H1 locs ht hvm hw hB hz1 hk1 hS => ?_)
                  have y25 := hw
                  obtain ⟨hP, hD⟩ := wd_post hFc ht hB
                  generalize H1 = H at hP hS ⊢
                  refine lv_if_ne (tgt := 139) hx hb dX12_matches_133 (by decide) (fun c26 => ?_) (fun c26 => ?_)
                  · have c26i : ¬ r24.toInt = 0 := neq_v rfl rfl c26
                    refine lv_aload_n hx hb dX12_matches_139 rfl (lv_at hl 2 rfl) ?_
                    obtain ⟨k27, gk27, hk27⟩ := wGt (cy := cy) X S96_ (hsh96.x.A (hsh84.x.A h_o1)).1 (hsh96.x.A (hsh84.x.A h_o1)).2.1
                    simp only [kE, ((hsh84.x.tr hsh96.x).F h_o1 (by decide) F2.1)] at hk27
                    refine va_get (D := D) (ci := 16) (v := .ref (S.f o1 9)) (C := RX12) (T := TX12) (N := 34) hx hb hts (by decide +kernel) hown hK hP k27 hk27 rfl 9 (by decide) (hts (.fieldLink RX12 54 "HobhouseModel" "pairFirst" "[I") (by decide +kernel)) (fun _ h9 => h9) rfl dX12_matches_140 ?_
                    refine lv_iload_n hx hb dX12_matches_143 rfl (lv_at hl 5 rfl) ?_
                    refine lv_aload_n hx hb dX12_matches_144 rfl (lv_at hl 2 rfl) ?_
                    obtain ⟨k28, gk28, hk28⟩ := wGt (cy := cy) X S96_ (hsh96.x.A (hsh84.x.A h_o1)).1 (hsh96.x.A (hsh84.x.A h_o1)).2.1
                    simp only [kE, ((hsh84.x.tr hsh96.x).F h_o1 (by decide) F6.1)] at hk28
                    refine va_get (D := D) (ci := 16) (v := .ref (S.f o1 13)) (C := RX12) (T := TX12) (N := 34) hx hb hts (by decide +kernel) hown hK hP k28 hk28 rfl 13 (by decide) (hts (.fieldLink RX12 66 "HobhouseModel" "firsts" "[I") (by decide +kernel)) (fun _ h9 => h9) rfl dX12_matches_145 ?_
                    refine lv_iload hx hb dX12_matches_148 (lv_at hl 1 rfl) ?_
                    obtain ⟨k29, gk29, hk29⟩ := wGt (cy := cy) X S96_ ((hsh84.x.tr hsh96.x).A F6.2.1).1 ((hsh84.x.tr hsh96.x).A F6.2.1).2.1
                    refine va_iald hx hb hK hP k29 2 hk29 rfl (inb (m := 5) (((hsh84.x.tr hsh96.x).n F6.2.1).trans F6.2.2) (by omega) (by omega)) dX12_matches_150 ?_
                    obtain ⟨k30, gk30, hk30⟩ := wGt (cy := cy) X S96_ ((hsh84.x.tr hsh96.x).A F2.2.1).1 ((hsh84.x.tr hsh96.x).A F2.2.1).2.1
                    refine va_iast hx hb hK hP hD hS k30 2 hk30 rfl (inb (m := 4) (((hsh84.x.tr hsh96.x).n F2.2.1).trans F2.2.2) (by omega) (by omega)) dX12_matches_151 (fun H locs hP2 hD2 hS => ?_)
                    have e9 := wPui (cy := cy) (f := (upd (S96_.i (S.f o1 9)) x3.toNatClampNeg (S96_.i (S.f o1 13) w84_6.toNatClampNeg))) hD ((hsh84.x.tr hsh96.x).A F2.2.1).1 ((hsh84.x.tr hsh96.x).A F2.2.1).2.1 gk30 rfl
                    obtain ⟨S31, hS31⟩ : ∃ z, S96_.si (S.f o1 9) (upd (S96_.i (S.f o1 9)) x3.toNatClampNeg (S96_.i (S.f o1 13) w84_6.toNatClampNeg)) = z := ⟨_, rfl⟩
                    have v32 : IV S31 o1 := by rw [← hS31]; exact IV.set hi96.2 (f_of ((hsh84.x.tr hsh96.x).F h_o1 (by decide) F1.1)) (iv_at hi96.2 (j := 13) (by decide) (by decide) (f_of ((hsh84.x.tr hsh96.x).F h_o1 (by decide) F6.1)) (f_of ((hsh84.x.tr hsh96.x).F h_o1 (by decide) F1.1)) w84_6.toNatClampNeg)
                    have hP : va_P D vwCl (X ++ PL cy S31) H := by rw [← hS31, ← e9]; exact hP2
                    have hD : va_D A (X ++ PL cy S31) := by rw [← hS31, ← e9]; exact hD2
                    have xe33 : ext S96_ S31 := by rw [← hS31]; exact ext.si _ _ _
                    have t34 : stp [(12, 28), (23, 100)] [] [] S84_ S31 := by rw [← hS31]; exact hsh96.i (upd (S96_.i (S.f o1 9)) x3.toNatClampNeg (S96_.i (S.f o1 13) w84_6.toNatClampNeg)) ((hsh84.x.tr hsh96.x).A F2.2.1) (by decide)
                    have k35 : (S31.I (S.f o1 0) 2).toInt = (S96_.I (S.f o1 0) 2).toInt := by rw [← hS31]; rfl
                    have k36 : (S31.I o1 24).toInt = (S96_.I o1 24).toInt := by rw [← hS31]; rfl
                    have k37 : (S31.I o1 25).toInt = (S96_.I o1 25).toInt := by rw [← hS31]; rfl
                    have k38 : (S31.I o1 26).toInt = (S96_.I o1 26).toInt := by rw [← hS31]; rfl
                    refine lv_aload_n hx hb dX12_matches_152 rfl (lv_at hl 2 rfl) ?_
                    obtain ⟨k39, gk39, hk39⟩ := wGt (cy := cy) X S31 (xe33.A (hsh96.x.A (hsh84.x.A h_o1))).1 (xe33.A (hsh96.x.A (hsh84.x.A h_o1))).2.1
                    simp only [kE, ((hsh84.x.tr (hsh96.x.tr xe33)).F h_o1 (by decide) F3.1)] at hk39
                    refine va_get (D := D) (ci := 16) (v := .ref (S.f o1 10)) (C := RX12) (T := TX12) (N := 34) hx hb hts (by decide +kernel) hown hK hP k39 hk39 rfl 10 (by decide) (hts (.fieldLink RX12 57 "HobhouseModel" "pairSecond" "[I") (by decide +kernel)) (fun _ h9 => h9) rfl dX12_matches_153 ?_
                    refine lv_iload_n hx hb dX12_matches_156 rfl (lv_at hl 5 rfl) ?_
                    refine lv_aload_n hx hb dX12_matches_157 rfl (lv_at hl 2 rfl) ?_
                    obtain ⟨k40, gk40, hk40⟩ := wGt (cy := cy) X S31 (xe33.A (hsh96.x.A (hsh84.x.A h_o1))).1 (xe33.A (hsh96.x.A (hsh84.x.A h_o1))).2.1
                    simp only [kE, ((hsh84.x.tr (hsh96.x.tr xe33)).F h_o1 (by decide) F7.1)] at hk40
                    refine va_get (D := D) (ci := 16) (v := .ref (S.f o1 14)) (C := RX12) (T := TX12) (N := 34) hx hb hts (by decide +kernel) hown hK hP k40 hk40 rfl 14 (by decide) (hts (.fieldLink RX12 69 "HobhouseModel" "seconds" "[I") (by decide +kernel)) (fun _ h9 => h9) rfl dX12_matches_158 ?_
                    refine lv_iload hx hb dX12_matches_161 (lv_at hl 0 rfl) ?_
                    obtain ⟨k41, gk41, hk41⟩ := wGt (cy := cy) X S31 (xe33.A ((hsh84.x.tr hsh96.x).A F7.2.1)).1 (xe33.A ((hsh84.x.tr hsh96.x).A F7.2.1)).2.1
                    refine va_iald hx hb hK hP k41 2 hk41 rfl (inb (m := 5) (((hsh84.x.tr (hsh96.x.tr xe33)).n F7.2.1).trans F7.2.2) (by omega) (by omega)) dX12_matches_163 ?_
                    obtain ⟨k42, gk42, hk42⟩ := wGt (cy := cy) X S31 ((hsh84.x.tr (hsh96.x.tr xe33)).A F3.2.1).1 ((hsh84.x.tr (hsh96.x.tr xe33)).A F3.2.1).2.1
                    refine va_iast hx hb hK hP hD hS k42 2 hk42 rfl (inb (m := 4) (((hsh84.x.tr (hsh96.x.tr xe33)).n F3.2.1).trans F3.2.2) (by omega) (by omega)) dX12_matches_164 (fun H locs hP2 hD2 hS => ?_)
                    have e9 := wPui (cy := cy) (f := (upd (S31.i (S.f o1 10)) x3.toNatClampNeg (S31.i (S.f o1 14) w96_7.toNatClampNeg))) hD ((hsh84.x.tr (hsh96.x.tr xe33)).A F3.2.1).1 ((hsh84.x.tr (hsh96.x.tr xe33)).A F3.2.1).2.1 gk42 rfl
                    obtain ⟨S43, hS43⟩ : ∃ z, S31.si (S.f o1 10) (upd (S31.i (S.f o1 10)) x3.toNatClampNeg (S31.i (S.f o1 14) w96_7.toNatClampNeg)) = z := ⟨_, rfl⟩
                    have v44 : IV S43 o1 := by rw [← hS43]; exact IV.set v32 (f_of ((hsh84.x.tr (hsh96.x.tr xe33)).F h_o1 (by decide) F1.1)) (iv_at v32 (j := 14) (by decide) (by decide) (f_of ((hsh84.x.tr (hsh96.x.tr xe33)).F h_o1 (by decide) F7.1)) (f_of ((hsh84.x.tr (hsh96.x.tr xe33)).F h_o1 (by decide) F1.1)) w96_7.toNatClampNeg)
                    have hP : va_P D vwCl (X ++ PL cy S43) H := by rw [← hS43, ← e9]; exact hP2
                    have hD : va_D A (X ++ PL cy S43) := by rw [← hS43, ← e9]; exact hD2
                    have xe45 : ext S31 S43 := by rw [← hS43]; exact ext.si _ _ _
                    have t46 : stp [(12, 28), (23, 100)] [] [] S84_ S43 := by rw [← hS43]; exact t34.i (upd (S31.i (S.f o1 10)) x3.toNatClampNeg (S31.i (S.f o1 14) w96_7.toNatClampNeg)) ((hsh84.x.tr (hsh96.x.tr xe33)).A F3.2.1) (by decide)
                    have k47 : (S43.I (S.f o1 0) 2).toInt = (S31.I (S.f o1 0) 2).toInt := by rw [← hS43]; rfl
                    have k48 : (S43.I o1 24).toInt = (S31.I o1 24).toInt := by rw [← hS43]; rfl
                    have k49 : (S43.I o1 25).toInt = (S31.I o1 25).toInt := by rw [← hS43]; rfl
                    have k50 : (S43.I o1 26).toInt = (S31.I o1 26).toInt := by rw [← hS43]; rfl
                    refine lv_aload_n hx hb dX12_matches_165 rfl (lv_at hl 2 rfl) ?_
                    refine lv_iload hx hb dX12_matches_166 (lv_at hl 1 rfl) ?_
                    refine lv_iconst (v := 1) hx hb dX12_matches_168 (by decide) ?_
                    refine lv_iadd hx hb dX12_matches_169 ?_
                    refine lv_iload_n hx hb dX12_matches_170 rfl (lv_at hl 4 rfl) ?_
                    refine lv_iconst (v := 1) hx hb dX12_matches_171 (by decide) ?_
                    refine lv_iload hx hb dX12_matches_172 (lv_at hl 0 rfl) ?_
                    refine lv_ishl hx hb dX12_matches_174 ?_
                    refine lv_ior hx hb dX12_matches_175 ?_
                    refine lv_iload_n hx hb dX12_matches_176 rfl (lv_at hl 5 rfl) ?_
                    refine lv_iconst (v := 1) hx hb dX12_matches_177 (by decide) ?_
                    refine lv_iadd hx hb dX12_matches_178 ?_
                    refine lv_lload hx hb dX12_matches_179 (lv_at hl 6 rfl) ?_
                    refine lv_aload_n hx hb dX12_matches_181 rfl (lv_at hl 2 rfl) ?_
                    have F51 := ((hW.at h_o1 List.not_mem_nil).to_12 h_o1.2.1).F33
                    obtain ⟨k52, gk52, hk52⟩ := wGt (cy := cy) X S43 (xe45.A (xe33.A (hsh96.x.A (hsh84.x.A h_o1)))).1 (xe45.A (xe33.A (hsh96.x.A (hsh84.x.A h_o1)))).2.1
                    simp only [kE, ((hsh84.x.tr (hsh96.x.tr (xe33.tr xe45))).F h_o1 (by decide) F51.1)] at hk52
                    refine va_get (D := D) (ci := 16) (v := .ref (S.f o1 33)) (C := RX12) (T := TX12) (N := 34) hx hb hts (by decide +kernel) hown hK hP k52 hk52 rfl 33 (by decide) (hts (.fieldLink RX12 91 "HobhouseModel" "peaks" "[I") (by decide +kernel)) (fun _ h9 => h9) rfl dX12_matches_182 ?_
                    refine lv_iconst (v := 5) hx hb dX12_matches_185 (by decide) ?_
                    refine lv_iload hx hb dX12_matches_186 (lv_at hl 1 rfl) ?_
                    refine lv_imul hx hb dX12_matches_188 ?_
                    refine lv_iload hx hb dX12_matches_189 (lv_at hl 0 rfl) ?_
                    refine lv_iadd hx hb dX12_matches_191 ?_
                    have l32_5 : (5 : Int32).toInt = 5 := rfl
                    have i53 : ((5 : Int32) * w84_6).toInt = 5 * w84_6.toInt := t_mull rfl (by omega)
                    have i54 : (((5 : Int32) * w84_6) + w96_7).toInt = ((5 : Int32) * w84_6).toInt + w96_7.toInt := t_add (by omega)
                    obtain ⟨k55, gk55, hk55⟩ := wGt (cy := cy) X S43 ((hsh84.x.tr (hsh96.x.tr (xe33.tr xe45))).A F51.2.1).1 ((hsh84.x.tr (hsh96.x.tr (xe33.tr xe45))).A F51.2.1).2.1
                    refine va_iald hx hb hK hP k55 2 hk55 rfl (inb (m := 25) (((hsh84.x.tr (hsh96.x.tr (xe33.tr xe45))).n F51.2.1).trans F51.2.2) (by omega) (by omega)) dX12_matches_192 ?_
                    refine lv_i2l hx hb dX12_matches_193 rfl ?_
                    refine lv_ladd hx hb dX12_matches_194 ?_
                    have l32_1 : (1 : Int32).toInt = 1 := rfl
                    have i56 : (w84_6 + (1 : Int32)).toInt = w84_6.toInt + 1 := t_addr (n := 1) rfl (by omega)
                    have i57 : (x3 + (1 : Int32)).toInt = x3.toInt + 1 := t_addr (n := 1) rfl (by omega)
                    have hFc := free_all hD hS hA
                    obtain ⟨k58, gk58, hk58⟩ := wGt (cy := cy) X S43 (xe45.A (xe33.A (hsh96.x.A (hsh84.x.A h_o1)))).1 (xe45.A (xe33.A (hsh96.x.A (hsh84.x.A h_o1)))).2.1
                    refine va_callv (va_runV (As := [.int (w84_6 + (1 : Int32)), .int (x2 ||| ((1 : Int32) <<< (w96_7 &&& 31))), .int (x3 + (1 : Int32)), .long (x4 + ((S43.i (S.f o1 33) (((5 : Int32) * w84_6) + w96_7).toNatClampNeg).toInt64))]) (rest := []) ⟨hx, hb, hml, hown, hts⟩ (c_X12_matches_2 l (cy := cy) (X := X) (D := D) S43 _ o1 (xe45.A (xe33.A (hsh96.x.A (hsh84.x.A h_o1)))) (w84_6 + (1 : Int32)) (x2 ||| ((1 : Int32) <<< (w96_7 &&& 31))) (x3 + (1 : Int32)) (x4 + ((S43.i (S.f o1 33) (((5 : Int32) * w84_6) + w96_7).toNatClampNeg).toInt64)) (t46.w) v44 (by omega) (by omega) (by rw [f_of ((hsh84.x.tr (hsh96.x.tr (xe33.tr xe45))).F h_o1 (by decide) F1.1)]; omega)) (cwV 4 hts gX12_matches_X12_matches rfl rfl rfl hd_X12_matches ⟨Nat.le_of_ble_eq_true rfl, Nat.le_of_ble_eq_true rfl⟩) ⟨fun a U g mk q => ⟨q.1, q.2.1, q.2.2.1.calling, NW.same (u := U) (U := U.calling g mk a) rfl q.2.2.2⟩, va_recv hK hP (q := (RX12, TX12, 34)) (ci := 16) (q0 := k58) rfl hk58, fun U hU hW => ⟨rfl, by rw [hU], wd_pre hP hK hD hU hW, hN.warm hW⟩⟩ rfl rfl hl.1 rfl (lv_room (Nat.le_of_ble_eq_true rfl)) dX12_matches_195 ⟨(Nat.zero_le _), (Nat.zero_le _)⟩) hS (fun q _ h => hFc q h) hFc (fun u t H1 locs ht hvm hw hB hz1 hk1 hS => ?_)
                    obtain ⟨w60, y61⟩ := hw
                    obtain ⟨hP, hD⟩ := wd_post hFc ht hB
                    generalize H1 = H at hP hS ⊢
                    obtain ⟨S62, rfl⟩ : ∃ z, z = u := ⟨_, rfl⟩
                    have t63 : stp [(12, 28), (23, 100)] [] [] S84_ S62 := t46.tr w60 (by decide) (fun _ q => absurd q List.not_mem_nil)
                    have v64 : IV S62 o1 := y61
                    have xe65 : ext S43 S62 := w60.x
                    have k66 : (S62.I (S.f o1 0) 2).toInt = (S43.I (S.f o1 0) 2).toInt := by rw [(w60.fR (S.f o1 0) ((hsh84.x.tr (hsh96.x.tr (xe33.tr xe45))).A F1.2.1).1 List.not_mem_nil).1 2 (by rw [((hsh84.x.tr (hsh96.x.tr (xe33.tr xe45))).A F1.2.1).2.1]; decide) |>.1]
                    have k67 : (S62.I o1 24).toInt = (S43.I o1 24).toInt := by rw [(w60.fR o1 ((hsh84.x.tr (hsh96.x.tr (xe33.tr xe45))).A h_o1).1 List.not_mem_nil).1 24 (by rw [((hsh84.x.tr (hsh96.x.tr (xe33.tr xe45))).A h_o1).2.1]; decide) |>.1]
                    have k68 : (S62.I o1 25).toInt = (S43.I o1 25).toInt := by rw [(w60.fR o1 ((hsh84.x.tr (hsh96.x.tr (xe33.tr xe45))).A h_o1).1 List.not_mem_nil).1 25 (by rw [((hsh84.x.tr (hsh96.x.tr (xe33.tr xe45))).A h_o1).2.1]; decide) |>.1]
                    have k69 : (S62.I o1 26).toInt = (S43.I o1 26).toInt := by rw [(w60.fR o1 ((hsh84.x.tr (hsh96.x.tr (xe33.tr xe45))).A h_o1).1 List.not_mem_nil).1 26 (by rw [((hsh84.x.tr (hsh96.x.tr (xe33.tr xe45))).A h_o1).2.1]; decide) |>.1]
                    refine lv_iinc (v := w96_7 + (1 : Int32)) (lv' := [(7, .int (w96_7 + (1 : Int32))), (6, .int w84_6), (0, .ref o1), (1, .int x1), (2, .int x2), (3, .int x3), (4, .long x4)]) hx hb dX12_matches_198 hl (k := 0) rfl (by rfl) (by decide) rfl (fun ls hl => ?_)
                    refine lv_goto (tgt := 96) hx hb dX12_matches_201 (by decide) ?_
                    have i70 : (w96_7 + (1 : Int32)).toInt = w96_7.toInt + 1 := t_addr (n := 1) rfl (by omega)
                    exact ih96 S62 (w96_7 + (1 : Int32)) _ _ _ (Nat.lt_of_lt_of_le (by omega) (Nat.le_of_lt_succ hm96)) (⟨by omega, v64⟩) t63 hP hD hS (lv_sub hl [0, 1, 2, 3, 4, 5, 6] rfl) ko96
                  · have c26i : r24.toInt = 0 := eq_v rfl rfl c26
                    refine lv_goto (tgt := 198) hx hb dX12_matches_136 (by decide) ?_
                    refine lv_iinc (v := w96_7 + (1 : Int32)) (lv' := [(7, .int (w96_7 + (1 : Int32))), (6, .int w84_6), (0, .ref o1), (1, .int x1), (2, .int x2), (3, .int x3), (4, .long x4)]) hx hb dX12_matches_198 hl (k := 0) rfl (by rfl) (by decide) rfl (fun ls hl => ?_)
                    refine lv_goto (tgt := 96) hx hb dX12_matches_201 (by decide) ?_
                    have l32_1 : (1 : Int32).toInt = 1 := rfl
                    have i71 : (w96_7 + (1 : Int32)).toInt = w96_7.toInt + 1 := t_addr (n := 1) rfl (by omega)
                    exact ih96 S96_ (w96_7 + (1 : Int32)) _ _ _ (Nat.lt_of_lt_of_le (by omega) (Nat.le_of_lt_succ hm96)) (⟨by omega, hi96.2⟩) hsh96 hP hD hS (lv_sub hl [0, 1, 2, 3, 4, 5, 6] rfl) ko96
          refine loop96 7 S84_ (0 : Int32) _ _ _ (by omega) (⟨by omega, hi84.2⟩) (stp.rf hsh84.w) hP hD hS (lv_sub hl [0, 1, 2, 3, 4, 5, 6] rfl) (fun S73 z74 H locs ls hi96 hsh96 hP hD hS hl => ?_)
          have t75 : stp [(12, 28), (23, 100)] [] [] S S73 := hsh84.tr hsh96 (fun _ q => q) (fun _ q => Or.inl q)
          have et75 := hsh96.x
          have hi96b := hi96.1
          refine lv_iinc (v := w84_6 + (1 : Int32)) (lv' := [(6, .int (w84_6 + (1 : Int32))), (7, .int z74), (0, .ref o1), (1, .int x1), (2, .int x2), (3, .int x3), (4, .long x4)]) hx hb dX12_matches_204 hl (k := 1) rfl (by rfl) (by decide) rfl (fun ls hl => ?_)
          refine lv_goto (tgt := 84) hx hb dX12_matches_207 (by decide) ?_
          have l32_1 : (1 : Int32).toInt = 1 := rfl
          have i76 : (w84_6 + (1 : Int32)).toInt = w84_6.toInt + 1 := t_addr (n := 1) rfl (by omega)
          exact ih84 S73 (w84_6 + (1 : Int32)) _ _ _ (Nat.lt_of_lt_of_le (by omega) (Nat.le_of_lt_succ hm84)) (⟨by omega, hi96.2⟩) t75 hP hD hS (lv_sub hl [0, 2, 3, 4, 5, 6] rfl) ko84
    refine loop84 8 S x1 _ _ _ (by omega) (⟨by omega, hv⟩) (stp.rf hW) hP hD hS (lv_sub hl [0, 1, 2, 3, 4, 5] rfl) (fun S78 z79 H locs ls hi84 hsh84 hP hD hS hl => ?_)
    have t80 : stp [(12, 28), (23, 100)] [] [] S S78 := t0.tr hsh84 (fun _ q => q) (fun _ q => Or.inl q)
    have et80 := hsh84.x
    have hi84b := hi84.1
    refine W.widen (k := 0) (n := 0) (Nat.le_of_ble_eq_true rfl) (Nat.le_of_ble_eq_true rfl) ?_
    exact W.vret hx hb hr (fun t ht hW9 => ⟨⟨S78, rfl, ⟨t80, (hi84.2)⟩, wd_end hP hK hD ht hW9.alike⟩, hS.F ht⟩) hS.2.2 dX12_matches_210 hlocks
  · have c10i : x3.toInt = (S.I o1 26).toInt := eq_v rfl rfl c10
    refine lv_aload_n hx hb dX12_matches_8 rfl (lv_at hl 0 rfl) ?_
    obtain ⟨k81, gk81, hk81⟩ := wGt (cy := cy) X S h_o1.1 h_o1.2.1
    refine va_get (D := D) (ci := 16) (v := .long (S.J o1 28)) (C := RX12) (T := TX12) (N := 34) hx hb hts (by decide +kernel) hown hK hP k81 hk81 rfl 28 (by decide) (hts (.fieldLink RX12 464 "HobhouseModel" "bestSum" "J") (by decide +kernel)) (fun _ h9 => h9) rfl dX12_matches_9 ?_
    refine lv_lconst (v := 0) hx hb dX12_matches_12 (by decide) ?_
    refine W.lcmp hx hb dX12_matches_13 ?_
    refine lv_if_lt (tgt := 28) hx hb dX12_matches_14 (by decide) (fun c82 => ?_) (fun c82 => ?_)
    · have c82i := lc_lt c82
      refine lv_aload_n hx hb dX12_matches_28 rfl (lv_at hl 0 rfl) ?_
      refine lv_lload hx hb dX12_matches_29 (lv_at hl 4 rfl) ?_
      obtain ⟨k83, gk83, hk83⟩ := wGt (cy := cy) X S h_o1.1 h_o1.2.1
      refine va_put (D := D) (ci := 16) (v := .long x4) (ty := .long) (C := RX12) (T := TX12) (N := 34) hx hb hts (by decide +kernel) tyX12 tyX12_ok nmX12 hown hK hP hD hS k83 hk83 rfl 28 (by decide) (hts (.fieldLink RX12 464 "HobhouseModel" "bestSum" "J") (by decide +kernel)) (fun _ h9 => h9) rfl (by decide +kernel) (rfl) (rfl) (Nat.le_of_ble_eq_true rfl) dX12_matches_31 (fun H locs hP2 hD2 hS => ?_)
      have e9 := wPuJ (cy := cy) (j := 28) (v := x4) hD h_o1.1 h_o1.2.1 gk83 rfl
      obtain ⟨S84, hS84⟩ : ∃ z, S.sJ o1 28 x4 = z := ⟨_, rfl⟩
      have s86 : stp [(12, 28)] [] [] S S84 := by rw [← hS84]; exact (stp.rf hW).J 28 x4 h_o1 (by decide)
      have v85 : IV S84 o1 := IV.keep s86 hW h_o1 (by decide) (by decide) hv
      have hP : va_P D vwCl (X ++ PL cy S84) H := by rw [← hS84, ← e9]; exact hP2
      have hD : va_D A (X ++ PL cy S84) := by rw [← hS84, ← e9]; exact hD2
      have xe87 : ext S S84 := by rw [← hS84]; exact ext.sJ _ _ _ _
      have t88 : stp [(12, 28), (23, 100)] [] [] S S84 := by rw [← hS84]; exact t0.J 28 x4 h_o1 (by decide)
      have k89 : (S84.I (S.f o1 0) 2).toInt = (S.I (S.f o1 0) 2).toInt := by rw [← hS84]; rfl
      have k90 : (S84.I o1 24).toInt = (S.I o1 24).toInt := by rw [← hS84]; rfl
      have k91 : (S84.I o1 25).toInt = (S.I o1 25).toInt := by rw [← hS84]; rfl
      have k92 : (S84.I o1 26).toInt = (S.I o1 26).toInt := by rw [← hS84]; rfl
      refine lv_iconst (v := 0) hx hb dX12_matches_34 (by decide) ?_
      refine lv_istore (lv' := [(6, .int (0 : Int32)), (0, .ref o1), (1, .int x1), (2, .int x2), (3, .int x3), (4, .long x4)]) hx hb dX12_matches_35 hl (by decide) rfl (fun ls hl => ?_)
      have l32_0 : (0 : Int32).toInt = 0 := rfl
      have loop37 : ∀ (n : Nat) (S37_ : wPS) (w37_6 : Int32) (H : Heap) (locs : List Loc) (ls : Array Slot), (5 - w37_6.toInt).toNat < n → (0 ≤ w37_6.toInt ∧ w37_6.toInt ≤ 4 ∧ (S37_.I o1 24).toInt = (S.I o1 24).toInt ∧ (S37_.I o1 25).toInt = (S.I o1 25).toInt ∧ (S37_.I o1 26).toInt = (S.I o1 26).toInt ∧ (S37_.I (S.f o1 0) 2).toInt = (S.I (S.f o1 0) 2).toInt) ∧ IV S37_ o1 → stp [(12, 28), (23, 100)] [] [] S84 S37_ → va_P D vwCl (X ++ PL cy S37_) H → va_D A (X ++ PL cy S37_) → va_S A s.heap H locs → lv_has ls 8 [(6, .int w37_6), (0, .ref o1), (1, .int x1), (2, .int x2), (3, .int x3), (4, .long x4)] → (∀ (S37_x : wPS) (w37_6x : Int32) (H : Heap) (locs : List Loc) (ls : Array Slot), (0 ≤ w37_6x.toInt ∧ w37_6x.toInt ≤ 4 ∧ (S37_x.I o1 24).toInt = (S.I o1 24).toInt ∧ (S37_x.I o1 25).toInt = (S.I o1 25).toInt ∧ (S37_x.I o1 26).toInt = (S.I o1 26).toInt ∧ (S37_x.I (S.f o1 0) 2).toInt = (S.I (S.f o1 0) 2).toInt) ∧ IV S37_x o1 → stp [(12, 28), (23, 100)] [] [] S84 S37_x → va_P D vwCl (X ++ PL cy S37_x) H → va_D A (X ++ PL cy S37_x) → va_S A s.heap H locs → lv_has ls 8 [(6, .int w37_6x), (0, .ref o1), (1, .int x1), (2, .int x2), (3, .int x3), (4, .long x4)] → W p l e (headSpec wsX12_matches ({ frames := 7, cells := 0, slots := 0, locals := 163 } : Room)).room s m [.ref o1, .int x1, .int x2, .int x3, .long x4].toArray below meth c H locs 0 0 (MQ below (va_Qv (fun (u : wPS) => stp [(12, 28), (23, 100)] [] [] S u ∧ IV u o1) (fun u t => WD D cy X A u t) A) [.ref o1, .int x1, .int x2, .int x3, .long x4].toArray s 0 0 A) (F0 m 80 ls [])) → W p l e (headSpec wsX12_matches ({ frames := 7, cells := 0, slots := 0, locals := 163 } : Room)).room s m [.ref o1, .int x1, .int x2, .int x3, .long x4].toArray below meth c H locs 0 0 (MQ below (va_Qv (fun (u : wPS) => stp [(12, 28), (23, 100)] [] [] S u ∧ IV u o1) (fun u t => WD D cy X A u t) A) [.ref o1, .int x1, .int x2, .int x3, .long x4].toArray s 0 0 A) (F0 m 37 ls []) := by
        intro n37
        induction n37 with
        | zero => intro S37_ w37_6 H locs ls hm; exact absurd hm (Nat.not_lt_zero _)
        | succ n37 ih37 =>
          intro S37_ w37_6 H locs ls hm37 hi37 hsh37 hP hD hS hl ko37
          have hi37a := hi37.1
          refine lv_iload hx hb dX12_matches_37 (lv_at hl 0 rfl) ?_
          refine lv_aload_n hx hb dX12_matches_39 rfl (lv_at hl 1 rfl) ?_
          obtain ⟨k93, gk93, hk93⟩ := wGt (cy := cy) X S37_ ((xe87.tr hsh37.x).A h_o1).1 ((xe87.tr hsh37.x).A h_o1).2.1
          have i94 := ((hsh37.w.at ((xe87.tr hsh37.x).A h_o1) List.not_mem_nil).to_12 ((xe87.tr hsh37.x).A h_o1).2.1).R26
          refine va_get (D := D) (ci := 16) (v := .int (S37_.I o1 26)) (C := RX12) (T := TX12) (N := 34) hx hb hts (by decide +kernel) hown hK hP k93 hk93 rfl 26 (by decide) (hts (.fieldLink RX12 461 "HobhouseModel" "wanted" "I") (by decide +kernel)) (fun _ h9 => h9) rfl dX12_matches_40 ?_
          refine lv_icmp_ge (tgt := 80) hx hb dX12_matches_43 (by decide) (fun c95 => ?_) (fun c95 => ?_)
          · have c95i : (S37_.I o1 26).toInt ≤ w37_6.toInt := le_v rfl rfl c95
            exact ko37 S37_ w37_6 _ _ _ (⟨by omega, hi37.2⟩) hsh37 hP hD hS (lv_sub hl [0, 1, 2, 3, 4, 5] rfl)
          · have c95i : w37_6.toInt < (S37_.I o1 26).toInt := nle_v rfl rfl c95
            refine lv_aload_n hx hb dX12_matches_46 rfl (lv_at hl 1 rfl) ?_
            obtain ⟨k96, gk96, hk96⟩ := wGt (cy := cy) X S37_ ((xe87.tr hsh37.x).A h_o1).1 ((xe87.tr hsh37.x).A h_o1).2.1
            simp only [kE, ((xe87.tr hsh37.x).F h_o1 (by decide) F4.1)] at hk96
            refine va_get (D := D) (ci := 16) (v := .ref (S.f o1 11)) (C := RX12) (T := TX12) (N := 34) hx hb hts (by decide +kernel) hown hK hP k96 hk96 rfl 11 (by decide) (hts (.fieldLink RX12 60 "HobhouseModel" "bestFirst" "[I") (by decide +kernel)) (fun _ h9 => h9) rfl dX12_matches_47 ?_
            refine lv_iload hx hb dX12_matches_50 (lv_at hl 0 rfl) ?_
            refine lv_aload_n hx hb dX12_matches_52 rfl (lv_at hl 1 rfl) ?_
            obtain ⟨k97, gk97, hk97⟩ := wGt (cy := cy) X S37_ ((xe87.tr hsh37.x).A h_o1).1 ((xe87.tr hsh37.x).A h_o1).2.1
            simp only [kE, ((xe87.tr hsh37.x).F h_o1 (by decide) F2.1)] at hk97
            refine va_get (D := D) (ci := 16) (v := .ref (S.f o1 9)) (C := RX12) (T := TX12) (N := 34) hx hb hts (by decide +kernel) hown hK hP k97 hk97 rfl 9 (by decide) (hts (.fieldLink RX12 54 "HobhouseModel" "pairFirst" "[I") (by decide +kernel)) (fun _ h9 => h9) rfl dX12_matches_53 ?_
            refine lv_iload hx hb dX12_matches_56 (lv_at hl 0 rfl) ?_
            obtain ⟨k98, gk98, hk98⟩ := wGt (cy := cy) X S37_ ((xe87.tr hsh37.x).A F2.2.1).1 ((xe87.tr hsh37.x).A F2.2.1).2.1
            refine va_iald hx hb hK hP k98 2 hk98 rfl (inb (m := 4) (((xe87.tr hsh37.x).n F2.2.1).trans F2.2.2) (by omega) (by omega)) dX12_matches_58 ?_
            obtain ⟨k99, gk99, hk99⟩ := wGt (cy := cy) X S37_ ((xe87.tr hsh37.x).A F4.2.1).1 ((xe87.tr hsh37.x).A F4.2.1).2.1
            refine va_iast hx hb hK hP hD hS k99 2 hk99 rfl (inb (m := 4) (((xe87.tr hsh37.x).n F4.2.1).trans F4.2.2) (by omega) (by omega)) dX12_matches_59 (fun H locs hP2 hD2 hS => ?_)
            have e9 := wPui (cy := cy) (f := (upd (S37_.i (S.f o1 11)) w37_6.toNatClampNeg (S37_.i (S.f o1 9) w37_6.toNatClampNeg))) hD ((xe87.tr hsh37.x).A F4.2.1).1 ((xe87.tr hsh37.x).A F4.2.1).2.1 gk99 rfl
            obtain ⟨S100, hS100⟩ : ∃ z, S37_.si (S.f o1 11) (upd (S37_.i (S.f o1 11)) w37_6.toNatClampNeg (S37_.i (S.f o1 9) w37_6.toNatClampNeg)) = z := ⟨_, rfl⟩
            have v101 : IV S100 o1 := by rw [← hS100]; exact IV.set hi37.2 (f_of ((xe87.tr hsh37.x).F h_o1 (by decide) F1.1)) (iv_at hi37.2 (j := 9) (by decide) (by decide) (f_of ((xe87.tr hsh37.x).F h_o1 (by decide) F2.1)) (f_of ((xe87.tr hsh37.x).F h_o1 (by decide) F1.1)) w37_6.toNatClampNeg)
            have hP : va_P D vwCl (X ++ PL cy S100) H := by rw [← hS100, ← e9]; exact hP2
            have hD : va_D A (X ++ PL cy S100) := by rw [← hS100, ← e9]; exact hD2
            have xe102 : ext S37_ S100 := by rw [← hS100]; exact ext.si _ _ _
            have t103 : stp [(12, 28), (23, 100)] [] [] S84 S100 := by rw [← hS100]; exact hsh37.i (upd (S37_.i (S.f o1 11)) w37_6.toNatClampNeg (S37_.i (S.f o1 9) w37_6.toNatClampNeg)) ((xe87.tr hsh37.x).A F4.2.1) (by decide)
            have k104 : (S100.I (S.f o1 0) 2).toInt = (S37_.I (S.f o1 0) 2).toInt := by rw [← hS100]; rfl
            have k105 : (S100.I o1 24).toInt = (S37_.I o1 24).toInt := by rw [← hS100]; rfl
            have k106 : (S100.I o1 25).toInt = (S37_.I o1 25).toInt := by rw [← hS100]; rfl
            have k107 : (S100.I o1 26).toInt = (S37_.I o1 26).toInt := by rw [← hS100]; rfl
            refine lv_aload_n hx hb dX12_matches_60 rfl (lv_at hl 1 rfl) ?_
            obtain ⟨k108, gk108, hk108⟩ := wGt (cy := cy) X S100 (xe102.A ((xe87.tr hsh37.x).A h_o1)).1 (xe102.A ((xe87.tr hsh37.x).A h_o1)).2.1
            simp only [kE, ((xe87.tr (hsh37.x.tr xe102)).F h_o1 (by decide) F5.1)] at hk108
            refine va_get (D := D) (ci := 16) (v := .ref (S.f o1 12)) (C := RX12) (T := TX12) (N := 34) hx hb hts (by decide +kernel) hown hK hP k108 hk108 rfl 12 (by decide) (hts (.fieldLink RX12 63 "HobhouseModel" "bestSecond" "[I") (by decide +kernel)) (fun _ h9 => h9) rfl dX12_matches_61 ?_
            refine lv_iload hx hb dX12_matches_64 (lv_at hl 0 rfl) ?_
            refine lv_aload_n hx hb dX12_matches_66 rfl (lv_at hl 1 rfl) ?_
            obtain ⟨k109, gk109, hk109⟩ := wGt (cy := cy) X S100 (xe102.A ((xe87.tr hsh37.x).A h_o1)).1 (xe102.A ((xe87.tr hsh37.x).A h_o1)).2.1
            simp only [kE, ((xe87.tr (hsh37.x.tr xe102)).F h_o1 (by decide) F3.1)] at hk109
            refine va_get (D := D) (ci := 16) (v := .ref (S.f o1 10)) (C := RX12) (T := TX12) (N := 34) hx hb hts (by decide +kernel) hown hK hP k109 hk109 rfl 10 (by decide) (hts (.fieldLink RX12 57 "HobhouseModel" "pairSecond" "[I") (by decide +kernel)) (fun _ h9 => h9) rfl dX12_matches_67 ?_
            refine lv_iload hx hb dX12_matches_70 (lv_at hl 0 rfl) ?_
            obtain ⟨k110, gk110, hk110⟩ := wGt (cy := cy) X S100 ((xe87.tr (hsh37.x.tr xe102)).A F3.2.1).1 ((xe87.tr (hsh37.x.tr xe102)).A F3.2.1).2.1
            refine va_iald hx hb hK hP k110 2 hk110 rfl (inb (m := 4) (((xe87.tr (hsh37.x.tr xe102)).n F3.2.1).trans F3.2.2) (by omega) (by omega)) dX12_matches_72 ?_
            obtain ⟨k111, gk111, hk111⟩ := wGt (cy := cy) X S100 ((xe87.tr (hsh37.x.tr xe102)).A F5.2.1).1 ((xe87.tr (hsh37.x.tr xe102)).A F5.2.1).2.1
            refine va_iast hx hb hK hP hD hS k111 2 hk111 rfl (inb (m := 4) (((xe87.tr (hsh37.x.tr xe102)).n F5.2.1).trans F5.2.2) (by omega) (by omega)) dX12_matches_73 (fun H locs hP2 hD2 hS => ?_)
            have e9 := wPui (cy := cy) (f := (upd (S100.i (S.f o1 12)) w37_6.toNatClampNeg (S100.i (S.f o1 10) w37_6.toNatClampNeg))) hD ((xe87.tr (hsh37.x.tr xe102)).A F5.2.1).1 ((xe87.tr (hsh37.x.tr xe102)).A F5.2.1).2.1 gk111 rfl
            obtain ⟨S112, hS112⟩ : ∃ z, S100.si (S.f o1 12) (upd (S100.i (S.f o1 12)) w37_6.toNatClampNeg (S100.i (S.f o1 10) w37_6.toNatClampNeg)) = z := ⟨_, rfl⟩
            have v113 : IV S112 o1 := by rw [← hS112]; exact IV.set v101 (f_of ((xe87.tr (hsh37.x.tr xe102)).F h_o1 (by decide) F1.1)) (iv_at v101 (j := 10) (by decide) (by decide) (f_of ((xe87.tr (hsh37.x.tr xe102)).F h_o1 (by decide) F3.1)) (f_of ((xe87.tr (hsh37.x.tr xe102)).F h_o1 (by decide) F1.1)) w37_6.toNatClampNeg)
            have hP : va_P D vwCl (X ++ PL cy S112) H := by rw [← hS112, ← e9]; exact hP2
            have hD : va_D A (X ++ PL cy S112) := by rw [← hS112, ← e9]; exact hD2
            have xe114 : ext S100 S112 := by rw [← hS112]; exact ext.si _ _ _
            have t115 : stp [(12, 28), (23, 100)] [] [] S84 S112 := by rw [← hS112]; exact t103.i (upd (S100.i (S.f o1 12)) w37_6.toNatClampNeg (S100.i (S.f o1 10) w37_6.toNatClampNeg)) ((xe87.tr (hsh37.x.tr xe102)).A F5.2.1) (by decide)
            have k116 : (S112.I (S.f o1 0) 2).toInt = (S100.I (S.f o1 0) 2).toInt := by rw [← hS112]; rfl
            have k117 : (S112.I o1 24).toInt = (S100.I o1 24).toInt := by rw [← hS112]; rfl
            have k118 : (S112.I o1 25).toInt = (S100.I o1 25).toInt := by rw [← hS112]; rfl
            have k119 : (S112.I o1 26).toInt = (S100.I o1 26).toInt := by rw [← hS112]; rfl
            refine lv_iinc (v := w37_6 + (1 : Int32)) (lv' := [(6, .int (w37_6 + (1 : Int32))), (0, .ref o1), (1, .int x1), (2, .int x2), (3, .int x3), (4, .long x4)]) hx hb dX12_matches_74 hl (k := 0) rfl (by rfl) (by decide) rfl (fun ls hl => ?_)
            refine lv_goto (tgt := 37) hx hb dX12_matches_77 (by decide) ?_
            have l32_1 : (1 : Int32).toInt = 1 := rfl
            have i120 : (w37_6 + (1 : Int32)).toInt = w37_6.toInt + 1 := t_addr (n := 1) rfl (by omega)
            exact ih37 S112 (w37_6 + (1 : Int32)) _ _ _ (Nat.lt_of_lt_of_le (by omega) (Nat.le_of_lt_succ hm37)) (⟨by omega, v113⟩) t115 hP hD hS (lv_sub hl [0, 1, 2, 3, 4, 5] rfl) ko37
      refine loop37 6 S84 (0 : Int32) _ _ _ (by omega) (⟨by omega, v85⟩) (stp.rf t88.w) hP hD hS (lv_sub hl [0, 1, 2, 3, 4, 5] rfl) (fun S122 z123 H locs ls hi37 hsh37 hP hD hS hl => ?_)
      have t124 : stp [(12, 28), (23, 100)] [] [] S S122 := t88.tr hsh37 (fun _ q => q) (fun _ q => Or.inl q)
      have et124 := hsh37.x
      have hi37b := hi37.1
      refine W.widen (k := 0) (n := 0) (Nat.le_of_ble_eq_true rfl) (Nat.le_of_ble_eq_true rfl) ?_
      exact W.vret hx hb hr (fun t ht hW9 => ⟨⟨S122, rfl, ⟨t124, (hi37.2)⟩, wd_end hP hK hD ht hW9.alike⟩, hS.F ht⟩) hS.2.2 dX12_matches_80 hlocks
    · have c82i := lc_nlt c82
      refine lv_lload hx hb dX12_matches_17 (lv_at hl 4 rfl) ?_
      refine lv_aload_n hx hb dX12_matches_19 rfl (lv_at hl 0 rfl) ?_
      obtain ⟨k125, gk125, hk125⟩ := wGt (cy := cy) X S h_o1.1 h_o1.2.1
      refine va_get (D := D) (ci := 16) (v := .long (S.J o1 28)) (C := RX12) (T := TX12) (N := 34) hx hb hts (by decide +kernel) hown hK hP k125 hk125 rfl 28 (by decide) (hts (.fieldLink RX12 464 "HobhouseModel" "bestSum" "J") (by decide +kernel)) (fun _ h9 => h9) rfl dX12_matches_20 ?_
      refine W.lcmp hx hb dX12_matches_23 ?_
      refine lv_if_lt (tgt := 28) hx hb dX12_matches_24 (by decide) (fun c126 => ?_) (fun c126 => ?_)
      · have c126i := lc_lt c126
        refine lv_aload_n hx hb dX12_matches_28 rfl (lv_at hl 0 rfl) ?_
        refine lv_lload hx hb dX12_matches_29 (lv_at hl 4 rfl) ?_
        obtain ⟨k127, gk127, hk127⟩ := wGt (cy := cy) X S h_o1.1 h_o1.2.1
        refine va_put (D := D) (ci := 16) (v := .long x4) (ty := .long) (C := RX12) (T := TX12) (N := 34) hx hb hts (by decide +kernel) tyX12 tyX12_ok nmX12 hown hK hP hD hS k127 hk127 rfl 28 (by decide) (hts (.fieldLink RX12 464 "HobhouseModel" "bestSum" "J") (by decide +kernel)) (fun _ h9 => h9) rfl (by decide +kernel) (rfl) (rfl) (Nat.le_of_ble_eq_true rfl) dX12_matches_31 (fun H locs hP2 hD2 hS => ?_)
        have e9 := wPuJ (cy := cy) (j := 28) (v := x4) hD h_o1.1 h_o1.2.1 gk127 rfl
        obtain ⟨S128, hS128⟩ : ∃ z, S.sJ o1 28 x4 = z := ⟨_, rfl⟩
        have s130 : stp [(12, 28)] [] [] S S128 := by rw [← hS128]; exact (stp.rf hW).J 28 x4 h_o1 (by decide)
        have v129 : IV S128 o1 := IV.keep s130 hW h_o1 (by decide) (by decide) hv
        have hP : va_P D vwCl (X ++ PL cy S128) H := by rw [← hS128, ← e9]; exact hP2
        have hD : va_D A (X ++ PL cy S128) := by rw [← hS128, ← e9]; exact hD2
        have xe131 : ext S S128 := by rw [← hS128]; exact ext.sJ _ _ _ _
        have t132 : stp [(12, 28), (23, 100)] [] [] S S128 := by rw [← hS128]; exact t0.J 28 x4 h_o1 (by decide)
        have k133 : (S128.I (S.f o1 0) 2).toInt = (S.I (S.f o1 0) 2).toInt := by rw [← hS128]; rfl
        have k134 : (S128.I o1 24).toInt = (S.I o1 24).toInt := by rw [← hS128]; rfl
        have k135 : (S128.I o1 25).toInt = (S.I o1 25).toInt := by rw [← hS128]; rfl
        have k136 : (S128.I o1 26).toInt = (S.I o1 26).toInt := by rw [← hS128]; rfl
        refine lv_iconst (v := 0) hx hb dX12_matches_34 (by decide) ?_
        refine lv_istore (lv' := [(6, .int (0 : Int32)), (0, .ref o1), (1, .int x1), (2, .int x2), (3, .int x3), (4, .long x4)]) hx hb dX12_matches_35 hl (by decide) rfl (fun ls hl => ?_)
        have l32_0 : (0 : Int32).toInt = 0 := rfl
        have loop37 : ∀ (n : Nat) (S37_ : wPS) (w37_6 : Int32) (H : Heap) (locs : List Loc) (ls : Array Slot), (5 - w37_6.toInt).toNat < n → (0 ≤ w37_6.toInt ∧ w37_6.toInt ≤ 4 ∧ (S37_.I o1 24).toInt = (S.I o1 24).toInt ∧ (S37_.I o1 25).toInt = (S.I o1 25).toInt ∧ (S37_.I o1 26).toInt = (S.I o1 26).toInt ∧ (S37_.I (S.f o1 0) 2).toInt = (S.I (S.f o1 0) 2).toInt) ∧ IV S37_ o1 → stp [(12, 28), (23, 100)] [] [] S128 S37_ → va_P D vwCl (X ++ PL cy S37_) H → va_D A (X ++ PL cy S37_) → va_S A s.heap H locs → lv_has ls 8 [(6, .int w37_6), (0, .ref o1), (1, .int x1), (2, .int x2), (3, .int x3), (4, .long x4)] → (∀ (S37_x : wPS) (w37_6x : Int32) (H : Heap) (locs : List Loc) (ls : Array Slot), (0 ≤ w37_6x.toInt ∧ w37_6x.toInt ≤ 4 ∧ (S37_x.I o1 24).toInt = (S.I o1 24).toInt ∧ (S37_x.I o1 25).toInt = (S.I o1 25).toInt ∧ (S37_x.I o1 26).toInt = (S.I o1 26).toInt ∧ (S37_x.I (S.f o1 0) 2).toInt = (S.I (S.f o1 0) 2).toInt) ∧ IV S37_x o1 → stp [(12, 28), (23, 100)] [] [] S128 S37_x → va_P D vwCl (X ++ PL cy S37_x) H → va_D A (X ++ PL cy S37_x) → va_S A s.heap H locs → lv_has ls 8 [(6, .int w37_6x), (0, .ref o1), (1, .int x1), (2, .int x2), (3, .int x3), (4, .long x4)] → W p l e (headSpec wsX12_matches ({ frames := 7, cells := 0, slots := 0, locals := 163 } : Room)).room s m [.ref o1, .int x1, .int x2, .int x3, .long x4].toArray below meth c H locs 0 0 (MQ below (va_Qv (fun (u : wPS) => stp [(12, 28), (23, 100)] [] [] S u ∧ IV u o1) (fun u t => WD D cy X A u t) A) [.ref o1, .int x1, .int x2, .int x3, .long x4].toArray s 0 0 A) (F0 m 80 ls [])) → W p l e (headSpec wsX12_matches ({ frames := 7, cells := 0, slots := 0, locals := 163 } : Room)).room s m [.ref o1, .int x1, .int x2, .int x3, .long x4].toArray below meth c H locs 0 0 (MQ below (va_Qv (fun (u : wPS) => stp [(12, 28), (23, 100)] [] [] S u ∧ IV u o1) (fun u t => WD D cy X A u t) A) [.ref o1, .int x1, .int x2, .int x3, .long x4].toArray s 0 0 A) (F0 m 37 ls []) := by
          intro n37
          induction n37 with
          | zero => intro S37_ w37_6 H locs ls hm; exact absurd hm (Nat.not_lt_zero _)
          | succ n37 ih37 =>
            intro S37_ w37_6 H locs ls hm37 hi37 hsh37 hP hD hS hl ko37
            have hi37a := hi37.1
            refine lv_iload hx hb dX12_matches_37 (lv_at hl 0 rfl) ?_
            refine lv_aload_n hx hb dX12_matches_39 rfl (lv_at hl 1 rfl) ?_
            obtain ⟨k137, gk137, hk137⟩ := wGt (cy := cy) X S37_ ((xe131.tr hsh37.x).A h_o1).1 ((xe131.tr hsh37.x).A h_o1).2.1
            have i138 := ((hsh37.w.at ((xe131.tr hsh37.x).A h_o1) List.not_mem_nil).to_12 ((xe131.tr hsh37.x).A h_o1).2.1).R26
            refine va_get (D := D) (ci := 16) (v := .int (S37_.I o1 26)) (C := RX12) (T := TX12) (N := 34) hx hb hts (by decide +kernel) hown hK hP k137 hk137 rfl 26 (by decide) (hts (.fieldLink RX12 461 "HobhouseModel" "wanted" "I") (by decide +kernel)) (fun _ h9 => h9) rfl dX12_matches_40 ?_
            refine lv_icmp_ge (tgt := 80) hx hb dX12_matches_43 (by decide) (fun c139 => ?_) (fun c139 => ?_)
            · have c139i : (S37_.I o1 26).toInt ≤ w37_6.toInt := le_v rfl rfl c139
              exact ko37 S37_ w37_6 _ _ _ (⟨by omega, hi37.2⟩) hsh37 hP hD hS (lv_sub hl [0, 1, 2, 3, 4, 5] rfl)
            · have c139i : w37_6.toInt < (S37_.I o1 26).toInt := nle_v rfl rfl c139
              refine lv_aload_n hx hb dX12_matches_46 rfl (lv_at hl 1 rfl) ?_
              obtain ⟨k140, gk140, hk140⟩ := wGt (cy := cy) X S37_ ((xe131.tr hsh37.x).A h_o1).1 ((xe131.tr hsh37.x).A h_o1).2.1
              simp only [kE, ((xe131.tr hsh37.x).F h_o1 (by decide) F4.1)] at hk140
              refine va_get (D := D) (ci := 16) (v := .ref (S.f o1 11)) (C := RX12) (T := TX12) (N := 34) hx hb hts (by decide +kernel) hown hK hP k140 hk140 rfl 11 (by decide) (hts (.fieldLink RX12 60 "HobhouseModel" "bestFirst" "[I") (by decide +kernel)) (fun _ h9 => h9) rfl dX12_matches_47 ?_
              refine lv_iload hx hb dX12_matches_50 (lv_at hl 0 rfl) ?_
              refine lv_aload_n hx hb dX12_matches_52 rfl (lv_at hl 1 rfl) ?_
              obtain ⟨k141, gk141, hk141⟩ := wGt (cy := cy) X S37_ ((xe131.tr hsh37.x).A h_o1).1 ((xe131.tr hsh37.x).A h_o1).2.1
              simp only [kE, ((xe131.tr hsh37.x).F h_o1 (by decide) F2.1)] at hk141
              refine va_get (D := D) (ci := 16) (v := .ref (S.f o1 9)) (C := RX12) (T := TX12) (N := 34) hx hb hts (by decide +kernel) hown hK hP k141 hk141 rfl 9 (by decide) (hts (.fieldLink RX12 54 "HobhouseModel" "pairFirst" "[I") (by decide +kernel)) (fun _ h9 => h9) rfl dX12_matches_53 ?_
              refine lv_iload hx hb dX12_matches_56 (lv_at hl 0 rfl) ?_
              obtain ⟨k142, gk142, hk142⟩ := wGt (cy := cy) X S37_ ((xe131.tr hsh37.x).A F2.2.1).1 ((xe131.tr hsh37.x).A F2.2.1).2.1
              refine va_iald hx hb hK hP k142 2 hk142 rfl (inb (m := 4) (((xe131.tr hsh37.x).n F2.2.1).trans F2.2.2) (by omega) (by omega)) dX12_matches_58 ?_
              obtain ⟨k143, gk143, hk143⟩ := wGt (cy := cy) X S37_ ((xe131.tr hsh37.x).A F4.2.1).1 ((xe131.tr hsh37.x).A F4.2.1).2.1
              refine va_iast hx hb hK hP hD hS k143 2 hk143 rfl (inb (m := 4) (((xe131.tr hsh37.x).n F4.2.1).trans F4.2.2) (by omega) (by omega)) dX12_matches_59 (fun H locs hP2 hD2 hS => ?_)
              have e9 := wPui (cy := cy) (f := (upd (S37_.i (S.f o1 11)) w37_6.toNatClampNeg (S37_.i (S.f o1 9) w37_6.toNatClampNeg))) hD ((xe131.tr hsh37.x).A F4.2.1).1 ((xe131.tr hsh37.x).A F4.2.1).2.1 gk143 rfl
              obtain ⟨S144, hS144⟩ : ∃ z, S37_.si (S.f o1 11) (upd (S37_.i (S.f o1 11)) w37_6.toNatClampNeg (S37_.i (S.f o1 9) w37_6.toNatClampNeg)) = z := ⟨_, rfl⟩
              have v145 : IV S144 o1 := by rw [← hS144]; exact IV.set hi37.2 (f_of ((xe131.tr hsh37.x).F h_o1 (by decide) F1.1)) (iv_at hi37.2 (j := 9) (by decide) (by decide) (f_of ((xe131.tr hsh37.x).F h_o1 (by decide) F2.1)) (f_of ((xe131.tr hsh37.x).F h_o1 (by decide) F1.1)) w37_6.toNatClampNeg)
              have hP : va_P D vwCl (X ++ PL cy S144) H := by rw [← hS144, ← e9]; exact hP2
              have hD : va_D A (X ++ PL cy S144) := by rw [← hS144, ← e9]; exact hD2
              have xe146 : ext S37_ S144 := by rw [← hS144]; exact ext.si _ _ _
              have t147 : stp [(12, 28), (23, 100)] [] [] S128 S144 := by rw [← hS144]; exact hsh37.i (upd (S37_.i (S.f o1 11)) w37_6.toNatClampNeg (S37_.i (S.f o1 9) w37_6.toNatClampNeg)) ((xe131.tr hsh37.x).A F4.2.1) (by decide)
              have k148 : (S144.I (S.f o1 0) 2).toInt = (S37_.I (S.f o1 0) 2).toInt := by rw [← hS144]; rfl
              have k149 : (S144.I o1 24).toInt = (S37_.I o1 24).toInt := by rw [← hS144]; rfl
              have k150 : (S144.I o1 25).toInt = (S37_.I o1 25).toInt := by rw [← hS144]; rfl
              have k151 : (S144.I o1 26).toInt = (S37_.I o1 26).toInt := by rw [← hS144]; rfl
              refine lv_aload_n hx hb dX12_matches_60 rfl (lv_at hl 1 rfl) ?_
              obtain ⟨k152, gk152, hk152⟩ := wGt (cy := cy) X S144 (xe146.A ((xe131.tr hsh37.x).A h_o1)).1 (xe146.A ((xe131.tr hsh37.x).A h_o1)).2.1
              simp only [kE, ((xe131.tr (hsh37.x.tr xe146)).F h_o1 (by decide) F5.1)] at hk152
              refine va_get (D := D) (ci := 16) (v := .ref (S.f o1 12)) (C := RX12) (T := TX12) (N := 34) hx hb hts (by decide +kernel) hown hK hP k152 hk152 rfl 12 (by decide) (hts (.fieldLink RX12 63 "HobhouseModel" "bestSecond" "[I") (by decide +kernel)) (fun _ h9 => h9) rfl dX12_matches_61 ?_
              refine lv_iload hx hb dX12_matches_64 (lv_at hl 0 rfl) ?_
              refine lv_aload_n hx hb dX12_matches_66 rfl (lv_at hl 1 rfl) ?_
              obtain ⟨k153, gk153, hk153⟩ := wGt (cy := cy) X S144 (xe146.A ((xe131.tr hsh37.x).A h_o1)).1 (xe146.A ((xe131.tr hsh37.x).A h_o1)).2.1
              simp only [kE, ((xe131.tr (hsh37.x.tr xe146)).F h_o1 (by decide) F3.1)] at hk153
              refine va_get (D := D) (ci := 16) (v := .ref (S.f o1 10)) (C := RX12) (T := TX12) (N := 34) hx hb hts (by decide +kernel) hown hK hP k153 hk153 rfl 10 (by decide) (hts (.fieldLink RX12 57 "HobhouseModel" "pairSecond" "[I") (by decide +kernel)) (fun _ h9 => h9) rfl dX12_matches_67 ?_
              refine lv_iload hx hb dX12_matches_70 (lv_at hl 0 rfl) ?_
              obtain ⟨k154, gk154, hk154⟩ := wGt (cy := cy) X S144 ((xe131.tr (hsh37.x.tr xe146)).A F3.2.1).1 ((xe131.tr (hsh37.x.tr xe146)).A F3.2.1).2.1
              refine va_iald hx hb hK hP k154 2 hk154 rfl (inb (m := 4) (((xe131.tr (hsh37.x.tr xe146)).n F3.2.1).trans F3.2.2) (by omega) (by omega)) dX12_matches_72 ?_
              obtain ⟨k155, gk155, hk155⟩ := wGt (cy := cy) X S144 ((xe131.tr (hsh37.x.tr xe146)).A F5.2.1).1 ((xe131.tr (hsh37.x.tr xe146)).A F5.2.1).2.1
              refine va_iast hx hb hK hP hD hS k155 2 hk155 rfl (inb (m := 4) (((xe131.tr (hsh37.x.tr xe146)).n F5.2.1).trans F5.2.2) (by omega) (by omega)) dX12_matches_73 (fun H locs hP2 hD2 hS => ?_)
              have e9 := wPui (cy := cy) (f := (upd (S144.i (S.f o1 12)) w37_6.toNatClampNeg (S144.i (S.f o1 10) w37_6.toNatClampNeg))) hD ((xe131.tr (hsh37.x.tr xe146)).A F5.2.1).1 ((xe131.tr (hsh37.x.tr xe146)).A F5.2.1).2.1 gk155 rfl
              obtain ⟨S156, hS156⟩ : ∃ z, S144.si (S.f o1 12) (upd (S144.i (S.f o1 12)) w37_6.toNatClampNeg (S144.i (S.f o1 10) w37_6.toNatClampNeg)) = z := ⟨_, rfl⟩
              have v157 : IV S156 o1 := by rw [← hS156]; exact IV.set v145 (f_of ((xe131.tr (hsh37.x.tr xe146)).F h_o1 (by decide) F1.1)) (iv_at v145 (j := 10) (by decide) (by decide) (f_of ((xe131.tr (hsh37.x.tr xe146)).F h_o1 (by decide) F3.1)) (f_of ((xe131.tr (hsh37.x.tr xe146)).F h_o1 (by decide) F1.1)) w37_6.toNatClampNeg)
              have hP : va_P D vwCl (X ++ PL cy S156) H := by rw [← hS156, ← e9]; exact hP2
              have hD : va_D A (X ++ PL cy S156) := by rw [← hS156, ← e9]; exact hD2
              have xe158 : ext S144 S156 := by rw [← hS156]; exact ext.si _ _ _
              have t159 : stp [(12, 28), (23, 100)] [] [] S128 S156 := by rw [← hS156]; exact t147.i (upd (S144.i (S.f o1 12)) w37_6.toNatClampNeg (S144.i (S.f o1 10) w37_6.toNatClampNeg)) ((xe131.tr (hsh37.x.tr xe146)).A F5.2.1) (by decide)
              have k160 : (S156.I (S.f o1 0) 2).toInt = (S144.I (S.f o1 0) 2).toInt := by rw [← hS156]; rfl
              have k161 : (S156.I o1 24).toInt = (S144.I o1 24).toInt := by rw [← hS156]; rfl
              have k162 : (S156.I o1 25).toInt = (S144.I o1 25).toInt := by rw [← hS156]; rfl
              have k163 : (S156.I o1 26).toInt = (S144.I o1 26).toInt := by rw [← hS156]; rfl
              refine lv_iinc (v := w37_6 + (1 : Int32)) (lv' := [(6, .int (w37_6 + (1 : Int32))), (0, .ref o1), (1, .int x1), (2, .int x2), (3, .int x3), (4, .long x4)]) hx hb dX12_matches_74 hl (k := 0) rfl (by rfl) (by decide) rfl (fun ls hl => ?_)
              refine lv_goto (tgt := 37) hx hb dX12_matches_77 (by decide) ?_
              have l32_1 : (1 : Int32).toInt = 1 := rfl
              have i164 : (w37_6 + (1 : Int32)).toInt = w37_6.toInt + 1 := t_addr (n := 1) rfl (by omega)
              exact ih37 S156 (w37_6 + (1 : Int32)) _ _ _ (Nat.lt_of_lt_of_le (by omega) (Nat.le_of_lt_succ hm37)) (⟨by omega, v157⟩) t159 hP hD hS (lv_sub hl [0, 1, 2, 3, 4, 5] rfl) ko37
        refine loop37 6 S128 (0 : Int32) _ _ _ (by omega) (⟨by omega, v129⟩) (stp.rf t132.w) hP hD hS (lv_sub hl [0, 1, 2, 3, 4, 5] rfl) (fun S166 z167 H locs ls hi37 hsh37 hP hD hS hl => ?_)
        have t168 : stp [(12, 28), (23, 100)] [] [] S S166 := t132.tr hsh37 (fun _ q => q) (fun _ q => Or.inl q)
        have et168 := hsh37.x
        have hi37b := hi37.1
        refine W.widen (k := 0) (n := 0) (Nat.le_of_ble_eq_true rfl) (Nat.le_of_ble_eq_true rfl) ?_
        exact W.vret hx hb hr (fun t ht hW9 => ⟨⟨S166, rfl, ⟨t168, (hi37.2)⟩, wd_end hP hK hD ht hW9.alike⟩, hS.F ht⟩) hS.2.2 dX12_matches_80 hlocks
      · have c126i := lc_nlt c126
        refine W.widen (k := 0) (n := 0) (Nat.le_of_ble_eq_true rfl) (Nat.le_of_ble_eq_true rfl) ?_
        exact W.vret hx hb hr (fun t ht hW9 => ⟨⟨S, rfl, ⟨t0, (hv)⟩, wd_end hP hK hD ht hW9.alike⟩, hS.F ht⟩) hS.2.2 dX12_matches_27 hlocks
set_option maxHeartbeats 4000000 in
set_option maxRecDepth 100000 in
theorem c_X12_matches_0 (l : Launch) {D : va_G} {cy : Nat → ClassId} {X : va_W} (S : wPS) (sz : Nat) (o1 : Nat) (h_o1 : isA S o1 12) (x1 : Int32) (x2 : Int32) (x3 : Int32) (x4 : Int64) (hW : wtB S []) (hv : IV S o1) (hd : x3.toInt = 0 ∧ 0 ≤ (S.I o1 26).toInt) (hf : 0 ≤ x1.toInt ∧ x1.toInt ≤ 6) (hs : ((S.I o1 24).toInt = 0 ∨ 1 ≤ (S.I (S.f o1 0) 2).toInt) ∧ 1 ≤ (S.I o1 26).toInt ∧ ((S.J o1 28).toInt < 0 ∨ 1 ≤ (S.I (S.f o1 0) 2).toInt)) : Met l yX12_matches wsX12_matches ({ frames := 8, cells := 0, slots := 0, locals := 190 }) (va_Pc [.ref o1, .int x1, .int x2, .int x3, .long x4] (fun U => U.heap.size = sz ∧ WD D cy X (fun _ => True) S U ∧ NW U)) (va_Qv (fun (u : wPS) => stp [(12, 28), (23, 100)] [] [] S u ∧ IV u o1 ∧ ((u.J o1 28).toInt < 0 ∨ 1 ≤ (S.I (S.f o1 0) 2).toInt)) (fun u t => WD D cy X (va_A (X ++ PL cy S) sz) u t) (va_A (X ++ PL cy S) sz)) 0 0 (va_A (X ++ PL cy S) sz) := by
  refine Met.ofW (cc := cX12_matches) (maxL := 8) (ret := none) (by decide) rfl ?_
  intro p e s m args below meth c s₁ B hml hv
  obtain ⟨rfl, hsz, ⟨hP, hK, hD0⟩, hN⟩ := hv
  have hx := B.exec
  have hb := B.bytes
  have hr := B.returns
  have hts := atoms_spec (ws := wsX12_matches) B.pre
  have hown : s.vm.findClass RX12 = some m.cls := findClass_of_methodNamed (x := yX12_matches) B.named
  have hlocks := B.notSynchronized
  subst hsz
  have hD := hD0.self (sz := s.heap.size)
  generalize hAe : va_A (X ++ PL cy S) s.heap.size = A at hD ⊢
  have hA : ∀ q : Nat, s.heap.size ≤ q → A q := fun q h => by rw [← hAe]; exact Or.inr h
  have hS : va_S A s.heap s.heap [] := va_S.rf
  have hl := lv_entry ([.ref o1, .int x1, .int x2, .int x3, .long x4]) (n := 8) (Nat.le_of_ble_eq_true rfl)
  rw [lg_entry_eq]
  generalize (lg_sl ([.ref o1, .int x1, .int x2, .int x3, .long x4]) ++ List.replicate (8 - (lg_sl ([.ref o1, .int x1, .int x2, .int x3, .long x4])).length) Slot.unset).toArray = ls at hl ⊢
  have hl : lv_has ls 8 [(0, .ref o1), (1, .int x1), (2, .int x2), (3, .int x3), (4, .long x4)] := hl
  have t0 : stp [(12, 28), (23, 100)] [] [] S S := stp.rf hW
  have F1 := ((hW.at h_o1 List.not_mem_nil).to_12 h_o1.2.1).F0
  have F2 := ((hW.at h_o1 List.not_mem_nil).to_12 h_o1.2.1).F9
  have F3 := ((hW.at h_o1 List.not_mem_nil).to_12 h_o1.2.1).F10
  have F4 := ((hW.at h_o1 List.not_mem_nil).to_12 h_o1.2.1).F11
  have F5 := ((hW.at h_o1 List.not_mem_nil).to_12 h_o1.2.1).F12
  have F6 := ((hW.at h_o1 List.not_mem_nil).to_12 h_o1.2.1).F13
  have F7 := ((hW.at h_o1 List.not_mem_nil).to_12 h_o1.2.1).F14
  refine lv_iload_n hx hb dX12_matches_0 rfl (lv_at hl 3 rfl) ?_
  refine lv_aload_n hx hb dX12_matches_1 rfl (lv_at hl 0 rfl) ?_
  obtain ⟨k8, gk8, hk8⟩ := wGt (cy := cy) X S h_o1.1 h_o1.2.1
  have i9 := ((hW.at h_o1 List.not_mem_nil).to_12 h_o1.2.1).R26
  refine va_get (D := D) (ci := 16) (v := .int (S.I o1 26)) (C := RX12) (T := TX12) (N := 34) hx hb hts (by decide +kernel) hown hK hP k8 hk8 rfl 26 (by decide) (hts (.fieldLink RX12 461 "HobhouseModel" "wanted" "I") (by decide +kernel)) (fun _ h9 => h9) rfl dX12_matches_2 ?_
  refine lv_icmp_ne (tgt := 81) hx hb dX12_matches_5 (by decide) (fun c10 => ?_) (fun c10 => ?_)
  · have c10i : ¬ x3.toInt = (S.I o1 26).toInt := neq_v rfl rfl c10
    refine lv_iload_n hx hb dX12_matches_81 rfl (lv_at hl 1 rfl) ?_
    refine lv_istore (lv' := [(6, .int x1), (0, .ref o1), (1, .int x1), (2, .int x2), (3, .int x3), (4, .long x4)]) hx hb dX12_matches_82 hl (by decide) rfl (fun ls hl => ?_)
    have loop84 : ∀ (n : Nat) (S84_ : wPS) (w84_6 : Int32) (H : Heap) (locs : List Loc) (ls : Array Slot), (7 - w84_6.toInt).toNat < n → (0 ≤ w84_6.toInt ∧ w84_6.toInt ≤ 6 ∧ (S84_.I o1 24).toInt = (S.I o1 24).toInt ∧ (S84_.I o1 25).toInt = (S.I o1 25).toInt ∧ (S84_.I o1 26).toInt = (S.I o1 26).toInt ∧ (S84_.I (S.f o1 0) 2).toInt = (S.I (S.f o1 0) 2).toInt ∧ ((S84_.J o1 28).toInt < 0 ∨ 1 ≤ (S.I (S.f o1 0) 2).toInt)) ∧ IV S84_ o1 → stp [(12, 28), (23, 100)] [] [] S S84_ → va_P D vwCl (X ++ PL cy S84_) H → va_D A (X ++ PL cy S84_) → va_S A s.heap H locs → lv_has ls 8 [(6, .int w84_6), (0, .ref o1), (1, .int x1), (2, .int x2), (3, .int x3), (4, .long x4)] → (∀ (S84_x : wPS) (w84_6x : Int32) (H : Heap) (locs : List Loc) (ls : Array Slot), (0 ≤ w84_6x.toInt ∧ w84_6x.toInt ≤ 6 ∧ (S84_x.I o1 24).toInt = (S.I o1 24).toInt ∧ (S84_x.I o1 25).toInt = (S.I o1 25).toInt ∧ (S84_x.I o1 26).toInt = (S.I o1 26).toInt ∧ (S84_x.I (S.f o1 0) 2).toInt = (S.I (S.f o1 0) 2).toInt ∧ ((S84_x.J o1 28).toInt < 0 ∨ 1 ≤ (S.I (S.f o1 0) 2).toInt)) ∧ IV S84_x o1 → stp [(12, 28), (23, 100)] [] [] S S84_x → va_P D vwCl (X ++ PL cy S84_x) H → va_D A (X ++ PL cy S84_x) → va_S A s.heap H locs → lv_has ls 8 [(6, .int w84_6x), (0, .ref o1), (1, .int x1), (2, .int x2), (3, .int x3), (4, .long x4)] → W p l e (headSpec wsX12_matches ({ frames := 8, cells := 0, slots := 0, locals := 190 } : Room)).room s m [.ref o1, .int x1, .int x2, .int x3, .long x4].toArray below meth c H locs 0 0 (MQ below (va_Qv (fun (u : wPS) => stp [(12, 28), (23, 100)] [] [] S u ∧ IV u o1 ∧ ((u.J o1 28).toInt < 0 ∨ 1 ≤ (S.I (S.f o1 0) 2).toInt)) (fun u t => WD D cy X A u t) A) [.ref o1, .int x1, .int x2, .int x3, .long x4].toArray s 0 0 A) (F0 m 210 ls [])) → W p l e (headSpec wsX12_matches ({ frames := 8, cells := 0, slots := 0, locals := 190 } : Room)).room s m [.ref o1, .int x1, .int x2, .int x3, .long x4].toArray below meth c H locs 0 0 (MQ below (va_Qv (fun (u : wPS) => stp [(12, 28), (23, 100)] [] [] S u ∧ IV u o1 ∧ ((u.J o1 28).toInt < 0 ∨ 1 ≤ (S.I (S.f o1 0) 2).toInt)) (fun u t => WD D cy X A u t) A) [.ref o1, .int x1, .int x2, .int x3, .long x4].toArray s 0 0 A) (F0 m 84 ls []) := by
      intro n84
      induction n84 with
      | zero => intro S84_ w84_6 H locs ls hm; exact absurd hm (Nat.not_lt_zero _)
      | succ n84 ih84 =>
        intro S84_ w84_6 H locs ls hm84 hi84 hsh84 hP hD hS hl ko84
        have hi84a := hi84.1
        refine lv_iload hx hb dX12_matches_84 (lv_at hl 0 rfl) ?_
        refine lv_aload_n hx hb dX12_matches_86 rfl (lv_at hl 1 rfl) ?_
        obtain ⟨k11, gk11, hk11⟩ := wGt (cy := cy) X S84_ (hsh84.x.A h_o1).1 (hsh84.x.A h_o1).2.1
        have i12 := ((hsh84.w.at (hsh84.x.A h_o1) List.not_mem_nil).to_12 (hsh84.x.A h_o1).2.1).R24
        refine va_get (D := D) (ci := 16) (v := .int (S84_.I o1 24)) (C := RX12) (T := TX12) (N := 34) hx hb hts (by decide +kernel) hown hK hP k11 hk11 rfl 24 (by decide) (hts (.fieldLink RX12 467 "HobhouseModel" "manyFirst" "I") (by decide +kernel)) (fun _ h9 => h9) rfl dX12_matches_87 ?_
        refine lv_icmp_ge (tgt := 210) hx hb dX12_matches_90 (by decide) (fun c13 => ?_) (fun c13 => ?_)
        · have c13i : (S84_.I o1 24).toInt ≤ w84_6.toInt := le_v rfl rfl c13
          exact ko84 S84_ w84_6 _ _ _ (⟨by omega, hi84.2⟩) hsh84 hP hD hS (lv_sub hl [0, 1, 2, 3, 4, 5] rfl)
        · have c13i : w84_6.toInt < (S84_.I o1 24).toInt := nle_v rfl rfl c13
          refine lv_iconst (v := 0) hx hb dX12_matches_93 (by decide) ?_
          refine lv_istore (lv' := [(7, .int (0 : Int32)), (6, .int w84_6), (0, .ref o1), (1, .int x1), (2, .int x2), (3, .int x3), (4, .long x4)]) hx hb dX12_matches_94 hl (by decide) rfl (fun ls hl => ?_)
          have l32_0 : (0 : Int32).toInt = 0 := rfl
          have loop96 : ∀ (n : Nat) (S96_ : wPS) (w96_7 : Int32) (H : Heap) (locs : List Loc) (ls : Array Slot), (6 - w96_7.toInt).toNat < n → (0 ≤ w96_7.toInt ∧ w96_7.toInt ≤ 5 ∧ (S96_.I o1 24).toInt = (S.I o1 24).toInt ∧ (S96_.I o1 25).toInt = (S.I o1 25).toInt ∧ (S96_.I o1 26).toInt = (S.I o1 26).toInt ∧ (S96_.I (S.f o1 0) 2).toInt = (S.I (S.f o1 0) 2).toInt ∧ ((S96_.J o1 28).toInt < 0 ∨ 1 ≤ (S.I (S.f o1 0) 2).toInt)) ∧ IV S96_ o1 → stp [(12, 28), (23, 100)] [] [] S84_ S96_ → va_P D vwCl (X ++ PL cy S96_) H → va_D A (X ++ PL cy S96_) → va_S A s.heap H locs → lv_has ls 8 [(7, .int w96_7), (6, .int w84_6), (0, .ref o1), (1, .int x1), (2, .int x2), (3, .int x3), (4, .long x4)] → (∀ (S96_x : wPS) (w96_7x : Int32) (H : Heap) (locs : List Loc) (ls : Array Slot), (0 ≤ w96_7x.toInt ∧ w96_7x.toInt ≤ 5 ∧ (S96_x.I o1 24).toInt = (S.I o1 24).toInt ∧ (S96_x.I o1 25).toInt = (S.I o1 25).toInt ∧ (S96_x.I o1 26).toInt = (S.I o1 26).toInt ∧ (S96_x.I (S.f o1 0) 2).toInt = (S.I (S.f o1 0) 2).toInt ∧ ((S96_x.J o1 28).toInt < 0 ∨ 1 ≤ (S.I (S.f o1 0) 2).toInt)) ∧ IV S96_x o1 → stp [(12, 28), (23, 100)] [] [] S84_ S96_x → va_P D vwCl (X ++ PL cy S96_x) H → va_D A (X ++ PL cy S96_x) → va_S A s.heap H locs → lv_has ls 8 [(7, .int w96_7x), (6, .int w84_6), (0, .ref o1), (1, .int x1), (2, .int x2), (3, .int x3), (4, .long x4)] → W p l e (headSpec wsX12_matches ({ frames := 8, cells := 0, slots := 0, locals := 190 } : Room)).room s m [.ref o1, .int x1, .int x2, .int x3, .long x4].toArray below meth c H locs 0 0 (MQ below (va_Qv (fun (u : wPS) => stp [(12, 28), (23, 100)] [] [] S u ∧ IV u o1 ∧ ((u.J o1 28).toInt < 0 ∨ 1 ≤ (S.I (S.f o1 0) 2).toInt)) (fun u t => WD D cy X A u t) A) [.ref o1, .int x1, .int x2, .int x3, .long x4].toArray s 0 0 A) (F0 m 204 ls [])) → W p l e (headSpec wsX12_matches ({ frames := 8, cells := 0, slots := 0, locals := 190 } : Room)).room s m [.ref o1, .int x1, .int x2, .int x3, .long x4].toArray below meth c H locs 0 0 (MQ below (va_Qv (fun (u : wPS) => stp [(12, 28), (23, 100)] [] [] S u ∧ IV u o1 ∧ ((u.J o1 28).toInt < 0 ∨ 1 ≤ (S.I (S.f o1 0) 2).toInt)) (fun u t => WD D cy X A u t) A) [.ref o1, .int x1, .int x2, .int x3, .long x4].toArray s 0 0 A) (F0 m 96 ls []) := by
            intro n96
            induction n96 with
            | zero => intro S96_ w96_7 H locs ls hm; exact absurd hm (Nat.not_lt_zero _)
            | succ n96 ih96 =>
              intro S96_ w96_7 H locs ls hm96 hi96 hsh96 hP hD hS hl ko96
              have hi96a := hi96.1
              refine lv_iload hx hb dX12_matches_96 (lv_at hl 0 rfl) ?_
              refine lv_aload_n hx hb dX12_matches_98 rfl (lv_at hl 2 rfl) ?_
              obtain ⟨k14, gk14, hk14⟩ := wGt (cy := cy) X S96_ (hsh96.x.A (hsh84.x.A h_o1)).1 (hsh96.x.A (hsh84.x.A h_o1)).2.1
              have i15 := ((hsh96.w.at (hsh96.x.A (hsh84.x.A h_o1)) List.not_mem_nil).to_12 (hsh96.x.A (hsh84.x.A h_o1)).2.1).R25
              refine va_get (D := D) (ci := 16) (v := .int (S96_.I o1 25)) (C := RX12) (T := TX12) (N := 34) hx hb hts (by decide +kernel) hown hK hP k14 hk14 rfl 25 (by decide) (hts (.fieldLink RX12 470 "HobhouseModel" "manySecond" "I") (by decide +kernel)) (fun _ h9 => h9) rfl dX12_matches_99 ?_
              refine lv_icmp_ge (tgt := 204) hx hb dX12_matches_102 (by decide) (fun c16 => ?_) (fun c16 => ?_)
              · have c16i : (S96_.I o1 25).toInt ≤ w96_7.toInt := le_v rfl rfl c16
                exact ko96 S96_ w96_7 _ _ _ (⟨by omega, hi96.2⟩) hsh96 hP hD hS (lv_sub hl [0, 1, 2, 3, 4, 5, 6] rfl)
              · have c16i : w96_7.toInt < (S96_.I o1 25).toInt := nle_v rfl rfl c16
                refine lv_iload_n hx hb dX12_matches_105 rfl (lv_at hl 4 rfl) ?_
                refine lv_iload hx hb dX12_matches_106 (lv_at hl 0 rfl) ?_
                refine lv_ishr hx hb dX12_matches_108 ?_
                refine lv_iconst (v := 1) hx hb dX12_matches_109 (by decide) ?_
                refine lv_iand hx hb dX12_matches_110 ?_
                refine lv_iconst (v := 1) hx hb dX12_matches_111 (by decide) ?_
                refine lv_icmp_eq (tgt := 198) hx hb dX12_matches_112 (by decide) (fun c17 => ?_) (fun c17 => ?_)
                · have c17i : ((x2 >>> (w96_7 &&& 31)) &&& (1 : Int32)).toInt = 1 := eq_v rfl rfl c17
                  refine lv_iinc (v := w96_7 + (1 : Int32)) (lv' := [(7, .int (w96_7 + (1 : Int32))), (6, .int w84_6), (0, .ref o1), (1, .int x1), (2, .int x2), (3, .int x3), (4, .long x4)]) hx hb dX12_matches_198 hl (k := 0) rfl (by rfl) (by decide) rfl (fun ls hl => ?_)
                  refine lv_goto (tgt := 96) hx hb dX12_matches_201 (by decide) ?_
                  have l32_1 : (1 : Int32).toInt = 1 := rfl
                  have i18 : (w96_7 + (1 : Int32)).toInt = w96_7.toInt + 1 := t_addr (n := 1) rfl (by omega)
                  exact ih96 S96_ (w96_7 + (1 : Int32)) _ _ _ (Nat.lt_of_lt_of_le (by omega) (Nat.le_of_lt_succ hm96)) (⟨by omega, hi96.2⟩) hsh96 hP hD hS (lv_sub hl [0, 1, 2, 3, 4, 5, 6] rfl) ko96
                · have c17i : ¬ ((x2 >>> (w96_7 &&& 31)) &&& (1 : Int32)).toInt = 1 := neq_v rfl rfl c17
                  refine lv_aload_n hx hb dX12_matches_115 rfl (lv_at hl 2 rfl) ?_
                  refine lv_aload_n hx hb dX12_matches_116 rfl (lv_at hl 2 rfl) ?_
                  obtain ⟨k19, gk19, hk19⟩ := wGt (cy := cy) X S96_ (hsh96.x.A (hsh84.x.A h_o1)).1 (hsh96.x.A (hsh84.x.A h_o1)).2.1
                  simp only [kE, ((hsh84.x.tr hsh96.x).F h_o1 (by decide) F6.1)] at hk19
                  refine va_get (D := D) (ci := 16) (v := .ref (S.f o1 13)) (C := RX12) (T := TX12) (N := 34) hx hb hts (by decide +kernel) hown hK hP k19 hk19 rfl 13 (by decide) (hts (.fieldLink RX12 66 "HobhouseModel" "firsts" "[I") (by decide +kernel)) (fun _ h9 => h9) rfl dX12_matches_117 ?_
                  refine lv_iload hx hb dX12_matches_120 (lv_at hl 1 rfl) ?_
                  obtain ⟨k20, gk20, hk20⟩ := wGt (cy := cy) X S96_ ((hsh84.x.tr hsh96.x).A F6.2.1).1 ((hsh84.x.tr hsh96.x).A F6.2.1).2.1
                  refine va_iald hx hb hK hP k20 2 hk20 rfl (inb (m := 5) (((hsh84.x.tr hsh96.x).n F6.2.1).trans F6.2.2) (by omega) (by omega)) dX12_matches_122 ?_
                  refine lv_aload_n hx hb dX12_matches_123 rfl (lv_at hl 2 rfl) ?_
                  obtain ⟨k21, gk21, hk21⟩ := wGt (cy := cy) X S96_ (hsh96.x.A (hsh84.x.A h_o1)).1 (hsh96.x.A (hsh84.x.A h_o1)).2.1
                  simp only [kE, ((hsh84.x.tr hsh96.x).F h_o1 (by decide) F7.1)] at hk21
                  refine va_get (D := D) (ci := 16) (v := .ref (S.f o1 14)) (C := RX12) (T := TX12) (N := 34) hx hb hts (by decide +kernel) hown hK hP k21 hk21 rfl 14 (by decide) (hts (.fieldLink RX12 69 "HobhouseModel" "seconds" "[I") (by decide +kernel)) (fun _ h9 => h9) rfl dX12_matches_124 ?_
                  refine lv_iload hx hb dX12_matches_127 (lv_at hl 0 rfl) ?_
                  obtain ⟨k22, gk22, hk22⟩ := wGt (cy := cy) X S96_ ((hsh84.x.tr hsh96.x).A F7.2.1).1 ((hsh84.x.tr hsh96.x).A F7.2.1).2.1
                  refine va_iald hx hb hK hP k22 2 hk22 rfl (inb (m := 5) (((hsh84.x.tr hsh96.x).n F7.2.1).trans F7.2.2) (by omega) (by omega)) dX12_matches_129 ?_
                  have v9a := iv_at hi96.2 (j := 13) (by decide) (by decide) (f_of ((hsh84.x.tr hsh96.x).F h_o1 (by decide) F6.1)) (f_of ((hsh84.x.tr hsh96.x).F h_o1 (by decide) F1.1)) w84_6.toNatClampNeg
                  have v9b := iv_at hi96.2 (j := 14) (by decide) (by decide) (f_of ((hsh84.x.tr hsh96.x).F h_o1 (by decide) F7.1)) (f_of ((hsh84.x.tr hsh96.x).F h_o1 (by decide) F1.1)) w96_7.toNatClampNeg
                  have hFc := free_all hD hS hA
                  obtain ⟨k23, gk23, hk23⟩ := wGt (cy := cy) X S96_ (hsh96.x.A (hsh84.x.A h_o1)).1 (hsh96.x.A (hsh84.x.A h_o1)).2.1
                  refine va_calli (va_runV (As := [.int (S96_.i (S.f o1 13) w84_6.toNatClampNeg), .int (S96_.i (S.f o1 14) w96_7.toNatClampNeg)]) (rest := []) ⟨hx, hb, hml, hown, hts⟩ (c_X12_isPair l (cy := cy) (X := X) (D := D) S96_ _ o1 (hsh96.x.A (hsh84.x.A h_o1)) (S96_.i (S.f o1 13) w84_6.toNatClampNeg) (S96_.i (S.f o1 14) w96_7.toNatClampNeg) (hsh96.w) (by rw [f_of ((hsh84.x.tr hsh96.x).F h_o1 (by decide) F1.1)]; omega) (by rw [f_of ((hsh84.x.tr hsh96.x).F h_o1 (by decide) F1.1)]; omega)) (cwV 2 hts gX12_matches_X12_isPair rfl rfl rfl hd_X12_isPair ⟨Nat.le_of_ble_eq_true rfl, Nat.le_of_ble_eq_true rfl⟩) ⟨fun a U g mk q => ⟨q.1, q.2.1, q.2.2.1.calling, NW.same (u := U) (U := U.calling g mk a) rfl q.2.2.2⟩, va_recv hK hP (q := (RX12, TX12, 34)) (ci := 16) (q0 := k23) rfl hk23, fun U hU hW => ⟨rfl, by rw [hU], wd_pre hP hK hD hU hW, hN.warm hW⟩⟩ rfl rfl hl.1 rfl (lv_room (Nat.le_of_ble_eq_true rfl)) dX12_matches_130 ⟨(Nat.zero_le _), (Nat.zero_le _)⟩) hS (fun q _ h => hFc q h) hFc (fun r24 u t H1 locs ht hvm hw hB hz1 hk1 hS => ?_)
                  have y25 := hw
                  obtain ⟨hP, hD⟩ := wd_post hFc ht hB
                  generalize H1 = H at hP hS ⊢
                  refine lv_if_ne (tgt := 139) hx hb dX12_matches_133 (by decide) (fun c26 => ?_) (fun c26 => ?_)
                  · have c26i : ¬ r24.toInt = 0 := neq_v rfl rfl c26
                    refine lv_aload_n hx hb dX12_matches_139 rfl (lv_at hl 2 rfl) ?_
                    obtain ⟨k27, gk27, hk27⟩ := wGt (cy := cy) X S96_ (hsh96.x.A (hsh84.x.A h_o1)).1 (hsh96.x.A (hsh84.x.A h_o1)).2.1
                    simp only [kE, ((hsh84.x.tr hsh96.x).F h_o1 (by decide) F2.1)] at hk27
                    refine va_get (D := D) (ci := 16) (v := .ref (S.f o1 9)) (C := RX12) (T := TX12) (N := 34) hx hb hts (by decide +kernel) hown hK hP k27 hk27 rfl 9 (by decide) (hts (.fieldLink RX12 54 "HobhouseModel" "pairFirst" "[I") (by decide +kernel)) (fun _ h9 => h9) rfl dX12_matches_140 ?_
                    refine lv_iload_n hx hb dX12_matches_143 rfl (lv_at hl 5 rfl) ?_
                    refine lv_aload_n hx hb dX12_matches_144 rfl (lv_at hl 2 rfl) ?_
                    obtain ⟨k28, gk28, hk28⟩ := wGt (cy := cy) X S96_ (hsh96.x.A (hsh84.x.A h_o1)).1 (hsh96.x.A (hsh84.x.A h_o1)).2.1
                    simp only [kE, ((hsh84.x.tr hsh96.x).F h_o1 (by decide) F6.1)] at hk28
                    refine va_get (D := D) (ci := 16) (v := .ref (S.f o1 13)) (C := RX12) (T := TX12) (N := 34) hx hb hts (by decide +kernel) hown hK hP k28 hk28 rfl 13 (by decide) (hts (.fieldLink RX12 66 "HobhouseModel" "firsts" "[I") (by decide +kernel)) (fun _ h9 => h9) rfl dX12_matches_145 ?_
                    refine lv_iload hx hb dX12_matches_148 (lv_at hl 1 rfl) ?_
                    obtain ⟨k29, gk29, hk29⟩ := wGt (cy := cy) X S96_ ((hsh84.x.tr hsh96.x).A F6.2.1).1 ((hsh84.x.tr hsh96.x).A F6.2.1).2.1
                    refine va_iald hx hb hK hP k29 2 hk29 rfl (inb (m := 5) (((hsh84.x.tr hsh96.x).n F6.2.1).trans F6.2.2) (by omega) (by omega)) dX12_matches_150 ?_
                    obtain ⟨k30, gk30, hk30⟩ := wGt (cy := cy) X S96_ ((hsh84.x.tr hsh96.x).A F2.2.1).1 ((hsh84.x.tr hsh96.x).A F2.2.1).2.1
                    refine va_iast hx hb hK hP hD hS k30 2 hk30 rfl (inb (m := 4) (((hsh84.x.tr hsh96.x).n F2.2.1).trans F2.2.2) (by omega) (by omega)) dX12_matches_151 (fun H locs hP2 hD2 hS => ?_)
                    have e9 := wPui (cy := cy) (f := (upd (S96_.i (S.f o1 9)) x3.toNatClampNeg (S96_.i (S.f o1 13) w84_6.toNatClampNeg))) hD ((hsh84.x.tr hsh96.x).A F2.2.1).1 ((hsh84.x.tr hsh96.x).A F2.2.1).2.1 gk30 rfl
                    obtain ⟨S31, hS31⟩ : ∃ z, S96_.si (S.f o1 9) (upd (S96_.i (S.f o1 9)) x3.toNatClampNeg (S96_.i (S.f o1 13) w84_6.toNatClampNeg)) = z := ⟨_, rfl⟩
                    have v32 : IV S31 o1 := by rw [← hS31]; exact IV.set hi96.2 (f_of ((hsh84.x.tr hsh96.x).F h_o1 (by decide) F1.1)) (iv_at hi96.2 (j := 13) (by decide) (by decide) (f_of ((hsh84.x.tr hsh96.x).F h_o1 (by decide) F6.1)) (f_of ((hsh84.x.tr hsh96.x).F h_o1 (by decide) F1.1)) w84_6.toNatClampNeg)
                    have hP : va_P D vwCl (X ++ PL cy S31) H := by rw [← hS31, ← e9]; exact hP2
                    have hD : va_D A (X ++ PL cy S31) := by rw [← hS31, ← e9]; exact hD2
                    have xe33 : ext S96_ S31 := by rw [← hS31]; exact ext.si _ _ _
                    have t34 : stp [(12, 28), (23, 100)] [] [] S84_ S31 := by rw [← hS31]; exact hsh96.i (upd (S96_.i (S.f o1 9)) x3.toNatClampNeg (S96_.i (S.f o1 13) w84_6.toNatClampNeg)) ((hsh84.x.tr hsh96.x).A F2.2.1) (by decide)
                    have k35 : (S31.I (S.f o1 0) 2).toInt = (S96_.I (S.f o1 0) 2).toInt := by rw [← hS31]; rfl
                    have k36 : (S31.I o1 24).toInt = (S96_.I o1 24).toInt := by rw [← hS31]; rfl
                    have k37 : (S31.I o1 25).toInt = (S96_.I o1 25).toInt := by rw [← hS31]; rfl
                    have k38 : (S31.I o1 26).toInt = (S96_.I o1 26).toInt := by rw [← hS31]; rfl
                    refine lv_aload_n hx hb dX12_matches_152 rfl (lv_at hl 2 rfl) ?_
                    obtain ⟨k39, gk39, hk39⟩ := wGt (cy := cy) X S31 (xe33.A (hsh96.x.A (hsh84.x.A h_o1))).1 (xe33.A (hsh96.x.A (hsh84.x.A h_o1))).2.1
                    simp only [kE, ((hsh84.x.tr (hsh96.x.tr xe33)).F h_o1 (by decide) F3.1)] at hk39
                    refine va_get (D := D) (ci := 16) (v := .ref (S.f o1 10)) (C := RX12) (T := TX12) (N := 34) hx hb hts (by decide +kernel) hown hK hP k39 hk39 rfl 10 (by decide) (hts (.fieldLink RX12 57 "HobhouseModel" "pairSecond" "[I") (by decide +kernel)) (fun _ h9 => h9) rfl dX12_matches_153 ?_
                    refine lv_iload_n hx hb dX12_matches_156 rfl (lv_at hl 5 rfl) ?_
                    refine lv_aload_n hx hb dX12_matches_157 rfl (lv_at hl 2 rfl) ?_
                    obtain ⟨k40, gk40, hk40⟩ := wGt (cy := cy) X S31 (xe33.A (hsh96.x.A (hsh84.x.A h_o1))).1 (xe33.A (hsh96.x.A (hsh84.x.A h_o1))).2.1
                    simp only [kE, ((hsh84.x.tr (hsh96.x.tr xe33)).F h_o1 (by decide) F7.1)] at hk40
                    refine va_get (D := D) (ci := 16) (v := .ref (S.f o1 14)) (C := RX12) (T := TX12) (N := 34) hx hb hts (by decide +kernel) hown hK hP k40 hk40 rfl 14 (by decide) (hts (.fieldLink RX12 69 "HobhouseModel" "seconds" "[I") (by decide +kernel)) (fun _ h9 => h9) rfl dX12_matches_158 ?_
                    refine lv_iload hx hb dX12_matches_161 (lv_at hl 0 rfl) ?_
                    obtain ⟨k41, gk41, hk41⟩ := wGt (cy := cy) X S31 (xe33.A ((hsh84.x.tr hsh96.x).A F7.2.1)).1 (xe33.A ((hsh84.x.tr hsh96.x).A F7.2.1)).2.1
                    refine va_iald hx hb hK hP k41 2 hk41 rfl (inb (m := 5) (((hsh84.x.tr (hsh96.x.tr xe33)).n F7.2.1).trans F7.2.2) (by omega) (by omega)) dX12_matches_163 ?_
                    obtain ⟨k42, gk42, hk42⟩ := wGt (cy := cy) X S31 ((hsh84.x.tr (hsh96.x.tr xe33)).A F3.2.1).1 ((hsh84.x.tr (hsh96.x.tr xe33)).A F3.2.1).2.1
                    refine va_iast hx hb hK hP hD hS k42 2 hk42 rfl (inb (m := 4) (((hsh84.x.tr (hsh96.x.tr xe33)).n F3.2.1).trans F3.2.2) (by omega) (by omega)) dX12_matches_164 (fun H locs hP2 hD2 hS => ?_)
                    have e9 := wPui (cy := cy) (f := (upd (S31.i (S.f o1 10)) x3.toNatClampNeg (S31.i (S.f o1 14) w96_7.toNatClampNeg))) hD ((hsh84.x.tr (hsh96.x.tr xe33)).A F3.2.1).1 ((hsh84.x.tr (hsh96.x.tr xe33)).A F3.2.1).2.1 gk42 rfl
                    obtain ⟨S43, hS43⟩ : ∃ z, S31.si (S.f o1 10) (upd (S31.i (S.f o1 10)) x3.toNatClampNeg (S31.i (S.f o1 14) w96_7.toNatClampNeg)) = z := ⟨_, rfl⟩
                    have v44 : IV S43 o1 := by rw [← hS43]; exact IV.set v32 (f_of ((hsh84.x.tr (hsh96.x.tr xe33)).F h_o1 (by decide) F1.1)) (iv_at v32 (j := 14) (by decide) (by decide) (f_of ((hsh84.x.tr (hsh96.x.tr xe33)).F h_o1 (by decide) F7.1)) (f_of ((hsh84.x.tr (hsh96.x.tr xe33)).F h_o1 (by decide) F1.1)) w96_7.toNatClampNeg)
                    have hP : va_P D vwCl (X ++ PL cy S43) H := by rw [← hS43, ← e9]; exact hP2
                    have hD : va_D A (X ++ PL cy S43) := by rw [← hS43, ← e9]; exact hD2
                    have xe45 : ext S31 S43 := by rw [← hS43]; exact ext.si _ _ _
                    have t46 : stp [(12, 28), (23, 100)] [] [] S84_ S43 := by rw [← hS43]; exact t34.i (upd (S31.i (S.f o1 10)) x3.toNatClampNeg (S31.i (S.f o1 14) w96_7.toNatClampNeg)) ((hsh84.x.tr (hsh96.x.tr xe33)).A F3.2.1) (by decide)
                    have k47 : (S43.I (S.f o1 0) 2).toInt = (S31.I (S.f o1 0) 2).toInt := by rw [← hS43]; rfl
                    have k48 : (S43.I o1 24).toInt = (S31.I o1 24).toInt := by rw [← hS43]; rfl
                    have k49 : (S43.I o1 25).toInt = (S31.I o1 25).toInt := by rw [← hS43]; rfl
                    have k50 : (S43.I o1 26).toInt = (S31.I o1 26).toInt := by rw [← hS43]; rfl
                    refine lv_aload_n hx hb dX12_matches_165 rfl (lv_at hl 2 rfl) ?_
                    refine lv_iload hx hb dX12_matches_166 (lv_at hl 1 rfl) ?_
                    refine lv_iconst (v := 1) hx hb dX12_matches_168 (by decide) ?_
                    refine lv_iadd hx hb dX12_matches_169 ?_
                    refine lv_iload_n hx hb dX12_matches_170 rfl (lv_at hl 4 rfl) ?_
                    refine lv_iconst (v := 1) hx hb dX12_matches_171 (by decide) ?_
                    refine lv_iload hx hb dX12_matches_172 (lv_at hl 0 rfl) ?_
                    refine lv_ishl hx hb dX12_matches_174 ?_
                    refine lv_ior hx hb dX12_matches_175 ?_
                    refine lv_iload_n hx hb dX12_matches_176 rfl (lv_at hl 5 rfl) ?_
                    refine lv_iconst (v := 1) hx hb dX12_matches_177 (by decide) ?_
                    refine lv_iadd hx hb dX12_matches_178 ?_
                    refine lv_lload hx hb dX12_matches_179 (lv_at hl 6 rfl) ?_
                    refine lv_aload_n hx hb dX12_matches_181 rfl (lv_at hl 2 rfl) ?_
                    have F51 := ((hW.at h_o1 List.not_mem_nil).to_12 h_o1.2.1).F33
                    obtain ⟨k52, gk52, hk52⟩ := wGt (cy := cy) X S43 (xe45.A (xe33.A (hsh96.x.A (hsh84.x.A h_o1)))).1 (xe45.A (xe33.A (hsh96.x.A (hsh84.x.A h_o1)))).2.1
                    simp only [kE, ((hsh84.x.tr (hsh96.x.tr (xe33.tr xe45))).F h_o1 (by decide) F51.1)] at hk52
                    refine va_get (D := D) (ci := 16) (v := .ref (S.f o1 33)) (C := RX12) (T := TX12) (N := 34) hx hb hts (by decide +kernel) hown hK hP k52 hk52 rfl 33 (by decide) (hts (.fieldLink RX12 91 "HobhouseModel" "peaks" "[I") (by decide +kernel)) (fun _ h9 => h9) rfl dX12_matches_182 ?_
                    refine lv_iconst (v := 5) hx hb dX12_matches_185 (by decide) ?_
                    refine lv_iload hx hb dX12_matches_186 (lv_at hl 1 rfl) ?_
                    refine lv_imul hx hb dX12_matches_188 ?_
                    refine lv_iload hx hb dX12_matches_189 (lv_at hl 0 rfl) ?_
                    refine lv_iadd hx hb dX12_matches_191 ?_
                    have l32_5 : (5 : Int32).toInt = 5 := rfl
                    have i53 : ((5 : Int32) * w84_6).toInt = 5 * w84_6.toInt := t_mull rfl (by omega)
                    have i54 : (((5 : Int32) * w84_6) + w96_7).toInt = ((5 : Int32) * w84_6).toInt + w96_7.toInt := t_add (by omega)
                    obtain ⟨k55, gk55, hk55⟩ := wGt (cy := cy) X S43 ((hsh84.x.tr (hsh96.x.tr (xe33.tr xe45))).A F51.2.1).1 ((hsh84.x.tr (hsh96.x.tr (xe33.tr xe45))).A F51.2.1).2.1
                    refine va_iald hx hb hK hP k55 2 hk55 rfl (inb (m := 25) (((hsh84.x.tr (hsh96.x.tr (xe33.tr xe45))).n F51.2.1).trans F51.2.2) (by omega) (by omega)) dX12_matches_192 ?_
                    refine lv_i2l hx hb dX12_matches_193 rfl ?_
                    refine lv_ladd hx hb dX12_matches_194 ?_
                    have l32_1 : (1 : Int32).toInt = 1 := rfl
                    have i56 : (w84_6 + (1 : Int32)).toInt = w84_6.toInt + 1 := t_addr (n := 1) rfl (by omega)
                    have i57 : (x3 + (1 : Int32)).toInt = x3.toInt + 1 := t_addr (n := 1) rfl (by omega)
                    have hFc := free_all hD hS hA
                    obtain ⟨k58, gk58, hk58⟩ := wGt (cy := cy) X S43 (xe45.A (xe33.A (hsh96.x.A (hsh84.x.A h_o1)))).1 (xe45.A (xe33.A (hsh96.x.A (hsh84.x.A h_o1)))).2.1
                    refine va_callv (va_runV (As := [.int (w84_6 + (1 : Int32)), .int (x2 ||| ((1 : Int32) <<< (w96_7 &&& 31))), .int (x3 + (1 : Int32)), .long (x4 + ((S43.i (S.f o1 33) (((5 : Int32) * w84_6) + w96_7).toNatClampNeg).toInt64))]) (rest := []) ⟨hx, hb, hml, hown, hts⟩ (c_X12_matches_1 l (cy := cy) (X := X) (D := D) S43 _ o1 (xe45.A (xe33.A (hsh96.x.A (hsh84.x.A h_o1)))) (w84_6 + (1 : Int32)) (x2 ||| ((1 : Int32) <<< (w96_7 &&& 31))) (x3 + (1 : Int32)) (x4 + ((S43.i (S.f o1 33) (((5 : Int32) * w84_6) + w96_7).toNatClampNeg).toInt64)) (t46.w) v44 (by omega) (by omega) (by rw [f_of ((hsh84.x.tr (hsh96.x.tr (xe33.tr xe45))).F h_o1 (by decide) F1.1)]; omega)) (cwV 4 hts gX12_matches_X12_matches rfl rfl rfl hd_X12_matches ⟨Nat.le_of_ble_eq_true rfl, Nat.le_of_ble_eq_true rfl⟩) ⟨fun a U g mk q => ⟨q.1, q.2.1, q.2.2.1.calling, NW.same (u := U) (U := U.calling g mk a) rfl q.2.2.2⟩, va_recv hK hP (q := (RX12, TX12, 34)) (ci := 16) (q0 := k58) rfl hk58, fun U hU hW => ⟨rfl, by rw [hU], wd_pre hP hK hD hU hW, hN.warm hW⟩⟩ rfl rfl hl.1 rfl (lv_room (Nat.le_of_ble_eq_true rfl)) dX12_matches_195 ⟨(Nat.zero_le _), (Nat.zero_le _)⟩) hS (fun q _ h => hFc q h) hFc (fun u t H1 locs ht hvm hw hB hz1 hk1 hS => ?_)
                    obtain ⟨w60, y61⟩ := hw
                    obtain ⟨hP, hD⟩ := wd_post hFc ht hB
                    generalize H1 = H at hP hS ⊢
                    obtain ⟨S62, rfl⟩ : ∃ z, z = u := ⟨_, rfl⟩
                    have t63 : stp [(12, 28), (23, 100)] [] [] S84_ S62 := t46.tr w60 (by decide) (fun _ q => absurd q List.not_mem_nil)
                    have v64 : IV S62 o1 := y61
                    have xe65 : ext S43 S62 := w60.x
                    have k66 : (S62.I (S.f o1 0) 2).toInt = (S43.I (S.f o1 0) 2).toInt := by rw [(w60.fR (S.f o1 0) ((hsh84.x.tr (hsh96.x.tr (xe33.tr xe45))).A F1.2.1).1 List.not_mem_nil).1 2 (by rw [((hsh84.x.tr (hsh96.x.tr (xe33.tr xe45))).A F1.2.1).2.1]; decide) |>.1]
                    have k67 : (S62.I o1 24).toInt = (S43.I o1 24).toInt := by rw [(w60.fR o1 ((hsh84.x.tr (hsh96.x.tr (xe33.tr xe45))).A h_o1).1 List.not_mem_nil).1 24 (by rw [((hsh84.x.tr (hsh96.x.tr (xe33.tr xe45))).A h_o1).2.1]; decide) |>.1]
                    have k68 : (S62.I o1 25).toInt = (S43.I o1 25).toInt := by rw [(w60.fR o1 ((hsh84.x.tr (hsh96.x.tr (xe33.tr xe45))).A h_o1).1 List.not_mem_nil).1 25 (by rw [((hsh84.x.tr (hsh96.x.tr (xe33.tr xe45))).A h_o1).2.1]; decide) |>.1]
                    have k69 : (S62.I o1 26).toInt = (S43.I o1 26).toInt := by rw [(w60.fR o1 ((hsh84.x.tr (hsh96.x.tr (xe33.tr xe45))).A h_o1).1 List.not_mem_nil).1 26 (by rw [((hsh84.x.tr (hsh96.x.tr (xe33.tr xe45))).A h_o1).2.1]; decide) |>.1]
                    refine lv_iinc (v := w96_7 + (1 : Int32)) (lv' := [(7, .int (w96_7 + (1 : Int32))), (6, .int w84_6), (0, .ref o1), (1, .int x1), (2, .int x2), (3, .int x3), (4, .long x4)]) hx hb dX12_matches_198 hl (k := 0) rfl (by rfl) (by decide) rfl (fun ls hl => ?_)
                    refine lv_goto (tgt := 96) hx hb dX12_matches_201 (by decide) ?_
                    have i70 : (w96_7 + (1 : Int32)).toInt = w96_7.toInt + 1 := t_addr (n := 1) rfl (by omega)
                    exact ih96 S62 (w96_7 + (1 : Int32)) _ _ _ (Nat.lt_of_lt_of_le (by omega) (Nat.le_of_lt_succ hm96)) (⟨by omega, v64⟩) t63 hP hD hS (lv_sub hl [0, 1, 2, 3, 4, 5, 6] rfl) ko96
                  · have c26i : r24.toInt = 0 := eq_v rfl rfl c26
                    refine lv_goto (tgt := 198) hx hb dX12_matches_136 (by decide) ?_
                    refine lv_iinc (v := w96_7 + (1 : Int32)) (lv' := [(7, .int (w96_7 + (1 : Int32))), (6, .int w84_6), (0, .ref o1), (1, .int x1), (2, .int x2), (3, .int x3), (4, .long x4)]) hx hb dX12_matches_198 hl (k := 0) rfl (by rfl) (by decide) rfl (fun ls hl => ?_)
                    refine lv_goto (tgt := 96) hx hb dX12_matches_201 (by decide) ?_
                    have l32_1 : (1 : Int32).toInt = 1 := rfl
                    have i71 : (w96_7 + (1 : Int32)).toInt = w96_7.toInt + 1 := t_addr (n := 1) rfl (by omega)
                    exact ih96 S96_ (w96_7 + (1 : Int32)) _ _ _ (Nat.lt_of_lt_of_le (by omega) (Nat.le_of_lt_succ hm96)) (⟨by omega, hi96.2⟩) hsh96 hP hD hS (lv_sub hl [0, 1, 2, 3, 4, 5, 6] rfl) ko96
          refine loop96 7 S84_ (0 : Int32) _ _ _ (by omega) (⟨by omega, hi84.2⟩) (stp.rf hsh84.w) hP hD hS (lv_sub hl [0, 1, 2, 3, 4, 5, 6] rfl) (fun S73 z74 H locs ls hi96 hsh96 hP hD hS hl => ?_)
          have t75 : stp [(12, 28), (23, 100)] [] [] S S73 := hsh84.tr hsh96 (fun _ q => q) (fun _ q => Or.inl q)
          have et75 := hsh96.x
          have hi96b := hi96.1
          refine lv_iinc (v := w84_6 + (1 : Int32)) (lv' := [(6, .int (w84_6 + (1 : Int32))), (7, .int z74), (0, .ref o1), (1, .int x1), (2, .int x2), (3, .int x3), (4, .long x4)]) hx hb dX12_matches_204 hl (k := 1) rfl (by rfl) (by decide) rfl (fun ls hl => ?_)
          refine lv_goto (tgt := 84) hx hb dX12_matches_207 (by decide) ?_
          have l32_1 : (1 : Int32).toInt = 1 := rfl
          have i76 : (w84_6 + (1 : Int32)).toInt = w84_6.toInt + 1 := t_addr (n := 1) rfl (by omega)
          exact ih84 S73 (w84_6 + (1 : Int32)) _ _ _ (Nat.lt_of_lt_of_le (by omega) (Nat.le_of_lt_succ hm84)) (⟨by omega, hi96.2⟩) t75 hP hD hS (lv_sub hl [0, 2, 3, 4, 5, 6] rfl) ko84
    refine loop84 8 S x1 _ _ _ (by omega) (⟨by omega, hv⟩) (stp.rf hW) hP hD hS (lv_sub hl [0, 1, 2, 3, 4, 5] rfl) (fun S78 z79 H locs ls hi84 hsh84 hP hD hS hl => ?_)
    have t80 : stp [(12, 28), (23, 100)] [] [] S S78 := t0.tr hsh84 (fun _ q => q) (fun _ q => Or.inl q)
    have et80 := hsh84.x
    have hi84b := hi84.1
    refine W.widen (k := 0) (n := 0) (Nat.le_of_ble_eq_true rfl) (Nat.le_of_ble_eq_true rfl) ?_
    exact W.vret hx hb hr (fun t ht hW9 => ⟨⟨S78, rfl, ⟨t80, (hi84.2), (by omega)⟩, wd_end hP hK hD ht hW9.alike⟩, hS.F ht⟩) hS.2.2 dX12_matches_210 hlocks
  · have c10i : x3.toInt = (S.I o1 26).toInt := eq_v rfl rfl c10
    exact False.elim (by omega)
