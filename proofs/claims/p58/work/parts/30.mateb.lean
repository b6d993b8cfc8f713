set_option maxHeartbeats 4000000 in
set_option maxRecDepth 100000 in
theorem c_X12_matches_1 (l : Launch) {D : va_G} {cy : Nat → ClassId} {X : va_W} (S : wPS) (sz : Nat) (o1 : Nat) (h_o1 : isA S o1 12) (x1 : Int32) (x2 : Int32) (x3 : Int32) (x4 : Int64) (hW : wtB S []) (hv : IV S o1) (hd : x3.toInt = 1 ∧ 1 ≤ (S.I o1 26).toInt) (hf : 0 ≤ x1.toInt ∧ x1.toInt ≤ 6) (hs : 1 ≤ (S.I (S.f o1 0) 2).toInt) : Met l yX12_matches wsX12_matches ({ frames := 7, cells := 0, slots := 0, locals := 163 }) (va_Pc [.ref o1, .int x1, .int x2, .int x3, .long x4] (fun U => U.heap.size = sz ∧ WD D cy X (fun _ => True) S U ∧ NW U)) (va_Qv (fun (u : wPS) => stp [(12, 28), (23, 100)] [] [] S u ∧ IV u o1) (fun u t => WD D cy X (va_A (X ++ PL cy S) sz) u t) (va_A (X ++ PL cy S) sz)) 0 0 (va_A (X ++ PL cy S) sz) := by
  refine Met.ofW (cc := cX12_matches) (maxL := 8) (ret := none) (by decide) rfl ?_
  intro p e s m args below meth c s₁ B hml hv
  obtain ⟨rfl, hsz, ⟨hP, hK, hD0⟩, hN⟩ := hv
  have hx := B.exec
  have hb := B.bytes
  have hr := B.returns
  have hts := atoms_spec (ws := wsX12_matches) B.pre
  have hown : s.vm.findClass RX12 = some m.cls := findClass_of_methodNamed (x := yX12_matches) B.named
  have hlocks := B.notSynchronized
  subst hsz
  have hD := hD0.self (sz := s.heap.size)
  generalize hAe : va_A (X ++ PL cy S) s.heap.size = A at hD ⊢
  have hA : ∀ q : Nat, s.heap.size ≤ q → A q := fun q h => by rw [← hAe]; exact Or.inr h
  have hS : va_S A s.heap s.heap [] := va_S.rf
  have hl := lv_entry ([.ref o1, .int x1, .int x2, .int x3, .long x4]) (n := 8) (Nat.le_of_ble_eq_true rfl)
  rw [lg_entry_eq]
  generalize (lg_sl ([.ref o1, .int x1, .int x2, .int x3, .long x4]) ++ List.replicate (8 - (lg_sl ([.ref o1, .int x1, .int x2, .int x3, .long x4])).length) Slot.unset).toArray = ls at hl ⊢
  have hl : lv_has ls 8 [(0, .ref o1), (1, .int x1), (2, .int x2), (3, .int x3), (4, .long x4)] := hl
  have t0 : stp [(12, 28), (23, 100)] [] [] S S := stp.rf hW
  have F1 := ((hW.at h_o1 List.not_mem_nil).to_12 h_o1.2.1).F0
  have F2 := ((hW.at h_o1 List.not_mem_nil).to_12 h_o1.2.1).F9
  have F3 := ((hW.at h_o1 List.not_mem_nil).to_12 h_o1.2.1).F10
  have F4 := ((hW.at h_o1 List.not_mem_nil).to_12 h_o1.2.1).F11
  have F5 := ((hW.at h_o1 List.not_mem_nil).to_12 h_o1.2.1).F12
  have F6 := ((hW.at h_o1 List.not_mem_nil).to_12 h_o1.2.1).F13
  have F7 := ((hW.at h_o1 List.not_mem_nil).to_12 h_o1.2.1).F14
  refine lv_iload_n hx hb dX12_matches_0 rfl (lv_at hl 3 rfl) ?_
  refine lv_aload_n hx hb dX12_matches_1 rfl (lv_at hl 0 rfl) ?_
  obtain ⟨k8, gk8, hk8⟩ := wGt (cy := cy) X S h_o1.1 h_o1.2.1
  have i9 := ((hW.at h_o1 List.not_mem_nil).to_12 h_o1.2.1).R26
  refine va_get (D := D) (ci := 16) (v := .int (S.I o1 26)) (C := RX12) (T := TX12) (N := 34) hx hb hts hi_X12_matches_X12 hown hK hP k8 hk8 rfl 26 (by decide) (hts (.fieldLink RX12 461 "HobhouseModel" "wanted" "I") (by decide +kernel)) (fun _ h9 => h9) rfl dX12_matches_2 ?_
  refine lv_icmp_ne (tgt := 81) hx hb dX12_matches_5 (by decide) (fun c10 => ?_) (fun c10 => ?_)
  · have c10i : ¬ x3.toInt = (S.I o1 26).toInt := neq_v rfl rfl c10
    refine lv_iload_n hx hb dX12_matches_81 rfl (lv_at hl 1 rfl) ?_
    refine lv_istore (lv' := [(6, .int x1), (0, .ref o1), (1, .int x1), (2, .int x2), (3, .int x3), (4, .long x4)]) hx hb dX12_matches_82 hl (by decide) rfl (fun ls hl => ?_)
    have loop84 : ∀ (n : Nat) (S84_ : wPS) (w84_6 : Int32) (H : Heap) (locs : List Loc) (ls : Array Slot), (7 - w84_6.toInt).toNat < n → (0 ≤ w84_6.toInt ∧ w84_6.toInt ≤ 6 ∧ (S84_.I o1 24).toInt = (S.I o1 24).toInt ∧ (S84_.I o1 25).toInt = (S.I o1 25).toInt ∧ (S84_.I o1 26).toInt = (S.I o1 26).toInt ∧ (S84_.I (S.f o1 0) 2).toInt = (S.I (S.f o1 0) 2).toInt) ∧ IV S84_ o1 → stp [(12, 28), (23, 100)] [] [] S S84_ → va_P D vwCl (X ++ PL cy S84_) H → va_D A (X ++ PL cy S84_) → va_S A s.heap H locs → lv_has ls 8 [(6, .int w84_6), (0, .ref o1), (1, .int x1), (2, .int x2), (3, .int x3), (4, .long x4)] → (∀ (S84_x : wPS) (w84_6x : Int32) (H : Heap) (locs : List Loc) (ls : Array Slot), (0 ≤ w84_6x.toInt ∧ w84_6x.toInt ≤ 6 ∧ (S84_x.I o1 24).toInt = (S.I o1 24).toInt ∧ (S84_x.I o1 25).toInt = (S.I o1 25).toInt ∧ (S84_x.I o1 26).toInt = (S.I o1 26).toInt ∧ (S84_x.I (S.f o1 0) 2).toInt = (S.I (S.f o1 0) 2).toInt) ∧ IV S84_x o1 → stp [(12, 28), (23, 100)] [] [] S S84_x → va_P D vwCl (X ++ PL cy S84_x) H → va_D A (X ++ PL cy S84_x) → va_S A s.heap H locs → lv_has ls 8 [(6, .int w84_6x), (0, .ref o1), (1, .int x1), (2, .int x2), (3, .int x3), (4, .long x4)] → W p l e (headSpec wsX12_matches ({ frames := 7, cells := 0, slots := 0, locals := 163 } : Room)).room s m [.ref o1, .int x1, .int x2, .int x3, .long x4].toArray below meth c H locs 0 0 (MQ below (va_Qv (fun (u : wPS) => stp [(12, 28), (23, 100)] [] [] S u ∧ IV u o1) (fun u t => WD D cy X A u t) A) [.ref o1, .int x1, .int x2, .int x3, .long x4].toArray s 0 0 A) (F0 m 210 ls [])) → W p l e (headSpec wsX12_matches ({ frames := 7, cells := 0, slots := 0, locals := 163 } : Room)).room s m [.ref o1, .int x1, .int x2, .int x3, .long x4].toArray below meth c H locs 0 0 (MQ below (va_Qv (fun (u : wPS) => stp [(12, 28), (23, 100)] [] [] S u ∧ IV u o1) (fun u t => WD D cy X A u t) A) [.ref o1, .int x1, .int x2, .int x3, .long x4].toArray s 0 0 A) (F0 m 84 ls []) := by
      intro n84
      induction n84 with
      | zero => intro S84_ w84_6 H locs ls hm; exact absurd hm (Nat.not_lt_zero _)
      | succ n84 ih84 =>
        intro S84_ w84_6 H locs ls hm84 hi84 hsh84 hP hD hS hl ko84
        have hi84a := hi84.1
        refine lv_iload hx hb dX12_matches_84 (lv_at hl 0 rfl) ?_
        refine lv_aload_n hx hb dX12_matches_86 rfl (lv_at hl 1 rfl) ?_
        obtain ⟨k11, gk11, hk11⟩ := wGt (cy := cy) X S84_ (hsh84.x.A h_o1).1 (hsh84.x.A h_o1).2.1
        have i12 := ((hsh84.w.at (hsh84.x.A h_o1) List.not_mem_nil).to_12 (hsh84.x.A h_o1).2.1).R24
        refine va_get (D := D) (ci := 16) (v := .int (S84_.I o1 24)) (C := RX12) (T := TX12) (N := 34) hx hb hts hi_X12_matches_X12 hown hK hP k11 hk11 rfl 24 (by decide) (hts (.fieldLink RX12 467 "HobhouseModel" "manyFirst" "I") (by decide +kernel)) (fun _ h9 => h9) rfl dX12_matches_87 ?_
        refine lv_icmp_ge (tgt := 210) hx hb dX12_matches_90 (by decide) (fun c13 => ?_) (fun c13 => ?_)
        · have c13i : (S84_.I o1 24).toInt ≤ w84_6.toInt := le_v rfl rfl c13
          exact ko84 S84_ w84_6 _ _ _ (⟨by omega, hi84.2⟩) hsh84 hP hD hS (lv_sub hl [0, 1, 2, 3, 4, 5] rfl)
        · have c13i : w84_6.toInt < (S84_.I o1 24).toInt := nle_v rfl rfl c13
          refine lv_iconst (v := 0) hx hb dX12_matches_93 (by decide) ?_
          refine lv_istore (lv' := [(7, .int (0 : Int32)), (6, .int w84_6), (0, .ref o1), (1, .int x1), (2, .int x2), (3, .int x3), (4, .long x4)]) hx hb dX12_matches_94 hl (by decide) rfl (fun ls hl => ?_)
          have l32_0 : (0 : Int32).toInt = 0 := rfl
          have loop96 : ∀ (n : Nat) (S96_ : wPS) (w96_7 : Int32) (H : Heap) (locs : List Loc) (ls : Array Slot), (6 - w96_7.toInt).toNat < n → (0 ≤ w96_7.toInt ∧ w96_7.toInt ≤ 5 ∧ (S96_.I o1 24).toInt = (S.I o1 24).toInt ∧ (S96_.I o1 25).toInt = (S.I o1 25).toInt ∧ (S96_.I o1 26).toInt = (S.I o1 26).toInt ∧ (S96_.I (S.f o1 0) 2).toInt = (S.I (S.f o1 0) 2).toInt) ∧ IV S96_ o1 → stp [(12, 28), (23, 100)] [] [] S84_ S96_ → va_P D vwCl (X ++ PL cy S96_) H → va_D A (X ++ PL cy S96_) → va_S A s.heap H locs → lv_has ls 8 [(7, .int w96_7), (6, .int w84_6), (0, .ref o1), (1, .int x1), (2, .int x2), (3, .int x3), (4, .long x4)] → (∀ (S96_x : wPS) (w96_7x : Int32) (H : Heap) (locs : List Loc) (ls : Array Slot), (0 ≤ w96_7x.toInt ∧ w96_7x.toInt ≤ 5 ∧ (S96_x.I o1 24).toInt = (S.I o1 24).toInt ∧ (S96_x.I o1 25).toInt = (S.I o1 25).toInt ∧ (S96_x.I o1 26).toInt = (S.I o1 26).toInt ∧ (S96_x.I (S.f o1 0) 2).toInt = (S.I (S.f o1 0) 2).toInt) ∧ IV S96_x o1 → stp [(12, 28), (23, 100)] [] [] S84_ S96_x → va_P D vwCl (X ++ PL cy S96_x) H → va_D A (X ++ PL cy S96_x) → va_S A s.heap H locs → lv_has ls 8 [(7, .int w96_7x), (6, .int w84_6), (0, .ref o1), (1, .int x1), (2, .int x2), (3, .int x3), (4, .long x4)] → W p l e (headSpec wsX12_matches ({ frames := 7, cells := 0, slots := 0, locals := 163 } : Room)).room s m [.ref o1, .int x1, .int x2, .int x3, .long x4].toArray below meth c H locs 0 0 (MQ below (va_Qv (fun (u : wPS) => stp [(12, 28), (23, 100)] [] [] S u ∧ IV u o1) (fun u t => WD D cy X A u t) A) [.ref o1, .int x1, .int x2, .int x3, .long x4].toArray s 0 0 A) (F0 m 204 ls [])) → W p l e (headSpec wsX12_matches ({ frames := 7, cells := 0, slots := 0, locals := 163 } : Room)).room s m [.ref o1, .int x1, .int x2, .int x3, .long x4].toArray below meth c H locs 0 0 (MQ below (va_Qv (fun (u : wPS) => stp [(12, 28), (23, 100)] [] [] S u ∧ IV u o1) (fun u t => WD D cy X A u t) A) [.ref o1, .int x1, .int x2, .int x3, .long x4].toArray s 0 0 A) (F0 m 96 ls []) := by
            intro n96
            induction n96 with
            | zero => intro S96_ w96_7 H locs ls hm; exact absurd hm (Nat.not_lt_zero _)
            | succ n96 ih96 =>
              intro S96_ w96_7 H locs ls hm96 hi96 hsh96 hP hD hS hl ko96
              have hi96a := hi96.1
              refine lv_iload hx hb dX12_matches_96 (lv_at hl 0 rfl) ?_
              refine lv_aload_n hx hb dX12_matches_98 rfl (lv_at hl 2 rfl) ?_
              obtain ⟨k14, gk14, hk14⟩ := wGt (cy := cy) X S96_ (hsh96.x.A (hsh84.x.A h_o1)).1 (hsh96.x.A (hsh84.x.A h_o1)).2.1
              have i15 := ((hsh96.w.at (hsh96.x.A (hsh84.x.A h_o1)) List.not_mem_nil).to_12 (hsh96.x.A (hsh84.x.A h_o1)).2.1).R25
              refine va_get (D := D) (ci := 16) (v := .int (S96_.I o1 25)) (C := RX12) (T := TX12) (N := 34) hx hb hts hi_X12_matches_X12 hown hK hP k14 hk14 rfl 25 (by decide) (hts (.fieldLink RX12 470 "HobhouseModel" "manySecond" "I") (by decide +kernel)) (fun _ h9 => h9) rfl dX12_matches_99 ?_
              refine lv_icmp_ge (tgt := 204) hx hb dX12_matches_102 (by decide) (fun c16 => ?_) (fun c16 => ?_)
              · have c16i : (S96_.I o1 25).toInt ≤ w96_7.toInt := le_v rfl rfl c16
                exact ko96 S96_ w96_7 _ _ _ (⟨by omega, hi96.2⟩) hsh96 hP hD hS (lv_sub hl [0, 1, 2, 3, 4, 5, 6] rfl)
              · have c16i : w96_7.toInt < (S96_.I o1 25).toInt := nle_v rfl rfl c16
                refine lv_iload_n hx hb dX12_matches_105 rfl (lv_at hl 4 rfl) ?_
                refine lv_iload hx hb dX12_matches_106 (lv_at hl 0 rfl) ?_
                refine lv_ishr hx hb dX12_matches_108 ?_
                refine lv_iconst (v := 1) hx hb dX12_matches_109 (by decide) ?_
                refine lv_iand hx hb dX12_matches_110 ?_
                refine lv_iconst (v := 1) hx hb dX12_matches_111 (by decide) ?_
                refine lv_icmp_eq (tgt := 198) hx hb dX12_matches_112 (by decide) (fun c17 => ?_) (fun c17 => ?_)
                · have c17i : ((x2 >>> (w96_7 &&& 31)) &&& (1 : Int32)).toInt = 1 := eq_v rfl rfl c17
                  refine lv_iinc (v := w96_7 + (1 : Int32)) (lv' := [(7, .int (w96_7 + (1 : Int32))), (6, .int w84_6), (0, .ref o1), (1, .int x1), (2, .int x2), (3, .int x3), (4, .long x4)]) hx hb dX12_matches_198 hl (k := 0) rfl (by rfl) (by decide) rfl (fun ls hl => ?_)
                  refine lv_goto (tgt := 96) hx hb dX12_matches_201 (by decide) ?_
                  have l32_1 : (1 : Int32).toInt = 1 := rfl
                  have i18 : (w96_7 + (1 : Int32)).toInt = w96_7.toInt + 1 := t_addr (n := 1) rfl (by omega)
                  exact ih96 S96_ (w96_7 + (1 : Int32)) _ _ _ (Nat.lt_of_lt_of_le (by omega) (Nat.le_of_lt_succ hm96)) (⟨by omega, hi96.2⟩) hsh96 hP hD hS (lv_sub hl [0, 1, 2, 3, 4, 5, 6] rfl) ko96
                · have c17i : ¬ ((x2 >>> (w96_7 &&& 31)) &&& (1 : Int32)).toInt = 1 := neq_v rfl rfl c17
                  refine lv_aload_n hx hb dX12_matches_115 rfl (lv_at hl 2 rfl) ?_
                  refine lv_aload_n hx hb dX12_matches_116 rfl (lv_at hl 2 rfl) ?_
                  obtain ⟨k19, gk19, hk19⟩ := wGt (cy := cy) X S96_ (hsh96.x.A (hsh84.x.A h_o1)).1 (hsh96.x.A (hsh84.x.A h_o1)).2.1
                  simp only [kE, ((hsh84.x.tr hsh96.x).F h_o1 (by decide) F6.1)] at hk19
                  refine va_get (D := D) (ci := 16) (v := .ref (S.f o1 13)) (C := RX12) (T := TX12) (N := 34) hx hb hts hi_X12_matches_X12 hown hK hP k19 hk19 rfl 13 (by decide) (hts (.fieldLink RX12 66 "HobhouseModel" "firsts" "[I") (by decide +kernel)) (fun _ h9 => h9) rfl dX12_matches_117 ?_
                  refine lv_iload hx hb dX12_matches_120 (lv_at hl 1 rfl) ?_
                  obtain ⟨k20, gk20, hk20⟩ := wGt (cy := cy) X S96_ ((hsh84.x.tr hsh96.x).A F6.2.1).1 ((hsh84.x.tr hsh96.x).A F6.2.1).2.1
                  refine va_iald hx hb hK hP k20 2 hk20 rfl (inb (m := 5) (((hsh84.x.tr hsh96.x).n F6.2.1).trans F6.2.2) (by omega) (by omega)) dX12_matches_122 ?_
                  refine lv_aload_n hx hb dX12_matches_123 rfl (lv_at hl 2 rfl) ?_
                  obtain ⟨k21, gk21, hk21⟩ := wGt (cy := cy) X S96_ (hsh96.x.A (hsh84.x.A h_o1)).1 (hsh96.x.A (hsh84.x.A h_o1)).2.1
                  simp only [kE, ((hsh84.x.tr hsh96.x).F h_o1 (by decide) F7.1)] at hk21
                  refine va_get (D := D) (ci := 16) (v := .ref (S.f o1 14)) (C := RX12) (T := TX12) (N := 34) hx hb hts hi_X12_matches_X12 hown hK hP k21 hk21 rfl 14 (by decide) (hts (.fieldLink RX12 69 "HobhouseModel" "seconds" "[I") (by decide +kernel)) (fun _ h9 => h9) rfl dX12_matches_124 ?_
                  refine lv_iload hx hb dX12_matches_127 (lv_at hl 0 rfl) ?_
                  obtain ⟨k22, gk22, hk22⟩ := wGt (cy := cy) X S96_ ((hsh84.x.tr hsh96.x).A F7.2.1).1 ((hsh84.x.tr hsh96.x).A F7.2.1).2.1
                  refine va_iald hx hb hK hP k22 2 hk22 rfl (inb (m := 5) (((hsh84.x.tr hsh96.x).n F7.2.1).trans F7.2.2) (by omega) (by omega)) dX12_matches_129 ?_
                  have v9a := iv_at hi96.2 (j := 13) (by decide) (by decide) (f_of ((hsh84.x.tr hsh96.x).F h_o1 (by decide) F6.1)) (f_of ((hsh84.x.tr hsh96.x).F h_o1 (by decide) F1.1)) w84_6.toNatClampNeg
                  have v9b := iv_at hi96.2 (j := 14) (by decide) (by decide) (f_of ((hsh84.x.tr hsh96.x).F h_o1 (by decide) F7.1)) (f_of ((hsh84.x.tr hsh96.x).F h_o1 (by decide) F1.1)) w96_7.toNatClampNeg
                  have hFc := free_all hD hS hA
                  obtain ⟨k23, gk23, hk23⟩ := wGt (cy := cy) X S96_ (hsh96.x.A (hsh84.x.A h_o1)).1 (hsh96.x.A (hsh84.x.A h_o1)).2.1
                  refine va_calli (va_runV (As := [.int (S96_.i (S.f o1 13) w84_6.toNatClampNeg), .int (S96_.i (S.f o1 14) w96_7.toNatClampNeg)]) (rest := []) ⟨hx, hb, hml, hown, hts⟩ (c_X12_isPair l (cy := cy) (X := X) (D := D) S96_ _ o1 (hsh96.x.A (hsh84.x.A h_o1)) (S96_.i (S.f o1 13) w84_6.toNatClampNeg) (S96_.i (S.f o1 14) w96_7.toNatClampNeg) (hsh96.w) (by rw [f_of ((hsh84.x.tr hsh96.x).F h_o1 (by decide) F1.1)]; omega) (by rw [f_of ((hsh84.x.tr hsh96.x).F h_o1 (by decide) F1.1)]; omega)) (cwV 2 hts gX12_matches_X12_isPair rfl rfl rfl hd_X12_isPair ⟨Nat.le_of_ble_eq_true rfl, Nat.le_of_ble_eq_true rfl⟩) (pV (va_recv hK hP (q := (RX12, TX12, 34)) (ci := 16) (q0 := k23) rfl hk23) hP hK hD hN) rfl rfl hl.1 rfl (lv_room (Nat.le_of_ble_eq_true rfl)) dX12_matches_130 ⟨(Nat.zero_le _), (Nat.zero_le _)⟩) hS (fun q _ h => hFc q h) hFc (fun r24 u t H1 locs ht hvm hw hB hz1 hk1 hS => ?_)
                  obtain ⟨c25, y26⟩ := hw
                  obtain ⟨hP, hD⟩ := wd_post hFc ht hB
                  generalize H1 = H at hP hS ⊢
                  obtain rfl : f_X12_isPair S96_ o1 (S96_.i (S.f o1 13) w84_6.toNatClampNeg) (S96_.i (S.f o1 14) w96_7.toNatClampNeg) = r24 := c25.symm
                  refine lv_if_ne (tgt := 139) hx hb dX12_matches_133 (by decide) (fun c27 => ?_) (fun c27 => ?_)
                  · have c27i : ¬ (f_X12_isPair S96_ o1 (S96_.i (S.f o1 13) w84_6.toNatClampNeg) (S96_.i (S.f o1 14) w96_7.toNatClampNeg)).toInt = 0 := neq_v rfl rfl c27
                    refine lv_aload_n hx hb dX12_matches_139 rfl (lv_at hl 2 rfl) ?_
                    obtain ⟨k28, gk28, hk28⟩ := wGt (cy := cy) X S96_ (hsh96.x.A (hsh84.x.A h_o1)).1 (hsh96.x.A (hsh84.x.A h_o1)).2.1
                    simp only [kE, ((hsh84.x.tr hsh96.x).F h_o1 (by decide) F2.1)] at hk28
                    refine va_get (D := D) (ci := 16) (v := .ref (S.f o1 9)) (C := RX12) (T := TX12) (N := 34) hx hb hts hi_X12_matches_X12 hown hK hP k28 hk28 rfl 9 (by decide) (hts (.fieldLink RX12 54 "HobhouseModel" "pairFirst" "[I") (by decide +kernel)) (fun _ h9 => h9) rfl dX12_matches_140 ?_
                    refine lv_iload_n hx hb dX12_matches_143 rfl (lv_at hl 5 rfl) ?_
                    refine lv_aload_n hx hb dX12_matches_144 rfl (lv_at hl 2 rfl) ?_
                    obtain ⟨k29, gk29, hk29⟩ := wGt (cy := cy) X S96_ (hsh96.x.A (hsh84.x.A h_o1)).1 (hsh96.x.A (hsh84.x.A h_o1)).2.1
                    simp only [kE, ((hsh84.x.tr hsh96.x).F h_o1 (by decide) F6.1)] at hk29
                    refine va_get (D := D) (ci := 16) (v := .ref (S.f o1 13)) (C := RX12) (T := TX12) (N := 34) hx hb hts hi_X12_matches_X12 hown hK hP k29 hk29 rfl 13 (by decide) (hts (.fieldLink RX12 66 "HobhouseModel" "firsts" "[I") (by decide +kernel)) (fun _ h9 => h9) rfl dX12_matches_145 ?_
                    refine lv_iload hx hb dX12_matches_148 (lv_at hl 1 rfl) ?_
                    obtain ⟨k30, gk30, hk30⟩ := wGt (cy := cy) X S96_ ((hsh84.x.tr hsh96.x).A F6.2.1).1 ((hsh84.x.tr hsh96.x).A F6.2.1).2.1
                    refine va_iald hx hb hK hP k30 2 hk30 rfl (inb (m := 5) (((hsh84.x.tr hsh96.x).n F6.2.1).trans F6.2.2) (by omega) (by omega)) dX12_matches_150 ?_
                    obtain ⟨k31, gk31, hk31⟩ := wGt (cy := cy) X S96_ ((hsh84.x.tr hsh96.x).A F2.2.1).1 ((hsh84.x.tr hsh96.x).A F2.2.1).2.1
                    refine va_iast hx hb hK hP hD hS k31 2 hk31 rfl (inb (m := 4) (((hsh84.x.tr hsh96.x).n F2.2.1).trans F2.2.2) (by omega) (by omega)) dX12_matches_151 (fun H locs hP2 hD2 hS => ?_)
                    have e9 := wPui (cy := cy) (f := (upd (S96_.i (S.f o1 9)) x3.toNatClampNeg (S96_.i (S.f o1 13) w84_6.toNatClampNeg))) hD ((hsh84.x.tr hsh96.x).A F2.2.1).1 ((hsh84.x.tr hsh96.x).A F2.2.1).2.1 gk31 rfl
                    obtain ⟨S32, hS32⟩ : ∃ z, S96_.si (S.f o1 9) (upd (S96_.i (S.f o1 9)) x3.toNatClampNeg (S96_.i (S.f o1 13) w84_6.toNatClampNeg)) = z := ⟨_, rfl⟩
                    have v33 : IV S32 o1 := by rw [← hS32]; exact IV.set hi96.2 (f_of ((hsh84.x.tr hsh96.x).F h_o1 (by decide) F1.1)) (iv_at hi96.2 (j := 13) (by decide) (by decide) (f_of ((hsh84.x.tr hsh96.x).F h_o1 (by decide) F6.1)) (f_of ((hsh84.x.tr hsh96.x).F h_o1 (by decide) F1.1)) w84_6.toNatClampNeg)
                    have hP : va_P D vwCl (X ++ PL cy S32) H := by rw [← hS32, ← e9]; exact hP2
                    have hD : va_D A (X ++ PL cy S32) := by rw [← hS32, ← e9]; exact hD2
                    have xe34 : ext S96_ S32 := by rw [← hS32]; exact ext.si _ _ _
                    have t35 : stp [(12, 28), (23, 100)] [] [] S84_ S32 := by rw [← hS32]; exact hsh96.i (upd (S96_.i (S.f o1 9)) x3.toNatClampNeg (S96_.i (S.f o1 13) w84_6.toNatClampNeg)) ((hsh84.x.tr hsh96.x).A F2.2.1) (by decide)
                    have k36 : (S32.I (S.f o1 0) 2).toInt = (S96_.I (S.f o1 0) 2).toInt := by rw [← hS32]; rfl
                    have k37 : (S32.I o1 24).toInt = (S96_.I o1 24).toInt := by rw [← hS32]; rfl
                    have k38 : (S32.I o1 25).toInt = (S96_.I o1 25).toInt := by rw [← hS32]; rfl
                    have k39 : (S32.I o1 26).toInt = (S96_.I o1 26).toInt := by rw [← hS32]; rfl
                    refine lv_aload_n hx hb dX12_matches_152 rfl (lv_at hl 2 rfl) ?_
                    obtain ⟨k40, gk40, hk40⟩ := wGt (cy := cy) X S32 (xe34.A (hsh96.x.A (hsh84.x.A h_o1))).1 (xe34.A (hsh96.x.A (hsh84.x.A h_o1))).2.1
                    simp only [kE, ((hsh84.x.tr (hsh96.x.tr xe34)).F h_o1 (by decide) F3.1)] at hk40
                    refine va_get (D := D) (ci := 16) (v := .ref (S.f o1 10)) (C := RX12) (T := TX12) (N := 34) hx hb hts hi_X12_matches_X12 hown hK hP k40 hk40 rfl 10 (by decide) (hts (.fieldLink RX12 57 "HobhouseModel" "pairSecond" "[I") (by decide +kernel)) (fun _ h9 => h9) rfl dX12_matches_153 ?_
                    refine lv_iload_n hx hb dX12_matches_156 rfl (lv_at hl 5 rfl) ?_
                    refine lv_aload_n hx hb dX12_matches_157 rfl (lv_at hl 2 rfl) ?_
                    obtain ⟨k41, gk41, hk41⟩ := wGt (cy := cy) X S32 (xe34.A (hsh96.x.A (hsh84.x.A h_o1))).1 (xe34.A (hsh96.x.A (hsh84.x.A h_o1))).2.1
                    simp only [kE, ((hsh84.x.tr (hsh96.x.tr xe34)).F h_o1 (by decide) F7.1)] at hk41
                    refine va_get (D := D) (ci := 16) (v := .ref (S.f o1 14)) (C := RX12) (T := TX12) (N := 34) hx hb hts hi_X12_matches_X12 hown hK hP k41 hk41 rfl 14 (by decide) (hts (.fieldLink RX12 69 "HobhouseModel" "seconds" "[I") (by decide +kernel)) (fun _ h9 => h9) rfl dX12_matches_158 ?_
                    refine lv_iload hx hb dX12_matches_161 (lv_at hl 0 rfl) ?_
                    obtain ⟨k42, gk42, hk42⟩ := wGt (cy := cy) X S32 (xe34.A ((hsh84.x.tr hsh96.x).A F7.2.1)).1 (xe34.A ((hsh84.x.tr hsh96.x).A F7.2.1)).2.1
                    refine va_iald hx hb hK hP k42 2 hk42 rfl (inb (m := 5) (((hsh84.x.tr (hsh96.x.tr xe34)).n F7.2.1).trans F7.2.2) (by omega) (by omega)) dX12_matches_163 ?_
                    obtain ⟨k43, gk43, hk43⟩ := wGt (cy := cy) X S32 ((hsh84.x.tr (hsh96.x.tr xe34)).A F3.2.1).1 ((hsh84.x.tr (hsh96.x.tr xe34)).A F3.2.1).2.1
                    refine va_iast hx hb hK hP hD hS k43 2 hk43 rfl (inb (m := 4) (((hsh84.x.tr (hsh96.x.tr xe34)).n F3.2.1).trans F3.2.2) (by omega) (by omega)) dX12_matches_164 (fun H locs hP2 hD2 hS => ?_)
                    have e9 := wPui (cy := cy) (f := (upd (S32.i (S.f o1 10)) x3.toNatClampNeg (S32.i (S.f o1 14) w96_7.toNatClampNeg))) hD ((hsh84.x.tr (hsh96.x.tr xe34)).A F3.2.1).1 ((hsh84.x.tr (hsh96.x.tr xe34)).A F3.2.1).2.1 gk43 rfl
                    obtain ⟨S44, hS44⟩ : ∃ z, S32.si (S.f o1 10) (upd (S32.i (S.f o1 10)) x3.toNatClampNeg (S32.i (S.f o1 14) w96_7.toNatClampNeg)) = z := ⟨_, rfl⟩
                    have v45 : IV S44 o1 := by rw [← hS44]; exact IV.set v33 (f_of ((hsh84.x.tr (hsh96.x.tr xe34)).F h_o1 (by decide) F1.1)) (iv_at v33 (j := 14) (by decide) (by decide) (f_of ((hsh84.x.tr (hsh96.x.tr xe34)).F h_o1 (by decide) F7.1)) (f_of ((hsh84.x.tr (hsh96.x.tr xe34)).F h_o1 (by decide) F1.1)) w96_7.toNatClampNeg)
                    have hP : va_P D vwCl (X ++ PL cy S44) H := by rw [← hS44, ← e9]; exact hP2
                    have hD : va_D A (X ++ PL cy S44) := by rw [← hS44, ← e9]; exact hD2
                    have xe46 : ext S32 S44 := by rw [← hS44]; exact ext.si _ _ _
                    have t47 : stp [(12, 28), (23, 100)] [] [] S84_ S44 := by rw [← hS44]; exact t35.i (upd (S32.i (S.f o1 10)) x3.toNatClampNeg (S32.i (S.f o1 14) w96_7.toNatClampNeg)) ((hsh84.x.tr (hsh96.x.tr xe34)).A F3.2.1) (by decide)
                    have k48 : (S44.I (S.f o1 0) 2).toInt = (S32.I (S.f o1 0) 2).toInt := by rw [← hS44]; rfl
                    have k49 : (S44.I o1 24).toInt = (S32.I o1 24).toInt := by rw [← hS44]; rfl
                    have k50 : (S44.I o1 25).toInt = (S32.I o1 25).toInt := by rw [← hS44]; rfl
                    have k51 : (S44.I o1 26).toInt = (S32.I o1 26).toInt := by rw [← hS44]; rfl
                    refine lv_aload_n hx hb dX12_matches_165 rfl (lv_at hl 2 rfl) ?_
                    refine lv_iload hx hb dX12_matches_166 (lv_at hl 1 rfl) ?_
                    refine lv_iconst (v := 1) hx hb dX12_matches_168 (by decide) ?_
                    refine lv_iadd hx hb dX12_matches_169 ?_
                    refine lv_iload_n hx hb dX12_matches_170 rfl (lv_at hl 4 rfl) ?_
                    refine lv_iconst (v := 1) hx hb dX12_matches_171 (by decide) ?_
                    refine lv_iload hx hb dX12_matches_172 (lv_at hl 0 rfl) ?_
                    refine lv_ishl hx hb dX12_matches_174 ?_
                    refine lv_ior hx hb dX12_matches_175 ?_
                    refine lv_iload_n hx hb dX12_matches_176 rfl (lv_at hl 5 rfl) ?_
                    refine lv_iconst (v := 1) hx hb dX12_matches_177 (by decide) ?_
                    refine lv_iadd hx hb dX12_matches_178 ?_
                    refine lv_lload hx hb dX12_matches_179 (lv_at hl 6 rfl) ?_
                    refine lv_aload_n hx hb dX12_matches_181 rfl (lv_at hl 2 rfl) ?_
                    have F52 := ((hW.at h_o1 List.not_mem_nil).to_12 h_o1.2.1).F33
                    obtain ⟨k53, gk53, hk53⟩ := wGt (cy := cy) X S44 (xe46.A (xe34.A (hsh96.x.A (hsh84.x.A h_o1)))).1 (xe46.A (xe34.A (hsh96.x.A (hsh84.x.A h_o1)))).2.1
                    simp only [kE, ((hsh84.x.tr (hsh96.x.tr (xe34.tr xe46))).F h_o1 (by decide) F52.1)] at hk53
                    refine va_get (D := D) (ci := 16) (v := .ref (S.f o1 33)) (C := RX12) (T := TX12) (N := 34) hx hb hts hi_X12_matches_X12 hown hK hP k53 hk53 rfl 33 (by decide) (hts (.fieldLink RX12 91 "HobhouseModel" "peaks" "[I") (by decide +kernel)) (fun _ h9 => h9) rfl dX12_matches_182 ?_
                    refine lv_iconst (v := 5) hx hb dX12_matches_185 (by decide) ?_
                    refine lv_iload hx hb dX12_matches_186 (lv_at hl 1 rfl) ?_
                    refine lv_imul hx hb dX12_matches_188 ?_
                    refine lv_iload hx hb dX12_matches_189 (lv_at hl 0 rfl) ?_
                    refine lv_iadd hx hb dX12_matches_191 ?_
                    have l32_5 : (5 : Int32).toInt = 5 := rfl
                    have i54 : ((5 : Int32) * w84_6).toInt = 5 * w84_6.toInt := t_mull rfl (by omega)
                    have i55 : (((5 : Int32) * w84_6) + w96_7).toInt = ((5 : Int32) * w84_6).toInt + w96_7.toInt := t_add (by omega)
                    obtain ⟨k56, gk56, hk56⟩ := wGt (cy := cy) X S44 ((hsh84.x.tr (hsh96.x.tr (xe34.tr xe46))).A F52.2.1).1 ((hsh84.x.tr (hsh96.x.tr (xe34.tr xe46))).A F52.2.1).2.1
                    refine va_iald hx hb hK hP k56 2 hk56 rfl (inb (m := 25) (((hsh84.x.tr (hsh96.x.tr (xe34.tr xe46))).n F52.2.1).trans F52.2.2) (by omega) (by omega)) dX12_matches_192 ?_
                    refine lv_i2l hx hb dX12_matches_193 rfl ?_
                    refine lv_ladd hx hb dX12_matches_194 ?_
                    have l32_1 : (1 : Int32).toInt = 1 := rfl
                    have i57 : (w84_6 + (1 : Int32)).toInt = w84_6.toInt + 1 := t_addr (n := 1) rfl (by omega)
                    have i58 : (x3 + (1 : Int32)).toInt = x3.toInt + 1 := t_addr (n := 1) rfl (by omega)
                    have hFc := free_all hD hS hA
                    obtain ⟨k59, gk59, hk59⟩ := wGt (cy := cy) X S44 (xe46.A (xe34.A (hsh96.x.A (hsh84.x.A h_o1)))).1 (xe46.A (xe34.A (hsh96.x.A (hsh84.x.A h_o1)))).2.1
                    refine va_callv (va_runV (As := [.int (w84_6 + (1 : Int32)), .int (x2 ||| ((1 : Int32) <<< (w96_7 &&& 31))), .int (x3 + (1 : Int32)), .long (x4 + ((S44.i (S.f o1 33) (((5 : Int32) * w84_6) + w96_7).toNatClampNeg).toInt64))]) (rest := []) ⟨hx, hb, hml, hown, hts⟩ (c_X12_matches_2 l (cy := cy) (X := X) (D := D) S44 _ o1 (xe46.A (xe34.A (hsh96.x.A (hsh84.x.A h_o1)))) (w84_6 + (1 : Int32)) (x2 ||| ((1 : Int32) <<< (w96_7 &&& 31))) (x3 + (1 : Int32)) (x4 + ((S44.i (S.f o1 33) (((5 : Int32) * w84_6) + w96_7).toNatClampNeg).toInt64)) (t47.w) v45 (by omega) (by omega) (by rw [f_of ((hsh84.x.tr (hsh96.x.tr (xe34.tr xe46))).F h_o1 (by decide) F1.1)]; omega)) (cwV 4 hts gX12_matches_X12_matches rfl rfl rfl hd_X12_matches ⟨Nat.le_of_ble_eq_true rfl, Nat.le_of_ble_eq_true rfl⟩) (pV (va_recv hK hP (q := (RX12, TX12, 34)) (ci := 16) (q0 := k59) rfl hk59) hP hK hD hN) rfl rfl hl.1 rfl (lv_room (Nat.le_of_ble_eq_true rfl)) dX12_matches_195 ⟨(Nat.zero_le _), (Nat.zero_le _)⟩) hS (fun q _ h => hFc q h) hFc (fun u t H1 locs ht hvm hw hB hz1 hk1 hS => ?_)
                    obtain ⟨w61, y62⟩ := hw
                    obtain ⟨hP, hD⟩ := wd_post hFc ht hB
                    generalize H1 = H at hP hS ⊢
                    obtain ⟨S63, rfl⟩ : ∃ z, z = u := ⟨_, rfl⟩
                    have t64 : stp [(12, 28), (23, 100)] [] [] S84_ S63 := t47.tr w61 (by decide) (fun _ q => absurd q List.not_mem_nil)
                    have v65 : IV S63 o1 := y62
                    have xe66 : ext S44 S63 := w61.x
                    have k67 : (S63.I (S.f o1 0) 2).toInt = (S44.I (S.f o1 0) 2).toInt := by rw [(w61.fR (S.f o1 0) ((hsh84.x.tr (hsh96.x.tr (xe34.tr xe46))).A F1.2.1).1 List.not_mem_nil).1 2 (by rw [((hsh84.x.tr (hsh96.x.tr (xe34.tr xe46))).A F1.2.1).2.1]; decide) |>.1]
                    have k68 : (S63.I o1 24).toInt = (S44.I o1 24).toInt := by rw [(w61.fR o1 ((hsh84.x.tr (hsh96.x.tr (xe34.tr xe46))).A h_o1).1 List.not_mem_nil).1 24 (by rw [((hsh84.x.tr (hsh96.x.tr (xe34.tr xe46))).A h_o1).2.1]; decide) |>.1]
                    have k69 : (S63.I o1 25).toInt = (S44.I o1 25).toInt := by rw [(w61.fR o1 ((hsh84.x.tr (hsh96.x.tr (xe34.tr xe46))).A h_o1).1 List.not_mem_nil).1 25 (by rw [((hsh84.x.tr (hsh96.x.tr (xe34.tr xe46))).A h_o1).2.1]; decide) |>.1]
                    have k70 : (S63.I o1 26).toInt = (S44.I o1 26).toInt := by rw [(w61.fR o1 ((hsh84.x.tr (hsh96.x.tr (xe34.tr xe46))).A h_o1).1 List.not_mem_nil).1 26 (by rw [((hsh84.x.tr (hsh96.x.tr (xe34.tr xe46))).A h_o1).2.1]; decide) |>.1]
                    refine lv_iinc (v := w96_7 + (1 : Int32)) (lv' := [(7, .int (w96_7 + (1 : Int32))), (6, .int w84_6), (0, .ref o1), (1, .int x1), (2, .int x2), (3, .int x3), (4, .long x4)]) hx hb dX12_matches_198 hl (k := 0) rfl (by rfl) (by decide) rfl (fun ls hl => ?_)
                    refine lv_goto (tgt := 96) hx hb dX12_matches_201 (by decide) ?_
                    have i71 : (w96_7 + (1 : Int32)).toInt = w96_7.toInt + 1 := t_addr (n := 1) rfl (by omega)
                    exact ih96 S63 (w96_7 + (1 : Int32)) _ _ _ (Nat.lt_of_lt_of_le (by omega) (Nat.le_of_lt_succ hm96)) (⟨by omega, v65⟩) t64 hP hD hS (lv_sub hl [0, 1, 2, 3, 4, 5, 6] rfl) ko96
                  · have c27i : (f_X12_isPair S96_ o1 (S96_.i (S.f o1 13) w84_6.toNatClampNeg) (S96_.i (S.f o1 14) w96_7.toNatClampNeg)).toInt = 0 := eq_v rfl rfl c27
                    refine lv_goto (tgt := 198) hx hb dX12_matches_136 (by decide) ?_
                    refine lv_iinc (v := w96_7 + (1 : Int32)) (lv' := [(7, .int (w96_7 + (1 : Int32))), (6, .int w84_6), (0, .ref o1), (1, .int x1), (2, .int x2), (3, .int x3), (4, .long x4)]) hx hb dX12_matches_198 hl (k := 0) rfl (by rfl) (by decide) rfl (fun ls hl => ?_)
                    refine lv_goto (tgt := 96) hx hb dX12_matches_201 (by decide) ?_
                    have l32_1 : (1 : Int32).toInt = 1 := rfl
                    have i72 : (w96_7 + (1 : Int32)).toInt = w96_7.toInt + 1 := t_addr (n := 1) rfl (by omega)
                    exact ih96 S96_ (w96_7 + (1 : Int32)) _ _ _ (Nat.lt_of_lt_of_le (by omega) (Nat.le_of_lt_succ hm96)) (⟨by omega, hi96.2⟩) hsh96 hP hD hS (lv_sub hl [0, 1, 2, 3, 4, 5, 6] rfl) ko96
          refine loop96 7 S84_ (0 : Int32) _ _ _ (by omega) (⟨by omega, hi84.2⟩) (stp.rf hsh84.w) hP hD hS (lv_sub hl [0, 1, 2, 3, 4, 5, 6] rfl) (fun S74 z75 H locs ls hi96 hsh96 hP hD hS hl => ?_)
          have t76 : stp [(12, 28), (23, 100)] [] [] S S74 := hsh84.tr hsh96 (fun _ q => q) (fun _ q => Or.inl q)
          have et76 := hsh96.x
          have hi96b := hi96.1
          refine lv_iinc (v := w84_6 + (1 : Int32)) (lv' := [(6, .int (w84_6 + (1 : Int32))), (7, .int z75), (0, .ref o1), (1, .int x1), (2, .int x2), (3, .int x3), (4, .long x4)]) hx hb dX12_matches_204 hl (k := 1) rfl (by rfl) (by decide) rfl (fun ls hl => ?_)
          refine lv_goto (tgt := 84) hx hb dX12_matches_207 (by decide) ?_
          have l32_1 : (1 : Int32).toInt = 1 := rfl
          have i77 : (w84_6 + (1 : Int32)).toInt = w84_6.toInt + 1 := t_addr (n := 1) rfl (by omega)
          exact ih84 S74 (w84_6 + (1 : Int32)) _ _ _ (Nat.lt_of_lt_of_le (by omega) (Nat.le_of_lt_succ hm84)) (⟨by omega, hi96.2⟩) t76 hP hD hS (lv_sub hl [0, 2, 3, 4, 5, 6] rfl) ko84
    refine loop84 8 S x1 _ _ _ (by omega) (⟨by omega, hv⟩) (stp.rf hW) hP hD hS (lv_sub hl [0, 1, 2, 3, 4, 5] rfl) (fun S79 z80 H locs ls hi84 hsh84 hP hD hS hl => ?_)
    have t81 : stp [(12, 28), (23, 100)] [] [] S S79 := t0.tr hsh84 (fun _ q => q) (fun _ q => Or.inl q)
    have et81 := hsh84.x
    have hi84b := hi84.1
    refine W.widen (k := 0) (n := 0) (Nat.le_of_ble_eq_true rfl) (Nat.le_of_ble_eq_true rfl) ?_
    exact W.vret hx hb hr (fun t ht hW9 => ⟨⟨S79, rfl, ⟨t81, (hi84.2)⟩, wd_end hP hK hD ht hW9.alike⟩, hS.F ht⟩) hS.2.2 dX12_matches_210 hlocks
  · have c10i : x3.toInt = (S.I o1 26).toInt := eq_v rfl rfl c10
    refine lv_aload_n hx hb dX12_matches_8 rfl (lv_at hl 0 rfl) ?_
    obtain ⟨k82, gk82, hk82⟩ := wGt (cy := cy) X S h_o1.1 h_o1.2.1
    refine va_get (D := D) (ci := 16) (v := .long (S.J o1 28)) (C := RX12) (T := TX12) (N := 34) hx hb hts hi_X12_matches_X12 hown hK hP k82 hk82 rfl 28 (by decide) (hts (.fieldLink RX12 464 "HobhouseModel" "bestSum" "J") (by decide +kernel)) (fun _ h9 => h9) rfl dX12_matches_9 ?_
    refine lv_lconst (v := 0) hx hb dX12_matches_12 (by decide) ?_
    refine W.lcmp hx hb dX12_matches_13 ?_
    refine lv_if_lt (tgt := 28) hx hb dX12_matches_14 (by decide) (fun c83 => ?_) (fun c83 => ?_)
    · have c83i := lc_lt c83
      refine lv_aload_n hx hb dX12_matches_28 rfl (lv_at hl 0 rfl) ?_
      refine lv_lload hx hb dX12_matches_29 (lv_at hl 4 rfl) ?_
      obtain ⟨k84, gk84, hk84⟩ := wGt (cy := cy) X S h_o1.1 h_o1.2.1
      refine va_put (D := D) (ci := 16) (v := .long x4) (ty := .long) (C := RX12) (T := TX12) (N := 34) hx hb hts hi_X12_matches_X12 tyX12 tyX12_ok nmX12 hown hK hP hD hS k84 hk84 rfl 28 (by decide) (hts (.fieldLink RX12 464 "HobhouseModel" "bestSum" "J") (by decide +kernel)) (fun _ h9 => h9) rfl (by decide +kernel) (rfl) (rfl) (Nat.le_of_ble_eq_true rfl) dX12_matches_31 (fun H locs hP2 hD2 hS => ?_)
      have e9 := wPuJ (cy := cy) (j := 28) (v := x4) hD h_o1.1 h_o1.2.1 gk84 rfl
      obtain ⟨S85, hS85⟩ : ∃ z, S.sJ o1 28 x4 = z := ⟨_, rfl⟩
      have s87 : stp [(12, 28)] [] [] S S85 := by rw [← hS85]; exact (stp.rf hW).J 28 x4 h_o1 (by decide)
      have v86 : IV S85 o1 := IV.keep s87 hW h_o1 (by decide) (by decide) hv
      have hP : va_P D vwCl (X ++ PL cy S85) H := by rw [← hS85, ← e9]; exact hP2
      have hD : va_D A (X ++ PL cy S85) := by rw [← hS85, ← e9]; exact hD2
      have xe88 : ext S S85 := by rw [← hS85]; exact ext.sJ _ _ _ _
      have t89 : stp [(12, 28), (23, 100)] [] [] S S85 := by rw [← hS85]; exact t0.J 28 x4 h_o1 (by decide)
      have k90 : (S85.I (S.f o1 0) 2).toInt = (S.I (S.f o1 0) 2).toInt := by rw [← hS85]; rfl
      have k91 : (S85.I o1 24).toInt = (S.I o1 24).toInt := by rw [← hS85]; rfl
      have k92 : (S85.I o1 25).toInt = (S.I o1 25).toInt := by rw [← hS85]; rfl
      have k93 : (S85.I o1 26).toInt = (S.I o1 26).toInt := by rw [← hS85]; rfl
      refine lv_iconst (v := 0) hx hb dX12_matches_34 (by decide) ?_
      refine lv_istore (lv' := [(6, .int (0 : Int32)), (0, .ref o1), (1, .int x1), (2, .int x2), (3, .int x3), (4, .long x4)]) hx hb dX12_matches_35 hl (by decide) rfl (fun ls hl => ?_)
      have l32_0 : (0 : Int32).toInt = 0 := rfl
      have loop37 : ∀ (n : Nat) (S37_ : wPS) (w37_6 : Int32) (H : Heap) (locs : List Loc) (ls : Array Slot), (5 - w37_6.toInt).toNat < n → (0 ≤ w37_6.toInt ∧ w37_6.toInt ≤ 4 ∧ (S37_.I o1 24).toInt = (S.I o1 24).toInt ∧ (S37_.I o1 25).toInt = (S.I o1 25).toInt ∧ (S37_.I o1 26).toInt = (S.I o1 26).toInt ∧ (S37_.I (S.f o1 0) 2).toInt = (S.I (S.f o1 0) 2).toInt) ∧ IV S37_ o1 → stp [(12, 28), (23, 100)] [] [] S85 S37_ → va_P D vwCl (X ++ PL cy S37_) H → va_D A (X ++ PL cy S37_) → va_S A s.heap H locs → lv_has ls 8 [(6, .int w37_6), (0, .ref o1), (1, .int x1), (2, .int x2), (3, .int x3), (4, .long x4)] → (∀ (S37_x : wPS) (w37_6x : Int32) (H : Heap) (locs : List Loc) (ls : Array Slot), (0 ≤ w37_6x.toInt ∧ w37_6x.toInt ≤ 4 ∧ (S37_x.I o1 24).toInt = (S.I o1 24).toInt ∧ (S37_x.I o1 25).toInt = (S.I o1 25).toInt ∧ (S37_x.I o1 26).toInt = (S.I o1 26).toInt ∧ (S37_x.I (S.f o1 0) 2).toInt = (S.I (S.f o1 0) 2).toInt) ∧ IV S37_x o1 → stp [(12, 28), (23, 100)] [] [] S85 S37_x → va_P D vwCl (X ++ PL cy S37_x) H → va_D A (X ++ PL cy S37_x) → va_S A s.heap H locs → lv_has ls 8 [(6, .int w37_6x), (0, .ref o1), (1, .int x1), (2, .int x2), (3, .int x3), (4, .long x4)] → W p l e (headSpec wsX12_matches ({ frames := 7, cells := 0, slots := 0, locals := 163 } : Room)).room s m [.ref o1, .int x1, .int x2, .int x3, .long x4].toArray below meth c H locs 0 0 (MQ below (va_Qv (fun (u : wPS) => stp [(12, 28), (23, 100)] [] [] S u ∧ IV u o1) (fun u t => WD D cy X A u t) A) [.ref o1, .int x1, .int x2, .int x3, .long x4].toArray s 0 0 A) (F0 m 80 ls [])) → W p l e (headSpec wsX12_matches ({ frames := 7, cells := 0, slots := 0, locals := 163 } : Room)).room s m [.ref o1, .int x1, .int x2, .int x3, .long x4].toArray below meth c H locs 0 0 (MQ below (va_Qv (fun (u : wPS) => stp [(12, 28), (23, 100)] [] [] S u ∧ IV u o1) (fun u t => WD D cy X A u t) A) [.ref o1, .int x1, .int x2, .int x3, .long x4].toArray s 0 0 A) (F0 m 37 ls []) := by
        intro n37
        induction n37 with
        | zero => intro S37_ w37_6 H locs ls hm; exact absurd hm (Nat.not_lt_zero _)
        | succ n37 ih37 =>
          intro S37_ w37_6 H locs ls hm37 hi37 hsh37 hP hD hS hl ko37
          have hi37a := hi37.1
          refine lv_iload hx hb dX12_matches_37 (lv_at hl 0 rfl) ?_
          refine lv_aload_n hx hb dX12_matches_39 rfl (lv_at hl 1 rfl) ?_
          obtain ⟨k94, gk94, hk94⟩ := wGt (cy := cy) X S37_ ((xe88.tr hsh37.x).A h_o1).1 ((xe88.tr hsh37.x).A h_o1).2.1
          have i95 := ((hsh37.w.at ((xe88.tr hsh37.x).A h_o1) List.not_mem_nil).to_12 ((xe88.tr hsh37.x).A h_o1).2.1).R26
          refine va_get (D := D) (ci := 16) (v := .int (S37_.I o1 26)) (C := RX12) (T := TX12) (N := 34) hx hb hts hi_X12_matches_X12 hown hK hP k94 hk94 rfl 26 (by decide) (hts (.fieldLink RX12 461 "HobhouseModel" "wanted" "I") (by decide +kernel)) (fun _ h9 => h9) rfl dX12_matches_40 ?_
          refine lv_icmp_ge (tgt := 80) hx hb dX12_matches_43 (by decide) (fun c96 => ?_) (fun c96 => ?_)
          · have c96i : (S37_.I o1 26).toInt ≤ w37_6.toInt := le_v rfl rfl c96
            exact ko37 S37_ w37_6 _ _ _ (⟨by omega, hi37.2⟩) hsh37 hP hD hS (lv_sub hl [0, 1, 2, 3, 4, 5] rfl)
          · have c96i : w37_6.toInt < (S37_.I o1 26).toInt := nle_v rfl rfl c96
            refine lv_aload_n hx hb dX12_matches_46 rfl (lv_at hl 1 rfl) ?_
            obtain ⟨k97, gk97, hk97⟩ := wGt (cy := cy) X S37_ ((xe88.tr hsh37.x).A h_o1).1 ((xe88.tr hsh37.x).A h_o1).2.1
            simp only [kE, ((xe88.tr hsh37.x).F h_o1 (by decide) F4.1)] at hk97
            refine va_get (D := D) (ci := 16) (v := .ref (S.f o1 11)) (C := RX12) (T := TX12) (N := 34) hx hb hts hi_X12_matches_X12 hown hK hP k97 hk97 rfl 11 (by decide) (hts (.fieldLink RX12 60 "HobhouseModel" "bestFirst" "[I") (by decide +kernel)) (fun _ h9 => h9) rfl dX12_matches_47 ?_
            refine lv_iload hx hb dX12_matches_50 (lv_at hl 0 rfl) ?_
            refine lv_aload_n hx hb dX12_matches_52 rfl (lv_at hl 1 rfl) ?_
            obtain ⟨k98, gk98, hk98⟩ := wGt (cy := cy) X S37_ ((xe88.tr hsh37.x).A h_o1).1 ((xe88.tr hsh37.x).A h_o1).2.1
            simp only [kE, ((xe88.tr hsh37.x).F h_o1 (by decide) F2.1)] at hk98
            refine va_get (D := D) (ci := 16) (v := .ref (S.f o1 9)) (C := RX12) (T := TX12) (N := 34) hx hb hts hi_X12_matches_X12 hown hK hP k98 hk98 rfl 9 (by decide) (hts (.fieldLink RX12 54 "HobhouseModel" "pairFirst" "[I") (by decide +kernel)) (fun _ h9 => h9) rfl dX12_matches_53 ?_
            refine lv_iload hx hb dX12_matches_56 (lv_at hl 0 rfl) ?_
            obtain ⟨k99, gk99, hk99⟩ := wGt (cy := cy) X S37_ ((xe88.tr hsh37.x).A F2.2.1).1 ((xe88.tr hsh37.x).A F2.2.1).2.1
            refine va_iald hx hb hK hP k99 2 hk99 rfl (inb (m := 4) (((xe88.tr hsh37.x).n F2.2.1).trans F2.2.2) (by omega) (by omega)) dX12_matches_58 ?_
            obtain ⟨k100, gk100, hk100⟩ := wGt (cy := cy) X S37_ ((xe88.tr hsh37.x).A F4.2.1).1 ((xe88.tr hsh37.x).A F4.2.1).2.1
            refine va_iast hx hb hK hP hD hS k100 2 hk100 rfl (inb (m := 4) (((xe88.tr hsh37.x).n F4.2.1).trans F4.2.2) (by omega) (by omega)) dX12_matches_59 (fun H locs hP2 hD2 hS => ?_)
            have e9 := wPui (cy := cy) (f := (upd (S37_.i (S.f o1 11)) w37_6.toNatClampNeg (S37_.i (S.f o1 9) w37_6.toNatClampNeg))) hD ((xe88.tr hsh37.x).A F4.2.1).1 ((xe88.tr hsh37.x).A F4.2.1).2.1 gk100 rfl
            obtain ⟨S101, hS101⟩ : ∃ z, S37_.si (S.f o1 11) (upd (S37_.i (S.f o1 11)) w37_6.toNatClampNeg (S37_.i (S.f o1 9) w37_6.toNatClampNeg)) = z := ⟨_, rfl⟩
            have v102 : IV S101 o1 := by rw [← hS101]; exact IV.set hi37.2 (f_of ((xe88.tr hsh37.x).F h_o1 (by decide) F1.1)) (iv_at hi37.2 (j := 9) (by decide) (by decide) (f_of ((xe88.tr hsh37.x).F h_o1 (by decide) F2.1)) (f_of ((xe88.tr hsh37.x).F h_o1 (by decide) F1.1)) w37_6.toNatClampNeg)
            have hP : va_P D vwCl (X ++ PL cy S101) H := by rw [← hS101, ← e9]; exact hP2
            have hD : va_D A (X ++ PL cy S101) := by rw [← hS101, ← e9]; exact hD2
            have xe103 : ext S37_ S101 := by rw [← hS101]; exact ext.si _ _ _
            have t104 : stp [(12, 28), (23, 100)] [] [] S85 S101 := by rw [← hS101]; exact hsh37.i (upd (S37_.i (S.f o1 11)) w37_6.toNatClampNeg (S37_.i (S.f o1 9) w37_6.toNatClampNeg)) ((xe88.tr hsh37.x).A F4.2.1) (by decide)
            have k105 : (S101.I (S.f o1 0) 2).toInt = (S37_.I (S.f o1 0) 2).toInt := by rw [← hS101]; rfl
            have k106 : (S101.I o1 24).toInt = (S37_.I o1 24).toInt := by rw [← hS101]; rfl
            have k107 : (S101.I o1 25).toInt = (S37_.I o1 25).toInt := by rw [← hS101]; rfl
            have k108 : (S101.I o1 26).toInt = (S37_.I o1 26).toInt := by rw [← hS101]; rfl
            refine lv_aload_n hx hb dX12_matches_60 rfl (lv_at hl 1 rfl) ?_
            obtain ⟨k109, gk109, hk109⟩ := wGt (cy := cy) X S101 (xe103.A ((xe88.tr hsh37.x).A h_o1)).1 (xe103.A ((xe88.tr hsh37.x).A h_o1)).2.1
            simp only [kE, ((xe88.tr (hsh37.x.tr xe103)).F h_o1 (by decide) F5.1)] at hk109
            refine va_get (D := D) (ci := 16) (v := .ref (S.f o1 12)) (C := RX12) (T := TX12) (N := 34) hx hb hts hi_X12_matches_X12 hown hK hP k109 hk109 rfl 12 (by decide) (hts (.fieldLink RX12 63 "HobhouseModel" "bestSecond" "[I") (by decide +kernel)) (fun _ h9 => h9) rfl dX12_matches_61 ?_
            refine lv_iload hx hb dX12_matches_64 (lv_at hl 0 rfl) ?_
            refine lv_aload_n hx hb dX12_matches_66 rfl (lv_at hl 1 rfl) ?_
            obtain ⟨k110, gk110, hk110⟩ := wGt (cy := cy) X S101 (xe103.A ((xe88.tr hsh37.x).A h_o1)).1 (xe103.A ((xe88.tr hsh37.x).A h_o1)).2.1
            simp only [kE, ((xe88.tr (hsh37.x.tr xe103)).F h_o1 (by decide) F3.1)] at hk110
            refine va_get (D := D) (ci := 16) (v := .ref (S.f o1 10)) (C := RX12) (T := TX12) (N := 34) hx hb hts hi_X12_matches_X12 hown hK hP k110 hk110 rfl 10 (by decide) (hts (.fieldLink RX12 57 "HobhouseModel" "pairSecond" "[I") (by decide +kernel)) (fun _ h9 => h9) rfl dX12_matches_67 ?_
            refine lv_iload hx hb dX12_matches_70 (lv_at hl 0 rfl) ?_
            obtain ⟨k111, gk111, hk111⟩ := wGt (cy := cy) X S101 ((xe88.tr (hsh37.x.tr xe103)).A F3.2.1).1 ((xe88.tr (hsh37.x.tr xe103)).A F3.2.1).2.1
            refine va_iald hx hb hK hP k111 2 hk111 rfl (inb (m := 4) (((xe88.tr (hsh37.x.tr xe103)).n F3.2.1).trans F3.2.2) (by omega) (by omega)) dX12_matches_72 ?_
            obtain ⟨k112, gk112, hk112⟩ := wGt (cy := cy) X S101 ((xe88.tr (hsh37.x.tr xe103)).A F5.2.1).1 ((xe88.tr (hsh37.x.tr xe103)).A F5.2.1).2.1
            refine va_iast hx hb hK hP hD hS k112 2 hk112 rfl (inb (m := 4) (((xe88.tr (hsh37.x.tr xe103)).n F5.2.1).trans F5.2.2) (by omega) (by omega)) dX12_matches_73 (fun H locs hP2 hD2 hS => ?_)
            have e9 := wPui (cy := cy) (f := (upd (S101.i (S.f o1 12)) w37_6.toNatClampNeg (S101.i (S.f o1 10) w37_6.toNatClampNeg))) hD ((xe88.tr (hsh37.x.tr xe103)).A F5.2.1).1 ((xe88.tr (hsh37.x.tr xe103)).A F5.2.1).2.1 gk112 rfl
            obtain ⟨S113, hS113⟩ : ∃ z, S101.si (S.f o1 12) (upd (S101.i (S.f o1 12)) w37_6.toNatClampNeg (S101.i (S.f o1 10) w37_6.toNatClampNeg)) = z := ⟨_, rfl⟩
            have v114 : IV S113 o1 := by rw [← hS113]; exact IV.set v102 (f_of ((xe88.tr (hsh37.x.tr xe103)).F h_o1 (by decide) F1.1)) (iv_at v102 (j := 10) (by decide) (by decide) (f_of ((xe88.tr (hsh37.x.tr xe103)).F h_o1 (by decide) F3.1)) (f_of ((xe88.tr (hsh37.x.tr xe103)).F h_o1 (by decide) F1.1)) w37_6.toNatClampNeg)
            have hP : va_P D vwCl (X ++ PL cy S113) H := by rw [← hS113, ← e9]; exact hP2
            have hD : va_D A (X ++ PL cy S113) := by rw [← hS113, ← e9]; exact hD2
            have xe115 : ext S101 S113 := by rw [← hS113]; exact ext.si _ _ _
            have t116 : stp [(12, 28), (23, 100)] [] [] S85 S113 := by rw [← hS113]; exact t104.i (upd (S101.i (S.f o1 12)) w37_6.toNatClampNeg (S101.i (S.f o1 10) w37_6.toNatClampNeg)) ((xe88.tr (hsh37.x.tr xe103)).A F5.2.1) (by decide)
            have k117 : (S113.I (S.f o1 0) 2).toInt = (S101.I (S.f o1 0) 2).toInt := by rw [← hS113]; rfl
            have k118 : (S113.I o1 24).toInt = (S101.I o1 24).toInt := by rw [← hS113]; rfl
            have k119 : (S113.I o1 25).toInt = (S101.I o1 25).toInt := by rw [← hS113]; rfl
            have k120 : (S113.I o1 26).toInt = (S101.I o1 26).toInt := by rw [← hS113]; rfl
            refine lv_iinc (v := w37_6 + (1 : Int32)) (lv' := [(6, .int (w37_6 + (1 : Int32))), (0, .ref o1), (1, .int x1), (2, .int x2), (3, .int x3), (4, .long x4)]) hx hb dX12_matches_74 hl (k := 0) rfl (by rfl) (by decide) rfl (fun ls hl => ?_)
            refine lv_goto (tgt := 37) hx hb dX12_matches_77 (by decide) ?_
            have l32_1 : (1 : Int32).toInt = 1 := rfl
            have i121 : (w37_6 + (1 : Int32)).toInt = w37_6.toInt + 1 := t_addr (n := 1) rfl (by omega)
            exact ih37 S113 (w37_6 + (1 : Int32)) _ _ _ (Nat.lt_of_lt_of_le (by omega) (Nat.le_of_lt_succ hm37)) (⟨by omega, v114⟩) t116 hP hD hS (lv_sub hl [0, 1, 2, 3, 4, 5] rfl) ko37
      refine loop37 6 S85 (0 : Int32) _ _ _ (by omega) (⟨by omega, v86⟩) (stp.rf t89.w) hP hD hS (lv_sub hl [0, 1, 2, 3, 4, 5] rfl) (fun S123 z124 H locs ls hi37 hsh37 hP hD hS hl => ?_)
      have t125 : stp [(12, 28), (23, 100)] [] [] S S123 := t89.tr hsh37 (fun _ q => q) (fun _ q => Or.inl q)
      have et125 := hsh37.x
      have hi37b := hi37.1
      refine W.widen (k := 0) (n := 0) (Nat.le_of_ble_eq_true rfl) (Nat.le_of_ble_eq_true rfl) ?_
      exact W.vret hx hb hr (fun t ht hW9 => ⟨⟨S123, rfl, ⟨t125, (hi37.2)⟩, wd_end hP hK hD ht hW9.alike⟩, hS.F ht⟩) hS.2.2 dX12_matches_80 hlocks
    · have c83i := lc_nlt c83
      refine lv_lload hx hb dX12_matches_17 (lv_at hl 4 rfl) ?_
      refine lv_aload_n hx hb dX12_matches_19 rfl (lv_at hl 0 rfl) ?_
      obtain ⟨k126, gk126, hk126⟩ := wGt (cy := cy) X S h_o1.1 h_o1.2.1
      refine va_get (D := D) (ci := 16) (v := .long (S.J o1 28)) (C := RX12) (T := TX12) (N := 34) hx hb hts hi_X12_matches_X12 hown hK hP k126 hk126 rfl 28 (by decide) (hts (.fieldLink RX12 464 "HobhouseModel" "bestSum" "J") (by decide +kernel)) (fun _ h9 => h9) rfl dX12_matches_20 ?_
      refine W.lcmp hx hb dX12_matches_23 ?_
      refine lv_if_lt (tgt := 28) hx hb dX12_matches_24 (by decide) (fun c127 => ?_) (fun c127 => ?_)
      · have c127i := lc_lt c127
        refine lv_aload_n hx hb dX12_matches_28 rfl (lv_at hl 0 rfl) ?_
        refine lv_lload hx hb dX12_matches_29 (lv_at hl 4 rfl) ?_
        obtain ⟨k128, gk128, hk128⟩ := wGt (cy := cy) X S h_o1.1 h_o1.2.1
        refine va_put (D := D) (ci := 16) (v := .long x4) (ty := .long) (C := RX12) (T := TX12) (N := 34) hx hb hts hi_X12_matches_X12 tyX12 tyX12_ok nmX12 hown hK hP hD hS k128 hk128 rfl 28 (by decide) (hts (.fieldLink RX12 464 "HobhouseModel" "bestSum" "J") (by decide +kernel)) (fun _ h9 => h9) rfl (by decide +kernel) (rfl) (rfl) (Nat.le_of_ble_eq_true rfl) dX12_matches_31 (fun H locs hP2 hD2 hS => ?_)
        have e9 := wPuJ (cy := cy) (j := 28) (v := x4) hD h_o1.1 h_o1.2.1 gk128 rfl
        obtain ⟨S129, hS129⟩ : ∃ z, S.sJ o1 28 x4 = z := ⟨_, rfl⟩
        have s131 : stp [(12, 28)] [] [] S S129 := by rw [← hS129]; exact (stp.rf hW).J 28 x4 h_o1 (by decide)
        have v130 : IV S129 o1 := IV.keep s131 hW h_o1 (by decide) (by decide) hv
        have hP : va_P D vwCl (X ++ PL cy S129) H := by rw [← hS129, ← e9]; exact hP2
        have hD : va_D A (X ++ PL cy S129) := by rw [← hS129, ← e9]; exact hD2
        have xe132 : ext S S129 := by rw [← hS129]; exact ext.sJ _ _ _ _
        have t133 : stp [(12, 28), (23, 100)] [] [] S S129 := by rw [← hS129]; exact t0.J 28 x4 h_o1 (by decide)
        have k134 : (S129.I (S.f o1 0) 2).toInt = (S.I (S.f o1 0) 2).toInt := by rw [← hS129]; rfl
        have k135 : (S129.I o1 24).toInt = (S.I o1 24).toInt := by rw [← hS129]; rfl
        have k136 : (S129.I o1 25).toInt = (S.I o1 25).toInt := by rw [← hS129]; rfl
        have k137 : (S129.I o1 26).toInt = (S.I o1 26).toInt := by rw [← hS129]; rfl
        refine lv_iconst (v := 0) hx hb dX12_matches_34 (by decide) ?_
        refine lv_istore (lv' := [(6, .int (0 : Int32)), (0, .ref o1), (1, .int x1), (2, .int x2), (3, .int x3), (4, .long x4)]) hx hb dX12_matches_35 hl (by decide) rfl (fun ls hl => ?_)
        have l32_0 : (0 : Int32).toInt = 0 := rfl
        have loop37 : ∀ (n : Nat) (S37_ : wPS) (w37_6 : Int32) (H : Heap) (locs : List Loc) (ls : Array Slot), (5 - w37_6.toInt).toNat < n → (0 ≤ w37_6.toInt ∧ w37_6.toInt ≤ 4 ∧ (S37_.I o1 24).toInt = (S.I o1 24).toInt ∧ (S37_.I o1 25).toInt = (S.I o1 25).toInt ∧ (S37_.I o1 26).toInt = (S.I o1 26).toInt ∧ (S37_.I (S.f o1 0) 2).toInt = (S.I (S.f o1 0) 2).toInt) ∧ IV S37_ o1 → stp [(12, 28), (23, 100)] [] [] S129 S37_ → va_P D vwCl (X ++ PL cy S37_) H → va_D A (X ++ PL cy S37_) → va_S A s.heap H locs → lv_has ls 8 [(6, .int w37_6), (0, .ref o1), (1, .int x1), (2, .int x2), (3, .int x3), (4, .long x4)] → (∀ (S37_x : wPS) (w37_6x : Int32) (H : Heap) (locs : List Loc) (ls : Array Slot), (0 ≤ w37_6x.toInt ∧ w37_6x.toInt ≤ 4 ∧ (S37_x.I o1 24).toInt = (S.I o1 24).toInt ∧ (S37_x.I o1 25).toInt = (S.I o1 25).toInt ∧ (S37_x.I o1 26).toInt = (S.I o1 26).toInt ∧ (S37_x.I (S.f o1 0) 2).toInt = (S.I (S.f o1 0) 2).toInt) ∧ IV S37_x o1 → stp [(12, 28), (23, 100)] [] [] S129 S37_x → va_P D vwCl (X ++ PL cy S37_x) H → va_D A (X ++ PL cy S37_x) → va_S A s.heap H locs → lv_has ls 8 [(6, .int w37_6x), (0, .ref o1), (1, .int x1), (2, .int x2), (3, .int x3), (4, .long x4)] → W p l e (headSpec wsX12_matches ({ frames := 7, cells := 0, slots := 0, locals := 163 } : Room)).room s m [.ref o1, .int x1, .int x2, .int x3, .long x4].toArray below meth c H locs 0 0 (MQ below (va_Qv (fun (u : wPS) => stp [(12, 28), (23, 100)] [] [] S u ∧ IV u o1) (fun u t => WD D cy X A u t) A) [.ref o1, .int x1, .int x2, .int x3, .long x4].toArray s 0 0 A) (F0 m 80 ls [])) → W p l e (headSpec wsX12_matches ({ frames := 7, cells := 0, slots := 0, locals := 163 } : Room)).room s m [.ref o1, .int x1, .int x2, .int x3, .long x4].toArray below meth c H locs 0 0 (MQ below (va_Qv (fun (u : wPS) => stp [(12, 28), (23, 100)] [] [] S u ∧ IV u o1) (fun u t => WD D cy X A u t) A) [.ref o1, .int x1, .int x2, .int x3, .long x4].toArray s 0 0 A) (F0 m 37 ls []) := by
          intro n37
          induction n37 with
          | zero => intro S37_ w37_6 H locs ls hm; exact absurd hm (Nat.not_lt_zero _)
          | succ n37 ih37 =>
            intro S37_ w37_6 H locs ls hm37 hi37 hsh37 hP hD hS hl ko37
            have hi37a := hi37.1
            refine lv_iload hx hb dX12_matches_37 (lv_at hl 0 rfl) ?_
            refine lv_aload_n hx hb dX12_matches_39 rfl (lv_at hl 1 rfl) ?_
            obtain ⟨k138, gk138, hk138⟩ := wGt (cy := cy) X S37_ ((xe132.tr hsh37.x).A h_o1).1 ((xe132.tr hsh37.x).A h_o1).2.1
            have i139 := ((hsh37.w.at ((xe132.tr hsh37.x).A h_o1) List.not_mem_nil).to_12 ((xe132.tr hsh37.x).A h_o1).2.1).R26
            refine va_get (D := D) (ci := 16) (v := .int (S37_.I o1 26)) (C := RX12) (T := TX12) (N := 34) hx hb hts hi_X12_matches_X12 hown hK hP k138 hk138 rfl 26 (by decide) (hts (.fieldLink RX12 461 "HobhouseModel" "wanted" "I") (by decide +kernel)) (fun _ h9 => h9) rfl dX12_matches_40 ?_
            refine lv_icmp_ge (tgt := 80) hx hb dX12_matches_43 (by decide) (fun c140 => ?_) (fun c140 => ?_)
            · have c140i : (S37_.I o1 26).toInt ≤ w37_6.toInt := le_v rfl rfl c140
              exact ko37 S37_ w37_6 _ _ _ (⟨by omega, hi37.2⟩) hsh37 hP hD hS (lv_sub hl [0, 1, 2, 3, 4, 5] rfl)
            · have c140i : w37_6.toInt < (S37_.I o1 26).toInt := nle_v rfl rfl c140
              refine lv_aload_n hx hb dX12_matches_46 rfl (lv_at hl 1 rfl) ?_
              obtain ⟨k141, gk141, hk141⟩ := wGt (cy := cy) X S37_ ((xe132.tr hsh37.x).A h_o1).1 ((xe132.tr hsh37.x).A h_o1).2.1
              simp only [kE, ((xe132.tr hsh37.x).F h_o1 (by decide) F4.1)] at hk141
              refine va_get (D := D) (ci := 16) (v := .ref (S.f o1 11)) (C := RX12) (T := TX12) (N := 34) hx hb hts hi_X12_matches_X12 hown hK hP k141 hk141 rfl 11 (by decide) (hts (.fieldLink RX12 60 "HobhouseModel" "bestFirst" "[I") (by decide +kernel)) (fun _ h9 => h9) rfl dX12_matches_47 ?_
              refine lv_iload hx hb dX12_matches_50 (lv_at hl 0 rfl) ?_
              refine lv_aload_n hx hb dX12_matches_52 rfl (lv_at hl 1 rfl) ?_
              obtain ⟨k142, gk142, hk142⟩ := wGt (cy := cy) X S37_ ((xe132.tr hsh37.x).A h_o1).1 ((xe132.tr hsh37.x).A h_o1).2.1
              simp only [kE, ((xe132.tr hsh37.x).F h_o1 (by decide) F2.1)] at hk142
              refine va_get (D := D) (ci := 16) (v := .ref (S.f o1 9)) (C := RX12) (T := TX12) (N := 34) hx hb hts hi_X12_matches_X12 hown hK hP k142 hk142 rfl 9 (by decide) (hts (.fieldLink RX12 54 "HobhouseModel" "pairFirst" "[I") (by decide +kernel)) (fun _ h9 => h9) rfl dX12_matches_53 ?_
              refine lv_iload hx hb dX12_matches_56 (lv_at hl 0 rfl) ?_
              obtain ⟨k143, gk143, hk143⟩ := wGt (cy := cy) X S37_ ((xe132.tr hsh37.x).A F2.2.1).1 ((xe132.tr hsh37.x).A F2.2.1).2.1
              refine va_iald hx hb hK hP k143 2 hk143 rfl (inb (m := 4) (((xe132.tr hsh37.x).n F2.2.1).trans F2.2.2) (by omega) (by omega)) dX12_matches_58 ?_
              obtain ⟨k144, gk144, hk144⟩ := wGt (cy := cy) X S37_ ((xe132.tr hsh37.x).A F4.2.1).1 ((xe132.tr hsh37.x).A F4.2.1).2.1
              refine va_iast hx hb hK hP hD hS k144 2 hk144 rfl (inb (m := 4) (((xe132.tr hsh37.x).n F4.2.1).trans F4.2.2) (by omega) (by omega)) dX12_matches_59 (fun H locs hP2 hD2 hS => ?_)
              have e9 := wPui (cy := cy) (f := (upd (S37_.i (S.f o1 11)) w37_6.toNatClampNeg (S37_.i (S.f o1 9) w37_6.toNatClampNeg))) hD ((xe132.tr hsh37.x).A F4.2.1).1 ((xe132.tr hsh37.x).A F4.2.1).2.1 gk144 rfl
              obtain ⟨S145, hS145⟩ : ∃ z, S37_.si (S.f o1 11) (upd (S37_.i (S.f o1 11)) w37_6.toNatClampNeg (S37_.i (S.f o1 9) w37_6.toNatClampNeg)) = z := ⟨_, rfl⟩
              have v146 : IV S145 o1 := by rw [← hS145]; exact IV.set hi37.2 (f_of ((xe132.tr hsh37.x).F h_o1 (by decide) F1.1)) (iv_at hi37.2 (j := 9) (by decide) (by decide) (f_of ((xe132.tr hsh37.x).F h_o1 (by decide) F2.1)) (f_of ((xe132.tr hsh37.x).F h_o1 (by decide) F1.1)) w37_6.toNatClampNeg)
              have hP : va_P D vwCl (X ++ PL cy S145) H := by rw [← hS145, ← e9]; exact hP2
              have hD : va_D A (X ++ PL cy S145) := by rw [← hS145, ← e9]; exact hD2
              have xe147 : ext S37_ S145 := by rw [← hS145]; exact ext.si _ _ _
              have t148 : stp [(12, 28), (23, 100)] [] [] S129 S145 := by rw [← hS145]; exact hsh37.i (upd (S37_.i (S.f o1 11)) w37_6.toNatClampNeg (S37_.i (S.f o1 9) w37_6.toNatClampNeg)) ((xe132.tr hsh37.x).A F4.2.1) (by decide)
              have k149 : (S145.I (S.f o1 0) 2).toInt = (S37_.I (S.f o1 0) 2).toInt := by rw [← hS145]; rfl
              have k150 : (S145.I o1 24).toInt = (S37_.I o1 24).toInt := by rw [← hS145]; rfl
              have k151 : (S145.I o1 25).toInt = (S37_.I o1 25).toInt := by rw [← hS145]; rfl
              have k152 : (S145.I o1 26).toInt = (S37_.I o1 26).toInt := by rw [← hS145]; rfl
              refine lv_aload_n hx hb dX12_matches_60 rfl (lv_at hl 1 rfl) ?_
              obtain ⟨k153, gk153, hk153⟩ := wGt (cy := cy) X S145 (xe147.A ((xe132.tr hsh37.x).A h_o1)).1 (xe147.A ((xe132.tr hsh37.x).A h_o1)).2.1
              simp only [kE, ((xe132.tr (hsh37.x.tr xe147)).F h_o1 (by decide) F5.1)] at hk153
              refine va_get (D := D) (ci := 16) (v := .ref (S.f o1 12)) (C := RX12) (T := TX12) (N := 34) hx hb hts hi_X12_matches_X12 hown hK hP k153 hk153 rfl 12 (by decide) (hts (.fieldLink RX12 63 "HobhouseModel" "bestSecond" "[I") (by decide +kernel)) (fun _ h9 => h9) rfl dX12_matches_61 ?_
              refine lv_iload hx hb dX12_matches_64 (lv_at hl 0 rfl) ?_
              refine lv_aload_n hx hb dX12_matches_66 rfl (lv_at hl 1 rfl) ?_
              obtain ⟨k154, gk154, hk154⟩ := wGt (cy := cy) X S145 (xe147.A ((xe132.tr hsh37.x).A h_o1)).1 (xe147.A ((xe132.tr hsh37.x).A h_o1)).2.1
              simp only [kE, ((xe132.tr (hsh37.x.tr xe147)).F h_o1 (by decide) F3.1)] at hk154
              refine va_get (D := D) (ci := 16) (v := .ref (S.f o1 10)) (C := RX12) (T := TX12) (N := 34) hx hb hts hi_X12_matches_X12 hown hK hP k154 hk154 rfl 10 (by decide) (hts (.fieldLink RX12 57 "HobhouseModel" "pairSecond" "[I") (by decide +kernel)) (fun _ h9 => h9) rfl dX12_matches_67 ?_
              refine lv_iload hx hb dX12_matches_70 (lv_at hl 0 rfl) ?_
              obtain ⟨k155, gk155, hk155⟩ := wGt (cy := cy) X S145 ((xe132.tr (hsh37.x.tr xe147)).A F3.2.1).1 ((xe132.tr (hsh37.x.tr xe147)).A F3.2.1).2.1
              refine va_iald hx hb hK hP k155 2 hk155 rfl (inb (m := 4) (((xe132.tr (hsh37.x.tr xe147)).n F3.2.1).trans F3.2.2) (by omega) (by omega)) dX12_matches_72 ?_
              obtain ⟨k156, gk156, hk156⟩ := wGt (cy := cy) X S145 ((xe132.tr (hsh37.x.tr xe147)).A F5.2.1).1 ((xe132.tr (hsh37.x.tr xe147)).A F5.2.1).2.1
              refine va_iast hx hb hK hP hD hS k156 2 hk156 rfl (inb (m := 4) (((xe132.tr (hsh37.x.tr xe147)).n F5.2.1).trans F5.2.2) (by omega) (by omega)) dX12_matches_73 (fun H locs hP2 hD2 hS => ?_)
              have e9 := wPui (cy := cy) (f := (upd (S145.i (S.f o1 12)) w37_6.toNatClampNeg (S145.i (S.f o1 10) w37_6.toNatClampNeg))) hD ((xe132.tr (hsh37.x.tr xe147)).A F5.2.1).1 ((xe132.tr (hsh37.x.tr xe147)).A F5.2.1).2.1 gk156 rfl
              obtain ⟨S157, hS157⟩ : ∃ z, S145.si (S.f o1 12) (upd (S145.i (S.f o1 12)) w37_6.toNatClampNeg (S145.i (S.f o1 10) w37_6.toNatClampNeg)) = z := ⟨_, rfl⟩
              have v158 : IV S157 o1 := by rw [← hS157]; exact IV.set v146 (f_of ((xe132.tr (hsh37.x.tr xe147)).F h_o1 (by decide) F1.1)) (iv_at v146 (j := 10) (by decide) (by decide) (f_of ((xe132.tr (hsh37.x.tr xe147)).F h_o1 (by decide) F3.1)) (f_of ((xe132.tr (hsh37.x.tr xe147)).F h_o1 (by decide) F1.1)) w37_6.toNatClampNeg)
              have hP : va_P D vwCl (X ++ PL cy S157) H := by rw [← hS157, ← e9]; exact hP2
              have hD : va_D A (X ++ PL cy S157) := by rw [← hS157, ← e9]; exact hD2
              have xe159 : ext S145 S157 := by rw [← hS157]; exact ext.si _ _ _
              have t160 : stp [(12, 28), (23, 100)] [] [] S129 S157 := by rw [← hS157]; exact t148.i (upd (S145.i (S.f o1 12)) w37_6.toNatClampNeg (S145.i (S.f o1 10) w37_6.toNatClampNeg)) ((xe132.tr (hsh37.x.tr xe147)).A F5.2.1) (by decide)
              have k161 : (S157.I (S.f o1 0) 2).toInt = (S145.I (S.f o1 0) 2).toInt := by rw [← hS157]; rfl
              have k162 : (S157.I o1 24).toInt = (S145.I o1 24).toInt := by rw [← hS157]; rfl
              have k163 : (S157.I o1 25).toInt = (S145.I o1 25).toInt := by rw [← hS157]; rfl
              have k164 : (S157.I o1 26).toInt = (S145.I o1 26).toInt := by rw [← hS157]; rfl
              refine lv_iinc (v := w37_6 + (1 : Int32)) (lv' := [(6, .int (w37_6 + (1 : Int32))), (0, .ref o1), (1, .int x1), (2, .int x2), (3, .int x3), (4, .long x4)]) hx hb dX12_matches_74 hl (k := 0) rfl (by rfl) (by decide) rfl (fun ls hl => ?_)
              refine lv_goto (tgt := 37) hx hb dX12_matches_77 (by decide) ?_
              have l32_1 : (1 : Int32).toInt = 1 := rfl
              have i165 : (w37_6 + (1 : Int32)).toInt = w37_6.toInt + 1 := t_addr (n := 1) rfl (by omega)
              exact ih37 S157 (w37_6 + (1 : Int32)) _ _ _ (Nat.lt_of_lt_of_le (by omega) (Nat.le_of_lt_succ hm37)) (⟨by omega, v158⟩) t160 hP hD hS (lv_sub hl [0, 1, 2, 3, 4, 5] rfl) ko37
        refine loop37 6 S129 (0 : Int32) _ _ _ (by omega) (⟨by omega, v130⟩) (stp.rf t133.w) hP hD hS (lv_sub hl [0, 1, 2, 3, 4, 5] rfl) (fun S167 z168 H locs ls hi37 hsh37 hP hD hS hl => ?_)
        have t169 : stp [(12, 28), (23, 100)] [] [] S S167 := t133.tr hsh37 (fun _ q => q) (fun _ q => Or.inl q)
        have et169 := hsh37.x
        have hi37b := hi37.1
        refine W.widen (k := 0) (n := 0) (Nat.le_of_ble_eq_true rfl) (Nat.le_of_ble_eq_true rfl) ?_
        exact W.vret hx hb hr (fun t ht hW9 => ⟨⟨S167, rfl, ⟨t169, (hi37.2)⟩, wd_end hP hK hD ht hW9.alike⟩, hS.F ht⟩) hS.2.2 dX12_matches_80 hlocks
      · have c127i := lc_nlt c127
        refine W.widen (k := 0) (n := 0) (Nat.le_of_ble_eq_true rfl) (Nat.le_of_ble_eq_true rfl) ?_
        exact W.vret hx hb hr (fun t ht hW9 => ⟨⟨S, rfl, ⟨t0, (hv)⟩, wd_end hP hK hD ht hW9.alike⟩, hS.F ht⟩) hS.2.2 dX12_matches_27 hlocks
set_option maxHeartbeats 4000000 in
set_option maxRecDepth 100000 in
theorem c_X12_matches_0 (l : Launch) {D : va_G} {cy : Nat → ClassId} {X : va_W} (S : wPS) (sz : Nat) (o1 : Nat) (h_o1 : isA S o1 12) (x1 : Int32) (x2 : Int32) (x3 : Int32) (x4 : Int64) (hW : wtB S []) (hv : IV S o1) (hd : x3.toInt = 0 ∧ 0 ≤ (S.I o1 26).toInt) (hf : 0 ≤ x1.toInt ∧ x1.toInt ≤ 6) (hs : ((S.I o1 24).toInt = 0 ∨ 1 ≤ (S.I (S.f o1 0) 2).toInt) ∧ 1 ≤ (S.I o1 26).toInt ∧ ((S.J o1 28).toInt < 0 ∨ 1 ≤ (S.I (S.f o1 0) 2).toInt)) : Met l yX12_matches wsX12_matches ({ frames := 8, cells := 0, slots := 0, locals := 190 }) (va_Pc [.ref o1, .int x1, .int x2, .int x3, .long x4] (fun U => U.heap.size = sz ∧ WD D cy X (fun _ => True) S U ∧ NW U)) (va_Qv (fun (u : wPS) => stp [(12, 28), (23, 100)] [] [] S u ∧ IV u o1 ∧ ((u.J o1 28).toInt < 0 ∨ 1 ≤ (S.I (S.f o1 0) 2).toInt)) (fun u t => WD D cy X (va_A (X ++ PL cy S) sz) u t) (va_A (X ++ PL cy S) sz)) 0 0 (va_A (X ++ PL cy S) sz) := by
  refine Met.ofW (cc := cX12_matches) (maxL := 8) (ret := none) (by decide) rfl ?_
  intro p e s m args below meth c s₁ B hml hv
  obtain ⟨rfl, hsz, ⟨hP, hK, hD0⟩, hN⟩ := hv
  have hx := B.exec
  have hb := B.bytes
  have hr := B.returns
  have hts := atoms_spec (ws := wsX12_matches) B.pre
  have hown : s.vm.findClass RX12 = some m.cls := findClass_of_methodNamed (x := yX12_matches) B.named
  have hlocks := B.notSynchronized
  subst hsz
  have hD := hD0.self (sz := s.heap.size)
  generalize hAe : va_A (X ++ PL cy S) s.heap.size = A at hD ⊢
  have hA : ∀ q : Nat, s.heap.size ≤ q → A q := fun q h => by rw [← hAe]; exact Or.inr h
  have hS : va_S A s.heap s.heap [] := va_S.rf
  have hl := lv_entry ([.ref o1, .int x1, .int x2, .int x3, .long x4]) (n := 8) (Nat.le_of_ble_eq_true rfl)
  rw [lg_entry_eq]
  generalize (lg_sl ([.ref o1, .int x1, .int x2, .int x3, .long x4]) ++ List.replicate (8 - (lg_sl ([.ref o1, .int x1, .int x2, .int x3, .long x4])).length) Slot.unset).toArray = ls at hl ⊢
  have hl : lv_has ls 8 [(0, .ref o1), (1, .int x1), (2, .int x2), (3, .int x3), (4, .long x4)] := hl
  have t0 : stp [(12, 28), (23, 100)] [] [] S S := stp.rf hW
  have F1 := ((hW.at h_o1 List.not_mem_nil).to_12 h_o1.2.1).F0
  have F2 := ((hW.at h_o1 List.not_mem_nil).to_12 h_o1.2.1).F9
  have F3 := ((hW.at h_o1 List.not_mem_nil).to_12 h_o1.2.1).F10
  have F4 := ((hW.at h_o1 List.not_mem_nil).to_12 h_o1.2.1).F11
  have F5 := ((hW.at h_o1 List.not_mem_nil).to_12 h_o1.2.1).F12
  have F6 := ((hW.at h_o1 List.not_mem_nil).to_12 h_o1.2.1).F13
  have F7 := ((hW.at h_o1 List.not_mem_nil).to_12 h_o1.2.1).F14
  refine lv_iload_n hx hb dX12_matches_0 rfl (lv_at hl 3 rfl) ?_
  refine lv_aload_n hx hb dX12_matches_1 rfl (lv_at hl 0 rfl) ?_
  obtain ⟨k8, gk8, hk8⟩ := wGt (cy := cy) X S h_o1.1 h_o1.2.1
  have i9 := ((hW.at h_o1 List.not_mem_nil).to_12 h_o1.2.1).R26
  refine va_get (D := D) (ci := 16) (v := .int (S.I o1 26)) (C := RX12) (T := TX12) (N := 34) hx hb hts hi_X12_matches_X12 hown hK hP k8 hk8 rfl 26 (by decide) (hts (.fieldLink RX12 461 "HobhouseModel" "wanted" "I") (by decide +kernel)) (fun _ h9 => h9) rfl dX12_matches_2 ?_
  refine lv_icmp_ne (tgt := 81) hx hb dX12_matches_5 (by decide) (fun c10 => ?_) (fun c10 => ?_)
  · have c10i : ¬ x3.toInt = (S.I o1 26).toInt := neq_v rfl rfl c10
    refine lv_iload_n hx hb dX12_matches_81 rfl (lv_at hl 1 rfl) ?_
    refine lv_istore (lv' := [(6, .int x1), (0, .ref o1), (1, .int x1), (2, .int x2), (3, .int x3), (4, .long x4)]) hx hb dX12_matches_82 hl (by decide) rfl (fun ls hl => ?_)
    have loop84 : ∀ (n : Nat) (S84_ : wPS) (w84_6 : Int32) (H : Heap) (locs : List Loc) (ls : Array Slot), (7 - w84_6.toInt).toNat < n → (0 ≤ w84_6.toInt ∧ w84_6.toInt ≤ 6 ∧ (S84_.I o1 24).toInt = (S.I o1 24).toInt ∧ (S84_.I o1 25).toInt = (S.I o1 25).toInt ∧ (S84_.I o1 26).toInt = (S.I o1 26).toInt ∧ (S84_.I (S.f o1 0) 2).toInt = (S.I (S.f o1 0) 2).toInt ∧ ((S84_.J o1 28).toInt < 0 ∨ 1 ≤ (S.I (S.f o1 0) 2).toInt)) ∧ IV S84_ o1 → stp [(12, 28), (23, 100)] [] [] S S84_ → va_P D vwCl (X ++ PL cy S84_) H → va_D A (X ++ PL cy S84_) → va_S A s.heap H locs → lv_has ls 8 [(6, .int w84_6), (0, .ref o1), (1, .int x1), (2, .int x2), (3, .int x3), (4, .long x4)] → (∀ (S84_x : wPS) (w84_6x : Int32) (H : Heap) (locs : List Loc) (ls : Array Slot), (0 ≤ w84_6x.toInt ∧ w84_6x.toInt ≤ 6 ∧ (S84_x.I o1 24).toInt = (S.I o1 24).toInt ∧ (S84_x.I o1 25).toInt = (S.I o1 25).toInt ∧ (S84_x.I o1 26).toInt = (S.I o1 26).toInt ∧ (S84_x.I (S.f o1 0) 2).toInt = (S.I (S.f o1 0) 2).toInt ∧ ((S84_x.J o1 28).toInt < 0 ∨ 1 ≤ (S.I (S.f o1 0) 2).toInt)) ∧ IV S84_x o1 → stp [(12, 28), (23, 100)] [] [] S S84_x → va_P D vwCl (X ++ PL cy S84_x) H → va_D A (X ++ PL cy S84_x) → va_S A s.heap H locs → lv_has ls 8 [(6, .int w84_6x), (0, .ref o1), (1, .int x1), (2, .int x2), (3, .int x3), (4, .long x4)] → W p l e (headSpec wsX12_matches ({ frames := 8, cells := 0, slots := 0, locals := 190 } : Room)).room s m [.ref o1, .int x1, .int x2, .int x3, .long x4].toArray below meth c H locs 0 0 (MQ below (va_Qv (fun (u : wPS) => stp [(12, 28), (23, 100)] [] [] S u ∧ IV u o1 ∧ ((u.J o1 28).toInt < 0 ∨ 1 ≤ (S.I (S.f o1 0) 2).toInt)) (fun u t => WD D cy X A u t) A) [.ref o1, .int x1, .int x2, .int x3, .long x4].toArray s 0 0 A) (F0 m 210 ls [])) → W p l e (headSpec wsX12_matches ({ frames := 8, cells := 0, slots := 0, locals := 190 } : Room)).room s m [.ref o1, .int x1, .int x2, .int x3, .long x4].toArray below meth c H locs 0 0 (MQ below (va_Qv (fun (u : wPS) => stp [(12, 28), (23, 100)] [] [] S u ∧ IV u o1 ∧ ((u.J o1 28).toInt < 0 ∨ 1 ≤ (S.I (S.f o1 0) 2).toInt)) (fun u t => WD D cy X A u t) A) [.ref o1, .int x1, .int x2, .int x3, .long x4].toArray s 0 0 A) (F0 m 84 ls []) := by
      intro n84
      induction n84 with
      | zero => intro S84_ w84_6 H locs ls hm; exact absurd hm (Nat.not_lt_zero _)
      | succ n84 ih84 =>
        intro S84_ w84_6 H locs ls hm84 hi84 hsh84 hP hD hS hl ko84
        have hi84a := hi84.1
        refine lv_iload hx hb dX12_matches_84 (lv_at hl 0 rfl) ?_
        refine lv_aload_n hx hb dX12_matches_86 rfl (lv_at hl 1 rfl) ?_
        obtain ⟨k11, gk11, hk11⟩ := wGt (cy := cy) X S84_ (hsh84.x.A h_o1).1 (hsh84.x.A h_o1).2.1
        have i12 := ((hsh84.w.at (hsh84.x.A h_o1) List.not_mem_nil).to_12 (hsh84.x.A h_o1).2.1).R24
        refine va_get (D := D) (ci := 16) (v := .int (S84_.I o1 24)) (C := RX12) (T := TX12) (N := 34) hx hb hts hi_X12_matches_X12 hown hK hP k11 hk11 rfl 24 (by decide) (hts (.fieldLink RX12 467 "HobhouseModel" "manyFirst" "I") (by decide +kernel)) (fun _ h9 => h9) rfl dX12_matches_87 ?_
        refine lv_icmp_ge (tgt := 210) hx hb dX12_matches_90 (by decide) (fun c13 => ?_) (fun c13 => ?_)
        · have c13i : (S84_.I o1 24).toInt ≤ w84_6.toInt := le_v rfl rfl c13
          exact ko84 S84_ w84_6 _ _ _ (⟨by omega, hi84.2⟩) hsh84 hP hD hS (lv_sub hl [0, 1, 2, 3, 4, 5] rfl)
        · have c13i : w84_6.toInt < (S84_.I o1 24).toInt := nle_v rfl rfl c13
          refine lv_iconst (v := 0) hx hb dX12_matches_93 (by decide) ?_
          refine lv_istore (lv' := [(7, .int (0 : Int32)), (6, .int w84_6), (0, .ref o1), (1, .int x1), (2, .int x2), (3, .int x3), (4, .long x4)]) hx hb dX12_matches_94 hl (by decide) rfl (fun ls hl => ?_)
          have l32_0 : (0 : Int32).toInt = 0 := rfl
          have loop96 : ∀ (n : Nat) (S96_ : wPS) (w96_7 : Int32) (H : Heap) (locs : List Loc) (ls : Array Slot), (6 - w96_7.toInt).toNat < n → (0 ≤ w96_7.toInt ∧ w96_7.toInt ≤ 5 ∧ (S96_.I o1 24).toInt = (S.I o1 24).toInt ∧ (S96_.I o1 25).toInt = (S.I o1 25).toInt ∧ (S96_.I o1 26).toInt = (S.I o1 26).toInt ∧ (S96_.I (S.f o1 0) 2).toInt = (S.I (S.f o1 0) 2).toInt ∧ ((S96_.J o1 28).toInt < 0 ∨ 1 ≤ (S.I (S.f o1 0) 2).toInt)) ∧ IV S96_ o1 → stp [(12, 28), (23, 100)] [] [] S84_ S96_ → va_P D vwCl (X ++ PL cy S96_) H → va_D A (X ++ PL cy S96_) → va_S A s.heap H locs → lv_has ls 8 [(7, .int w96_7), (6, .int w84_6), (0, .ref o1), (1, .int x1), (2, .int x2), (3, .int x3), (4, .long x4)] → (∀ (S96_x : wPS) (w96_7x : Int32) (H : Heap) (locs : List Loc) (ls : Array Slot), (0 ≤ w96_7x.toInt ∧ w96_7x.toInt ≤ 5 ∧ (S96_x.I o1 24).toInt = (S.I o1 24).toInt ∧ (S96_x.I o1 25).toInt = (S.I o1 25).toInt ∧ (S96_x.I o1 26).toInt = (S.I o1 26).toInt ∧ (S96_x.I (S.f o1 0) 2).toInt = (S.I (S.f o1 0) 2).toInt ∧ ((S96_x.J o1 28).toInt < 0 ∨ 1 ≤ (S.I (S.f o1 0) 2).toInt)) ∧ IV S96_x o1 → stp [(12, 28), (23, 100)] [] [] S84_ S96_x → va_P D vwCl (X ++ PL cy S96_x) H → va_D A (X ++ PL cy S96_x) → va_S A s.heap H locs → lv_has ls 8 [(7, .int w96_7x), (6, .int w84_6), (0, .ref o1), (1, .int x1), (2, .int x2), (3, .int x3), (4, .long x4)] → W p l e (headSpec wsX12_matches ({ frames := 8, cells := 0, slots := 0, locals := 190 } : Room)).room s m [.ref o1, .int x1, .int x2, .int x3, .long x4].toArray below meth c H locs 0 0 (MQ below (va_Qv (fun (u : wPS) => stp [(12, 28), (23, 100)] [] [] S u ∧ IV u o1 ∧ ((u.J o1 28).toInt < 0 ∨ 1 ≤ (S.I (S.f o1 0) 2).toInt)) (fun u t => WD D cy X A u t) A) [.ref o1, .int x1, .int x2, .int x3, .long x4].toArray s 0 0 A) (F0 m 204 ls [])) → W p l e (headSpec wsX12_matches ({ frames := 8, cells := 0, slots := 0, locals := 190 } : Room)).room s m [.ref o1, .int x1, .int x2, .int x3, .long x4].toArray below meth c H locs 0 0 (MQ below (va_Qv (fun (u : wPS) => stp [(12, 28), (23, 100)] [] [] S u ∧ IV u o1 ∧ ((u.J o1 28).toInt < 0 ∨ 1 ≤ (S.I (S.f o1 0) 2).toInt)) (fun u t => WD D cy X A u t) A) [.ref o1, .int x1, .int x2, .int x3, .long x4].toArray s 0 0 A) (F0 m 96 ls []) := by
            intro n96
            induction n96 with
            | zero => intro S96_ w96_7 H locs ls hm; exact absurd hm (Nat.not_lt_zero _)
            | succ n96 ih96 =>
              intro S96_ w96_7 H locs ls hm96 hi96 hsh96 hP hD hS hl ko96
              have hi96a := hi96.1
              refine lv_iload hx hb dX12_matches_96 (lv_at hl 0 rfl) ?_
              refine lv_aload_n hx hb dX12_matches_98 rfl (lv_at hl 2 rfl) ?_
              obtain ⟨k14, gk14, hk14⟩ := wGt (cy := cy) X S96_ (hsh96.x.A (hsh84.x.A h_o1)).1 (hsh96.x.A (hsh84.x.A h_o1)).2.1
              have i15 := ((hsh96.w.at (hsh96.x.A (hsh84.x.A h_o1)) List.not_mem_nil).to_12 (hsh96.x.A (hsh84.x.A h_o1)).2.1).R25
              refine va_get (D := D) (ci := 16) (v := .int (S96_.I o1 25)) (C := RX12) (T := TX12) (N := 34) hx hb hts hi_X12_matches_X12 hown hK hP k14 hk14 rfl 25 (by decide) (hts (.fieldLink RX12 470 "HobhouseModel" "manySecond" "I") (by decide +kernel)) (fun _ h9 => h9) rfl dX12_matches_99 ?_
              refine lv_icmp_ge (tgt := 204) hx hb dX12_matches_102 (by decide) (fun c16 => ?_) (fun c16 => ?_)
              · have c16i : (S96_.I o1 25).toInt ≤ w96_7.toInt := le_v rfl rfl c16
                exact ko96 S96_ w96_7 _ _ _ (⟨by omega, hi96.2⟩) hsh96 hP hD hS (lv_sub hl [0, 1, 2, 3, 4, 5, 6] rfl)
              · have c16i : w96_7.toInt < (S96_.I o1 25).toInt := nle_v rfl rfl c16
                refine lv_iload_n hx hb dX12_matches_105 rfl (lv_at hl 4 rfl) ?_
                refine lv_iload hx hb dX12_matches_106 (lv_at hl 0 rfl) ?_
                refine lv_ishr hx hb dX12_matches_108 ?_
                refine lv_iconst (v := 1) hx hb dX12_matches_109 (by decide) ?_
                refine lv_iand hx hb dX12_matches_110 ?_
                refine lv_iconst (v := 1) hx hb dX12_matches_111 (by decide) ?_
                refine lv_icmp_eq (tgt := 198) hx hb dX12_matches_112 (by decide) (fun c17 => ?_) (fun c17 => ?_)
                · have c17i : ((x2 >>> (w96_7 &&& 31)) &&& (1 : Int32)).toInt = 1 := eq_v rfl rfl c17
                  refine lv_iinc (v := w96_7 + (1 : Int32)) (lv' := [(7, .int (w96_7 + (1 : Int32))), (6, .int w84_6), (0, .ref o1), (1, .int x1), (2, .int x2), (3, .int x3), (4, .long x4)]) hx hb dX12_matches_198 hl (k := 0) rfl (by rfl) (by decide) rfl (fun ls hl => ?_)
                  refine lv_goto (tgt := 96) hx hb dX12_matches_201 (by decide) ?_
                  have l32_1 : (1 : Int32).toInt = 1 := rfl
                  have i18 : (w96_7 + (1 : Int32)).toInt = w96_7.toInt + 1 := t_addr (n := 1) rfl (by omega)
                  exact ih96 S96_ (w96_7 + (1 : Int32)) _ _ _ (Nat.lt_of_lt_of_le (by omega) (Nat.le_of_lt_succ hm96)) (⟨by omega, hi96.2⟩) hsh96 hP hD hS (lv_sub hl [0, 1, 2, 3, 4, 5, 6] rfl) ko96
                · have c17i : ¬ ((x2 >>> (w96_7 &&& 31)) &&& (1 : Int32)).toInt = 1 := neq_v rfl rfl c17
                  refine lv_aload_n hx hb dX12_matches_115 rfl (lv_at hl 2 rfl) ?_
                  refine lv_aload_n hx hb dX12_matches_116 rfl (lv_at hl 2 rfl) ?_
                  obtain ⟨k19, gk19, hk19⟩ := wGt (cy := cy) X S96_ (hsh96.x.A (hsh84.x.A h_o1)).1 (hsh96.x.A (hsh84.x.A h_o1)).2.1
                  simp only [kE, ((hsh84.x.tr hsh96.x).F h_o1 (by decide) F6.1)] at hk19
                  refine va_get (D := D) (ci := 16) (v := .ref (S.f o1 13)) (C := RX12) (T := TX12) (N := 34) hx hb hts hi_X12_matches_X12 hown hK hP k19 hk19 rfl 13 (by decide) (hts (.fieldLink RX12 66 "HobhouseModel" "firsts" "[I") (by decide +kernel)) (fun _ h9 => h9) rfl dX12_matches_117 ?_
                  refine lv_iload hx hb dX12_matches_120 (lv_at hl 1 rfl) ?_
                  obtain ⟨k20, gk20, hk20⟩ := wGt (cy := cy) X S96_ ((hsh84.x.tr hsh96.x).A F6.2.1).1 ((hsh84.x.tr hsh96.x).A F6.2.1).2.1
                  refine va_iald hx hb hK hP k20 2 hk20 rfl (inb (m := 5) (((hsh84.x.tr hsh96.x).n F6.2.1).trans F6.2.2) (by omega) (by omega)) dX12_matches_122 ?_
                  refine lv_aload_n hx hb dX12_matches_123 rfl (lv_at hl 2 rfl) ?_
                  obtain ⟨k21, gk21, hk21⟩ := wGt (cy := cy) X S96_ (hsh96.x.A (hsh84.x.A h_o1)).1 (hsh96.x.A (hsh84.x.A h_o1)).2.1
                  simp only [kE, ((hsh84.x.tr hsh96.x).F h_o1 (by decide) F7.1)] at hk21
                  refine va_get (D := D) (ci := 16) (v := .ref (S.f o1 14)) (C := RX12) (T := TX12) (N := 34) hx hb hts hi_X12_matches_X12 hown hK hP k21 hk21 rfl 14 (by decide) (hts (.fieldLink RX12 69 "HobhouseModel" "seconds" "[I") (by decide +kernel)) (fun _ h9 => h9) rfl dX12_matches_124 ?_
                  refine lv_iload hx hb dX12_matches_127 (lv_at hl 0 rfl) ?_
                  obtain ⟨k22, gk22, hk22⟩ := wGt (cy := cy) X S96_ ((hsh84.x.tr hsh96.x).A F7.2.1).1 ((hsh84.x.tr hsh96.x).A F7.2.1).2.1
                  refine va_iald hx hb hK hP k22 2 hk22 rfl (inb (m := 5) (((hsh84.x.tr hsh96.x).n F7.2.1).trans F7.2.2) (by omega) (by omega)) dX12_matches_129 ?_
                  have v9a := iv_at hi96.2 (j := 13) (by decide) (by decide) (f_of ((hsh84.x.tr hsh96.x).F h_o1 (by decide) F6.1)) (f_of ((hsh84.x.tr hsh96.x).F h_o1 (by decide) F1.1)) w84_6.toNatClampNeg
                  have v9b := iv_at hi96.2 (j := 14) (by decide) (by decide) (f_of ((hsh84.x.tr hsh96.x).F h_o1 (by decide) F7.1)) (f_of ((hsh84.x.tr hsh96.x).F h_o1 (by decide) F1.1)) w96_7.toNatClampNeg
                  have hFc := free_all hD hS hA
                  obtain ⟨k23, gk23, hk23⟩ := wGt (cy := cy) X S96_ (hsh96.x.A (hsh84.x.A h_o1)).1 (hsh96.x.A (hsh84.x.A h_o1)).2.1
                  refine va_calli (va_runV (As := [.int (S96_.i (S.f o1 13) w84_6.toNatClampNeg), .int (S96_.i (S.f o1 14) w96_7.toNatClampNeg)]) (rest := []) ⟨hx, hb, hml, hown, hts⟩ (c_X12_isPair l (cy := cy) (X := X) (D := D) S96_ _ o1 (hsh96.x.A (hsh84.x.A h_o1)) (S96_.i (S.f o1 13) w84_6.toNatClampNeg) (S96_.i (S.f o1 14) w96_7.toNatClampNeg) (hsh96.w) (by rw [f_of ((hsh84.x.tr hsh96.x).F h_o1 (by decide) F1.1)]; omega) (by rw [f_of ((hsh84.x.tr hsh96.x).F h_o1 (by decide) F1.1)]; omega)) (cwV 2 hts gX12_matches_X12_isPair rfl rfl rfl hd_X12_isPair ⟨Nat.le_of_ble_eq_true rfl, Nat.le_of_ble_eq_true rfl⟩) (pV (va_recv hK hP (q := (RX12, TX12, 34)) (ci := 16) (q0 := k23) rfl hk23) hP hK hD hN) rfl rfl hl.1 rfl (lv_room (Nat.le_of_ble_eq_true rfl)) dX12_matches_130 ⟨(Nat.zero_le _), (Nat.zero_le _)⟩) hS (fun q _ h => hFc q h) hFc (fun r24 u t H1 locs ht hvm hw hB hz1 hk1 hS => ?_)
                  obtain ⟨c25, y26⟩ := hw
                  obtain ⟨hP, hD⟩ := wd_post hFc ht hB
                  generalize H1 = H at hP hS ⊢
                  obtain rfl : f_X12_isPair S96_ o1 (S96_.i (S.f o1 13) w84_6.toNatClampNeg) (S96_.i (S.f o1 14) w96_7.toNatClampNeg) = r24 := c25.symm
                  refine lv_if_ne (tgt := 139) hx hb dX12_matches_133 (by decide) (fun c27 => ?_) (fun c27 => ?_)
                  · have c27i : ¬ (f_X12_isPair S96_ o1 (S96_.i (S.f o1 13) w84_6.toNatClampNeg) (S96_.i (S.f o1 14) w96_7.toNatClampNeg)).toInt = 0 := neq_v rfl rfl c27
                    refine lv_aload_n hx hb dX12_matches_139 rfl (lv_at hl 2 rfl) ?_
                    obtain ⟨k28, gk28, hk28⟩ := wGt (cy := cy) X S96_ (hsh96.x.A (hsh84.x.A h_o1)).1 (hsh96.x.A (hsh84.x.A h_o1)).2.1
                    simp only [kE, ((hsh84.x.tr hsh96.x).F h_o1 (by decide) F2.1)] at hk28
                    refine va_get (D := D) (ci := 16) (v := .ref (S.f o1 9)) (C := RX12) (T := TX12) (N := 34) hx hb hts hi_X12_matches_X12 hown hK hP k28 hk28 rfl 9 (by decide) (hts (.fieldLink RX12 54 "HobhouseModel" "pairFirst" "[I") (by decide +kernel)) (fun _ h9 => h9) rfl dX12_matches_140 ?_
                    refine lv_iload_n hx hb dX12_matches_143 rfl (lv_at hl 5 rfl) ?_
                    refine lv_aload_n hx hb dX12_matches_144 rfl (lv_at hl 2 rfl) ?_
                    obtain ⟨k29, gk29, hk29⟩ := wGt (cy := cy) X S96_ (hsh96.x.A (hsh84.x.A h_o1)).1 (hsh96.x.A (hsh84.x.A h_o1)).2.1
                    simp only [kE, ((hsh84.x.tr hsh96.x).F h_o1 (by decide) F6.1)] at hk29
                    refine va_get (D := D) (ci := 16) (v := .ref (S.f o1 13)) (C := RX12) (T := TX12) (N := 34) hx hb hts hi_X12_matches_X12 hown hK hP k29 hk29 rfl 13 (by decide) (hts (.fieldLink RX12 66 "HobhouseModel" "firsts" "[I") (by decide +kernel)) (fun _ h9 => h9) rfl dX12_matches_145 ?_
                    refine lv_iload hx hb dX12_matches_148 (lv_at hl 1 rfl) ?_
                    obtain ⟨k30, gk30, hk30⟩ := wGt (cy := cy) X S96_ ((hsh84.x.tr hsh96.x).A F6.2.1).1 ((hsh84.x.tr hsh96.x).A F6.2.1).2.1
                    refine va_iald hx hb hK hP k30 2 hk30 rfl (inb (m := 5) (((hsh84.x.tr hsh96.x).n F6.2.1).trans F6.2.2) (by omega) (by omega)) dX12_matches_150 ?_
                    obtain ⟨k31, gk31, hk31⟩ := wGt (cy := cy) X S96_ ((hsh84.x.tr hsh96.x).A F2.2.1).1 ((hsh84.x.tr hsh96.x).A F2.2.1).2.1
                    refine va_iast hx hb hK hP hD hS k31 2 hk31 rfl (inb (m := 4) (((hsh84.x.tr hsh96.x).n F2.2.1).trans F2.2.2) (by omega) (by omega)) dX12_matches_151 (fun H locs hP2 hD2 hS => ?_)
                    have e9 := wPui (cy := cy) (f := (upd (S96_.i (S.f o1 9)) x3.toNatClampNeg (S96_.i (S.f o1 13) w84_6.toNatClampNeg))) hD ((hsh84.x.tr hsh96.x).A F2.2.1).1 ((hsh84.x.tr hsh96.x).A F2.2.1).2.1 gk31 rfl
                    obtain ⟨S32, hS32⟩ : ∃ z, S96_.si (S.f o1 9) (upd (S96_.i (S.f o1 9)) x3.toNatClampNeg (S96_.i (S.f o1 13) w84_6.toNatClampNeg)) = z := ⟨_, rfl⟩
                    have v33 : IV S32 o1 := by rw [← hS32]; exact IV.set hi96.2 (f_of ((hsh84.x.tr hsh96.x).F h_o1 (by decide) F1.1)) (iv_at hi96.2 (j := 13) (by decide) (by decide) (f_of ((hsh84.x.tr hsh96.x).F h_o1 (by decide) F6.1)) (f_of ((hsh84.x.tr hsh96.x).F h_o1 (by decide) F1.1)) w84_6.toNatClampNeg)
                    have hP : va_P D vwCl (X ++ PL cy S32) H := by rw [← hS32, ← e9]; exact hP2
                    have hD : va_D A (X ++ PL cy S32) := by rw [← hS32, ← e9]; exact hD2
                    have xe34 : ext S96_ S32 := by rw [← hS32]; exact ext.si _ _ _
                    have t35 : stp [(12, 28), (23, 100)] [] [] S84_ S32 := by rw [← hS32]; exact hsh96.i (upd (S96_.i (S.f o1 9)) x3.toNatClampNeg (S96_.i (S.f o1 13) w84_6.toNatClampNeg)) ((hsh84.x.tr hsh96.x).A F2.2.1) (by decide)
                    have k36 : (S32.I (S.f o1 0) 2).toInt = (S96_.I (S.f o1 0) 2).toInt := by rw [← hS32]; rfl
                    have k37 : (S32.I o1 24).toInt = (S96_.I o1 24).toInt := by rw [← hS32]; rfl
                    have k38 : (S32.I o1 25).toInt = (S96_.I o1 25).toInt := by rw [← hS32]; rfl
                    have k39 : (S32.I o1 26).toInt = (S96_.I o1 26).toInt := by rw [← hS32]; rfl
                    refine lv_aload_n hx hb dX12_matches_152 rfl (lv_at hl 2 rfl) ?_
                    obtain ⟨k40, gk40, hk40⟩ := wGt (cy := cy) X S32 (xe34.A (hsh96.x.A (hsh84.x.A h_o1))).1 (xe34.A (hsh96.x.A (hsh84.x.A h_o1))).2.1
                    simp only [kE, ((hsh84.x.tr (hsh96.x.tr xe34)).F h_o1 (by decide) F3.1)] at hk40
                    refine va_get (D := D) (ci := 16) (v := .ref (S.f o1 10)) (C := RX12) (T := TX12) (N := 34) hx hb hts hi_X12_matches_X12 hown hK hP k40 hk40 rfl 10 (by decide) (hts (.fieldLink RX12 57 "HobhouseModel" "pairSecond" "[I") (by decide +kernel)) (fun _ h9 => h9) rfl dX12_matches_153 ?_
                    refine lv_iload_n hx hb dX12_matches_156 rfl (lv_at hl 5 rfl) ?_
                    refine lv_aload_n hx hb dX12_matches_157 rfl (lv_at hl 2 rfl) ?_
                    obtain ⟨k41, gk41, hk41⟩ := wGt (cy := cy) X S32 (xe34.A (hsh96.x.A (hsh84.x.A h_o1))).1 (xe34.A (hsh96.x.A (hsh84.x.A h_o1))).2.1
                    simp only [kE, ((hsh84.x.tr (hsh96.x.tr xe34)).F h_o1 (by decide) F7.1)] at hk41
                    refine va_get (D := D) (ci := 16) (v := .ref (S.f o1 14)) (C := RX12) (T := TX12) (N := 34) hx hb hts hi_X12_matches_X12 hown hK hP k41 hk41 rfl 14 (by decide) (hts (.fieldLink RX12 69 "HobhouseModel" "seconds" "[I") (by decide +kernel)) (fun _ h9 => h9) rfl dX12_matches_158 ?_
                    refine lv_iload hx hb dX12_matches_161 (lv_at hl 0 rfl) ?_
                    obtain ⟨k42, gk42, hk42⟩ := wGt (cy := cy) X S32 (xe34.A ((hsh84.x.tr hsh96.x).A F7.2.1)).1 (xe34.A ((hsh84.x.tr hsh96.x).A F7.2.1)).2.1
                    refine va_iald hx hb hK hP k42 2 hk42 rfl (inb (m := 5) (((hsh84.x.tr (hsh96.x.tr xe34)).n F7.2.1).trans F7.2.2) (by omega) (by omega)) dX12_matches_163 ?_
                    obtain ⟨k43, gk43, hk43⟩ := wGt (cy := cy) X S32 ((hsh84.x.tr (hsh96.x.tr xe34)).A F3.2.1).1 ((hsh84.x.tr (hsh96.x.tr xe34)).A F3.2.1).2.1
                    refine va_iast hx hb hK hP hD hS k43 2 hk43 rfl (inb (m := 4) (((hsh84.x.tr (hsh96.x.tr xe34)).n F3.2.1).trans F3.2.2) (by omega) (by omega)) dX12_matches_164 (fun H locs hP2 hD2 hS => ?_)
                    have e9 := wPui (cy := cy) (f := (upd (S32.i (S.f o1 10)) x3.toNatClampNeg (S32.i (S.f o1 14) w96_7.toNatClampNeg))) hD ((hsh84.x.tr (hsh96.x.tr xe34)).A F3.2.1).1 ((hsh84.x.tr (hsh96.x.tr xe34)).A F3.2.1).2.1 gk43 rfl
                    obtain ⟨S44, hS44⟩ : ∃ z, S32.si (S.f o1 10) (upd (S32.i (S.f o1 10)) x3.toNatClampNeg (S32.i (S.f o1 14) w96_7.toNatClampNeg)) = z := ⟨_, rfl⟩
                    have v45 : IV S44 o1 := by rw [← hS44]; exact IV.set v33 (f_of ((hsh84.x.tr (hsh96.x.tr xe34)).F h_o1 (by decide) F1.1)) (iv_at v33 (j := 14) (by decide) (by decide) (f_of ((hsh84.x.tr (hsh96.x.tr xe34)).F h_o1 (by decide) F7.1)) (f_of ((hsh84.x.tr (hsh96.x.tr xe34)).F h_o1 (by decide) F1.1)) w96_7.toNatClampNeg)
                    have hP : va_P D vwCl (X ++ PL cy S44) H := by rw [← hS44, ← e9]; exact hP2
                    have hD : va_D A (X ++ PL cy S44) := by rw [← hS44, ← e9]; exact hD2
                    have xe46 : ext S32 S44 := by rw [← hS44]; exact ext.si _ _ _
                    have t47 : stp [(12, 28), (23, 100)] [] [] S84_ S44 := by rw [← hS44]; exact t35.i (upd (S32.i (S.f o1 10)) x3.toNatClampNeg (S32.i (S.f o1 14) w96_7.toNatClampNeg)) ((hsh84.x.tr (hsh96.x.tr xe34)).A F3.2.1) (by decide)
                    have k48 : (S44.I (S.f o1 0) 2).toInt = (S32.I (S.f o1 0) 2).toInt := by rw [← hS44]; rfl
                    have k49 : (S44.I o1 24).toInt = (S32.I o1 24).toInt := by rw [← hS44]; rfl
                    have k50 : (S44.I o1 25).toInt = (S32.I o1 25).toInt := by rw [← hS44]; rfl
                    have k51 : (S44.I o1 26).toInt = (S32.I o1 26).toInt := by rw [← hS44]; rfl
                    refine lv_aload_n hx hb dX12_matches_165 rfl (lv_at hl 2 rfl) ?_
                    refine lv_iload hx hb dX12_matches_166 (lv_at hl 1 rfl) ?_
                    refine lv_iconst (v := 1) hx hb dX12_matches_168 (by decide) ?_
                    refine lv_iadd hx hb dX12_matches_169 ?_
                    refine lv_iload_n hx hb dX12_matches_170 rfl (lv_at hl 4 rfl) ?_
                    refine lv_iconst (v := 1) hx hb dX12_matches_171 (by decide) ?_
                    refine lv_iload hx hb dX12_matches_172 (lv_at hl 0 rfl) ?_
                    refine lv_ishl hx hb dX12_matches_174 ?_
                    refine lv_ior hx hb dX12_matches_175 ?_
                    refine lv_iload_n hx hb dX12_matches_176 rfl (lv_at hl 5 rfl) ?_
                    refine lv_iconst (v := 1) hx hb dX12_matches_177 (by decide) ?_
                    refine lv_iadd hx hb dX12_matches_178 ?_
                    refine lv_lload hx hb dX12_matches_179 (lv_at hl 6 rfl) ?_
                    refine lv_aload_n hx hb dX12_matches_181 rfl (lv_at hl 2 rfl) ?_
                    have F52 := ((hW.at h_o1 List.not_mem_nil).to_12 h_o1.2.1).F33
                    obtain ⟨k53, gk53, hk53⟩ := wGt (cy := cy) X S44 (xe46.A (xe34.A (hsh96.x.A (hsh84.x.A h_o1)))).1 (xe46.A (xe34.A (hsh96.x.A (hsh84.x.A h_o1)))).2.1
                    simp only [kE, ((hsh84.x.tr (hsh96.x.tr (xe34.tr xe46))).F h_o1 (by decide) F52.1)] at hk53
                    refine va_get (D := D) (ci := 16) (v := .ref (S.f o1 33)) (C := RX12) (T := TX12) (N := 34) hx hb hts hi_X12_matches_X12 hown hK hP k53 hk53 rfl 33 (by decide) (hts (.fieldLink RX12 91 "HobhouseModel" "peaks" "[I") (by decide +kernel)) (fun _ h9 => h9) rfl dX12_matches_182 ?_
                    refine lv_iconst (v := 5) hx hb dX12_matches_185 (by decide) ?_
                    refine lv_iload hx hb dX12_matches_186 (lv_at hl 1 rfl) ?_
                    refine lv_imul hx hb dX12_matches_188 ?_
                    refine lv_iload hx hb dX12_matches_189 (lv_at hl 0 rfl) ?_
                    refine lv_iadd hx hb dX12_matches_191 ?_
                    have l32_5 : (5 : Int32).toInt = 5 := rfl
                    have i54 : ((5 : Int32) * w84_6).toInt = 5 * w84_6.toInt := t_mull rfl (by omega)
                    have i55 : (((5 : Int32) * w84_6) + w96_7).toInt = ((5 : Int32) * w84_6).toInt + w96_7.toInt := t_add (by omega)
                    obtain ⟨k56, gk56, hk56⟩ := wGt (cy := cy) X S44 ((hsh84.x.tr (hsh96.x.tr (xe34.tr xe46))).A F52.2.1).1 ((hsh84.x.tr (hsh96.x.tr (xe34.tr xe46))).A F52.2.1).2.1
                    refine va_iald hx hb hK hP k56 2 hk56 rfl (inb (m := 25) (((hsh84.x.tr (hsh96.x.tr (xe34.tr xe46))).n F52.2.1).trans F52.2.2) (by omega) (by omega)) dX12_matches_192 ?_
                    refine lv_i2l hx hb dX12_matches_193 rfl ?_
                    refine lv_ladd hx hb dX12_matches_194 ?_
                    have l32_1 : (1 : Int32).toInt = 1 := rfl
                    have i57 : (w84_6 + (1 : Int32)).toInt = w84_6.toInt + 1 := t_addr (n := 1) rfl (by omega)
                    have i58 : (x3 + (1 : Int32)).toInt = x3.toInt + 1 := t_addr (n := 1) rfl (by omega)
                    have hFc := free_all hD hS hA
                    obtain ⟨k59, gk59, hk59⟩ := wGt (cy := cy) X S44 (xe46.A (xe34.A (hsh96.x.A (hsh84.x.A h_o1)))).1 (xe46.A (xe34.A (hsh96.x.A (hsh84.x.A h_o1)))).2.1
                    refine va_callv (va_runV (As := [.int (w84_6 + (1 : Int32)), .int (x2 ||| ((1 : Int32) <<< (w96_7 &&& 31))), .int (x3 + (1 : Int32)), .long (x4 + ((S44.i (S.f o1 33) (((5 : Int32) * w84_6) + w96_7).toNatClampNeg).toInt64))]) (rest := []) ⟨hx, hb, hml, hown, hts⟩ (c_X12_matches_1 l (cy := cy) (X := X) (D := D) S44 _ o1 (xe46.A (xe34.A (hsh96.x.A (hsh84.x.A h_o1)))) (w84_6 + (1 : Int32)) (x2 ||| ((1 : Int32) <<< (w96_7 &&& 31))) (x3 + (1 : Int32)) (x4 + ((S44.i (S.f o1 33) (((5 : Int32) * w84_6) + w96_7).toNatClampNeg).toInt64)) (t47.w) v45 (by omega) (by omega) (by rw [f_of ((hsh84.x.tr (hsh96.x.tr (xe34.tr xe46))).F h_o1 (by decide) F1.1)]; omega)) (cwV 4 hts gX12_matches_X12_matches rfl rfl rfl hd_X12_matches ⟨Nat.le_of_ble_eq_true rfl, Nat.le_of_ble_eq_true rfl⟩) (pV (va_recv hK hP (q := (RX12, TX12, 34)) (ci := 16) (q0 := k59) rfl hk59) hP hK hD hN) rfl rfl hl.1 rfl (lv_room (Nat.le_of_ble_eq_true rfl)) dX12_matches_195 ⟨(Nat.zero_le _), (Nat.zero_le _)⟩) hS (fun q _ h => hFc q h) hFc (fun u t H1 locs ht hvm hw hB hz1 hk1 hS => ?_)
                    obtain ⟨w61, y62⟩ := hw
                    obtain ⟨hP, hD⟩ := wd_post hFc ht hB
                    generalize H1 = H at hP hS ⊢
                    obtain ⟨S63, rfl⟩ : ∃ z, z = u := ⟨_, rfl⟩
                    have t64 : stp [(12, 28), (23, 100)] [] [] S84_ S63 := t47.tr w61 (by decide) (fun _ q => absurd q List.not_mem_nil)
                    have v65 : IV S63 o1 := y62
                    have xe66 : ext S44 S63 := w61.x
                    have k67 : (S63.I (S.f o1 0) 2).toInt = (S44.I (S.f o1 0) 2).toInt := by rw [(w61.fR (S.f o1 0) ((hsh84.x.tr (hsh96.x.tr (xe34.tr xe46))).A F1.2.1).1 List.not_mem_nil).1 2 (by rw [((hsh84.x.tr (hsh96.x.tr (xe34.tr xe46))).A F1.2.1).2.1]; decide) |>.1]
                    have k68 : (S63.I o1 24).toInt = (S44.I o1 24).toInt := by rw [(w61.fR o1 ((hsh84.x.tr (hsh96.x.tr (xe34.tr xe46))).A h_o1).1 List.not_mem_nil).1 24 (by rw [((hsh84.x.tr (hsh96.x.tr (xe34.tr xe46))).A h_o1).2.1]; decide) |>.1]
                    have k69 : (S63.I o1 25).toInt = (S44.I o1 25).toInt := by rw [(w61.fR o1 ((hsh84.x.tr (hsh96.x.tr (xe34.tr xe46))).A h_o1).1 List.not_mem_nil).1 25 (by rw [((hsh84.x.tr (hsh96.x.tr (xe34.tr xe46))).A h_o1).2.1]; decide) |>.1]
                    have k70 : (S63.I o1 26).toInt = (S44.I o1 26).toInt := by rw [(w61.fR o1 ((hsh84.x.tr (hsh96.x.tr (xe34.tr xe46))).A h_o1).1 List.not_mem_nil).1 26 (by rw [((hsh84.x.tr (hsh96.x.tr (xe34.tr xe46))).A h_o1).2.1]; decide) |>.1]
                    refine lv_iinc (v := w96_7 + (1 : Int32)) (lv' := [(7, .int (w96_7 + (1 : Int32))), (6, .int w84_6), (0, .ref o1), (1, .int x1), (2, .int x2), (3, .int x3), (4, .long x4)]) hx hb dX12_matches_198 hl (k := 0) rfl (by rfl) (by decide) rfl (fun ls hl => ?_)
                    refine lv_goto (tgt := 96) hx hb dX12_matches_201 (by decide) ?_
                    have i71 : (w96_7 + (1 : Int32)).toInt = w96_7.toInt + 1 := t_addr (n := 1) rfl (by omega)
                    exact ih96 S63 (w96_7 + (1 : Int32)) _ _ _ (Nat.lt_of_lt_of_le (by omega) (Nat.le_of_lt_succ hm96)) (⟨by omega, v65⟩) t64 hP hD hS (lv_sub hl [0, 1, 2, 3, 4, 5, 6] rfl) ko96
                  · have c27i : (f_X12_isPair S96_ o1 (S96_.i (S.f o1 13) w84_6.toNatClampNeg) (S96_.i (S.f o1 14) w96_7.toNatClampNeg)).toInt = 0 := eq_v rfl rfl c27
                    refine lv_goto (tgt := 198) hx hb dX12_matches_136 (by decide) ?_
                    refine lv_iinc (v := w96_7 + (1 : Int32)) (lv' := [(7, .int (w96_7 + (1 : Int32))), (6, .int w84_6), (0, .ref o1), (1, .int x1), (2, .int x2), (3, .int x3), (4, .long x4)]) hx hb dX12_matches_198 hl (k := 0) rfl (by rfl) (by decide) rfl (fun ls hl => ?_)
                    refine lv_goto (tgt := 96) hx hb dX12_matches_201 (by decide) ?_
                    have l32_1 : (1 : Int32).toInt = 1 := rfl
                    have i72 : (w96_7 + (1 : Int32)).toInt = w96_7.toInt + 1 := t_addr (n := 1) rfl (by omega)
                    exact ih96 S96_ (w96_7 + (1 : Int32)) _ _ _ (Nat.lt_of_lt_of_le (by omega) (Nat.le_of_lt_succ hm96)) (⟨by omega, hi96.2⟩) hsh96 hP hD hS (lv_sub hl [0, 1, 2, 3, 4, 5, 6] rfl) ko96
          refine loop96 7 S84_ (0 : Int32) _ _ _ (by omega) (⟨by omega, hi84.2⟩) (stp.rf hsh84.w) hP hD hS (lv_sub hl [0, 1, 2, 3, 4, 5, 6] rfl) (fun S74 z75 H locs ls hi96 hsh96 hP hD hS hl => ?_)
          have t76 : stp [(12, 28), (23, 100)] [] [] S S74 := hsh84.tr hsh96 (fun _ q => q) (fun _ q => Or.inl q)
          have et76 := hsh96.x
          have hi96b := hi96.1
          refine lv_iinc (v := w84_6 + (1 : Int32)) (lv' := [(6, .int (w84_6 + (1 : Int32))), (7, .int z75), (0, .ref o1), (1, .int x1), (2, .int x2), (3, .int x3), (4, .long x4)]) hx hb dX12_matches_204 hl (k := 1) rfl (by rfl) (by decide) rfl (fun ls hl => ?_)
          refine lv_goto (tgt := 84) hx hb dX12_matches_207 (by decide) ?_
          have l32_1 : (1 : Int32).toInt = 1 := rfl
          have i77 : (w84_6 + (1 : Int32)).toInt = w84_6.toInt + 1 := t_addr (n := 1) rfl (by omega)
          exact ih84 S74 (w84_6 + (1 : Int32)) _ _ _ (Nat.lt_of_lt_of_le (by omega) (Nat.le_of_lt_succ hm84)) (⟨by omega, hi96.2⟩) t76 hP hD hS (lv_sub hl [0, 2, 3, 4, 5, 6] rfl) ko84
    refine loop84 8 S x1 _ _ _ (by omega) (⟨by omega, hv⟩) (stp.rf hW) hP hD hS (lv_sub hl [0, 1, 2, 3, 4, 5] rfl) (fun S79 z80 H locs ls hi84 hsh84 hP hD hS hl => ?_)
    have t81 : stp [(12, 28), (23, 100)] [] [] S S79 := t0.tr hsh84 (fun _ q => q) (fun _ q => Or.inl q)
    have et81 := hsh84.x
    have hi84b := hi84.1
    refine W.widen (k := 0) (n := 0) (Nat.le_of_ble_eq_true rfl) (Nat.le_of_ble_eq_true rfl) ?_
    exact W.vret hx hb hr (fun t ht hW9 => ⟨⟨S79, rfl, ⟨t81, (hi84.2), (by omega)⟩, wd_end hP hK hD ht hW9.alike⟩, hS.F ht⟩) hS.2.2 dX12_matches_210 hlocks
  · have c10i : x3.toInt = (S.I o1 26).toInt := eq_v rfl rfl c10
    exact False.elim (by omega)
