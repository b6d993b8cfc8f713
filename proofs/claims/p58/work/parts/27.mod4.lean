theorem hi_X12_lists_X10 : ∀ w ∈ u_ws RX10 TX10 23, w ∈ wsX12_lists := by decide +kernel
theorem hi_X12_lists_X12 : ∀ w ∈ u_ws RX12 TX12 34, w ∈ wsX12_lists := by decide +kernel
theorem hd_X12_lists : yX12_lists.cls = RX12 ∧ yX12_lists.cls ≠ "java/lang/invoke/MethodHandle" ∧ yX12_lists.cls ≠ "java/lang/invoke/VarHandle" ∧ (parseMethodDescriptor yX12_lists.desc).map (fun d => d.parameters.length) = some 2 := by decide +kernel
set_option maxHeartbeats 4000000 in
set_option maxRecDepth 100000 in
theorem c_X12_lists (l : Launch) {D : va_G} {cy : Nat → ClassId} {X : va_W} (S : wPS) (sz : Nat) (o1 : Nat) (h_o1 : isA S o1 12) (x1 : Int32) (o3 : Nat) (h_o3 : isA S o3 23) (hW : wtB S []) (hv : IV S o1) (n3 : S.n o3 = 5) : Met l yX12_lists wsX12_lists ({ frames := 4, cells := 0, slots := 0, locals := 85 }) (va_Pc [.ref o1, .int x1, .ref o3] (fun U => U.heap.size = sz ∧ WD D cy X (fun _ => True) S U ∧ NW U)) (va_Qi (fun r (u : wPS) => stp [(23, 100)] [] [] S u ∧ IV u o1 ∧ 0 ≤ r.toInt ∧ r.toInt ≤ 5 ∧ (r.toInt = 0 ∨ 1 ≤ (S.I (S.f o1 0) 2).toInt)) (fun u t => WD D cy X (va_A (X ++ PL cy S) sz) u t) (va_A (X ++ PL cy S) sz)) 0 0 (va_A (X ++ PL cy S) sz) := by
  refine Met.ofW (cc := cX12_lists) (maxL := 5) (ret := (some .int)) (by decide) rfl ?_
  intro p e s m args below meth c s₁ B hml hv
  obtain ⟨rfl, hsz, ⟨hP, hK, hD0⟩, hN⟩ := hv
  have hx := B.exec
  have hb := B.bytes
  have hr := B.returns
  have hts := atoms_spec (ws := wsX12_lists) B.pre
  have hown : s.vm.findClass RX12 = some m.cls := findClass_of_methodNamed (x := yX12_lists) B.named
  have hlocks := B.notSynchronized
  subst hsz
  have hD := hD0.self (sz := s.heap.size)
  generalize hAe : va_A (X ++ PL cy S) s.heap.size = A at hD ⊢
  have hA : ∀ q : Nat, s.heap.size ≤ q → A q := fun q h => by rw [← hAe]; exact Or.inr h
  have hS : va_S A s.heap s.heap [] := va_S.rf
  have hl := lv_entry ([.ref o1, .int x1, .ref o3]) (n := 5) (Nat.le_of_ble_eq_true rfl)
  rw [lg_entry_eq]
  generalize (lg_sl ([.ref o1, .int x1, .ref o3]) ++ List.replicate (5 - (lg_sl ([.ref o1, .int x1, .ref o3])).length) Slot.unset).toArray = ls at hl ⊢
  have hl : lv_has ls 5 [(0, .ref o1), (1, .int x1), (2, .ref o3)] := hl
  have t0 : stp [(23, 100)] [] [] S S := stp.rf hW
  have F1 := ((hW.at h_o1 List.not_mem_nil).to_12 h_o1.2.1).F0
  refine lv_iconst (v := 0) hx hb dX12_lists_0 (by decide) ?_
  refine lv_istore_n (lv' := [(3, .int (0 : Int32)), (0, .ref o1), (1, .int x1), (2, .ref o3)]) hx hb dX12_lists_1 rfl hl (by decide) rfl (fun ls hl => ?_)
  refine lv_iconst (v := 0) hx hb dX12_lists_2 (by decide) ?_
  refine lv_istore (lv' := [(4, .int (0 : Int32)), (3, .int (0 : Int32)), (0, .ref o1), (1, .int x1), (2, .ref o3)]) hx hb dX12_lists_3 hl (by decide) rfl (fun ls hl => ?_)
  have l32_0 : (0 : Int32).toInt = 0 := rfl
  have loop5 : ∀ (n : Nat) (S5_ : wPS) (w5_3 : Int32) (w5_4 : Int32) (H : Heap) (locs : List Loc) (ls : Array Slot), (41 - w5_4.toInt).toNat < n → (0 ≤ w5_3.toInt ∧ w5_3.toInt ≤ 5 ∧ 0 ≤ w5_4.toInt ∧ w5_4.toInt ≤ 40 ∧ (w5_3.toInt = 0 ∨ 1 ≤ (S.I (S.f o1 0) 2).toInt) ∧ (S5_.I (S.f o1 0) 2).toInt = (S.I (S.f o1 0) 2).toInt) ∧ IV S5_ o1 → stp [(23, 100)] [] [] S S5_ → va_P D vwCl (X ++ PL cy S5_) H → va_D A (X ++ PL cy S5_) → va_S A s.heap H locs → lv_has ls 5 [(4, .int w5_4), (3, .int w5_3), (0, .ref o1), (1, .int x1), (2, .ref o3)] → (∀ (S5_x : wPS) (w5_3x : Int32) (w5_4x : Int32) (H : Heap) (locs : List Loc) (ls : Array Slot), (0 ≤ w5_3x.toInt ∧ w5_3x.toInt ≤ 5 ∧ 0 ≤ w5_4x.toInt ∧ w5_4x.toInt ≤ 40 ∧ (w5_3x.toInt = 0 ∨ 1 ≤ (S.I (S.f o1 0) 2).toInt) ∧ (S5_x.I (S.f o1 0) 2).toInt = (S.I (S.f o1 0) 2).toInt) ∧ IV S5_x o1 → stp [(23, 100)] [] [] S S5_x → va_P D vwCl (X ++ PL cy S5_x) H → va_D A (X ++ PL cy S5_x) → va_S A s.heap H locs → lv_has ls 5 [(4, .int w5_4x), (3, .int w5_3x), (0, .ref o1), (1, .int x1), (2, .ref o3)] → W p l e (headSpec wsX12_lists ({ frames := 4, cells := 0, slots := 0, locals := 85 } : Room)).room s m [.ref o1, .int x1, .ref o3].toArray below meth c H locs 0 0 (MQ below (va_Qi (fun r (u : wPS) => stp [(23, 100)] [] [] S u ∧ IV u o1 ∧ 0 ≤ r.toInt ∧ r.toInt ≤ 5 ∧ (r.toInt = 0 ∨ 1 ≤ (S.I (S.f o1 0) 2).toInt)) (fun u t => WD D cy X A u t) A) [.ref o1, .int x1, .ref o3].toArray s 0 0 A) (F0 m 64 ls [])) → W p l e (headSpec wsX12_lists ({ frames := 4, cells := 0, slots := 0, locals := 85 } : Room)).room s m [.ref o1, .int x1, .ref o3].toArray below meth c H locs 0 0 (MQ below (va_Qi (fun r (u : wPS) => stp [(23, 100)] [] [] S u ∧ IV u o1 ∧ 0 ≤ r.toInt ∧ r.toInt ≤ 5 ∧ (r.toInt = 0 ∨ 1 ≤ (S.I (S.f o1 0) 2).toInt)) (fun u t => WD D cy X A u t) A) [.ref o1, .int x1, .ref o3].toArray s 0 0 A) (F0 m 5 ls []) := by
    intro n5
    induction n5 with
    | zero => intro S5_ w5_3 w5_4 H locs ls hm; exact absurd hm (Nat.not_lt_zero _)
    | succ n5 ih5 =>
      intro S5_ w5_3 w5_4 H locs ls hm5 hi5 hsh5 hP hD hS hl ko5
      have hi5a := hi5.1
      refine lv_iload hx hb dX12_lists_5 (lv_at hl 0 rfl) ?_
      refine lv_aload_n hx hb dX12_lists_7 rfl (lv_at hl 2 rfl) ?_
      obtain ⟨k2, gk2, hk2⟩ := wGt (cy := cy) X S5_ (hsh5.x.A h_o1).1 (hsh5.x.A h_o1).2.1
      simp only [kE, (hsh5.x.F h_o1 (by decide) F1.1)] at hk2
      refine va_get (D := D) (ci := 16) (v := .ref (S.f o1 0)) (C := RX12) (T := TX12) (N := 34) hx hb hts hi_X12_lists_X12 hown hK hP k2 hk2 rfl 0 (by decide) (hts (.fieldLink RX12 24 "HobhouseModel" "gears" "Ljava/util/ArrayList;") (by decide +kernel)) (fun _ h9 => h9) rfl dX12_lists_8 ?_
      have hFc := free_all hD hS hA
      obtain ⟨k3, gk3, hk3⟩ := wGt (cy := cy) X S5_ (hsh5.x.A F1.2.1).1 (hsh5.x.A F1.2.1).2.1
      refine va_calli (va_runV (As := []) (rest := [.int w5_4]) ⟨hx, hb, hml, hown, hts⟩ (c_Jx4a65c_size_8abf5 l (cy := cy) (X := X) (D := D) S5_ _ (S.f o1 0) (hsh5.x.A F1.2.1)) (cwV 0 hts gX12_lists_Jx4a65c_size_8abf5 rfl rfl rfl hd_Jx4a65c_size_8abf5 ⟨Nat.le_of_ble_eq_true rfl, Nat.le_of_ble_eq_true rfl⟩) (pV (va_recv hK hP (q := (RJx4a65c, TJx4a65c, 3)) (ci := 3) (q0 := k3) rfl hk3) hP hK hD hN) rfl rfl hl.1 rfl (lv_room (Nat.le_of_ble_eq_true rfl)) dX12_lists_11 ⟨(Nat.zero_le _), (Nat.zero_le _)⟩) hS (fun q _ h => hFc q h) hFc (fun r4 u t H1 locs ht hvm hw hB hz1 hk1 hS => ?_)
      have c5 := hw
      obtain ⟨hP, hD⟩ := wd_post hFc ht hB
      generalize H1 = H at hP hS ⊢
      obtain rfl : f_Jx4a65c_size_8abf5 S5_ (S.f o1 0) = r4 := c5.symm
      have i6 := al_sz ((hsh5.w.at (hsh5.x.A F1.2.1) List.not_mem_nil).to_14 (hsh5.x.A F1.2.1).2.1)
      have i7 : (f_Jx4a65c_size_8abf5 S5_ (S.f o1 0)).toInt = (S5_.I (S.f o1 0) 2).toInt := rfl
      refine lv_icmp_ge (tgt := 64) hx hb dX12_lists_14 (by decide) (fun c8 => ?_) (fun c8 => ?_)
      · have c8i : (f_Jx4a65c_size_8abf5 S5_ (S.f o1 0)).toInt ≤ w5_4.toInt := le_v rfl rfl c8
        exact ko5 S5_ w5_3 w5_4 _ _ _ (⟨by omega, hi5.2⟩) hsh5 hP hD hS (lv_sub hl [0, 1, 2, 3, 4] rfl)
      · have c8i : w5_4.toInt < (f_Jx4a65c_size_8abf5 S5_ (S.f o1 0)).toInt := nle_v rfl rfl c8
        refine lv_iload_n hx hb dX12_lists_17 rfl (lv_at hl 1 rfl) ?_
        refine lv_iconst (v := 5) hx hb dX12_lists_18 (by decide) ?_
        refine lv_icmp_ge (tgt := 64) hx hb dX12_lists_19 (by decide) (fun c9 => ?_) (fun c9 => ?_)
        · have c9i : 5 ≤ w5_3.toInt := le_v rfl rfl c9
          exact ko5 S5_ w5_3 w5_4 _ _ _ (⟨by omega, hi5.2⟩) hsh5 hP hD hS (lv_sub hl [0, 1, 2, 3, 4] rfl)
        · have c9i : w5_3.toInt < 5 := nle_v rfl rfl c9
          refine lv_aload_n hx hb dX12_lists_22 rfl (lv_at hl 2 rfl) ?_
          refine lv_iload hx hb dX12_lists_23 (lv_at hl 0 rfl) ?_
          have hFc := free_all hD hS hA
          obtain ⟨k10, gk10, hk10⟩ := wGt (cy := cy) X S5_ (hsh5.x.A h_o1).1 (hsh5.x.A h_o1).2.1
          refine va_callq (va_runV (As := [.int w5_4]) (rest := []) ⟨hx, hb, hml, hown, hts⟩ (c_X12_gearAt l (cy := cy) (X := X) (D := D) S5_ _ o1 (hsh5.x.A h_o1) w5_4 (hsh5.w) (by rw [f_of (hsh5.x.F h_o1 (by decide) F1.1)]; omega)) (cwV 1 hts gX12_lists_X12_gearAt rfl rfl rfl hd_X12_gearAt ⟨Nat.le_of_ble_eq_true rfl, Nat.le_of_ble_eq_true rfl⟩) (pV (va_recv hK hP (q := (RX12, TX12, 34)) (ci := 16) (q0 := k10) rfl hk10) hP hK hD hN) rfl rfl hl.1 rfl (lv_room (Nat.le_of_ble_eq_true rfl)) dX12_lists_25 ⟨(Nat.zero_le _), (Nat.zero_le _)⟩) hS (fun q _ h => hFc q h) hFc (fun r11 u t H1 locs ht hvm hw hB hz1 hk1 hS => ?_)
          obtain ⟨r11, rfl, c12, o13⟩ := hw
          obtain ⟨hP, hD⟩ := wd_post hFc ht hB
          generalize H1 = H at hP hS ⊢
          refine W.eq (g2 := F0 m 28 ls [.ref r11]) rfl ?_
          have hFc := free_all hD hS hA
          obtain ⟨k14, gk14, hk14⟩ := wGt (cy := cy) X S5_ o13.1 o13.2.1
          refine va_calli (va_runV (As := []) (rest := []) ⟨hx, hb, hml, hown, hts⟩ (c_X10_isFree l (cy := cy) (X := X) (D := D) S5_ _ r11 o13) (cwV 0 hts gX12_lists_X10_isFree rfl rfl rfl hd_X10_isFree ⟨Nat.le_of_ble_eq_true rfl, Nat.le_of_ble_eq_true rfl⟩) (pV (va_recv hK hP (q := (RX10, TX10, 23)) (ci := 14) (q0 := k14) rfl hk14) hP hK hD hN) rfl rfl hl.1 rfl (lv_room (Nat.le_of_ble_eq_true rfl)) dX12_lists_28 ⟨(Nat.zero_le _), (Nat.zero_le _)⟩) hS (fun q _ h => hFc q h) hFc (fun r15 u t H1 locs ht hvm hw hB hz1 hk1 hS => ?_)
          clear hw
          obtain ⟨hP, hD⟩ := wd_post hFc ht hB
          generalize H1 = H at hP hS ⊢
          refine lv_if_eq (tgt := 58) hx hb dX12_lists_31 (by decide) (fun c16 => ?_) (fun c16 => ?_)
          · have c16i : r15.toInt = 0 := eq_v rfl rfl c16
            refine lv_iinc (v := w5_4 + (1 : Int32)) (lv' := [(4, .int (w5_4 + (1 : Int32))), (3, .int w5_3), (0, .ref o1), (1, .int x1), (2, .ref o3)]) hx hb dX12_lists_58 hl (k := 0) rfl (by rfl) (by decide) rfl (fun ls hl => ?_)
            refine lv_goto (tgt := 5) hx hb dX12_lists_61 (by decide) ?_
            have l32_1 : (1 : Int32).toInt = 1 := rfl
            have i17 : (w5_4 + (1 : Int32)).toInt = w5_4.toInt + 1 := t_addr (n := 1) rfl (by omega)
            exact ih5 S5_ w5_3 (w5_4 + (1 : Int32)) _ _ _ (Nat.lt_of_lt_of_le (by omega) (Nat.le_of_lt_succ hm5)) (⟨by omega, hi5.2⟩) hsh5 hP hD hS (lv_sub hl [0, 1, 2, 3, 4] rfl) ko5
          · have c16i : ¬ r15.toInt = 0 := neq_v rfl rfl c16
            refine lv_aload_n hx hb dX12_lists_34 rfl (lv_at hl 2 rfl) ?_
            refine lv_iload hx hb dX12_lists_35 (lv_at hl 0 rfl) ?_
            have hFc := free_all hD hS hA
            obtain ⟨k18, gk18, hk18⟩ := wGt (cy := cy) X S5_ (hsh5.x.A h_o1).1 (hsh5.x.A h_o1).2.1
            refine va_callq (va_runV (As := [.int w5_4]) (rest := []) ⟨hx, hb, hml, hown, hts⟩ (c_X12_gearAt l (cy := cy) (X := X) (D := D) S5_ _ o1 (hsh5.x.A h_o1) w5_4 (hsh5.w) (by rw [f_of (hsh5.x.F h_o1 (by decide) F1.1)]; omega)) (cwV 1 hts gX12_lists_X12_gearAt rfl rfl rfl hd_X12_gearAt ⟨Nat.le_of_ble_eq_true rfl, Nat.le_of_ble_eq_true rfl⟩) (pV (va_recv hK hP (q := (RX12, TX12, 34)) (ci := 16) (q0 := k18) rfl hk18) hP hK hD hN) rfl rfl hl.1 rfl (lv_room (Nat.le_of_ble_eq_true rfl)) dX12_lists_37 ⟨(Nat.zero_le _), (Nat.zero_le _)⟩) hS (fun q _ h => hFc q h) hFc (fun r19 u t H1 locs ht hvm hw hB hz1 hk1 hS => ?_)
            obtain ⟨r19, rfl, c20, o21⟩ := hw
            obtain ⟨hP, hD⟩ := wd_post hFc ht hB
            generalize H1 = H at hP hS ⊢
            refine W.eq (g2 := F0 m 40 ls [.ref r19]) rfl ?_
            obtain ⟨k22, gk22, hk22⟩ := wGt (cy := cy) X S5_ o21.1 o21.2.1
            have i23 := ((hsh5.w.at o21 List.not_mem_nil).to_10 o21.2.1).R1
            refine va_getN (D := D) (ci := 14) (v := .int (S5_.I r19 1)) (C := RX10) (T := TX10) (N := 23) hx hb hts hi_X12_lists_X10 hown hK hP k22 hk22 rfl 1 (by decide) (va_Nw.use rfl (hN (.fieldLinkNest RX12 332 "HobhouseModel$Gear" "teeth" "I" "HobhouseModel") (by decide +kernel))) (fun _ h9 => h9) rfl dX12_lists_40 ?_
            refine lv_iload_n hx hb dX12_lists_43 rfl (lv_at hl 3 rfl) ?_
            refine lv_icmp_eq (tgt := 50) hx hb dX12_lists_44 (by decide) (fun c24 => ?_) (fun c24 => ?_)
            · have c24i : (S5_.I r19 1).toInt = x1.toInt := eq_v rfl rfl c24
              refine lv_aload_n hx hb dX12_lists_50 rfl (lv_at hl 4 rfl) ?_
              refine lv_iload_n hx hb dX12_lists_51 rfl (lv_at hl 1 rfl) ?_
              refine lv_iload hx hb dX12_lists_52 (lv_at hl 0 rfl) ?_
              obtain ⟨k25, gk25, hk25⟩ := wGt (cy := cy) X S5_ (hsh5.x.A h_o3).1 (hsh5.x.A h_o3).2.1
              refine va_iast hx hb hK hP hD hS k25 2 hk25 rfl (inb (m := 5) ((hsh5.x.n h_o3).trans n3) (by omega) (by omega)) dX12_lists_54 (fun H locs hP2 hD2 hS => ?_)
              have e9 := wPui (cy := cy) (f := (upd (S5_.i o3) w5_3.toNatClampNeg w5_4)) hD (hsh5.x.A h_o3).1 (hsh5.x.A h_o3).2.1 gk25 rfl
              obtain ⟨S26, hS26⟩ : ∃ z, S5_.si o3 (upd (S5_.i o3) w5_3.toNatClampNeg w5_4) = z := ⟨_, rfl⟩
              have v27 : IV S26 o1 := by rw [← hS26]; exact IV.set hi5.2 (f_of (hsh5.x.F h_o1 (by decide) F1.1)) ⟨by omega, Or.inr (by omega)⟩
              have hP : va_P D vwCl (X ++ PL cy S26) H := by rw [← hS26, ← e9]; exact hP2
              have hD : va_D A (X ++ PL cy S26) := by rw [← hS26, ← e9]; exact hD2
              have xe28 : ext S5_ S26 := by rw [← hS26]; exact ext.si _ _ _
              have t29 : stp [(23, 100)] [] [] S S26 := by rw [← hS26]; exact hsh5.i (upd (S5_.i o3) w5_3.toNatClampNeg w5_4) (hsh5.x.A h_o3) (by decide)
              have k30 : (S26.I (S.f o1 0) 2).toInt = (S5_.I (S.f o1 0) 2).toInt := by rw [← hS26]; rfl
              refine lv_iinc (v := w5_3 + (1 : Int32)) (lv' := [(3, .int (w5_3 + (1 : Int32))), (4, .int w5_4), (0, .ref o1), (1, .int x1), (2, .ref o3)]) hx hb dX12_lists_55 hl (k := 1) rfl (by rfl) (by decide) rfl (fun ls hl => ?_)
              refine lv_iinc (v := w5_4 + (1 : Int32)) (lv' := [(4, .int (w5_4 + (1 : Int32))), (3, .int (w5_3 + (1 : Int32))), (0, .ref o1), (1, .int x1), (2, .ref o3)]) hx hb dX12_lists_58 hl (k := 1) rfl (by rfl) (by decide) rfl (fun ls hl => ?_)
              refine lv_goto (tgt := 5) hx hb dX12_lists_61 (by decide) ?_
              have l32_1 : (1 : Int32).toInt = 1 := rfl
              have i31 : (w5_3 + (1 : Int32)).toInt = w5_3.toInt + 1 := t_addr (n := 1) rfl (by omega)
              have i32 : (w5_4 + (1 : Int32)).toInt = w5_4.toInt + 1 := t_addr (n := 1) rfl (by omega)
              exact ih5 S26 (w5_3 + (1 : Int32)) (w5_4 + (1 : Int32)) _ _ _ (Nat.lt_of_lt_of_le (by omega) (Nat.le_of_lt_succ hm5)) (⟨by omega, v27⟩) t29 hP hD hS (lv_sub hl [0, 1, 2, 3, 4] rfl) ko5
            · have c24i : ¬ (S5_.I r19 1).toInt = x1.toInt := neq_v rfl rfl c24
              refine lv_goto (tgt := 58) hx hb dX12_lists_47 (by decide) ?_
              refine lv_iinc (v := w5_4 + (1 : Int32)) (lv' := [(4, .int (w5_4 + (1 : Int32))), (3, .int w5_3), (0, .ref o1), (1, .int x1), (2, .ref o3)]) hx hb dX12_lists_58 hl (k := 0) rfl (by rfl) (by decide) rfl (fun ls hl => ?_)
              refine lv_goto (tgt := 5) hx hb dX12_lists_61 (by decide) ?_
              have l32_1 : (1 : Int32).toInt = 1 := rfl
              have i33 : (w5_4 + (1 : Int32)).toInt = w5_4.toInt + 1 := t_addr (n := 1) rfl (by omega)
              exact ih5 S5_ w5_3 (w5_4 + (1 : Int32)) _ _ _ (Nat.lt_of_lt_of_le (by omega) (Nat.le_of_lt_succ hm5)) (⟨by omega, hi5.2⟩) hsh5 hP hD hS (lv_sub hl [0, 1, 2, 3, 4] rfl) ko5
  refine loop5 42 S (0 : Int32) (0 : Int32) _ _ _ (by omega) (⟨by omega, hv⟩) (stp.rf hW) hP hD hS (lv_sub hl [0, 1, 2, 3, 4] rfl) (fun S35 z36 z37 H locs ls hi5 hsh5 hP hD hS hl => ?_)
  have t38 : stp [(23, 100)] [] [] S S35 := t0.tr hsh5 (fun _ q => q) (fun _ q => Or.inl q)
  have et38 := hsh5.x
  have hi5b := hi5.1
  refine lv_iload_n hx hb dX12_lists_64 rfl (lv_at hl 1 rfl) ?_
  refine W.widen (k := 0) (n := 0) (Nat.le_of_ble_eq_true rfl) (Nat.le_of_ble_eq_true rfl) ?_
  exact W.iret (v := z36) hx hb hr (fun t ht hW9 => ⟨⟨z36, S35, rfl, ⟨t38, (hi5.2), (by omega), (by omega)⟩, wd_end hP hK hD ht hW9.alike⟩, hS.F ht⟩) hS.2.2 dX12_lists_65 hlocks
theorem hi_X12_mate_X10 : ∀ w ∈ u_ws RX10 TX10 23, w ∈ wsX12_mate := by decide +kernel
theorem hd_X12_mate : yX12_mate.cls = RX12 ∧ yX12_mate.cls ≠ "java/lang/invoke/MethodHandle" ∧ yX12_mate.cls ≠ "java/lang/invoke/VarHandle" ∧ (parseMethodDescriptor yX12_mate.desc).map (fun d => d.parameters.length) = some 1 := by decide +kernel
set_option maxHeartbeats 4000000 in
set_option maxRecDepth 100000 in
theorem c_X12_mate (l : Launch) {D : va_G} {cy : Nat → ClassId} {X : va_W} (S : wPS) (sz : Nat) (o1 : Nat) (h_o1 : isA S o1 12) (x1 : Int32) (hW : wtB S [])  : Met l yX12_mate wsX12_mate ({ frames := 4, cells := 0, slots := 0, locals := 85 }) (va_Pc [.ref o1, .int x1] (fun U => U.heap.size = sz ∧ WD D cy X (fun _ => True) S U ∧ NW U)) (va_Qi (fun r (u : wPS) => stp [(12, 15)] [] [] S u) (fun u t => WD D cy X (va_A (X ++ PL cy S) sz) u t) (va_A (X ++ PL cy S) sz)) 0 0 (va_A (X ++ PL cy S) sz) := by
  refine Met.ofW (cc := cX12_mate) (maxL := 2) (ret := (some .int)) (by decide) rfl ?_
  intro p e s m args below meth c s₁ B hml hv
  obtain ⟨rfl, hsz, ⟨hP, hK, hD0⟩, hN⟩ := hv
  have hx := B.exec
  have hb := B.bytes
  have hr := B.returns
  have hts := atoms_spec (ws := wsX12_mate) B.pre
  have hown : s.vm.findClass RX12 = some m.cls := findClass_of_methodNamed (x := yX12_mate) B.named
  have hlocks := B.notSynchronized
  subst hsz
  have hD := hD0.self (sz := s.heap.size)
  generalize hAe : va_A (X ++ PL cy S) s.heap.size = A at hD ⊢
  have hA : ∀ q : Nat, s.heap.size ≤ q → A q := fun q h => by rw [← hAe]; exact Or.inr h
  have hS : va_S A s.heap s.heap [] := va_S.rf
  have hl := lv_entry ([.ref o1, .int x1]) (n := 2) (Nat.le_of_ble_eq_true rfl)
  rw [lg_entry_eq]
  generalize (lg_sl ([.ref o1, .int x1]) ++ List.replicate (2 - (lg_sl ([.ref o1, .int x1])).length) Slot.unset).toArray = ls at hl ⊢
  have hl : lv_has ls 2 [(0, .ref o1), (1, .int x1)] := hl
  have t0 : stp [(12, 15)] [] [] S S := stp.rf hW
  refine lv_aload_n hx hb dX12_mate_0 rfl (lv_at hl 0 rfl) ?_
  refine lv_iload_n hx hb dX12_mate_1 rfl (lv_at hl 1 rfl) ?_
  have hFc := free_all hD hS hA
  obtain ⟨k1, gk1, hk1⟩ := wGt (cy := cy) X S h_o1.1 h_o1.2.1
  refine va_calli (va_runV (As := [.int x1]) (rest := []) ⟨hx, hb, hml, hown, hts⟩ (c_X12_isGear l (cy := cy) (X := X) (D := D) S _ o1 h_o1 x1 (hW)) (cwV 1 hts gX12_mate_X12_isGear rfl rfl rfl hd_X12_isGear ⟨Nat.le_of_ble_eq_true rfl, Nat.le_of_ble_eq_true rfl⟩) (pV (va_recv hK hP (q := (RX12, TX12, 34)) (ci := 16) (q0 := k1) rfl hk1) hP hK hD hN) rfl rfl hl.1 rfl (lv_room (Nat.le_of_ble_eq_true rfl)) dX12_mate_2 ⟨(Nat.zero_le _), (Nat.zero_le _)⟩) hS (fun q _ h => hFc q h) hFc (fun r2 u t H1 locs ht hvm hw hB hz1 hk1 hS => ?_)
  have c3 := hw
  obtain ⟨hP, hD⟩ := wd_post hFc ht hB
  generalize H1 = H at hP hS ⊢
  obtain rfl : f_X12_isGear S o1 x1 = r2 := c3.symm
  have F4 := ((hW.at h_o1 List.not_mem_nil).to_12 h_o1.2.1).F0
  have i5 : (f_X12_isGear S o1 x1).toInt = 0 ∨ (0 ≤ x1.toInt ∧ x1.toInt < (S.I (S.f o1 0) 2).toInt) := by have h9 := ig_rng x1 ((hW.at h_o1 List.not_mem_nil).to_12 h_o1.2.1) hW; rw [f_of F4.1] at h9; exact h9
  refine lv_if_ne (tgt := 14) hx hb dX12_mate_5 (by decide) (fun c6 => ?_) (fun c6 => ?_)
  · have c6i : ¬ (f_X12_isGear S o1 x1).toInt = 0 := neq_v rfl rfl c6
    refine lv_aload_n hx hb dX12_mate_14 rfl (lv_at hl 0 rfl) ?_
    refine lv_iload_n hx hb dX12_mate_15 rfl (lv_at hl 1 rfl) ?_
    have hFc := free_all hD hS hA
    obtain ⟨k7, gk7, hk7⟩ := wGt (cy := cy) X S h_o1.1 h_o1.2.1
    refine va_callq (va_runV (As := [.int x1]) (rest := []) ⟨hx, hb, hml, hown, hts⟩ (c_X12_gearAt l (cy := cy) (X := X) (D := D) S _ o1 h_o1 x1 (hW) (by rw [f_of F4.1]; omega)) (cwV 1 hts gX12_mate_X12_gearAt rfl rfl rfl hd_X12_gearAt ⟨Nat.le_of_ble_eq_true rfl, Nat.le_of_ble_eq_true rfl⟩) (pV (va_recv hK hP (q := (RX12, TX12, 34)) (ci := 16) (q0 := k7) rfl hk7) hP hK hD hN) rfl rfl hl.1 rfl (lv_room (Nat.le_of_ble_eq_true rfl)) dX12_mate_16 ⟨(Nat.zero_le _), (Nat.zero_le _)⟩) hS (fun q _ h => hFc q h) hFc (fun r8 u t H1 locs ht hvm hw hB hz1 hk1 hS => ?_)
    obtain ⟨r8, rfl, c9, o10⟩ := hw
    obtain ⟨hP, hD⟩ := wd_post hFc ht hB
    generalize H1 = H at hP hS ⊢
    refine W.eq (g2 := F0 m 19 ls [.ref r8]) rfl ?_
    obtain ⟨k11, gk11, hk11⟩ := wGt (cy := cy) X S o10.1 o10.2.1
    refine va_getN (D := D) (ci := 14) (v := .int (S.I r8 16)) (C := RX10) (T := TX10) (N := 23) hx hb hts hi_X12_mate_X10 hown hK hP k11 hk11 rfl 16 (by decide) (va_Nw.use rfl (hN (.fieldLinkNest RX12 446 "HobhouseModel$Gear" "mate" "I" "HobhouseModel") (by decide +kernel))) (fun _ h9 => h9) rfl dX12_mate_19 ?_
    refine lv_iconst (v := -1) hx hb dX12_mate_22 (by decide) ?_
    refine lv_icmp_ne (tgt := 34) hx hb dX12_mate_23 (by decide) (fun c12 => ?_) (fun c12 => ?_)
    · have c12i : ¬ (S.I r8 16).toInt = -1 := neq_v rfl rfl c12
      refine lv_aload_n hx hb dX12_mate_34 rfl (lv_at hl 0 rfl) ?_
      refine lv_aload_n hx hb dX12_mate_35 rfl (lv_at hl 0 rfl) ?_
      refine lv_iload_n hx hb dX12_mate_36 rfl (lv_at hl 1 rfl) ?_
      have hFc := free_all hD hS hA
      obtain ⟨k13, gk13, hk13⟩ := wGt (cy := cy) X S h_o1.1 h_o1.2.1
      refine va_callq (va_runV (As := [.int x1]) (rest := [.ref o1]) ⟨hx, hb, hml, hown, hts⟩ (c_X12_gearAt l (cy := cy) (X := X) (D := D) S _ o1 h_o1 x1 (hW) (by rw [f_of F4.1]; omega)) (cwV 1 hts gX12_mate_X12_gearAt rfl rfl rfl hd_X12_gearAt ⟨Nat.le_of_ble_eq_true rfl, Nat.le_of_ble_eq_true rfl⟩) (pV (va_recv hK hP (q := (RX12, TX12, 34)) (ci := 16) (q0 := k13) rfl hk13) hP hK hD hN) rfl rfl hl.1 rfl (lv_room (Nat.le_of_ble_eq_true rfl)) dX12_mate_37 ⟨(Nat.zero_le _), (Nat.zero_le _)⟩) hS (fun q _ h => hFc q h) hFc (fun r14 u t H1 locs ht hvm hw hB hz1 hk1 hS => ?_)
      obtain ⟨r14, rfl, c15, o16⟩ := hw
      obtain ⟨hP, hD⟩ := wd_post hFc ht hB
      generalize H1 = H at hP hS ⊢
      refine W.eq (g2 := F0 m 40 ls [.ref r14, .ref o1]) rfl ?_
      obtain ⟨k17, gk17, hk17⟩ := wGt (cy := cy) X S o16.1 o16.2.1
      refine va_getN (D := D) (ci := 14) (v := .int (S.I r14 16)) (C := RX10) (T := TX10) (N := 23) hx hb hts hi_X12_mate_X10 hown hK hP k17 hk17 rfl 16 (by decide) (va_Nw.use rfl (hN (.fieldLinkNest RX12 446 "HobhouseModel$Gear" "mate" "I" "HobhouseModel") (by decide +kernel))) (fun _ h9 => h9) rfl dX12_mate_40 ?_
      have hFc := free_all hD hS hA
      obtain ⟨k18, gk18, hk18⟩ := wGt (cy := cy) X S h_o1.1 h_o1.2.1
      refine va_calli (va_runV (As := [.int (S.I r14 16)]) (rest := []) ⟨hx, hb, hml, hown, hts⟩ (c_X12_answer l (cy := cy) (X := X) (D := D) S _ o1 h_o1 (S.I r14 16) (hW)) (cwV 1 hts gX12_mate_X12_answer rfl rfl rfl hd_X12_answer ⟨Nat.le_of_ble_eq_true rfl, Nat.le_of_ble_eq_true rfl⟩) (pV (va_recv hK hP (q := (RX12, TX12, 34)) (ci := 16) (q0 := k18) rfl hk18) hP hK hD hN) rfl rfl hl.1 rfl (lv_room (Nat.le_of_ble_eq_true rfl)) dX12_mate_43 ⟨(Nat.zero_le _), (Nat.zero_le _)⟩) hS (fun q _ h => hFc q h) hFc (fun r19 u t H1 locs ht hvm hw hB hz1 hk1 hS => ?_)
      obtain ⟨c20, w21⟩ := hw
      obtain ⟨hP, hD⟩ := wd_post hFc ht hB
      generalize H1 = H at hP hS ⊢
      obtain ⟨S22, rfl⟩ : ∃ z, z = u := ⟨_, rfl⟩
      have t23 : stp [(12, 15)] [] [] S S22 := t0.tr w21 (by decide) (fun _ q => absurd q List.not_mem_nil)
      have xe24 : ext S S22 := w21.x
      refine W.widen (k := 0) (n := 0) (Nat.le_of_ble_eq_true rfl) (Nat.le_of_ble_eq_true rfl) ?_
      exact W.iret (v := r19) hx hb hr (fun t ht hW9 => ⟨⟨r19, S22, rfl, t23, wd_end hP hK hD ht hW9.alike⟩, hS.F ht⟩) hS.2.2 dX12_mate_46 hlocks
    · have c12i : (S.I r8 16).toInt = -1 := eq_v rfl rfl c12
      refine lv_aload_n hx hb dX12_mate_26 rfl (lv_at hl 0 rfl) ?_
      refine lv_iconst (v := 2) hx hb dX12_mate_27 (by decide) ?_
      have l32_2 : (2 : Int32).toInt = 2 := rfl
      have hFc := free_all hD hS hA
      obtain ⟨k25, gk25, hk25⟩ := wGt (cy := cy) X S h_o1.1 h_o1.2.1
      refine va_calli (va_runV (As := [.int (2 : Int32)]) (rest := []) ⟨hx, hb, hml, hown, hts⟩ (c_X12_fails l (cy := cy) (X := X) (D := D) S _ o1 h_o1 (2 : Int32) (hW)) (cwV 1 hts gX12_mate_X12_fails rfl rfl rfl hd_X12_fails ⟨Nat.le_of_ble_eq_true rfl, Nat.le_of_ble_eq_true rfl⟩) (pV (va_recv hK hP (q := (RX12, TX12, 34)) (ci := 16) (q0 := k25) rfl hk25) hP hK hD hN) rfl rfl hl.1 rfl (lv_room (Nat.le_of_ble_eq_true rfl)) dX12_mate_28 ⟨(Nat.zero_le _), (Nat.zero_le _)⟩) hS (fun q _ h => hFc q h) hFc (fun r26 u t H1 locs ht hvm hw hB hz1 hk1 hS => ?_)
      obtain ⟨c27, w28⟩ := hw
      obtain ⟨hP, hD⟩ := wd_post hFc ht hB
      generalize H1 = H at hP hS ⊢
      obtain ⟨S29, rfl⟩ : ∃ z, z = u := ⟨_, rfl⟩
      have t30 : stp [(12, 15)] [] [] S S29 := t0.tr w28 (by decide) (fun _ q => absurd q List.not_mem_nil)
      have xe31 : ext S S29 := w28.x
      refine lv_goto (tgt := 46) hx hb dX12_mate_31 (by decide) ?_
      refine W.widen (k := 0) (n := 0) (Nat.le_of_ble_eq_true rfl) (Nat.le_of_ble_eq_true rfl) ?_
      exact W.iret (v := r26) hx hb hr (fun t ht hW9 => ⟨⟨r26, S29, rfl, t30, wd_end hP hK hD ht hW9.alike⟩, hS.F ht⟩) hS.2.2 dX12_mate_46 hlocks
  · have c6i : (f_X12_isGear S o1 x1).toInt = 0 := eq_v rfl rfl c6
    refine lv_aload_n hx hb dX12_mate_8 rfl (lv_at hl 0 rfl) ?_
    refine lv_iconst (v := 1) hx hb dX12_mate_9 (by decide) ?_
    have l32_1 : (1 : Int32).toInt = 1 := rfl
    have hFc := free_all hD hS hA
    obtain ⟨k32, gk32, hk32⟩ := wGt (cy := cy) X S h_o1.1 h_o1.2.1
    refine va_calli (va_runV (As := [.int (1 : Int32)]) (rest := []) ⟨hx, hb, hml, hown, hts⟩ (c_X12_fails l (cy := cy) (X := X) (D := D) S _ o1 h_o1 (1 : Int32) (hW)) (cwV 1 hts gX12_mate_X12_fails rfl rfl rfl hd_X12_fails ⟨Nat.le_of_ble_eq_true rfl, Nat.le_of_ble_eq_true rfl⟩) (pV (va_recv hK hP (q := (RX12, TX12, 34)) (ci := 16) (q0 := k32) rfl hk32) hP hK hD hN) rfl rfl hl.1 rfl (lv_room (Nat.le_of_ble_eq_true rfl)) dX12_mate_10 ⟨(Nat.zero_le _), (Nat.zero_le _)⟩) hS (fun q _ h => hFc q h) hFc (fun r33 u t H1 locs ht hvm hw hB hz1 hk1 hS => ?_)
    obtain ⟨c34, w35⟩ := hw
    obtain ⟨hP, hD⟩ := wd_post hFc ht hB
    generalize H1 = H at hP hS ⊢
    obtain ⟨S36, rfl⟩ : ∃ z, z = u := ⟨_, rfl⟩
    have t37 : stp [(12, 15)] [] [] S S36 := t0.tr w35 (by decide) (fun _ q => absurd q List.not_mem_nil)
    have xe38 : ext S S36 := w35.x
    refine W.widen (k := 0) (n := 0) (Nat.le_of_ble_eq_true rfl) (Nat.le_of_ble_eq_true rfl) ?_
    exact W.iret (v := r33) hx hb hr (fun t ht hW9 => ⟨⟨r33, S36, rfl, t37, wd_end hP hK hD ht hW9.alike⟩, hS.F ht⟩) hS.2.2 dX12_mate_13 hlocks
def f_X12_isKind (x1 : Int32) : Int32 := if x1 = (104 : Int32) then (1 : Int32) else if x1 = (102 : Int32) then (1 : Int32) else if x1 = (103 : Int32) then (1 : Int32) else if x1 = (99 : Int32) then (1 : Int32) else (0 : Int32)
theorem f_X12_isKind_b (x1 : Int32) : narrow .boolean (.int (f_X12_isKind x1)) = .int (f_X12_isKind x1) := by
  unfold f_X12_isKind; (repeat' split) <;> rfl
theorem hd_X12_isKind : yX12_isKind.cls = RX12 ∧ yX12_isKind.cls ≠ "java/lang/invoke/MethodHandle" ∧ yX12_isKind.cls ≠ "java/lang/invoke/VarHandle" ∧ (parseMethodDescriptor yX12_isKind.desc).map (fun d => d.parameters.length) = some 1 := by decide +kernel
set_option maxHeartbeats 4000000 in
set_option maxRecDepth 100000 in
theorem c_X12_isKind (l : Launch) {D : va_G} {cy : Nat → ClassId} {X : va_W} (S : wPS) (sz : Nat) (x1 : Int32)  : Met l yX12_isKind wsX12_isKind ({ frames := 0, cells := 0, slots := 0, locals := 0 }) (va_Pc [.int x1] (fun U => U.heap.size = sz ∧ WD D cy X (fun _ => True) S U ∧ NW U)) (va_Qi (fun r (_ : Unit) => r = f_X12_isKind x1) (fun _ t => WD D cy X (va_A (X ++ PL cy S) sz) S t) (va_A (X ++ PL cy S) sz)) 0 0 (va_A (X ++ PL cy S) sz) := by
  refine Met.ofW (cc := cX12_isKind) (maxL := 1) (ret := (some .boolean)) (by decide) rfl ?_
  intro p e s m args below meth c s₁ B hml hv
  obtain ⟨rfl, hsz, ⟨hP, hK, hD0⟩, hN⟩ := hv
  have hx := B.exec
  have hb := B.bytes
  have hr := B.returns
  have hts := atoms_spec (ws := wsX12_isKind) B.pre
  have hown : s.vm.findClass RX12 = some m.cls := findClass_of_methodNamed (x := yX12_isKind) B.named
  have hlocks := B.notSynchronized
  subst hsz
  have hD := hD0.self (sz := s.heap.size)
  generalize hAe : va_A (X ++ PL cy S) s.heap.size = A at hD ⊢
  have hA : ∀ q : Nat, s.heap.size ≤ q → A q := fun q h => by rw [← hAe]; exact Or.inr h
  have hS : va_S A s.heap s.heap [] := va_S.rf
  have hl := lv_entry ([.int x1]) (n := 1) (Nat.le_of_ble_eq_true rfl)
  rw [lg_entry_eq]
  generalize (lg_sl ([.int x1]) ++ List.replicate (1 - (lg_sl ([.int x1])).length) Slot.unset).toArray = ls at hl ⊢
  have hl : lv_has ls 1 [(0, .int x1)] := hl
  refine lv_iload_n hx hb dX12_isKind_0 rfl (lv_at hl 0 rfl) ?_
  refine lv_bipush (v := 104) hx hb dX12_isKind_1 (by decide +kernel) ?_
  refine lv_icmp_eq (tgt := 24) hx hb dX12_isKind_3 (by decide) (fun c1 => ?_) (fun c1 => ?_)
  · have c1i : x1.toInt = 104 := eq_v rfl rfl c1
    refine lv_iconst (v := 1) hx hb dX12_isKind_24 (by decide) ?_
    refine lv_goto (tgt := 29) hx hb dX12_isKind_25 (by decide) ?_
    refine W.widen (k := 0) (n := 0) (Nat.le_of_ble_eq_true rfl) (Nat.le_of_ble_eq_true rfl) ?_
    exact W.zret (v := (1 : Int32)) hx hb hr (by rfl) (fun t ht hW9 => ⟨⟨(1 : Int32), (), rfl, (by show (1 : Int32) = f_X12_isKind x1; unfold f_X12_isKind; rw [if_pos c1]), wd_end hP hK hD ht hW9.alike⟩, hS.F ht⟩) hS.2.2 dX12_isKind_29 hlocks
  · have c1i : ¬ x1.toInt = 104 := neq_v rfl rfl c1
    refine lv_iload_n hx hb dX12_isKind_6 rfl (lv_at hl 0 rfl) ?_
    refine lv_bipush (v := 102) hx hb dX12_isKind_7 (by decide +kernel) ?_
    refine lv_icmp_eq (tgt := 24) hx hb dX12_isKind_9 (by decide) (fun c2 => ?_) (fun c2 => ?_)
    · have c2i : x1.toInt = 102 := eq_v rfl rfl c2
      refine lv_iconst (v := 1) hx hb dX12_isKind_24 (by decide) ?_
      refine lv_goto (tgt := 29) hx hb dX12_isKind_25 (by decide) ?_
      refine W.widen (k := 0) (n := 0) (Nat.le_of_ble_eq_true rfl) (Nat.le_of_ble_eq_true rfl) ?_
      exact W.zret (v := (1 : Int32)) hx hb hr (by rfl) (fun t ht hW9 => ⟨⟨(1 : Int32), (), rfl, (by show (1 : Int32) = f_X12_isKind x1; unfold f_X12_isKind; rw [if_neg c1, if_pos c2]), wd_end hP hK hD ht hW9.alike⟩, hS.F ht⟩) hS.2.2 dX12_isKind_29 hlocks
    · have c2i : ¬ x1.toInt = 102 := neq_v rfl rfl c2
      refine lv_iload_n hx hb dX12_isKind_12 rfl (lv_at hl 0 rfl) ?_
      refine lv_bipush (v := 103) hx hb dX12_isKind_13 (by decide +kernel) ?_
      refine lv_icmp_eq (tgt := 24) hx hb dX12_isKind_15 (by decide) (fun c3 => ?_) (fun c3 => ?_)
      · have c3i : x1.toInt = 103 := eq_v rfl rfl c3
        refine lv_iconst (v := 1) hx hb dX12_isKind_24 (by decide) ?_
        refine lv_goto (tgt := 29) hx hb dX12_isKind_25 (by decide) ?_
        refine W.widen (k := 0) (n := 0) (Nat.le_of_ble_eq_true rfl) (Nat.le_of_ble_eq_true rfl) ?_
        exact W.zret (v := (1 : Int32)) hx hb hr (by rfl) (fun t ht hW9 => ⟨⟨(1 : Int32), (), rfl, (by show (1 : Int32) = f_X12_isKind x1; unfold f_X12_isKind; rw [if_neg c1, if_neg c2, if_pos c3]), wd_end hP hK hD ht hW9.alike⟩, hS.F ht⟩) hS.2.2 dX12_isKind_29 hlocks
      · have c3i : ¬ x1.toInt = 103 := neq_v rfl rfl c3
        refine lv_iload_n hx hb dX12_isKind_18 rfl (lv_at hl 0 rfl) ?_
        refine lv_bipush (v := 99) hx hb dX12_isKind_19 (by decide +kernel) ?_
        refine lv_icmp_ne (tgt := 28) hx hb dX12_isKind_21 (by decide) (fun c4 => ?_) (fun c4 => ?_)
        · have c4i : ¬ x1.toInt = 99 := neq_v rfl rfl c4
          refine lv_iconst (v := 0) hx hb dX12_isKind_28 (by decide) ?_
          refine W.widen (k := 0) (n := 0) (Nat.le_of_ble_eq_true rfl) (Nat.le_of_ble_eq_true rfl) ?_
          exact W.zret (v := (0 : Int32)) hx hb hr (by rfl) (fun t ht hW9 => ⟨⟨(0 : Int32), (), rfl, (by show (0 : Int32) = f_X12_isKind x1; unfold f_X12_isKind; rw [if_neg c1, if_neg c2, if_neg c3, if_neg c4]), wd_end hP hK hD ht hW9.alike⟩, hS.F ht⟩) hS.2.2 dX12_isKind_29 hlocks
        · have c4i : x1.toInt = 99 := eq_v rfl rfl c4
          refine lv_iconst (v := 1) hx hb dX12_isKind_24 (by decide) ?_
          refine lv_goto (tgt := 29) hx hb dX12_isKind_25 (by decide) ?_
          refine W.widen (k := 0) (n := 0) (Nat.le_of_ble_eq_true rfl) (Nat.le_of_ble_eq_true rfl) ?_
          exact W.zret (v := (1 : Int32)) hx hb hr (by rfl) (fun t ht hW9 => ⟨⟨(1 : Int32), (), rfl, (by show (1 : Int32) = f_X12_isKind x1; unfold f_X12_isKind; rw [if_neg c1, if_neg c2, if_neg c3, if_pos c4]), wd_end hP hK hD ht hW9.alike⟩, hS.F ht⟩) hS.2.2 dX12_isKind_29 hlocks
def f_X12_machine (S : wPS) (o1 : Nat) (x1 : Int32) (x2 : Int32) : (Int32 × wPS) := if (f_X12_isKind x1) = (0 : Int32) then l2 (f_X12_fails S o1 (1 : Int32)) (fun r5 S8 => (r5, S8)) else if (f_X12_in x2.toInt64 (1 : Int64) (99 : Int64)) = (0 : Int32) then l2 (f_X12_fails S o1 (1 : Int32)) (fun r64 S67 => (r64, S67)) else if (S.I o1 19) = (6 : Int32) then l2 (f_X12_fails S o1 (2 : Int32)) (fun r56 S59 => (r56, S59)) else l1 (S.si (S.f o1 5) (upd (S.i (S.f o1 5)) (S.I o1 19).toNatClampNeg (vp_nar .char x1))) (fun S24 => l1 (S24.si (S.f o1 6) (upd (S24.i (S.f o1 6)) (S24.I o1 19).toNatClampNeg x2)) (fun S33 => l1 (S33.sI o1 19 ((S33.I o1 19) + (1 : Int32))) (fun S41 => l2 (f_X12_answer S41 o1 ((S41.I o1 19) - (1 : Int32))) (fun r48 S51 => (r48, S51)))))
theorem hi_X12_machine_X12 : ∀ w ∈ u_ws RX12 TX12 34, w ∈ wsX12_machine := by decide +kernel
theorem hd_X12_machine : yX12_machine.cls = RX12 ∧ yX12_machine.cls ≠ "java/lang/invoke/MethodHandle" ∧ yX12_machine.cls ≠ "java/lang/invoke/VarHandle" ∧ (parseMethodDescriptor yX12_machine.desc).map (fun d => d.parameters.length) = some 2 := by decide +kernel
set_option maxHeartbeats 4000000 in
set_option maxRecDepth 100000 in
theorem c_X12_machine (l : Launch) {D : va_G} {cy : Nat → ClassId} {X : va_W} (S : wPS) (sz : Nat) (o1 : Nat) (h_o1 : isA S o1 12) (x1 : Int32) (x2 : Int32) (hW : wtB S [])  : Met l yX12_machine wsX12_machine ({ frames := 1, cells := 0, slots := 0, locals := 25 }) (va_Pc [.ref o1, .int x1, .int x2] (fun U => U.heap.size = sz ∧ WD D cy X (fun _ => True) S U ∧ NW U)) (va_Qi (fun r (u : wPS) => (r, u) = f_X12_machine S o1 x1 x2 ∧ stp [(12, 15), (12, 19), (34, 100), (38, 100)] [] [] S u) (fun u t => WD D cy X (va_A (X ++ PL cy S) sz) u t) (va_A (X ++ PL cy S) sz)) 0 0 (va_A (X ++ PL cy S) sz) := by
  refine Met.ofW (cc := cX12_machine) (maxL := 3) (ret := (some .int)) (by decide) rfl ?_
  intro p e s m args below meth c s₁ B hml hv
  obtain ⟨rfl, hsz, ⟨hP, hK, hD0⟩, hN⟩ := hv
  have hx := B.exec
  have hb := B.bytes
  have hr := B.returns
  have hts := atoms_spec (ws := wsX12_machine) B.pre
  have hown : s.vm.findClass RX12 = some m.cls := findClass_of_methodNamed (x := yX12_machine) B.named
  have hlocks := B.notSynchronized
  subst hsz
  have hD := hD0.self (sz := s.heap.size)
  generalize hAe : va_A (X ++ PL cy S) s.heap.size = A at hD ⊢
  have hA : ∀ q : Nat, s.heap.size ≤ q → A q := fun q h => by rw [← hAe]; exact Or.inr h
  have hS : va_S A s.heap s.heap [] := va_S.rf
  have hl := lv_entry ([.ref o1, .int x1, .int x2]) (n := 3) (Nat.le_of_ble_eq_true rfl)
  rw [lg_entry_eq]
  generalize (lg_sl ([.ref o1, .int x1, .int x2]) ++ List.replicate (3 - (lg_sl ([.ref o1, .int x1, .int x2])).length) Slot.unset).toArray = ls at hl ⊢
  have hl : lv_has ls 3 [(0, .ref o1), (1, .int x1), (2, .int x2)] := hl
  have t0 : stp [(12, 15), (12, 19), (34, 100), (38, 100)] [] [] S S := stp.rf hW
  have r19 := ((hW.at h_o1 List.not_mem_nil).to_12 h_o1.2.1).R19
  refine lv_iload_n hx hb dX12_machine_0 rfl (lv_at hl 1 rfl) ?_
  have hFc := free_all hD hS hA
  refine va_calli (va_runS (As := [.int x1]) (rest := []) ⟨hx, hb, hml, hown, hts⟩ (c_X12_isKind l (cy := cy) (X := X) (D := D) S _ x1) (cwS 1 hts gX12_machine_X12_isKind rfl rfl rfl hd_X12_isKind ⟨Nat.le_of_ble_eq_true rfl, Nat.le_of_ble_eq_true rfl⟩) (pS hP hK hD hN) rfl rfl hl.1 rfl (lv_room (Nat.le_of_ble_eq_true rfl)) dX12_machine_1 ⟨(Nat.zero_le _), (Nat.zero_le _)⟩) hS (fun q _ h => hFc q h) hFc (fun r1 u t H1 locs ht hvm hw hB hz1 hk1 hS => ?_)
  have c2 := hw
  obtain ⟨hP, hD⟩ := wd_post hFc ht hB
  generalize H1 = H at hP hS ⊢
  obtain rfl : f_X12_isKind x1 = r1 := c2.symm
  refine lv_if_eq (tgt := 19) hx hb dX12_machine_4 (by decide) (fun c3 => ?_) (fun c3 => ?_)
  · have c3i : (f_X12_isKind x1).toInt = 0 := eq_v rfl rfl c3
    refine lv_aload_n hx hb dX12_machine_19 rfl (lv_at hl 0 rfl) ?_
    refine lv_iconst (v := 1) hx hb dX12_machine_20 (by decide) ?_
    have l32_1 : (1 : Int32).toInt = 1 := rfl
    have hFc := free_all hD hS hA
    obtain ⟨k4, gk4, hk4⟩ := wGt (cy := cy) X S h_o1.1 h_o1.2.1
    refine va_calli (va_runV (As := [.int (1 : Int32)]) (rest := []) ⟨hx, hb, hml, hown, hts⟩ (c_X12_fails l (cy := cy) (X := X) (D := D) S _ o1 h_o1 (1 : Int32) (hW)) (cwV 1 hts gX12_machine_X12_fails rfl rfl rfl hd_X12_fails ⟨Nat.le_of_ble_eq_true rfl, Nat.le_of_ble_eq_true rfl⟩) (pV (va_recv hK hP (q := (RX12, TX12, 34)) (ci := 16) (q0 := k4) rfl hk4) hP hK hD hN) rfl rfl hl.1 rfl (lv_room (Nat.le_of_ble_eq_true rfl)) dX12_machine_21 ⟨(Nat.zero_le _), (Nat.zero_le _)⟩) hS (fun q _ h => hFc q h) hFc (fun r5 u t H1 locs ht hvm hw hB hz1 hk1 hS => ?_)
    obtain ⟨c6, w7⟩ := hw
    obtain ⟨hP, hD⟩ := wd_post hFc ht hB
    generalize H1 = H at hP hS ⊢
    obtain ⟨S8, rfl⟩ : ∃ z, z = u := ⟨_, rfl⟩
    have t9 : stp [(12, 15), (12, 19), (34, 100), (38, 100)] [] [] S S8 := t0.tr w7 (by decide) (fun _ q => absurd q List.not_mem_nil)
    have xe10 : ext S S8 := w7.x
    have k11 : (S8.I o1 19).toInt = (S.I o1 19).toInt := by rw [(w7.fR o1 h_o1.1 List.not_mem_nil).1 19 (by rw [h_o1.2.1]; decide) |>.1]
    refine W.widen (k := 0) (n := 0) (Nat.le_of_ble_eq_true rfl) (Nat.le_of_ble_eq_true rfl) ?_
    exact W.iret (v := r5) hx hb hr (fun t ht hW9 => ⟨⟨r5, S8, rfl, ⟨(by show (r5, S8) = f_X12_machine S o1 x1 x2; unfold f_X12_machine; rw [if_pos c3, l2_eq c6.symm]), t9⟩, wd_end hP hK hD ht hW9.alike⟩, hS.F ht⟩) hS.2.2 dX12_machine_24 hlocks
  · have c3i : ¬ (f_X12_isKind x1).toInt = 0 := neq_v rfl rfl c3
    refine lv_iload_n hx hb dX12_machine_7 rfl (lv_at hl 2 rfl) ?_
    refine lv_i2l hx hb dX12_machine_8 rfl ?_
    refine lv_lconst (v := 1) hx hb dX12_machine_9 (by decide) ?_
    refine lv_ldc2 (own := RX12) (v := 99) hx hb hown (hts (.constantLong RX12 312 (99)) (by decide +kernel)) dX12_machine_10 ?_
    have hFc := free_all hD hS hA
    refine va_calli (va_runS (As := [.long x2.toInt64, .long (1 : Int64), .long (99 : Int64)]) (rest := []) ⟨hx, hb, hml, hown, hts⟩ (c_X12_in l (cy := cy) (X := X) (D := D) S _ x2.toInt64 (1 : Int64) (99 : Int64)) (cwS 3 hts gX12_machine_X12_in rfl rfl rfl hd_X12_in ⟨Nat.le_of_ble_eq_true rfl, Nat.le_of_ble_eq_true rfl⟩) (pS hP hK hD hN) rfl rfl hl.1 rfl (lv_room (Nat.le_of_ble_eq_true rfl)) dX12_machine_13 ⟨(Nat.zero_le _), (Nat.zero_le _)⟩) hS (fun q _ h => hFc q h) hFc (fun r12 u t H1 locs ht hvm hw hB hz1 hk1 hS => ?_)
    have c13 := hw
    obtain ⟨hP, hD⟩ := wd_post hFc ht hB
    generalize H1 = H at hP hS ⊢
    obtain rfl : f_X12_in x2.toInt64 (1 : Int64) (99 : Int64) = r12 := c13.symm
    have i14 := i64_i x2
    have l64_1 : (1 : Int64).toInt = 1 := rfl
    have l64_99 : (99 : Int64).toInt = 99 := rfl
    have i15 := in_rng x2.toInt64 (1 : Int64) (99 : Int64)
    refine lv_if_ne (tgt := 25) hx hb dX12_machine_16 (by decide) (fun c16 => ?_) (fun c16 => ?_)
    · have c16i : ¬ (f_X12_in x2.toInt64 (1 : Int64) (99 : Int64)).toInt = 0 := neq_v rfl rfl c16
      refine lv_aload_n hx hb dX12_machine_25 rfl (lv_at hl 0 rfl) ?_
      obtain ⟨k17, gk17, hk17⟩ := wGt (cy := cy) X S h_o1.1 h_o1.2.1
      have i18 := ((hW.at h_o1 List.not_mem_nil).to_12 h_o1.2.1).R19
      refine va_get (D := D) (ci := 16) (v := .int (S.I o1 19)) (C := RX12) (T := TX12) (N := 34) hx hb hts hi_X12_machine_X12 hown hK hP k17 hk17 rfl 19 (by decide) (hts (.fieldLink RX12 485 "HobhouseModel" "machines" "I") (by decide +kernel)) (fun _ h9 => h9) rfl dX12_machine_26 ?_
      refine lv_bipush (v := 6) hx hb dX12_machine_29 (by decide +kernel) ?_
      refine lv_icmp_ne (tgt := 40) hx hb dX12_machine_31 (by decide) (fun c19 => ?_) (fun c19 => ?_)
      · have c19i : ¬ (S.I o1 19).toInt = 6 := neq_v rfl rfl c19
        refine lv_aload_n hx hb dX12_machine_40 rfl (lv_at hl 0 rfl) ?_
        have F20 := ((hW.at h_o1 List.not_mem_nil).to_12 h_o1.2.1).F5
        obtain ⟨k21, gk21, hk21⟩ := wGt (cy := cy) X S h_o1.1 h_o1.2.1
        simp only [kE, F20.1] at hk21
        refine va_get (D := D) (ci := 16) (v := .ref (S.f o1 5)) (C := RX12) (T := TX12) (N := 34) hx hb hts hi_X12_machine_X12 hown hK hP k21 hk21 rfl 5 (by decide) (hts (.fieldLink RX12 41 "HobhouseModel" "kinds" "[C") (by decide +kernel)) (fun _ h9 => h9) rfl dX12_machine_41 ?_
        refine lv_aload_n hx hb dX12_machine_44 rfl (lv_at hl 0 rfl) ?_
        obtain ⟨k22, gk22, hk22⟩ := wGt (cy := cy) X S h_o1.1 h_o1.2.1
        refine va_get (D := D) (ci := 16) (v := .int (S.I o1 19)) (C := RX12) (T := TX12) (N := 34) hx hb hts hi_X12_machine_X12 hown hK hP k22 hk22 rfl 19 (by decide) (hts (.fieldLink RX12 485 "HobhouseModel" "machines" "I") (by decide +kernel)) (fun _ h9 => h9) rfl dX12_machine_45 ?_
        refine lv_iload_n hx hb dX12_machine_48 rfl (lv_at hl 1 rfl) ?_
        obtain ⟨k23, gk23, hk23⟩ := wGt (cy := cy) X S F20.2.1.1 F20.2.1.2.1
        refine va_cast hx hb hK hP hD hS k23 1 hk23 rfl (inb (m := 6) F20.2.2 (by omega) (by omega)) dX12_machine_49 (fun H locs hP2 hD2 hS => ?_)
        have e9 := wPui (cy := cy) (f := (upd (S.i (S.f o1 5)) (S.I o1 19).toNatClampNeg (vp_nar .char x1))) hD F20.2.1.1 F20.2.1.2.1 gk23 rfl
        obtain ⟨S24, hS24⟩ : ∃ z, S.si (S.f o1 5) (upd (S.i (S.f o1 5)) (S.I o1 19).toNatClampNeg (vp_nar .char x1)) = z := ⟨_, rfl⟩
        have hP : va_P D vwCl (X ++ PL cy S24) H := by rw [← hS24, ← e9]; exact hP2
        have hD : va_D A (X ++ PL cy S24) := by rw [← hS24, ← e9]; exact hD2
        have xe25 : ext S S24 := by rw [← hS24]; exact ext.si _ _ _
        have t26 : stp [(12, 15), (12, 19), (34, 100), (38, 100)] [] [] S S24 := by rw [← hS24]; exact t0.i (upd (S.i (S.f o1 5)) (S.I o1 19).toNatClampNeg (vp_nar .char x1)) F20.2.1 (by decide)
        have k27 : (S24.I o1 19).toInt = (S.I o1 19).toInt := by rw [← hS24]; rfl
        refine lv_aload_n hx hb dX12_machine_50 rfl (lv_at hl 0 rfl) ?_
        have F28 := ((hW.at h_o1 List.not_mem_nil).to_12 h_o1.2.1).F6
        obtain ⟨k29, gk29, hk29⟩ := wGt (cy := cy) X S24 (xe25.A h_o1).1 (xe25.A h_o1).2.1
        simp only [kE, (xe25.F h_o1 (by decide) F28.1)] at hk29
        refine va_get (D := D) (ci := 16) (v := .ref (S.f o1 6)) (C := RX12) (T := TX12) (N := 34) hx hb hts hi_X12_machine_X12 hown hK hP k29 hk29 rfl 6 (by decide) (hts (.fieldLink RX12 45 "HobhouseModel" "times" "[I") (by decide +kernel)) (fun _ h9 => h9) rfl dX12_machine_51 ?_
        refine lv_aload_n hx hb dX12_machine_54 rfl (lv_at hl 0 rfl) ?_
        obtain ⟨k30, gk30, hk30⟩ := wGt (cy := cy) X S24 (xe25.A h_o1).1 (xe25.A h_o1).2.1
        have i31 := ((t26.w.at (xe25.A h_o1) List.not_mem_nil).to_12 (xe25.A h_o1).2.1).R19
        refine va_get (D := D) (ci := 16) (v := .int (S24.I o1 19)) (C := RX12) (T := TX12) (N := 34) hx hb hts hi_X12_machine_X12 hown hK hP k30 hk30 rfl 19 (by decide) (hts (.fieldLink RX12 485 "HobhouseModel" "machines" "I") (by decide +kernel)) (fun _ h9 => h9) rfl dX12_machine_55 ?_
        refine lv_iload_n hx hb dX12_machine_58 rfl (lv_at hl 2 rfl) ?_
        obtain ⟨k32, gk32, hk32⟩ := wGt (cy := cy) X S24 (xe25.A F28.2.1).1 (xe25.A F28.2.1).2.1
        refine va_iast hx hb hK hP hD hS k32 2 hk32 rfl (inb (m := 6) ((xe25.n F28.2.1).trans F28.2.2) (by omega) (by omega)) dX12_machine_59 (fun H locs hP2 hD2 hS => ?_)
        have e9 := wPui (cy := cy) (f := (upd (S24.i (S.f o1 6)) (S24.I o1 19).toNatClampNeg x2)) hD (xe25.A F28.2.1).1 (xe25.A F28.2.1).2.1 gk32 rfl
        obtain ⟨S33, hS33⟩ : ∃ z, S24.si (S.f o1 6) (upd (S24.i (S.f o1 6)) (S24.I o1 19).toNatClampNeg x2) = z := ⟨_, rfl⟩
        have hP : va_P D vwCl (X ++ PL cy S33) H := by rw [← hS33, ← e9]; exact hP2
        have hD : va_D A (X ++ PL cy S33) := by rw [← hS33, ← e9]; exact hD2
        have xe34 : ext S24 S33 := by rw [← hS33]; exact ext.si _ _ _
        have t35 : stp [(12, 15), (12, 19), (34, 100), (38, 100)] [] [] S S33 := by rw [← hS33]; exact t26.i (upd (S24.i (S.f o1 6)) (S24.I o1 19).toNatClampNeg x2) (xe25.A F28.2.1) (by decide)
        have k36 : (S33.I o1 19).toInt = (S24.I o1 19).toInt := by rw [← hS33]; rfl
        refine lv_aload_n hx hb dX12_machine_60 rfl (lv_at hl 0 rfl) ?_
        refine lv_dup hx hb dX12_machine_61 rfl ?_
        obtain ⟨k37, gk37, hk37⟩ := wGt (cy := cy) X S33 (xe34.A (xe25.A h_o1)).1 (xe34.A (xe25.A h_o1)).2.1
        have i38 := ((t35.w.at (xe34.A (xe25.A h_o1)) List.not_mem_nil).to_12 (xe34.A (xe25.A h_o1)).2.1).R19
        refine va_get (D := D) (ci := 16) (v := .int (S33.I o1 19)) (C := RX12) (T := TX12) (N := 34) hx hb hts hi_X12_machine_X12 hown hK hP k37 hk37 rfl 19 (by decide) (hts (.fieldLink RX12 485 "HobhouseModel" "machines" "I") (by decide +kernel)) (fun _ h9 => h9) rfl dX12_machine_62 ?_
        refine lv_iconst (v := 1) hx hb dX12_machine_65 (by decide) ?_
        refine lv_iadd hx hb dX12_machine_66 ?_
        have l32_1 : (1 : Int32).toInt = 1 := rfl
        have i39 : ((S33.I o1 19) + (1 : Int32)).toInt = (S33.I o1 19).toInt + 1 := t_addr (n := 1) rfl (by omega)
        obtain ⟨k40, gk40, hk40⟩ := wGt (cy := cy) X S33 (xe34.A (xe25.A h_o1)).1 (xe34.A (xe25.A h_o1)).2.1
        refine va_put (D := D) (ci := 16) (v := .int ((S33.I o1 19) + (1 : Int32))) (ty := .int) (C := RX12) (T := TX12) (N := 34) hx hb hts hi_X12_machine_X12 tyX12 tyX12_ok nmX12 hown hK hP hD hS k40 hk40 rfl 19 (by decide) (hts (.fieldLink RX12 485 "HobhouseModel" "machines" "I") (by decide +kernel)) (fun _ h9 => h9) rfl (by decide +kernel) (rfl) (rfl) (Nat.le_of_ble_eq_true rfl) dX12_machine_67 (fun H locs hP2 hD2 hS => ?_)
        have e9 := wPuI (cy := cy) (j := 19) (v := ((S33.I o1 19) + (1 : Int32))) hD (xe34.A (xe25.A h_o1)).1 (xe34.A (xe25.A h_o1)).2.1 gk40 rfl
        obtain ⟨S41, hS41⟩ : ∃ z, S33.sI o1 19 ((S33.I o1 19) + (1 : Int32)) = z := ⟨_, rfl⟩
        have hP : va_P D vwCl (X ++ PL cy S41) H := by rw [← hS41, ← e9]; exact hP2
        have hD : va_D A (X ++ PL cy S41) := by rw [← hS41, ← e9]; exact hD2
        have xe42 : ext S33 S41 := by rw [← hS41]; exact ext.sI _ _ _ _
        have t43 : stp [(12, 15), (12, 19), (34, 100), (38, 100)] [] [] S S41 := by rw [← hS41]; exact t35.I 19 ((S33.I o1 19) + (1 : Int32)) (xe34.A (xe25.A h_o1)) (by decide) (⟨by omega, by omega⟩) (Or.inl (by decide))
        have k44 : (S41.I o1 19).toInt = ((S33.I o1 19) + (1 : Int32)).toInt := by rw [← hS41, sI_eq]
        refine lv_aload_n hx hb dX12_machine_70 rfl (lv_at hl 0 rfl) ?_
        refine lv_aload_n hx hb dX12_machine_71 rfl (lv_at hl 0 rfl) ?_
        obtain ⟨k45, gk45, hk45⟩ := wGt (cy := cy) X S41 (xe42.A (xe34.A (xe25.A h_o1))).1 (xe42.A (xe34.A (xe25.A h_o1))).2.1
        have i46 := ((t43.w.at (xe42.A (xe34.A (xe25.A h_o1))) List.not_mem_nil).to_12 (xe42.A (xe34.A (xe25.A h_o1))).2.1).R19
        refine va_get (D := D) (ci := 16) (v := .int (S41.I o1 19)) (C := RX12) (T := TX12) (N := 34) hx hb hts hi_X12_machine_X12 hown hK hP k45 hk45 rfl 19 (by decide) (hts (.fieldLink RX12 485 "HobhouseModel" "machines" "I") (by decide +kernel)) (fun _ h9 => h9) rfl dX12_machine_72 ?_
        refine lv_iconst (v := 1) hx hb dX12_machine_75 (by decide) ?_
        refine lv_isub hx hb dX12_machine_76 ?_
        have hFc := free_all hD hS hA
        obtain ⟨k47, gk47, hk47⟩ := wGt (cy := cy) X S41 (xe42.A (xe34.A (xe25.A h_o1))).1 (xe42.A (xe34.A (xe25.A h_o1))).2.1
        refine va_calli (va_runV (As := [.int ((S41.I o1 19) - (1 : Int32))]) (rest := []) ⟨hx, hb, hml, hown, hts⟩ (c_X12_answer l (cy := cy) (X := X) (D := D) S41 _ o1 (xe42.A (xe34.A (xe25.A h_o1))) ((S41.I o1 19) - (1 : Int32)) (t43.w)) (cwV 1 hts gX12_machine_X12_answer rfl rfl rfl hd_X12_answer ⟨Nat.le_of_ble_eq_true rfl, Nat.le_of_ble_eq_true rfl⟩) (pV (va_recv hK hP (q := (RX12, TX12, 34)) (ci := 16) (q0 := k47) rfl hk47) hP hK hD hN) rfl rfl hl.1 rfl (lv_room (Nat.le_of_ble_eq_true rfl)) dX12_machine_77 ⟨(Nat.zero_le _), (Nat.zero_le _)⟩) hS (fun q _ h => hFc q h) hFc (fun r48 u t H1 locs ht hvm hw hB hz1 hk1 hS => ?_)
        obtain ⟨c49, w50⟩ := hw
        obtain ⟨hP, hD⟩ := wd_post hFc ht hB
        generalize H1 = H at hP hS ⊢
        obtain ⟨S51, rfl⟩ : ∃ z, z = u := ⟨_, rfl⟩
        have t52 : stp [(12, 15), (12, 19), (34, 100), (38, 100)] [] [] S S51 := t43.tr w50 (by decide) (fun _ q => absurd q List.not_mem_nil)
        have xe53 : ext S41 S51 := w50.x
        have k54 : (S51.I o1 19).toInt = (S41.I o1 19).toInt := by rw [(w50.fR o1 ((xe25.tr (xe34.tr xe42)).A h_o1).1 List.not_mem_nil).1 19 (by rw [((xe25.tr (xe34.tr xe42)).A h_o1).2.1]; decide) |>.1]
        refine W.widen (k := 0) (n := 0) (Nat.le_of_ble_eq_true rfl) (Nat.le_of_ble_eq_true rfl) ?_
        exact W.iret (v := r48) hx hb hr (fun t ht hW9 => ⟨⟨r48, S51, rfl, ⟨(by show (r48, S51) = f_X12_machine S o1 x1 x2; unfold f_X12_machine; rw [if_neg c3, if_neg c16, if_neg c19, l1_eq hS24, l1_eq hS33, l1_eq hS41, l2_eq c49.symm]), t52⟩, wd_end hP hK hD ht hW9.alike⟩, hS.F ht⟩) hS.2.2 dX12_machine_80 hlocks
      · have c19i : (S.I o1 19).toInt = 6 := eq_v rfl rfl c19
        refine lv_aload_n hx hb dX12_machine_34 rfl (lv_at hl 0 rfl) ?_
        refine lv_iconst (v := 2) hx hb dX12_machine_35 (by decide) ?_
        have l32_2 : (2 : Int32).toInt = 2 := rfl
        have hFc := free_all hD hS hA
        obtain ⟨k55, gk55, hk55⟩ := wGt (cy := cy) X S h_o1.1 h_o1.2.1
        refine va_calli (va_runV (As := [.int (2 : Int32)]) (rest := []) ⟨hx, hb, hml, hown, hts⟩ (c_X12_fails l (cy := cy) (X := X) (D := D) S _ o1 h_o1 (2 : Int32) (hW)) (cwV 1 hts gX12_machine_X12_fails rfl rfl rfl hd_X12_fails ⟨Nat.le_of_ble_eq_true rfl, Nat.le_of_ble_eq_true rfl⟩) (pV (va_recv hK hP (q := (RX12, TX12, 34)) (ci := 16) (q0 := k55) rfl hk55) hP hK hD hN) rfl rfl hl.1 rfl (lv_room (Nat.le_of_ble_eq_true rfl)) dX12_machine_36 ⟨(Nat.zero_le _), (Nat.zero_le _)⟩) hS (fun q _ h => hFc q h) hFc (fun r56 u t H1 locs ht hvm hw hB hz1 hk1 hS => ?_)
        obtain ⟨c57, w58⟩ := hw
        obtain ⟨hP, hD⟩ := wd_post hFc ht hB
        generalize H1 = H at hP hS ⊢
        obtain ⟨S59, rfl⟩ : ∃ z, z = u := ⟨_, rfl⟩
        have t60 : stp [(12, 15), (12, 19), (34, 100), (38, 100)] [] [] S S59 := t0.tr w58 (by decide) (fun _ q => absurd q List.not_mem_nil)
        have xe61 : ext S S59 := w58.x
        have k62 : (S59.I o1 19).toInt = (S.I o1 19).toInt := by rw [(w58.fR o1 h_o1.1 List.not_mem_nil).1 19 (by rw [h_o1.2.1]; decide) |>.1]
        refine W.widen (k := 0) (n := 0) (Nat.le_of_ble_eq_true rfl) (Nat.le_of_ble_eq_true rfl) ?_
        exact W.iret (v := r56) hx hb hr (fun t ht hW9 => ⟨⟨r56, S59, rfl, ⟨(by show (r56, S59) = f_X12_machine S o1 x1 x2; unfold f_X12_machine; rw [if_neg c3, if_neg c16, if_pos c19, l2_eq c57.symm]), t60⟩, wd_end hP hK hD ht hW9.alike⟩, hS.F ht⟩) hS.2.2 dX12_machine_39 hlocks
    · have c16i : (f_X12_in x2.toInt64 (1 : Int64) (99 : Int64)).toInt = 0 := eq_v rfl rfl c16
      refine lv_aload_n hx hb dX12_machine_19 rfl (lv_at hl 0 rfl) ?_
      refine lv_iconst (v := 1) hx hb dX12_machine_20 (by decide) ?_
      have l32_1 : (1 : Int32).toInt = 1 := rfl
      have hFc := free_all hD hS hA
      obtain ⟨k63, gk63, hk63⟩ := wGt (cy := cy) X S h_o1.1 h_o1.2.1
      refine va_calli (va_runV (As := [.int (1 : Int32)]) (rest := []) ⟨hx, hb, hml, hown, hts⟩ (c_X12_fails l (cy := cy) (X := X) (D := D) S _ o1 h_o1 (1 : Int32) (hW)) (cwV 1 hts gX12_machine_X12_fails rfl rfl rfl hd_X12_fails ⟨Nat.le_of_ble_eq_true rfl, Nat.le_of_ble_eq_true rfl⟩) (pV (va_recv hK hP (q := (RX12, TX12, 34)) (ci := 16) (q0 := k63) rfl hk63) hP hK hD hN) rfl rfl hl.1 rfl (lv_room (Nat.le_of_ble_eq_true rfl)) dX12_machine_21 ⟨(Nat.zero_le _), (Nat.zero_le _)⟩) hS (fun q _ h => hFc q h) hFc (fun r64 u t H1 locs ht hvm hw hB hz1 hk1 hS => ?_)
      obtain ⟨c65, w66⟩ := hw
      obtain ⟨hP, hD⟩ := wd_post hFc ht hB
      generalize H1 = H at hP hS ⊢
      obtain ⟨S67, rfl⟩ : ∃ z, z = u := ⟨_, rfl⟩
      have t68 : stp [(12, 15), (12, 19), (34, 100), (38, 100)] [] [] S S67 := t0.tr w66 (by decide) (fun _ q => absurd q List.not_mem_nil)
      have xe69 : ext S S67 := w66.x
      have k70 : (S67.I o1 19).toInt = (S.I o1 19).toInt := by rw [(w66.fR o1 h_o1.1 List.not_mem_nil).1 19 (by rw [h_o1.2.1]; decide) |>.1]
      refine W.widen (k := 0) (n := 0) (Nat.le_of_ble_eq_true rfl) (Nat.le_of_ble_eq_true rfl) ?_
      exact W.iret (v := r64) hx hb hr (fun t ht hW9 => ⟨⟨r64, S67, rfl, ⟨(by show (r64, S67) = f_X12_machine S o1 x1 x2; unfold f_X12_machine; rw [if_neg c3, if_pos c16, l2_eq c65.symm]), t68⟩, wd_end hP hK hD ht hW9.alike⟩, hS.F ht⟩) hS.2.2 dX12_machine_24 hlocks
def f_X12_toolsAt (S : wPS) (o1 : Nat) (x1 : Int32) (x2 : Int32) : (Int32 × wPS) := if (f_X12_in x1.toInt64 (0 : Int64) (((S.I o1 19) - (1 : Int32)).toInt64)) = (0 : Int32) then l2 (f_X12_fails S o1 (1 : Int32)) (fun r38 S41 => (r38, S41)) else if (f_X12_in x2.toInt64 (0 : Int64) (9999 : Int64)) = (0 : Int32) then l2 (f_X12_fails S o1 (2 : Int32)) (fun r31 S34 => (r31, S34)) else l1 (S.si (S.f o1 7) (upd (S.i (S.f o1 7)) x1.toNatClampNeg x2)) (fun S20 => l2 (f_X12_answer S20 o1 (S.i (S.f o1 7) x1.toNatClampNeg)) (fun r24 S27 => (r24, S27)))
theorem hi_X12_toolsAt_X12 : ∀ w ∈ u_ws RX12 TX12 34, w ∈ wsX12_toolsAt := by decide +kernel
theorem hd_X12_toolsAt : yX12_toolsAt.cls = RX12 ∧ yX12_toolsAt.cls ≠ "java/lang/invoke/MethodHandle" ∧ yX12_toolsAt.cls ≠ "java/lang/invoke/VarHandle" ∧ (parseMethodDescriptor yX12_toolsAt.desc).map (fun d => d.parameters.length) = some 2 := by decide +kernel
set_option maxHeartbeats 4000000 in
set_option maxRecDepth 100000 in
theorem c_X12_toolsAt (l : Launch) {D : va_G} {cy : Nat → ClassId} {X : va_W} (S : wPS) (sz : Nat) (o1 : Nat) (h_o1 : isA S o1 12) (x1 : Int32) (x2 : Int32) (hW : wtB S [])  : Met l yX12_toolsAt wsX12_toolsAt ({ frames := 1, cells := 0, slots := 0, locals := 25 }) (va_Pc [.ref o1, .int x1, .int x2] (fun U => U.heap.size = sz ∧ WD D cy X (fun _ => True) S U ∧ NW U)) (va_Qi (fun r (u : wPS) => (r, u) = f_X12_toolsAt S o1 x1 x2 ∧ stp [(12, 15), (35, 100)] [] [] S u) (fun u t => WD D cy X (va_A (X ++ PL cy S) sz) u t) (va_A (X ++ PL cy S) sz)) 0 0 (va_A (X ++ PL cy S) sz) := by
  refine Met.ofW (cc := cX12_toolsAt) (maxL := 4) (ret := (some .int)) (by decide) rfl ?_
  intro p e s m args below meth c s₁ B hml hv
  obtain ⟨rfl, hsz, ⟨hP, hK, hD0⟩, hN⟩ := hv
  have hx := B.exec
  have hb := B.bytes
  have hr := B.returns
  have hts := atoms_spec (ws := wsX12_toolsAt) B.pre
  have hown : s.vm.findClass RX12 = some m.cls := findClass_of_methodNamed (x := yX12_toolsAt) B.named
  have hlocks := B.notSynchronized
  subst hsz
  have hD := hD0.self (sz := s.heap.size)
  generalize hAe : va_A (X ++ PL cy S) s.heap.size = A at hD ⊢
  have hA : ∀ q : Nat, s.heap.size ≤ q → A q := fun q h => by rw [← hAe]; exact Or.inr h
  have hS : va_S A s.heap s.heap [] := va_S.rf
  have hl := lv_entry ([.ref o1, .int x1, .int x2]) (n := 4) (Nat.le_of_ble_eq_true rfl)
  rw [lg_entry_eq]
  generalize (lg_sl ([.ref o1, .int x1, .int x2]) ++ List.replicate (4 - (lg_sl ([.ref o1, .int x1, .int x2])).length) Slot.unset).toArray = ls at hl ⊢
  have hl : lv_has ls 4 [(0, .ref o1), (1, .int x1), (2, .int x2)] := hl
  have t0 : stp [(12, 15), (35, 100)] [] [] S S := stp.rf hW
  have r19 := ((hW.at h_o1 List.not_mem_nil).to_12 h_o1.2.1).R19
  refine lv_iload_n hx hb dX12_toolsAt_0 rfl (lv_at hl 1 rfl) ?_
  refine lv_i2l hx hb dX12_toolsAt_1 rfl ?_
  refine lv_lconst (v := 0) hx hb dX12_toolsAt_2 (by decide) ?_
  refine lv_aload_n hx hb dX12_toolsAt_3 rfl (lv_at hl 0 rfl) ?_
  obtain ⟨k1, gk1, hk1⟩ := wGt (cy := cy) X S h_o1.1 h_o1.2.1
  have i2 := ((hW.at h_o1 List.not_mem_nil).to_12 h_o1.2.1).R19
  refine va_get (D := D) (ci := 16) (v := .int (S.I o1 19)) (C := RX12) (T := TX12) (N := 34) hx hb hts hi_X12_toolsAt_X12 hown hK hP k1 hk1 rfl 19 (by decide) (hts (.fieldLink RX12 485 "HobhouseModel" "machines" "I") (by decide +kernel)) (fun _ h9 => h9) rfl dX12_toolsAt_4 ?_
  refine lv_iconst (v := 1) hx hb dX12_toolsAt_7 (by decide) ?_
  refine lv_isub hx hb dX12_toolsAt_8 ?_
  refine lv_i2l hx hb dX12_toolsAt_9 rfl ?_
  have hFc := free_all hD hS hA
  refine va_calli (va_runS (As := [.long x1.toInt64, .long (0 : Int64), .long (((S.I o1 19) - (1 : Int32)).toInt64)]) (rest := []) ⟨hx, hb, hml, hown, hts⟩ (c_X12_in l (cy := cy) (X := X) (D := D) S _ x1.toInt64 (0 : Int64) (((S.I o1 19) - (1 : Int32)).toInt64)) (cwS 3 hts gX12_toolsAt_X12_in rfl rfl rfl hd_X12_in ⟨Nat.le_of_ble_eq_true rfl, Nat.le_of_ble_eq_true rfl⟩) (pS hP hK hD hN) rfl rfl hl.1 rfl (lv_room (Nat.le_of_ble_eq_true rfl)) dX12_toolsAt_10 ⟨(Nat.zero_le _), (Nat.zero_le _)⟩) hS (fun q _ h => hFc q h) hFc (fun r3 u t H1 locs ht hvm hw hB hz1 hk1 hS => ?_)
  have c4 := hw
  obtain ⟨hP, hD⟩ := wd_post hFc ht hB
  generalize H1 = H at hP hS ⊢
  obtain rfl : f_X12_in x1.toInt64 (0 : Int64) (((S.I o1 19) - (1 : Int32)).toInt64) = r3 := c4.symm
  have i5 := i64_i x1
  have l64_0 : (0 : Int64).toInt = 0 := rfl
  have l32_1 : (1 : Int32).toInt = 1 := rfl
  have i6 : ((S.I o1 19) - (1 : Int32)).toInt = (S.I o1 19).toInt - 1 := t_subr (n := 1) rfl (by omega)
  have i7 := i64_i ((S.I o1 19) - (1 : Int32))
  have i8 := in_rng x1.toInt64 (0 : Int64) (((S.I o1 19) - (1 : Int32)).toInt64)
  refine lv_if_ne (tgt := 22) hx hb dX12_toolsAt_13 (by decide) (fun c9 => ?_) (fun c9 => ?_)
  · have c9i : ¬ (f_X12_in x1.toInt64 (0 : Int64) (((S.I o1 19) - (1 : Int32)).toInt64)).toInt = 0 := neq_v rfl rfl c9
    refine lv_iload_n hx hb dX12_toolsAt_22 rfl (lv_at hl 2 rfl) ?_
    refine lv_i2l hx hb dX12_toolsAt_23 rfl ?_
    refine lv_lconst (v := 0) hx hb dX12_toolsAt_24 (by decide) ?_
    refine lv_ldc2 (own := RX12) (v := 9999) hx hb hown (hts (.constantLong RX12 249 (9999)) (by decide +kernel)) dX12_toolsAt_25 ?_
    have hFc := free_all hD hS hA
    refine va_calli (va_runS (As := [.long x2.toInt64, .long (0 : Int64), .long (9999 : Int64)]) (rest := []) ⟨hx, hb, hml, hown, hts⟩ (c_X12_in l (cy := cy) (X := X) (D := D) S _ x2.toInt64 (0 : Int64) (9999 : Int64)) (cwS 3 hts gX12_toolsAt_X12_in rfl rfl rfl hd_X12_in ⟨Nat.le_of_ble_eq_true rfl, Nat.le_of_ble_eq_true rfl⟩) (pS hP hK hD hN) rfl rfl hl.1 rfl (lv_room (Nat.le_of_ble_eq_true rfl)) dX12_toolsAt_28 ⟨(Nat.zero_le _), (Nat.zero_le _)⟩) hS (fun q _ h => hFc q h) hFc (fun r10 u t H1 locs ht hvm hw hB hz1 hk1 hS => ?_)
    have c11 := hw
    obtain ⟨hP, hD⟩ := wd_post hFc ht hB
    generalize H1 = H at hP hS ⊢
    obtain rfl : f_X12_in x2.toInt64 (0 : Int64) (9999 : Int64) = r10 := c11.symm
    have i12 := i64_i x2
    have l64_9999 : (9999 : Int64).toInt = 9999 := rfl
    have i13 := in_rng x2.toInt64 (0 : Int64) (9999 : Int64)
    refine lv_if_ne (tgt := 40) hx hb dX12_toolsAt_31 (by decide) (fun c14 => ?_) (fun c14 => ?_)
    · have c14i : ¬ (f_X12_in x2.toInt64 (0 : Int64) (9999 : Int64)).toInt = 0 := neq_v rfl rfl c14
      refine lv_aload_n hx hb dX12_toolsAt_40 rfl (lv_at hl 0 rfl) ?_
      have F15 := ((hW.at h_o1 List.not_mem_nil).to_12 h_o1.2.1).F7
      obtain ⟨k16, gk16, hk16⟩ := wGt (cy := cy) X S h_o1.1 h_o1.2.1
      simp only [kE, F15.1] at hk16
      refine va_get (D := D) (ci := 16) (v := .ref (S.f o1 7)) (C := RX12) (T := TX12) (N := 34) hx hb hts hi_X12_toolsAt_X12 hown hK hP k16 hk16 rfl 7 (by decide) (hts (.fieldLink RX12 48 "HobhouseModel" "tools" "[I") (by decide +kernel)) (fun _ h9 => h9) rfl dX12_toolsAt_41 ?_
      refine lv_iload_n hx hb dX12_toolsAt_44 rfl (lv_at hl 1 rfl) ?_
      obtain ⟨k17, gk17, hk17⟩ := wGt (cy := cy) X S F15.2.1.1 F15.2.1.2.1
      refine va_iald hx hb hK hP k17 2 hk17 rfl (inb (m := 6) F15.2.2 (by omega) (by omega)) dX12_toolsAt_45 ?_
      refine lv_istore_n (lv' := [(3, .int (S.i (S.f o1 7) x1.toNatClampNeg)), (0, .ref o1), (1, .int x1), (2, .int x2)]) hx hb dX12_toolsAt_46 rfl hl (by decide) rfl (fun ls hl => ?_)
      refine lv_aload_n hx hb dX12_toolsAt_47 rfl (lv_at hl 1 rfl) ?_
      obtain ⟨k18, gk18, hk18⟩ := wGt (cy := cy) X S h_o1.1 h_o1.2.1
      simp only [kE, F15.1] at hk18
      refine va_get (D := D) (ci := 16) (v := .ref (S.f o1 7)) (C := RX12) (T := TX12) (N := 34) hx hb hts hi_X12_toolsAt_X12 hown hK hP k18 hk18 rfl 7 (by decide) (hts (.fieldLink RX12 48 "HobhouseModel" "tools" "[I") (by decide +kernel)) (fun _ h9 => h9) rfl dX12_toolsAt_48 ?_
      refine lv_iload_n hx hb dX12_toolsAt_51 rfl (lv_at hl 2 rfl) ?_
      refine lv_iload_n hx hb dX12_toolsAt_52 rfl (lv_at hl 3 rfl) ?_
      obtain ⟨k19, gk19, hk19⟩ := wGt (cy := cy) X S F15.2.1.1 F15.2.1.2.1
      refine va_iast hx hb hK hP hD hS k19 2 hk19 rfl (inb (m := 6) F15.2.2 (by omega) (by omega)) dX12_toolsAt_53 (fun H locs hP2 hD2 hS => ?_)
      have e9 := wPui (cy := cy) (f := (upd (S.i (S.f o1 7)) x1.toNatClampNeg x2)) hD F15.2.1.1 F15.2.1.2.1 gk19 rfl
      obtain ⟨S20, hS20⟩ : ∃ z, S.si (S.f o1 7) (upd (S.i (S.f o1 7)) x1.toNatClampNeg x2) = z := ⟨_, rfl⟩
      have hP : va_P D vwCl (X ++ PL cy S20) H := by rw [← hS20, ← e9]; exact hP2
      have hD : va_D A (X ++ PL cy S20) := by rw [← hS20, ← e9]; exact hD2
      have xe21 : ext S S20 := by rw [← hS20]; exact ext.si _ _ _
      have t22 : stp [(12, 15), (35, 100)] [] [] S S20 := by rw [← hS20]; exact t0.i (upd (S.i (S.f o1 7)) x1.toNatClampNeg x2) F15.2.1 (by decide)
      refine lv_aload_n hx hb dX12_toolsAt_54 rfl (lv_at hl 1 rfl) ?_
      refine lv_iload_n hx hb dX12_toolsAt_55 rfl (lv_at hl 0 rfl) ?_
      have hFc := free_all hD hS hA
      obtain ⟨k23, gk23, hk23⟩ := wGt (cy := cy) X S20 (xe21.A h_o1).1 (xe21.A h_o1).2.1
      refine va_calli (va_runV (As := [.int (S.i (S.f o1 7) x1.toNatClampNeg)]) (rest := []) ⟨hx, hb, hml, hown, hts⟩ (c_X12_answer l (cy := cy) (X := X) (D := D) S20 _ o1 (xe21.A h_o1) (S.i (S.f o1 7) x1.toNatClampNeg) (t22.w)) (cwV 1 hts gX12_toolsAt_X12_answer rfl rfl rfl hd_X12_answer ⟨Nat.le_of_ble_eq_true rfl, Nat.le_of_ble_eq_true rfl⟩) (pV (va_recv hK hP (q := (RX12, TX12, 34)) (ci := 16) (q0 := k23) rfl hk23) hP hK hD hN) rfl rfl hl.1 rfl (lv_room (Nat.le_of_ble_eq_true rfl)) dX12_toolsAt_56 ⟨(Nat.zero_le _), (Nat.zero_le _)⟩) hS (fun q _ h => hFc q h) hFc (fun r24 u t H1 locs ht hvm hw hB hz1 hk1 hS => ?_)
      obtain ⟨c25, w26⟩ := hw
      obtain ⟨hP, hD⟩ := wd_post hFc ht hB
      generalize H1 = H at hP hS ⊢
      obtain ⟨S27, rfl⟩ : ∃ z, z = u := ⟨_, rfl⟩
      have t28 : stp [(12, 15), (35, 100)] [] [] S S27 := t22.tr w26 (by decide) (fun _ q => absurd q List.not_mem_nil)
      have xe29 : ext S20 S27 := w26.x
      refine W.widen (k := 0) (n := 0) (Nat.le_of_ble_eq_true rfl) (Nat.le_of_ble_eq_true rfl) ?_
      exact W.iret (v := r24) hx hb hr (fun t ht hW9 => ⟨⟨r24, S27, rfl, ⟨(by show (r24, S27) = f_X12_toolsAt S o1 x1 x2; unfold f_X12_toolsAt; rw [if_neg c9, if_neg c14, l1_eq hS20, l2_eq c25.symm]), t28⟩, wd_end hP hK hD ht hW9.alike⟩, hS.F ht⟩) hS.2.2 dX12_toolsAt_59 hlocks
    · have c14i : (f_X12_in x2.toInt64 (0 : Int64) (9999 : Int64)).toInt = 0 := eq_v rfl rfl c14
      refine lv_aload_n hx hb dX12_toolsAt_34 rfl (lv_at hl 0 rfl) ?_
      refine lv_iconst (v := 2) hx hb dX12_toolsAt_35 (by decide) ?_
      have l32_2 : (2 : Int32).toInt = 2 := rfl
      have hFc := free_all hD hS hA
      obtain ⟨k30, gk30, hk30⟩ := wGt (cy := cy) X S h_o1.1 h_o1.2.1
      refine va_calli (va_runV (As := [.int (2 : Int32)]) (rest := []) ⟨hx, hb, hml, hown, hts⟩ (c_X12_fails l (cy := cy) (X := X) (D := D) S _ o1 h_o1 (2 : Int32) (hW)) (cwV 1 hts gX12_toolsAt_X12_fails rfl rfl rfl hd_X12_fails ⟨Nat.le_of_ble_eq_true rfl, Nat.le_of_ble_eq_true rfl⟩) (pV (va_recv hK hP (q := (RX12, TX12, 34)) (ci := 16) (q0 := k30) rfl hk30) hP hK hD hN) rfl rfl hl.1 rfl (lv_room (Nat.le_of_ble_eq_true rfl)) dX12_toolsAt_36 ⟨(Nat.zero_le _), (Nat.zero_le _)⟩) hS (fun q _ h => hFc q h) hFc (fun r31 u t H1 locs ht hvm hw hB hz1 hk1 hS => ?_)
      obtain ⟨c32, w33⟩ := hw
      obtain ⟨hP, hD⟩ := wd_post hFc ht hB
      generalize H1 = H at hP hS ⊢
      obtain ⟨S34, rfl⟩ : ∃ z, z = u := ⟨_, rfl⟩
      have t35 : stp [(12, 15), (35, 100)] [] [] S S34 := t0.tr w33 (by decide) (fun _ q => absurd q List.not_mem_nil)
      have xe36 : ext S S34 := w33.x
      refine W.widen (k := 0) (n := 0) (Nat.le_of_ble_eq_true rfl) (Nat.le_of_ble_eq_true rfl) ?_
      exact W.iret (v := r31) hx hb hr (fun t ht hW9 => ⟨⟨r31, S34, rfl, ⟨(by show (r31, S34) = f_X12_toolsAt S o1 x1 x2; unfold f_X12_toolsAt; rw [if_neg c9, if_pos c14, l2_eq c32.symm]), t35⟩, wd_end hP hK hD ht hW9.alike⟩, hS.F ht⟩) hS.2.2 dX12_toolsAt_39 hlocks
  · have c9i : (f_X12_in x1.toInt64 (0 : Int64) (((S.I o1 19) - (1 : Int32)).toInt64)).toInt = 0 := eq_v rfl rfl c9
    refine lv_aload_n hx hb dX12_toolsAt_16 rfl (lv_at hl 0 rfl) ?_
    refine lv_iconst (v := 1) hx hb dX12_toolsAt_17 (by decide) ?_
    have hFc := free_all hD hS hA
    obtain ⟨k37, gk37, hk37⟩ := wGt (cy := cy) X S h_o1.1 h_o1.2.1
    refine va_calli (va_runV (As := [.int (1 : Int32)]) (rest := []) ⟨hx, hb, hml, hown, hts⟩ (c_X12_fails l (cy := cy) (X := X) (D := D) S _ o1 h_o1 (1 : Int32) (hW)) (cwV 1 hts gX12_toolsAt_X12_fails rfl rfl rfl hd_X12_fails ⟨Nat.le_of_ble_eq_true rfl, Nat.le_of_ble_eq_true rfl⟩) (pV (va_recv hK hP (q := (RX12, TX12, 34)) (ci := 16) (q0 := k37) rfl hk37) hP hK hD hN) rfl rfl hl.1 rfl (lv_room (Nat.le_of_ble_eq_true rfl)) dX12_toolsAt_18 ⟨(Nat.zero_le _), (Nat.zero_le _)⟩) hS (fun q _ h => hFc q h) hFc (fun r38 u t H1 locs ht hvm hw hB hz1 hk1 hS => ?_)
    obtain ⟨c39, w40⟩ := hw
    obtain ⟨hP, hD⟩ := wd_post hFc ht hB
    generalize H1 = H at hP hS ⊢
    obtain ⟨S41, rfl⟩ : ∃ z, z = u := ⟨_, rfl⟩
    have t42 : stp [(12, 15), (35, 100)] [] [] S S41 := t0.tr w40 (by decide) (fun _ q => absurd q List.not_mem_nil)
    have xe43 : ext S S41 := w40.x
    refine W.widen (k := 0) (n := 0) (Nat.le_of_ble_eq_true rfl) (Nat.le_of_ble_eq_true rfl) ?_
    exact W.iret (v := r38) hx hb hr (fun t ht hW9 => ⟨⟨r38, S41, rfl, ⟨(by show (r38, S41) = f_X12_toolsAt S o1 x1 x2; unfold f_X12_toolsAt; rw [if_pos c9, l2_eq c39.symm]), t42⟩, wd_end hP hK hD ht hW9.alike⟩, hS.F ht⟩) hS.2.2 dX12_toolsAt_21 hlocks
def f_X12_route (S : wPS) (o1 : Nat) (x1 : Int32) (x2 : Int32) : (Int32 × wPS) := if (f_X12_isGear S o1 x1) = (0 : Int32) then l2 (f_X12_fails S o1 (1 : Int32)) (fun r55 S58 => (r55, S58)) else if (f_X12_isKind x2) = (0 : Int32) then l2 (f_X12_fails S o1 (2 : Int32)) (fun r48 S51 => (r48, S51)) else l1 (f_X12_gearAt S o1 x1) (fun r11 => if (S.I r11 17) = (8 : Int32) then l2 (f_X12_fails S o1 (3 : Int32)) (fun r41 S44 => (r41, S44)) else l1 (S.si (S.f r11 6) (upd (S.i (S.f r11 6)) (S.I r11 17).toNatClampNeg (vp_nar .char x2))) (fun S21 => l1 (S21.sI r11 17 ((S21.I r11 17) + (1 : Int32))) (fun S28 => l2 (f_X12_answer S28 o1 (S28.I r11 17)) (fun r34 S37 => (r34, S37)))))
theorem hi_X12_route_X10 : ∀ w ∈ u_ws RX10 TX10 23, w ∈ wsX12_route := by decide +kernel
theorem hd_X12_route : yX12_route.cls = RX12 ∧ yX12_route.cls ≠ "java/lang/invoke/MethodHandle" ∧ yX12_route.cls ≠ "java/lang/invoke/VarHandle" ∧ (parseMethodDescriptor yX12_route.desc).map (fun d => d.parameters.length) = some 2 := by decide +kernel
set_option maxHeartbeats 4000000 in
set_option maxRecDepth 100000 in
theorem c_X12_route (l : Launch) {D : va_G} {cy : Nat → ClassId} {X : va_W} (S : wPS) (sz : Nat) (o1 : Nat) (h_o1 : isA S o1 12) (x1 : Int32) (x2 : Int32) (hW : wtB S [])  : Met l yX12_route wsX12_route ({ frames := 4, cells := 0, slots := 0, locals := 85 }) (va_Pc [.ref o1, .int x1, .int x2] (fun U => U.heap.size = sz ∧ WD D cy X (fun _ => True) S U ∧ NW U)) (va_Qi (fun r (u : wPS) => (r, u) = f_X12_route S o1 x1 x2 ∧ stp [(10, 17), (12, 15), (37, 100)] [] [] S u) (fun u t => WD D cy X (va_A (X ++ PL cy S) sz) u t) (va_A (X ++ PL cy S) sz)) 0 0 (va_A (X ++ PL cy S) sz) := by
  refine Met.ofW (cc := cX12_route) (maxL := 4) (ret := (some .int)) (by decide) rfl ?_
  intro p e s m args below meth c s₁ B hml hv
  obtain ⟨rfl, hsz, ⟨hP, hK, hD0⟩, hN⟩ := hv
  have hx := B.exec
  have hb := B.bytes
  have hr := B.returns
  have hts := atoms_spec (ws := wsX12_route) B.pre
  have hown : s.vm.findClass RX12 = some m.cls := findClass_of_methodNamed (x := yX12_route) B.named
  have hlocks := B.notSynchronized
  subst hsz
  have hD := hD0.self (sz := s.heap.size)
  generalize hAe : va_A (X ++ PL cy S) s.heap.size = A at hD ⊢
  have hA : ∀ q : Nat, s.heap.size ≤ q → A q := fun q h => by rw [← hAe]; exact Or.inr h
  have hS : va_S A s.heap s.heap [] := va_S.rf
  have hl := lv_entry ([.ref o1, .int x1, .int x2]) (n := 4) (Nat.le_of_ble_eq_true rfl)
  rw [lg_entry_eq]
  generalize (lg_sl ([.ref o1, .int x1, .int x2]) ++ List.replicate (4 - (lg_sl ([.ref o1, .int x1, .int x2])).length) Slot.unset).toArray = ls at hl ⊢
  have hl : lv_has ls 4 [(0, .ref o1), (1, .int x1), (2, .int x2)] := hl
  have t0 : stp [(10, 17), (12, 15), (37, 100)] [] [] S S := stp.rf hW
  have F1 := ((hW.at h_o1 List.not_mem_nil).to_12 h_o1.2.1).F0
  refine lv_aload_n hx hb dX12_route_0 rfl (lv_at hl 0 rfl) ?_
  refine lv_iload_n hx hb dX12_route_1 rfl (lv_at hl 1 rfl) ?_
  have hFc := free_all hD hS hA
  obtain ⟨k2, gk2, hk2⟩ := wGt (cy := cy) X S h_o1.1 h_o1.2.1
  refine va_calli (va_runV (As := [.int x1]) (rest := []) ⟨hx, hb, hml, hown, hts⟩ (c_X12_isGear l (cy := cy) (X := X) (D := D) S _ o1 h_o1 x1 (hW)) (cwV 1 hts gX12_route_X12_isGear rfl rfl rfl hd_X12_isGear ⟨Nat.le_of_ble_eq_true rfl, Nat.le_of_ble_eq_true rfl⟩) (pV (va_recv hK hP (q := (RX12, TX12, 34)) (ci := 16) (q0 := k2) rfl hk2) hP hK hD hN) rfl rfl hl.1 rfl (lv_room (Nat.le_of_ble_eq_true rfl)) dX12_route_2 ⟨(Nat.zero_le _), (Nat.zero_le _)⟩) hS (fun q _ h => hFc q h) hFc (fun r3 u t H1 locs ht hvm hw hB hz1 hk1 hS => ?_)
  have c4 := hw
  obtain ⟨hP, hD⟩ := wd_post hFc ht hB
  generalize H1 = H at hP hS ⊢
  obtain rfl : f_X12_isGear S o1 x1 = r3 := c4.symm
  have i5 : (f_X12_isGear S o1 x1).toInt = 0 ∨ (0 ≤ x1.toInt ∧ x1.toInt < (S.I (S.f o1 0) 2).toInt) := by have h9 := ig_rng x1 ((hW.at h_o1 List.not_mem_nil).to_12 h_o1.2.1) hW; rw [f_of F1.1] at h9; exact h9
  refine lv_if_ne (tgt := 14) hx hb dX12_route_5 (by decide) (fun c6 => ?_) (fun c6 => ?_)
  · have c6i : ¬ (f_X12_isGear S o1 x1).toInt = 0 := neq_v rfl rfl c6
    refine lv_iload_n hx hb dX12_route_14 rfl (lv_at hl 2 rfl) ?_
    have hFc := free_all hD hS hA
    refine va_calli (va_runS (As := [.int x2]) (rest := []) ⟨hx, hb, hml, hown, hts⟩ (c_X12_isKind l (cy := cy) (X := X) (D := D) S _ x2) (cwS 1 hts gX12_route_X12_isKind rfl rfl rfl hd_X12_isKind ⟨Nat.le_of_ble_eq_true rfl, Nat.le_of_ble_eq_true rfl⟩) (pS hP hK hD hN) rfl rfl hl.1 rfl (lv_room (Nat.le_of_ble_eq_true rfl)) dX12_route_15 ⟨(Nat.zero_le _), (Nat.zero_le _)⟩) hS (fun q _ h => hFc q h) hFc (fun r7 u t H1 locs ht hvm hw hB hz1 hk1 hS => ?_)
    have c8 := hw
    obtain ⟨hP, hD⟩ := wd_post hFc ht hB
    generalize H1 = H at hP hS ⊢
    obtain rfl : f_X12_isKind x2 = r7 := c8.symm
    refine lv_if_ne (tgt := 27) hx hb dX12_route_18 (by decide) (fun c9 => ?_) (fun c9 => ?_)
    · have c9i : ¬ (f_X12_isKind x2).toInt = 0 := neq_v rfl rfl c9
      refine lv_aload_n hx hb dX12_route_27 rfl (lv_at hl 0 rfl) ?_
      refine lv_iload_n hx hb dX12_route_28 rfl (lv_at hl 1 rfl) ?_
      have hFc := free_all hD hS hA
      obtain ⟨k10, gk10, hk10⟩ := wGt (cy := cy) X S h_o1.1 h_o1.2.1
      refine va_callq (va_runV (As := [.int x1]) (rest := []) ⟨hx, hb, hml, hown, hts⟩ (c_X12_gearAt l (cy := cy) (X := X) (D := D) S _ o1 h_o1 x1 (hW) (by rw [f_of F1.1]; omega)) (cwV 1 hts gX12_route_X12_gearAt rfl rfl rfl hd_X12_gearAt ⟨Nat.le_of_ble_eq_true rfl, Nat.le_of_ble_eq_true rfl⟩) (pV (va_recv hK hP (q := (RX12, TX12, 34)) (ci := 16) (q0 := k10) rfl hk10) hP hK hD hN) rfl rfl hl.1 rfl (lv_room (Nat.le_of_ble_eq_true rfl)) dX12_route_29 ⟨(Nat.zero_le _), (Nat.zero_le _)⟩) hS (fun q _ h => hFc q h) hFc (fun r11 u t H1 locs ht hvm hw hB hz1 hk1 hS => ?_)
      obtain ⟨r11, rfl, c12, o13⟩ := hw
      obtain ⟨hP, hD⟩ := wd_post hFc ht hB
      generalize H1 = H at hP hS ⊢
      refine W.eq (g2 := F0 m 32 ls [.ref r11]) rfl ?_
      refine lv_astore_n (lv' := [(3, .ref r11), (0, .ref o1), (1, .int x1), (2, .int x2)]) hx hb dX12_route_32 rfl hl (by decide) rfl (fun ls hl => ?_)
      refine lv_aload_n hx hb dX12_route_33 rfl (lv_at hl 0 rfl) ?_
      obtain ⟨k14, gk14, hk14⟩ := wGt (cy := cy) X S o13.1 o13.2.1
      have i15 := ((hW.at o13 List.not_mem_nil).to_10 o13.2.1).R17
      refine va_getN (D := D) (ci := 14) (v := .int (S.I r11 17)) (C := RX10) (T := TX10) (N := 23) hx hb hts hi_X12_route_X10 hown hK hP k14 hk14 rfl 17 (by decide) (va_Nw.use rfl (hN (.fieldLinkNest RX12 488 "HobhouseModel$Gear" "kinds" "I" "HobhouseModel") (by decide +kernel))) (fun _ h9 => h9) rfl dX12_route_34 ?_
      refine lv_bipush (v := 8) hx hb dX12_route_37 (by decide +kernel) ?_
      refine lv_icmp_ne (tgt := 48) hx hb dX12_route_39 (by decide) (fun c16 => ?_) (fun c16 => ?_)
      · have c16i : ¬ (S.I r11 17).toInt = 8 := neq_v rfl rfl c16
        refine lv_aload_n hx hb dX12_route_48 rfl (lv_at hl 0 rfl) ?_
        have F17 := ((hW.at o13 List.not_mem_nil).to_10 o13.2.1).F6
        obtain ⟨k18, gk18, hk18⟩ := wGt (cy := cy) X S o13.1 o13.2.1
        simp only [kE, F17.1] at hk18
        refine va_getN (D := D) (ci := 14) (v := .ref (S.f r11 6)) (C := RX10) (T := TX10) (N := 23) hx hb hts hi_X12_route_X10 hown hK hP k18 hk18 rfl 6 (by decide) (va_Nw.use rfl (hN (.fieldLinkNest RX12 490 "HobhouseModel$Gear" "route" "[C" "HobhouseModel") (by decide +kernel))) (fun _ h9 => h9) rfl dX12_route_49 ?_
        refine lv_aload_n hx hb dX12_route_52 rfl (lv_at hl 0 rfl) ?_
        obtain ⟨k19, gk19, hk19⟩ := wGt (cy := cy) X S o13.1 o13.2.1
        refine va_getN (D := D) (ci := 14) (v := .int (S.I r11 17)) (C := RX10) (T := TX10) (N := 23) hx hb hts hi_X12_route_X10 hown hK hP k19 hk19 rfl 17 (by decide) (va_Nw.use rfl (hN (.fieldLinkNest RX12 488 "HobhouseModel$Gear" "kinds" "I" "HobhouseModel") (by decide +kernel))) (fun _ h9 => h9) rfl dX12_route_53 ?_
        refine lv_iload_n hx hb dX12_route_56 rfl (lv_at hl 3 rfl) ?_
        obtain ⟨k20, gk20, hk20⟩ := wGt (cy := cy) X S F17.2.1.1 F17.2.1.2.1
        refine va_cast hx hb hK hP hD hS k20 1 hk20 rfl (inb (m := 8) F17.2.2 (by omega) (by omega)) dX12_route_57 (fun H locs hP2 hD2 hS => ?_)
        have e9 := wPui (cy := cy) (f := (upd (S.i (S.f r11 6)) (S.I r11 17).toNatClampNeg (vp_nar .char x2))) hD F17.2.1.1 F17.2.1.2.1 gk20 rfl
        obtain ⟨S21, hS21⟩ : ∃ z, S.si (S.f r11 6) (upd (S.i (S.f r11 6)) (S.I r11 17).toNatClampNeg (vp_nar .char x2)) = z := ⟨_, rfl⟩
        have hP : va_P D vwCl (X ++ PL cy S21) H := by rw [← hS21, ← e9]; exact hP2
        have hD : va_D A (X ++ PL cy S21) := by rw [← hS21, ← e9]; exact hD2
        have xe22 : ext S S21 := by rw [← hS21]; exact ext.si _ _ _
        have t23 : stp [(10, 17), (12, 15), (37, 100)] [] [] S S21 := by rw [← hS21]; exact t0.i (upd (S.i (S.f r11 6)) (S.I r11 17).toNatClampNeg (vp_nar .char x2)) F17.2.1 (by decide)
        have e17 : (S21.I r11 17).toInt = (S.I r11 17).toInt := by rw [← hS21]; rfl
        refine lv_aload_n hx hb dX12_route_58 rfl (lv_at hl 0 rfl) ?_
        refine lv_dup hx hb dX12_route_59 rfl ?_
        obtain ⟨k24, gk24, hk24⟩ := wGt (cy := cy) X S21 (xe22.A o13).1 (xe22.A o13).2.1
        have i25 := ((t23.w.at (xe22.A o13) List.not_mem_nil).to_10 (xe22.A o13).2.1).R17
        refine va_getN (D := D) (ci := 14) (v := .int (S21.I r11 17)) (C := RX10) (T := TX10) (N := 23) hx hb hts hi_X12_route_X10 hown hK hP k24 hk24 rfl 17 (by decide) (va_Nw.use rfl (hN (.fieldLinkNest RX12 488 "HobhouseModel$Gear" "kinds" "I" "HobhouseModel") (by decide +kernel))) (fun _ h9 => h9) rfl dX12_route_60 ?_
        refine lv_iconst (v := 1) hx hb dX12_route_63 (by decide) ?_
        refine lv_iadd hx hb dX12_route_64 ?_
        have l32_1 : (1 : Int32).toInt = 1 := rfl
        have i26 : ((S21.I r11 17) + (1 : Int32)).toInt = (S21.I r11 17).toInt + 1 := t_addr (n := 1) rfl (by omega)
        obtain ⟨k27, gk27, hk27⟩ := wGt (cy := cy) X S21 (xe22.A o13).1 (xe22.A o13).2.1
        refine va_putN (D := D) (ci := 14) (v := .int ((S21.I r11 17) + (1 : Int32))) (ty := .int) (C := RX10) (T := TX10) (N := 23) hx hb hts hi_X12_route_X10 tyX10 tyX10_ok nmX10 hown hK hP hD hS k27 hk27 rfl 17 (by decide) (va_Nw.use rfl (hN (.fieldLinkNest RX12 488 "HobhouseModel$Gear" "kinds" "I" "HobhouseModel") (by decide +kernel))) (fun _ h9 => h9) rfl (by decide +kernel) (rfl) (rfl) (Nat.le_of_ble_eq_true rfl) dX12_route_65 (fun H locs hP2 hD2 hS => ?_)
        have e9 := wPuI (cy := cy) (j := 17) (v := ((S21.I r11 17) + (1 : Int32))) hD (xe22.A o13).1 (xe22.A o13).2.1 gk27 rfl
        obtain ⟨S28, hS28⟩ : ∃ z, S21.sI r11 17 ((S21.I r11 17) + (1 : Int32)) = z := ⟨_, rfl⟩
        have hP : va_P D vwCl (X ++ PL cy S28) H := by rw [← hS28, ← e9]; exact hP2
        have hD : va_D A (X ++ PL cy S28) := by rw [← hS28, ← e9]; exact hD2
        have xe29 : ext S21 S28 := by rw [← hS28]; exact ext.sI _ _ _ _
        have t30 : stp [(10, 17), (12, 15), (37, 100)] [] [] S S28 := by rw [← hS28]; exact t23.I 17 ((S21.I r11 17) + (1 : Int32)) (xe22.A o13) (by decide) (⟨by omega, by omega⟩) (Or.inl (by decide))
        refine lv_aload_n hx hb dX12_route_68 rfl (lv_at hl 1 rfl) ?_
        refine lv_aload_n hx hb dX12_route_69 rfl (lv_at hl 0 rfl) ?_
        obtain ⟨k31, gk31, hk31⟩ := wGt (cy := cy) X S28 (xe29.A (xe22.A o13)).1 (xe29.A (xe22.A o13)).2.1
        have i32 := ((t30.w.at (xe29.A (xe22.A o13)) List.not_mem_nil).to_10 (xe29.A (xe22.A o13)).2.1).R17
        refine va_getN (D := D) (ci := 14) (v := .int (S28.I r11 17)) (C := RX10) (T := TX10) (N := 23) hx hb hts hi_X12_route_X10 hown hK hP k31 hk31 rfl 17 (by decide) (va_Nw.use rfl (hN (.fieldLinkNest RX12 488 "HobhouseModel$Gear" "kinds" "I" "HobhouseModel") (by decide +kernel))) (fun _ h9 => h9) rfl dX12_route_70 ?_
        have hFc := free_all hD hS hA
        obtain ⟨k33, gk33, hk33⟩ := wGt (cy := cy) X S28 ((xe22.tr xe29).A h_o1).1 ((xe22.tr xe29).A h_o1).2.1
        refine va_calli (va_runV (As := [.int (S28.I r11 17)]) (rest := []) ⟨hx, hb, hml, hown, hts⟩ (c_X12_answer l (cy := cy) (X := X) (D := D) S28 _ o1 ((xe22.tr xe29).A h_o1) (S28.I r11 17) (t30.w)) (cwV 1 hts gX12_route_X12_answer rfl rfl rfl hd_X12_answer ⟨Nat.le_of_ble_eq_true rfl, Nat.le_of_ble_eq_true rfl⟩) (pV (va_recv hK hP (q := (RX12, TX12, 34)) (ci := 16) (q0 := k33) rfl hk33) hP hK hD hN) rfl rfl hl.1 rfl (lv_room (Nat.le_of_ble_eq_true rfl)) dX12_route_73 ⟨(Nat.zero_le _), (Nat.zero_le _)⟩) hS (fun q _ h => hFc q h) hFc (fun r34 u t H1 locs ht hvm hw hB hz1 hk1 hS => ?_)
        obtain ⟨c35, w36⟩ := hw
        obtain ⟨hP, hD⟩ := wd_post hFc ht hB
        generalize H1 = H at hP hS ⊢
        obtain ⟨S37, rfl⟩ : ∃ z, z = u := ⟨_, rfl⟩
        have t38 : stp [(10, 17), (12, 15), (37, 100)] [] [] S S37 := t30.tr w36 (by decide) (fun _ q => absurd q List.not_mem_nil)
        have xe39 : ext S28 S37 := w36.x
        refine W.widen (k := 0) (n := 0) (Nat.le_of_ble_eq_true rfl) (Nat.le_of_ble_eq_true rfl) ?_
        exact W.iret (v := r34) hx hb hr (fun t ht hW9 => ⟨⟨r34, S37, rfl, ⟨(by show (r34, S37) = f_X12_route S o1 x1 x2; unfold f_X12_route; rw [if_neg c6, if_neg c9, l1_eq c12.symm, if_neg c16, l1_eq hS21, l1_eq hS28, l2_eq c35.symm]), t38⟩, wd_end hP hK hD ht hW9.alike⟩, hS.F ht⟩) hS.2.2 dX12_route_76 hlocks
      · have c16i : (S.I r11 17).toInt = 8 := eq_v rfl rfl c16
        refine lv_aload_n hx hb dX12_route_42 rfl (lv_at hl 1 rfl) ?_
        refine lv_iconst (v := 3) hx hb dX12_route_43 (by decide) ?_
        have l32_3 : (3 : Int32).toInt = 3 := rfl
        have hFc := free_all hD hS hA
        obtain ⟨k40, gk40, hk40⟩ := wGt (cy := cy) X S h_o1.1 h_o1.2.1
        refine va_calli (va_runV (As := [.int (3 : Int32)]) (rest := []) ⟨hx, hb, hml, hown, hts⟩ (c_X12_fails l (cy := cy) (X := X) (D := D) S _ o1 h_o1 (3 : Int32) (hW)) (cwV 1 hts gX12_route_X12_fails rfl rfl rfl hd_X12_fails ⟨Nat.le_of_ble_eq_true rfl, Nat.le_of_ble_eq_true rfl⟩) (pV (va_recv hK hP (q := (RX12, TX12, 34)) (ci := 16) (q0 := k40) rfl hk40) hP hK hD hN) rfl rfl hl.1 rfl (lv_room (Nat.le_of_ble_eq_true rfl)) dX12_route_44 ⟨(Nat.zero_le _), (Nat.zero_le _)⟩) hS (fun q _ h => hFc q h) hFc (fun r41 u t H1 locs ht hvm hw hB hz1 hk1 hS => ?_)
        obtain ⟨c42, w43⟩ := hw
        obtain ⟨hP, hD⟩ := wd_post hFc ht hB
        generalize H1 = H at hP hS ⊢
        obtain ⟨S44, rfl⟩ : ∃ z, z = u := ⟨_, rfl⟩
        have t45 : stp [(10, 17), (12, 15), (37, 100)] [] [] S S44 := t0.tr w43 (by decide) (fun _ q => absurd q List.not_mem_nil)
        have xe46 : ext S S44 := w43.x
        refine W.widen (k := 0) (n := 0) (Nat.le_of_ble_eq_true rfl) (Nat.le_of_ble_eq_true rfl) ?_
        exact W.iret (v := r41) hx hb hr (fun t ht hW9 => ⟨⟨r41, S44, rfl, ⟨(by show (r41, S44) = f_X12_route S o1 x1 x2; unfold f_X12_route; rw [if_neg c6, if_neg c9, l1_eq c12.symm, if_pos c16, l2_eq c42.symm]), t45⟩, wd_end hP hK hD ht hW9.alike⟩, hS.F ht⟩) hS.2.2 dX12_route_47 hlocks
    · have c9i : (f_X12_isKind x2).toInt = 0 := eq_v rfl rfl c9
      refine lv_aload_n hx hb dX12_route_21 rfl (lv_at hl 0 rfl) ?_
      refine lv_iconst (v := 2) hx hb dX12_route_22 (by decide) ?_
      have l32_2 : (2 : Int32).toInt = 2 := rfl
      have hFc := free_all hD hS hA
      obtain ⟨k47, gk47, hk47⟩ := wGt (cy := cy) X S h_o1.1 h_o1.2.1
      refine va_calli (va_runV (As := [.int (2 : Int32)]) (rest := []) ⟨hx, hb, hml, hown, hts⟩ (c_X12_fails l (cy := cy) (X := X) (D := D) S _ o1 h_o1 (2 : Int32) (hW)) (cwV 1 hts gX12_route_X12_fails rfl rfl rfl hd_X12_fails ⟨Nat.le_of_ble_eq_true rfl, Nat.le_of_ble_eq_true rfl⟩) (pV (va_recv hK hP (q := (RX12, TX12, 34)) (ci := 16) (q0 := k47) rfl hk47) hP hK hD hN) rfl rfl hl.1 rfl (lv_room (Nat.le_of_ble_eq_true rfl)) dX12_route_23 ⟨(Nat.zero_le _), (Nat.zero_le _)⟩) hS (fun q _ h => hFc q h) hFc (fun r48 u t H1 locs ht hvm hw hB hz1 hk1 hS => ?_)
      obtain ⟨c49, w50⟩ := hw
      obtain ⟨hP, hD⟩ := wd_post hFc ht hB
      generalize H1 = H at hP hS ⊢
      obtain ⟨S51, rfl⟩ : ∃ z, z = u := ⟨_, rfl⟩
      have t52 : stp [(10, 17), (12, 15), (37, 100)] [] [] S S51 := t0.tr w50 (by decide) (fun _ q => absurd q List.not_mem_nil)
      have xe53 : ext S S51 := w50.x
      refine W.widen (k := 0) (n := 0) (Nat.le_of_ble_eq_true rfl) (Nat.le_of_ble_eq_true rfl) ?_
      exact W.iret (v := r48) hx hb hr (fun t ht hW9 => ⟨⟨r48, S51, rfl, ⟨(by show (r48, S51) = f_X12_route S o1 x1 x2; unfold f_X12_route; rw [if_neg c6, if_pos c9, l2_eq c49.symm]), t52⟩, wd_end hP hK hD ht hW9.alike⟩, hS.F ht⟩) hS.2.2 dX12_route_26 hlocks
  · have c6i : (f_X12_isGear S o1 x1).toInt = 0 := eq_v rfl rfl c6
    refine lv_aload_n hx hb dX12_route_8 rfl (lv_at hl 0 rfl) ?_
    refine lv_iconst (v := 1) hx hb dX12_route_9 (by decide) ?_
    have l32_1 : (1 : Int32).toInt = 1 := rfl
    have hFc := free_all hD hS hA
    obtain ⟨k54, gk54, hk54⟩ := wGt (cy := cy) X S h_o1.1 h_o1.2.1
    refine va_calli (va_runV (As := [.int (1 : Int32)]) (rest := []) ⟨hx, hb, hml, hown, hts⟩ (c_X12_fails l (cy := cy) (X := X) (D := D) S _ o1 h_o1 (1 : Int32) (hW)) (cwV 1 hts gX12_route_X12_fails rfl rfl rfl hd_X12_fails ⟨Nat.le_of_ble_eq_true rfl, Nat.le_of_ble_eq_true rfl⟩) (pV (va_recv hK hP (q := (RX12, TX12, 34)) (ci := 16) (q0 := k54) rfl hk54) hP hK hD hN) rfl rfl hl.1 rfl (lv_room (Nat.le_of_ble_eq_true rfl)) dX12_route_10 ⟨(Nat.zero_le _), (Nat.zero_le _)⟩) hS (fun q _ h => hFc q h) hFc (fun r55 u t H1 locs ht hvm hw hB hz1 hk1 hS => ?_)
    obtain ⟨c56, w57⟩ := hw
    obtain ⟨hP, hD⟩ := wd_post hFc ht hB
    generalize H1 = H at hP hS ⊢
    obtain ⟨S58, rfl⟩ : ∃ z, z = u := ⟨_, rfl⟩
    have t59 : stp [(10, 17), (12, 15), (37, 100)] [] [] S S58 := t0.tr w57 (by decide) (fun _ q => absurd q List.not_mem_nil)
    have xe60 : ext S S58 := w57.x
    refine W.widen (k := 0) (n := 0) (Nat.le_of_ble_eq_true rfl) (Nat.le_of_ble_eq_true rfl) ?_
    exact W.iret (v := r55) hx hb hr (fun t ht hW9 => ⟨⟨r55, S58, rfl, ⟨(by show (r55, S58) = f_X12_route S o1 x1 x2; unfold f_X12_route; rw [if_pos c6, l2_eq c56.symm]), t59⟩, wd_end hP hK hD ht hW9.alike⟩, hS.F ht⟩) hS.2.2 dX12_route_13 hlocks
def f_X12_goesThrough_L21 (S : wPS) (o1 : Nat) (o2 : Nat) (S4_ : wPS) (w4_2 : Int32) (w4_3 : Int32) (k : Int32 → Int32 → Int32 → (Int32 × wPS)) : Nat → Int32 → Int32 → Int32 → (Int32 × wPS)
  | 0, w21_4, w21_5, w21_6 => k w21_4 w21_5 w21_6
  | n + 1, w21_4, w21_5, w21_6 => if (S4_.I o1 19) ≤ w21_6 then k w21_4 w21_5 w21_6 else if (S4_.i (S.f o1 5) w21_6.toNatClampNeg) = (S4_.i (S.f o2 6) w4_3.toNatClampNeg) then if w21_4 = (-1 : Int32) then f_X12_goesThrough_L21 S o1 o2 S4_ w4_2 w4_3 k n w21_6 ((if w4_2 < (if (S4_.i (S.f o1 8) w21_6.toNatClampNeg) < (S4_.i (S.f o1 7) w21_6.toNatClampNeg) then (S4_.i (S.f o1 7) w21_6.toNatClampNeg) else (S4_.i (S.f o1 8) w21_6.toNatClampNeg)) then (if (S4_.i (S.f o1 8) w21_6.toNatClampNeg) < (S4_.i (S.f o1 7) w21_6.toNatClampNeg) then (S4_.i (S.f o1 7) w21_6.toNatClampNeg) else (S4_.i (S.f o1 8) w21_6.toNatClampNeg)) else w4_2) + (S4_.i (S.f o1 6) w21_6.toNatClampNeg)) (w21_6 + (1 : Int32)) else if ((if w4_2 < (if (S4_.i (S.f o1 8) w21_6.toNatClampNeg) < (S4_.i (S.f o1 7) w21_6.toNatClampNeg) then (S4_.i (S.f o1 7) w21_6.toNatClampNeg) else (S4_.i (S.f o1 8) w21_6.toNatClampNeg)) then (if (S4_.i (S.f o1 8) w21_6.toNatClampNeg) < (S4_.i (S.f o1 7) w21_6.toNatClampNeg) then (S4_.i (S.f o1 7) w21_6.toNatClampNeg) else (S4_.i (S.f o1 8) w21_6.toNatClampNeg)) else w4_2) + (S4_.i (S.f o1 6) w21_6.toNatClampNeg)) < w21_5 then f_X12_goesThrough_L21 S o1 o2 S4_ w4_2 w4_3 k n w21_6 ((if w4_2 < (if (S4_.i (S.f o1 8) w21_6.toNatClampNeg) < (S4_.i (S.f o1 7) w21_6.toNatClampNeg) then (S4_.i (S.f o1 7) w21_6.toNatClampNeg) else (S4_.i (S.f o1 8) w21_6.toNatClampNeg)) then (if (S4_.i (S.f o1 8) w21_6.toNatClampNeg) < (S4_.i (S.f o1 7) w21_6.toNatClampNeg) then (S4_.i (S.f o1 7) w21_6.toNatClampNeg) else (S4_.i (S.f o1 8) w21_6.toNatClampNeg)) else w4_2) + (S4_.i (S.f o1 6) w21_6.toNatClampNeg)) (w21_6 + (1 : Int32)) else f_X12_goesThrough_L21 S o1 o2 S4_ w4_2 w4_3 k n w21_4 w21_5 (w21_6 + (1 : Int32)) else f_X12_goesThrough_L21 S o1 o2 S4_ w4_2 w4_3 k n w21_4 w21_5 (w21_6 + (1 : Int32))
theorem f_X12_goesThrough_L21_s (S : wPS) (o1 : Nat) (o2 : Nat) (S4_ : wPS) (w4_2 : Int32) (w4_3 : Int32) (k : Int32 → Int32 → Int32 → (Int32 × wPS)) (n : Nat) (w21_4 : Int32) (w21_5 : Int32) (w21_6 : Int32) : f_X12_goesThrough_L21 S o1 o2 S4_ w4_2 w4_3 k (n + 1) w21_4 w21_5 w21_6 = if (S4_.I o1 19) ≤ w21_6 then k w21_4 w21_5 w21_6 else if (S4_.i (S.f o1 5) w21_6.toNatClampNeg) = (S4_.i (S.f o2 6) w4_3.toNatClampNeg) then if w21_4 = (-1 : Int32) then f_X12_goesThrough_L21 S o1 o2 S4_ w4_2 w4_3 k n w21_6 ((if w4_2 < (if (S4_.i (S.f o1 8) w21_6.toNatClampNeg) < (S4_.i (S.f o1 7) w21_6.toNatClampNeg) then (S4_.i (S.f o1 7) w21_6.toNatClampNeg) else (S4_.i (S.f o1 8) w21_6.toNatClampNeg)) then (if (S4_.i (S.f o1 8) w21_6.toNatClampNeg) < (S4_.i (S.f o1 7) w21_6.toNatClampNeg) then (S4_.i (S.f o1 7) w21_6.toNatClampNeg) else (S4_.i (S.f o1 8) w21_6.toNatClampNeg)) else w4_2) + (S4_.i (S.f o1 6) w21_6.toNatClampNeg)) (w21_6 + (1 : Int32)) else if ((if w4_2 < (if (S4_.i (S.f o1 8) w21_6.toNatClampNeg) < (S4_.i (S.f o1 7) w21_6.toNatClampNeg) then (S4_.i (S.f o1 7) w21_6.toNatClampNeg) else (S4_.i (S.f o1 8) w21_6.toNatClampNeg)) then (if (S4_.i (S.f o1 8) w21_6.toNatClampNeg) < (S4_.i (S.f o1 7) w21_6.toNatClampNeg) then (S4_.i (S.f o1 7) w21_6.toNatClampNeg) else (S4_.i (S.f o1 8) w21_6.toNatClampNeg)) else w4_2) + (S4_.i (S.f o1 6) w21_6.toNatClampNeg)) < w21_5 then f_X12_goesThrough_L21 S o1 o2 S4_ w4_2 w4_3 k n w21_6 ((if w4_2 < (if (S4_.i (S.f o1 8) w21_6.toNatClampNeg) < (S4_.i (S.f o1 7) w21_6.toNatClampNeg) then (S4_.i (S.f o1 7) w21_6.toNatClampNeg) else (S4_.i (S.f o1 8) w21_6.toNatClampNeg)) then (if (S4_.i (S.f o1 8) w21_6.toNatClampNeg) < (S4_.i (S.f o1 7) w21_6.toNatClampNeg) then (S4_.i (S.f o1 7) w21_6.toNatClampNeg) else (S4_.i (S.f o1 8) w21_6.toNatClampNeg)) else w4_2) + (S4_.i (S.f o1 6) w21_6.toNatClampNeg)) (w21_6 + (1 : Int32)) else f_X12_goesThrough_L21 S o1 o2 S4_ w4_2 w4_3 k n w21_4 w21_5 (w21_6 + (1 : Int32)) else f_X12_goesThrough_L21 S o1 o2 S4_ w4_2 w4_3 k n w21_4 w21_5 (w21_6 + (1 : Int32)) := rfl
def f_X12_goesThrough_L4 (S : wPS) (o1 : Nat) (o2 : Nat) (k : wPS → Int32 → Int32 → (Int32 × wPS)) : Nat → wPS → Int32 → Int32 → (Int32 × wPS)
  | 0, S4_, w4_2, w4_3 => k S4_ w4_2 w4_3
  | n + 1, S4_, w4_2, w4_3 => if (S4_.I o2 17) ≤ w4_3 then k S4_ w4_2 w4_3 else f_X12_goesThrough_L21 S o1 o2 S4_ w4_2 w4_3 (fun (z30 : Int32) (z31 : Int32) (z32 : Int32) => if z30 = (-1 : Int32) then ((-1 : Int32), S4_) else l1 (S4_.si (S.f o1 8) (upd (S4_.i (S.f o1 8)) z30.toNatClampNeg z31)) (fun S37 => f_X12_goesThrough_L4 S o1 o2 k n S37 z31 (w4_3 + (1 : Int32)))) 8 (-1 : Int32) (0 : Int32) (0 : Int32)
theorem f_X12_goesThrough_L4_s (S : wPS) (o1 : Nat) (o2 : Nat) (k : wPS → Int32 → Int32 → (Int32 × wPS)) (n : Nat) (S4_ : wPS) (w4_2 : Int32) (w4_3 : Int32) : f_X12_goesThrough_L4 S o1 o2 k (n + 1) S4_ w4_2 w4_3 = if (S4_.I o2 17) ≤ w4_3 then k S4_ w4_2 w4_3 else f_X12_goesThrough_L21 S o1 o2 S4_ w4_2 w4_3 (fun (z30 : Int32) (z31 : Int32) (z32 : Int32) => if z30 = (-1 : Int32) then ((-1 : Int32), S4_) else l1 (S4_.si (S.f o1 8) (upd (S4_.i (S.f o1 8)) z30.toNatClampNeg z31)) (fun S37 => f_X12_goesThrough_L4 S o1 o2 k n S37 z31 (w4_3 + (1 : Int32)))) 8 (-1 : Int32) (0 : Int32) (0 : Int32) := rfl
def f_X12_goesThrough (S : wPS) (o1 : Nat) (o2 : Nat) : (Int32 × wPS) := f_X12_goesThrough_L4 S o1 o2 (fun (S42 : wPS) (z43 : Int32) (z44 : Int32) => (z43, S42)) 10 S (0 : Int32) (0 : Int32)
theorem hi_X12_goesThrough_X10 : ∀ w ∈ u_ws RX10 TX10 23, w ∈ wsX12_goesThrough := by decide +kernel
theorem hi_X12_goesThrough_X12 : ∀ w ∈ u_ws RX12 TX12 34, w ∈ wsX12_goesThrough := by decide +kernel
theorem hd_X12_goesThrough : yX12_goesThrough.cls = RX12 ∧ yX12_goesThrough.cls ≠ "java/lang/invoke/MethodHandle" ∧ yX12_goesThrough.cls ≠ "java/lang/invoke/VarHandle" ∧ (parseMethodDescriptor yX12_goesThrough.desc).map (fun d => d.parameters.length) = some 1 := by decide +kernel
set_option maxHeartbeats 4000000 in
set_option maxRecDepth 100000 in
theorem c_X12_goesThrough (l : Launch) {D : va_G} {cy : Nat → ClassId} {X : va_W} (S : wPS) (sz : Nat) (o1 : Nat) (h_o1 : isA S o1 12) (o2 : Nat) (h_o2 : isA S o2 10) (hW : wtB S [])  : Met l yX12_goesThrough wsX12_goesThrough ({ frames := 1, cells := 0, slots := 0, locals := 14 }) (va_Pc [.ref o1, .ref o2] (fun U => U.heap.size = sz ∧ WD D cy X (fun _ => True) S U ∧ NW U)) (va_Qi (fun r (u : wPS) => (r, u) = f_X12_goesThrough S o1 o2 ∧ stp [(36, 100)] [] [] S u) (fun u t => WD D cy X (va_A (X ++ PL cy S) sz) u t) (va_A (X ++ PL cy S) sz)) 0 0 (va_A (X ++ PL cy S) sz) := by
  refine Met.ofW (cc := cX12_goesThrough) (maxL := 8) (ret := (some .int)) (by decide) rfl ?_
  intro p e s m args below meth c s₁ B hml hv
  obtain ⟨rfl, hsz, ⟨hP, hK, hD0⟩, hN⟩ := hv
  have hx := B.exec
  have hb := B.bytes
  have hr := B.returns
  have hts := atoms_spec (ws := wsX12_goesThrough) B.pre
  have hown : s.vm.findClass RX12 = some m.cls := findClass_of_methodNamed (x := yX12_goesThrough) B.named
  have hlocks := B.notSynchronized
  subst hsz
  have hD := hD0.self (sz := s.heap.size)
  generalize hAe : va_A (X ++ PL cy S) s.heap.size = A at hD ⊢
  have hA : ∀ q : Nat, s.heap.size ≤ q → A q := fun q h => by rw [← hAe]; exact Or.inr h
  have hS : va_S A s.heap s.heap [] := va_S.rf
  have hl := lv_entry ([.ref o1, .ref o2]) (n := 8) (Nat.le_of_ble_eq_true rfl)
  rw [lg_entry_eq]
  generalize (lg_sl ([.ref o1, .ref o2]) ++ List.replicate (8 - (lg_sl ([.ref o1, .ref o2])).length) Slot.unset).toArray = ls at hl ⊢
  have hl : lv_has ls 8 [(0, .ref o1), (1, .ref o2)] := hl
  have t0 : stp [(36, 100)] [] [] S S := stp.rf hW
  have lm : (-1 : Int32).toInt = -1 := rfl
  refine lv_iconst (v := 0) hx hb dX12_goesThrough_0 (by decide) ?_
  refine lv_istore_n (lv' := [(2, .int (0 : Int32)), (0, .ref o1), (1, .ref o2)]) hx hb dX12_goesThrough_1 rfl hl (by decide) rfl (fun ls hl => ?_)
  refine lv_iconst (v := 0) hx hb dX12_goesThrough_2 (by decide) ?_
  refine lv_istore_n (lv' := [(3, .int (0 : Int32)), (2, .int (0 : Int32)), (0, .ref o1), (1, .ref o2)]) hx hb dX12_goesThrough_3 rfl hl (by decide) rfl (fun ls hl => ?_)
  have l32_0 : (0 : Int32).toInt = 0 := rfl
  have loop4 : ∀ (K4 : wPS → Int32 → Int32 → (Int32 × wPS)) (n : Nat) (S4_ : wPS) (w4_2 : Int32) (w4_3 : Int32) (H : Heap) (locs : List Loc) (ls : Array Slot), (9 - w4_3.toInt).toNat < n → 0 ≤ w4_3.toInt ∧ w4_3.toInt ≤ 8 → stp [(36, 100)] [] [] S S4_ → va_P D vwCl (X ++ PL cy S4_) H → va_D A (X ++ PL cy S4_) → va_S A s.heap H locs → lv_has ls 8 [(3, .int w4_3), (2, .int w4_2), (0, .ref o1), (1, .ref o2)] → f_X12_goesThrough S o1 o2 = f_X12_goesThrough_L4 S o1 o2 K4 n S4_ w4_2 w4_3 → (∀ (S4_x : wPS) (w4_2x : Int32) (w4_3x : Int32) (H : Heap) (locs : List Loc) (ls : Array Slot), 0 ≤ w4_3x.toInt ∧ w4_3x.toInt ≤ 8 → stp [(36, 100)] [] [] S S4_x → va_P D vwCl (X ++ PL cy S4_x) H → va_D A (X ++ PL cy S4_x) → va_S A s.heap H locs → lv_has ls 8 [(3, .int w4_3x), (2, .int w4_2x), (0, .ref o1), (1, .ref o2)] → f_X12_goesThrough S o1 o2 = K4 S4_x w4_2x w4_3x → W p l e (headSpec wsX12_goesThrough ({ frames := 1, cells := 0, slots := 0, locals := 14 } : Room)).room s m [.ref o1, .ref o2].toArray below meth c H locs 0 0 (MQ below (va_Qi (fun r (u : wPS) => (r, u) = f_X12_goesThrough S o1 o2 ∧ stp [(36, 100)] [] [] S u) (fun u t => WD D cy X A u t) A) [.ref o1, .ref o2].toArray s 0 0 A) (F0 m 133 ls [])) → W p l e (headSpec wsX12_goesThrough ({ frames := 1, cells := 0, slots := 0, locals := 14 } : Room)).room s m [.ref o1, .ref o2].toArray below meth c H locs 0 0 (MQ below (va_Qi (fun r (u : wPS) => (r, u) = f_X12_goesThrough S o1 o2 ∧ stp [(36, 100)] [] [] S u) (fun u t => WD D cy X A u t) A) [.ref o1, .ref o2].toArray s 0 0 A) (F0 m 4 ls []) := by
    intro K4 n4
    induction n4 with
    | zero => intro S4_ w4_2 w4_3 H locs ls hm; exact absurd hm (Nat.not_lt_zero _)
    | succ n4 ih4 =>
      intro S4_ w4_2 w4_3 H locs ls hm4 hi4 hsh4 hP hD hS hl hq4 ko4
      have r17 := ((hsh4.w.at (hsh4.x.A h_o2) List.not_mem_nil).to_10 (hsh4.x.A h_o2).2.1).R17
      have r19 := ((hsh4.w.at (hsh4.x.A h_o1) List.not_mem_nil).to_12 (hsh4.x.A h_o1).2.1).R19
      refine lv_iload_n hx hb dX12_goesThrough_4 rfl (lv_at hl 0 rfl) ?_
      refine lv_aload_n hx hb dX12_goesThrough_5 rfl (lv_at hl 3 rfl) ?_
      obtain ⟨k1, gk1, hk1⟩ := wGt (cy := cy) X S4_ (hsh4.x.A h_o2).1 (hsh4.x.A h_o2).2.1
      have i2 := ((hsh4.w.at (hsh4.x.A h_o2) List.not_mem_nil).to_10 (hsh4.x.A h_o2).2.1).R17
      refine va_getN (D := D) (ci := 14) (v := .int (S4_.I o2 17)) (C := RX10) (T := TX10) (N := 23) hx hb hts hi_X12_goesThrough_X10 hown hK hP k1 hk1 rfl 17 (by decide) (va_Nw.use rfl (hN (.fieldLinkNest RX12 488 "HobhouseModel$Gear" "kinds" "I" "HobhouseModel") (by decide +kernel))) (fun _ h9 => h9) rfl dX12_goesThrough_6 ?_
      refine lv_icmp_ge (tgt := 133) hx hb dX12_goesThrough_9 (by decide) (fun c3 => ?_) (fun c3 => ?_)
      · have c3i : (S4_.I o2 17).toInt ≤ w4_3.toInt := le_v rfl rfl c3
        exact ko4 S4_ w4_2 w4_3 _ _ _ (by omega) hsh4 hP hD hS (lv_sub hl [0, 1, 2, 3] rfl) (by rw [hq4, f_X12_goesThrough_L4_s, if_pos c3])
      · have c3i : w4_3.toInt < (S4_.I o2 17).toInt := nle_v rfl rfl c3
        refine lv_iconst (v := -1) hx hb dX12_goesThrough_12 (by decide) ?_
        refine lv_istore (lv' := [(4, .int (-1 : Int32)), (3, .int w4_3), (2, .int w4_2), (0, .ref o1), (1, .ref o2)]) hx hb dX12_goesThrough_13 hl (by decide) rfl (fun ls hl => ?_)
        refine lv_iconst (v := 0) hx hb dX12_goesThrough_15 (by decide) ?_
        refine lv_istore (lv' := [(5, .int (0 : Int32)), (4, .int (-1 : Int32)), (3, .int w4_3), (2, .int w4_2), (0, .ref o1), (1, .ref o2)]) hx hb dX12_goesThrough_16 hl (by decide) rfl (fun ls hl => ?_)
        refine lv_iconst (v := 0) hx hb dX12_goesThrough_18 (by decide) ?_
        refine lv_istore (lv' := [(6, .int (0 : Int32)), (5, .int (0 : Int32)), (4, .int (-1 : Int32)), (3, .int w4_3), (2, .int w4_2), (0, .ref o1), (1, .ref o2)]) hx hb dX12_goesThrough_19 hl (by decide) rfl (fun ls hl => ?_)
        have loop21 : ∀ (K21 : Int32 → Int32 → Int32 → (Int32 × wPS)) (n : Nat) (w21_4 : Int32) (w21_5 : Int32) (w21_6 : Int32) (H : Heap) (locs : List Loc) (ls : Array Slot), (7 - w21_6.toInt).toNat < n → 0 ≤ w21_6.toInt ∧ w21_6.toInt ≤ 6 ∧ -1 ≤ w21_4.toInt ∧ w21_4.toInt ≤ 5 → va_P D vwCl (X ++ PL cy S4_) H → va_S A s.heap H locs → lv_has ls 8 [(6, .int w21_6), (5, .int w21_5), (4, .int w21_4), (3, .int w4_3), (2, .int w4_2), (0, .ref o1), (1, .ref o2)] → f_X12_goesThrough S o1 o2 = f_X12_goesThrough_L21 S o1 o2 S4_ w4_2 w4_3 K21 n w21_4 w21_5 w21_6 → (∀ (w21_4x : Int32) (w21_5x : Int32) (w21_6x : Int32) (H : Heap) (locs : List Loc) (ls : Array Slot), 0 ≤ w21_6x.toInt ∧ w21_6x.toInt ≤ 6 ∧ -1 ≤ w21_4x.toInt ∧ w21_4x.toInt ≤ 5 → va_P D vwCl (X ++ PL cy S4_) H → va_S A s.heap H locs → lv_has ls 8 [(6, .int w21_6x), (5, .int w21_5x), (4, .int w21_4x), (3, .int w4_3), (2, .int w4_2), (0, .ref o1), (1, .ref o2)] → f_X12_goesThrough S o1 o2 = K21 w21_4x w21_5x w21_6x → W p l e (headSpec wsX12_goesThrough ({ frames := 1, cells := 0, slots := 0, locals := 14 } : Room)).room s m [.ref o1, .ref o2].toArray below meth c H locs 0 0 (MQ below (va_Qi (fun r (u : wPS) => (r, u) = f_X12_goesThrough S o1 o2 ∧ stp [(36, 100)] [] [] S u) (fun u t => WD D cy X A u t) A) [.ref o1, .ref o2].toArray s 0 0 A) (F0 m 107 ls [])) → W p l e (headSpec wsX12_goesThrough ({ frames := 1, cells := 0, slots := 0, locals := 14 } : Room)).room s m [.ref o1, .ref o2].toArray below meth c H locs 0 0 (MQ below (va_Qi (fun r (u : wPS) => (r, u) = f_X12_goesThrough S o1 o2 ∧ stp [(36, 100)] [] [] S u) (fun u t => WD D cy X A u t) A) [.ref o1, .ref o2].toArray s 0 0 A) (F0 m 21 ls []) := by
          intro K21 n21
          induction n21 with
          | zero => intro w21_4 w21_5 w21_6 H locs ls hm; exact absurd hm (Nat.not_lt_zero _)
          | succ n21 ih21 =>
            intro w21_4 w21_5 w21_6 H locs ls hm21 hi21 hP hS hl hq21 ko21
            refine lv_iload hx hb dX12_goesThrough_21 (lv_at hl 0 rfl) ?_
            refine lv_aload_n hx hb dX12_goesThrough_23 rfl (lv_at hl 5 rfl) ?_
            obtain ⟨k4, gk4, hk4⟩ := wGt (cy := cy) X S4_ (hsh4.x.A h_o1).1 (hsh4.x.A h_o1).2.1
            have i5 := ((hsh4.w.at (hsh4.x.A h_o1) List.not_mem_nil).to_12 (hsh4.x.A h_o1).2.1).R19
            refine va_get (D := D) (ci := 16) (v := .int (S4_.I o1 19)) (C := RX12) (T := TX12) (N := 34) hx hb hts hi_X12_goesThrough_X12 hown hK hP k4 hk4 rfl 19 (by decide) (hts (.fieldLink RX12 485 "HobhouseModel" "machines" "I") (by decide +kernel)) (fun _ h9 => h9) rfl dX12_goesThrough_24 ?_
            refine lv_icmp_ge (tgt := 107) hx hb dX12_goesThrough_27 (by decide) (fun c6 => ?_) (fun c6 => ?_)
            · have c6i : (S4_.I o1 19).toInt ≤ w21_6.toInt := le_v rfl rfl c6
              exact ko21 w21_4 w21_5 w21_6 _ _ _ (by omega) hP hS (lv_sub hl [0, 1, 2, 3, 4, 5, 6] rfl) (by rw [hq21, f_X12_goesThrough_L21_s, if_pos c6])
            · have c6i : w21_6.toInt < (S4_.I o1 19).toInt := nle_v rfl rfl c6
              refine lv_iload_n hx hb dX12_goesThrough_30 rfl (lv_at hl 4 rfl) ?_
              refine lv_aload_n hx hb dX12_goesThrough_31 rfl (lv_at hl 5 rfl) ?_
              have F7 := ((hW.at h_o1 List.not_mem_nil).to_12 h_o1.2.1).F8
              obtain ⟨k8, gk8, hk8⟩ := wGt (cy := cy) X S4_ (hsh4.x.A h_o1).1 (hsh4.x.A h_o1).2.1
              simp only [kE, (hsh4.x.F h_o1 (by decide) F7.1)] at hk8
              refine va_get (D := D) (ci := 16) (v := .ref (S.f o1 8)) (C := RX12) (T := TX12) (N := 34) hx hb hts hi_X12_goesThrough_X12 hown hK hP k8 hk8 rfl 8 (by decide) (hts (.fieldLink RX12 51 "HobhouseModel" "frees" "[I") (by decide +kernel)) (fun _ h9 => h9) rfl dX12_goesThrough_32 ?_
              refine lv_iload hx hb dX12_goesThrough_35 (lv_at hl 0 rfl) ?_
              obtain ⟨k9, gk9, hk9⟩ := wGt (cy := cy) X S4_ (hsh4.x.A F7.2.1).1 (hsh4.x.A F7.2.1).2.1
              refine va_iald hx hb hK hP k9 2 hk9 rfl (inb (m := 6) ((hsh4.x.n F7.2.1).trans F7.2.2) (by omega) (by omega)) dX12_goesThrough_37 ?_
              refine lv_aload_n hx hb dX12_goesThrough_38 rfl (lv_at hl 5 rfl) ?_
              have F10 := ((hW.at h_o1 List.not_mem_nil).to_12 h_o1.2.1).F7
              obtain ⟨k11, gk11, hk11⟩ := wGt (cy := cy) X S4_ (hsh4.x.A h_o1).1 (hsh4.x.A h_o1).2.1
              simp only [kE, (hsh4.x.F h_o1 (by decide) F10.1)] at hk11
              refine va_get (D := D) (ci := 16) (v := .ref (S.f o1 7)) (C := RX12) (T := TX12) (N := 34) hx hb hts hi_X12_goesThrough_X12 hown hK hP k11 hk11 rfl 7 (by decide) (hts (.fieldLink RX12 48 "HobhouseModel" "tools" "[I") (by decide +kernel)) (fun _ h9 => h9) rfl dX12_goesThrough_39 ?_
              refine lv_iload hx hb dX12_goesThrough_42 (lv_at hl 0 rfl) ?_
              obtain ⟨k12, gk12, hk12⟩ := wGt (cy := cy) X S4_ (hsh4.x.A F10.2.1).1 (hsh4.x.A F10.2.1).2.1
              refine va_iald hx hb hK hP k12 2 hk12 rfl (inb (m := 6) ((hsh4.x.n F10.2.1).trans F10.2.2) (by omega) (by omega)) dX12_goesThrough_44 ?_
              refine va_mmax hx hb (hml.trans hl.1.symm) hown (hts (.methodLink RX12 418 Lib.Math.max.name) (by decide +kernel)) (hts (.static Lib.Math.max.name) (by decide +kernel)) (hts (.initialized "java/lang/Math") (by decide +kernel)) (hts (.code Lib.Math.max.name Lib.Math.max.code 2 (some .int)) (by decide +kernel)) (Nat.le_of_ble_eq_true rfl) (Nat.le_of_ble_eq_true rfl) (Nat.zero_le _) (Nat.zero_le _) dX12_goesThrough_45 ?_
              refine va_mmax hx hb (hml.trans hl.1.symm) hown (hts (.methodLink RX12 418 Lib.Math.max.name) (by decide +kernel)) (hts (.static Lib.Math.max.name) (by decide +kernel)) (hts (.initialized "java/lang/Math") (by decide +kernel)) (hts (.code Lib.Math.max.name Lib.Math.max.code 2 (some .int)) (by decide +kernel)) (Nat.le_of_ble_eq_true rfl) (Nat.le_of_ble_eq_true rfl) (Nat.zero_le _) (Nat.zero_le _) dX12_goesThrough_48 ?_
              refine lv_aload_n hx hb dX12_goesThrough_51 rfl (lv_at hl 5 rfl) ?_
              have F13 := ((hW.at h_o1 List.not_mem_nil).to_12 h_o1.2.1).F6
              obtain ⟨k14, gk14, hk14⟩ := wGt (cy := cy) X S4_ (hsh4.x.A h_o1).1 (hsh4.x.A h_o1).2.1
              simp only [kE, (hsh4.x.F h_o1 (by decide) F13.1)] at hk14
              refine va_get (D := D) (ci := 16) (v := .ref (S.f o1 6)) (C := RX12) (T := TX12) (N := 34) hx hb hts hi_X12_goesThrough_X12 hown hK hP k14 hk14 rfl 6 (by decide) (hts (.fieldLink RX12 45 "HobhouseModel" "times" "[I") (by decide +kernel)) (fun _ h9 => h9) rfl dX12_goesThrough_52 ?_
              refine lv_iload hx hb dX12_goesThrough_55 (lv_at hl 0 rfl) ?_
              obtain ⟨k15, gk15, hk15⟩ := wGt (cy := cy) X S4_ (hsh4.x.A F13.2.1).1 (hsh4.x.A F13.2.1).2.1
              refine va_iald hx hb hK hP k15 2 hk15 rfl (inb (m := 6) ((hsh4.x.n F13.2.1).trans F13.2.2) (by omega) (by omega)) dX12_goesThrough_57 ?_
              refine lv_iadd hx hb dX12_goesThrough_58 ?_
              refine lv_istore (lv' := [(7, .int ((if w4_2 < (if (S4_.i (S.f o1 8) w21_6.toNatClampNeg) < (S4_.i (S.f o1 7) w21_6.toNatClampNeg) then (S4_.i (S.f o1 7) w21_6.toNatClampNeg) else (S4_.i (S.f o1 8) w21_6.toNatClampNeg)) then (if (S4_.i (S.f o1 8) w21_6.toNatClampNeg) < (S4_.i (S.f o1 7) w21_6.toNatClampNeg) then (S4_.i (S.f o1 7) w21_6.toNatClampNeg) else (S4_.i (S.f o1 8) w21_6.toNatClampNeg)) else w4_2) + (S4_.i (S.f o1 6) w21_6.toNatClampNeg))), (6, .int w21_6), (5, .int w21_5), (4, .int w21_4), (3, .int w4_3), (2, .int w4_2), (0, .ref o1), (1, .ref o2)]) hx hb dX12_goesThrough_59 hl (by decide) rfl (fun ls hl => ?_)
              refine lv_aload_n hx hb dX12_goesThrough_61 rfl (lv_at hl 6 rfl) ?_
              have F16 := ((hW.at h_o1 List.not_mem_nil).to_12 h_o1.2.1).F5
              obtain ⟨k17, gk17, hk17⟩ := wGt (cy := cy) X S4_ (hsh4.x.A h_o1).1 (hsh4.x.A h_o1).2.1
              simp only [kE, (hsh4.x.F h_o1 (by decide) F16.1)] at hk17
              refine va_get (D := D) (ci := 16) (v := .ref (S.f o1 5)) (C := RX12) (T := TX12) (N := 34) hx hb hts hi_X12_goesThrough_X12 hown hK hP k17 hk17 rfl 5 (by decide) (hts (.fieldLink RX12 41 "HobhouseModel" "kinds" "[C") (by decide +kernel)) (fun _ h9 => h9) rfl dX12_goesThrough_62 ?_
              refine lv_iload hx hb dX12_goesThrough_65 (lv_at hl 1 rfl) ?_
              obtain ⟨k18, gk18, hk18⟩ := wGt (cy := cy) X S4_ (hsh4.x.A F16.2.1).1 (hsh4.x.A F16.2.1).2.1
              refine va_cald hx hb hK hP k18 1 hk18 rfl (inb (m := 6) ((hsh4.x.n F16.2.1).trans F16.2.2) (by omega) (by omega)) dX12_goesThrough_67 ?_
              refine lv_aload_n hx hb dX12_goesThrough_68 rfl (lv_at hl 7 rfl) ?_
              have F19 := ((hW.at h_o2 List.not_mem_nil).to_10 h_o2.2.1).F6
              obtain ⟨k20, gk20, hk20⟩ := wGt (cy := cy) X S4_ (hsh4.x.A h_o2).1 (hsh4.x.A h_o2).2.1
              simp only [kE, (hsh4.x.F h_o2 (by decide) F19.1)] at hk20
              refine va_getN (D := D) (ci := 14) (v := .ref (S.f o2 6)) (C := RX10) (T := TX10) (N := 23) hx hb hts hi_X12_goesThrough_X10 hown hK hP k20 hk20 rfl 6 (by decide) (va_Nw.use rfl (hN (.fieldLinkNest RX12 490 "HobhouseModel$Gear" "route" "[C" "HobhouseModel") (by decide +kernel))) (fun _ h9 => h9) rfl dX12_goesThrough_69 ?_
              refine lv_iload_n hx hb dX12_goesThrough_72 rfl (lv_at hl 4 rfl) ?_
              obtain ⟨k21, gk21, hk21⟩ := wGt (cy := cy) X S4_ (hsh4.x.A F19.2.1).1 (hsh4.x.A F19.2.1).2.1
              refine va_cald hx hb hK hP k21 1 hk21 rfl (inb (m := 8) ((hsh4.x.n F19.2.1).trans F19.2.2) (by omega) (by omega)) dX12_goesThrough_73 ?_
              refine lv_icmp_ne (tgt := 101) hx hb dX12_goesThrough_74 (by decide) (fun c22 => ?_) (fun c22 => ?_)
              · have c22i : ¬ (S4_.i (S.f o1 5) w21_6.toNatClampNeg).toInt = (S4_.i (S.f o2 6) w4_3.toNatClampNeg).toInt := neq_v rfl rfl c22
                refine lv_iinc (v := w21_6 + (1 : Int32)) (lv' := [(6, .int (w21_6 + (1 : Int32))), (7, .int ((if w4_2 < (if (S4_.i (S.f o1 8) w21_6.toNatClampNeg) < (S4_.i (S.f o1 7) w21_6.toNatClampNeg) then (S4_.i (S.f o1 7) w21_6.toNatClampNeg) else (S4_.i (S.f o1 8) w21_6.toNatClampNeg)) then (if (S4_.i (S.f o1 8) w21_6.toNatClampNeg) < (S4_.i (S.f o1 7) w21_6.toNatClampNeg) then (S4_.i (S.f o1 7) w21_6.toNatClampNeg) else (S4_.i (S.f o1 8) w21_6.toNatClampNeg)) else w4_2) + (S4_.i (S.f o1 6) w21_6.toNatClampNeg))), (5, .int w21_5), (4, .int w21_4), (3, .int w4_3), (2, .int w4_2), (0, .ref o1), (1, .ref o2)]) hx hb dX12_goesThrough_101 hl (k := 1) rfl (by rfl) (by decide) rfl (fun ls hl => ?_)
                refine lv_goto (tgt := 21) hx hb dX12_goesThrough_104 (by decide) ?_
                have l32_1 : (1 : Int32).toInt = 1 := rfl
                have i23 : (w21_6 + (1 : Int32)).toInt = w21_6.toInt + 1 := t_addr (n := 1) rfl (by omega)
                exact ih21 w21_4 w21_5 (w21_6 + (1 : Int32)) _ _ _ (Nat.lt_of_lt_of_le (by omega) (Nat.le_of_lt_succ hm21)) (by omega) hP hS (lv_sub hl [0, 2, 3, 4, 5, 6, 7] rfl) (by rw [hq21, f_X12_goesThrough_L21_s, if_neg c6, if_neg c22]) ko21
              · have c22i : (S4_.i (S.f o1 5) w21_6.toNatClampNeg).toInt = (S4_.i (S.f o2 6) w4_3.toNatClampNeg).toInt := eq_v rfl rfl c22
                refine lv_iload hx hb dX12_goesThrough_77 (lv_at hl 3 rfl) ?_
                refine lv_iconst (v := -1) hx hb dX12_goesThrough_79 (by decide) ?_
                refine lv_icmp_eq (tgt := 93) hx hb dX12_goesThrough_80 (by decide) (fun c24 => ?_) (fun c24 => ?_)
                · have c24i : w21_4.toInt = -1 := eq_v rfl rfl c24
                  refine lv_iload hx hb dX12_goesThrough_93 (lv_at hl 1 rfl) ?_
                  refine lv_istore (lv' := [(4, .int w21_6), (7, .int ((if w4_2 < (if (S4_.i (S.f o1 8) w21_6.toNatClampNeg) < (S4_.i (S.f o1 7) w21_6.toNatClampNeg) then (S4_.i (S.f o1 7) w21_6.toNatClampNeg) else (S4_.i (S.f o1 8) w21_6.toNatClampNeg)) then (if (S4_.i (S.f o1 8) w21_6.toNatClampNeg) < (S4_.i (S.f o1 7) w21_6.toNatClampNeg) then (S4_.i (S.f o1 7) w21_6.toNatClampNeg) else (S4_.i (S.f o1 8) w21_6.toNatClampNeg)) else w4_2) + (S4_.i (S.f o1 6) w21_6.toNatClampNeg))), (6, .int w21_6), (5, .int w21_5), (3, .int w4_3), (2, .int w4_2), (0, .ref o1), (1, .ref o2)]) hx hb dX12_goesThrough_95 hl (by decide) rfl (fun ls hl => ?_)
                  refine lv_iload hx hb dX12_goesThrough_97 (lv_at hl 1 rfl) ?_
                  refine lv_istore (lv' := [(5, .int ((if w4_2 < (if (S4_.i (S.f o1 8) w21_6.toNatClampNeg) < (S4_.i (S.f o1 7) w21_6.toNatClampNeg) then (S4_.i (S.f o1 7) w21_6.toNatClampNeg) else (S4_.i (S.f o1 8) w21_6.toNatClampNeg)) then (if (S4_.i (S.f o1 8) w21_6.toNatClampNeg) < (S4_.i (S.f o1 7) w21_6.toNatClampNeg) then (S4_.i (S.f o1 7) w21_6.toNatClampNeg) else (S4_.i (S.f o1 8) w21_6.toNatClampNeg)) else w4_2) + (S4_.i (S.f o1 6) w21_6.toNatClampNeg))), (4, .int w21_6), (7, .int ((if w4_2 < (if (S4_.i (S.f o1 8) w21_6.toNatClampNeg) < (S4_.i (S.f o1 7) w21_6.toNatClampNeg) then (S4_.i (S.f o1 7) w21_6.toNatClampNeg) else (S4_.i (S.f o1 8) w21_6.toNatClampNeg)) then (if (S4_.i (S.f o1 8) w21_6.toNatClampNeg) < (S4_.i (S.f o1 7) w21_6.toNatClampNeg) then (S4_.i (S.f o1 7) w21_6.toNatClampNeg) else (S4_.i (S.f o1 8) w21_6.toNatClampNeg)) else w4_2) + (S4_.i (S.f o1 6) w21_6.toNatClampNeg))), (6, .int w21_6), (3, .int w4_3), (2, .int w4_2), (0, .ref o1), (1, .ref o2)]) hx hb dX12_goesThrough_99 hl (by decide) rfl (fun ls hl => ?_)
                  refine lv_iinc (v := w21_6 + (1 : Int32)) (lv' := [(6, .int (w21_6 + (1 : Int32))), (5, .int ((if w4_2 < (if (S4_.i (S.f o1 8) w21_6.toNatClampNeg) < (S4_.i (S.f o1 7) w21_6.toNatClampNeg) then (S4_.i (S.f o1 7) w21_6.toNatClampNeg) else (S4_.i (S.f o1 8) w21_6.toNatClampNeg)) then (if (S4_.i (S.f o1 8) w21_6.toNatClampNeg) < (S4_.i (S.f o1 7) w21_6.toNatClampNeg) then (S4_.i (S.f o1 7) w21_6.toNatClampNeg) else (S4_.i (S.f o1 8) w21_6.toNatClampNeg)) else w4_2) + (S4_.i (S.f o1 6) w21_6.toNatClampNeg))), (4, .int w21_6), (7, .int ((if w4_2 < (if (S4_.i (S.f o1 8) w21_6.toNatClampNeg) < (S4_.i (S.f o1 7) w21_6.toNatClampNeg) then (S4_.i (S.f o1 7) w21_6.toNatClampNeg) else (S4_.i (S.f o1 8) w21_6.toNatClampNeg)) then (if (S4_.i (S.f o1 8) w21_6.toNatClampNeg) < (S4_.i (S.f o1 7) w21_6.toNatClampNeg) then (S4_.i (S.f o1 7) w21_6.toNatClampNeg) else (S4_.i (S.f o1 8) w21_6.toNatClampNeg)) else w4_2) + (S4_.i (S.f o1 6) w21_6.toNatClampNeg))), (3, .int w4_3), (2, .int w4_2), (0, .ref o1), (1, .ref o2)]) hx hb dX12_goesThrough_101 hl (k := 3) rfl (by rfl) (by decide) rfl (fun ls hl => ?_)
                  refine lv_goto (tgt := 21) hx hb dX12_goesThrough_104 (by decide) ?_
                  have l32_1 : (1 : Int32).toInt = 1 := rfl
                  have i25 : (w21_6 + (1 : Int32)).toInt = w21_6.toInt + 1 := t_addr (n := 1) rfl (by omega)
                  exact ih21 w21_6 ((if w4_2 < (if (S4_.i (S.f o1 8) w21_6.toNatClampNeg) < (S4_.i (S.f o1 7) w21_6.toNatClampNeg) then (S4_.i (S.f o1 7) w21_6.toNatClampNeg) else (S4_.i (S.f o1 8) w21_6.toNatClampNeg)) then (if (S4_.i (S.f o1 8) w21_6.toNatClampNeg) < (S4_.i (S.f o1 7) w21_6.toNatClampNeg) then (S4_.i (S.f o1 7) w21_6.toNatClampNeg) else (S4_.i (S.f o1 8) w21_6.toNatClampNeg)) else w4_2) + (S4_.i (S.f o1 6) w21_6.toNatClampNeg)) (w21_6 + (1 : Int32)) _ _ _ (Nat.lt_of_lt_of_le (by omega) (Nat.le_of_lt_succ hm21)) (by omega) hP hS (lv_sub hl [0, 1, 2, 4, 5, 6, 7] rfl) (by rw [hq21, f_X12_goesThrough_L21_s, if_neg c6, if_pos c22, if_pos c24]) ko21
                · have c24i : ¬ w21_4.toInt = -1 := neq_v rfl rfl c24
                  refine lv_iload hx hb dX12_goesThrough_83 (lv_at hl 0 rfl) ?_
                  refine lv_iload hx hb dX12_goesThrough_85 (lv_at hl 2 rfl) ?_
                  refine lv_icmp_lt (tgt := 93) hx hb dX12_goesThrough_87 (by decide) (fun c26 => ?_) (fun c26 => ?_)
                  · have c26i : ((if w4_2 < (if (S4_.i (S.f o1 8) w21_6.toNatClampNeg) < (S4_.i (S.f o1 7) w21_6.toNatClampNeg) then (S4_.i (S.f o1 7) w21_6.toNatClampNeg) else (S4_.i (S.f o1 8) w21_6.toNatClampNeg)) then (if (S4_.i (S.f o1 8) w21_6.toNatClampNeg) < (S4_.i (S.f o1 7) w21_6.toNatClampNeg) then (S4_.i (S.f o1 7) w21_6.toNatClampNeg) else (S4_.i (S.f o1 8) w21_6.toNatClampNeg)) else w4_2) + (S4_.i (S.f o1 6) w21_6.toNatClampNeg)).toInt < w21_5.toInt := lt_v rfl rfl c26
                    refine lv_iload hx hb dX12_goesThrough_93 (lv_at hl 1 rfl) ?_
                    refine lv_istore (lv' := [(4, .int w21_6), (7, .int ((if w4_2 < (if (S4_.i (S.f o1 8) w21_6.toNatClampNeg) < (S4_.i (S.f o1 7) w21_6.toNatClampNeg) then (S4_.i (S.f o1 7) w21_6.toNatClampNeg) else (S4_.i (S.f o1 8) w21_6.toNatClampNeg)) then (if (S4_.i (S.f o1 8) w21_6.toNatClampNeg) < (S4_.i (S.f o1 7) w21_6.toNatClampNeg) then (S4_.i (S.f o1 7) w21_6.toNatClampNeg) else (S4_.i (S.f o1 8) w21_6.toNatClampNeg)) else w4_2) + (S4_.i (S.f o1 6) w21_6.toNatClampNeg))), (6, .int w21_6), (5, .int w21_5), (3, .int w4_3), (2, .int w4_2), (0, .ref o1), (1, .ref o2)]) hx hb dX12_goesThrough_95 hl (by decide) rfl (fun ls hl => ?_)
                    refine lv_iload hx hb dX12_goesThrough_97 (lv_at hl 1 rfl) ?_
                    refine lv_istore (lv' := [(5, .int ((if w4_2 < (if (S4_.i (S.f o1 8) w21_6.toNatClampNeg) < (S4_.i (S.f o1 7) w21_6.toNatClampNeg) then (S4_.i (S.f o1 7) w21_6.toNatClampNeg) else (S4_.i (S.f o1 8) w21_6.toNatClampNeg)) then (if (S4_.i (S.f o1 8) w21_6.toNatClampNeg) < (S4_.i (S.f o1 7) w21_6.toNatClampNeg) then (S4_.i (S.f o1 7) w21_6.toNatClampNeg) else (S4_.i (S.f o1 8) w21_6.toNatClampNeg)) else w4_2) + (S4_.i (S.f o1 6) w21_6.toNatClampNeg))), (4, .int w21_6), (7, .int ((if w4_2 < (if (S4_.i (S.f o1 8) w21_6.toNatClampNeg) < (S4_.i (S.f o1 7) w21_6.toNatClampNeg) then (S4_.i (S.f o1 7) w21_6.toNatClampNeg) else (S4_.i (S.f o1 8) w21_6.toNatClampNeg)) then (if (S4_.i (S.f o1 8) w21_6.toNatClampNeg) < (S4_.i (S.f o1 7) w21_6.toNatClampNeg) then (S4_.i (S.f o1 7) w21_6.toNatClampNeg) else (S4_.i (S.f o1 8) w21_6.toNatClampNeg)) else w4_2) + (S4_.i (S.f o1 6) w21_6.toNatClampNeg))), (6, .int w21_6), (3, .int w4_3), (2, .int w4_2), (0, .ref o1), (1, .ref o2)]) hx hb dX12_goesThrough_99 hl (by decide) rfl (fun ls hl => ?_)
                    refine lv_iinc (v := w21_6 + (1 : Int32)) (lv' := [(6, .int (w21_6 + (1 : Int32))), (5, .int ((if w4_2 < (if (S4_.i (S.f o1 8) w21_6.toNatClampNeg) < (S4_.i (S.f o1 7) w21_6.toNatClampNeg) then (S4_.i (S.f o1 7) w21_6.toNatClampNeg) else (S4_.i (S.f o1 8) w21_6.toNatClampNeg)) then (if (S4_.i (S.f o1 8) w21_6.toNatClampNeg) < (S4_.i (S.f o1 7) w21_6.toNatClampNeg) then (S4_.i (S.f o1 7) w21_6.toNatClampNeg) else (S4_.i (S.f o1 8) w21_6.toNatClampNeg)) else w4_2) + (S4_.i (S.f o1 6) w21_6.toNatClampNeg))), (4, .int w21_6), (7, .int ((if w4_2 < (if (S4_.i (S.f o1 8) w21_6.toNatClampNeg) < (S4_.i (S.f o1 7) w21_6.toNatClampNeg) then (S4_.i (S.f o1 7) w21_6.toNatClampNeg) else (S4_.i (S.f o1 8) w21_6.toNatClampNeg)) then (if (S4_.i (S.f o1 8) w21_6.toNatClampNeg) < (S4_.i (S.f o1 7) w21_6.toNatClampNeg) then (S4_.i (S.f o1 7) w21_6.toNatClampNeg) else (S4_.i (S.f o1 8) w21_6.toNatClampNeg)) else w4_2) + (S4_.i (S.f o1 6) w21_6.toNatClampNeg))), (3, .int w4_3), (2, .int w4_2), (0, .ref o1), (1, .ref o2)]) hx hb dX12_goesThrough_101 hl (k := 3) rfl (by rfl) (by decide) rfl (fun ls hl => ?_)
                    refine lv_goto (tgt := 21) hx hb dX12_goesThrough_104 (by decide) ?_
                    have l32_1 : (1 : Int32).toInt = 1 := rfl
                    have i27 : (w21_6 + (1 : Int32)).toInt = w21_6.toInt + 1 := t_addr (n := 1) rfl (by omega)
                    exact ih21 w21_6 ((if w4_2 < (if (S4_.i (S.f o1 8) w21_6.toNatClampNeg) < (S4_.i (S.f o1 7) w21_6.toNatClampNeg) then (S4_.i (S.f o1 7) w21_6.toNatClampNeg) else (S4_.i (S.f o1 8) w21_6.toNatClampNeg)) then (if (S4_.i (S.f o1 8) w21_6.toNatClampNeg) < (S4_.i (S.f o1 7) w21_6.toNatClampNeg) then (S4_.i (S.f o1 7) w21_6.toNatClampNeg) else (S4_.i (S.f o1 8) w21_6.toNatClampNeg)) else w4_2) + (S4_.i (S.f o1 6) w21_6.toNatClampNeg)) (w21_6 + (1 : Int32)) _ _ _ (Nat.lt_of_lt_of_le (by omega) (Nat.le_of_lt_succ hm21)) (by omega) hP hS (lv_sub hl [0, 1, 2, 4, 5, 6, 7] rfl) (by rw [hq21, f_X12_goesThrough_L21_s, if_neg c6, if_pos c22, if_neg c24, if_pos c26]) ko21
                  · have c26i : w21_5.toInt ≤ ((if w4_2 < (if (S4_.i (S.f o1 8) w21_6.toNatClampNeg) < (S4_.i (S.f o1 7) w21_6.toNatClampNeg) then (S4_.i (S.f o1 7) w21_6.toNatClampNeg) else (S4_.i (S.f o1 8) w21_6.toNatClampNeg)) then (if (S4_.i (S.f o1 8) w21_6.toNatClampNeg) < (S4_.i (S.f o1 7) w21_6.toNatClampNeg) then (S4_.i (S.f o1 7) w21_6.toNatClampNeg) else (S4_.i (S.f o1 8) w21_6.toNatClampNeg)) else w4_2) + (S4_.i (S.f o1 6) w21_6.toNatClampNeg)).toInt := nlt_v rfl rfl c26
                    refine lv_goto (tgt := 101) hx hb dX12_goesThrough_90 (by decide) ?_
                    refine lv_iinc (v := w21_6 + (1 : Int32)) (lv' := [(6, .int (w21_6 + (1 : Int32))), (7, .int ((if w4_2 < (if (S4_.i (S.f o1 8) w21_6.toNatClampNeg) < (S4_.i (S.f o1 7) w21_6.toNatClampNeg) then (S4_.i (S.f o1 7) w21_6.toNatClampNeg) else (S4_.i (S.f o1 8) w21_6.toNatClampNeg)) then (if (S4_.i (S.f o1 8) w21_6.toNatClampNeg) < (S4_.i (S.f o1 7) w21_6.toNatClampNeg) then (S4_.i (S.f o1 7) w21_6.toNatClampNeg) else (S4_.i (S.f o1 8) w21_6.toNatClampNeg)) else w4_2) + (S4_.i (S.f o1 6) w21_6.toNatClampNeg))), (5, .int w21_5), (4, .int w21_4), (3, .int w4_3), (2, .int w4_2), (0, .ref o1), (1, .ref o2)]) hx hb dX12_goesThrough_101 hl (k := 1) rfl (by rfl) (by decide) rfl (fun ls hl => ?_)
                    refine lv_goto (tgt := 21) hx hb dX12_goesThrough_104 (by decide) ?_
                    have l32_1 : (1 : Int32).toInt = 1 := rfl
                    have i28 : (w21_6 + (1 : Int32)).toInt = w21_6.toInt + 1 := t_addr (n := 1) rfl (by omega)
                    exact ih21 w21_4 w21_5 (w21_6 + (1 : Int32)) _ _ _ (Nat.lt_of_lt_of_le (by omega) (Nat.le_of_lt_succ hm21)) (by omega) hP hS (lv_sub hl [0, 2, 3, 4, 5, 6, 7] rfl) (by rw [hq21, f_X12_goesThrough_L21_s, if_neg c6, if_pos c22, if_neg c24, if_neg c26]) ko21
        refine loop21 (fun (z30 : Int32) (z31 : Int32) (z32 : Int32) => if z30 = (-1 : Int32) then ((-1 : Int32), S4_) else l1 (S4_.si (S.f o1 8) (upd (S4_.i (S.f o1 8)) z30.toNatClampNeg z31)) (fun S37 => f_X12_goesThrough_L4 S o1 o2 K4 n4 S37 z31 (w4_3 + (1 : Int32)))) 8 (-1 : Int32) (0 : Int32) (0 : Int32) _ _ _ (by omega) (by omega) hP hS (lv_sub hl [0, 1, 2, 3, 4, 5, 6] rfl) (by rw [hq4, f_X12_goesThrough_L4_s, if_neg c3]) (fun z30 z31 z32 H locs ls hi21 hP hS hl c29 => ?_)
        try dsimp only at c29
        refine lv_iload hx hb dX12_goesThrough_107 (lv_at hl 2 rfl) ?_
        refine lv_iconst (v := -1) hx hb dX12_goesThrough_109 (by decide) ?_
        refine lv_icmp_ne (tgt := 115) hx hb dX12_goesThrough_110 (by decide) (fun c33 => ?_) (fun c33 => ?_)
        · have c33i : ¬ z30.toInt = -1 := neq_v rfl rfl c33
          refine lv_aload_n hx hb dX12_goesThrough_115 rfl (lv_at hl 5 rfl) ?_
          have F34 := ((hW.at h_o1 List.not_mem_nil).to_12 h_o1.2.1).F8
          obtain ⟨k35, gk35, hk35⟩ := wGt (cy := cy) X S4_ (hsh4.x.A h_o1).1 (hsh4.x.A h_o1).2.1
          simp only [kE, (hsh4.x.F h_o1 (by decide) F34.1)] at hk35
          refine va_get (D := D) (ci := 16) (v := .ref (S.f o1 8)) (C := RX12) (T := TX12) (N := 34) hx hb hts hi_X12_goesThrough_X12 hown hK hP k35 hk35 rfl 8 (by decide) (hts (.fieldLink RX12 51 "HobhouseModel" "frees" "[I") (by decide +kernel)) (fun _ h9 => h9) rfl dX12_goesThrough_116 ?_
          refine lv_iload hx hb dX12_goesThrough_119 (lv_at hl 2 rfl) ?_
          refine lv_iload hx hb dX12_goesThrough_121 (lv_at hl 1 rfl) ?_
          obtain ⟨k36, gk36, hk36⟩ := wGt (cy := cy) X S4_ (hsh4.x.A F34.2.1).1 (hsh4.x.A F34.2.1).2.1
          refine va_iast hx hb hK hP hD hS k36 2 hk36 rfl (inb (m := 6) ((hsh4.x.n F34.2.1).trans F34.2.2) (by omega) (by omega)) dX12_goesThrough_123 (fun H locs hP2 hD2 hS => ?_)
          have e9 := wPui (cy := cy) (f := (upd (S4_.i (S.f o1 8)) z30.toNatClampNeg z31)) hD (hsh4.x.A F34.2.1).1 (hsh4.x.A F34.2.1).2.1 gk36 rfl
          obtain ⟨S37, hS37⟩ : ∃ z, S4_.si (S.f o1 8) (upd (S4_.i (S.f o1 8)) z30.toNatClampNeg z31) = z := ⟨_, rfl⟩
          have hP : va_P D vwCl (X ++ PL cy S37) H := by rw [← hS37, ← e9]; exact hP2
          have hD : va_D A (X ++ PL cy S37) := by rw [← hS37, ← e9]; exact hD2
          have xe38 : ext S4_ S37 := by rw [← hS37]; exact ext.si _ _ _
          have t39 : stp [(36, 100)] [] [] S S37 := by rw [← hS37]; exact hsh4.i (upd (S4_.i (S.f o1 8)) z30.toNatClampNeg z31) (hsh4.x.A F34.2.1) (by decide)
          refine lv_iload hx hb dX12_goesThrough_124 (lv_at hl 1 rfl) ?_
          refine lv_istore_n (lv' := [(2, .int z31), (6, .int z32), (5, .int z31), (4, .int z30), (3, .int w4_3), (0, .ref o1), (1, .ref o2)]) hx hb dX12_goesThrough_126 rfl hl (by decide) rfl (fun ls hl => ?_)
          refine lv_iinc (v := w4_3 + (1 : Int32)) (lv' := [(3, .int (w4_3 + (1 : Int32))), (2, .int z31), (6, .int z32), (5, .int z31), (4, .int z30), (0, .ref o1), (1, .ref o2)]) hx hb dX12_goesThrough_127 hl (k := 4) rfl (by rfl) (by decide) rfl (fun ls hl => ?_)
          refine lv_goto (tgt := 4) hx hb dX12_goesThrough_130 (by decide) ?_
          have l32_1 : (1 : Int32).toInt = 1 := rfl
          have i40 : (w4_3 + (1 : Int32)).toInt = w4_3.toInt + 1 := t_addr (n := 1) rfl (by omega)
          exact ih4 S37 z31 (w4_3 + (1 : Int32)) _ _ _ (Nat.lt_of_lt_of_le (by omega) (Nat.le_of_lt_succ hm4)) (by omega) t39 hP hD hS (lv_sub hl [0, 1, 5, 6] rfl) (by rw [c29, if_neg c33, l1_eq hS37]) ko4
        · have c33i : z30.toInt = -1 := eq_v rfl rfl c33
          refine lv_iconst (v := -1) hx hb dX12_goesThrough_113 (by decide) ?_
          refine W.widen (k := 0) (n := 0) (Nat.le_of_ble_eq_true rfl) (Nat.le_of_ble_eq_true rfl) ?_
          exact W.iret (v := (-1 : Int32)) hx hb hr (fun t ht hW9 => ⟨⟨(-1 : Int32), S4_, rfl, ⟨(by rw [c29, if_pos c33]), (t0.tr hsh4 (fun _ q => q) (fun _ q => Or.inl q))⟩, wd_end hP hK hD ht hW9.alike⟩, hS.F ht⟩) hS.2.2 dX12_goesThrough_114 hlocks
  refine loop4 (fun (S42 : wPS) (z43 : Int32) (z44 : Int32) => (z43, S42)) 10 S (0 : Int32) (0 : Int32) _ _ _ (by omega) (by omega) (stp.rf hW) hP hD hS (lv_sub hl [0, 1, 2, 3] rfl) (by unfold f_X12_goesThrough; rfl) (fun S42 z43 z44 H locs ls hi4 hsh4 hP hD hS hl c41 => ?_)
  try dsimp only at c41
  have t45 : stp [(36, 100)] [] [] S S42 := t0.tr hsh4 (fun _ q => q) (fun _ q => Or.inl q)
  have et45 := hsh4.x
  refine lv_iload_n hx hb dX12_goesThrough_133 rfl (lv_at hl 1 rfl) ?_
  refine W.widen (k := 0) (n := 0) (Nat.le_of_ble_eq_true rfl) (Nat.le_of_ble_eq_true rfl) ?_
  exact W.iret (v := z43) hx hb hr (fun t ht hW9 => ⟨⟨z43, S42, rfl, ⟨(by rw [c41]), t45⟩, wd_end hP hK hD ht hW9.alike⟩, hS.F ht⟩) hS.2.2 dX12_goesThrough_134 hlocks
def f_X12_doneAt_L16 (S : wPS) (o1 : Nat) (x1 : Int32) : Nat → wPS → Int32 → wPS × Int32
  | 0, S16_, w16_2 => (S16_, w16_2)
  | n + 1, S16_, w16_2 => if (6 : Int32) ≤ w16_2 then (S16_, w16_2) else l1 (S16_.si (S.f o1 8) (upd (S16_.i (S.f o1 8)) w16_2.toNatClampNeg (0 : Int32))) (fun S11 => f_X12_doneAt_L16 S o1 x1 n S11 (w16_2 + (1 : Int32)))
theorem f_X12_doneAt_L16_s (S : wPS) (o1 : Nat) (x1 : Int32) (n : Nat) (S16_ : wPS) (w16_2 : Int32) : f_X12_doneAt_L16 S o1 x1 (n + 1) S16_ w16_2 = if (6 : Int32) ≤ w16_2 then (S16_, w16_2) else l1 (S16_.si (S.f o1 8) (upd (S16_.i (S.f o1 8)) w16_2.toNatClampNeg (0 : Int32))) (fun S11 => f_X12_doneAt_L16 S o1 x1 n S11 (w16_2 + (1 : Int32))) := rfl
def f_X12_doneAt_L42 (S : wPS) (o1 : Nat) (x1 : Int32) (S17 : wPS) (z18 : Int32) : Nat → wPS → Int32 → Int32 → Int32 → wPS × Int32 × Int32 × Int32
  | 0, S42_, w42_2, w42_3, w42_4 => (S42_, w42_2, w42_3, w42_4)
  | n + 1, S42_, w42_2, w42_3, w42_4 => if (f_Jx4a65c_size_8abf5 S42_ (S.f o1 0)) ≤ w42_4 then (S42_, w42_2, w42_3, w42_4) else l1 (f_X12_gearAt S42_ o1 w42_4) (fun r28 => l2 (f_X12_goesThrough S42_ o1 r28) (fun r32 S35 => if w42_3 = (0 : Int32) then if r32 = (-1 : Int32) then if w42_4 = x1 then f_X12_doneAt_L42 S o1 x1 S17 z18 n S35 r32 (1 : Int32) (w42_4 + (1 : Int32)) else f_X12_doneAt_L42 S o1 x1 S17 z18 n S35 w42_2 (1 : Int32) (w42_4 + (1 : Int32)) else if w42_4 = x1 then f_X12_doneAt_L42 S o1 x1 S17 z18 n S35 r32 (0 : Int32) (w42_4 + (1 : Int32)) else f_X12_doneAt_L42 S o1 x1 S17 z18 n S35 w42_2 (0 : Int32) (w42_4 + (1 : Int32)) else if w42_4 = x1 then f_X12_doneAt_L42 S o1 x1 S17 z18 n S35 r32 (1 : Int32) (w42_4 + (1 : Int32)) else f_X12_doneAt_L42 S o1 x1 S17 z18 n S35 w42_2 (1 : Int32) (w42_4 + (1 : Int32))))
theorem f_X12_doneAt_L42_s (S : wPS) (o1 : Nat) (x1 : Int32) (S17 : wPS) (z18 : Int32) (n : Nat) (S42_ : wPS) (w42_2 : Int32) (w42_3 : Int32) (w42_4 : Int32) : f_X12_doneAt_L42 S o1 x1 S17 z18 (n + 1) S42_ w42_2 w42_3 w42_4 = if (f_Jx4a65c_size_8abf5 S42_ (S.f o1 0)) ≤ w42_4 then (S42_, w42_2, w42_3, w42_4) else l1 (f_X12_gearAt S42_ o1 w42_4) (fun r28 => l2 (f_X12_goesThrough S42_ o1 r28) (fun r32 S35 => if w42_3 = (0 : Int32) then if r32 = (-1 : Int32) then if w42_4 = x1 then f_X12_doneAt_L42 S o1 x1 S17 z18 n S35 r32 (1 : Int32) (w42_4 + (1 : Int32)) else f_X12_doneAt_L42 S o1 x1 S17 z18 n S35 w42_2 (1 : Int32) (w42_4 + (1 : Int32)) else if w42_4 = x1 then f_X12_doneAt_L42 S o1 x1 S17 z18 n S35 r32 (0 : Int32) (w42_4 + (1 : Int32)) else f_X12_doneAt_L42 S o1 x1 S17 z18 n S35 w42_2 (0 : Int32) (w42_4 + (1 : Int32)) else if w42_4 = x1 then f_X12_doneAt_L42 S o1 x1 S17 z18 n S35 r32 (1 : Int32) (w42_4 + (1 : Int32)) else f_X12_doneAt_L42 S o1 x1 S17 z18 n S35 w42_2 (1 : Int32) (w42_4 + (1 : Int32)))) := rfl
def f_X12_doneAt (S : wPS) (o1 : Nat) (x1 : Int32) : (Int32 × wPS) := if (f_X12_isGear S o1 x1) = (0 : Int32) then l2 (f_X12_fails S o1 (1 : Int32)) (fun r74 S77 => (r74, S77)) else l2 (f_X12_doneAt_L16 S o1 x1 7 S (0 : Int32)) (fun S17 z18 => l4 (f_X12_doneAt_L42 S o1 x1 S17 z18 42 S17 (0 : Int32) (0 : Int32) (0 : Int32)) (fun S51 z52 z53 z54 => if z53 = (0 : Int32) then l2 (f_X12_answer S51 o1 z52) (fun r58 S61 => (r58, S61)) else l2 (f_X12_fails S51 o1 (2 : Int32)) (fun r66 S69 => (r66, S69))))
theorem hi_X12_doneAt_X12 : ∀ w ∈ u_ws RX12 TX12 34, w ∈ wsX12_doneAt := by decide +kernel
theorem hd_X12_doneAt : yX12_doneAt.cls = RX12 ∧ yX12_doneAt.cls ≠ "java/lang/invoke/MethodHandle" ∧ yX12_doneAt.cls ≠ "java/lang/invoke/VarHandle" ∧ (parseMethodDescriptor yX12_doneAt.desc).map (fun d => d.parameters.length) = some 1 := by decide +kernel
set_option maxHeartbeats 4000000 in
set_option maxRecDepth 100000 in
theorem c_X12_doneAt (l : Launch) {D : va_G} {cy : Nat → ClassId} {X : va_W} (S : wPS) (sz : Nat) (o1 : Nat) (h_o1 : isA S o1 12) (x1 : Int32) (hW : wtB S [])  : Met l yX12_doneAt wsX12_doneAt ({ frames := 4, cells := 0, slots := 0, locals := 85 }) (va_Pc [.ref o1, .int x1] (fun U => U.heap.size = sz ∧ WD D cy X (fun _ => True) S U ∧ NW U)) (va_Qi (fun r (u : wPS) => (r, u) = f_X12_doneAt S o1 x1 ∧ stp [(12, 15), (36, 100)] [] [] S u) (fun u t => WD D cy X (va_A (X ++ PL cy S) sz) u t) (va_A (X ++ PL cy S) sz)) 0 0 (va_A (X ++ PL cy S) sz) := by
  refine Met.ofW (cc := cX12_doneAt) (maxL := 6) (ret := (some .int)) (by decide) rfl ?_
  intro p e s m args below meth c s₁ B hml hv
  obtain ⟨rfl, hsz, ⟨hP, hK, hD0⟩, hN⟩ := hv
  have hx := B.exec
  have hb := B.bytes
  have hr := B.returns
  have hts := atoms_spec (ws := wsX12_doneAt) B.pre
  have hown : s.vm.findClass RX12 = some m.cls := findClass_of_methodNamed (x := yX12_doneAt) B.named
  have hlocks := B.notSynchronized
  subst hsz
  have hD := hD0.self (sz := s.heap.size)
  generalize hAe : va_A (X ++ PL cy S) s.heap.size = A at hD ⊢
  have hA : ∀ q : Nat, s.heap.size ≤ q → A q := fun q h => by rw [← hAe]; exact Or.inr h
  have hS : va_S A s.heap s.heap [] := va_S.rf
  have hl := lv_entry ([.ref o1, .int x1]) (n := 6) (Nat.le_of_ble_eq_true rfl)
  rw [lg_entry_eq]
  generalize (lg_sl ([.ref o1, .int x1]) ++ List.replicate (6 - (lg_sl ([.ref o1, .int x1])).length) Slot.unset).toArray = ls at hl ⊢
  have hl : lv_has ls 6 [(0, .ref o1), (1, .int x1)] := hl
  have t0 : stp [(12, 15), (36, 100)] [] [] S S := stp.rf hW
  have F1 := ((hW.at h_o1 List.not_mem_nil).to_12 h_o1.2.1).F0
  refine lv_aload_n hx hb dX12_doneAt_0 rfl (lv_at hl 0 rfl) ?_
  refine lv_iload_n hx hb dX12_doneAt_1 rfl (lv_at hl 1 rfl) ?_
  have hFc := free_all hD hS hA
  obtain ⟨k2, gk2, hk2⟩ := wGt (cy := cy) X S h_o1.1 h_o1.2.1
  refine va_calli (va_runV (As := [.int x1]) (rest := []) ⟨hx, hb, hml, hown, hts⟩ (c_X12_isGear l (cy := cy) (X := X) (D := D) S _ o1 h_o1 x1 (hW)) (cwV 1 hts gX12_doneAt_X12_isGear rfl rfl rfl hd_X12_isGear ⟨Nat.le_of_ble_eq_true rfl, Nat.le_of_ble_eq_true rfl⟩) (pV (va_recv hK hP (q := (RX12, TX12, 34)) (ci := 16) (q0 := k2) rfl hk2) hP hK hD hN) rfl rfl hl.1 rfl (lv_room (Nat.le_of_ble_eq_true rfl)) dX12_doneAt_2 ⟨(Nat.zero_le _), (Nat.zero_le _)⟩) hS (fun q _ h => hFc q h) hFc (fun r3 u t H1 locs ht hvm hw hB hz1 hk1 hS => ?_)
  have c4 := hw
  obtain ⟨hP, hD⟩ := wd_post hFc ht hB
  generalize H1 = H at hP hS ⊢
  obtain rfl : f_X12_isGear S o1 x1 = r3 := c4.symm
  have i5 : (f_X12_isGear S o1 x1).toInt = 0 ∨ (0 ≤ x1.toInt ∧ x1.toInt < (S.I (S.f o1 0) 2).toInt) := by have h9 := ig_rng x1 ((hW.at h_o1 List.not_mem_nil).to_12 h_o1.2.1) hW; rw [f_of F1.1] at h9; exact h9
  refine lv_if_ne (tgt := 14) hx hb dX12_doneAt_5 (by decide) (fun c6 => ?_) (fun c6 => ?_)
  · have c6i : ¬ (f_X12_isGear S o1 x1).toInt = 0 := neq_v rfl rfl c6
    refine lv_iconst (v := 0) hx hb dX12_doneAt_14 (by decide) ?_
    refine lv_istore_n (lv' := [(2, .int (0 : Int32)), (0, .ref o1), (1, .int x1)]) hx hb dX12_doneAt_15 rfl hl (by decide) rfl (fun ls hl => ?_)
    have l32_0 : (0 : Int32).toInt = 0 := rfl
    have loop16 : ∀ (n : Nat) (S16_ : wPS) (w16_2 : Int32) (H : Heap) (locs : List Loc) (ls : Array Slot), (6 - w16_2.toInt).toNat < n → 0 ≤ w16_2.toInt ∧ w16_2.toInt ≤ 6 ∧ (S16_.I (S.f o1 0) 2).toInt = (S.I (S.f o1 0) 2).toInt → stp [(12, 15), (36, 100)] [] [] S S16_ → va_P D vwCl (X ++ PL cy S16_) H → va_D A (X ++ PL cy S16_) → va_S A s.heap H locs → lv_has ls 6 [(2, .int w16_2), (0, .ref o1), (1, .int x1)] → (∀ (S16_x : wPS) (w16_2x : Int32) (H : Heap) (locs : List Loc) (ls : Array Slot), 0 ≤ w16_2x.toInt ∧ w16_2x.toInt ≤ 6 ∧ (S16_x.I (S.f o1 0) 2).toInt = (S.I (S.f o1 0) 2).toInt → stp [(12, 15), (36, 100)] [] [] S S16_x → va_P D vwCl (X ++ PL cy S16_x) H → va_D A (X ++ PL cy S16_x) → va_S A s.heap H locs → lv_has ls 6 [(2, .int w16_2x), (0, .ref o1), (1, .int x1)] → f_X12_doneAt_L16 S o1 x1 n S16_ w16_2 = (S16_x, w16_2x) → W p l e (headSpec wsX12_doneAt ({ frames := 4, cells := 0, slots := 0, locals := 85 } : Room)).room s m [.ref o1, .int x1].toArray below meth c H locs 0 0 (MQ below (va_Qi (fun r (u : wPS) => (r, u) = f_X12_doneAt S o1 x1 ∧ stp [(12, 15), (36, 100)] [] [] S u) (fun u t => WD D cy X A u t) A) [.ref o1, .int x1].toArray s 0 0 A) (F0 m 35 ls [])) → W p l e (headSpec wsX12_doneAt ({ frames := 4, cells := 0, slots := 0, locals := 85 } : Room)).room s m [.ref o1, .int x1].toArray below meth c H locs 0 0 (MQ below (va_Qi (fun r (u : wPS) => (r, u) = f_X12_doneAt S o1 x1 ∧ stp [(12, 15), (36, 100)] [] [] S u) (fun u t => WD D cy X A u t) A) [.ref o1, .int x1].toArray s 0 0 A) (F0 m 16 ls []) := by
      intro n16
      induction n16 with
      | zero => intro S16_ w16_2 H locs ls hm; exact absurd hm (Nat.not_lt_zero _)
      | succ n16 ih16 =>
        intro S16_ w16_2 H locs ls hm16 hi16 hsh16 hP hD hS hl ko16
        refine lv_iload_n hx hb dX12_doneAt_16 rfl (lv_at hl 0 rfl) ?_
        refine lv_bipush (v := 6) hx hb dX12_doneAt_17 (by decide +kernel) ?_
        refine lv_icmp_ge (tgt := 35) hx hb dX12_doneAt_19 (by decide) (fun c7 => ?_) (fun c7 => ?_)
        · have c7i : 6 ≤ w16_2.toInt := le_v rfl rfl c7
          exact ko16 S16_ w16_2 _ _ _ (by omega) hsh16 hP hD hS (lv_sub hl [0, 1, 2] rfl) (by rw [f_X12_doneAt_L16_s, if_pos c7])
        · have c7i : w16_2.toInt < 6 := nle_v rfl rfl c7
          refine lv_aload_n hx hb dX12_doneAt_22 rfl (lv_at hl 1 rfl) ?_
          have F8 := ((hW.at h_o1 List.not_mem_nil).to_12 h_o1.2.1).F8
          obtain ⟨k9, gk9, hk9⟩ := wGt (cy := cy) X S16_ (hsh16.x.A h_o1).1 (hsh16.x.A h_o1).2.1
          simp only [kE, (hsh16.x.F h_o1 (by decide) F8.1)] at hk9
          refine va_get (D := D) (ci := 16) (v := .ref (S.f o1 8)) (C := RX12) (T := TX12) (N := 34) hx hb hts hi_X12_doneAt_X12 hown hK hP k9 hk9 rfl 8 (by decide) (hts (.fieldLink RX12 51 "HobhouseModel" "frees" "[I") (by decide +kernel)) (fun _ h9 => h9) rfl dX12_doneAt_23 ?_
          refine lv_iload_n hx hb dX12_doneAt_26 rfl (lv_at hl 0 rfl) ?_
          refine lv_iconst (v := 0) hx hb dX12_doneAt_27 (by decide) ?_
          obtain ⟨k10, gk10, hk10⟩ := wGt (cy := cy) X S16_ (hsh16.x.A F8.2.1).1 (hsh16.x.A F8.2.1).2.1
          refine va_iast hx hb hK hP hD hS k10 2 hk10 rfl (inb (m := 6) ((hsh16.x.n F8.2.1).trans F8.2.2) (by omega) (by omega)) dX12_doneAt_28 (fun H locs hP2 hD2 hS => ?_)
          have e9 := wPui (cy := cy) (f := (upd (S16_.i (S.f o1 8)) w16_2.toNatClampNeg (0 : Int32))) hD (hsh16.x.A F8.2.1).1 (hsh16.x.A F8.2.1).2.1 gk10 rfl
          obtain ⟨S11, hS11⟩ : ∃ z, S16_.si (S.f o1 8) (upd (S16_.i (S.f o1 8)) w16_2.toNatClampNeg (0 : Int32)) = z := ⟨_, rfl⟩
          have hP : va_P D vwCl (X ++ PL cy S11) H := by rw [← hS11, ← e9]; exact hP2
          have hD : va_D A (X ++ PL cy S11) := by rw [← hS11, ← e9]; exact hD2
          have xe12 : ext S16_ S11 := by rw [← hS11]; exact ext.si _ _ _
          have t13 : stp [(12, 15), (36, 100)] [] [] S S11 := by rw [← hS11]; exact hsh16.i (upd (S16_.i (S.f o1 8)) w16_2.toNatClampNeg (0 : Int32)) (hsh16.x.A F8.2.1) (by decide)
          have k14 : (S11.I (S.f o1 0) 2).toInt = (S16_.I (S.f o1 0) 2).toInt := by rw [← hS11]; rfl
          refine lv_iinc (v := w16_2 + (1 : Int32)) (lv' := [(2, .int (w16_2 + (1 : Int32))), (0, .ref o1), (1, .int x1)]) hx hb dX12_doneAt_29 hl (k := 0) rfl (by rfl) (by decide) rfl (fun ls hl => ?_)
          refine lv_goto (tgt := 16) hx hb dX12_doneAt_32 (by decide) ?_
          have l32_1 : (1 : Int32).toInt = 1 := rfl
          have i15 : (w16_2 + (1 : Int32)).toInt = w16_2.toInt + 1 := t_addr (n := 1) rfl (by omega)
          exact ih16 S11 (w16_2 + (1 : Int32)) _ _ _ (Nat.lt_of_lt_of_le (by omega) (Nat.le_of_lt_succ hm16)) (by omega) t13 hP hD hS (lv_sub hl [0, 1, 2] rfl) (fun S16_y w16_2y H9 locs9 ls9 i9 sh9 P9 D9 S9 l9 hfe => ko16 S16_y w16_2y H9 locs9 ls9 i9 sh9 P9 D9 S9 l9 (Eq.trans (by rw [f_X12_doneAt_L16_s, if_neg c7, l1_eq hS11]) hfe))
    refine loop16 7 S (0 : Int32) _ _ _ (by omega) (by omega) (stp.rf hW) hP hD hS (lv_sub hl [0, 1, 2] rfl) (fun S17 z18 H locs ls hi16 hsh16 hP hD hS hl c16 => ?_)
    have t19 : stp [(12, 15), (36, 100)] [] [] S S17 := t0.tr hsh16 (fun _ q => q) (fun _ q => Or.inl q)
    have et19 := hsh16.x
    refine lv_iconst (v := 0) hx hb dX12_doneAt_35 (by decide) ?_
    refine lv_istore_n (lv' := [(2, .int (0 : Int32)), (0, .ref o1), (1, .int x1)]) hx hb dX12_doneAt_36 rfl hl (by decide) rfl (fun ls hl => ?_)
    refine lv_iconst (v := 0) hx hb dX12_doneAt_37 (by decide) ?_
    refine lv_istore_n (lv' := [(3, .int (0 : Int32)), (2, .int (0 : Int32)), (0, .ref o1), (1, .int x1)]) hx hb dX12_doneAt_38 rfl hl (by decide) rfl (fun ls hl => ?_)
    refine lv_iconst (v := 0) hx hb dX12_doneAt_39 (by decide) ?_
    refine lv_istore (lv' := [(4, .int (0 : Int32)), (3, .int (0 : Int32)), (2, .int (0 : Int32)), (0, .ref o1), (1, .int x1)]) hx hb dX12_doneAt_40 hl (by decide) rfl (fun ls hl => ?_)
    have loop42 : ∀ (n : Nat) (S42_ : wPS) (w42_2 : Int32) (w42_3 : Int32) (w42_4 : Int32) (H : Heap) (locs : List Loc) (ls : Array Slot), (41 - w42_4.toInt).toNat < n → 0 ≤ w42_4.toInt ∧ w42_4.toInt ≤ 40 ∧ (S42_.I (S.f o1 0) 2).toInt = (S.I (S.f o1 0) 2).toInt → stp [(12, 15), (36, 100)] [] [] S17 S42_ → va_P D vwCl (X ++ PL cy S42_) H → va_D A (X ++ PL cy S42_) → va_S A s.heap H locs → lv_has ls 6 [(4, .int w42_4), (3, .int w42_3), (2, .int w42_2), (0, .ref o1), (1, .int x1)] → (∀ (S42_x : wPS) (w42_2x : Int32) (w42_3x : Int32) (w42_4x : Int32) (H : Heap) (locs : List Loc) (ls : Array Slot), 0 ≤ w42_4x.toInt ∧ w42_4x.toInt ≤ 40 ∧ (S42_x.I (S.f o1 0) 2).toInt = (S.I (S.f o1 0) 2).toInt → stp [(12, 15), (36, 100)] [] [] S17 S42_x → va_P D vwCl (X ++ PL cy S42_x) H → va_D A (X ++ PL cy S42_x) → va_S A s.heap H locs → lv_has ls 6 [(4, .int w42_4x), (3, .int w42_3x), (2, .int w42_2x), (0, .ref o1), (1, .int x1)] → f_X12_doneAt_L42 S o1 x1 S17 z18 n S42_ w42_2 w42_3 w42_4 = (S42_x, w42_2x, w42_3x, w42_4x) → W p l e (headSpec wsX12_doneAt ({ frames := 4, cells := 0, slots := 0, locals := 85 } : Room)).room s m [.ref o1, .int x1].toArray below meth c H locs 0 0 (MQ below (va_Qi (fun r (u : wPS) => (r, u) = f_X12_doneAt S o1 x1 ∧ stp [(12, 15), (36, 100)] [] [] S u) (fun u t => WD D cy X A u t) A) [.ref o1, .int x1].toArray s 0 0 A) (F0 m 101 ls [])) → W p l e (headSpec wsX12_doneAt ({ frames := 4, cells := 0, slots := 0, locals := 85 } : Room)).room s m [.ref o1, .int x1].toArray below meth c H locs 0 0 (MQ below (va_Qi (fun r (u : wPS) => (r, u) = f_X12_doneAt S o1 x1 ∧ stp [(12, 15), (36, 100)] [] [] S u) (fun u t => WD D cy X A u t) A) [.ref o1, .int x1].toArray s 0 0 A) (F0 m 42 ls []) := by
      intro n42
      induction n42 with
      | zero => intro S42_ w42_2 w42_3 w42_4 H locs ls hm; exact absurd hm (Nat.not_lt_zero _)
      | succ n42 ih42 =>
        intro S42_ w42_2 w42_3 w42_4 H locs ls hm42 hi42 hsh42 hP hD hS hl ko42
        refine lv_iload hx hb dX12_doneAt_42 (lv_at hl 0 rfl) ?_
        refine lv_aload_n hx hb dX12_doneAt_44 rfl (lv_at hl 3 rfl) ?_
        obtain ⟨k20, gk20, hk20⟩ := wGt (cy := cy) X S42_ ((et19.tr hsh42.x).A h_o1).1 ((et19.tr hsh42.x).A h_o1).2.1
        simp only [kE, ((et19.tr hsh42.x).F h_o1 (by decide) F1.1)] at hk20
        refine va_get (D := D) (ci := 16) (v := .ref (S.f o1 0)) (C := RX12) (T := TX12) (N := 34) hx hb hts hi_X12_doneAt_X12 hown hK hP k20 hk20 rfl 0 (by decide) (hts (.fieldLink RX12 24 "HobhouseModel" "gears" "Ljava/util/ArrayList;") (by decide +kernel)) (fun _ h9 => h9) rfl dX12_doneAt_45 ?_
        have hFc := free_all hD hS hA
        obtain ⟨k21, gk21, hk21⟩ := wGt (cy := cy) X S42_ ((et19.tr hsh42.x).A F1.2.1).1 ((et19.tr hsh42.x).A F1.2.1).2.1
        refine va_calli (va_runV (As := []) (rest := [.int w42_4]) ⟨hx, hb, hml, hown, hts⟩ (c_Jx4a65c_size_8abf5 l (cy := cy) (X := X) (D := D) S42_ _ (S.f o1 0) ((et19.tr hsh42.x).A F1.2.1)) (cwV 0 hts gX12_doneAt_Jx4a65c_size_8abf5 rfl rfl rfl hd_Jx4a65c_size_8abf5 ⟨Nat.le_of_ble_eq_true rfl, Nat.le_of_ble_eq_true rfl⟩) (pV (va_recv hK hP (q := (RJx4a65c, TJx4a65c, 3)) (ci := 3) (q0 := k21) rfl hk21) hP hK hD hN) rfl rfl hl.1 rfl (lv_room (Nat.le_of_ble_eq_true rfl)) dX12_doneAt_48 ⟨(Nat.zero_le _), (Nat.zero_le _)⟩) hS (fun q _ h => hFc q h) hFc (fun r22 u t H1 locs ht hvm hw hB hz1 hk1 hS => ?_)
        have c23 := hw
        obtain ⟨hP, hD⟩ := wd_post hFc ht hB
        generalize H1 = H at hP hS ⊢
        obtain rfl : f_Jx4a65c_size_8abf5 S42_ (S.f o1 0) = r22 := c23.symm
        have i24 := al_sz ((hsh42.w.at ((et19.tr hsh42.x).A F1.2.1) List.not_mem_nil).to_14 ((et19.tr hsh42.x).A F1.2.1).2.1)
        have i25 : (f_Jx4a65c_size_8abf5 S42_ (S.f o1 0)).toInt = (S42_.I (S.f o1 0) 2).toInt := rfl
        refine lv_icmp_ge (tgt := 101) hx hb dX12_doneAt_51 (by decide) (fun c26 => ?_) (fun c26 => ?_)
        · have c26i : (f_Jx4a65c_size_8abf5 S42_ (S.f o1 0)).toInt ≤ w42_4.toInt := le_v rfl rfl c26
          exact ko42 S42_ w42_2 w42_3 w42_4 _ _ _ (by omega) hsh42 hP hD hS (lv_sub hl [0, 1, 2, 3, 4] rfl) (by rw [f_X12_doneAt_L42_s, if_pos c26])
        · have c26i : w42_4.toInt < (f_Jx4a65c_size_8abf5 S42_ (S.f o1 0)).toInt := nle_v rfl rfl c26
          refine lv_aload_n hx hb dX12_doneAt_54 rfl (lv_at hl 3 rfl) ?_
          refine lv_aload_n hx hb dX12_doneAt_55 rfl (lv_at hl 3 rfl) ?_
          refine lv_iload hx hb dX12_doneAt_56 (lv_at hl 0 rfl) ?_
          have hFc := free_all hD hS hA
          obtain ⟨k27, gk27, hk27⟩ := wGt (cy := cy) X S42_ ((et19.tr hsh42.x).A h_o1).1 ((et19.tr hsh42.x).A h_o1).2.1
          refine va_callq (va_runV (As := [.int w42_4]) (rest := [.ref o1]) ⟨hx, hb, hml, hown, hts⟩ (c_X12_gearAt l (cy := cy) (X := X) (D := D) S42_ _ o1 ((et19.tr hsh42.x).A h_o1) w42_4 (hsh42.w) (by rw [f_of ((et19.tr hsh42.x).F h_o1 (by decide) F1.1)]; omega)) (cwV 1 hts gX12_doneAt_X12_gearAt rfl rfl rfl hd_X12_gearAt ⟨Nat.le_of_ble_eq_true rfl, Nat.le_of_ble_eq_true rfl⟩) (pV (va_recv hK hP (q := (RX12, TX12, 34)) (ci := 16) (q0 := k27) rfl hk27) hP hK hD hN) rfl rfl hl.1 rfl (lv_room (Nat.le_of_ble_eq_true rfl)) dX12_doneAt_58 ⟨(Nat.zero_le _), (Nat.zero_le _)⟩) hS (fun q _ h => hFc q h) hFc (fun r28 u t H1 locs ht hvm hw hB hz1 hk1 hS => ?_)
          obtain ⟨r28, rfl, c29, o30⟩ := hw
          obtain ⟨hP, hD⟩ := wd_post hFc ht hB
          generalize H1 = H at hP hS ⊢
          refine W.eq (g2 := F0 m 61 ls [.ref r28, .ref o1]) rfl ?_
          have hFc := free_all hD hS hA
          obtain ⟨k31, gk31, hk31⟩ := wGt (cy := cy) X S42_ ((et19.tr hsh42.x).A h_o1).1 ((et19.tr hsh42.x).A h_o1).2.1
          refine va_calli (va_runV (As := [.ref r28]) (rest := []) ⟨hx, hb, hml, hown, hts⟩ (c_X12_goesThrough l (cy := cy) (X := X) (D := D) S42_ _ o1 ((et19.tr hsh42.x).A h_o1) r28 o30 (hsh42.w)) (cwV 1 hts gX12_doneAt_X12_goesThrough rfl rfl rfl hd_X12_goesThrough ⟨Nat.le_of_ble_eq_true rfl, Nat.le_of_ble_eq_true rfl⟩) (pV (va_recv hK hP (q := (RX12, TX12, 34)) (ci := 16) (q0 := k31) rfl hk31) hP hK hD hN) rfl rfl hl.1 rfl (lv_room (Nat.le_of_ble_eq_true rfl)) dX12_doneAt_61 ⟨(Nat.zero_le _), (Nat.zero_le _)⟩) hS (fun q _ h => hFc q h) hFc (fun r32 u t H1 locs ht hvm hw hB hz1 hk1 hS => ?_)
          obtain ⟨c33, w34⟩ := hw
          obtain ⟨hP, hD⟩ := wd_post hFc ht hB
          generalize H1 = H at hP hS ⊢
          obtain ⟨S35, rfl⟩ : ∃ z, z = u := ⟨_, rfl⟩
          have t36 : stp [(12, 15), (36, 100)] [] [] S17 S35 := hsh42.tr w34 (by decide) (fun _ q => absurd q List.not_mem_nil)
          have xe37 : ext S42_ S35 := w34.x
          have k38 : (S35.I (S.f o1 0) 2).toInt = (S42_.I (S.f o1 0) 2).toInt := by rw [(w34.fR (S.f o1 0) ((et19.tr hsh42.x).A F1.2.1).1 List.not_mem_nil).1 2 (by rw [((et19.tr hsh42.x).A F1.2.1).2.1]; decide) |>.1]
          refine lv_istore (lv' := [(5, .int r32), (4, .int w42_4), (3, .int w42_3), (2, .int w42_2), (0, .ref o1), (1, .int x1)]) hx hb dX12_doneAt_64 hl (by decide) rfl (fun ls hl => ?_)
          refine lv_iload_n hx hb dX12_doneAt_66 rfl (lv_at hl 2 rfl) ?_
          refine lv_if_ne (tgt := 76) hx hb dX12_doneAt_67 (by decide) (fun c39 => ?_) (fun c39 => ?_)
          · have c39i : ¬ w42_3.toInt = 0 := neq_v rfl rfl c39
            refine lv_iconst (v := 1) hx hb dX12_doneAt_76 (by decide) ?_
            refine lv_goto (tgt := 81) hx hb dX12_doneAt_77 (by decide) ?_
            refine lv_istore_n (lv' := [(3, .int (1 : Int32)), (5, .int r32), (4, .int w42_4), (2, .int w42_2), (0, .ref o1), (1, .int x1)]) hx hb dX12_doneAt_81 rfl hl (by decide) rfl (fun ls hl => ?_)
            refine lv_iload hx hb dX12_doneAt_82 (lv_at hl 2 rfl) ?_
            refine lv_iload_n hx hb dX12_doneAt_84 rfl (lv_at hl 5 rfl) ?_
            refine lv_icmp_ne (tgt := 93) hx hb dX12_doneAt_85 (by decide) (fun c40 => ?_) (fun c40 => ?_)
            · have c40i : ¬ w42_4.toInt = x1.toInt := neq_v rfl rfl c40
              refine lv_iload_n hx hb dX12_doneAt_93 rfl (lv_at hl 3 rfl) ?_
              refine lv_istore_n (lv' := [(2, .int w42_2), (3, .int (1 : Int32)), (5, .int r32), (4, .int w42_4), (0, .ref o1), (1, .int x1)]) hx hb dX12_doneAt_94 rfl hl (by decide) rfl (fun ls hl => ?_)
              refine lv_iinc (v := w42_4 + (1 : Int32)) (lv' := [(4, .int (w42_4 + (1 : Int32))), (2, .int w42_2), (3, .int (1 : Int32)), (5, .int r32), (0, .ref o1), (1, .int x1)]) hx hb dX12_doneAt_95 hl (k := 3) rfl (by rfl) (by decide) rfl (fun ls hl => ?_)
              refine lv_goto (tgt := 42) hx hb dX12_doneAt_98 (by decide) ?_
              have l32_1 : (1 : Int32).toInt = 1 := rfl
              have i41 : (w42_4 + (1 : Int32)).toInt = w42_4.toInt + 1 := t_addr (n := 1) rfl (by omega)
              exact ih42 S35 w42_2 (1 : Int32) (w42_4 + (1 : Int32)) _ _ _ (Nat.lt_of_lt_of_le (by omega) (Nat.le_of_lt_succ hm42)) (by omega) t36 hP hD hS (lv_sub hl [0, 2, 1, 4, 5] rfl) (fun S42_y w42_2y w42_3y w42_4y H9 locs9 ls9 i9 sh9 P9 D9 S9 l9 hfe => ko42 S42_y w42_2y w42_3y w42_4y H9 locs9 ls9 i9 sh9 P9 D9 S9 l9 (Eq.trans (by rw [f_X12_doneAt_L42_s, if_neg c26, l1_eq c29.symm, l2_eq c33.symm, if_neg c39, if_neg c40]) hfe))
            · have c40i : w42_4.toInt = x1.toInt := eq_v rfl rfl c40
              refine lv_iload hx hb dX12_doneAt_88 (lv_at hl 1 rfl) ?_
              refine lv_goto (tgt := 94) hx hb dX12_doneAt_90 (by decide) ?_
              refine lv_istore_n (lv' := [(2, .int r32), (3, .int (1 : Int32)), (5, .int r32), (4, .int w42_4), (0, .ref o1), (1, .int x1)]) hx hb dX12_doneAt_94 rfl hl (by decide) rfl (fun ls hl => ?_)
              refine lv_iinc (v := w42_4 + (1 : Int32)) (lv' := [(4, .int (w42_4 + (1 : Int32))), (2, .int r32), (3, .int (1 : Int32)), (5, .int r32), (0, .ref o1), (1, .int x1)]) hx hb dX12_doneAt_95 hl (k := 3) rfl (by rfl) (by decide) rfl (fun ls hl => ?_)
              refine lv_goto (tgt := 42) hx hb dX12_doneAt_98 (by decide) ?_
              have l32_1 : (1 : Int32).toInt = 1 := rfl
              have i42 : (w42_4 + (1 : Int32)).toInt = w42_4.toInt + 1 := t_addr (n := 1) rfl (by omega)
              exact ih42 S35 r32 (1 : Int32) (w42_4 + (1 : Int32)) _ _ _ (Nat.lt_of_lt_of_le (by omega) (Nat.le_of_lt_succ hm42)) (by omega) t36 hP hD hS (lv_sub hl [0, 2, 1, 4, 5] rfl) (fun S42_y w42_2y w42_3y w42_4y H9 locs9 ls9 i9 sh9 P9 D9 S9 l9 hfe => ko42 S42_y w42_2y w42_3y w42_4y H9 locs9 ls9 i9 sh9 P9 D9 S9 l9 (Eq.trans (by rw [f_X12_doneAt_L42_s, if_neg c26, l1_eq c29.symm, l2_eq c33.symm, if_neg c39, if_pos c40]) hfe))
          · have c39i : w42_3.toInt = 0 := eq_v rfl rfl c39
            refine lv_iload hx hb dX12_doneAt_70 (lv_at hl 0 rfl) ?_
            refine lv_iconst (v := -1) hx hb dX12_doneAt_72 (by decide) ?_
            refine lv_icmp_ne (tgt := 80) hx hb dX12_doneAt_73 (by decide) (fun c43 => ?_) (fun c43 => ?_)
            · have c43i : ¬ r32.toInt = -1 := neq_v rfl rfl c43
              refine lv_iconst (v := 0) hx hb dX12_doneAt_80 (by decide) ?_
              refine lv_istore_n (lv' := [(3, .int (0 : Int32)), (5, .int r32), (4, .int w42_4), (2, .int w42_2), (0, .ref o1), (1, .int x1)]) hx hb dX12_doneAt_81 rfl hl (by decide) rfl (fun ls hl => ?_)
              refine lv_iload hx hb dX12_doneAt_82 (lv_at hl 2 rfl) ?_
              refine lv_iload_n hx hb dX12_doneAt_84 rfl (lv_at hl 5 rfl) ?_
              refine lv_icmp_ne (tgt := 93) hx hb dX12_doneAt_85 (by decide) (fun c44 => ?_) (fun c44 => ?_)
              · have c44i : ¬ w42_4.toInt = x1.toInt := neq_v rfl rfl c44
                refine lv_iload_n hx hb dX12_doneAt_93 rfl (lv_at hl 3 rfl) ?_
                refine lv_istore_n (lv' := [(2, .int w42_2), (3, .int (0 : Int32)), (5, .int r32), (4, .int w42_4), (0, .ref o1), (1, .int x1)]) hx hb dX12_doneAt_94 rfl hl (by decide) rfl (fun ls hl => ?_)
                refine lv_iinc (v := w42_4 + (1 : Int32)) (lv' := [(4, .int (w42_4 + (1 : Int32))), (2, .int w42_2), (3, .int (0 : Int32)), (5, .int r32), (0, .ref o1), (1, .int x1)]) hx hb dX12_doneAt_95 hl (k := 3) rfl (by rfl) (by decide) rfl (fun ls hl => ?_)
                refine lv_goto (tgt := 42) hx hb dX12_doneAt_98 (by decide) ?_
                have l32_1 : (1 : Int32).toInt = 1 := rfl
                have i45 : (w42_4 + (1 : Int32)).toInt = w42_4.toInt + 1 := t_addr (n := 1) rfl (by omega)
                exact ih42 S35 w42_2 (0 : Int32) (w42_4 + (1 : Int32)) _ _ _ (Nat.lt_of_lt_of_le (by omega) (Nat.le_of_lt_succ hm42)) (by omega) t36 hP hD hS (lv_sub hl [0, 2, 1, 4, 5] rfl) (fun S42_y w42_2y w42_3y w42_4y H9 locs9 ls9 i9 sh9 P9 D9 S9 l9 hfe => ko42 S42_y w42_2y w42_3y w42_4y H9 locs9 ls9 i9 sh9 P9 D9 S9 l9 (Eq.trans (by rw [f_X12_doneAt_L42_s, if_neg c26, l1_eq c29.symm, l2_eq c33.symm, if_pos c39, if_neg c43, if_neg c44]) hfe))
              · have c44i : w42_4.toInt = x1.toInt := eq_v rfl rfl c44
                refine lv_iload hx hb dX12_doneAt_88 (lv_at hl 1 rfl) ?_
                refine lv_goto (tgt := 94) hx hb dX12_doneAt_90 (by decide) ?_
                refine lv_istore_n (lv' := [(2, .int r32), (3, .int (0 : Int32)), (5, .int r32), (4, .int w42_4), (0, .ref o1), (1, .int x1)]) hx hb dX12_doneAt_94 rfl hl (by decide) rfl (fun ls hl => ?_)
                refine lv_iinc (v := w42_4 + (1 : Int32)) (lv' := [(4, .int (w42_4 + (1 : Int32))), (2, .int r32), (3, .int (0 : Int32)), (5, .int r32), (0, .ref o1), (1, .int x1)]) hx hb dX12_doneAt_95 hl (k := 3) rfl (by rfl) (by decide) rfl (fun ls hl => ?_)
                refine lv_goto (tgt := 42) hx hb dX12_doneAt_98 (by decide) ?_
                have l32_1 : (1 : Int32).toInt = 1 := rfl
                have i46 : (w42_4 + (1 : Int32)).toInt = w42_4.toInt + 1 := t_addr (n := 1) rfl (by omega)
                exact ih42 S35 r32 (0 : Int32) (w42_4 + (1 : Int32)) _ _ _ (Nat.lt_of_lt_of_le (by omega) (Nat.le_of_lt_succ hm42)) (by omega) t36 hP hD hS (lv_sub hl [0, 2, 1, 4, 5] rfl) (fun S42_y w42_2y w42_3y w42_4y H9 locs9 ls9 i9 sh9 P9 D9 S9 l9 hfe => ko42 S42_y w42_2y w42_3y w42_4y H9 locs9 ls9 i9 sh9 P9 D9 S9 l9 (Eq.trans (by rw [f_X12_doneAt_L42_s, if_neg c26, l1_eq c29.symm, l2_eq c33.symm, if_pos c39, if_neg c43, if_pos c44]) hfe))
            · have c43i : r32.toInt = -1 := eq_v rfl rfl c43
              refine lv_iconst (v := 1) hx hb dX12_doneAt_76 (by decide) ?_
              refine lv_goto (tgt := 81) hx hb dX12_doneAt_77 (by decide) ?_
              refine lv_istore_n (lv' := [(3, .int (1 : Int32)), (5, .int r32), (4, .int w42_4), (2, .int w42_2), (0, .ref o1), (1, .int x1)]) hx hb dX12_doneAt_81 rfl hl (by decide) rfl (fun ls hl => ?_)
              refine lv_iload hx hb dX12_doneAt_82 (lv_at hl 2 rfl) ?_
              refine lv_iload_n hx hb dX12_doneAt_84 rfl (lv_at hl 5 rfl) ?_
              refine lv_icmp_ne (tgt := 93) hx hb dX12_doneAt_85 (by decide) (fun c47 => ?_) (fun c47 => ?_)
              · have c47i : ¬ w42_4.toInt = x1.toInt := neq_v rfl rfl c47
                refine lv_iload_n hx hb dX12_doneAt_93 rfl (lv_at hl 3 rfl) ?_
                refine lv_istore_n (lv' := [(2, .int w42_2), (3, .int (1 : Int32)), (5, .int r32), (4, .int w42_4), (0, .ref o1), (1, .int x1)]) hx hb dX12_doneAt_94 rfl hl (by decide) rfl (fun ls hl => ?_)
                refine lv_iinc (v := w42_4 + (1 : Int32)) (lv' := [(4, .int (w42_4 + (1 : Int32))), (2, .int w42_2), (3, .int (1 : Int32)), (5, .int r32), (0, .ref o1), (1, .int x1)]) hx hb dX12_doneAt_95 hl (k := 3) rfl (by rfl) (by decide) rfl (fun ls hl => ?_)
                refine lv_goto (tgt := 42) hx hb dX12_doneAt_98 (by decide) ?_
                have l32_1 : (1 : Int32).toInt = 1 := rfl
                have i48 : (w42_4 + (1 : Int32)).toInt = w42_4.toInt + 1 := t_addr (n := 1) rfl (by omega)
                exact ih42 S35 w42_2 (1 : Int32) (w42_4 + (1 : Int32)) _ _ _ (Nat.lt_of_lt_of_le (by omega) (Nat.le_of_lt_succ hm42)) (by omega) t36 hP hD hS (lv_sub hl [0, 2, 1, 4, 5] rfl) (fun S42_y w42_2y w42_3y w42_4y H9 locs9 ls9 i9 sh9 P9 D9 S9 l9 hfe => ko42 S42_y w42_2y w42_3y w42_4y H9 locs9 ls9 i9 sh9 P9 D9 S9 l9 (Eq.trans (by rw [f_X12_doneAt_L42_s, if_neg c26, l1_eq c29.symm, l2_eq c33.symm, if_pos c39, if_pos c43, if_neg c47]) hfe))
              · have c47i : w42_4.toInt = x1.toInt := eq_v rfl rfl c47
                refine lv_iload hx hb dX12_doneAt_88 (lv_at hl 1 rfl) ?_
                refine lv_goto (tgt := 94) hx hb dX12_doneAt_90 (by decide) ?_
                refine lv_istore_n (lv' := [(2, .int r32), (3, .int (1 : Int32)), (5, .int r32), (4, .int w42_4), (0, .ref o1), (1, .int x1)]) hx hb dX12_doneAt_94 rfl hl (by decide) rfl (fun ls hl => ?_)
                refine lv_iinc (v := w42_4 + (1 : Int32)) (lv' := [(4, .int (w42_4 + (1 : Int32))), (2, .int r32), (3, .int (1 : Int32)), (5, .int r32), (0, .ref o1), (1, .int x1)]) hx hb dX12_doneAt_95 hl (k := 3) rfl (by rfl) (by decide) rfl (fun ls hl => ?_)
                refine lv_goto (tgt := 42) hx hb dX12_doneAt_98 (by decide) ?_
                have l32_1 : (1 : Int32).toInt = 1 := rfl
                have i49 : (w42_4 + (1 : Int32)).toInt = w42_4.toInt + 1 := t_addr (n := 1) rfl (by omega)
                exact ih42 S35 r32 (1 : Int32) (w42_4 + (1 : Int32)) _ _ _ (Nat.lt_of_lt_of_le (by omega) (Nat.le_of_lt_succ hm42)) (by omega) t36 hP hD hS (lv_sub hl [0, 2, 1, 4, 5] rfl) (fun S42_y w42_2y w42_3y w42_4y H9 locs9 ls9 i9 sh9 P9 D9 S9 l9 hfe => ko42 S42_y w42_2y w42_3y w42_4y H9 locs9 ls9 i9 sh9 P9 D9 S9 l9 (Eq.trans (by rw [f_X12_doneAt_L42_s, if_neg c26, l1_eq c29.symm, l2_eq c33.symm, if_pos c39, if_pos c43, if_pos c47]) hfe))
    refine loop42 42 S17 (0 : Int32) (0 : Int32) (0 : Int32) _ _ _ (by omega) (by omega) (stp.rf t19.w) hP hD hS (lv_sub hl [0, 1, 2, 3, 4] rfl) (fun S51 z52 z53 z54 H locs ls hi42 hsh42 hP hD hS hl c50 => ?_)
    have t55 : stp [(12, 15), (36, 100)] [] [] S S51 := t19.tr hsh42 (fun _ q => q) (fun _ q => Or.inl q)
    have et55 := hsh42.x
    refine lv_iload_n hx hb dX12_doneAt_101 rfl (lv_at hl 1 rfl) ?_
    refine lv_if_eq (tgt := 113) hx hb dX12_doneAt_102 (by decide) (fun c56 => ?_) (fun c56 => ?_)
    · have c56i : z53.toInt = 0 := eq_v rfl rfl c56
      refine lv_aload_n hx hb dX12_doneAt_113 rfl (lv_at hl 3 rfl) ?_
      refine lv_iload_n hx hb dX12_doneAt_114 rfl (lv_at hl 2 rfl) ?_
      have hFc := free_all hD hS hA
      obtain ⟨k57, gk57, hk57⟩ := wGt (cy := cy) X S51 ((et19.tr et55).A h_o1).1 ((et19.tr et55).A h_o1).2.1
      refine va_calli (va_runV (As := [.int z52]) (rest := []) ⟨hx, hb, hml, hown, hts⟩ (c_X12_answer l (cy := cy) (X := X) (D := D) S51 _ o1 ((et19.tr et55).A h_o1) z52 (t55.w)) (cwV 1 hts gX12_doneAt_X12_answer rfl rfl rfl hd_X12_answer ⟨Nat.le_of_ble_eq_true rfl, Nat.le_of_ble_eq_true rfl⟩) (pV (va_recv hK hP (q := (RX12, TX12, 34)) (ci := 16) (q0 := k57) rfl hk57) hP hK hD hN) rfl rfl hl.1 rfl (lv_room (Nat.le_of_ble_eq_true rfl)) dX12_doneAt_115 ⟨(Nat.zero_le _), (Nat.zero_le _)⟩) hS (fun q _ h => hFc q h) hFc (fun r58 u t H1 locs ht hvm hw hB hz1 hk1 hS => ?_)
      obtain ⟨c59, w60⟩ := hw
      obtain ⟨hP, hD⟩ := wd_post hFc ht hB
      generalize H1 = H at hP hS ⊢
      obtain ⟨S61, rfl⟩ : ∃ z, z = u := ⟨_, rfl⟩
      have t62 : stp [(12, 15), (36, 100)] [] [] S S61 := t55.tr w60 (by decide) (fun _ q => absurd q List.not_mem_nil)
      have xe63 : ext S51 S61 := w60.x
      have k64 : (S61.I (S.f o1 0) 2).toInt = (S51.I (S.f o1 0) 2).toInt := by rw [(w60.fR (S.f o1 0) ((et19.tr et55).A F1.2.1).1 List.not_mem_nil).1 2 (by rw [((et19.tr et55).A F1.2.1).2.1]; decide) |>.1]
      refine W.widen (k := 0) (n := 0) (Nat.le_of_ble_eq_true rfl) (Nat.le_of_ble_eq_true rfl) ?_
      exact W.iret (v := r58) hx hb hr (fun t ht hW9 => ⟨⟨r58, S61, rfl, ⟨(by show (r58, S61) = f_X12_doneAt S o1 x1; unfold f_X12_doneAt; rw [if_neg c6, l2_eq c16, l4_eq c50, if_pos c56, l2_eq c59.symm]), t62⟩, wd_end hP hK hD ht hW9.alike⟩, hS.F ht⟩) hS.2.2 dX12_doneAt_118 hlocks
    · have c56i : ¬ z53.toInt = 0 := neq_v rfl rfl c56
      refine lv_aload_n hx hb dX12_doneAt_105 rfl (lv_at hl 3 rfl) ?_
      refine lv_iconst (v := 2) hx hb dX12_doneAt_106 (by decide) ?_
      have l32_2 : (2 : Int32).toInt = 2 := rfl
      have hFc := free_all hD hS hA
      obtain ⟨k65, gk65, hk65⟩ := wGt (cy := cy) X S51 ((et19.tr et55).A h_o1).1 ((et19.tr et55).A h_o1).2.1
      refine va_calli (va_runV (As := [.int (2 : Int32)]) (rest := []) ⟨hx, hb, hml, hown, hts⟩ (c_X12_fails l (cy := cy) (X := X) (D := D) S51 _ o1 ((et19.tr et55).A h_o1) (2 : Int32) (t55.w)) (cwV 1 hts gX12_doneAt_X12_fails rfl rfl rfl hd_X12_fails ⟨Nat.le_of_ble_eq_true rfl, Nat.le_of_ble_eq_true rfl⟩) (pV (va_recv hK hP (q := (RX12, TX12, 34)) (ci := 16) (q0 := k65) rfl hk65) hP hK hD hN) rfl rfl hl.1 rfl (lv_room (Nat.le_of_ble_eq_true rfl)) dX12_doneAt_107 ⟨(Nat.zero_le _), (Nat.zero_le _)⟩) hS (fun q _ h => hFc q h) hFc (fun r66 u t H1 locs ht hvm hw hB hz1 hk1 hS => ?_)
      obtain ⟨c67, w68⟩ := hw
      obtain ⟨hP, hD⟩ := wd_post hFc ht hB
      generalize H1 = H at hP hS ⊢
      obtain ⟨S69, rfl⟩ : ∃ z, z = u := ⟨_, rfl⟩
      have t70 : stp [(12, 15), (36, 100)] [] [] S S69 := t55.tr w68 (by decide) (fun _ q => absurd q List.not_mem_nil)
      have xe71 : ext S51 S69 := w68.x
      have k72 : (S69.I (S.f o1 0) 2).toInt = (S51.I (S.f o1 0) 2).toInt := by rw [(w68.fR (S.f o1 0) ((et19.tr et55).A F1.2.1).1 List.not_mem_nil).1 2 (by rw [((et19.tr et55).A F1.2.1).2.1]; decide) |>.1]
      refine lv_goto (tgt := 118) hx hb dX12_doneAt_110 (by decide) ?_
      refine W.widen (k := 0) (n := 0) (Nat.le_of_ble_eq_true rfl) (Nat.le_of_ble_eq_true rfl) ?_
      exact W.iret (v := r66) hx hb hr (fun t ht hW9 => ⟨⟨r66, S69, rfl, ⟨(by show (r66, S69) = f_X12_doneAt S o1 x1; unfold f_X12_doneAt; rw [if_neg c6, l2_eq c16, l4_eq c50, if_neg c56, l2_eq c67.symm]), t70⟩, wd_end hP hK hD ht hW9.alike⟩, hS.F ht⟩) hS.2.2 dX12_doneAt_118 hlocks
  · have c6i : (f_X12_isGear S o1 x1).toInt = 0 := eq_v rfl rfl c6
    refine lv_aload_n hx hb dX12_doneAt_8 rfl (lv_at hl 0 rfl) ?_
    refine lv_iconst (v := 1) hx hb dX12_doneAt_9 (by decide) ?_
    have l32_1 : (1 : Int32).toInt = 1 := rfl
    have hFc := free_all hD hS hA
    obtain ⟨k73, gk73, hk73⟩ := wGt (cy := cy) X S h_o1.1 h_o1.2.1
    refine va_calli (va_runV (As := [.int (1 : Int32)]) (rest := []) ⟨hx, hb, hml, hown, hts⟩ (c_X12_fails l (cy := cy) (X := X) (D := D) S _ o1 h_o1 (1 : Int32) (hW)) (cwV 1 hts gX12_doneAt_X12_fails rfl rfl rfl hd_X12_fails ⟨Nat.le_of_ble_eq_true rfl, Nat.le_of_ble_eq_true rfl⟩) (pV (va_recv hK hP (q := (RX12, TX12, 34)) (ci := 16) (q0 := k73) rfl hk73) hP hK hD hN) rfl rfl hl.1 rfl (lv_room (Nat.le_of_ble_eq_true rfl)) dX12_doneAt_10 ⟨(Nat.zero_le _), (Nat.zero_le _)⟩) hS (fun q _ h => hFc q h) hFc (fun r74 u t H1 locs ht hvm hw hB hz1 hk1 hS => ?_)
    obtain ⟨c75, w76⟩ := hw
    obtain ⟨hP, hD⟩ := wd_post hFc ht hB
    generalize H1 = H at hP hS ⊢
    obtain ⟨S77, rfl⟩ : ∃ z, z = u := ⟨_, rfl⟩
    have t78 : stp [(12, 15), (36, 100)] [] [] S S77 := t0.tr w76 (by decide) (fun _ q => absurd q List.not_mem_nil)
    have xe79 : ext S S77 := w76.x
    have k80 : (S77.I (S.f o1 0) 2).toInt = (S.I (S.f o1 0) 2).toInt := by rw [(w76.fR (S.f o1 0) F1.2.1.1 List.not_mem_nil).1 2 (by rw [F1.2.1.2.1]; decide) |>.1]
    refine W.widen (k := 0) (n := 0) (Nat.le_of_ble_eq_true rfl) (Nat.le_of_ble_eq_true rfl) ?_
    exact W.iret (v := r74) hx hb hr (fun t ht hW9 => ⟨⟨r74, S77, rfl, ⟨(by show (r74, S77) = f_X12_doneAt S o1 x1; unfold f_X12_doneAt; rw [if_pos c6, l2_eq c75.symm]), t78⟩, wd_end hP hK hD ht hW9.alike⟩, hS.F ht⟩) hS.2.2 dX12_doneAt_13 hlocks
theorem hi_X12_isOldBetter_X12 : ∀ w ∈ u_ws RX12 TX12 34, w ∈ wsX12_isOldBetter := by decide +kernel
theorem hd_X12_isOldBetter : yX12_isOldBetter.cls = RX12 ∧ yX12_isOldBetter.cls ≠ "java/lang/invoke/MethodHandle" ∧ yX12_isOldBetter.cls ≠ "java/lang/invoke/VarHandle" ∧ (parseMethodDescriptor yX12_isOldBetter.desc).map (fun d => d.parameters.length) = some 4 := by decide +kernel
set_option maxHeartbeats 4000000 in
set_option maxRecDepth 100000 in
theorem c_X12_isOldBetter (l : Launch) {D : va_G} {cy : Nat → ClassId} {X : va_W} (S : wPS) (sz : Nat) (o1 : Nat) (h_o1 : isA S o1 12) (x1 : Int32) (x2 : Int32) (x3 : Int64) (x4 : Int64)  : Met l yX12_isOldBetter wsX12_isOldBetter ({ frames := 1, cells := 0, slots := 0, locals := 14 }) (va_Pc [.ref o1, .int x1, .int x2, .long x3, .long x4] (fun U => U.heap.size = sz ∧ WD D cy X (fun _ => True) S U ∧ NW U)) (va_Qi (fun r (_ : Unit) => narrow .boolean (.int r) = .int r) (fun _ t => WD D cy X (va_A (X ++ PL cy S) sz) S t) (va_A (X ++ PL cy S) sz)) 0 0 (va_A (X ++ PL cy S) sz) := by
  refine Met.ofW (cc := cX12_isOldBetter) (maxL := 7) (ret := (some .boolean)) (by decide) rfl ?_
  intro p e s m args below meth c s₁ B hml hv
  obtain ⟨rfl, hsz, ⟨hP, hK, hD0⟩, hN⟩ := hv
  have hx := B.exec
  have hb := B.bytes
  have hr := B.returns
  have hts := atoms_spec (ws := wsX12_isOldBetter) B.pre
  have hown : s.vm.findClass RX12 = some m.cls := findClass_of_methodNamed (x := yX12_isOldBetter) B.named
  have hlocks := B.notSynchronized
  subst hsz
  have hD := hD0.self (sz := s.heap.size)
  generalize hAe : va_A (X ++ PL cy S) s.heap.size = A at hD ⊢
  have hA : ∀ q : Nat, s.heap.size ≤ q → A q := fun q h => by rw [← hAe]; exact Or.inr h
  have hS : va_S A s.heap s.heap [] := va_S.rf
  have hl := lv_entry ([.ref o1, .int x1, .int x2, .long x3, .long x4]) (n := 7) (Nat.le_of_ble_eq_true rfl)
  rw [lg_entry_eq]
  generalize (lg_sl ([.ref o1, .int x1, .int x2, .long x3, .long x4]) ++ List.replicate (7 - (lg_sl ([.ref o1, .int x1, .int x2, .long x3, .long x4])).length) Slot.unset).toArray = ls at hl ⊢
  have hl : lv_has ls 7 [(0, .ref o1), (1, .int x1), (2, .int x2), (3, .long x3), (5, .long x4)] := hl
  refine lv_iload_n hx hb dX12_isOldBetter_0 rfl (lv_at hl 2 rfl) ?_
  refine va_mabs hx hb (hml.trans hl.1.symm) hown (hts (.methodLink RX12 215 Lib.Math.abs.name) (by decide +kernel)) (hts (.static Lib.Math.abs.name) (by decide +kernel)) (hts (.initialized "java/lang/Math") (by decide +kernel)) (hts (.code Lib.Math.abs.name Lib.Math.abs.code 1 (some .int)) (by decide +kernel)) (Nat.le_of_ble_eq_true rfl) (Nat.le_of_ble_eq_true rfl) (Nat.zero_le _) (Nat.zero_le _) dX12_isOldBetter_1 ?_
  refine lv_aload_n hx hb dX12_isOldBetter_4 rfl (lv_at hl 0 rfl) ?_
  obtain ⟨k1, gk1, hk1⟩ := wGt (cy := cy) X S h_o1.1 h_o1.2.1
  refine va_get (D := D) (ci := 16) (v := .int (S.I o1 23)) (C := RX12) (T := TX12) (N := 34) hx hb hts hi_X12_isOldBetter_X12 hown hK hP k1 hk1 rfl 23 (by decide) (hts (.fieldLink RX12 497 "HobhouseModel" "oldShift" "I") (by decide +kernel)) (fun _ h9 => h9) rfl dX12_isOldBetter_5 ?_
  refine va_mabs hx hb (hml.trans hl.1.symm) hown (hts (.methodLink RX12 215 Lib.Math.abs.name) (by decide +kernel)) (hts (.static Lib.Math.abs.name) (by decide +kernel)) (hts (.initialized "java/lang/Math") (by decide +kernel)) (hts (.code Lib.Math.abs.name Lib.Math.abs.code 1 (some .int)) (by decide +kernel)) (Nat.le_of_ble_eq_true rfl) (Nat.le_of_ble_eq_true rfl) (Nat.zero_le _) (Nat.zero_le _) dX12_isOldBetter_8 ?_
  refine lv_icmp_eq (tgt := 34) hx hb dX12_isOldBetter_11 (by decide) (fun c2 => ?_) (fun c2 => ?_)
  · have c2i : (if 0 ≤ x2 then x2 else 0 - x2).toInt = (if 0 ≤ (S.I o1 23) then (S.I o1 23) else 0 - (S.I o1 23)).toInt := eq_v rfl rfl c2
    refine lv_lload_n hx hb dX12_isOldBetter_34 rfl (lv_at hl 3 rfl) ?_
    refine lv_lload hx hb dX12_isOldBetter_35 (lv_at hl 4 rfl) ?_
    refine W.lcmp hx hb dX12_isOldBetter_37 ?_
    refine lv_if_eq (tgt := 54) hx hb dX12_isOldBetter_38 (by decide) (fun c3 => ?_) (fun c3 => ?_)
    · refine lv_iload_n hx hb dX12_isOldBetter_54 rfl (lv_at hl 1 rfl) ?_
      refine lv_aload_n hx hb dX12_isOldBetter_55 rfl (lv_at hl 0 rfl) ?_
      obtain ⟨k4, gk4, hk4⟩ := wGt (cy := cy) X S h_o1.1 h_o1.2.1
      refine va_get (D := D) (ci := 16) (v := .int (S.I o1 22)) (C := RX12) (T := TX12) (N := 34) hx hb hts hi_X12_isOldBetter_X12 hown hK hP k4 hk4 rfl 22 (by decide) (hts (.fieldLink RX12 500 "HobhouseModel" "oldModule" "I") (by decide +kernel)) (fun _ h9 => h9) rfl dX12_isOldBetter_56 ?_
      refine lv_icmp_eq (tgt := 78) hx hb dX12_isOldBetter_59 (by decide) (fun c5 => ?_) (fun c5 => ?_)
      · have c5i : x1.toInt = (S.I o1 22).toInt := eq_v rfl rfl c5
        refine lv_iload_n hx hb dX12_isOldBetter_78 rfl (lv_at hl 2 rfl) ?_
        refine lv_aload_n hx hb dX12_isOldBetter_79 rfl (lv_at hl 0 rfl) ?_
        obtain ⟨k6, gk6, hk6⟩ := wGt (cy := cy) X S h_o1.1 h_o1.2.1
        refine va_get (D := D) (ci := 16) (v := .int (S.I o1 23)) (C := RX12) (T := TX12) (N := 34) hx hb hts hi_X12_isOldBetter_X12 hown hK hP k6 hk6 rfl 23 (by decide) (hts (.fieldLink RX12 497 "HobhouseModel" "oldShift" "I") (by decide +kernel)) (fun _ h9 => h9) rfl dX12_isOldBetter_80 ?_
        refine lv_icmp_le (tgt := 90) hx hb dX12_isOldBetter_83 (by decide) (fun c7 => ?_) (fun c7 => ?_)
        · have c7i : x2.toInt ≤ (S.I o1 23).toInt := le_v rfl rfl c7
          refine lv_iconst (v := 0) hx hb dX12_isOldBetter_90 (by decide) ?_
          refine W.widen (k := 0) (n := 0) (Nat.le_of_ble_eq_true rfl) (Nat.le_of_ble_eq_true rfl) ?_
          exact W.zret (v := (0 : Int32)) hx hb hr (by rfl) (fun t ht hW9 => ⟨⟨(0 : Int32), (), rfl, (by rfl), wd_end hP hK hD ht hW9.alike⟩, hS.F ht⟩) hS.2.2 dX12_isOldBetter_91 hlocks
        · have c7i : (S.I o1 23).toInt < x2.toInt := nle_v rfl rfl c7
          refine lv_iconst (v := 1) hx hb dX12_isOldBetter_86 (by decide) ?_
          refine lv_goto (tgt := 91) hx hb dX12_isOldBetter_87 (by decide) ?_
          refine W.widen (k := 0) (n := 0) (Nat.le_of_ble_eq_true rfl) (Nat.le_of_ble_eq_true rfl) ?_
          exact W.zret (v := (1 : Int32)) hx hb hr (by rfl) (fun t ht hW9 => ⟨⟨(1 : Int32), (), rfl, (by rfl), wd_end hP hK hD ht hW9.alike⟩, hS.F ht⟩) hS.2.2 dX12_isOldBetter_91 hlocks
      · have c5i : ¬ x1.toInt = (S.I o1 22).toInt := neq_v rfl rfl c5
        refine lv_iload_n hx hb dX12_isOldBetter_62 rfl (lv_at hl 1 rfl) ?_
        refine lv_aload_n hx hb dX12_isOldBetter_63 rfl (lv_at hl 0 rfl) ?_
        obtain ⟨k8, gk8, hk8⟩ := wGt (cy := cy) X S h_o1.1 h_o1.2.1
        refine va_get (D := D) (ci := 16) (v := .int (S.I o1 22)) (C := RX12) (T := TX12) (N := 34) hx hb hts hi_X12_isOldBetter_X12 hown hK hP k8 hk8 rfl 22 (by decide) (hts (.fieldLink RX12 500 "HobhouseModel" "oldModule" "I") (by decide +kernel)) (fun _ h9 => h9) rfl dX12_isOldBetter_64 ?_
        refine lv_icmp_ge (tgt := 74) hx hb dX12_isOldBetter_67 (by decide) (fun c9 => ?_) (fun c9 => ?_)
        · have c9i : (S.I o1 22).toInt ≤ x1.toInt := le_v rfl rfl c9
          refine lv_iconst (v := 0) hx hb dX12_isOldBetter_74 (by decide) ?_
          refine lv_goto (tgt := 91) hx hb dX12_isOldBetter_75 (by decide) ?_
          refine W.widen (k := 0) (n := 0) (Nat.le_of_ble_eq_true rfl) (Nat.le_of_ble_eq_true rfl) ?_
          exact W.zret (v := (0 : Int32)) hx hb hr (by rfl) (fun t ht hW9 => ⟨⟨(0 : Int32), (), rfl, (by rfl), wd_end hP hK hD ht hW9.alike⟩, hS.F ht⟩) hS.2.2 dX12_isOldBetter_91 hlocks
        · have c9i : x1.toInt < (S.I o1 22).toInt := nle_v rfl rfl c9
          refine lv_iconst (v := 1) hx hb dX12_isOldBetter_70 (by decide) ?_
          refine lv_goto (tgt := 91) hx hb dX12_isOldBetter_71 (by decide) ?_
          refine W.widen (k := 0) (n := 0) (Nat.le_of_ble_eq_true rfl) (Nat.le_of_ble_eq_true rfl) ?_
          exact W.zret (v := (1 : Int32)) hx hb hr (by rfl) (fun t ht hW9 => ⟨⟨(1 : Int32), (), rfl, (by rfl), wd_end hP hK hD ht hW9.alike⟩, hS.F ht⟩) hS.2.2 dX12_isOldBetter_91 hlocks
    · refine lv_lload_n hx hb dX12_isOldBetter_41 rfl (lv_at hl 3 rfl) ?_
      refine lv_lload hx hb dX12_isOldBetter_42 (lv_at hl 4 rfl) ?_
      refine W.lcmp hx hb dX12_isOldBetter_44 ?_
      refine lv_if_ge (tgt := 52) hx hb dX12_isOldBetter_45 (by decide) (fun c10 => ?_) (fun c10 => ?_)
      · have c10i := lc_ge c10
        refine lv_iconst (v := 0) hx hb dX12_isOldBetter_52 (by decide) ?_
        refine W.widen (k := 0) (n := 0) (Nat.le_of_ble_eq_true rfl) (Nat.le_of_ble_eq_true rfl) ?_
        exact W.zret (v := (0 : Int32)) hx hb hr (by rfl) (fun t ht hW9 => ⟨⟨(0 : Int32), (), rfl, (by rfl), wd_end hP hK hD ht hW9.alike⟩, hS.F ht⟩) hS.2.2 dX12_isOldBetter_53 hlocks
      · have c10i := lc_nge c10
        refine lv_iconst (v := 1) hx hb dX12_isOldBetter_48 (by decide) ?_
        refine lv_goto (tgt := 53) hx hb dX12_isOldBetter_49 (by decide) ?_
        refine W.widen (k := 0) (n := 0) (Nat.le_of_ble_eq_true rfl) (Nat.le_of_ble_eq_true rfl) ?_
        exact W.zret (v := (1 : Int32)) hx hb hr (by rfl) (fun t ht hW9 => ⟨⟨(1 : Int32), (), rfl, (by rfl), wd_end hP hK hD ht hW9.alike⟩, hS.F ht⟩) hS.2.2 dX12_isOldBetter_53 hlocks
  · have c2i : ¬ (if 0 ≤ x2 then x2 else 0 - x2).toInt = (if 0 ≤ (S.I o1 23) then (S.I o1 23) else 0 - (S.I o1 23)).toInt := neq_v rfl rfl c2
    refine lv_iload_n hx hb dX12_isOldBetter_14 rfl (lv_at hl 2 rfl) ?_
    refine va_mabs hx hb (hml.trans hl.1.symm) hown (hts (.methodLink RX12 215 Lib.Math.abs.name) (by decide +kernel)) (hts (.static Lib.Math.abs.name) (by decide +kernel)) (hts (.initialized "java/lang/Math") (by decide +kernel)) (hts (.code Lib.Math.abs.name Lib.Math.abs.code 1 (some .int)) (by decide +kernel)) (Nat.le_of_ble_eq_true rfl) (Nat.le_of_ble_eq_true rfl) (Nat.zero_le _) (Nat.zero_le _) dX12_isOldBetter_15 ?_
    refine lv_aload_n hx hb dX12_isOldBetter_18 rfl (lv_at hl 0 rfl) ?_
    obtain ⟨k11, gk11, hk11⟩ := wGt (cy := cy) X S h_o1.1 h_o1.2.1
    refine va_get (D := D) (ci := 16) (v := .int (S.I o1 23)) (C := RX12) (T := TX12) (N := 34) hx hb hts hi_X12_isOldBetter_X12 hown hK hP k11 hk11 rfl 23 (by decide) (hts (.fieldLink RX12 497 "HobhouseModel" "oldShift" "I") (by decide +kernel)) (fun _ h9 => h9) rfl dX12_isOldBetter_19 ?_
    refine va_mabs hx hb (hml.trans hl.1.symm) hown (hts (.methodLink RX12 215 Lib.Math.abs.name) (by decide +kernel)) (hts (.static Lib.Math.abs.name) (by decide +kernel)) (hts (.initialized "java/lang/Math") (by decide +kernel)) (hts (.code Lib.Math.abs.name Lib.Math.abs.code 1 (some .int)) (by decide +kernel)) (Nat.le_of_ble_eq_true rfl) (Nat.le_of_ble_eq_true rfl) (Nat.zero_le _) (Nat.zero_le _) dX12_isOldBetter_22 ?_
    refine lv_icmp_ge (tgt := 32) hx hb dX12_isOldBetter_25 (by decide) (fun c12 => ?_) (fun c12 => ?_)
    · have c12i : (if 0 ≤ (S.I o1 23) then (S.I o1 23) else 0 - (S.I o1 23)).toInt ≤ (if 0 ≤ x2 then x2 else 0 - x2).toInt := le_v rfl rfl c12
      refine lv_iconst (v := 0) hx hb dX12_isOldBetter_32 (by decide) ?_
      refine W.widen (k := 0) (n := 0) (Nat.le_of_ble_eq_true rfl) (Nat.le_of_ble_eq_true rfl) ?_
      exact W.zret (v := (0 : Int32)) hx hb hr (by rfl) (fun t ht hW9 => ⟨⟨(0 : Int32), (), rfl, (by rfl), wd_end hP hK hD ht hW9.alike⟩, hS.F ht⟩) hS.2.2 dX12_isOldBetter_33 hlocks
    · have c12i : (if 0 ≤ x2 then x2 else 0 - x2).toInt < (if 0 ≤ (S.I o1 23) then (S.I o1 23) else 0 - (S.I o1 23)).toInt := nle_v rfl rfl c12
      refine lv_iconst (v := 1) hx hb dX12_isOldBetter_28 (by decide) ?_
      refine lv_goto (tgt := 33) hx hb dX12_isOldBetter_29 (by decide) ?_
      refine W.widen (k := 0) (n := 0) (Nat.le_of_ble_eq_true rfl) (Nat.le_of_ble_eq_true rfl) ?_
      exact W.zret (v := (1 : Int32)) hx hb hr (by rfl) (fun t ht hW9 => ⟨⟨(1 : Int32), (), rfl, (by rfl), wd_end hP hK hD ht hW9.alike⟩, hS.F ht⟩) hS.2.2 dX12_isOldBetter_33 hlocks
theorem hi_X12_isMeant_X12 : ∀ w ∈ u_ws RX12 TX12 34, w ∈ wsX12_isMeant := by decide +kernel
theorem hd_X12_isMeant : yX12_isMeant.cls = RX12 ∧ yX12_isMeant.cls ≠ "java/lang/invoke/MethodHandle" ∧ yX12_isMeant.cls ≠ "java/lang/invoke/VarHandle" ∧ (parseMethodDescriptor yX12_isMeant.desc).map (fun d => d.parameters.length) = some 3 := by decide +kernel
set_option maxHeartbeats 4000000 in
set_option maxRecDepth 100000 in
theorem c_X12_isMeant (l : Launch) {D : va_G} {cy : Nat → ClassId} {X : va_W} (S : wPS) (sz : Nat) (o1 : Nat) (h_o1 : isA S o1 12) (x1 : Int32) (x2 : Int32) (x3 : Int32) (hW : wtB S [])  : Met l yX12_isMeant wsX12_isMeant ({ frames := 2, cells := 0, slots := 0, locals := 40 }) (va_Pc [.ref o1, .int x1, .int x2, .int x3] (fun U => U.heap.size = sz ∧ WD D cy X (fun _ => True) S U ∧ NW U)) (va_Qi (fun r (u : wPS) => stp [(12, 22), (12, 23)] [] [] S u ∧ narrow .boolean (.int r) = .int r) (fun u t => WD D cy X (va_A (X ++ PL cy S) sz) u t) (va_A (X ++ PL cy S) sz)) 0 0 (va_A (X ++ PL cy S) sz) := by
  refine Met.ofW (cc := cX12_isMeant) (maxL := 10) (ret := (some .boolean)) (by decide) rfl ?_
  intro p e s m args below meth c s₁ B hml hv
  obtain ⟨rfl, hsz, ⟨hP, hK, hD0⟩, hN⟩ := hv
  have hx := B.exec
  have hb := B.bytes
  have hr := B.returns
  have hts := atoms_spec (ws := wsX12_isMeant) B.pre
  have hown : s.vm.findClass RX12 = some m.cls := findClass_of_methodNamed (x := yX12_isMeant) B.named
  have hlocks := B.notSynchronized
  subst hsz
  have hD := hD0.self (sz := s.heap.size)
  generalize hAe : va_A (X ++ PL cy S) s.heap.size = A at hD ⊢
  have hA : ∀ q : Nat, s.heap.size ≤ q → A q := fun q h => by rw [← hAe]; exact Or.inr h
  have hS : va_S A s.heap s.heap [] := va_S.rf
  have hl := lv_entry ([.ref o1, .int x1, .int x2, .int x3]) (n := 10) (Nat.le_of_ble_eq_true rfl)
  rw [lg_entry_eq]
  generalize (lg_sl ([.ref o1, .int x1, .int x2, .int x3]) ++ List.replicate (10 - (lg_sl ([.ref o1, .int x1, .int x2, .int x3])).length) Slot.unset).toArray = ls at hl ⊢
  have hl : lv_has ls 10 [(0, .ref o1), (1, .int x1), (2, .int x2), (3, .int x3)] := hl
  have t0 : stp [(12, 22), (12, 23)] [] [] S S := stp.rf hW
  have lm : (-50 : Int32).toInt = -50 := rfl
  refine lv_ldc2 (own := RX12) (v := -1) hx hb hown (hts (.constantLong RX12 335 (-1)) (by decide +kernel)) dX12_isMeant_0 ?_
  refine lv_lstore (lv' := [(4, .long (-1 : Int64)), (0, .ref o1), (1, .int x1), (2, .int x2), (3, .int x3)]) hx hb dX12_isMeant_3 hl (by decide) rfl (fun ls hl => ?_)
  refine lv_sipush (v := 500) hx hb dX12_isMeant_5 (by decide +kernel) ?_
  refine lv_istore (lv' := [(6, .int (500 : Int32)), (4, .long (-1 : Int64)), (0, .ref o1), (1, .int x1), (2, .int x2), (3, .int x3)]) hx hb dX12_isMeant_8 hl (by decide) rfl (fun ls hl => ?_)
  have l32_500 : (500 : Int32).toInt = 500 := rfl
  have loop10 : ∀ (n : Nat) (S10_ : wPS) (w10_4 : Int64) (w10_6 : Int32) (H : Heap) (locs : List Loc) (ls : Array Slot), (10251 - w10_6.toInt).toNat < n → 500 ≤ w10_6.toInt ∧ w10_6.toInt ≤ 10250 → stp [(12, 22), (12, 23)] [] [] S S10_ → va_P D vwCl (X ++ PL cy S10_) H → va_D A (X ++ PL cy S10_) → va_S A s.heap H locs → lv_has ls 10 [(6, .int w10_6), (4, .long w10_4), (0, .ref o1), (1, .int x1), (2, .int x2), (3, .int x3)] → (∀ (S10_x : wPS) (w10_4x : Int64) (w10_6x : Int32) (H : Heap) (locs : List Loc) (ls : Array Slot), 500 ≤ w10_6x.toInt ∧ w10_6x.toInt ≤ 10250 → stp [(12, 22), (12, 23)] [] [] S S10_x → va_P D vwCl (X ++ PL cy S10_x) H → va_D A (X ++ PL cy S10_x) → va_S A s.heap H locs → lv_has ls 10 [(6, .int w10_6x), (4, .long w10_4x), (0, .ref o1), (1, .int x1), (2, .int x2), (3, .int x3)] → W p l e (headSpec wsX12_isMeant ({ frames := 2, cells := 0, slots := 0, locals := 40 } : Room)).room s m [.ref o1, .int x1, .int x2, .int x3].toArray below meth c H locs 0 0 (MQ below (va_Qi (fun r (u : wPS) => stp [(12, 22), (12, 23)] [] [] S u ∧ narrow .boolean (.int r) = .int r) (fun u t => WD D cy X A u t) A) [.ref o1, .int x1, .int x2, .int x3].toArray s 0 0 A) (F0 m 136 ls [])) → W p l e (headSpec wsX12_isMeant ({ frames := 2, cells := 0, slots := 0, locals := 40 } : Room)).room s m [.ref o1, .int x1, .int x2, .int x3].toArray below meth c H locs 0 0 (MQ below (va_Qi (fun r (u : wPS) => stp [(12, 22), (12, 23)] [] [] S u ∧ narrow .boolean (.int r) = .int r) (fun u t => WD D cy X A u t) A) [.ref o1, .int x1, .int x2, .int x3].toArray s 0 0 A) (F0 m 10 ls []) := by
    intro n10
    induction n10 with
    | zero => intro S10_ w10_4 w10_6 H locs ls hm; exact absurd hm (Nat.not_lt_zero _)
    | succ n10 ih10 =>
      intro S10_ w10_4 w10_6 H locs ls hm10 hi10 hsh10 hP hD hS hl ko10
      refine lv_iload hx hb dX12_isMeant_10 (lv_at hl 0 rfl) ?_
      refine lv_sipush (v := 10000) hx hb dX12_isMeant_12 (by decide +kernel) ?_
      refine lv_icmp_gt (tgt := 136) hx hb dX12_isMeant_15 (by decide) (fun c1 => ?_) (fun c1 => ?_)
      · have c1i : 10000 < w10_6.toInt := lt_v rfl rfl c1
        exact ko10 S10_ w10_4 w10_6 _ _ _ (by omega) hsh10 hP hD hS (lv_sub hl [0, 1, 2, 3, 4, 5] rfl)
      · have c1i : w10_6.toInt ≤ 10000 := nlt_v rfl rfl c1
        refine lv_bipush (v := -50) hx hb dX12_isMeant_18 (by decide +kernel) ?_
        refine lv_istore (lv' := [(7, .int (-50 : Int32)), (6, .int w10_6), (4, .long w10_4), (0, .ref o1), (1, .int x1), (2, .int x2), (3, .int x3)]) hx hb dX12_isMeant_20 hl (by decide) rfl (fun ls hl => ?_)
        have loop22 : ∀ (n : Nat) (S22_ : wPS) (w22_4 : Int64) (w22_7 : Int32) (H : Heap) (locs : List Loc) (ls : Array Slot), (52 - w22_7.toInt).toNat < n → -50 ≤ w22_7.toInt ∧ w22_7.toInt ≤ 51 → stp [(12, 22), (12, 23)] [] [] S10_ S22_ → va_P D vwCl (X ++ PL cy S22_) H → va_D A (X ++ PL cy S22_) → va_S A s.heap H locs → lv_has ls 10 [(7, .int w22_7), (6, .int w10_6), (4, .long w22_4), (0, .ref o1), (1, .int x1), (2, .int x2), (3, .int x3)] → (∀ (S22_x : wPS) (w22_4x : Int64) (w22_7x : Int32) (H : Heap) (locs : List Loc) (ls : Array Slot), -50 ≤ w22_7x.toInt ∧ w22_7x.toInt ≤ 51 → stp [(12, 22), (12, 23)] [] [] S10_ S22_x → va_P D vwCl (X ++ PL cy S22_x) H → va_D A (X ++ PL cy S22_x) → va_S A s.heap H locs → lv_has ls 10 [(7, .int w22_7x), (6, .int w10_6), (4, .long w22_4x), (0, .ref o1), (1, .int x1), (2, .int x2), (3, .int x3)] → W p l e (headSpec wsX12_isMeant ({ frames := 2, cells := 0, slots := 0, locals := 40 } : Room)).room s m [.ref o1, .int x1, .int x2, .int x3].toArray below meth c H locs 0 0 (MQ below (va_Qi (fun r (u : wPS) => stp [(12, 22), (12, 23)] [] [] S u ∧ narrow .boolean (.int r) = .int r) (fun u t => WD D cy X A u t) A) [.ref o1, .int x1, .int x2, .int x3].toArray s 0 0 A) (F0 m 127 ls [])) → W p l e (headSpec wsX12_isMeant ({ frames := 2, cells := 0, slots := 0, locals := 40 } : Room)).room s m [.ref o1, .int x1, .int x2, .int x3].toArray below meth c H locs 0 0 (MQ below (va_Qi (fun r (u : wPS) => stp [(12, 22), (12, 23)] [] [] S u ∧ narrow .boolean (.int r) = .int r) (fun u t => WD D cy X A u t) A) [.ref o1, .int x1, .int x2, .int x3].toArray s 0 0 A) (F0 m 22 ls []) := by
          intro n22
          induction n22 with
          | zero => intro S22_ w22_4 w22_7 H locs ls hm; exact absurd hm (Nat.not_lt_zero _)
          | succ n22 ih22 =>
            intro S22_ w22_4 w22_7 H locs ls hm22 hi22 hsh22 hP hD hS hl ko22
            refine lv_iload hx hb dX12_isMeant_22 (lv_at hl 0 rfl) ?_
            refine lv_bipush (v := 50) hx hb dX12_isMeant_24 (by decide +kernel) ?_
            refine lv_icmp_gt (tgt := 127) hx hb dX12_isMeant_26 (by decide) (fun c2 => ?_) (fun c2 => ?_)
            · have c2i : 50 < w22_7.toInt := lt_v rfl rfl c2
              exact ko22 S22_ w22_4 w22_7 _ _ _ (by omega) hsh22 hP hD hS (lv_sub hl [0, 1, 2, 3, 4, 5, 6] rfl)
            · have c2i : w22_7.toInt ≤ 50 := nlt_v rfl rfl c2
              refine lv_iload_n hx hb dX12_isMeant_29 rfl (lv_at hl 4 rfl) ?_
              refine lv_i2l hx hb dX12_isMeant_30 rfl ?_
              refine lv_iload hx hb dX12_isMeant_31 (lv_at hl 1 rfl) ?_
              refine lv_i2l hx hb dX12_isMeant_33 rfl ?_
              refine lv_lmul hx hb dX12_isMeant_34 ?_
              refine lv_ldc2 (own := RX12) (v := 2) hx hb hown (hts (.constantLong RX12 3 (2)) (by decide +kernel)) dX12_isMeant_35 ?_
              refine lv_iload hx hb dX12_isMeant_38 (lv_at hl 1 rfl) ?_
              refine lv_i2l hx hb dX12_isMeant_40 rfl ?_
              refine lv_lmul hx hb dX12_isMeant_41 ?_
              refine lv_ladd hx hb dX12_isMeant_42 ?_
              refine lv_ldc2 (own := RX12) (v := 2) hx hb hown (hts (.constantLong RX12 3 (2)) (by decide +kernel)) dX12_isMeant_43 ?_
              refine lv_iload hx hb dX12_isMeant_46 (lv_at hl 0 rfl) ?_
              refine lv_i2l hx hb dX12_isMeant_48 rfl ?_
              refine lv_lmul hx hb dX12_isMeant_49 ?_
              refine lv_iload hx hb dX12_isMeant_50 (lv_at hl 1 rfl) ?_
              refine lv_i2l hx hb dX12_isMeant_52 rfl ?_
              refine lv_lmul hx hb dX12_isMeant_53 ?_
              refine lv_ldc2 (own := RX12) (v := 100) hx hb hown (hts (.constantLong RX12 158 (100)) (by decide +kernel)) dX12_isMeant_54 ?_
              refine lv_ldiv hx hb dX12_isMeant_57 (by decide) ?_
              refine lv_ladd hx hb dX12_isMeant_58 ?_
              refine lv_lstore (lv' := [(8, .long (((x1.toInt64 * w10_6.toInt64) + ((2 : Int64) * w10_6.toInt64)) + ((((2 : Int64) * w22_7.toInt64) * w10_6.toInt64) / (100 : Int64)))), (7, .int w22_7), (6, .int w10_6), (4, .long w22_4), (0, .ref o1), (1, .int x1), (2, .int x2), (3, .int x3)]) hx hb dX12_isMeant_59 hl (by decide) rfl (fun ls hl => ?_)
              refine lv_lload hx hb dX12_isMeant_61 (lv_at hl 0 rfl) ?_
              refine lv_iload_n hx hb dX12_isMeant_63 rfl (lv_at hl 6 rfl) ?_
              refine lv_i2l hx hb dX12_isMeant_64 rfl ?_
              refine W.lcmp hx hb dX12_isMeant_65 ?_
              refine lv_if_lt (tgt := 121) hx hb dX12_isMeant_66 (by decide) (fun c3 => ?_) (fun c3 => ?_)
              · refine lv_iinc (v := w22_7 + (1 : Int32)) (lv' := [(7, .int (w22_7 + (1 : Int32))), (8, .long (((x1.toInt64 * w10_6.toInt64) + ((2 : Int64) * w10_6.toInt64)) + ((((2 : Int64) * w22_7.toInt64) * w10_6.toInt64) / (100 : Int64)))), (6, .int w10_6), (4, .long w22_4), (0, .ref o1), (1, .int x1), (2, .int x2), (3, .int x3)]) hx hb dX12_isMeant_121 hl (k := 1) rfl (by rfl) (by decide) rfl (fun ls hl => ?_)
                refine lv_goto (tgt := 22) hx hb dX12_isMeant_124 (by decide) ?_
                have l32_1 : (1 : Int32).toInt = 1 := rfl
                have i4 : (w22_7 + (1 : Int32)).toInt = w22_7.toInt + 1 := t_addr (n := 1) rfl (by omega)
                exact ih22 S22_ w22_4 (w22_7 + (1 : Int32)) _ _ _ (Nat.lt_of_lt_of_le (by omega) (Nat.le_of_lt_succ hm22)) (by omega) hsh22 hP hD hS (lv_sub hl [0, 2, 3, 4, 5, 6, 7] rfl) ko22
              · refine lv_lload hx hb dX12_isMeant_69 (lv_at hl 0 rfl) ?_
                refine lv_iload_n hx hb dX12_isMeant_71 rfl (lv_at hl 6 rfl) ?_
                refine lv_i2l hx hb dX12_isMeant_72 rfl ?_
                refine lv_iload_n hx hb dX12_isMeant_73 rfl (lv_at hl 7 rfl) ?_
                refine lv_i2l hx hb dX12_isMeant_74 rfl ?_
                refine lv_ladd hx hb dX12_isMeant_75 ?_
                refine W.lcmp hx hb dX12_isMeant_76 ?_
                refine lv_if_gt (tgt := 121) hx hb dX12_isMeant_77 (by decide) (fun c5 => ?_) (fun c5 => ?_)
                · refine lv_iinc (v := w22_7 + (1 : Int32)) (lv' := [(7, .int (w22_7 + (1 : Int32))), (8, .long (((x1.toInt64 * w10_6.toInt64) + ((2 : Int64) * w10_6.toInt64)) + ((((2 : Int64) * w22_7.toInt64) * w10_6.toInt64) / (100 : Int64)))), (6, .int w10_6), (4, .long w22_4), (0, .ref o1), (1, .int x1), (2, .int x2), (3, .int x3)]) hx hb dX12_isMeant_121 hl (k := 1) rfl (by rfl) (by decide) rfl (fun ls hl => ?_)
                  refine lv_goto (tgt := 22) hx hb dX12_isMeant_124 (by decide) ?_
                  have l32_1 : (1 : Int32).toInt = 1 := rfl
                  have i6 : (w22_7 + (1 : Int32)).toInt = w22_7.toInt + 1 := t_addr (n := 1) rfl (by omega)
                  exact ih22 S22_ w22_4 (w22_7 + (1 : Int32)) _ _ _ (Nat.lt_of_lt_of_le (by omega) (Nat.le_of_lt_succ hm22)) (by omega) hsh22 hP hD hS (lv_sub hl [0, 2, 3, 4, 5, 6, 7] rfl) ko22
                · refine lv_lload hx hb dX12_isMeant_80 (lv_at hl 3 rfl) ?_
                  refine lv_lconst (v := 0) hx hb dX12_isMeant_82 (by decide) ?_
                  refine W.lcmp hx hb dX12_isMeant_83 ?_
                  refine lv_if_lt (tgt := 105) hx hb dX12_isMeant_84 (by decide) (fun c7 => ?_) (fun c7 => ?_)
                  · have c7i := lc_lt c7
                    refine lv_lload hx hb dX12_isMeant_105 (lv_at hl 0 rfl) ?_
                    refine lv_lstore (lv' := [(4, .long (((x1.toInt64 * w10_6.toInt64) + ((2 : Int64) * w10_6.toInt64)) + ((((2 : Int64) * w22_7.toInt64) * w10_6.toInt64) / (100 : Int64)))), (8, .long (((x1.toInt64 * w10_6.toInt64) + ((2 : Int64) * w10_6.toInt64)) + ((((2 : Int64) * w22_7.toInt64) * w10_6.toInt64) / (100 : Int64)))), (7, .int w22_7), (6, .int w10_6), (0, .ref o1), (1, .int x1), (2, .int x2), (3, .int x3)]) hx hb dX12_isMeant_107 hl (by decide) rfl (fun ls hl => ?_)
                    refine lv_aload_n hx hb dX12_isMeant_109 rfl (lv_at hl 4 rfl) ?_
                    refine lv_iload hx hb dX12_isMeant_110 (lv_at hl 3 rfl) ?_
                    obtain ⟨k8, gk8, hk8⟩ := wGt (cy := cy) X S22_ ((hsh10.x.tr hsh22.x).A h_o1).1 ((hsh10.x.tr hsh22.x).A h_o1).2.1
                    refine va_put (D := D) (ci := 16) (v := .int w10_6) (ty := .int) (C := RX12) (T := TX12) (N := 34) hx hb hts hi_X12_isMeant_X12 tyX12 tyX12_ok nmX12 hown hK hP hD hS k8 hk8 rfl 22 (by decide) (hts (.fieldLink RX12 500 "HobhouseModel" "oldModule" "I") (by decide +kernel)) (fun _ h9 => h9) rfl (by decide +kernel) (rfl) (rfl) (Nat.le_of_ble_eq_true rfl) dX12_isMeant_112 (fun H locs hP2 hD2 hS => ?_)
                    have e9 := wPuI (cy := cy) (j := 22) (v := w10_6) hD ((hsh10.x.tr hsh22.x).A h_o1).1 ((hsh10.x.tr hsh22.x).A h_o1).2.1 gk8 rfl
                    obtain ⟨S9, hS9⟩ : ∃ z, S22_.sI o1 22 w10_6 = z := ⟨_, rfl⟩
                    have hP : va_P D vwCl (X ++ PL cy S9) H := by rw [← hS9, ← e9]; exact hP2
                    have hD : va_D A (X ++ PL cy S9) := by rw [← hS9, ← e9]; exact hD2
                    have xe10 : ext S22_ S9 := by rw [← hS9]; exact ext.sI _ _ _ _
                    have t11 : stp [(12, 22), (12, 23)] [] [] S10_ S9 := by rw [← hS9]; exact hsh22.I 22 w10_6 ((hsh10.x.tr hsh22.x).A h_o1) (by decide) (trivial) (Or.inl (by decide))
                    refine lv_aload_n hx hb dX12_isMeant_115 rfl (lv_at hl 4 rfl) ?_
                    refine lv_iload hx hb dX12_isMeant_116 (lv_at hl 2 rfl) ?_
                    obtain ⟨k12, gk12, hk12⟩ := wGt (cy := cy) X S9 (xe10.A ((hsh10.x.tr hsh22.x).A h_o1)).1 (xe10.A ((hsh10.x.tr hsh22.x).A h_o1)).2.1
                    refine va_put (D := D) (ci := 16) (v := .int w22_7) (ty := .int) (C := RX12) (T := TX12) (N := 34) hx hb hts hi_X12_isMeant_X12 tyX12 tyX12_ok nmX12 hown hK hP hD hS k12 hk12 rfl 23 (by decide) (hts (.fieldLink RX12 497 "HobhouseModel" "oldShift" "I") (by decide +kernel)) (fun _ h9 => h9) rfl (by decide +kernel) (rfl) (rfl) (Nat.le_of_ble_eq_true rfl) dX12_isMeant_118 (fun H locs hP2 hD2 hS => ?_)
                    have e9 := wPuI (cy := cy) (j := 23) (v := w22_7) hD (xe10.A ((hsh10.x.tr hsh22.x).A h_o1)).1 (xe10.A ((hsh10.x.tr hsh22.x).A h_o1)).2.1 gk12 rfl
                    obtain ⟨S13, hS13⟩ : ∃ z, S9.sI o1 23 w22_7 = z := ⟨_, rfl⟩
                    have hP : va_P D vwCl (X ++ PL cy S13) H := by rw [← hS13, ← e9]; exact hP2
                    have hD : va_D A (X ++ PL cy S13) := by rw [← hS13, ← e9]; exact hD2
                    have xe14 : ext S9 S13 := by rw [← hS13]; exact ext.sI _ _ _ _
                    have t15 : stp [(12, 22), (12, 23)] [] [] S10_ S13 := by rw [← hS13]; exact t11.I 23 w22_7 (xe10.A ((hsh10.x.tr hsh22.x).A h_o1)) (by decide) (trivial) (Or.inl (by decide))
                    refine lv_iinc (v := w22_7 + (1 : Int32)) (lv' := [(7, .int (w22_7 + (1 : Int32))), (4, .long (((x1.toInt64 * w10_6.toInt64) + ((2 : Int64) * w10_6.toInt64)) + ((((2 : Int64) * w22_7.toInt64) * w10_6.toInt64) / (100 : Int64)))), (8, .long (((x1.toInt64 * w10_6.toInt64) + ((2 : Int64) * w10_6.toInt64)) + ((((2 : Int64) * w22_7.toInt64) * w10_6.toInt64) / (100 : Int64)))), (6, .int w10_6), (0, .ref o1), (1, .int x1), (2, .int x2), (3, .int x3)]) hx hb dX12_isMeant_121 hl (k := 2) rfl (by rfl) (by decide) rfl (fun ls hl => ?_)
                    refine lv_goto (tgt := 22) hx hb dX12_isMeant_124 (by decide) ?_
                    have l32_1 : (1 : Int32).toInt = 1 := rfl
                    have i16 : (w22_7 + (1 : Int32)).toInt = w22_7.toInt + 1 := t_addr (n := 1) rfl (by omega)
                    exact ih22 S13 (((x1.toInt64 * w10_6.toInt64) + ((2 : Int64) * w10_6.toInt64)) + ((((2 : Int64) * w22_7.toInt64) * w10_6.toInt64) / (100 : Int64))) (w22_7 + (1 : Int32)) _ _ _ (Nat.lt_of_lt_of_le (by omega) (Nat.le_of_lt_succ hm22)) (by omega) t15 hP hD hS (lv_sub hl [0, 3, 1, 4, 5, 6, 7] rfl) ko22
                  · have c7i := lc_nlt c7
                    refine lv_aload_n hx hb dX12_isMeant_87 rfl (lv_at hl 4 rfl) ?_
                    refine lv_iload hx hb dX12_isMeant_88 (lv_at hl 2 rfl) ?_
                    refine lv_iload hx hb dX12_isMeant_90 (lv_at hl 1 rfl) ?_
                    refine lv_lload hx hb dX12_isMeant_92 (lv_at hl 0 rfl) ?_
                    refine lv_lload hx hb dX12_isMeant_94 (lv_at hl 3 rfl) ?_
                    have hFc := free_all hD hS hA
                    obtain ⟨k17, gk17, hk17⟩ := wGt (cy := cy) X S22_ ((hsh10.x.tr hsh22.x).A h_o1).1 ((hsh10.x.tr hsh22.x).A h_o1).2.1
                    refine va_calli (va_runV (As := [.int w10_6, .int w22_7, .long (((x1.toInt64 * w10_6.toInt64) + ((2 : Int64) * w10_6.toInt64)) + ((((2 : Int64) * w22_7.toInt64) * w10_6.toInt64) / (100 : Int64))), .long w22_4]) (rest := []) ⟨hx, hb, hml, hown, hts⟩ (c_X12_isOldBetter l (cy := cy) (X := X) (D := D) S22_ _ o1 ((hsh10.x.tr hsh22.x).A h_o1) w10_6 w22_7 (((x1.toInt64 * w10_6.toInt64) + ((2 : Int64) * w10_6.toInt64)) + ((((2 : Int64) * w22_7.toInt64) * w10_6.toInt64) / (100 : Int64))) w22_4) (cwV 4 hts gX12_isMeant_X12_isOldBetter rfl rfl rfl hd_X12_isOldBetter ⟨Nat.le_of_ble_eq_true rfl, Nat.le_of_ble_eq_true rfl⟩) (pV (va_recv hK hP (q := (RX12, TX12, 34)) (ci := 16) (q0 := k17) rfl hk17) hP hK hD hN) rfl rfl hl.1 rfl (lv_room (Nat.le_of_ble_eq_true rfl)) dX12_isMeant_96 ⟨(Nat.zero_le _), (Nat.zero_le _)⟩) hS (fun q _ h => hFc q h) hFc (fun r18 u t H1 locs ht hvm hw hB hz1 hk1 hS => ?_)
                    have y19 := hw
                    obtain ⟨hP, hD⟩ := wd_post hFc ht hB
                    generalize H1 = H at hP hS ⊢
                    refine lv_if_ne (tgt := 105) hx hb dX12_isMeant_99 (by decide) (fun c20 => ?_) (fun c20 => ?_)
                    · have c20i : ¬ r18.toInt = 0 := neq_v rfl rfl c20
                      refine lv_lload hx hb dX12_isMeant_105 (lv_at hl 0 rfl) ?_
                      refine lv_lstore (lv' := [(4, .long (((x1.toInt64 * w10_6.toInt64) + ((2 : Int64) * w10_6.toInt64)) + ((((2 : Int64) * w22_7.toInt64) * w10_6.toInt64) / (100 : Int64)))), (8, .long (((x1.toInt64 * w10_6.toInt64) + ((2 : Int64) * w10_6.toInt64)) + ((((2 : Int64) * w22_7.toInt64) * w10_6.toInt64) / (100 : Int64)))), (7, .int w22_7), (6, .int w10_6), (0, .ref o1), (1, .int x1), (2, .int x2), (3, .int x3)]) hx hb dX12_isMeant_107 hl (by decide) rfl (fun ls hl => ?_)
                      refine lv_aload_n hx hb dX12_isMeant_109 rfl (lv_at hl 4 rfl) ?_
                      refine lv_iload hx hb dX12_isMeant_110 (lv_at hl 3 rfl) ?_
                      obtain ⟨k21, gk21, hk21⟩ := wGt (cy := cy) X S22_ ((hsh10.x.tr hsh22.x).A h_o1).1 ((hsh10.x.tr hsh22.x).A h_o1).2.1
                      refine va_put (D := D) (ci := 16) (v := .int w10_6) (ty := .int) (C := RX12) (T := TX12) (N := 34) hx hb hts hi_X12_isMeant_X12 tyX12 tyX12_ok nmX12 hown hK hP hD hS k21 hk21 rfl 22 (by decide) (hts (.fieldLink RX12 500 "HobhouseModel" "oldModule" "I") (by decide +kernel)) (fun _ h9 => h9) rfl (by decide +kernel) (rfl) (rfl) (Nat.le_of_ble_eq_true rfl) dX12_isMeant_112 (fun H locs hP2 hD2 hS => ?_)
                      have e9 := wPuI (cy := cy) (j := 22) (v := w10_6) hD ((hsh10.x.tr hsh22.x).A h_o1).1 ((hsh10.x.tr hsh22.x).A h_o1).2.1 gk21 rfl
                      obtain ⟨S22, hS22⟩ : ∃ z, S22_.sI o1 22 w10_6 = z := ⟨_, rfl⟩
                      have hP : va_P D vwCl (X ++ PL cy S22) H := by rw [← hS22, ← e9]; exact hP2
                      have hD : va_D A (X ++ PL cy S22) := by rw [← hS22, ← e9]; exact hD2
                      have xe23 : ext S22_ S22 := by rw [← hS22]; exact ext.sI _ _ _ _
                      have t24 : stp [(12, 22), (12, 23)] [] [] S10_ S22 := by rw [← hS22]; exact hsh22.I 22 w10_6 ((hsh10.x.tr hsh22.x).A h_o1) (by decide) (trivial) (Or.inl (by decide))
                      refine lv_aload_n hx hb dX12_isMeant_115 rfl (lv_at hl 4 rfl) ?_
                      refine lv_iload hx hb dX12_isMeant_116 (lv_at hl 2 rfl) ?_
                      obtain ⟨k25, gk25, hk25⟩ := wGt (cy := cy) X S22 (xe23.A ((hsh10.x.tr hsh22.x).A h_o1)).1 (xe23.A ((hsh10.x.tr hsh22.x).A h_o1)).2.1
                      refine va_put (D := D) (ci := 16) (v := .int w22_7) (ty := .int) (C := RX12) (T := TX12) (N := 34) hx hb hts hi_X12_isMeant_X12 tyX12 tyX12_ok nmX12 hown hK hP hD hS k25 hk25 rfl 23 (by decide) (hts (.fieldLink RX12 497 "HobhouseModel" "oldShift" "I") (by decide +kernel)) (fun _ h9 => h9) rfl (by decide +kernel) (rfl) (rfl) (Nat.le_of_ble_eq_true rfl) dX12_isMeant_118 (fun H locs hP2 hD2 hS => ?_)
                      have e9 := wPuI (cy := cy) (j := 23) (v := w22_7) hD (xe23.A ((hsh10.x.tr hsh22.x).A h_o1)).1 (xe23.A ((hsh10.x.tr hsh22.x).A h_o1)).2.1 gk25 rfl
                      obtain ⟨S26, hS26⟩ : ∃ z, S22.sI o1 23 w22_7 = z := ⟨_, rfl⟩
                      have hP : va_P D vwCl (X ++ PL cy S26) H := by rw [← hS26, ← e9]; exact hP2
                      have hD : va_D A (X ++ PL cy S26) := by rw [← hS26, ← e9]; exact hD2
                      have xe27 : ext S22 S26 := by rw [← hS26]; exact ext.sI _ _ _ _
                      have t28 : stp [(12, 22), (12, 23)] [] [] S10_ S26 := by rw [← hS26]; exact t24.I 23 w22_7 (xe23.A ((hsh10.x.tr hsh22.x).A h_o1)) (by decide) (trivial) (Or.inl (by decide))
                      refine lv_iinc (v := w22_7 + (1 : Int32)) (lv' := [(7, .int (w22_7 + (1 : Int32))), (4, .long (((x1.toInt64 * w10_6.toInt64) + ((2 : Int64) * w10_6.toInt64)) + ((((2 : Int64) * w22_7.toInt64) * w10_6.toInt64) / (100 : Int64)))), (8, .long (((x1.toInt64 * w10_6.toInt64) + ((2 : Int64) * w10_6.toInt64)) + ((((2 : Int64) * w22_7.toInt64) * w10_6.toInt64) / (100 : Int64)))), (6, .int w10_6), (0, .ref o1), (1, .int x1), (2, .int x2), (3, .int x3)]) hx hb dX12_isMeant_121 hl (k := 2) rfl (by rfl) (by decide) rfl (fun ls hl => ?_)
                      refine lv_goto (tgt := 22) hx hb dX12_isMeant_124 (by decide) ?_
                      have l32_1 : (1 : Int32).toInt = 1 := rfl
                      have i29 : (w22_7 + (1 : Int32)).toInt = w22_7.toInt + 1 := t_addr (n := 1) rfl (by omega)
                      exact ih22 S26 (((x1.toInt64 * w10_6.toInt64) + ((2 : Int64) * w10_6.toInt64)) + ((((2 : Int64) * w22_7.toInt64) * w10_6.toInt64) / (100 : Int64))) (w22_7 + (1 : Int32)) _ _ _ (Nat.lt_of_lt_of_le (by omega) (Nat.le_of_lt_succ hm22)) (by omega) t28 hP hD hS (lv_sub hl [0, 3, 1, 4, 5, 6, 7] rfl) ko22
                    · have c20i : r18.toInt = 0 := eq_v rfl rfl c20
                      refine lv_goto (tgt := 121) hx hb dX12_isMeant_102 (by decide) ?_
                      refine lv_iinc (v := w22_7 + (1 : Int32)) (lv' := [(7, .int (w22_7 + (1 : Int32))), (8, .long (((x1.toInt64 * w10_6.toInt64) + ((2 : Int64) * w10_6.toInt64)) + ((((2 : Int64) * w22_7.toInt64) * w10_6.toInt64) / (100 : Int64)))), (6, .int w10_6), (4, .long w22_4), (0, .ref o1), (1, .int x1), (2, .int x2), (3, .int x3)]) hx hb dX12_isMeant_121 hl (k := 1) rfl (by rfl) (by decide) rfl (fun ls hl => ?_)
                      refine lv_goto (tgt := 22) hx hb dX12_isMeant_124 (by decide) ?_
                      have l32_1 : (1 : Int32).toInt = 1 := rfl
                      have i30 : (w22_7 + (1 : Int32)).toInt = w22_7.toInt + 1 := t_addr (n := 1) rfl (by omega)
                      exact ih22 S22_ w22_4 (w22_7 + (1 : Int32)) _ _ _ (Nat.lt_of_lt_of_le (by omega) (Nat.le_of_lt_succ hm22)) (by omega) hsh22 hP hD hS (lv_sub hl [0, 2, 3, 4, 5, 6, 7] rfl) ko22
        refine loop22 103 S10_ w10_4 (-50 : Int32) _ _ _ (by omega) (by omega) (stp.rf hsh10.w) hP hD hS (lv_sub hl [0, 1, 2, 3, 4, 5, 6] rfl) (fun S32 z33 z34 H locs ls hi22 hsh22 hP hD hS hl => ?_)
        have t35 : stp [(12, 22), (12, 23)] [] [] S S32 := hsh10.tr hsh22 (fun _ q => q) (fun _ q => Or.inl q)
        have et35 := hsh22.x
        refine lv_iincW (v := w10_6 + (250 : Int32)) (lv' := [(6, .int (w10_6 + (250 : Int32))), (7, .int z34), (4, .long z33), (0, .ref o1), (1, .int x1), (2, .int x2), (3, .int x3)]) hx hb dX12_isMeant_127 hl (k := 1) rfl (by rfl) (by decide) rfl (fun ls hl => ?_)
        refine lv_goto (tgt := 10) hx hb dX12_isMeant_133 (by decide) ?_
        have l32_250 : (250 : Int32).toInt = 250 := rfl
        have i36 : (w10_6 + (250 : Int32)).toInt = w10_6.toInt + 250 := t_addr (n := 250) rfl (by omega)
        exact ih10 S32 z33 (w10_6 + (250 : Int32)) _ _ _ (Nat.lt_of_lt_of_le (by omega) (Nat.le_of_lt_succ hm10)) (by omega) t35 hP hD hS (lv_sub hl [0, 2, 3, 4, 5, 6] rfl) ko10
  refine loop10 10252 S (-1 : Int64) (500 : Int32) _ _ _ (by omega) (by omega) (stp.rf hW) hP hD hS (lv_sub hl [0, 1, 2, 3, 4, 5] rfl) (fun S38 z39 z40 H locs ls hi10 hsh10 hP hD hS hl => ?_)
  have t41 : stp [(12, 22), (12, 23)] [] [] S S38 := t0.tr hsh10 (fun _ q => q) (fun _ q => Or.inl q)
  have et41 := hsh10.x
  refine lv_lload hx hb dX12_isMeant_136 (lv_at hl 1 rfl) ?_
  refine lv_lconst (v := 0) hx hb dX12_isMeant_138 (by decide) ?_
  refine W.lcmp hx hb dX12_isMeant_139 ?_
  refine lv_if_lt (tgt := 147) hx hb dX12_isMeant_140 (by decide) (fun c42 => ?_) (fun c42 => ?_)
  · have c42i := lc_lt c42
    refine lv_iconst (v := 0) hx hb dX12_isMeant_147 (by decide) ?_
    refine W.widen (k := 0) (n := 0) (Nat.le_of_ble_eq_true rfl) (Nat.le_of_ble_eq_true rfl) ?_
    exact W.zret (v := (0 : Int32)) hx hb hr (by rfl) (fun t ht hW9 => ⟨⟨(0 : Int32), S38, rfl, ⟨t41, (by rfl)⟩, wd_end hP hK hD ht hW9.alike⟩, hS.F ht⟩) hS.2.2 dX12_isMeant_148 hlocks
  · have c42i := lc_nlt c42
    refine lv_iconst (v := 1) hx hb dX12_isMeant_143 (by decide) ?_
    refine lv_goto (tgt := 148) hx hb dX12_isMeant_144 (by decide) ?_
    refine W.widen (k := 0) (n := 0) (Nat.le_of_ble_eq_true rfl) (Nat.le_of_ble_eq_true rfl) ?_
    exact W.zret (v := (1 : Int32)) hx hb hr (by rfl) (fun t ht hW9 => ⟨⟨(1 : Int32), S38, rfl, ⟨t41, (by rfl)⟩, wd_end hP hK hD ht hW9.alike⟩, hS.F ht⟩) hS.2.2 dX12_isMeant_148 hlocks
theorem hi_X12_isOld_X12 : ∀ w ∈ u_ws RX12 TX12 34, w ∈ wsX12_isOld := by decide +kernel
theorem hd_X12_isOld : yX12_isOld.cls = RX12 ∧ yX12_isOld.cls ≠ "java/lang/invoke/MethodHandle" ∧ yX12_isOld.cls ≠ "java/lang/invoke/VarHandle" ∧ (parseMethodDescriptor yX12_isOld.desc).map (fun d => d.parameters.length) = some 3 := by decide +kernel
set_option maxHeartbeats 4000000 in
set_option maxRecDepth 100000 in
theorem c_X12_isOld (l : Launch) {D : va_G} {cy : Nat → ClassId} {X : va_W} (S : wPS) (sz : Nat) (o1 : Nat) (h_o1 : isA S o1 12) (x1 : Int32) (x2 : Int32) (x3 : Int32) (hW : wtB S [])  : Met l yX12_isOld wsX12_isOld ({ frames := 3, cells := 0, slots := 0, locals := 69 }) (va_Pc [.ref o1, .int x1, .int x2, .int x3] (fun U => U.heap.size = sz ∧ WD D cy X (fun _ => True) S U ∧ NW U)) (va_Qi (fun r (u : wPS) => stp [(12, 15), (12, 22), (12, 23)] [] [] S u ∧ narrow .boolean (.int r) = .int r) (fun u t => WD D cy X (va_A (X ++ PL cy S) sz) u t) (va_A (X ++ PL cy S) sz)) 0 0 (va_A (X ++ PL cy S) sz) := by
  refine Met.ofW (cc := cX12_isOld) (maxL := 5) (ret := (some .boolean)) (by decide) rfl ?_
  intro p e s m args below meth c s₁ B hml hv
  obtain ⟨rfl, hsz, ⟨hP, hK, hD0⟩, hN⟩ := hv
  have hx := B.exec
  have hb := B.bytes
  have hr := B.returns
  have hts := atoms_spec (ws := wsX12_isOld) B.pre
  have hown : s.vm.findClass RX12 = some m.cls := findClass_of_methodNamed (x := yX12_isOld) B.named
  have hlocks := B.notSynchronized
  subst hsz
  have hD := hD0.self (sz := s.heap.size)
  generalize hAe : va_A (X ++ PL cy S) s.heap.size = A at hD ⊢
  have hA : ∀ q : Nat, s.heap.size ≤ q → A q := fun q h => by rw [← hAe]; exact Or.inr h
  have hS : va_S A s.heap s.heap [] := va_S.rf
  have hl := lv_entry ([.ref o1, .int x1, .int x2, .int x3]) (n := 5) (Nat.le_of_ble_eq_true rfl)
  rw [lg_entry_eq]
  generalize (lg_sl ([.ref o1, .int x1, .int x2, .int x3]) ++ List.replicate (5 - (lg_sl ([.ref o1, .int x1, .int x2, .int x3])).length) Slot.unset).toArray = ls at hl ⊢
  have hl : lv_has ls 5 [(0, .ref o1), (1, .int x1), (2, .int x2), (3, .int x3)] := hl
  have t0 : stp [(12, 15), (12, 22), (12, 23)] [] [] S S := stp.rf hW
  refine lv_iload_n hx hb dX12_isOld_0 rfl (lv_at hl 1 rfl) ?_
  refine lv_i2l hx hb dX12_isOld_1 rfl ?_
  refine lv_ldc2 (own := RX12) (v := 6) hx hb hown (hts (.constantLong RX12 129 (6)) (by decide +kernel)) dX12_isOld_2 ?_
  refine lv_ldc2 (own := RX12) (v := 200) hx hb hown (hts (.constantLong RX12 131 (200)) (by decide +kernel)) dX12_isOld_5 ?_
  have hFc := free_all hD hS hA
  refine va_calli (va_runS (As := [.long x1.toInt64, .long (6 : Int64), .long (200 : Int64)]) (rest := []) ⟨hx, hb, hml, hown, hts⟩ (c_X12_in l (cy := cy) (X := X) (D := D) S _ x1.toInt64 (6 : Int64) (200 : Int64)) (cwS 3 hts gX12_isOld_X12_in rfl rfl rfl hd_X12_in ⟨Nat.le_of_ble_eq_true rfl, Nat.le_of_ble_eq_true rfl⟩) (pS hP hK hD hN) rfl rfl hl.1 rfl (lv_room (Nat.le_of_ble_eq_true rfl)) dX12_isOld_8 ⟨(Nat.zero_le _), (Nat.zero_le _)⟩) hS (fun q _ h => hFc q h) hFc (fun r1 u t H1 locs ht hvm hw hB hz1 hk1 hS => ?_)
  have c2 := hw
  obtain ⟨hP, hD⟩ := wd_post hFc ht hB
  generalize H1 = H at hP hS ⊢
  obtain rfl : f_X12_in x1.toInt64 (6 : Int64) (200 : Int64) = r1 := c2.symm
  have i3 := i64_i x1
  have l64_6 : (6 : Int64).toInt = 6 := rfl
  have l64_200 : (200 : Int64).toInt = 200 := rfl
  have i4 := in_rng x1.toInt64 (6 : Int64) (200 : Int64)
  refine lv_if_eq (tgt := 44) hx hb dX12_isOld_11 (by decide) (fun c5 => ?_) (fun c5 => ?_)
  · have c5i : (f_X12_in x1.toInt64 (6 : Int64) (200 : Int64)).toInt = 0 := eq_v rfl rfl c5
    refine lv_iconst (v := 0) hx hb dX12_isOld_44 (by decide) ?_
    refine lv_istore (lv' := [(4, .int (0 : Int32)), (0, .ref o1), (1, .int x1), (2, .int x2), (3, .int x3)]) hx hb dX12_isOld_45 hl (by decide) rfl (fun ls hl => ?_)
    refine lv_aload_n hx hb dX12_isOld_47 rfl (lv_at hl 1 rfl) ?_
    refine lv_iload hx hb dX12_isOld_48 (lv_at hl 0 rfl) ?_
    refine lv_if_ne (tgt := 57) hx hb dX12_isOld_50 (by decide) (fun c6 => ?_) (fun c6 => ?_)
    · exact absurd (by decide) c6
    · refine lv_iconst (v := 1) hx hb dX12_isOld_53 (by decide) ?_
      refine lv_goto (tgt := 72) hx hb dX12_isOld_54 (by decide) ?_
      obtain ⟨k7, gk7, hk7⟩ := wGt (cy := cy) X S h_o1.1 h_o1.2.1
      refine va_put (D := D) (ci := 16) (v := .int (1 : Int32)) (ty := .int) (C := RX12) (T := TX12) (N := 34) hx hb hts hi_X12_isOld_X12 tyX12 tyX12_ok nmX12 hown hK hP hD hS k7 hk7 rfl 15 (by decide) (hts (.fieldLink RX12 94 "HobhouseModel" "thrown" "I") (by decide +kernel)) (fun _ h9 => h9) rfl (by decide +kernel) (rfl) (rfl) (Nat.le_of_ble_eq_true rfl) dX12_isOld_72 (fun H locs hP2 hD2 hS => ?_)
      have e9 := wPuI (cy := cy) (j := 15) (v := (1 : Int32)) hD h_o1.1 h_o1.2.1 gk7 rfl
      obtain ⟨S8, hS8⟩ : ∃ z, S.sI o1 15 (1 : Int32) = z := ⟨_, rfl⟩
      have hP : va_P D vwCl (X ++ PL cy S8) H := by rw [← hS8, ← e9]; exact hP2
      have hD : va_D A (X ++ PL cy S8) := by rw [← hS8, ← e9]; exact hD2
      have xe9 : ext S S8 := by rw [← hS8]; exact ext.sI _ _ _ _
      have t10 : stp [(12, 15), (12, 22), (12, 23)] [] [] S S8 := by rw [← hS8]; exact t0.I 15 (1 : Int32) h_o1 (by decide) (trivial) (Or.inl (by decide))
      refine lv_aload_n hx hb dX12_isOld_75 rfl (lv_at hl 1 rfl) ?_
      obtain ⟨k11, gk11, hk11⟩ := wGt (cy := cy) X S8 (xe9.A h_o1).1 (xe9.A h_o1).2.1
      refine va_get (D := D) (ci := 16) (v := .int (S8.I o1 15)) (C := RX12) (T := TX12) (N := 34) hx hb hts hi_X12_isOld_X12 hown hK hP k11 hk11 rfl 15 (by decide) (hts (.fieldLink RX12 94 "HobhouseModel" "thrown" "I") (by decide +kernel)) (fun _ h9 => h9) rfl dX12_isOld_76 ?_
      refine lv_if_ne (tgt := 86) hx hb dX12_isOld_79 (by decide) (fun c12 => ?_) (fun c12 => ?_)
      · have c12i : ¬ (S8.I o1 15).toInt = 0 := neq_v rfl rfl c12
        refine lv_iconst (v := 0) hx hb dX12_isOld_86 (by decide) ?_
        refine W.widen (k := 0) (n := 0) (Nat.le_of_ble_eq_true rfl) (Nat.le_of_ble_eq_true rfl) ?_
        exact W.zret (v := (0 : Int32)) hx hb hr (by rfl) (fun t ht hW9 => ⟨⟨(0 : Int32), S8, rfl, ⟨t10, (by rfl)⟩, wd_end hP hK hD ht hW9.alike⟩, hS.F ht⟩) hS.2.2 dX12_isOld_87 hlocks
      · have c12i : (S8.I o1 15).toInt = 0 := eq_v rfl rfl c12
        refine lv_iconst (v := 1) hx hb dX12_isOld_82 (by decide) ?_
        refine lv_goto (tgt := 87) hx hb dX12_isOld_83 (by decide) ?_
        refine W.widen (k := 0) (n := 0) (Nat.le_of_ble_eq_true rfl) (Nat.le_of_ble_eq_true rfl) ?_
        exact W.zret (v := (1 : Int32)) hx hb hr (by rfl) (fun t ht hW9 => ⟨⟨(1 : Int32), S8, rfl, ⟨t10, (by rfl)⟩, wd_end hP hK hD ht hW9.alike⟩, hS.F ht⟩) hS.2.2 dX12_isOld_87 hlocks
  · have c5i : ¬ (f_X12_in x1.toInt64 (6 : Int64) (200 : Int64)).toInt = 0 := neq_v rfl rfl c5
    refine lv_iload_n hx hb dX12_isOld_14 rfl (lv_at hl 2 rfl) ?_
    refine lv_i2l hx hb dX12_isOld_15 rfl ?_
    refine lv_ldc2 (own := RX12) (v := 1000) hx hb hown (hts (.constantLong RX12 139 (1000)) (by decide +kernel)) dX12_isOld_16 ?_
    refine lv_ldc2 (own := RX12) (v := 9999999) hx hb hown (hts (.constantLong RX12 507 (9999999)) (by decide +kernel)) dX12_isOld_19 ?_
    have hFc := free_all hD hS hA
    refine va_calli (va_runS (As := [.long x2.toInt64, .long (1000 : Int64), .long (9999999 : Int64)]) (rest := []) ⟨hx, hb, hml, hown, hts⟩ (c_X12_in l (cy := cy) (X := X) (D := D) S _ x2.toInt64 (1000 : Int64) (9999999 : Int64)) (cwS 3 hts gX12_isOld_X12_in rfl rfl rfl hd_X12_in ⟨Nat.le_of_ble_eq_true rfl, Nat.le_of_ble_eq_true rfl⟩) (pS hP hK hD hN) rfl rfl hl.1 rfl (lv_room (Nat.le_of_ble_eq_true rfl)) dX12_isOld_22 ⟨(Nat.zero_le _), (Nat.zero_le _)⟩) hS (fun q _ h => hFc q h) hFc (fun r13 u t H1 locs ht hvm hw hB hz1 hk1 hS => ?_)
    have c14 := hw
    obtain ⟨hP, hD⟩ := wd_post hFc ht hB
    generalize H1 = H at hP hS ⊢
    obtain rfl : f_X12_in x2.toInt64 (1000 : Int64) (9999999 : Int64) = r13 := c14.symm
    have i15 := i64_i x2
    have l64_1000 : (1000 : Int64).toInt = 1000 := rfl
    have l64_9999999 : (9999999 : Int64).toInt = 9999999 := rfl
    have i16 := in_rng x2.toInt64 (1000 : Int64) (9999999 : Int64)
    refine lv_if_eq (tgt := 44) hx hb dX12_isOld_25 (by decide) (fun c17 => ?_) (fun c17 => ?_)
    · have c17i : (f_X12_in x2.toInt64 (1000 : Int64) (9999999 : Int64)).toInt = 0 := eq_v rfl rfl c17
      refine lv_iconst (v := 0) hx hb dX12_isOld_44 (by decide) ?_
      refine lv_istore (lv' := [(4, .int (0 : Int32)), (0, .ref o1), (1, .int x1), (2, .int x2), (3, .int x3)]) hx hb dX12_isOld_45 hl (by decide) rfl (fun ls hl => ?_)
      refine lv_aload_n hx hb dX12_isOld_47 rfl (lv_at hl 1 rfl) ?_
      refine lv_iload hx hb dX12_isOld_48 (lv_at hl 0 rfl) ?_
      refine lv_if_ne (tgt := 57) hx hb dX12_isOld_50 (by decide) (fun c18 => ?_) (fun c18 => ?_)
      · exact absurd (by decide) c18
      · refine lv_iconst (v := 1) hx hb dX12_isOld_53 (by decide) ?_
        refine lv_goto (tgt := 72) hx hb dX12_isOld_54 (by decide) ?_
        obtain ⟨k19, gk19, hk19⟩ := wGt (cy := cy) X S h_o1.1 h_o1.2.1
        refine va_put (D := D) (ci := 16) (v := .int (1 : Int32)) (ty := .int) (C := RX12) (T := TX12) (N := 34) hx hb hts hi_X12_isOld_X12 tyX12 tyX12_ok nmX12 hown hK hP hD hS k19 hk19 rfl 15 (by decide) (hts (.fieldLink RX12 94 "HobhouseModel" "thrown" "I") (by decide +kernel)) (fun _ h9 => h9) rfl (by decide +kernel) (rfl) (rfl) (Nat.le_of_ble_eq_true rfl) dX12_isOld_72 (fun H locs hP2 hD2 hS => ?_)
        have e9 := wPuI (cy := cy) (j := 15) (v := (1 : Int32)) hD h_o1.1 h_o1.2.1 gk19 rfl
        obtain ⟨S20, hS20⟩ : ∃ z, S.sI o1 15 (1 : Int32) = z := ⟨_, rfl⟩
        have hP : va_P D vwCl (X ++ PL cy S20) H := by rw [← hS20, ← e9]; exact hP2
        have hD : va_D A (X ++ PL cy S20) := by rw [← hS20, ← e9]; exact hD2
        have xe21 : ext S S20 := by rw [← hS20]; exact ext.sI _ _ _ _
        have t22 : stp [(12, 15), (12, 22), (12, 23)] [] [] S S20 := by rw [← hS20]; exact t0.I 15 (1 : Int32) h_o1 (by decide) (trivial) (Or.inl (by decide))
        refine lv_aload_n hx hb dX12_isOld_75 rfl (lv_at hl 1 rfl) ?_
        obtain ⟨k23, gk23, hk23⟩ := wGt (cy := cy) X S20 (xe21.A h_o1).1 (xe21.A h_o1).2.1
        refine va_get (D := D) (ci := 16) (v := .int (S20.I o1 15)) (C := RX12) (T := TX12) (N := 34) hx hb hts hi_X12_isOld_X12 hown hK hP k23 hk23 rfl 15 (by decide) (hts (.fieldLink RX12 94 "HobhouseModel" "thrown" "I") (by decide +kernel)) (fun _ h9 => h9) rfl dX12_isOld_76 ?_
        refine lv_if_ne (tgt := 86) hx hb dX12_isOld_79 (by decide) (fun c24 => ?_) (fun c24 => ?_)
        · have c24i : ¬ (S20.I o1 15).toInt = 0 := neq_v rfl rfl c24
          refine lv_iconst (v := 0) hx hb dX12_isOld_86 (by decide) ?_
          refine W.widen (k := 0) (n := 0) (Nat.le_of_ble_eq_true rfl) (Nat.le_of_ble_eq_true rfl) ?_
          exact W.zret (v := (0 : Int32)) hx hb hr (by rfl) (fun t ht hW9 => ⟨⟨(0 : Int32), S20, rfl, ⟨t22, (by rfl)⟩, wd_end hP hK hD ht hW9.alike⟩, hS.F ht⟩) hS.2.2 dX12_isOld_87 hlocks
        · have c24i : (S20.I o1 15).toInt = 0 := eq_v rfl rfl c24
          refine lv_iconst (v := 1) hx hb dX12_isOld_82 (by decide) ?_
          refine lv_goto (tgt := 87) hx hb dX12_isOld_83 (by decide) ?_
          refine W.widen (k := 0) (n := 0) (Nat.le_of_ble_eq_true rfl) (Nat.le_of_ble_eq_true rfl) ?_
          exact W.zret (v := (1 : Int32)) hx hb hr (by rfl) (fun t ht hW9 => ⟨⟨(1 : Int32), S20, rfl, ⟨t22, (by rfl)⟩, wd_end hP hK hD ht hW9.alike⟩, hS.F ht⟩) hS.2.2 dX12_isOld_87 hlocks
    · have c17i : ¬ (f_X12_in x2.toInt64 (1000 : Int64) (9999999 : Int64)).toInt = 0 := neq_v rfl rfl c17
      refine lv_iload_n hx hb dX12_isOld_28 rfl (lv_at hl 3 rfl) ?_
      refine lv_i2l hx hb dX12_isOld_29 rfl ?_
      refine lv_lconst (v := 0) hx hb dX12_isOld_30 (by decide) ?_
      refine lv_ldc2 (own := RX12) (v := 9999) hx hb hown (hts (.constantLong RX12 249 (9999)) (by decide +kernel)) dX12_isOld_31 ?_
      have hFc := free_all hD hS hA
      refine va_calli (va_runS (As := [.long x3.toInt64, .long (0 : Int64), .long (9999 : Int64)]) (rest := []) ⟨hx, hb, hml, hown, hts⟩ (c_X12_in l (cy := cy) (X := X) (D := D) S _ x3.toInt64 (0 : Int64) (9999 : Int64)) (cwS 3 hts gX12_isOld_X12_in rfl rfl rfl hd_X12_in ⟨Nat.le_of_ble_eq_true rfl, Nat.le_of_ble_eq_true rfl⟩) (pS hP hK hD hN) rfl rfl hl.1 rfl (lv_room (Nat.le_of_ble_eq_true rfl)) dX12_isOld_34 ⟨(Nat.zero_le _), (Nat.zero_le _)⟩) hS (fun q _ h => hFc q h) hFc (fun r25 u t H1 locs ht hvm hw hB hz1 hk1 hS => ?_)
      have c26 := hw
      obtain ⟨hP, hD⟩ := wd_post hFc ht hB
      generalize H1 = H at hP hS ⊢
      obtain rfl : f_X12_in x3.toInt64 (0 : Int64) (9999 : Int64) = r25 := c26.symm
      have i27 := i64_i x3
      have l64_0 : (0 : Int64).toInt = 0 := rfl
      have l64_9999 : (9999 : Int64).toInt = 9999 := rfl
      have i28 := in_rng x3.toInt64 (0 : Int64) (9999 : Int64)
      refine lv_if_eq (tgt := 44) hx hb dX12_isOld_37 (by decide) (fun c29 => ?_) (fun c29 => ?_)
      · have c29i : (f_X12_in x3.toInt64 (0 : Int64) (9999 : Int64)).toInt = 0 := eq_v rfl rfl c29
        refine lv_iconst (v := 0) hx hb dX12_isOld_44 (by decide) ?_
        refine lv_istore (lv' := [(4, .int (0 : Int32)), (0, .ref o1), (1, .int x1), (2, .int x2), (3, .int x3)]) hx hb dX12_isOld_45 hl (by decide) rfl (fun ls hl => ?_)
        refine lv_aload_n hx hb dX12_isOld_47 rfl (lv_at hl 1 rfl) ?_
        refine lv_iload hx hb dX12_isOld_48 (lv_at hl 0 rfl) ?_
        refine lv_if_ne (tgt := 57) hx hb dX12_isOld_50 (by decide) (fun c30 => ?_) (fun c30 => ?_)
        · exact absurd (by decide) c30
        · refine lv_iconst (v := 1) hx hb dX12_isOld_53 (by decide) ?_
          refine lv_goto (tgt := 72) hx hb dX12_isOld_54 (by decide) ?_
          obtain ⟨k31, gk31, hk31⟩ := wGt (cy := cy) X S h_o1.1 h_o1.2.1
          refine va_put (D := D) (ci := 16) (v := .int (1 : Int32)) (ty := .int) (C := RX12) (T := TX12) (N := 34) hx hb hts hi_X12_isOld_X12 tyX12 tyX12_ok nmX12 hown hK hP hD hS k31 hk31 rfl 15 (by decide) (hts (.fieldLink RX12 94 "HobhouseModel" "thrown" "I") (by decide +kernel)) (fun _ h9 => h9) rfl (by decide +kernel) (rfl) (rfl) (Nat.le_of_ble_eq_true rfl) dX12_isOld_72 (fun H locs hP2 hD2 hS => ?_)
          have e9 := wPuI (cy := cy) (j := 15) (v := (1 : Int32)) hD h_o1.1 h_o1.2.1 gk31 rfl
          obtain ⟨S32, hS32⟩ : ∃ z, S.sI o1 15 (1 : Int32) = z := ⟨_, rfl⟩
          have hP : va_P D vwCl (X ++ PL cy S32) H := by rw [← hS32, ← e9]; exact hP2
          have hD : va_D A (X ++ PL cy S32) := by rw [← hS32, ← e9]; exact hD2
          have xe33 : ext S S32 := by rw [← hS32]; exact ext.sI _ _ _ _
          have t34 : stp [(12, 15), (12, 22), (12, 23)] [] [] S S32 := by rw [← hS32]; exact t0.I 15 (1 : Int32) h_o1 (by decide) (trivial) (Or.inl (by decide))
          refine lv_aload_n hx hb dX12_isOld_75 rfl (lv_at hl 1 rfl) ?_
          obtain ⟨k35, gk35, hk35⟩ := wGt (cy := cy) X S32 (xe33.A h_o1).1 (xe33.A h_o1).2.1
          refine va_get (D := D) (ci := 16) (v := .int (S32.I o1 15)) (C := RX12) (T := TX12) (N := 34) hx hb hts hi_X12_isOld_X12 hown hK hP k35 hk35 rfl 15 (by decide) (hts (.fieldLink RX12 94 "HobhouseModel" "thrown" "I") (by decide +kernel)) (fun _ h9 => h9) rfl dX12_isOld_76 ?_
          refine lv_if_ne (tgt := 86) hx hb dX12_isOld_79 (by decide) (fun c36 => ?_) (fun c36 => ?_)
          · have c36i : ¬ (S32.I o1 15).toInt = 0 := neq_v rfl rfl c36
            refine lv_iconst (v := 0) hx hb dX12_isOld_86 (by decide) ?_
            refine W.widen (k := 0) (n := 0) (Nat.le_of_ble_eq_true rfl) (Nat.le_of_ble_eq_true rfl) ?_
            exact W.zret (v := (0 : Int32)) hx hb hr (by rfl) (fun t ht hW9 => ⟨⟨(0 : Int32), S32, rfl, ⟨t34, (by rfl)⟩, wd_end hP hK hD ht hW9.alike⟩, hS.F ht⟩) hS.2.2 dX12_isOld_87 hlocks
          · have c36i : (S32.I o1 15).toInt = 0 := eq_v rfl rfl c36
            refine lv_iconst (v := 1) hx hb dX12_isOld_82 (by decide) ?_
            refine lv_goto (tgt := 87) hx hb dX12_isOld_83 (by decide) ?_
            refine W.widen (k := 0) (n := 0) (Nat.le_of_ble_eq_true rfl) (Nat.le_of_ble_eq_true rfl) ?_
            exact W.zret (v := (1 : Int32)) hx hb hr (by rfl) (fun t ht hW9 => ⟨⟨(1 : Int32), S32, rfl, ⟨t34, (by rfl)⟩, wd_end hP hK hD ht hW9.alike⟩, hS.F ht⟩) hS.2.2 dX12_isOld_87 hlocks
      · have c29i : ¬ (f_X12_in x3.toInt64 (0 : Int64) (9999 : Int64)).toInt = 0 := neq_v rfl rfl c29
        refine lv_iconst (v := 1) hx hb dX12_isOld_40 (by decide) ?_
        refine lv_goto (tgt := 45) hx hb dX12_isOld_41 (by decide) ?_
        refine lv_istore (lv' := [(4, .int (1 : Int32)), (0, .ref o1), (1, .int x1), (2, .int x2), (3, .int x3)]) hx hb dX12_isOld_45 hl (by decide) rfl (fun ls hl => ?_)
        refine lv_aload_n hx hb dX12_isOld_47 rfl (lv_at hl 1 rfl) ?_
        refine lv_iload hx hb dX12_isOld_48 (lv_at hl 0 rfl) ?_
        refine lv_if_ne (tgt := 57) hx hb dX12_isOld_50 (by decide) (fun c37 => ?_) (fun c37 => ?_)
        · refine lv_aload_n hx hb dX12_isOld_57 rfl (lv_at hl 1 rfl) ?_
          refine lv_iload_n hx hb dX12_isOld_58 rfl (lv_at hl 2 rfl) ?_
          refine lv_iload_n hx hb dX12_isOld_59 rfl (lv_at hl 3 rfl) ?_
          refine lv_iload_n hx hb dX12_isOld_60 rfl (lv_at hl 4 rfl) ?_
          have hFc := free_all hD hS hA
          obtain ⟨k38, gk38, hk38⟩ := wGt (cy := cy) X S h_o1.1 h_o1.2.1
          refine va_calli (va_runV (As := [.int x1, .int x2, .int x3]) (rest := [.ref o1]) ⟨hx, hb, hml, hown, hts⟩ (c_X12_isMeant l (cy := cy) (X := X) (D := D) S _ o1 h_o1 x1 x2 x3 (hW)) (cwV 3 hts gX12_isOld_X12_isMeant rfl rfl rfl hd_X12_isMeant ⟨Nat.le_of_ble_eq_true rfl, Nat.le_of_ble_eq_true rfl⟩) (pV (va_recv hK hP (q := (RX12, TX12, 34)) (ci := 16) (q0 := k38) rfl hk38) hP hK hD hN) rfl rfl hl.1 rfl (lv_room (Nat.le_of_ble_eq_true rfl)) dX12_isOld_61 ⟨(Nat.zero_le _), (Nat.zero_le _)⟩) hS (fun q _ h => hFc q h) hFc (fun r39 u t H1 locs ht hvm hw hB hz1 hk1 hS => ?_)
          obtain ⟨w40, y41⟩ := hw
          obtain ⟨hP, hD⟩ := wd_post hFc ht hB
          generalize H1 = H at hP hS ⊢
          obtain ⟨S42, rfl⟩ : ∃ z, z = u := ⟨_, rfl⟩
          have t43 : stp [(12, 15), (12, 22), (12, 23)] [] [] S S42 := t0.tr w40 (by decide) (fun _ q => absurd q List.not_mem_nil)
          have xe44 : ext S S42 := w40.x
          refine lv_if_eq (tgt := 71) hx hb dX12_isOld_64 (by decide) (fun c45 => ?_) (fun c45 => ?_)
          · have c45i : r39.toInt = 0 := eq_v rfl rfl c45
            refine lv_iconst (v := 2) hx hb dX12_isOld_71 (by decide) ?_
            obtain ⟨k46, gk46, hk46⟩ := wGt (cy := cy) X S42 (xe44.A h_o1).1 (xe44.A h_o1).2.1
            refine va_put (D := D) (ci := 16) (v := .int (2 : Int32)) (ty := .int) (C := RX12) (T := TX12) (N := 34) hx hb hts hi_X12_isOld_X12 tyX12 tyX12_ok nmX12 hown hK hP hD hS k46 hk46 rfl 15 (by decide) (hts (.fieldLink RX12 94 "HobhouseModel" "thrown" "I") (by decide +kernel)) (fun _ h9 => h9) rfl (by decide +kernel) (rfl) (rfl) (Nat.le_of_ble_eq_true rfl) dX12_isOld_72 (fun H locs hP2 hD2 hS => ?_)
            have e9 := wPuI (cy := cy) (j := 15) (v := (2 : Int32)) hD (xe44.A h_o1).1 (xe44.A h_o1).2.1 gk46 rfl
            obtain ⟨S47, hS47⟩ : ∃ z, S42.sI o1 15 (2 : Int32) = z := ⟨_, rfl⟩
            have hP : va_P D vwCl (X ++ PL cy S47) H := by rw [← hS47, ← e9]; exact hP2
            have hD : va_D A (X ++ PL cy S47) := by rw [← hS47, ← e9]; exact hD2
            have xe48 : ext S42 S47 := by rw [← hS47]; exact ext.sI _ _ _ _
            have t49 : stp [(12, 15), (12, 22), (12, 23)] [] [] S S47 := by rw [← hS47]; exact t43.I 15 (2 : Int32) (xe44.A h_o1) (by decide) (trivial) (Or.inl (by decide))
            refine lv_aload_n hx hb dX12_isOld_75 rfl (lv_at hl 1 rfl) ?_
            obtain ⟨k50, gk50, hk50⟩ := wGt (cy := cy) X S47 (xe48.A (xe44.A h_o1)).1 (xe48.A (xe44.A h_o1)).2.1
            refine va_get (D := D) (ci := 16) (v := .int (S47.I o1 15)) (C := RX12) (T := TX12) (N := 34) hx hb hts hi_X12_isOld_X12 hown hK hP k50 hk50 rfl 15 (by decide) (hts (.fieldLink RX12 94 "HobhouseModel" "thrown" "I") (by decide +kernel)) (fun _ h9 => h9) rfl dX12_isOld_76 ?_
            refine lv_if_ne (tgt := 86) hx hb dX12_isOld_79 (by decide) (fun c51 => ?_) (fun c51 => ?_)
            · have c51i : ¬ (S47.I o1 15).toInt = 0 := neq_v rfl rfl c51
              refine lv_iconst (v := 0) hx hb dX12_isOld_86 (by decide) ?_
              refine W.widen (k := 0) (n := 0) (Nat.le_of_ble_eq_true rfl) (Nat.le_of_ble_eq_true rfl) ?_
              exact W.zret (v := (0 : Int32)) hx hb hr (by rfl) (fun t ht hW9 => ⟨⟨(0 : Int32), S47, rfl, ⟨t49, (by rfl)⟩, wd_end hP hK hD ht hW9.alike⟩, hS.F ht⟩) hS.2.2 dX12_isOld_87 hlocks
            · have c51i : (S47.I o1 15).toInt = 0 := eq_v rfl rfl c51
              refine lv_iconst (v := 1) hx hb dX12_isOld_82 (by decide) ?_
              refine lv_goto (tgt := 87) hx hb dX12_isOld_83 (by decide) ?_
              refine W.widen (k := 0) (n := 0) (Nat.le_of_ble_eq_true rfl) (Nat.le_of_ble_eq_true rfl) ?_
              exact W.zret (v := (1 : Int32)) hx hb hr (by rfl) (fun t ht hW9 => ⟨⟨(1 : Int32), S47, rfl, ⟨t49, (by rfl)⟩, wd_end hP hK hD ht hW9.alike⟩, hS.F ht⟩) hS.2.2 dX12_isOld_87 hlocks
          · have c45i : ¬ r39.toInt = 0 := neq_v rfl rfl c45
            refine lv_iconst (v := 0) hx hb dX12_isOld_67 (by decide) ?_
            refine lv_goto (tgt := 72) hx hb dX12_isOld_68 (by decide) ?_
            obtain ⟨k52, gk52, hk52⟩ := wGt (cy := cy) X S42 (xe44.A h_o1).1 (xe44.A h_o1).2.1
            refine va_put (D := D) (ci := 16) (v := .int (0 : Int32)) (ty := .int) (C := RX12) (T := TX12) (N := 34) hx hb hts hi_X12_isOld_X12 tyX12 tyX12_ok nmX12 hown hK hP hD hS k52 hk52 rfl 15 (by decide) (hts (.fieldLink RX12 94 "HobhouseModel" "thrown" "I") (by decide +kernel)) (fun _ h9 => h9) rfl (by decide +kernel) (rfl) (rfl) (Nat.le_of_ble_eq_true rfl) dX12_isOld_72 (fun H locs hP2 hD2 hS => ?_)
            have e9 := wPuI (cy := cy) (j := 15) (v := (0 : Int32)) hD (xe44.A h_o1).1 (xe44.A h_o1).2.1 gk52 rfl
            obtain ⟨S53, hS53⟩ : ∃ z, S42.sI o1 15 (0 : Int32) = z := ⟨_, rfl⟩
            have hP : va_P D vwCl (X ++ PL cy S53) H := by rw [← hS53, ← e9]; exact hP2
            have hD : va_D A (X ++ PL cy S53) := by rw [← hS53, ← e9]; exact hD2
            have xe54 : ext S42 S53 := by rw [← hS53]; exact ext.sI _ _ _ _
            have t55 : stp [(12, 15), (12, 22), (12, 23)] [] [] S S53 := by rw [← hS53]; exact t43.I 15 (0 : Int32) (xe44.A h_o1) (by decide) (trivial) (Or.inl (by decide))
            refine lv_aload_n hx hb dX12_isOld_75 rfl (lv_at hl 1 rfl) ?_
            obtain ⟨k56, gk56, hk56⟩ := wGt (cy := cy) X S53 (xe54.A (xe44.A h_o1)).1 (xe54.A (xe44.A h_o1)).2.1
            refine va_get (D := D) (ci := 16) (v := .int (S53.I o1 15)) (C := RX12) (T := TX12) (N := 34) hx hb hts hi_X12_isOld_X12 hown hK hP k56 hk56 rfl 15 (by decide) (hts (.fieldLink RX12 94 "HobhouseModel" "thrown" "I") (by decide +kernel)) (fun _ h9 => h9) rfl dX12_isOld_76 ?_
            refine lv_if_ne (tgt := 86) hx hb dX12_isOld_79 (by decide) (fun c57 => ?_) (fun c57 => ?_)
            · have c57i : ¬ (S53.I o1 15).toInt = 0 := neq_v rfl rfl c57
              refine lv_iconst (v := 0) hx hb dX12_isOld_86 (by decide) ?_
              refine W.widen (k := 0) (n := 0) (Nat.le_of_ble_eq_true rfl) (Nat.le_of_ble_eq_true rfl) ?_
              exact W.zret (v := (0 : Int32)) hx hb hr (by rfl) (fun t ht hW9 => ⟨⟨(0 : Int32), S53, rfl, ⟨t55, (by rfl)⟩, wd_end hP hK hD ht hW9.alike⟩, hS.F ht⟩) hS.2.2 dX12_isOld_87 hlocks
            · have c57i : (S53.I o1 15).toInt = 0 := eq_v rfl rfl c57
              refine lv_iconst (v := 1) hx hb dX12_isOld_82 (by decide) ?_
              refine lv_goto (tgt := 87) hx hb dX12_isOld_83 (by decide) ?_
              refine W.widen (k := 0) (n := 0) (Nat.le_of_ble_eq_true rfl) (Nat.le_of_ble_eq_true rfl) ?_
              exact W.zret (v := (1 : Int32)) hx hb hr (by rfl) (fun t ht hW9 => ⟨⟨(1 : Int32), S53, rfl, ⟨t55, (by rfl)⟩, wd_end hP hK hD ht hW9.alike⟩, hS.F ht⟩) hS.2.2 dX12_isOld_87 hlocks
        · exact absurd c37 (by decide)
theorem hi_X12_oldModule_X12 : ∀ w ∈ u_ws RX12 TX12 34, w ∈ wsX12_oldModule := by decide +kernel
theorem hd_X12_oldModule : yX12_oldModule.cls = RX12 ∧ yX12_oldModule.cls ≠ "java/lang/invoke/MethodHandle" ∧ yX12_oldModule.cls ≠ "java/lang/invoke/VarHandle" ∧ (parseMethodDescriptor yX12_oldModule.desc).map (fun d => d.parameters.length) = some 3 := by decide +kernel
set_option maxHeartbeats 4000000 in
set_option maxRecDepth 100000 in
theorem c_X12_oldModule (l : Launch) {D : va_G} {cy : Nat → ClassId} {X : va_W} (S : wPS) (sz : Nat) (o1 : Nat) (h_o1 : isA S o1 12) (x1 : Int32) (x2 : Int32) (x3 : Int32) (hW : wtB S [])  : Met l yX12_oldModule wsX12_oldModule ({ frames := 4, cells := 0, slots := 0, locals := 93 }) (va_Pc [.ref o1, .int x1, .int x2, .int x3] (fun U => U.heap.size = sz ∧ WD D cy X (fun _ => True) S U ∧ NW U)) (va_Qi (fun r (u : wPS) => stp [(12, 15), (12, 22), (12, 23)] [] [] S u) (fun u t => WD D cy X (va_A (X ++ PL cy S) sz) u t) (va_A (X ++ PL cy S) sz)) 0 0 (va_A (X ++ PL cy S) sz) := by
  refine Met.ofW (cc := cX12_oldModule) (maxL := 4) (ret := (some .int)) (by decide) rfl ?_
  intro p e s m args below meth c s₁ B hml hv
  obtain ⟨rfl, hsz, ⟨hP, hK, hD0⟩, hN⟩ := hv
  have hx := B.exec
  have hb := B.bytes
  have hr := B.returns
  have hts := atoms_spec (ws := wsX12_oldModule) B.pre
  have hown : s.vm.findClass RX12 = some m.cls := findClass_of_methodNamed (x := yX12_oldModule) B.named
  have hlocks := B.notSynchronized
  subst hsz
  have hD := hD0.self (sz := s.heap.size)
  generalize hAe : va_A (X ++ PL cy S) s.heap.size = A at hD ⊢
  have hA : ∀ q : Nat, s.heap.size ≤ q → A q := fun q h => by rw [← hAe]; exact Or.inr h
  have hS : va_S A s.heap s.heap [] := va_S.rf
  have hl := lv_entry ([.ref o1, .int x1, .int x2, .int x3]) (n := 4) (Nat.le_of_ble_eq_true rfl)
  rw [lg_entry_eq]
  generalize (lg_sl ([.ref o1, .int x1, .int x2, .int x3]) ++ List.replicate (4 - (lg_sl ([.ref o1, .int x1, .int x2, .int x3])).length) Slot.unset).toArray = ls at hl ⊢
  have hl : lv_has ls 4 [(0, .ref o1), (1, .int x1), (2, .int x2), (3, .int x3)] := hl
  have t0 : stp [(12, 15), (12, 22), (12, 23)] [] [] S S := stp.rf hW
  refine lv_aload_n hx hb dX12_oldModule_0 rfl (lv_at hl 0 rfl) ?_
  refine lv_iload_n hx hb dX12_oldModule_1 rfl (lv_at hl 1 rfl) ?_
  refine lv_iload_n hx hb dX12_oldModule_2 rfl (lv_at hl 2 rfl) ?_
  refine lv_iload_n hx hb dX12_oldModule_3 rfl (lv_at hl 3 rfl) ?_
  have hFc := free_all hD hS hA
  obtain ⟨k1, gk1, hk1⟩ := wGt (cy := cy) X S h_o1.1 h_o1.2.1
  refine va_calli (va_runV (As := [.int x1, .int x2, .int x3]) (rest := []) ⟨hx, hb, hml, hown, hts⟩ (c_X12_isOld l (cy := cy) (X := X) (D := D) S _ o1 h_o1 x1 x2 x3 (hW)) (cwV 3 hts gX12_oldModule_X12_isOld rfl rfl rfl hd_X12_isOld ⟨Nat.le_of_ble_eq_true rfl, Nat.le_of_ble_eq_true rfl⟩) (pV (va_recv hK hP (q := (RX12, TX12, 34)) (ci := 16) (q0 := k1) rfl hk1) hP hK hD hN) rfl rfl hl.1 rfl (lv_room (Nat.le_of_ble_eq_true rfl)) dX12_oldModule_4 ⟨(Nat.zero_le _), (Nat.zero_le _)⟩) hS (fun q _ h => hFc q h) hFc (fun r2 u t H1 locs ht hvm hw hB hz1 hk1 hS => ?_)
  obtain ⟨w3, y4⟩ := hw
  obtain ⟨hP, hD⟩ := wd_post hFc ht hB
  generalize H1 = H at hP hS ⊢
  obtain ⟨S5, rfl⟩ : ∃ z, z = u := ⟨_, rfl⟩
  have t6 : stp [(12, 15), (12, 22), (12, 23)] [] [] S S5 := t0.tr w3 (by decide) (fun _ q => absurd q List.not_mem_nil)
  have xe7 : ext S S5 := w3.x
  refine lv_if_eq (tgt := 17) hx hb dX12_oldModule_7 (by decide) (fun c8 => ?_) (fun c8 => ?_)
  · have c8i : r2.toInt = 0 := eq_v rfl rfl c8
    refine lv_iconst (v := 0) hx hb dX12_oldModule_17 (by decide) ?_
    refine W.widen (k := 0) (n := 0) (Nat.le_of_ble_eq_true rfl) (Nat.le_of_ble_eq_true rfl) ?_
    exact W.iret (v := (0 : Int32)) hx hb hr (fun t ht hW9 => ⟨⟨(0 : Int32), S5, rfl, t6, wd_end hP hK hD ht hW9.alike⟩, hS.F ht⟩) hS.2.2 dX12_oldModule_18 hlocks
  · have c8i : ¬ r2.toInt = 0 := neq_v rfl rfl c8
    refine lv_aload_n hx hb dX12_oldModule_10 rfl (lv_at hl 0 rfl) ?_
    obtain ⟨k9, gk9, hk9⟩ := wGt (cy := cy) X S5 (xe7.A h_o1).1 (xe7.A h_o1).2.1
    refine va_get (D := D) (ci := 16) (v := .int (S5.I o1 22)) (C := RX12) (T := TX12) (N := 34) hx hb hts hi_X12_oldModule_X12 hown hK hP k9 hk9 rfl 22 (by decide) (hts (.fieldLink RX12 500 "HobhouseModel" "oldModule" "I") (by decide +kernel)) (fun _ h9 => h9) rfl dX12_oldModule_11 ?_
    refine lv_goto (tgt := 18) hx hb dX12_oldModule_14 (by decide) ?_
    refine W.widen (k := 0) (n := 0) (Nat.le_of_ble_eq_true rfl) (Nat.le_of_ble_eq_true rfl) ?_
    exact W.iret (v := S5.I o1 22) hx hb hr (fun t ht hW9 => ⟨⟨S5.I o1 22, S5, rfl, t6, wd_end hP hK hD ht hW9.alike⟩, hS.F ht⟩) hS.2.2 dX12_oldModule_18 hlocks
theorem hi_X12_oldShift_X12 : ∀ w ∈ u_ws RX12 TX12 34, w ∈ wsX12_oldShift := by decide +kernel
theorem hd_X12_oldShift : yX12_oldShift.cls = RX12 ∧ yX12_oldShift.cls ≠ "java/lang/invoke/MethodHandle" ∧ yX12_oldShift.cls ≠ "java/lang/invoke/VarHandle" ∧ (parseMethodDescriptor yX12_oldShift.desc).map (fun d => d.parameters.length) = some 3 := by decide +kernel
set_option maxHeartbeats 4000000 in
set_option maxRecDepth 100000 in
theorem c_X12_oldShift (l : Launch) {D : va_G} {cy : Nat → ClassId} {X : va_W} (S : wPS) (sz : Nat) (o1 : Nat) (h_o1 : isA S o1 12) (x1 : Int32) (x2 : Int32) (x3 : Int32) (hW : wtB S [])  : Met l yX12_oldShift wsX12_oldShift ({ frames := 4, cells := 0, slots := 0, locals := 93 }) (va_Pc [.ref o1, .int x1, .int x2, .int x3] (fun U => U.heap.size = sz ∧ WD D cy X (fun _ => True) S U ∧ NW U)) (va_Qi (fun r (u : wPS) => stp [(12, 15), (12, 22), (12, 23)] [] [] S u) (fun u t => WD D cy X (va_A (X ++ PL cy S) sz) u t) (va_A (X ++ PL cy S) sz)) 0 0 (va_A (X ++ PL cy S) sz) := by
  refine Met.ofW (cc := cX12_oldShift) (maxL := 4) (ret := (some .int)) (by decide) rfl ?_
  intro p e s m args below meth c s₁ B hml hv
  obtain ⟨rfl, hsz, ⟨hP, hK, hD0⟩, hN⟩ := hv
  have hx := B.exec
  have hb := B.bytes
  have hr := B.returns
  have hts := atoms_spec (ws := wsX12_oldShift) B.pre
  have hown : s.vm.findClass RX12 = some m.cls := findClass_of_methodNamed (x := yX12_oldShift) B.named
  have hlocks := B.notSynchronized
  subst hsz
  have hD := hD0.self (sz := s.heap.size)
  generalize hAe : va_A (X ++ PL cy S) s.heap.size = A at hD ⊢
  have hA : ∀ q : Nat, s.heap.size ≤ q → A q := fun q h => by rw [← hAe]; exact Or.inr h
  have hS : va_S A s.heap s.heap [] := va_S.rf
  have hl := lv_entry ([.ref o1, .int x1, .int x2, .int x3]) (n := 4) (Nat.le_of_ble_eq_true rfl)
  rw [lg_entry_eq]
  generalize (lg_sl ([.ref o1, .int x1, .int x2, .int x3]) ++ List.replicate (4 - (lg_sl ([.ref o1, .int x1, .int x2, .int x3])).length) Slot.unset).toArray = ls at hl ⊢
  have hl : lv_has ls 4 [(0, .ref o1), (1, .int x1), (2, .int x2), (3, .int x3)] := hl
  have t0 : stp [(12, 15), (12, 22), (12, 23)] [] [] S S := stp.rf hW
  refine lv_aload_n hx hb dX12_oldShift_0 rfl (lv_at hl 0 rfl) ?_
  refine lv_iload_n hx hb dX12_oldShift_1 rfl (lv_at hl 1 rfl) ?_
  refine lv_iload_n hx hb dX12_oldShift_2 rfl (lv_at hl 2 rfl) ?_
  refine lv_iload_n hx hb dX12_oldShift_3 rfl (lv_at hl 3 rfl) ?_
  have hFc := free_all hD hS hA
  obtain ⟨k1, gk1, hk1⟩ := wGt (cy := cy) X S h_o1.1 h_o1.2.1
  refine va_calli (va_runV (As := [.int x1, .int x2, .int x3]) (rest := []) ⟨hx, hb, hml, hown, hts⟩ (c_X12_isOld l (cy := cy) (X := X) (D := D) S _ o1 h_o1 x1 x2 x3 (hW)) (cwV 3 hts gX12_oldShift_X12_isOld rfl rfl rfl hd_X12_isOld ⟨Nat.le_of_ble_eq_true rfl, Nat.le_of_ble_eq_true rfl⟩) (pV (va_recv hK hP (q := (RX12, TX12, 34)) (ci := 16) (q0 := k1) rfl hk1) hP hK hD hN) rfl rfl hl.1 rfl (lv_room (Nat.le_of_ble_eq_true rfl)) dX12_oldShift_4 ⟨(Nat.zero_le _), (Nat.zero_le _)⟩) hS (fun q _ h => hFc q h) hFc (fun r2 u t H1 locs ht hvm hw hB hz1 hk1 hS => ?_)
  obtain ⟨w3, y4⟩ := hw
  obtain ⟨hP, hD⟩ := wd_post hFc ht hB
  generalize H1 = H at hP hS ⊢
  obtain ⟨S5, rfl⟩ : ∃ z, z = u := ⟨_, rfl⟩
  have t6 : stp [(12, 15), (12, 22), (12, 23)] [] [] S S5 := t0.tr w3 (by decide) (fun _ q => absurd q List.not_mem_nil)
  have xe7 : ext S S5 := w3.x
  refine lv_if_eq (tgt := 17) hx hb dX12_oldShift_7 (by decide) (fun c8 => ?_) (fun c8 => ?_)
  · have c8i : r2.toInt = 0 := eq_v rfl rfl c8
    refine lv_iconst (v := 0) hx hb dX12_oldShift_17 (by decide) ?_
    refine W.widen (k := 0) (n := 0) (Nat.le_of_ble_eq_true rfl) (Nat.le_of_ble_eq_true rfl) ?_
    exact W.iret (v := (0 : Int32)) hx hb hr (fun t ht hW9 => ⟨⟨(0 : Int32), S5, rfl, t6, wd_end hP hK hD ht hW9.alike⟩, hS.F ht⟩) hS.2.2 dX12_oldShift_18 hlocks
  · have c8i : ¬ r2.toInt = 0 := neq_v rfl rfl c8
    refine lv_aload_n hx hb dX12_oldShift_10 rfl (lv_at hl 0 rfl) ?_
    obtain ⟨k9, gk9, hk9⟩ := wGt (cy := cy) X S5 (xe7.A h_o1).1 (xe7.A h_o1).2.1
    refine va_get (D := D) (ci := 16) (v := .int (S5.I o1 23)) (C := RX12) (T := TX12) (N := 34) hx hb hts hi_X12_oldShift_X12 hown hK hP k9 hk9 rfl 23 (by decide) (hts (.fieldLink RX12 497 "HobhouseModel" "oldShift" "I") (by decide +kernel)) (fun _ h9 => h9) rfl dX12_oldShift_11 ?_
    refine lv_goto (tgt := 18) hx hb dX12_oldShift_14 (by decide) ?_
    refine W.widen (k := 0) (n := 0) (Nat.le_of_ble_eq_true rfl) (Nat.le_of_ble_eq_true rfl) ?_
    exact W.iret (v := S5.I o1 23) hx hb hr (fun t ht hW9 => ⟨⟨S5.I o1 23, S5, rfl, t6, wd_end hP hK hD ht hW9.alike⟩, hS.F ht⟩) hS.2.2 dX12_oldShift_18 hlocks
theorem hi_X12_allDamage_X10 : ∀ w ∈ u_ws RX10 TX10 23, w ∈ wsX12_allDamage := by decide +kernel
theorem hi_X12_allDamage_X12 : ∀ w ∈ u_ws RX12 TX12 34, w ∈ wsX12_allDamage := by decide +kernel
theorem hd_X12_allDamage : yX12_allDamage.cls = RX12 ∧ yX12_allDamage.cls ≠ "java/lang/invoke/MethodHandle" ∧ yX12_allDamage.cls ≠ "java/lang/invoke/VarHandle" ∧ (parseMethodDescriptor yX12_allDamage.desc).map (fun d => d.parameters.length) = some 0 := by decide +kernel
set_option maxHeartbeats 4000000 in
set_option maxRecDepth 100000 in
theorem c_X12_allDamage (l : Launch) {D : va_G} {cy : Nat → ClassId} {X : va_W} (S : wPS) (sz : Nat) (o1 : Nat) (h_o1 : isA S o1 12) (hW : wtB S [])  : Met l yX12_allDamage wsX12_allDamage ({ frames := 4, cells := 0, slots := 0, locals := 85 }) (va_Pc [.ref o1] (fun U => U.heap.size = sz ∧ WD D cy X (fun _ => True) S U ∧ NW U)) (va_Ql (fun r (u : wPS) => stp [(12, 15)] [] [] S u) (fun u t => WD D cy X (va_A (X ++ PL cy S) sz) u t) (va_A (X ++ PL cy S) sz)) 0 0 (va_A (X ++ PL cy S) sz) := by
  refine Met.ofW (cc := cX12_allDamage) (maxL := 4) (ret := (some .long)) (by decide) rfl ?_
  intro p e s m args below meth c s₁ B hml hv
  obtain ⟨rfl, hsz, ⟨hP, hK, hD0⟩, hN⟩ := hv
  have hx := B.exec
  have hb := B.bytes
  have hr := B.returns
  have hts := atoms_spec (ws := wsX12_allDamage) B.pre
  have hown : s.vm.findClass RX12 = some m.cls := findClass_of_methodNamed (x := yX12_allDamage) B.named
  have hlocks := B.notSynchronized
  subst hsz
  have hD := hD0.self (sz := s.heap.size)
  generalize hAe : va_A (X ++ PL cy S) s.heap.size = A at hD ⊢
  have hA : ∀ q : Nat, s.heap.size ≤ q → A q := fun q h => by rw [← hAe]; exact Or.inr h
  have hS : va_S A s.heap s.heap [] := va_S.rf
  have hl := lv_entry ([.ref o1]) (n := 4) (Nat.le_of_ble_eq_true rfl)
  rw [lg_entry_eq]
  generalize (lg_sl ([.ref o1]) ++ List.replicate (4 - (lg_sl ([.ref o1])).length) Slot.unset).toArray = ls at hl ⊢
  have hl : lv_has ls 4 [(0, .ref o1)] := hl
  have t0 : stp [(12, 15)] [] [] S S := stp.rf hW
  refine lv_lconst (v := 0) hx hb dX12_allDamage_0 (by decide) ?_
  refine lv_lstore_n (lv' := [(1, .long (0 : Int64)), (0, .ref o1)]) hx hb dX12_allDamage_1 rfl hl (by decide) rfl (fun ls hl => ?_)
  refine lv_iconst (v := 0) hx hb dX12_allDamage_2 (by decide) ?_
  refine lv_istore_n (lv' := [(3, .int (0 : Int32)), (1, .long (0 : Int64)), (0, .ref o1)]) hx hb dX12_allDamage_3 rfl hl (by decide) rfl (fun ls hl => ?_)
  have l32_0 : (0 : Int32).toInt = 0 := rfl
  have loop4 : ∀ (n : Nat) (w4_1 : Int64) (w4_3 : Int32) (H : Heap) (locs : List Loc) (ls : Array Slot), (41 - w4_3.toInt).toNat < n → 0 ≤ w4_3.toInt ∧ w4_3.toInt ≤ 40 → va_P D vwCl (X ++ PL cy S) H → va_S A s.heap H locs → lv_has ls 4 [(3, .int w4_3), (1, .long w4_1), (0, .ref o1)] → (∀ (w4_1x : Int64) (w4_3x : Int32) (H : Heap) (locs : List Loc) (ls : Array Slot), 0 ≤ w4_3x.toInt ∧ w4_3x.toInt ≤ 40 → va_P D vwCl (X ++ PL cy S) H → va_S A s.heap H locs → lv_has ls 4 [(3, .int w4_3x), (1, .long w4_1x), (0, .ref o1)] → W p l e (headSpec wsX12_allDamage ({ frames := 4, cells := 0, slots := 0, locals := 85 } : Room)).room s m [.ref o1].toArray below meth c H locs 0 0 (MQ below (va_Ql (fun r (u : wPS) => stp [(12, 15)] [] [] S u) (fun u t => WD D cy X A u t) A) [.ref o1].toArray s 0 0 A) (F0 m 32 ls [])) → W p l e (headSpec wsX12_allDamage ({ frames := 4, cells := 0, slots := 0, locals := 85 } : Room)).room s m [.ref o1].toArray below meth c H locs 0 0 (MQ below (va_Ql (fun r (u : wPS) => stp [(12, 15)] [] [] S u) (fun u t => WD D cy X A u t) A) [.ref o1].toArray s 0 0 A) (F0 m 4 ls []) := by
    intro n4
    induction n4 with
    | zero => intro w4_1 w4_3 H locs ls hm; exact absurd hm (Nat.not_lt_zero _)
    | succ n4 ih4 =>
      intro w4_1 w4_3 H locs ls hm4 hi4 hP hS hl ko4
      refine lv_iload_n hx hb dX12_allDamage_4 rfl (lv_at hl 0 rfl) ?_
      refine lv_aload_n hx hb dX12_allDamage_5 rfl (lv_at hl 2 rfl) ?_
      have F1 := ((hW.at h_o1 List.not_mem_nil).to_12 h_o1.2.1).F0
      obtain ⟨k2, gk2, hk2⟩ := wGt (cy := cy) X S h_o1.1 h_o1.2.1
      simp only [kE, F1.1] at hk2
      refine va_get (D := D) (ci := 16) (v := .ref (S.f o1 0)) (C := RX12) (T := TX12) (N := 34) hx hb hts hi_X12_allDamage_X12 hown hK hP k2 hk2 rfl 0 (by decide) (hts (.fieldLink RX12 24 "HobhouseModel" "gears" "Ljava/util/ArrayList;") (by decide +kernel)) (fun _ h9 => h9) rfl dX12_allDamage_6 ?_
      have hFc := free_all hD hS hA
      obtain ⟨k3, gk3, hk3⟩ := wGt (cy := cy) X S F1.2.1.1 F1.2.1.2.1
      refine va_calli (va_runV (As := []) (rest := [.int w4_3]) ⟨hx, hb, hml, hown, hts⟩ (c_Jx4a65c_size_8abf5 l (cy := cy) (X := X) (D := D) S _ (S.f o1 0) F1.2.1) (cwV 0 hts gX12_allDamage_Jx4a65c_size_8abf5 rfl rfl rfl hd_Jx4a65c_size_8abf5 ⟨Nat.le_of_ble_eq_true rfl, Nat.le_of_ble_eq_true rfl⟩) (pV (va_recv hK hP (q := (RJx4a65c, TJx4a65c, 3)) (ci := 3) (q0 := k3) rfl hk3) hP hK hD hN) rfl rfl hl.1 rfl (lv_room (Nat.le_of_ble_eq_true rfl)) dX12_allDamage_9 ⟨(Nat.zero_le _), (Nat.zero_le _)⟩) hS (fun q _ h => hFc q h) hFc (fun r4 u t H1 locs ht hvm hw hB hz1 hk1 hS => ?_)
      have c5 := hw
      obtain ⟨hP, hD⟩ := wd_post hFc ht hB
      generalize H1 = H at hP hS ⊢
      obtain rfl : f_Jx4a65c_size_8abf5 S (S.f o1 0) = r4 := c5.symm
      have i6 := al_sz ((hW.at F1.2.1 List.not_mem_nil).to_14 F1.2.1.2.1)
      have i7 : (f_Jx4a65c_size_8abf5 S (S.f o1 0)).toInt = (S.I (S.f o1 0) 2).toInt := rfl
      refine lv_icmp_ge (tgt := 32) hx hb dX12_allDamage_12 (by decide) (fun c8 => ?_) (fun c8 => ?_)
      · have c8i : (f_Jx4a65c_size_8abf5 S (S.f o1 0)).toInt ≤ w4_3.toInt := le_v rfl rfl c8
        exact ko4 w4_1 w4_3 _ _ _ (by omega) hP hS (lv_sub hl [0, 1, 2] rfl)
      · have c8i : w4_3.toInt < (f_Jx4a65c_size_8abf5 S (S.f o1 0)).toInt := nle_v rfl rfl c8
        refine lv_lload_n hx hb dX12_allDamage_15 rfl (lv_at hl 1 rfl) ?_
        refine lv_aload_n hx hb dX12_allDamage_16 rfl (lv_at hl 2 rfl) ?_
        refine lv_iload_n hx hb dX12_allDamage_17 rfl (lv_at hl 0 rfl) ?_
        have hFc := free_all hD hS hA
        obtain ⟨k9, gk9, hk9⟩ := wGt (cy := cy) X S h_o1.1 h_o1.2.1
        refine va_callq (va_runV (As := [.int w4_3]) (rest := [.long w4_1]) ⟨hx, hb, hml, hown, hts⟩ (c_X12_gearAt l (cy := cy) (X := X) (D := D) S _ o1 h_o1 w4_3 (hW) (by rw [f_of F1.1]; omega)) (cwV 1 hts gX12_allDamage_X12_gearAt rfl rfl rfl hd_X12_gearAt ⟨Nat.le_of_ble_eq_true rfl, Nat.le_of_ble_eq_true rfl⟩) (pV (va_recv hK hP (q := (RX12, TX12, 34)) (ci := 16) (q0 := k9) rfl hk9) hP hK hD hN) rfl rfl hl.1 rfl (lv_room (Nat.le_of_ble_eq_true rfl)) dX12_allDamage_18 ⟨(Nat.zero_le _), (Nat.zero_le _)⟩) hS (fun q _ h => hFc q h) hFc (fun r10 u t H1 locs ht hvm hw hB hz1 hk1 hS => ?_)
        obtain ⟨r10, rfl, c11, o12⟩ := hw
        obtain ⟨hP, hD⟩ := wd_post hFc ht hB
        generalize H1 = H at hP hS ⊢
        refine W.eq (g2 := F0 m 21 ls [.ref r10, .long w4_1]) rfl ?_
        obtain ⟨k13, gk13, hk13⟩ := wGt (cy := cy) X S o12.1 o12.2.1
        refine va_getN (D := D) (ci := 14) (v := .long (S.J r10 22)) (C := RX10) (T := TX10) (N := 23) hx hb hts hi_X12_allDamage_X10 hown hK hP k13 hk13 rfl 22 (by decide) (va_Nw.use rfl (hN (.fieldLinkNest RX12 455 "HobhouseModel$Gear" "damage" "J" "HobhouseModel") (by decide +kernel))) (fun _ h9 => h9) rfl dX12_allDamage_21 ?_
        refine lv_ladd hx hb dX12_allDamage_24 ?_
        refine lv_lstore_n (lv' := [(1, .long (w4_1 + (S.J r10 22))), (3, .int w4_3), (0, .ref o1)]) hx hb dX12_allDamage_25 rfl hl (by decide) rfl (fun ls hl => ?_)
        refine lv_iinc (v := w4_3 + (1 : Int32)) (lv' := [(3, .int (w4_3 + (1 : Int32))), (1, .long (w4_1 + (S.J r10 22))), (0, .ref o1)]) hx hb dX12_allDamage_26 hl (k := 1) rfl (by rfl) (by decide) rfl (fun ls hl => ?_)
        refine lv_goto (tgt := 4) hx hb dX12_allDamage_29 (by decide) ?_
        have l32_1 : (1 : Int32).toInt = 1 := rfl
        have i14 : (w4_3 + (1 : Int32)).toInt = w4_3.toInt + 1 := t_addr (n := 1) rfl (by omega)
        exact ih4 (w4_1 + (S.J r10 22)) (w4_3 + (1 : Int32)) _ _ _ (Nat.lt_of_lt_of_le (by omega) (Nat.le_of_lt_succ hm4)) (by omega) hP hS (lv_sub hl [0, 1, 2] rfl) ko4
  refine loop4 42 (0 : Int64) (0 : Int32) _ _ _ (by omega) (by omega) hP hS (lv_sub hl [0, 1, 2] rfl) (fun z16 z17 H locs ls hi4 hP hS hl => ?_)
  refine lv_aload_n hx hb dX12_allDamage_32 rfl (lv_at hl 2 rfl) ?_
  refine lv_lload_n hx hb dX12_allDamage_33 rfl (lv_at hl 1 rfl) ?_
  have hFc := free_all hD hS hA
  obtain ⟨k18, gk18, hk18⟩ := wGt (cy := cy) X S h_o1.1 h_o1.2.1
  refine va_calll (va_runV (As := [.long z16]) (rest := []) ⟨hx, hb, hml, hown, hts⟩ (c_X12_answerLong l (cy := cy) (X := X) (D := D) S _ o1 h_o1 z16 (hW)) (cwV 1 hts gX12_allDamage_X12_answerLong rfl rfl rfl hd_X12_answerLong ⟨Nat.le_of_ble_eq_true rfl, Nat.le_of_ble_eq_true rfl⟩) (pV (va_recv hK hP (q := (RX12, TX12, 34)) (ci := 16) (q0 := k18) rfl hk18) hP hK hD hN) rfl rfl hl.1 rfl (lv_room (Nat.le_of_ble_eq_true rfl)) dX12_allDamage_34 ⟨(Nat.zero_le _), (Nat.zero_le _)⟩) hS (fun q _ h => hFc q h) hFc (fun r19 u t H1 locs ht hvm hw hB hz1 hk1 hS => ?_)
  obtain ⟨c20, w21⟩ := hw
  obtain ⟨hP, hD⟩ := wd_post hFc ht hB
  generalize H1 = H at hP hS ⊢
  obtain ⟨S22, rfl⟩ : ∃ z, z = u := ⟨_, rfl⟩
  have t23 : stp [(12, 15)] [] [] S S22 := t0.tr w21 (by decide) (fun _ q => absurd q List.not_mem_nil)
  have xe24 : ext S S22 := w21.x
  refine W.widen (k := 0) (n := 0) (Nat.le_of_ble_eq_true rfl) (Nat.le_of_ble_eq_true rfl) ?_
  exact W.lret (v := r19) hx hb hr (fun t ht hW9 => ⟨⟨r19, S22, rfl, t23, wd_end hP hK hD ht hW9.alike⟩, hS.F ht⟩) hS.2.2 dX12_allDamage_37 hlocks
theorem hd_X12_isSound : yX12_isSound.cls = RX12 ∧ yX12_isSound.cls ≠ "java/lang/invoke/MethodHandle" ∧ yX12_isSound.cls ≠ "java/lang/invoke/VarHandle" ∧ (parseMethodDescriptor yX12_isSound.desc).map (fun d => d.parameters.length) = some 0 := by decide +kernel
set_option maxHeartbeats 4000000 in
set_option maxRecDepth 100000 in
theorem c_X12_isSound (l : Launch) {D : va_G} {cy : Nat → ClassId} {X : va_W} (S : wPS) (sz : Nat) (o1 : Nat) (h_o1 : isA S o1 12) (hW : wtB S [])  : Met l yX12_isSound wsX12_isSound ({ frames := 1, cells := 0, slots := 0, locals := 21 }) (va_Pc [.ref o1] (fun U => U.heap.size = sz ∧ WD D cy X (fun _ => True) S U ∧ NW U)) (va_Qi (fun r (u : wPS) => stp [(12, 15)] [] [] S u ∧ narrow .boolean (.int r) = .int r) (fun u t => WD D cy X (va_A (X ++ PL cy S) sz) u t) (va_A (X ++ PL cy S) sz)) 0 0 (va_A (X ++ PL cy S) sz) := by
  refine Met.ofW (cc := cX12_isSound) (maxL := 1) (ret := (some .boolean)) (by decide) rfl ?_
  intro p e s m args below meth c s₁ B hml hv
  obtain ⟨rfl, hsz, ⟨hP, hK, hD0⟩, hN⟩ := hv
  have hx := B.exec
  have hb := B.bytes
  have hr := B.returns
  have hts := atoms_spec (ws := wsX12_isSound) B.pre
  have hown : s.vm.findClass RX12 = some m.cls := findClass_of_methodNamed (x := yX12_isSound) B.named
  have hlocks := B.notSynchronized
  subst hsz
  have hD := hD0.self (sz := s.heap.size)
  generalize hAe : va_A (X ++ PL cy S) s.heap.size = A at hD ⊢
  have hA : ∀ q : Nat, s.heap.size ≤ q → A q := fun q h => by rw [← hAe]; exact Or.inr h
  have hS : va_S A s.heap s.heap [] := va_S.rf
  have hl := lv_entry ([.ref o1]) (n := 1) (Nat.le_of_ble_eq_true rfl)
  rw [lg_entry_eq]
  generalize (lg_sl ([.ref o1]) ++ List.replicate (1 - (lg_sl ([.ref o1])).length) Slot.unset).toArray = ls at hl ⊢
  have hl : lv_has ls 1 [(0, .ref o1)] := hl
  have t0 : stp [(12, 15)] [] [] S S := stp.rf hW
  refine lv_aload_n hx hb dX12_isSound_0 rfl (lv_at hl 0 rfl) ?_
  refine lv_iconst (v := 1) hx hb dX12_isSound_1 (by decide) ?_
  have l32_1 : (1 : Int32).toInt = 1 := rfl
  have hFc := free_all hD hS hA
  obtain ⟨k1, gk1, hk1⟩ := wGt (cy := cy) X S h_o1.1 h_o1.2.1
  refine va_calli (va_runV (As := [.int (1 : Int32)]) (rest := []) ⟨hx, hb, hml, hown, hts⟩ (c_X12_says l (cy := cy) (X := X) (D := D) S _ o1 h_o1 (1 : Int32) (hW) (by rfl)) (cwV 1 hts gX12_isSound_X12_says rfl rfl rfl hd_X12_says ⟨Nat.le_of_ble_eq_true rfl, Nat.le_of_ble_eq_true rfl⟩) (pV (va_recv hK hP (q := (RX12, TX12, 34)) (ci := 16) (q0 := k1) rfl hk1) hP hK hD hN) rfl rfl hl.1 rfl (lv_room (Nat.le_of_ble_eq_true rfl)) dX12_isSound_2 ⟨(Nat.zero_le _), (Nat.zero_le _)⟩) hS (fun q _ h => hFc q h) hFc (fun r2 u t H1 locs ht hvm hw hB hz1 hk1 hS => ?_)
  obtain ⟨c3, w4, y5⟩ := hw
  obtain ⟨hP, hD⟩ := wd_post hFc ht hB
  generalize H1 = H at hP hS ⊢
  obtain ⟨S6, rfl⟩ : ∃ z, z = u := ⟨_, rfl⟩
  have t7 : stp [(12, 15)] [] [] S S6 := t0.tr w4 (by decide) (fun _ q => absurd q List.not_mem_nil)
  have xe8 : ext S S6 := w4.x
  refine W.widen (k := 0) (n := 0) (Nat.le_of_ble_eq_true rfl) (Nat.le_of_ble_eq_true rfl) ?_
  exact W.zret (v := r2) hx hb hr (y5) (fun t ht hW9 => ⟨⟨r2, S6, rfl, ⟨t7, (y5)⟩, wd_end hP hK hD ht hW9.alike⟩, hS.F ht⟩) hS.2.2 dX12_isSound_5 hlocks
theorem hi_X12_cutShare_X10 : ∀ w ∈ u_ws RX10 TX10 23, w ∈ wsX12_cutShare := by decide +kernel
theorem hi_X12_cutShare_X12 : ∀ w ∈ u_ws RX12 TX12 34, w ∈ wsX12_cutShare := by decide +kernel
theorem hd_X12_cutShare : yX12_cutShare.cls = RX12 ∧ yX12_cutShare.cls ≠ "java/lang/invoke/MethodHandle" ∧ yX12_cutShare.cls ≠ "java/lang/invoke/VarHandle" ∧ (parseMethodDescriptor yX12_cutShare.desc).map (fun d => d.parameters.length) = some 0 := by decide +kernel
set_option maxHeartbeats 4000000 in
set_option maxRecDepth 100000 in
theorem c_X12_cutShare (l : Launch) {D : va_G} {cy : Nat → ClassId} {X : va_W} (S : wPS) (sz : Nat) (o1 : Nat) (h_o1 : isA S o1 12) (hW : wtB S [])  : Met l yX12_cutShare wsX12_cutShare ({ frames := 4, cells := 0, slots := 0, locals := 85 }) (va_Pc [.ref o1] (fun U => U.heap.size = sz ∧ WD D cy X (fun _ => True) S U ∧ NW U)) (va_Qf (fun r (u : wPS) => stp [(12, 15)] [] [] S u) (fun u t => WD D cy X (va_A (X ++ PL cy S) sz) u t) (va_A (X ++ PL cy S) sz)) 0 0 (va_A (X ++ PL cy S) sz) := by
  refine Met.ofW (cc := cX12_cutShare) (maxL := 3) (ret := (some .float)) (by decide) rfl ?_
  intro p e s m args below meth c s₁ B hml hv
  obtain ⟨rfl, hsz, ⟨hP, hK, hD0⟩, hN⟩ := hv
  have hx := B.exec
  have hb := B.bytes
  have hr := B.returns
  have hts := atoms_spec (ws := wsX12_cutShare) B.pre
  have hown : s.vm.findClass RX12 = some m.cls := findClass_of_methodNamed (x := yX12_cutShare) B.named
  have hlocks := B.notSynchronized
  subst hsz
  have hD := hD0.self (sz := s.heap.size)
  generalize hAe : va_A (X ++ PL cy S) s.heap.size = A at hD ⊢
  have hA : ∀ q : Nat, s.heap.size ≤ q → A q := fun q h => by rw [← hAe]; exact Or.inr h
  have hS : va_S A s.heap s.heap [] := va_S.rf
  have hl := lv_entry ([.ref o1]) (n := 3) (Nat.le_of_ble_eq_true rfl)
  rw [lg_entry_eq]
  generalize (lg_sl ([.ref o1]) ++ List.replicate (3 - (lg_sl ([.ref o1])).length) Slot.unset).toArray = ls at hl ⊢
  have hl : lv_has ls 3 [(0, .ref o1)] := hl
  have t0 : stp [(12, 15)] [] [] S S := stp.rf hW
  have F1 := ((hW.at h_o1 List.not_mem_nil).to_12 h_o1.2.1).F0
  refine lv_iconst (v := 0) hx hb dX12_cutShare_0 (by decide) ?_
  refine lv_istore_n (lv' := [(1, .int (0 : Int32)), (0, .ref o1)]) hx hb dX12_cutShare_1 rfl hl (by decide) rfl (fun ls hl => ?_)
  refine lv_iconst (v := 0) hx hb dX12_cutShare_2 (by decide) ?_
  refine lv_istore_n (lv' := [(2, .int (0 : Int32)), (1, .int (0 : Int32)), (0, .ref o1)]) hx hb dX12_cutShare_3 rfl hl (by decide) rfl (fun ls hl => ?_)
  have l32_0 : (0 : Int32).toInt = 0 := rfl
  have loop4 : ∀ (n : Nat) (w4_1 : Int32) (w4_2 : Int32) (H : Heap) (locs : List Loc) (ls : Array Slot), (21 - w4_2.toInt).toNat < n → 0 ≤ w4_1.toInt ∧ w4_1.toInt ≤ w4_2.toInt ∧ w4_2.toInt ≤ 20 → va_P D vwCl (X ++ PL cy S) H → va_S A s.heap H locs → lv_has ls 3 [(2, .int w4_2), (1, .int w4_1), (0, .ref o1)] → (∀ (w4_1x : Int32) (w4_2x : Int32) (H : Heap) (locs : List Loc) (ls : Array Slot), 0 ≤ w4_1x.toInt ∧ w4_1x.toInt ≤ w4_2x.toInt ∧ w4_2x.toInt ≤ 20 → va_P D vwCl (X ++ PL cy S) H → va_S A s.heap H locs → lv_has ls 3 [(2, .int w4_2x), (1, .int w4_1x), (0, .ref o1)] → W p l e (headSpec wsX12_cutShare ({ frames := 4, cells := 0, slots := 0, locals := 85 } : Room)).room s m [.ref o1].toArray below meth c H locs 0 0 (MQ below (va_Qf (fun r (u : wPS) => stp [(12, 15)] [] [] S u) (fun u t => WD D cy X A u t) A) [.ref o1].toArray s 0 0 A) (F0 m 40 ls [])) → W p l e (headSpec wsX12_cutShare ({ frames := 4, cells := 0, slots := 0, locals := 85 } : Room)).room s m [.ref o1].toArray below meth c H locs 0 0 (MQ below (va_Qf (fun r (u : wPS) => stp [(12, 15)] [] [] S u) (fun u t => WD D cy X A u t) A) [.ref o1].toArray s 0 0 A) (F0 m 4 ls []) := by
    intro n4
    induction n4 with
    | zero => intro w4_1 w4_2 H locs ls hm; exact absurd hm (Nat.not_lt_zero _)
    | succ n4 ih4 =>
      intro w4_1 w4_2 H locs ls hm4 hi4 hP hS hl ko4
      refine lv_iload_n hx hb dX12_cutShare_4 rfl (lv_at hl 0 rfl) ?_
      refine lv_aload_n hx hb dX12_cutShare_5 rfl (lv_at hl 2 rfl) ?_
      obtain ⟨k2, gk2, hk2⟩ := wGt (cy := cy) X S h_o1.1 h_o1.2.1
      simp only [kE, F1.1] at hk2
      refine va_get (D := D) (ci := 16) (v := .ref (S.f o1 0)) (C := RX12) (T := TX12) (N := 34) hx hb hts hi_X12_cutShare_X12 hown hK hP k2 hk2 rfl 0 (by decide) (hts (.fieldLink RX12 24 "HobhouseModel" "gears" "Ljava/util/ArrayList;") (by decide +kernel)) (fun _ h9 => h9) rfl dX12_cutShare_6 ?_
      have hFc := free_all hD hS hA
      obtain ⟨k3, gk3, hk3⟩ := wGt (cy := cy) X S F1.2.1.1 F1.2.1.2.1
      refine va_calli (va_runV (As := []) (rest := [.int w4_2]) ⟨hx, hb, hml, hown, hts⟩ (c_Jx4a65c_size_8abf5 l (cy := cy) (X := X) (D := D) S _ (S.f o1 0) F1.2.1) (cwV 0 hts gX12_cutShare_Jx4a65c_size_8abf5 rfl rfl rfl hd_Jx4a65c_size_8abf5 ⟨Nat.le_of_ble_eq_true rfl, Nat.le_of_ble_eq_true rfl⟩) (pV (va_recv hK hP (q := (RJx4a65c, TJx4a65c, 3)) (ci := 3) (q0 := k3) rfl hk3) hP hK hD hN) rfl rfl hl.1 rfl (lv_room (Nat.le_of_ble_eq_true rfl)) dX12_cutShare_9 ⟨(Nat.zero_le _), (Nat.zero_le _)⟩) hS (fun q _ h => hFc q h) hFc (fun r4 u t H1 locs ht hvm hw hB hz1 hk1 hS => ?_)
      have c5 := hw
      obtain ⟨hP, hD⟩ := wd_post hFc ht hB
      generalize H1 = H at hP hS ⊢
      obtain rfl : f_Jx4a65c_size_8abf5 S (S.f o1 0) = r4 := c5.symm
      have i6 := al_sz ((hW.at F1.2.1 List.not_mem_nil).to_14 F1.2.1.2.1)
      have i7 : (f_Jx4a65c_size_8abf5 S (S.f o1 0)).toInt = (S.I (S.f o1 0) 2).toInt := rfl
      refine lv_icmp_ge (tgt := 40) hx hb dX12_cutShare_12 (by decide) (fun c8 => ?_) (fun c8 => ?_)
      · have c8i : (f_Jx4a65c_size_8abf5 S (S.f o1 0)).toInt ≤ w4_2.toInt := le_v rfl rfl c8
        exact ko4 w4_1 w4_2 _ _ _ (by omega) hP hS (lv_sub hl [0, 1, 2] rfl)
      · have c8i : w4_2.toInt < (f_Jx4a65c_size_8abf5 S (S.f o1 0)).toInt := nle_v rfl rfl c8
        refine lv_iload_n hx hb dX12_cutShare_15 rfl (lv_at hl 1 rfl) ?_
        refine lv_aload_n hx hb dX12_cutShare_16 rfl (lv_at hl 2 rfl) ?_
        refine lv_iload_n hx hb dX12_cutShare_17 rfl (lv_at hl 0 rfl) ?_
        have hFc := free_all hD hS hA
        obtain ⟨k9, gk9, hk9⟩ := wGt (cy := cy) X S h_o1.1 h_o1.2.1
        refine va_callq (va_runV (As := [.int w4_2]) (rest := [.int w4_1]) ⟨hx, hb, hml, hown, hts⟩ (c_X12_gearAt l (cy := cy) (X := X) (D := D) S _ o1 h_o1 w4_2 (hW) (by rw [f_of F1.1]; omega)) (cwV 1 hts gX12_cutShare_X12_gearAt rfl rfl rfl hd_X12_gearAt ⟨Nat.le_of_ble_eq_true rfl, Nat.le_of_ble_eq_true rfl⟩) (pV (va_recv hK hP (q := (RX12, TX12, 34)) (ci := 16) (q0 := k9) rfl hk9) hP hK hD hN) rfl rfl hl.1 rfl (lv_room (Nat.le_of_ble_eq_true rfl)) dX12_cutShare_18 ⟨(Nat.zero_le _), (Nat.zero_le _)⟩) hS (fun q _ h => hFc q h) hFc (fun r10 u t H1 locs ht hvm hw hB hz1 hk1 hS => ?_)
        obtain ⟨r10, rfl, c11, o12⟩ := hw
        obtain ⟨hP, hD⟩ := wd_post hFc ht hB
        generalize H1 = H at hP hS ⊢
        refine W.eq (g2 := F0 m 21 ls [.ref r10, .int w4_1]) rfl ?_
        obtain ⟨k13, gk13, hk13⟩ := wGt (cy := cy) X S o12.1 o12.2.1
        have i14 := ((hW.at o12 List.not_mem_nil).to_10 o12.2.1).R18
        refine va_getN (D := D) (ci := 14) (v := .int (S.I r10 18)) (C := RX10) (T := TX10) (N := 23) hx hb hts hi_X12_cutShare_X10 hown hK hP k13 hk13 rfl 18 (by decide) (va_Nw.use rfl (hN (.fieldLinkNest RX12 160 "HobhouseModel$Gear" "isCut" "Z" "HobhouseModel") (by decide +kernel))) (fun _ h9 => h9) rfl dX12_cutShare_21 ?_
        refine lv_if_eq (tgt := 31) hx hb dX12_cutShare_24 (by decide) (fun c15 => ?_) (fun c15 => ?_)
        · have c15i : (S.I r10 18).toInt = 0 := eq_v rfl rfl c15
          refine lv_iconst (v := 0) hx hb dX12_cutShare_31 (by decide) ?_
          refine lv_iadd hx hb dX12_cutShare_32 ?_
          refine lv_istore_n (lv' := [(1, .int (w4_1 + (0 : Int32))), (2, .int w4_2), (0, .ref o1)]) hx hb dX12_cutShare_33 rfl hl (by decide) rfl (fun ls hl => ?_)
          refine lv_iinc (v := w4_2 + (1 : Int32)) (lv' := [(2, .int (w4_2 + (1 : Int32))), (1, .int (w4_1 + (0 : Int32))), (0, .ref o1)]) hx hb dX12_cutShare_34 hl (k := 1) rfl (by rfl) (by decide) rfl (fun ls hl => ?_)
          refine lv_goto (tgt := 4) hx hb dX12_cutShare_37 (by decide) ?_
          have i16 : (w4_1 + (0 : Int32)).toInt = w4_1.toInt + 0 := t_addr (n := 0) rfl (by omega)
          have l32_1 : (1 : Int32).toInt = 1 := rfl
          have i17 : (w4_2 + (1 : Int32)).toInt = w4_2.toInt + 1 := t_addr (n := 1) rfl (by omega)
          exact ih4 (w4_1 + (0 : Int32)) (w4_2 + (1 : Int32)) _ _ _ (Nat.lt_of_lt_of_le (by omega) (Nat.le_of_lt_succ hm4)) (by omega) hP hS (lv_sub hl [0, 1, 2] rfl) ko4
        · have c15i : ¬ (S.I r10 18).toInt = 0 := neq_v rfl rfl c15
          refine lv_iconst (v := 1) hx hb dX12_cutShare_27 (by decide) ?_
          refine lv_goto (tgt := 32) hx hb dX12_cutShare_28 (by decide) ?_
          refine lv_iadd hx hb dX12_cutShare_32 ?_
          refine lv_istore_n (lv' := [(1, .int (w4_1 + (1 : Int32))), (2, .int w4_2), (0, .ref o1)]) hx hb dX12_cutShare_33 rfl hl (by decide) rfl (fun ls hl => ?_)
          refine lv_iinc (v := w4_2 + (1 : Int32)) (lv' := [(2, .int (w4_2 + (1 : Int32))), (1, .int (w4_1 + (1 : Int32))), (0, .ref o1)]) hx hb dX12_cutShare_34 hl (k := 1) rfl (by rfl) (by decide) rfl (fun ls hl => ?_)
          refine lv_goto (tgt := 4) hx hb dX12_cutShare_37 (by decide) ?_
          have l32_1 : (1 : Int32).toInt = 1 := rfl
          have i18 : (w4_1 + (1 : Int32)).toInt = w4_1.toInt + 1 := t_addr (n := 1) rfl (by omega)
          have i19 : (w4_2 + (1 : Int32)).toInt = w4_2.toInt + 1 := t_addr (n := 1) rfl (by omega)
          exact ih4 (w4_1 + (1 : Int32)) (w4_2 + (1 : Int32)) _ _ _ (Nat.lt_of_lt_of_le (by omega) (Nat.le_of_lt_succ hm4)) (by omega) hP hS (lv_sub hl [0, 1, 2] rfl) ko4
  refine loop4 22 (0 : Int32) (0 : Int32) _ _ _ (by omega) (by omega) hP hS (lv_sub hl [0, 1, 2] rfl) (fun z21 z22 H locs ls hi4 hP hS hl => ?_)
  refine lv_aload_n hx hb dX12_cutShare_40 rfl (lv_at hl 2 rfl) ?_
  refine lv_aload_n hx hb dX12_cutShare_41 rfl (lv_at hl 2 rfl) ?_
  obtain ⟨k23, gk23, hk23⟩ := wGt (cy := cy) X S h_o1.1 h_o1.2.1
  simp only [kE, F1.1] at hk23
  refine va_get (D := D) (ci := 16) (v := .ref (S.f o1 0)) (C := RX12) (T := TX12) (N := 34) hx hb hts hi_X12_cutShare_X12 hown hK hP k23 hk23 rfl 0 (by decide) (hts (.fieldLink RX12 24 "HobhouseModel" "gears" "Ljava/util/ArrayList;") (by decide +kernel)) (fun _ h9 => h9) rfl dX12_cutShare_42 ?_
  have hFc := free_all hD hS hA
  obtain ⟨k24, gk24, hk24⟩ := wGt (cy := cy) X S F1.2.1.1 F1.2.1.2.1
  refine va_calli (va_runV (As := []) (rest := [.ref o1]) ⟨hx, hb, hml, hown, hts⟩ (c_Jx4a65c_isEmpty_aae02 l (cy := cy) (X := X) (D := D) S _ (S.f o1 0) F1.2.1) (cwV 0 hts gX12_cutShare_Jx4a65c_isEmpty_aae02 rfl rfl rfl hd_Jx4a65c_isEmpty_aae02 ⟨Nat.le_of_ble_eq_true rfl, Nat.le_of_ble_eq_true rfl⟩) (pV (va_recv hK hP (q := (RJx4a65c, TJx4a65c, 3)) (ci := 3) (q0 := k24) rfl hk24) hP hK hD hN) rfl rfl hl.1 rfl (lv_room (Nat.le_of_ble_eq_true rfl)) dX12_cutShare_45 ⟨(Nat.zero_le _), (Nat.zero_le _)⟩) hS (fun q _ h => hFc q h) hFc (fun r25 u t H1 locs ht hvm hw hB hz1 hk1 hS => ?_)
  have c26 := hw
  obtain ⟨hP, hD⟩ := wd_post hFc ht hB
  generalize H1 = H at hP hS ⊢
  obtain rfl : f_Jx4a65c_isEmpty_aae02 S (S.f o1 0) = r25 := c26.symm
  have i27 := al_em (S := S) (a := (S.f o1 0))
  refine lv_if_eq (tgt := 55) hx hb dX12_cutShare_48 (by decide) (fun c28 => ?_) (fun c28 => ?_)
  · have c28i : (f_Jx4a65c_isEmpty_aae02 S (S.f o1 0)).toInt = 0 := eq_v rfl rfl c28
    refine lv_iconst (v := 0) hx hb dX12_cutShare_55 (by decide) ?_
    obtain ⟨k29, gk29, hk29⟩ := wGt (cy := cy) X S h_o1.1 h_o1.2.1
    refine va_put (D := D) (ci := 16) (v := .int (0 : Int32)) (ty := .int) (C := RX12) (T := TX12) (N := 34) hx hb hts hi_X12_cutShare_X12 tyX12 tyX12_ok nmX12 hown hK hP hD hS k29 hk29 rfl 15 (by decide) (hts (.fieldLink RX12 94 "HobhouseModel" "thrown" "I") (by decide +kernel)) (fun _ h9 => h9) rfl (by decide +kernel) (rfl) (rfl) (Nat.le_of_ble_eq_true rfl) dX12_cutShare_56 (fun H locs hP2 hD2 hS => ?_)
    have e9 := wPuI (cy := cy) (j := 15) (v := (0 : Int32)) hD h_o1.1 h_o1.2.1 gk29 rfl
    obtain ⟨S30, hS30⟩ : ∃ z, S.sI o1 15 (0 : Int32) = z := ⟨_, rfl⟩
    have hP : va_P D vwCl (X ++ PL cy S30) H := by rw [← hS30, ← e9]; exact hP2
    have hD : va_D A (X ++ PL cy S30) := by rw [← hS30, ← e9]; exact hD2
    have xe31 : ext S S30 := by rw [← hS30]; exact ext.sI _ _ _ _
    have t32 : stp [(12, 15)] [] [] S S30 := by rw [← hS30]; exact t0.I 15 (0 : Int32) h_o1 (by decide) (trivial) (Or.inl (by decide))
    have k33 : (S30.I (S.f o1 0) 2).toInt = (S.I (S.f o1 0) 2).toInt := by rw [← hS30]; exact congrArg Int32.toInt (sI_I (by rintro ⟨e1, e2⟩; exact absurd e2 (by decide)))
    have k34 : (S30.I o1 15).toInt = (0 : Int32).toInt := by rw [← hS30, sI_eq]
    have l0 : (0 : Int32).toInt = 0 := rfl
    have l1 : (1 : Int32).toInt = 1 := rfl
    refine lv_aload_n hx hb dX12_cutShare_59 rfl (lv_at hl 2 rfl) ?_
    obtain ⟨k35, gk35, hk35⟩ := wGt (cy := cy) X S30 (xe31.A h_o1).1 (xe31.A h_o1).2.1
    refine va_get (D := D) (ci := 16) (v := .int (S30.I o1 15)) (C := RX12) (T := TX12) (N := 34) hx hb hts hi_X12_cutShare_X12 hown hK hP k35 hk35 rfl 15 (by decide) (hts (.fieldLink RX12 94 "HobhouseModel" "thrown" "I") (by decide +kernel)) (fun _ h9 => h9) rfl dX12_cutShare_60 ?_
    refine lv_if_le (tgt := 70) hx hb dX12_cutShare_63 (by decide) (fun c36 => ?_) (fun c36 => ?_)
    · have c36i : (S30.I o1 15).toInt ≤ 0 := le_v rfl rfl c36
      refine lv_iload_n hx hb dX12_cutShare_70 rfl (lv_at hl 1 rfl) ?_
      refine lv_i2f hx hb dX12_cutShare_71 ?_
      refine lv_aload_n hx hb dX12_cutShare_72 rfl (lv_at hl 2 rfl) ?_
      obtain ⟨k37, gk37, hk37⟩ := wGt (cy := cy) X S30 (xe31.A h_o1).1 (xe31.A h_o1).2.1
      simp only [kE, (xe31.F h_o1 (by decide) F1.1)] at hk37
      refine va_get (D := D) (ci := 16) (v := .ref (S.f o1 0)) (C := RX12) (T := TX12) (N := 34) hx hb hts hi_X12_cutShare_X12 hown hK hP k37 hk37 rfl 0 (by decide) (hts (.fieldLink RX12 24 "HobhouseModel" "gears" "Ljava/util/ArrayList;") (by decide +kernel)) (fun _ h9 => h9) rfl dX12_cutShare_73 ?_
      have hFc := free_all hD hS hA
      obtain ⟨k38, gk38, hk38⟩ := wGt (cy := cy) X S30 (xe31.A F1.2.1).1 (xe31.A F1.2.1).2.1
      refine va_calli (va_runV (As := []) (rest := [.float (FP.i2f z21)]) ⟨hx, hb, hml, hown, hts⟩ (c_Jx4a65c_size_8abf5 l (cy := cy) (X := X) (D := D) S30 _ (S.f o1 0) (xe31.A F1.2.1)) (cwV 0 hts gX12_cutShare_Jx4a65c_size_8abf5 rfl rfl rfl hd_Jx4a65c_size_8abf5 ⟨Nat.le_of_ble_eq_true rfl, Nat.le_of_ble_eq_true rfl⟩) (pV (va_recv hK hP (q := (RJx4a65c, TJx4a65c, 3)) (ci := 3) (q0 := k38) rfl hk38) hP hK hD hN) rfl rfl hl.1 rfl (lv_room (Nat.le_of_ble_eq_true rfl)) dX12_cutShare_76 ⟨(Nat.zero_le _), (Nat.zero_le _)⟩) hS (fun q _ h => hFc q h) hFc (fun r39 u t H1 locs ht hvm hw hB hz1 hk1 hS => ?_)
      have c40 := hw
      obtain ⟨hP, hD⟩ := wd_post hFc ht hB
      generalize H1 = H at hP hS ⊢
      obtain rfl : f_Jx4a65c_size_8abf5 S30 (S.f o1 0) = r39 := c40.symm
      have i41 := al_sz ((t32.w.at (xe31.A F1.2.1) List.not_mem_nil).to_14 (xe31.A F1.2.1).2.1)
      have i42 : (f_Jx4a65c_size_8abf5 S30 (S.f o1 0)).toInt = (S30.I (S.f o1 0) 2).toInt := rfl
      refine lv_i2f hx hb dX12_cutShare_79 ?_
      refine lv_fdiv hx hb dX12_cutShare_80 (fdn (by omega) (by omega)) ?_
      refine W.widen (k := 0) (n := 0) (Nat.le_of_ble_eq_true rfl) (Nat.le_of_ble_eq_true rfl) ?_
      exact W.fret (v := FP.fdiv (FP.i2f z21) (FP.i2f (f_Jx4a65c_size_8abf5 S30 (S.f o1 0)))) hx hb hr (fun t ht hW9 => ⟨⟨FP.fdiv (FP.i2f z21) (FP.i2f (f_Jx4a65c_size_8abf5 S30 (S.f o1 0))), S30, rfl, t32, wd_end hP hK hD ht hW9.alike⟩, hS.F ht⟩) hS.2.2 dX12_cutShare_81 hlocks
    · have c36i : 0 < (S30.I o1 15).toInt := nle_v rfl rfl c36
      refine lv_fconst0 hx hb dX12_cutShare_66 ?_
      refine lv_goto (tgt := 81) hx hb dX12_cutShare_67 (by decide) ?_
      refine W.widen (k := 0) (n := 0) (Nat.le_of_ble_eq_true rfl) (Nat.le_of_ble_eq_true rfl) ?_
      exact W.fret (v := FP.fconst0) hx hb hr (fun t ht hW9 => ⟨⟨FP.fconst0, S30, rfl, t32, wd_end hP hK hD ht hW9.alike⟩, hS.F ht⟩) hS.2.2 dX12_cutShare_81 hlocks
  · have c28i : ¬ (f_Jx4a65c_isEmpty_aae02 S (S.f o1 0)).toInt = 0 := neq_v rfl rfl c28
    refine lv_iconst (v := 1) hx hb dX12_cutShare_51 (by decide) ?_
    refine lv_goto (tgt := 56) hx hb dX12_cutShare_52 (by decide) ?_
    obtain ⟨k43, gk43, hk43⟩ := wGt (cy := cy) X S h_o1.1 h_o1.2.1
    refine va_put (D := D) (ci := 16) (v := .int (1 : Int32)) (ty := .int) (C := RX12) (T := TX12) (N := 34) hx hb hts hi_X12_cutShare_X12 tyX12 tyX12_ok nmX12 hown hK hP hD hS k43 hk43 rfl 15 (by decide) (hts (.fieldLink RX12 94 "HobhouseModel" "thrown" "I") (by decide +kernel)) (fun _ h9 => h9) rfl (by decide +kernel) (rfl) (rfl) (Nat.le_of_ble_eq_true rfl) dX12_cutShare_56 (fun H locs hP2 hD2 hS => ?_)
    have e9 := wPuI (cy := cy) (j := 15) (v := (1 : Int32)) hD h_o1.1 h_o1.2.1 gk43 rfl
    obtain ⟨S44, hS44⟩ : ∃ z, S.sI o1 15 (1 : Int32) = z := ⟨_, rfl⟩
    have hP : va_P D vwCl (X ++ PL cy S44) H := by rw [← hS44, ← e9]; exact hP2
    have hD : va_D A (X ++ PL cy S44) := by rw [← hS44, ← e9]; exact hD2
    have xe45 : ext S S44 := by rw [← hS44]; exact ext.sI _ _ _ _
    have t46 : stp [(12, 15)] [] [] S S44 := by rw [← hS44]; exact t0.I 15 (1 : Int32) h_o1 (by decide) (trivial) (Or.inl (by decide))
    have k47 : (S44.I (S.f o1 0) 2).toInt = (S.I (S.f o1 0) 2).toInt := by rw [← hS44]; exact congrArg Int32.toInt (sI_I (by rintro ⟨e1, e2⟩; exact absurd e2 (by decide)))
    have k48 : (S44.I o1 15).toInt = (1 : Int32).toInt := by rw [← hS44, sI_eq]
    have l0 : (0 : Int32).toInt = 0 := rfl
    have l1 : (1 : Int32).toInt = 1 := rfl
    refine lv_aload_n hx hb dX12_cutShare_59 rfl (lv_at hl 2 rfl) ?_
    obtain ⟨k49, gk49, hk49⟩ := wGt (cy := cy) X S44 (xe45.A h_o1).1 (xe45.A h_o1).2.1
    refine va_get (D := D) (ci := 16) (v := .int (S44.I o1 15)) (C := RX12) (T := TX12) (N := 34) hx hb hts hi_X12_cutShare_X12 hown hK hP k49 hk49 rfl 15 (by decide) (hts (.fieldLink RX12 94 "HobhouseModel" "thrown" "I") (by decide +kernel)) (fun _ h9 => h9) rfl dX12_cutShare_60 ?_
    refine lv_if_le (tgt := 70) hx hb dX12_cutShare_63 (by decide) (fun c50 => ?_) (fun c50 => ?_)
    · have c50i : (S44.I o1 15).toInt ≤ 0 := le_v rfl rfl c50
      refine lv_iload_n hx hb dX12_cutShare_70 rfl (lv_at hl 1 rfl) ?_
      refine lv_i2f hx hb dX12_cutShare_71 ?_
      refine lv_aload_n hx hb dX12_cutShare_72 rfl (lv_at hl 2 rfl) ?_
      obtain ⟨k51, gk51, hk51⟩ := wGt (cy := cy) X S44 (xe45.A h_o1).1 (xe45.A h_o1).2.1
      simp only [kE, (xe45.F h_o1 (by decide) F1.1)] at hk51
      refine va_get (D := D) (ci := 16) (v := .ref (S.f o1 0)) (C := RX12) (T := TX12) (N := 34) hx hb hts hi_X12_cutShare_X12 hown hK hP k51 hk51 rfl 0 (by decide) (hts (.fieldLink RX12 24 "HobhouseModel" "gears" "Ljava/util/ArrayList;") (by decide +kernel)) (fun _ h9 => h9) rfl dX12_cutShare_73 ?_
      have hFc := free_all hD hS hA
      obtain ⟨k52, gk52, hk52⟩ := wGt (cy := cy) X S44 (xe45.A F1.2.1).1 (xe45.A F1.2.1).2.1
      refine va_calli (va_runV (As := []) (rest := [.float (FP.i2f z21)]) ⟨hx, hb, hml, hown, hts⟩ (c_Jx4a65c_size_8abf5 l (cy := cy) (X := X) (D := D) S44 _ (S.f o1 0) (xe45.A F1.2.1)) (cwV 0 hts gX12_cutShare_Jx4a65c_size_8abf5 rfl rfl rfl hd_Jx4a65c_size_8abf5 ⟨Nat.le_of_ble_eq_true rfl, Nat.le_of_ble_eq_true rfl⟩) (pV (va_recv hK hP (q := (RJx4a65c, TJx4a65c, 3)) (ci := 3) (q0 := k52) rfl hk52) hP hK hD hN) rfl rfl hl.1 rfl (lv_room (Nat.le_of_ble_eq_true rfl)) dX12_cutShare_76 ⟨(Nat.zero_le _), (Nat.zero_le _)⟩) hS (fun q _ h => hFc q h) hFc (fun r53 u t H1 locs ht hvm hw hB hz1 hk1 hS => ?_)
      have c54 := hw
      obtain ⟨hP, hD⟩ := wd_post hFc ht hB
      generalize H1 = H at hP hS ⊢
      obtain rfl : f_Jx4a65c_size_8abf5 S44 (S.f o1 0) = r53 := c54.symm
      have i55 := al_sz ((t46.w.at (xe45.A F1.2.1) List.not_mem_nil).to_14 (xe45.A F1.2.1).2.1)
      have i56 : (f_Jx4a65c_size_8abf5 S44 (S.f o1 0)).toInt = (S44.I (S.f o1 0) 2).toInt := rfl
      refine lv_i2f hx hb dX12_cutShare_79 ?_
      refine lv_fdiv hx hb dX12_cutShare_80 (fdn (by omega) (by omega)) ?_
      refine W.widen (k := 0) (n := 0) (Nat.le_of_ble_eq_true rfl) (Nat.le_of_ble_eq_true rfl) ?_
      exact W.fret (v := FP.fdiv (FP.i2f z21) (FP.i2f (f_Jx4a65c_size_8abf5 S44 (S.f o1 0)))) hx hb hr (fun t ht hW9 => ⟨⟨FP.fdiv (FP.i2f z21) (FP.i2f (f_Jx4a65c_size_8abf5 S44 (S.f o1 0))), S44, rfl, t46, wd_end hP hK hD ht hW9.alike⟩, hS.F ht⟩) hS.2.2 dX12_cutShare_81 hlocks
    · have c50i : 0 < (S44.I o1 15).toInt := nle_v rfl rfl c50
      refine lv_fconst0 hx hb dX12_cutShare_66 ?_
      refine lv_goto (tgt := 81) hx hb dX12_cutShare_67 (by decide) ?_
      refine W.widen (k := 0) (n := 0) (Nat.le_of_ble_eq_true rfl) (Nat.le_of_ble_eq_true rfl) ?_
      exact W.fret (v := FP.fconst0) hx hb hr (fun t ht hW9 => ⟨⟨FP.fconst0, S44, rfl, t46, wd_end hP hK hD ht hW9.alike⟩, hS.F ht⟩) hS.2.2 dX12_cutShare_81 hlocks
theorem hi_X12_meanGrade_X12 : ∀ w ∈ u_ws RX12 TX12 34, w ∈ wsX12_meanGrade := by decide +kernel
theorem hd_X12_meanGrade : yX12_meanGrade.cls = RX12 ∧ yX12_meanGrade.cls ≠ "java/lang/invoke/MethodHandle" ∧ yX12_meanGrade.cls ≠ "java/lang/invoke/VarHandle" ∧ (parseMethodDescriptor yX12_meanGrade.desc).map (fun d => d.parameters.length) = some 0 := by decide +kernel
set_option maxHeartbeats 4000000 in
set_option maxRecDepth 100000 in
theorem c_X12_meanGrade (l : Launch) {D : va_G} {cy : Nat → ClassId} {X : va_W} (S : wPS) (sz : Nat) (o1 : Nat) (h_o1 : isA S o1 12) (hW : wtB S [])  : Met l yX12_meanGrade wsX12_meanGrade ({ frames := 4, cells := 0, slots := 0, locals := 85 }) (va_Pc [.ref o1] (fun U => U.heap.size = sz ∧ WD D cy X (fun _ => True) S U ∧ NW U)) (va_Qd (fun r (u : wPS) => stp [(12, 15)] [] [] S u) (fun u t => WD D cy X (va_A (X ++ PL cy S) sz) u t) (va_A (X ++ PL cy S) sz)) 0 0 (va_A (X ++ PL cy S) sz) := by
  refine Met.ofW (cc := cX12_meanGrade) (maxL := 3) (ret := (some .double)) (by decide) rfl ?_
  intro p e s m args below meth c s₁ B hml hv
  obtain ⟨rfl, hsz, ⟨hP, hK, hD0⟩, hN⟩ := hv
  have hx := B.exec
  have hb := B.bytes
  have hr := B.returns
  have hts := atoms_spec (ws := wsX12_meanGrade) B.pre
  have hown : s.vm.findClass RX12 = some m.cls := findClass_of_methodNamed (x := yX12_meanGrade) B.named
  have hlocks := B.notSynchronized
  subst hsz
  have hD := hD0.self (sz := s.heap.size)
  generalize hAe : va_A (X ++ PL cy S) s.heap.size = A at hD ⊢
  have hA : ∀ q : Nat, s.heap.size ≤ q → A q := fun q h => by rw [← hAe]; exact Or.inr h
  have hS : va_S A s.heap s.heap [] := va_S.rf
  have hl := lv_entry ([.ref o1]) (n := 3) (Nat.le_of_ble_eq_true rfl)
  rw [lg_entry_eq]
  generalize (lg_sl ([.ref o1]) ++ List.replicate (3 - (lg_sl ([.ref o1])).length) Slot.unset).toArray = ls at hl ⊢
  have hl : lv_has ls 3 [(0, .ref o1)] := hl
  have t0 : stp [(12, 15)] [] [] S S := stp.rf hW
  have F1 := ((hW.at h_o1 List.not_mem_nil).to_12 h_o1.2.1).F0
  refine lv_iconst (v := 0) hx hb dX12_meanGrade_0 (by decide) ?_
  refine lv_istore_n (lv' := [(1, .int (0 : Int32)), (0, .ref o1)]) hx hb dX12_meanGrade_1 rfl hl (by decide) rfl (fun ls hl => ?_)
  refine lv_iconst (v := 0) hx hb dX12_meanGrade_2 (by decide) ?_
  refine lv_istore_n (lv' := [(2, .int (0 : Int32)), (1, .int (0 : Int32)), (0, .ref o1)]) hx hb dX12_meanGrade_3 rfl hl (by decide) rfl (fun ls hl => ?_)
  have l32_0 : (0 : Int32).toInt = 0 := rfl
  have loop4 : ∀ (n : Nat) (w4_1 : Int32) (w4_2 : Int32) (H : Heap) (locs : List Loc) (ls : Array Slot), (21 - w4_2.toInt).toNat < n → 0 ≤ w4_1.toInt ∧ w4_1.toInt ≤ 13 * w4_2.toInt ∧ 0 ≤ w4_2.toInt ∧ w4_2.toInt ≤ 20 → va_P D vwCl (X ++ PL cy S) H → va_S A s.heap H locs → lv_has ls 3 [(2, .int w4_2), (1, .int w4_1), (0, .ref o1)] → (∀ (w4_1x : Int32) (w4_2x : Int32) (H : Heap) (locs : List Loc) (ls : Array Slot), 0 ≤ w4_1x.toInt ∧ w4_1x.toInt ≤ 13 * w4_2x.toInt ∧ 0 ≤ w4_2x.toInt ∧ w4_2x.toInt ≤ 20 → va_P D vwCl (X ++ PL cy S) H → va_S A s.heap H locs → lv_has ls 3 [(2, .int w4_2x), (1, .int w4_1x), (0, .ref o1)] → W p l e (headSpec wsX12_meanGrade ({ frames := 4, cells := 0, slots := 0, locals := 85 } : Room)).room s m [.ref o1].toArray below meth c H locs 0 0 (MQ below (va_Qd (fun r (u : wPS) => stp [(12, 15)] [] [] S u) (fun u t => WD D cy X A u t) A) [.ref o1].toArray s 0 0 A) (F0 m 32 ls [])) → W p l e (headSpec wsX12_meanGrade ({ frames := 4, cells := 0, slots := 0, locals := 85 } : Room)).room s m [.ref o1].toArray below meth c H locs 0 0 (MQ below (va_Qd (fun r (u : wPS) => stp [(12, 15)] [] [] S u) (fun u t => WD D cy X A u t) A) [.ref o1].toArray s 0 0 A) (F0 m 4 ls []) := by
    intro n4
    induction n4 with
    | zero => intro w4_1 w4_2 H locs ls hm; exact absurd hm (Nat.not_lt_zero _)
    | succ n4 ih4 =>
      intro w4_1 w4_2 H locs ls hm4 hi4 hP hS hl ko4
      refine lv_iload_n hx hb dX12_meanGrade_4 rfl (lv_at hl 0 rfl) ?_
      refine lv_aload_n hx hb dX12_meanGrade_5 rfl (lv_at hl 2 rfl) ?_
      obtain ⟨k2, gk2, hk2⟩ := wGt (cy := cy) X S h_o1.1 h_o1.2.1
      simp only [kE, F1.1] at hk2
      refine va_get (D := D) (ci := 16) (v := .ref (S.f o1 0)) (C := RX12) (T := TX12) (N := 34) hx hb hts hi_X12_meanGrade_X12 hown hK hP k2 hk2 rfl 0 (by decide) (hts (.fieldLink RX12 24 "HobhouseModel" "gears" "Ljava/util/ArrayList;") (by decide +kernel)) (fun _ h9 => h9) rfl dX12_meanGrade_6 ?_
      have hFc := free_all hD hS hA
      obtain ⟨k3, gk3, hk3⟩ := wGt (cy := cy) X S F1.2.1.1 F1.2.1.2.1
      refine va_calli (va_runV (As := []) (rest := [.int w4_2]) ⟨hx, hb, hml, hown, hts⟩ (c_Jx4a65c_size_8abf5 l (cy := cy) (X := X) (D := D) S _ (S.f o1 0) F1.2.1) (cwV 0 hts gX12_meanGrade_Jx4a65c_size_8abf5 rfl rfl rfl hd_Jx4a65c_size_8abf5 ⟨Nat.le_of_ble_eq_true rfl, Nat.le_of_ble_eq_true rfl⟩) (pV (va_recv hK hP (q := (RJx4a65c, TJx4a65c, 3)) (ci := 3) (q0 := k3) rfl hk3) hP hK hD hN) rfl rfl hl.1 rfl (lv_room (Nat.le_of_ble_eq_true rfl)) dX12_meanGrade_9 ⟨(Nat.zero_le _), (Nat.zero_le _)⟩) hS (fun q _ h => hFc q h) hFc (fun r4 u t H1 locs ht hvm hw hB hz1 hk1 hS => ?_)
      have c5 := hw
      obtain ⟨hP, hD⟩ := wd_post hFc ht hB
      generalize H1 = H at hP hS ⊢
      obtain rfl : f_Jx4a65c_size_8abf5 S (S.f o1 0) = r4 := c5.symm
      have i6 := al_sz ((hW.at F1.2.1 List.not_mem_nil).to_14 F1.2.1.2.1)
      have i7 : (f_Jx4a65c_size_8abf5 S (S.f o1 0)).toInt = (S.I (S.f o1 0) 2).toInt := rfl
      refine lv_icmp_ge (tgt := 32) hx hb dX12_meanGrade_12 (by decide) (fun c8 => ?_) (fun c8 => ?_)
      · have c8i : (f_Jx4a65c_size_8abf5 S (S.f o1 0)).toInt ≤ w4_2.toInt := le_v rfl rfl c8
        exact ko4 w4_1 w4_2 _ _ _ (by omega) hP hS (lv_sub hl [0, 1, 2] rfl)
      · have c8i : w4_2.toInt < (f_Jx4a65c_size_8abf5 S (S.f o1 0)).toInt := nle_v rfl rfl c8
        refine lv_iload_n hx hb dX12_meanGrade_15 rfl (lv_at hl 1 rfl) ?_
        refine lv_aload_n hx hb dX12_meanGrade_16 rfl (lv_at hl 2 rfl) ?_
        refine lv_iload_n hx hb dX12_meanGrade_17 rfl (lv_at hl 0 rfl) ?_
        have hFc := free_all hD hS hA
        obtain ⟨k9, gk9, hk9⟩ := wGt (cy := cy) X S h_o1.1 h_o1.2.1
        refine va_callq (va_runV (As := [.int w4_2]) (rest := [.int w4_1]) ⟨hx, hb, hml, hown, hts⟩ (c_X12_gearAt l (cy := cy) (X := X) (D := D) S _ o1 h_o1 w4_2 (hW) (by rw [f_of F1.1]; omega)) (cwV 1 hts gX12_meanGrade_X12_gearAt rfl rfl rfl hd_X12_gearAt ⟨Nat.le_of_ble_eq_true rfl, Nat.le_of_ble_eq_true rfl⟩) (pV (va_recv hK hP (q := (RX12, TX12, 34)) (ci := 16) (q0 := k9) rfl hk9) hP hK hD hN) rfl rfl hl.1 rfl (lv_room (Nat.le_of_ble_eq_true rfl)) dX12_meanGrade_18 ⟨(Nat.zero_le _), (Nat.zero_le _)⟩) hS (fun q _ h => hFc q h) hFc (fun r10 u t H1 locs ht hvm hw hB hz1 hk1 hS => ?_)
        obtain ⟨r10, rfl, c11, o12⟩ := hw
        obtain ⟨hP, hD⟩ := wd_post hFc ht hB
        generalize H1 = H at hP hS ⊢
        refine W.eq (g2 := F0 m 21 ls [.ref r10, .int w4_1]) rfl ?_
        have hFc := free_all hD hS hA
        obtain ⟨k13, gk13, hk13⟩ := wGt (cy := cy) X S o12.1 o12.2.1
        refine va_calli (va_runV (As := []) (rest := [.int w4_1]) ⟨hx, hb, hml, hown, hts⟩ (c_X10_grade l (cy := cy) (X := X) (D := D) S _ r10 o12 (hW)) (cwV 0 hts gX12_meanGrade_X10_grade rfl rfl rfl hd_X10_grade ⟨Nat.le_of_ble_eq_true rfl, Nat.le_of_ble_eq_true rfl⟩) (pV (va_recv hK hP (q := (RX10, TX10, 23)) (ci := 14) (q0 := k13) rfl hk13) hP hK hD hN) rfl rfl hl.1 rfl (lv_room (Nat.le_of_ble_eq_true rfl)) dX12_meanGrade_21 ⟨(Nat.zero_le _), (Nat.zero_le _)⟩) hS (fun q _ h => hFc q h) hFc (fun r14 u t H1 locs ht hvm hw hB hz1 hk1 hS => ?_)
        have y15 := hw
        obtain ⟨hP, hD⟩ := wd_post hFc ht hB
        generalize H1 = H at hP hS ⊢
        refine lv_iadd hx hb dX12_meanGrade_24 ?_
        refine lv_istore_n (lv' := [(1, .int (w4_1 + r14)), (2, .int w4_2), (0, .ref o1)]) hx hb dX12_meanGrade_25 rfl hl (by decide) rfl (fun ls hl => ?_)
        refine lv_iinc (v := w4_2 + (1 : Int32)) (lv' := [(2, .int (w4_2 + (1 : Int32))), (1, .int (w4_1 + r14)), (0, .ref o1)]) hx hb dX12_meanGrade_26 hl (k := 1) rfl (by rfl) (by decide) rfl (fun ls hl => ?_)
        refine lv_goto (tgt := 4) hx hb dX12_meanGrade_29 (by decide) ?_
        have i16 : (w4_1 + r14).toInt = w4_1.toInt + r14.toInt := t_add (by omega)
        have l32_1 : (1 : Int32).toInt = 1 := rfl
        have i17 : (w4_2 + (1 : Int32)).toInt = w4_2.toInt + 1 := t_addr (n := 1) rfl (by omega)
        exact ih4 (w4_1 + r14) (w4_2 + (1 : Int32)) _ _ _ (Nat.lt_of_lt_of_le (by omega) (Nat.le_of_lt_succ hm4)) (by omega) hP hS (lv_sub hl [0, 1, 2] rfl) ko4
  refine loop4 22 (0 : Int32) (0 : Int32) _ _ _ (by omega) (by omega) hP hS (lv_sub hl [0, 1, 2] rfl) (fun z19 z20 H locs ls hi4 hP hS hl => ?_)
  refine lv_aload_n hx hb dX12_meanGrade_32 rfl (lv_at hl 2 rfl) ?_
  refine lv_aload_n hx hb dX12_meanGrade_33 rfl (lv_at hl 2 rfl) ?_
  obtain ⟨k21, gk21, hk21⟩ := wGt (cy := cy) X S h_o1.1 h_o1.2.1
  simp only [kE, F1.1] at hk21
  refine va_get (D := D) (ci := 16) (v := .ref (S.f o1 0)) (C := RX12) (T := TX12) (N := 34) hx hb hts hi_X12_meanGrade_X12 hown hK hP k21 hk21 rfl 0 (by decide) (hts (.fieldLink RX12 24 "HobhouseModel" "gears" "Ljava/util/ArrayList;") (by decide +kernel)) (fun _ h9 => h9) rfl dX12_meanGrade_34 ?_
  have hFc := free_all hD hS hA
  obtain ⟨k22, gk22, hk22⟩ := wGt (cy := cy) X S F1.2.1.1 F1.2.1.2.1
  refine va_calli (va_runV (As := []) (rest := [.ref o1]) ⟨hx, hb, hml, hown, hts⟩ (c_Jx4a65c_isEmpty_aae02 l (cy := cy) (X := X) (D := D) S _ (S.f o1 0) F1.2.1) (cwV 0 hts gX12_meanGrade_Jx4a65c_isEmpty_aae02 rfl rfl rfl hd_Jx4a65c_isEmpty_aae02 ⟨Nat.le_of_ble_eq_true rfl, Nat.le_of_ble_eq_true rfl⟩) (pV (va_recv hK hP (q := (RJx4a65c, TJx4a65c, 3)) (ci := 3) (q0 := k22) rfl hk22) hP hK hD hN) rfl rfl hl.1 rfl (lv_room (Nat.le_of_ble_eq_true rfl)) dX12_meanGrade_37 ⟨(Nat.zero_le _), (Nat.zero_le _)⟩) hS (fun q _ h => hFc q h) hFc (fun r23 u t H1 locs ht hvm hw hB hz1 hk1 hS => ?_)
  have c24 := hw
  obtain ⟨hP, hD⟩ := wd_post hFc ht hB
  generalize H1 = H at hP hS ⊢
  obtain rfl : f_Jx4a65c_isEmpty_aae02 S (S.f o1 0) = r23 := c24.symm
  have i25 := al_em (S := S) (a := (S.f o1 0))
  refine lv_if_eq (tgt := 47) hx hb dX12_meanGrade_40 (by decide) (fun c26 => ?_) (fun c26 => ?_)
  · have c26i : (f_Jx4a65c_isEmpty_aae02 S (S.f o1 0)).toInt = 0 := eq_v rfl rfl c26
    refine lv_iconst (v := 0) hx hb dX12_meanGrade_47 (by decide) ?_
    obtain ⟨k27, gk27, hk27⟩ := wGt (cy := cy) X S h_o1.1 h_o1.2.1
    refine va_put (D := D) (ci := 16) (v := .int (0 : Int32)) (ty := .int) (C := RX12) (T := TX12) (N := 34) hx hb hts hi_X12_meanGrade_X12 tyX12 tyX12_ok nmX12 hown hK hP hD hS k27 hk27 rfl 15 (by decide) (hts (.fieldLink RX12 94 "HobhouseModel" "thrown" "I") (by decide +kernel)) (fun _ h9 => h9) rfl (by decide +kernel) (rfl) (rfl) (Nat.le_of_ble_eq_true rfl) dX12_meanGrade_48 (fun H locs hP2 hD2 hS => ?_)
    have e9 := wPuI (cy := cy) (j := 15) (v := (0 : Int32)) hD h_o1.1 h_o1.2.1 gk27 rfl
    obtain ⟨S28, hS28⟩ : ∃ z, S.sI o1 15 (0 : Int32) = z := ⟨_, rfl⟩
    have hP : va_P D vwCl (X ++ PL cy S28) H := by rw [← hS28, ← e9]; exact hP2
    have hD : va_D A (X ++ PL cy S28) := by rw [← hS28, ← e9]; exact hD2
    have xe29 : ext S S28 := by rw [← hS28]; exact ext.sI _ _ _ _
    have t30 : stp [(12, 15)] [] [] S S28 := by rw [← hS28]; exact t0.I 15 (0 : Int32) h_o1 (by decide) (trivial) (Or.inl (by decide))
    have k31 : (S28.I (S.f o1 0) 2).toInt = (S.I (S.f o1 0) 2).toInt := by rw [← hS28]; exact congrArg Int32.toInt (sI_I (by rintro ⟨e1, e2⟩; exact absurd e2 (by decide)))
    have k32 : (S28.I o1 15).toInt = (0 : Int32).toInt := by rw [← hS28, sI_eq]
    have l0 : (0 : Int32).toInt = 0 := rfl
    have l1 : (1 : Int32).toInt = 1 := rfl
    refine lv_aload_n hx hb dX12_meanGrade_51 rfl (lv_at hl 2 rfl) ?_
    obtain ⟨k33, gk33, hk33⟩ := wGt (cy := cy) X S28 (xe29.A h_o1).1 (xe29.A h_o1).2.1
    refine va_get (D := D) (ci := 16) (v := .int (S28.I o1 15)) (C := RX12) (T := TX12) (N := 34) hx hb hts hi_X12_meanGrade_X12 hown hK hP k33 hk33 rfl 15 (by decide) (hts (.fieldLink RX12 94 "HobhouseModel" "thrown" "I") (by decide +kernel)) (fun _ h9 => h9) rfl dX12_meanGrade_52 ?_
    refine lv_if_le (tgt := 62) hx hb dX12_meanGrade_55 (by decide) (fun c34 => ?_) (fun c34 => ?_)
    · have c34i : (S28.I o1 15).toInt ≤ 0 := le_v rfl rfl c34
      refine lv_iload_n hx hb dX12_meanGrade_62 rfl (lv_at hl 1 rfl) ?_
      refine lv_i2d hx hb dX12_meanGrade_63 ?_
      refine lv_aload_n hx hb dX12_meanGrade_64 rfl (lv_at hl 2 rfl) ?_
      obtain ⟨k35, gk35, hk35⟩ := wGt (cy := cy) X S28 (xe29.A h_o1).1 (xe29.A h_o1).2.1
      simp only [kE, (xe29.F h_o1 (by decide) F1.1)] at hk35
      refine va_get (D := D) (ci := 16) (v := .ref (S.f o1 0)) (C := RX12) (T := TX12) (N := 34) hx hb hts hi_X12_meanGrade_X12 hown hK hP k35 hk35 rfl 0 (by decide) (hts (.fieldLink RX12 24 "HobhouseModel" "gears" "Ljava/util/ArrayList;") (by decide +kernel)) (fun _ h9 => h9) rfl dX12_meanGrade_65 ?_
      have hFc := free_all hD hS hA
      obtain ⟨k36, gk36, hk36⟩ := wGt (cy := cy) X S28 (xe29.A F1.2.1).1 (xe29.A F1.2.1).2.1
      refine va_calli (va_runV (As := []) (rest := [.double (FP.i2d z19)]) ⟨hx, hb, hml, hown, hts⟩ (c_Jx4a65c_size_8abf5 l (cy := cy) (X := X) (D := D) S28 _ (S.f o1 0) (xe29.A F1.2.1)) (cwV 0 hts gX12_meanGrade_Jx4a65c_size_8abf5 rfl rfl rfl hd_Jx4a65c_size_8abf5 ⟨Nat.le_of_ble_eq_true rfl, Nat.le_of_ble_eq_true rfl⟩) (pV (va_recv hK hP (q := (RJx4a65c, TJx4a65c, 3)) (ci := 3) (q0 := k36) rfl hk36) hP hK hD hN) rfl rfl hl.1 rfl (lv_room (Nat.le_of_ble_eq_true rfl)) dX12_meanGrade_68 ⟨(Nat.zero_le _), (Nat.zero_le _)⟩) hS (fun q _ h => hFc q h) hFc (fun r37 u t H1 locs ht hvm hw hB hz1 hk1 hS => ?_)
      have c38 := hw
      obtain ⟨hP, hD⟩ := wd_post hFc ht hB
      generalize H1 = H at hP hS ⊢
      obtain rfl : f_Jx4a65c_size_8abf5 S28 (S.f o1 0) = r37 := c38.symm
      have i39 := al_sz ((t30.w.at (xe29.A F1.2.1) List.not_mem_nil).to_14 (xe29.A F1.2.1).2.1)
      have i40 : (f_Jx4a65c_size_8abf5 S28 (S.f o1 0)).toInt = (S28.I (S.f o1 0) 2).toInt := rfl
      refine lv_i2d hx hb dX12_meanGrade_71 ?_
      refine lv_ddiv hx hb dX12_meanGrade_72 (ddn (by omega) (by omega)) ?_
      refine W.widen (k := 0) (n := 0) (Nat.le_of_ble_eq_true rfl) (Nat.le_of_ble_eq_true rfl) ?_
      exact W.dret (v := FP.ddiv (FP.i2d z19) (FP.i2d (f_Jx4a65c_size_8abf5 S28 (S.f o1 0)))) hx hb hr (fun t ht hW9 => ⟨⟨FP.ddiv (FP.i2d z19) (FP.i2d (f_Jx4a65c_size_8abf5 S28 (S.f o1 0))), S28, rfl, t30, wd_end hP hK hD ht hW9.alike⟩, hS.F ht⟩) hS.2.2 dX12_meanGrade_73 hlocks
    · have c34i : 0 < (S28.I o1 15).toInt := nle_v rfl rfl c34
      refine lv_dconst0 hx hb dX12_meanGrade_58 ?_
      refine lv_goto (tgt := 73) hx hb dX12_meanGrade_59 (by decide) ?_
      refine W.widen (k := 0) (n := 0) (Nat.le_of_ble_eq_true rfl) (Nat.le_of_ble_eq_true rfl) ?_
      exact W.dret (v := FP.dconst0) hx hb hr (fun t ht hW9 => ⟨⟨FP.dconst0, S28, rfl, t30, wd_end hP hK hD ht hW9.alike⟩, hS.F ht⟩) hS.2.2 dX12_meanGrade_73 hlocks
  · have c26i : ¬ (f_Jx4a65c_isEmpty_aae02 S (S.f o1 0)).toInt = 0 := neq_v rfl rfl c26
    refine lv_iconst (v := 1) hx hb dX12_meanGrade_43 (by decide) ?_
    refine lv_goto (tgt := 48) hx hb dX12_meanGrade_44 (by decide) ?_
    obtain ⟨k41, gk41, hk41⟩ := wGt (cy := cy) X S h_o1.1 h_o1.2.1
    refine va_put (D := D) (ci := 16) (v := .int (1 : Int32)) (ty := .int) (C := RX12) (T := TX12) (N := 34) hx hb hts hi_X12_meanGrade_X12 tyX12 tyX12_ok nmX12 hown hK hP hD hS k41 hk41 rfl 15 (by decide) (hts (.fieldLink RX12 94 "HobhouseModel" "thrown" "I") (by decide +kernel)) (fun _ h9 => h9) rfl (by decide +kernel) (rfl) (rfl) (Nat.le_of_ble_eq_true rfl) dX12_meanGrade_48 (fun H locs hP2 hD2 hS => ?_)
    have e9 := wPuI (cy := cy) (j := 15) (v := (1 : Int32)) hD h_o1.1 h_o1.2.1 gk41 rfl
    obtain ⟨S42, hS42⟩ : ∃ z, S.sI o1 15 (1 : Int32) = z := ⟨_, rfl⟩
    have hP : va_P D vwCl (X ++ PL cy S42) H := by rw [← hS42, ← e9]; exact hP2
    have hD : va_D A (X ++ PL cy S42) := by rw [← hS42, ← e9]; exact hD2
    have xe43 : ext S S42 := by rw [← hS42]; exact ext.sI _ _ _ _
    have t44 : stp [(12, 15)] [] [] S S42 := by rw [← hS42]; exact t0.I 15 (1 : Int32) h_o1 (by decide) (trivial) (Or.inl (by decide))
    have k45 : (S42.I (S.f o1 0) 2).toInt = (S.I (S.f o1 0) 2).toInt := by rw [← hS42]; exact congrArg Int32.toInt (sI_I (by rintro ⟨e1, e2⟩; exact absurd e2 (by decide)))
    have k46 : (S42.I o1 15).toInt = (1 : Int32).toInt := by rw [← hS42, sI_eq]
    have l0 : (0 : Int32).toInt = 0 := rfl
    have l1 : (1 : Int32).toInt = 1 := rfl
    refine lv_aload_n hx hb dX12_meanGrade_51 rfl (lv_at hl 2 rfl) ?_
    obtain ⟨k47, gk47, hk47⟩ := wGt (cy := cy) X S42 (xe43.A h_o1).1 (xe43.A h_o1).2.1
    refine va_get (D := D) (ci := 16) (v := .int (S42.I o1 15)) (C := RX12) (T := TX12) (N := 34) hx hb hts hi_X12_meanGrade_X12 hown hK hP k47 hk47 rfl 15 (by decide) (hts (.fieldLink RX12 94 "HobhouseModel" "thrown" "I") (by decide +kernel)) (fun _ h9 => h9) rfl dX12_meanGrade_52 ?_
    refine lv_if_le (tgt := 62) hx hb dX12_meanGrade_55 (by decide) (fun c48 => ?_) (fun c48 => ?_)
    · have c48i : (S42.I o1 15).toInt ≤ 0 := le_v rfl rfl c48
      refine lv_iload_n hx hb dX12_meanGrade_62 rfl (lv_at hl 1 rfl) ?_
      refine lv_i2d hx hb dX12_meanGrade_63 ?_
      refine lv_aload_n hx hb dX12_meanGrade_64 rfl (lv_at hl 2 rfl) ?_
      obtain ⟨k49, gk49, hk49⟩ := wGt (cy := cy) X S42 (xe43.A h_o1).1 (xe43.A h_o1).2.1
      simp only [kE, (xe43.F h_o1 (by decide) F1.1)] at hk49
      refine va_get (D := D) (ci := 16) (v := .ref (S.f o1 0)) (C := RX12) (T := TX12) (N := 34) hx hb hts hi_X12_meanGrade_X12 hown hK hP k49 hk49 rfl 0 (by decide) (hts (.fieldLink RX12 24 "HobhouseModel" "gears" "Ljava/util/ArrayList;") (by decide +kernel)) (fun _ h9 => h9) rfl dX12_meanGrade_65 ?_
      have hFc := free_all hD hS hA
      obtain ⟨k50, gk50, hk50⟩ := wGt (cy := cy) X S42 (xe43.A F1.2.1).1 (xe43.A F1.2.1).2.1
      refine va_calli (va_runV (As := []) (rest := [.double (FP.i2d z19)]) ⟨hx, hb, hml, hown, hts⟩ (c_Jx4a65c_size_8abf5 l (cy := cy) (X := X) (D := D) S42 _ (S.f o1 0) (xe43.A F1.2.1)) (cwV 0 hts gX12_meanGrade_Jx4a65c_size_8abf5 rfl rfl rfl hd_Jx4a65c_size_8abf5 ⟨Nat.le_of_ble_eq_true rfl, Nat.le_of_ble_eq_true rfl⟩) (pV (va_recv hK hP (q := (RJx4a65c, TJx4a65c, 3)) (ci := 3) (q0 := k50) rfl hk50) hP hK hD hN) rfl rfl hl.1 rfl (lv_room (Nat.le_of_ble_eq_true rfl)) dX12_meanGrade_68 ⟨(Nat.zero_le _), (Nat.zero_le _)⟩) hS (fun q _ h => hFc q h) hFc (fun r51 u t H1 locs ht hvm hw hB hz1 hk1 hS => ?_)
      have c52 := hw
      obtain ⟨hP, hD⟩ := wd_post hFc ht hB
      generalize H1 = H at hP hS ⊢
      obtain rfl : f_Jx4a65c_size_8abf5 S42 (S.f o1 0) = r51 := c52.symm
      have i53 := al_sz ((t44.w.at (xe43.A F1.2.1) List.not_mem_nil).to_14 (xe43.A F1.2.1).2.1)
      have i54 : (f_Jx4a65c_size_8abf5 S42 (S.f o1 0)).toInt = (S42.I (S.f o1 0) 2).toInt := rfl
      refine lv_i2d hx hb dX12_meanGrade_71 ?_
      refine lv_ddiv hx hb dX12_meanGrade_72 (ddn (by omega) (by omega)) ?_
      refine W.widen (k := 0) (n := 0) (Nat.le_of_ble_eq_true rfl) (Nat.le_of_ble_eq_true rfl) ?_
      exact W.dret (v := FP.ddiv (FP.i2d z19) (FP.i2d (f_Jx4a65c_size_8abf5 S42 (S.f o1 0)))) hx hb hr (fun t ht hW9 => ⟨⟨FP.ddiv (FP.i2d z19) (FP.i2d (f_Jx4a65c_size_8abf5 S42 (S.f o1 0))), S42, rfl, t44, wd_end hP hK hD ht hW9.alike⟩, hS.F ht⟩) hS.2.2 dX12_meanGrade_73 hlocks
    · have c48i : 0 < (S42.I o1 15).toInt := nle_v rfl rfl c48
      refine lv_dconst0 hx hb dX12_meanGrade_58 ?_
      refine lv_goto (tgt := 73) hx hb dX12_meanGrade_59 (by decide) ?_
      refine W.widen (k := 0) (n := 0) (Nat.le_of_ble_eq_true rfl) (Nat.le_of_ble_eq_true rfl) ?_
      exact W.dret (v := FP.dconst0) hx hb hr (fun t ht hW9 => ⟨⟨FP.dconst0, S42, rfl, t44, wd_end hP hK hD ht hW9.alike⟩, hS.F ht⟩) hS.2.2 dX12_meanGrade_73 hlocks
