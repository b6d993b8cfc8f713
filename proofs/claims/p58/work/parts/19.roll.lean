def f_J9_floorMod_7cf53 (x1 : Int32) (x2 : Int32) : Int32 := if (0 : Int32) ≤ (x1 ^^^ x2) then x1 - x1 / x2 * x2 else if (x1 - x1 / x2 * x2) = (0 : Int32) then x1 - x1 / x2 * x2 else (x1 - x1 / x2 * x2) + x2
theorem hd_J9_floorMod_7cf53 : yJ9_floorMod_7cf53.cls = RJ9 ∧ yJ9_floorMod_7cf53.cls ≠ "java/lang/invoke/MethodHandle" ∧ yJ9_floorMod_7cf53.cls ≠ "java/lang/invoke/VarHandle" ∧ (parseMethodDescriptor yJ9_floorMod_7cf53.desc).map (fun d => d.parameters.length) = some 2 := by decide +kernel
set_option maxHeartbeats 4000000 in
set_option maxRecDepth 100000 in
theorem c_J9_floorMod_7cf53 (l : Launch) {D : va_G} {cy : Nat → ClassId} {X : va_W} (S : wPS) (sz : Nat) (x1 : Int32) (x2 : Int32) (h1 : 0 < x2.toInt) : Met l yJ9_floorMod_7cf53 wsJ9_floorMod_7cf53 ({ frames := 0, cells := 0, slots := 0, locals := 0 }) (va_Pc [.int x1, .int x2] (fun U => U.heap.size = sz ∧ WD D cy X (fun _ => True) S U ∧ NW U)) (va_Qi (fun r (_ : Unit) => r = f_J9_floorMod_7cf53 x1 x2) (fun _ t => WD D cy X (va_A (X ++ PL cy S) sz) S t) (va_A (X ++ PL cy S) sz)) 0 0 (va_A (X ++ PL cy S) sz) := by
  refine Met.ofWP (cc := cJ9_floorMod_7cf53) (maxL := 3) (ret := (some .int)) (by decide +kernel) rfl ?_
  intro p e s m args below meth c s₁ B hml hv
  obtain ⟨rfl, hsz, ⟨hP, hK, hD0⟩, hN⟩ := hv
  have hx := B.exec
  have hb := B.bytes
  have hr := B.returns
  have hts := atoms_spec (ws := wsJ9_floorMod_7cf53) B.pre
  have hown : s.vm.findClass RJ9 = some m.cls := findClass_of_methodNamed (x := yJ9_floorMod_7cf53) B.named
  have hlocks := B.notSynchronized
  subst hsz
  have hD := hD0.self (sz := s.heap.size)
  generalize hAe : va_A (X ++ PL cy S) s.heap.size = A at hD ⊢
  have hA : ∀ q : Nat, s.heap.size ≤ q → A q := fun q h => by rw [← hAe]; exact Or.inr h
  have hS : va_S A s.heap s.heap [] := va_S.rf
  have hl := lv_entry ([.int x1, .int x2]) (n := 3) (Nat.le_of_ble_eq_true rfl)
  rw [lg_entry_eq]
  generalize (lg_sl ([.int x1, .int x2]) ++ List.replicate (3 - (lg_sl ([.int x1, .int x2])).length) Slot.unset).toArray = ls at hl ⊢
  have hl : lv_has ls 3 [(0, .int x1), (1, .int x2)] := hl
  refine lv_iload_n hx hb dJ9_floorMod_7cf53_0 rfl (lv_at hl 0 rfl) ?_
  refine lv_iload_n hx hb dJ9_floorMod_7cf53_1 rfl (lv_at hl 1 rfl) ?_
  refine lv_irem hx hb dJ9_floorMod_7cf53_2 (nz_i (by omega)) ?_
  refine lv_istore_n (lv' := [(2, .int (x1 - x1 / x2 * x2)), (0, .int x1), (1, .int x2)]) hx hb dJ9_floorMod_7cf53_3 rfl hl (by decide) rfl (fun ls hl => ?_)
  refine lv_iload_n hx hb dJ9_floorMod_7cf53_4 rfl (lv_at hl 1 rfl) ?_
  refine lv_iload_n hx hb dJ9_floorMod_7cf53_5 rfl (lv_at hl 2 rfl) ?_
  refine lv_ixor hx hb dJ9_floorMod_7cf53_6 ?_
  refine lv_if_ge (tgt := 18) hx hb dJ9_floorMod_7cf53_7 (by decide) (fun c1 => ?_) (fun c1 => ?_)
  · have c1i : 0 ≤ (x1 ^^^ x2).toInt := le_v rfl rfl c1
    refine lv_iload_n hx hb dJ9_floorMod_7cf53_18 rfl (lv_at hl 0 rfl) ?_
    refine W.widen (k := 0) (n := 0) (Nat.le_of_ble_eq_true rfl) (Nat.le_of_ble_eq_true rfl) ?_
    exact W.iret (v := x1 - x1 / x2 * x2) hx hb hr (fun t ht hW9 => ⟨⟨x1 - x1 / x2 * x2, (), rfl, (by show (x1 - x1 / x2 * x2) = f_J9_floorMod_7cf53 x1 x2; unfold f_J9_floorMod_7cf53; rw [if_pos c1]), wd_end hP hK hD ht hW9.alike⟩, hS.F ht⟩) hS.2.2 dJ9_floorMod_7cf53_19 hlocks
  · have c1i : (x1 ^^^ x2).toInt < 0 := nle_v rfl rfl c1
    refine lv_iload_n hx hb dJ9_floorMod_7cf53_10 rfl (lv_at hl 0 rfl) ?_
    refine lv_if_eq (tgt := 18) hx hb dJ9_floorMod_7cf53_11 (by decide) (fun c2 => ?_) (fun c2 => ?_)
    · have c2i : (x1 - x1 / x2 * x2).toInt = 0 := eq_v rfl rfl c2
      refine lv_iload_n hx hb dJ9_floorMod_7cf53_18 rfl (lv_at hl 0 rfl) ?_
      refine W.widen (k := 0) (n := 0) (Nat.le_of_ble_eq_true rfl) (Nat.le_of_ble_eq_true rfl) ?_
      exact W.iret (v := x1 - x1 / x2 * x2) hx hb hr (fun t ht hW9 => ⟨⟨x1 - x1 / x2 * x2, (), rfl, (by show (x1 - x1 / x2 * x2) = f_J9_floorMod_7cf53 x1 x2; unfold f_J9_floorMod_7cf53; rw [if_neg c1, if_pos c2]), wd_end hP hK hD ht hW9.alike⟩, hS.F ht⟩) hS.2.2 dJ9_floorMod_7cf53_19 hlocks
    · have c2i : ¬ (x1 - x1 / x2 * x2).toInt = 0 := neq_v rfl rfl c2
      refine lv_iload_n hx hb dJ9_floorMod_7cf53_14 rfl (lv_at hl 0 rfl) ?_
      refine lv_iload_n hx hb dJ9_floorMod_7cf53_15 rfl (lv_at hl 2 rfl) ?_
      refine lv_iadd hx hb dJ9_floorMod_7cf53_16 ?_
      refine W.widen (k := 0) (n := 0) (Nat.le_of_ble_eq_true rfl) (Nat.le_of_ble_eq_true rfl) ?_
      exact W.iret (v := (x1 - x1 / x2 * x2) + x2) hx hb hr (fun t ht hW9 => ⟨⟨(x1 - x1 / x2 * x2) + x2, (), rfl, (by show ((x1 - x1 / x2 * x2) + x2) = f_J9_floorMod_7cf53 x1 x2; unfold f_J9_floorMod_7cf53; rw [if_neg c1, if_neg c2]), wd_end hP hK hD ht hW9.alike⟩, hS.F ht⟩) hS.2.2 dJ9_floorMod_7cf53_17 hlocks
theorem tm_bds {a b : Int} (hb : 0 < b) : -b < a.tmod b ∧ a.tmod b < b := by
  rcases Int.le_total 0 a with h | h
  · rw [Int.tmod_eq_emod_of_nonneg h]
    have h1 := Int.emod_nonneg a (b := b) (by omega)
    have h2 := Int.emod_lt_of_pos a hb
    omega
  · have e : a.tmod b = -((-a).tmod b) := by rw [Int.neg_tmod]; omega
    rw [e, Int.tmod_eq_emod_of_nonneg (by omega)]
    have h1 := Int.emod_nonneg (-a) (b := b) (by omega)
    have h2 := Int.emod_lt_of_pos (-a) hb
    omega
theorem le_msb (x : Int32) : 0 ≤ x ↔ x.toBitVec.msb = false := by
  rw [Int32.le_iff_toInt_le, BitVec.msb_eq_toInt]
  have h4 : (0 : Int32).toInt = 0 := rfl
  rw [h4, decide_eq_false_iff_not]
  show _ ↔ ¬ x.toInt < 0
  omega
theorem xor_nn {x y : Int32} (hy : 0 ≤ y) : 0 ≤ x ^^^ y ↔ 0 ≤ x := by
  rw [le_msb, le_msb, Int32.toBitVec_xor, BitVec.msb_xor, (le_msb y).mp hy, Bool.xor_false]
theorem rem_eq {x y : Int32} (hy : 0 < y.toInt) : (x - x / y * y).toInt = x.toInt.tmod y.toInt := by
  have hy2 := t_rng y
  have h1 : x.toInt - x.toInt.tdiv y.toInt * y.toInt = x.toInt.tmod y.toInt := by
    have := Int.tmod_def x.toInt y.toInt
    rw [Int.mul_comm] at this
    omega
  have h2 := tm_bds (a := x.toInt) hy
  rw [Int32.toInt_sub, Int32.toInt_mul, Int32.toInt_div, Int.bmod_mul_bmod, Int.sub_bmod_bmod, h1]
  exact Int.bmod_eq_of_le (by omega) (by omega)
theorem fm_rng {x y : Int32} (hy : 0 < y.toInt) : 0 ≤ (f_J9_floorMod_7cf53 x y).toInt ∧ (f_J9_floorMod_7cf53 x y).toInt < y.toInt := by
  have h4 : (0 : Int32).toInt = 0 := rfl
  have hy0 : 0 ≤ y := Int32.le_iff_toInt_le.mpr (by rw [h4]; omega)
  have hr := rem_eq (x := x) hy
  have h2 := tm_bds (a := x.toInt) hy
  have hyr := t_rng y
  unfold f_J9_floorMod_7cf53
  split
  · rename_i h
    have h3 := le_v h4 rfl ((xor_nn hy0).mp h)
    have h5 := Int.tmod_nonneg y.toInt h3
    rw [hr]; omega
  · rename_i h
    have h3 : ¬ 0 ≤ x := fun q => h ((xor_nn hy0).mpr q)
    have h5 := nle_v h4 rfl h3
    have h6 : x.toInt.tmod y.toInt ≤ 0 := by
      have := Int.tmod_nonneg (a := -x.toInt) y.toInt (by omega)
      rw [Int.neg_tmod] at this
      omega
    split
    · rename_i h7
      rw [h7, h4]; omega
    · rename_i h7
      have h8 := neq_v rfl h4 h7
      rw [t_add (by rw [hr]; omega), hr]
      rw [hr] at h8
      omega
theorem hi_X6_sortOut_X6 : ∀ w ∈ u_ws RX6 TX6 5, w ∈ wsX6_sortOut := by decide +kernel
theorem hd_X6_sortOut : yX6_sortOut.cls = RX6 ∧ yX6_sortOut.cls ≠ "java/lang/invoke/MethodHandle" ∧ yX6_sortOut.cls ≠ "java/lang/invoke/VarHandle" ∧ (parseMethodDescriptor yX6_sortOut.desc).map (fun d => d.parameters.length) = some 3 := by decide +kernel
set_option maxHeartbeats 4000000 in
set_option maxRecDepth 100000 in
theorem c_X6_sortOut (l : Launch) {D : va_G} {cy : Nat → ClassId} {X : va_W} (S : wPS) (sz : Nat) (o1 : Nat) (h_o1 : isA S o1 6) (o2 : Nat) (h_o2 : isA S o2 26) (o3 : Nat) (h_o3 : isA S o3 17) (o4 : Nat) (h_o4 : isA S o4 17) (hW : wtB S []) (nn2 : S.n o2 ≤ 200) (nn3 : S.n o3 = 200) (nn4 : S.n o4 = 200) : Met l yX6_sortOut wsX6_sortOut ({ frames := 1, cells := 0, slots := 0, locals := 15 }) (va_Pc [.ref o1, .ref o2, .ref o3, .ref o4] (fun U => U.heap.size = sz ∧ WD D cy X (fun _ => True) S U ∧ NW U)) (va_Qv (fun (u : wPS) => stp [(17, 100)] [] [] S u) (fun u t => WD D cy X (va_A (X ++ PL cy S) sz) u t) (va_A (X ++ PL cy S) sz)) 0 0 (va_A (X ++ PL cy S) sz) := by
  refine Met.ofW (cc := cX6_sortOut) (maxL := 7) (ret := none) (by decide) rfl ?_
  intro p e s m args below meth c s₁ B hml hv
  obtain ⟨rfl, hsz, ⟨hP, hK, hD0⟩, hN⟩ := hv
  have hx := B.exec
  have hb := B.bytes
  have hr := B.returns
  have hts := atoms_spec (ws := wsX6_sortOut) B.pre
  have hown : s.vm.findClass RX6 = some m.cls := findClass_of_methodNamed (x := yX6_sortOut) B.named
  have hlocks := B.notSynchronized
  subst hsz
  have hD := hD0.self (sz := s.heap.size)
  generalize hAe : va_A (X ++ PL cy S) s.heap.size = A at hD ⊢
  have hA : ∀ q : Nat, s.heap.size ≤ q → A q := fun q h => by rw [← hAe]; exact Or.inr h
  have hS : va_S A s.heap s.heap [] := va_S.rf
  have hl := lv_entry ([.ref o1, .ref o2, .ref o3, .ref o4]) (n := 7) (Nat.le_of_ble_eq_true rfl)
  rw [lg_entry_eq]
  generalize (lg_sl ([.ref o1, .ref o2, .ref o3, .ref o4]) ++ List.replicate (7 - (lg_sl ([.ref o1, .ref o2, .ref o3, .ref o4])).length) Slot.unset).toArray = ls at hl ⊢
  have hl : lv_has ls 7 [(0, .ref o1), (1, .ref o2), (2, .ref o3), (3, .ref o4)] := hl
  have t0 : stp [(17, 100)] [] [] S S := stp.rf hW
  refine lv_iconst (v := 0) hx hb dX6_sortOut_0 (by decide) ?_
  refine lv_istore (lv' := [(4, .int (0 : Int32)), (0, .ref o1), (1, .ref o2), (2, .ref o3), (3, .ref o4)]) hx hb dX6_sortOut_1 hl (by decide) rfl (fun ls hl => ?_)
  have l32_0 : (0 : Int32).toInt = 0 := rfl
  have loop3 : ∀ (n : Nat) (S3_ : wPS) (w3_4 : Int32) (H : Heap) (locs : List Loc) (ls : Array Slot), (200 - w3_4.toInt).toNat < n → 0 ≤ w3_4.toInt ∧ w3_4.toInt ≤ 200 → stp [(17, 100)] [] [] S S3_ → va_P D vwCl (X ++ PL cy S3_) H → va_D A (X ++ PL cy S3_) → va_S A s.heap H locs → lv_has ls 7 [(4, .int w3_4), (0, .ref o1), (1, .ref o2), (2, .ref o3), (3, .ref o4)] → (∀ (S3_x : wPS) (w3_4x : Int32) (H : Heap) (locs : List Loc) (ls : Array Slot), 0 ≤ w3_4x.toInt ∧ w3_4x.toInt ≤ 200 → stp [(17, 100)] [] [] S S3_x → va_P D vwCl (X ++ PL cy S3_x) H → va_D A (X ++ PL cy S3_x) → va_S A s.heap H locs → lv_has ls 7 [(4, .int w3_4x), (0, .ref o1), (1, .ref o2), (2, .ref o3), (3, .ref o4)] → W p l e (headSpec wsX6_sortOut ({ frames := 1, cells := 0, slots := 0, locals := 15 } : Room)).room s m [.ref o1, .ref o2, .ref o3, .ref o4].toArray below meth c H locs 0 0 (MQ below (va_Qv (fun (u : wPS) => stp [(17, 100)] [] [] S u) (fun u t => WD D cy X A u t) A) [.ref o1, .ref o2, .ref o3, .ref o4].toArray s 0 0 A) (F0 m 95 ls [])) → W p l e (headSpec wsX6_sortOut ({ frames := 1, cells := 0, slots := 0, locals := 15 } : Room)).room s m [.ref o1, .ref o2, .ref o3, .ref o4].toArray below meth c H locs 0 0 (MQ below (va_Qv (fun (u : wPS) => stp [(17, 100)] [] [] S u) (fun u t => WD D cy X A u t) A) [.ref o1, .ref o2, .ref o3, .ref o4].toArray s 0 0 A) (F0 m 3 ls []) := by
    intro n3
    induction n3 with
    | zero => intro S3_ w3_4 H locs ls hm; exact absurd hm (Nat.not_lt_zero _)
    | succ n3 ih3 =>
      intro S3_ w3_4 H locs ls hm3 hi3 hsh3 hP hD hS hl ko3
      refine lv_iload hx hb dX6_sortOut_3 (lv_at hl 0 rfl) ?_
      refine lv_aload_n hx hb dX6_sortOut_5 rfl (lv_at hl 2 rfl) ?_
      obtain ⟨k1, gk1, hk1⟩ := wGt (cy := cy) X S3_ (hsh3.x.A h_o2).1 (hsh3.x.A h_o2).2.1
      have i2 : (nI (S.n o2)).toInt = ((S.n o2 : Nat) : Int) := nI_toInt h_o2.2.2
      have i3 := h_o2.2.2
      have i4 := nn2
      refine va_alen (D := D) (cl := vwCl) (tys := tyL cy) hx hb hK hP k1 2 hk1 rfl (v := nI (S.n o2)) (by rw [(hsh3.x.n h_o2)]; rfl) dX6_sortOut_6 ?_
      refine lv_icmp_ge (tgt := 95) hx hb dX6_sortOut_7 (by decide) (fun c5 => ?_) (fun c5 => ?_)
      · have c5i : (nI (S.n o2)).toInt ≤ w3_4.toInt := le_v rfl rfl c5
        exact ko3 S3_ w3_4 _ _ _ (by omega) hsh3 hP hD hS (lv_sub hl [0, 1, 2, 3, 4] rfl)
      · have c5i : w3_4.toInt < (nI (S.n o2)).toInt := nle_v rfl rfl c5
        refine lv_iload hx hb dX6_sortOut_10 (lv_at hl 0 rfl) ?_
        refine lv_aload_n hx hb dX6_sortOut_12 rfl (lv_at hl 1 rfl) ?_
        obtain ⟨k6, gk6, hk6⟩ := wGt (cy := cy) X S3_ (hsh3.x.A h_o1).1 (hsh3.x.A h_o1).2.1
        have i7 := ((hsh3.w.at (hsh3.x.A h_o1) List.not_mem_nil).to_6 (hsh3.x.A h_o1).2.1).R4
        refine va_get (D := D) (ci := 10) (v := .int (S3_.I o1 4)) (C := RX6) (T := TX6) (N := 5) hx hb hts hi_X6_sortOut_X6 hown hK hP k6 hk6 rfl 4 (by decide) (hts (.fieldLink RX6 24 "Hobhouse$Rolling" "classes" "I") (by decide +kernel)) (fun _ h9 => h9) rfl dX6_sortOut_13 ?_
        refine lv_irem hx hb dX6_sortOut_16 (nz_i (by omega)) ?_
        refine lv_istore (lv' := [(5, .int (w3_4 - w3_4 / (S3_.I o1 4) * (S3_.I o1 4))), (4, .int w3_4), (0, .ref o1), (1, .ref o2), (2, .ref o3), (3, .ref o4)]) hx hb dX6_sortOut_17 hl (by decide) rfl (fun ls hl => ?_)
        refine lv_iload hx hb dX6_sortOut_19 (lv_at hl 1 rfl) ?_
        refine lv_aload_n hx hb dX6_sortOut_21 rfl (lv_at hl 2 rfl) ?_
        obtain ⟨k8, gk8, hk8⟩ := wGt (cy := cy) X S3_ (hsh3.x.A h_o1).1 (hsh3.x.A h_o1).2.1
        refine va_get (D := D) (ci := 10) (v := .int (S3_.I o1 4)) (C := RX6) (T := TX6) (N := 5) hx hb hts hi_X6_sortOut_X6 hown hK hP k8 hk8 rfl 4 (by decide) (hts (.fieldLink RX6 24 "Hobhouse$Rolling" "classes" "I") (by decide +kernel)) (fun _ h9 => h9) rfl dX6_sortOut_22 ?_
        refine lv_icmp_ge (tgt := 32) hx hb dX6_sortOut_25 (by decide) (fun c9 => ?_) (fun c9 => ?_)
        · have c9i : (S3_.I o1 4).toInt ≤ w3_4.toInt := le_v rfl rfl c9
          refine lv_iconst (v := 0) hx hb dX6_sortOut_32 (by decide) ?_
          refine lv_istore (lv' := [(6, .int (0 : Int32)), (5, .int (w3_4 - w3_4 / (S3_.I o1 4) * (S3_.I o1 4))), (4, .int w3_4), (0, .ref o1), (1, .ref o2), (2, .ref o3), (3, .ref o4)]) hx hb dX6_sortOut_33 hl (by decide) rfl (fun ls hl => ?_)
          refine lv_aload_n hx hb dX6_sortOut_35 rfl (lv_at hl 5 rfl) ?_
          refine lv_iload hx hb dX6_sortOut_36 (lv_at hl 1 rfl) ?_
          refine lv_iload hx hb dX6_sortOut_38 (lv_at hl 0 rfl) ?_
          refine lv_if_eq (tgt := 50) hx hb dX6_sortOut_40 (by decide) (fun c10 => ?_) (fun c10 => ?_)
          · refine lv_aload_n hx hb dX6_sortOut_50 rfl (lv_at hl 5 rfl) ?_
            refine lv_iload hx hb dX6_sortOut_51 (lv_at hl 1 rfl) ?_
            have i11 := rem_rng (x := w3_4) (y := (S3_.I o1 4)) (by omega) (by omega)
            obtain ⟨k12, gk12, hk12⟩ := wGt (cy := cy) X S3_ (hsh3.x.A h_o3).1 (hsh3.x.A h_o3).2.1
            refine va_iald hx hb hK hP k12 2 hk12 rfl (inb (m := 200) ((hsh3.x.n h_o3).trans nn3) (by omega) (by omega)) dX6_sortOut_53 ?_
            refine lv_aload_n hx hb dX6_sortOut_54 rfl (lv_at hl 4 rfl) ?_
            refine lv_iload hx hb dX6_sortOut_55 (lv_at hl 2 rfl) ?_
            have i13 := nn2
            obtain ⟨k14, gk14, hk14⟩ := wGt (cy := cy) X S3_ (hsh3.x.A h_o2).1 (hsh3.x.A h_o2).2.1
            refine va_iald hx hb hK hP k14 2 hk14 rfl (inb (m := S.n o2) (hsh3.x.n h_o2) (by omega) (by omega)) dX6_sortOut_57 ?_
            refine va_mmax hx hb (hml.trans hl.1.symm) hown (hts (.methodLink RX6 42 Lib.Math.max.name) (by decide +kernel)) (hts (.static Lib.Math.max.name) (by decide +kernel)) (hts (.initialized "java/lang/Math") (by decide +kernel)) (hts (.code Lib.Math.max.name Lib.Math.max.code 2 (some .int)) (by decide +kernel)) (Nat.le_of_ble_eq_true rfl) (Nat.le_of_ble_eq_true rfl) (Nat.zero_le _) (Nat.zero_le _) dX6_sortOut_58 ?_
            obtain ⟨k15, gk15, hk15⟩ := wGt (cy := cy) X S3_ (hsh3.x.A h_o3).1 (hsh3.x.A h_o3).2.1
            refine va_iast hx hb hK hP hD hS k15 2 hk15 rfl (inb (m := 200) ((hsh3.x.n h_o3).trans nn3) (by omega) (by omega)) dX6_sortOut_61 (fun H locs hP2 hD2 hS => ?_)
            have e9 := wPui (cy := cy) (f := (upd (S3_.i o3) (w3_4 - w3_4 / (S3_.I o1 4) * (S3_.I o1 4)).toNatClampNeg (if (S3_.i o3 (w3_4 - w3_4 / (S3_.I o1 4) * (S3_.I o1 4)).toNatClampNeg) < (S3_.i o2 w3_4.toNatClampNeg) then (S3_.i o2 w3_4.toNatClampNeg) else (S3_.i o3 (w3_4 - w3_4 / (S3_.I o1 4) * (S3_.I o1 4)).toNatClampNeg)))) hD (hsh3.x.A h_o3).1 (hsh3.x.A h_o3).2.1 gk15 rfl
            obtain ⟨S16, hS16⟩ : ∃ z, S3_.si o3 (upd (S3_.i o3) (w3_4 - w3_4 / (S3_.I o1 4) * (S3_.I o1 4)).toNatClampNeg (if (S3_.i o3 (w3_4 - w3_4 / (S3_.I o1 4) * (S3_.I o1 4)).toNatClampNeg) < (S3_.i o2 w3_4.toNatClampNeg) then (S3_.i o2 w3_4.toNatClampNeg) else (S3_.i o3 (w3_4 - w3_4 / (S3_.I o1 4) * (S3_.I o1 4)).toNatClampNeg))) = z := ⟨_, rfl⟩
            have hP : va_P D vwCl (X ++ PL cy S16) H := by rw [← hS16, ← e9]; exact hP2
            have hD : va_D A (X ++ PL cy S16) := by rw [← hS16, ← e9]; exact hD2
            have xe17 : ext S3_ S16 := by rw [← hS16]; exact ext.si _ _ _
            have t18 : stp [(17, 100)] [] [] S S16 := by rw [← hS16]; exact hsh3.i (upd (S3_.i o3) (w3_4 - w3_4 / (S3_.I o1 4) * (S3_.I o1 4)).toNatClampNeg (if (S3_.i o3 (w3_4 - w3_4 / (S3_.I o1 4) * (S3_.I o1 4)).toNatClampNeg) < (S3_.i o2 w3_4.toNatClampNeg) then (S3_.i o2 w3_4.toNatClampNeg) else (S3_.i o3 (w3_4 - w3_4 / (S3_.I o1 4) * (S3_.I o1 4)).toNatClampNeg))) (hsh3.x.A h_o3) (by decide)
            refine lv_aload_n hx hb dX6_sortOut_62 rfl (lv_at hl 6 rfl) ?_
            refine lv_iload hx hb dX6_sortOut_63 (lv_at hl 1 rfl) ?_
            refine lv_iload hx hb dX6_sortOut_65 (lv_at hl 0 rfl) ?_
            refine lv_if_eq (tgt := 77) hx hb dX6_sortOut_67 (by decide) (fun c19 => ?_) (fun c19 => ?_)
            · refine lv_aload_n hx hb dX6_sortOut_77 rfl (lv_at hl 6 rfl) ?_
              refine lv_iload hx hb dX6_sortOut_78 (lv_at hl 1 rfl) ?_
              obtain ⟨k20, gk20, hk20⟩ := wGt (cy := cy) X S16 ((hsh3.x.tr xe17).A h_o4).1 ((hsh3.x.tr xe17).A h_o4).2.1
              refine va_iald hx hb hK hP k20 2 hk20 rfl (inb (m := 200) (((hsh3.x.tr xe17).n h_o4).trans nn4) (by omega) (by omega)) dX6_sortOut_80 ?_
              refine lv_aload_n hx hb dX6_sortOut_81 rfl (lv_at hl 4 rfl) ?_
              refine lv_iload hx hb dX6_sortOut_82 (lv_at hl 2 rfl) ?_
              obtain ⟨k21, gk21, hk21⟩ := wGt (cy := cy) X S16 (xe17.A (hsh3.x.A h_o2)).1 (xe17.A (hsh3.x.A h_o2)).2.1
              refine va_iald hx hb hK hP k21 2 hk21 rfl (inb (m := S.n o2) ((hsh3.x.tr xe17).n h_o2) (by omega) (by omega)) dX6_sortOut_84 ?_
              refine va_mmin hx hb (hml.trans hl.1.symm) hown (hts (.methodLink RX6 37 Lib.Math.min.name) (by decide +kernel)) (hts (.static Lib.Math.min.name) (by decide +kernel)) (hts (.initialized "java/lang/Math") (by decide +kernel)) (hts (.code Lib.Math.min.name Lib.Math.min.code 2 (some .int)) (by decide +kernel)) (Nat.le_of_ble_eq_true rfl) (Nat.le_of_ble_eq_true rfl) (Nat.zero_le _) (Nat.zero_le _) dX6_sortOut_85 ?_
              obtain ⟨k22, gk22, hk22⟩ := wGt (cy := cy) X S16 ((hsh3.x.tr xe17).A h_o4).1 ((hsh3.x.tr xe17).A h_o4).2.1
              refine va_iast hx hb hK hP hD hS k22 2 hk22 rfl (inb (m := 200) (((hsh3.x.tr xe17).n h_o4).trans nn4) (by omega) (by omega)) dX6_sortOut_88 (fun H locs hP2 hD2 hS => ?_)
              have e9 := wPui (cy := cy) (f := (upd (S16.i o4) (w3_4 - w3_4 / (S3_.I o1 4) * (S3_.I o1 4)).toNatClampNeg (if (S16.i o2 w3_4.toNatClampNeg) < (S16.i o4 (w3_4 - w3_4 / (S3_.I o1 4) * (S3_.I o1 4)).toNatClampNeg) then (S16.i o2 w3_4.toNatClampNeg) else (S16.i o4 (w3_4 - w3_4 / (S3_.I o1 4) * (S3_.I o1 4)).toNatClampNeg)))) hD ((hsh3.x.tr xe17).A h_o4).1 ((hsh3.x.tr xe17).A h_o4).2.1 gk22 rfl
              obtain ⟨S23, hS23⟩ : ∃ z, S16.si o4 (upd (S16.i o4) (w3_4 - w3_4 / (S3_.I o1 4) * (S3_.I o1 4)).toNatClampNeg (if (S16.i o2 w3_4.toNatClampNeg) < (S16.i o4 (w3_4 - w3_4 / (S3_.I o1 4) * (S3_.I o1 4)).toNatClampNeg) then (S16.i o2 w3_4.toNatClampNeg) else (S16.i o4 (w3_4 - w3_4 / (S3_.I o1 4) * (S3_.I o1 4)).toNatClampNeg))) = z := ⟨_, rfl⟩
              have hP : va_P D vwCl (X ++ PL cy S23) H := by rw [← hS23, ← e9]; exact hP2
              have hD : va_D A (X ++ PL cy S23) := by rw [← hS23, ← e9]; exact hD2
              have xe24 : ext S16 S23 := by rw [← hS23]; exact ext.si _ _ _
              have t25 : stp [(17, 100)] [] [] S S23 := by rw [← hS23]; exact t18.i (upd (S16.i o4) (w3_4 - w3_4 / (S3_.I o1 4) * (S3_.I o1 4)).toNatClampNeg (if (S16.i o2 w3_4.toNatClampNeg) < (S16.i o4 (w3_4 - w3_4 / (S3_.I o1 4) * (S3_.I o1 4)).toNatClampNeg) then (S16.i o2 w3_4.toNatClampNeg) else (S16.i o4 (w3_4 - w3_4 / (S3_.I o1 4) * (S3_.I o1 4)).toNatClampNeg))) ((hsh3.x.tr xe17).A h_o4) (by decide)
              refine lv_iinc (v := w3_4 + (1 : Int32)) (lv' := [(4, .int (w3_4 + (1 : Int32))), (6, .int (0 : Int32)), (5, .int (w3_4 - w3_4 / (S3_.I o1 4) * (S3_.I o1 4))), (0, .ref o1), (1, .ref o2), (2, .ref o3), (3, .ref o4)]) hx hb dX6_sortOut_89 hl (k := 2) rfl (by rfl) (by decide) rfl (fun ls hl => ?_)
              refine lv_goto (tgt := 3) hx hb dX6_sortOut_92 (by decide) ?_
              have l32_1 : (1 : Int32).toInt = 1 := rfl
              have i26 : (w3_4 + (1 : Int32)).toInt = w3_4.toInt + 1 := t_addr (n := 1) rfl (by omega)
              exact ih3 S23 (w3_4 + (1 : Int32)) _ _ _ (Nat.lt_of_lt_of_le (by omega) (Nat.le_of_lt_succ hm3)) (by omega) t25 hP hD hS (lv_sub hl [0, 3, 4, 5, 6] rfl) ko3
            · exact absurd (by decide) c19
          · exact absurd (by decide) c10
        · have c9i : w3_4.toInt < (S3_.I o1 4).toInt := nle_v rfl rfl c9
          refine lv_iconst (v := 1) hx hb dX6_sortOut_28 (by decide) ?_
          refine lv_goto (tgt := 33) hx hb dX6_sortOut_29 (by decide) ?_
          refine lv_istore (lv' := [(6, .int (1 : Int32)), (5, .int (w3_4 - w3_4 / (S3_.I o1 4) * (S3_.I o1 4))), (4, .int w3_4), (0, .ref o1), (1, .ref o2), (2, .ref o3), (3, .ref o4)]) hx hb dX6_sortOut_33 hl (by decide) rfl (fun ls hl => ?_)
          refine lv_aload_n hx hb dX6_sortOut_35 rfl (lv_at hl 5 rfl) ?_
          refine lv_iload hx hb dX6_sortOut_36 (lv_at hl 1 rfl) ?_
          refine lv_iload hx hb dX6_sortOut_38 (lv_at hl 0 rfl) ?_
          refine lv_if_eq (tgt := 50) hx hb dX6_sortOut_40 (by decide) (fun c27 => ?_) (fun c27 => ?_)
          · exact absurd c27 (by decide)
          · refine lv_aload_n hx hb dX6_sortOut_43 rfl (lv_at hl 4 rfl) ?_
            refine lv_iload hx hb dX6_sortOut_44 (lv_at hl 2 rfl) ?_
            have i28 := nn2
            obtain ⟨k29, gk29, hk29⟩ := wGt (cy := cy) X S3_ (hsh3.x.A h_o2).1 (hsh3.x.A h_o2).2.1
            refine va_iald hx hb hK hP k29 2 hk29 rfl (inb (m := S.n o2) (hsh3.x.n h_o2) (by omega) (by omega)) dX6_sortOut_46 ?_
            refine lv_goto (tgt := 61) hx hb dX6_sortOut_47 (by decide) ?_
            have i30 := rem_rng (x := w3_4) (y := (S3_.I o1 4)) (by omega) (by omega)
            obtain ⟨k31, gk31, hk31⟩ := wGt (cy := cy) X S3_ (hsh3.x.A h_o3).1 (hsh3.x.A h_o3).2.1
            refine va_iast hx hb hK hP hD hS k31 2 hk31 rfl (inb (m := 200) ((hsh3.x.n h_o3).trans nn3) (by omega) (by omega)) dX6_sortOut_61 (fun H locs hP2 hD2 hS => ?_)
            have e9 := wPui (cy := cy) (f := (upd (S3_.i o3) (w3_4 - w3_4 / (S3_.I o1 4) * (S3_.I o1 4)).toNatClampNeg (S3_.i o2 w3_4.toNatClampNeg))) hD (hsh3.x.A h_o3).1 (hsh3.x.A h_o3).2.1 gk31 rfl
            obtain ⟨S32, hS32⟩ : ∃ z, S3_.si o3 (upd (S3_.i o3) (w3_4 - w3_4 / (S3_.I o1 4) * (S3_.I o1 4)).toNatClampNeg (S3_.i o2 w3_4.toNatClampNeg)) = z := ⟨_, rfl⟩
            have hP : va_P D vwCl (X ++ PL cy S32) H := by rw [← hS32, ← e9]; exact hP2
            have hD : va_D A (X ++ PL cy S32) := by rw [← hS32, ← e9]; exact hD2
            have xe33 : ext S3_ S32 := by rw [← hS32]; exact ext.si _ _ _
            have t34 : stp [(17, 100)] [] [] S S32 := by rw [← hS32]; exact hsh3.i (upd (S3_.i o3) (w3_4 - w3_4 / (S3_.I o1 4) * (S3_.I o1 4)).toNatClampNeg (S3_.i o2 w3_4.toNatClampNeg)) (hsh3.x.A h_o3) (by decide)
            refine lv_aload_n hx hb dX6_sortOut_62 rfl (lv_at hl 6 rfl) ?_
            refine lv_iload hx hb dX6_sortOut_63 (lv_at hl 1 rfl) ?_
            refine lv_iload hx hb dX6_sortOut_65 (lv_at hl 0 rfl) ?_
            refine lv_if_eq (tgt := 77) hx hb dX6_sortOut_67 (by decide) (fun c35 => ?_) (fun c35 => ?_)
            · exact absurd c35 (by decide)
            · refine lv_aload_n hx hb dX6_sortOut_70 rfl (lv_at hl 4 rfl) ?_
              refine lv_iload hx hb dX6_sortOut_71 (lv_at hl 2 rfl) ?_
              obtain ⟨k36, gk36, hk36⟩ := wGt (cy := cy) X S32 (xe33.A (hsh3.x.A h_o2)).1 (xe33.A (hsh3.x.A h_o2)).2.1
              refine va_iald hx hb hK hP k36 2 hk36 rfl (inb (m := S.n o2) ((hsh3.x.tr xe33).n h_o2) (by omega) (by omega)) dX6_sortOut_73 ?_
              refine lv_goto (tgt := 88) hx hb dX6_sortOut_74 (by decide) ?_
              obtain ⟨k37, gk37, hk37⟩ := wGt (cy := cy) X S32 ((hsh3.x.tr xe33).A h_o4).1 ((hsh3.x.tr xe33).A h_o4).2.1
              refine va_iast hx hb hK hP hD hS k37 2 hk37 rfl (inb (m := 200) (((hsh3.x.tr xe33).n h_o4).trans nn4) (by omega) (by omega)) dX6_sortOut_88 (fun H locs hP2 hD2 hS => ?_)
              have e9 := wPui (cy := cy) (f := (upd (S32.i o4) (w3_4 - w3_4 / (S3_.I o1 4) * (S3_.I o1 4)).toNatClampNeg (S32.i o2 w3_4.toNatClampNeg))) hD ((hsh3.x.tr xe33).A h_o4).1 ((hsh3.x.tr xe33).A h_o4).2.1 gk37 rfl
              obtain ⟨S38, hS38⟩ : ∃ z, S32.si o4 (upd (S32.i o4) (w3_4 - w3_4 / (S3_.I o1 4) * (S3_.I o1 4)).toNatClampNeg (S32.i o2 w3_4.toNatClampNeg)) = z := ⟨_, rfl⟩
              have hP : va_P D vwCl (X ++ PL cy S38) H := by rw [← hS38, ← e9]; exact hP2
              have hD : va_D A (X ++ PL cy S38) := by rw [← hS38, ← e9]; exact hD2
              have xe39 : ext S32 S38 := by rw [← hS38]; exact ext.si _ _ _
              have t40 : stp [(17, 100)] [] [] S S38 := by rw [← hS38]; exact t34.i (upd (S32.i o4) (w3_4 - w3_4 / (S3_.I o1 4) * (S3_.I o1 4)).toNatClampNeg (S32.i o2 w3_4.toNatClampNeg)) ((hsh3.x.tr xe33).A h_o4) (by decide)
              refine lv_iinc (v := w3_4 + (1 : Int32)) (lv' := [(4, .int (w3_4 + (1 : Int32))), (6, .int (1 : Int32)), (5, .int (w3_4 - w3_4 / (S3_.I o1 4) * (S3_.I o1 4))), (0, .ref o1), (1, .ref o2), (2, .ref o3), (3, .ref o4)]) hx hb dX6_sortOut_89 hl (k := 2) rfl (by rfl) (by decide) rfl (fun ls hl => ?_)
              refine lv_goto (tgt := 3) hx hb dX6_sortOut_92 (by decide) ?_
              have l32_1 : (1 : Int32).toInt = 1 := rfl
              have i41 : (w3_4 + (1 : Int32)).toInt = w3_4.toInt + 1 := t_addr (n := 1) rfl (by omega)
              exact ih3 S38 (w3_4 + (1 : Int32)) _ _ _ (Nat.lt_of_lt_of_le (by omega) (Nat.le_of_lt_succ hm3)) (by omega) t40 hP hD hS (lv_sub hl [0, 3, 4, 5, 6] rfl) ko3
  refine loop3 201 S (0 : Int32) _ _ _ (by omega) (by omega) (stp.rf hW) hP hD hS (lv_sub hl [0, 1, 2, 3, 4] rfl) (fun S43 z44 H locs ls hi3 hsh3 hP hD hS hl => ?_)
  have t45 : stp [(17, 100)] [] [] S S43 := t0.tr hsh3 (fun _ q => q) (fun _ q => Or.inl q)
  have et45 := hsh3.x
  refine W.widen (k := 0) (n := 0) (Nat.le_of_ble_eq_true rfl) (Nat.le_of_ble_eq_true rfl) ?_
  exact W.vret hx hb hr (fun t ht hW9 => ⟨⟨S43, rfl, t45, wd_end hP hK hD ht hW9.alike⟩, hS.F ht⟩) hS.2.2 dX6_sortOut_95 hlocks
theorem hi_X6_take_X1 : ∀ w ∈ u_ws RX1 TX1 3, w ∈ wsX6_take := by decide +kernel
theorem hi_X6_take_X6 : ∀ w ∈ u_ws RX6 TX6 5, w ∈ wsX6_take := by decide +kernel
theorem hd_X6_take : yX6_take.cls = RX6 ∧ yX6_take.cls ≠ "java/lang/invoke/MethodHandle" ∧ yX6_take.cls ≠ "java/lang/invoke/VarHandle" ∧ (parseMethodDescriptor yX6_take.desc).map (fun d => d.parameters.length) = some 2 := by decide +kernel
set_option maxHeartbeats 4000000 in
set_option maxRecDepth 100000 in
theorem c_X6_take (l : Launch) {D : va_G} {cy : Nat → ClassId} {X : va_W} (S : wPS) (sz : Nat) (o1 : Nat) (h_o1 : isA S o1 6) (o2 : Nat) (h_o2 : isA S o2 1) (o3 : Nat) (h_o3 : isA S o3 1) (hW : wtB S [])  : Met l yX6_take wsX6_take ({ frames := 2, cells := 0, slots := 0, locals := 41 }) (va_Pc [.ref o1, .ref o2, .ref o3] (fun U => U.heap.size = sz ∧ WD D cy X (fun _ => True) S U ∧ NW U)) (va_Qv (fun (u : wPS) => stp [(6, 4), (17, 100)] [] [] S u) (fun u t => WD D cy X (va_A (X ++ PL cy S) sz) u t) (va_A (X ++ PL cy S) sz)) 0 0 (va_A (X ++ PL cy S) sz) := by
  refine Met.ofW (cc := cX6_take) (maxL := 4) (ret := none) (by decide) rfl ?_
  intro p e s m args below meth c s₁ B hml hv
  obtain ⟨rfl, hsz, ⟨hP, hK, hD0⟩, hN⟩ := hv
  have hx := B.exec
  have hb := B.bytes
  have hr := B.returns
  have hts := atoms_spec (ws := wsX6_take) B.pre
  have hown : s.vm.findClass RX6 = some m.cls := findClass_of_methodNamed (x := yX6_take) B.named
  have hlocks := B.notSynchronized
  subst hsz
  have hD := hD0.self (sz := s.heap.size)
  generalize hAe : va_A (X ++ PL cy S) s.heap.size = A at hD ⊢
  have hA : ∀ q : Nat, s.heap.size ≤ q → A q := fun q h => by rw [← hAe]; exact Or.inr h
  have hS : va_S A s.heap s.heap [] := va_S.rf
  have hl := lv_entry ([.ref o1, .ref o2, .ref o3]) (n := 4) (Nat.le_of_ble_eq_true rfl)
  rw [lg_entry_eq]
  generalize (lg_sl ([.ref o1, .ref o2, .ref o3]) ++ List.replicate (4 - (lg_sl ([.ref o1, .ref o2, .ref o3])).length) Slot.unset).toArray = ls at hl ⊢
  have hl : lv_has ls 4 [(0, .ref o1), (1, .ref o2), (2, .ref o3)] := hl
  have t0 : stp [(6, 4), (17, 100)] [] [] S S := stp.rf hW
  refine lv_aload_n hx hb dX6_take_0 rfl (lv_at hl 1 rfl) ?_
  have F1 := ((hW.at h_o2 List.not_mem_nil).to_1 h_o2.2.1).F1
  obtain ⟨k2, gk2, hk2⟩ := wGt (cy := cy) X S h_o2.1 h_o2.2.1
  simp only [kE, F1.1] at hk2
  refine va_get (D := D) (ci := 5) (v := .ref (S.f o2 1)) (C := RX1) (T := TX1) (N := 3) hx hb hts hi_X6_take_X1 hown hK hP k2 hk2 rfl 1 (by decide) (hts (.fieldLink RX6 28 "Hobhouse$Chart" "stands" "[I") (by decide +kernel)) (fun _ h9 => h9) rfl dX6_take_1 ?_
  obtain ⟨k3, gk3, hk3⟩ := wGt (cy := cy) X S F1.2.1.1 F1.2.1.2.1
  have i4 : (nI (S.n (S.f o2 1))).toInt = ((S.n (S.f o2 1) : Nat) : Int) := nI_toInt F1.2.1.2.2
  have i5 := F1.2.1.2.2
  have i6 := F1.2.2
  refine va_alen (D := D) (cl := vwCl) (tys := tyL cy) hx hb hK hP k3 2 hk3 rfl (v := nI (S.n (S.f o2 1))) rfl dX6_take_4 ?_
  refine lv_aload_n hx hb dX6_take_5 rfl (lv_at hl 2 rfl) ?_
  have F7 := ((hW.at h_o3 List.not_mem_nil).to_1 h_o3.2.1).F1
  obtain ⟨k8, gk8, hk8⟩ := wGt (cy := cy) X S h_o3.1 h_o3.2.1
  simp only [kE, F7.1] at hk8
  refine va_get (D := D) (ci := 5) (v := .ref (S.f o3 1)) (C := RX1) (T := TX1) (N := 3) hx hb hts hi_X6_take_X1 hown hK hP k8 hk8 rfl 1 (by decide) (hts (.fieldLink RX6 28 "Hobhouse$Chart" "stands" "[I") (by decide +kernel)) (fun _ h9 => h9) rfl dX6_take_6 ?_
  obtain ⟨k9, gk9, hk9⟩ := wGt (cy := cy) X S F7.2.1.1 F7.2.1.2.1
  have i10 : (nI (S.n (S.f o3 1))).toInt = ((S.n (S.f o3 1) : Nat) : Int) := nI_toInt F7.2.1.2.2
  have i11 := F7.2.1.2.2
  have i12 := F7.2.2
  refine va_alen (D := D) (cl := vwCl) (tys := tyL cy) hx hb hK hP k9 2 hk9 rfl (v := nI (S.n (S.f o3 1))) rfl dX6_take_9 ?_
  have hFc := free_all hD hS hA
  refine va_calli (va_runSN (As := [.int (nI (S.n (S.f o2 1))), .int (nI (S.n (S.f o3 1)))]) (rest := []) ⟨hx, hb, hml, hown, hts⟩ (c_X9_commonDivisor l (cy := cy) (X := X) (D := D) S _ (nI (S.n (S.f o2 1))) (nI (S.n (S.f o3 1)))) ⟨va_cnB 2 hts gX6_take_X9_commonDivisor_n33 rfl rfl rfl (hN (.methodLinkNest RX6 33 yX9_commonDivisor RX9) (by decide +kernel)) (hts (.initialized RX9) (by decide +kernel)) (by decide +kernel) ⟨Nat.le_of_ble_eq_true rfl, Nat.le_of_ble_eq_true rfl⟩, hts (.static yX9_commonDivisor) (by decide +kernel), trivial⟩ (pS hP hK hD hN) rfl rfl hl.1 rfl (lv_room (Nat.le_of_ble_eq_true rfl)) dX6_take_10 ⟨(Nat.zero_le _), (Nat.zero_le _)⟩) hS (fun q _ h => hFc q h) hFc (fun r13 u t H1 locs ht hvm hw hB hz1 hk1 hS => ?_)
  have c14 := hw
  obtain ⟨hP, hD⟩ := wd_post hFc ht hB
  generalize H1 = H at hP hS ⊢
  obtain rfl : f_X9_commonDivisor (nI (S.n (S.f o2 1))) (nI (S.n (S.f o3 1))) = r13 := c14.symm
  have i15 := cd_i (nI (S.n (S.f o2 1))) (nI (S.n (S.f o3 1)))
  refine lv_istore_n (lv' := [(3, .int (f_X9_commonDivisor (nI (S.n (S.f o2 1))) (nI (S.n (S.f o3 1))))), (0, .ref o1), (1, .ref o2), (2, .ref o3)]) hx hb dX6_take_13 rfl hl (by decide) rfl (fun ls hl => ?_)
  refine lv_aload_n hx hb dX6_take_14 rfl (lv_at hl 1 rfl) ?_
  refine lv_iconst (v := 1) hx hb dX6_take_15 (by decide) ?_
  refine lv_iload_n hx hb dX6_take_16 rfl (lv_at hl 0 rfl) ?_
  refine lv_sipush (v := 200) hx hb dX6_take_17 (by decide +kernel) ?_
  refine va_mmin hx hb (hml.trans hl.1.symm) hown (hts (.methodLink RX6 37 Lib.Math.min.name) (by decide +kernel)) (hts (.static Lib.Math.min.name) (by decide +kernel)) (hts (.initialized "java/lang/Math") (by decide +kernel)) (hts (.code Lib.Math.min.name Lib.Math.min.code 2 (some .int)) (by decide +kernel)) (Nat.le_of_ble_eq_true rfl) (Nat.le_of_ble_eq_true rfl) (Nat.zero_le _) (Nat.zero_le _) dX6_take_20 ?_
  have l32_200 : (200 : Int32).toInt = 200 := rfl
  have i16 := mmin_i (f_X9_commonDivisor (nI (S.n (S.f o2 1))) (nI (S.n (S.f o3 1)))) (200 : Int32)
  refine va_mmax hx hb (hml.trans hl.1.symm) hown (hts (.methodLink RX6 42 Lib.Math.max.name) (by decide +kernel)) (hts (.static Lib.Math.max.name) (by decide +kernel)) (hts (.initialized "java/lang/Math") (by decide +kernel)) (hts (.code Lib.Math.max.name Lib.Math.max.code 2 (some .int)) (by decide +kernel)) (Nat.le_of_ble_eq_true rfl) (Nat.le_of_ble_eq_true rfl) (Nat.zero_le _) (Nat.zero_le _) dX6_take_23 ?_
  have l32_1 : (1 : Int32).toInt = 1 := rfl
  have i17 := mmax_i (1 : Int32) (if (200 : Int32) < (f_X9_commonDivisor (nI (S.n (S.f o2 1))) (nI (S.n (S.f o3 1)))) then (200 : Int32) else (f_X9_commonDivisor (nI (S.n (S.f o2 1))) (nI (S.n (S.f o3 1)))))
  obtain ⟨k18, gk18, hk18⟩ := wGt (cy := cy) X S h_o1.1 h_o1.2.1
  refine va_put (D := D) (ci := 10) (v := .int (if (1 : Int32) < (if (200 : Int32) < (f_X9_commonDivisor (nI (S.n (S.f o2 1))) (nI (S.n (S.f o3 1)))) then (200 : Int32) else (f_X9_commonDivisor (nI (S.n (S.f o2 1))) (nI (S.n (S.f o3 1))))) then (if (200 : Int32) < (f_X9_commonDivisor (nI (S.n (S.f o2 1))) (nI (S.n (S.f o3 1)))) then (200 : Int32) else (f_X9_commonDivisor (nI (S.n (S.f o2 1))) (nI (S.n (S.f o3 1))))) else (1 : Int32))) (ty := .int) (C := RX6) (T := TX6) (N := 5) hx hb hts hi_X6_take_X6 tyX6 tyX6_ok nmX6 hown hK hP hD hS k18 hk18 rfl 4 (by decide) (hts (.fieldLink RX6 24 "Hobhouse$Rolling" "classes" "I") (by decide +kernel)) (fun _ h9 => h9) rfl (by decide +kernel) (rfl) (rfl) (Nat.le_of_ble_eq_true rfl) dX6_take_26 (fun H locs hP2 hD2 hS => ?_)
  have e9 := wPuI (cy := cy) (j := 4) (v := (if (1 : Int32) < (if (200 : Int32) < (f_X9_commonDivisor (nI (S.n (S.f o2 1))) (nI (S.n (S.f o3 1)))) then (200 : Int32) else (f_X9_commonDivisor (nI (S.n (S.f o2 1))) (nI (S.n (S.f o3 1))))) then (if (200 : Int32) < (f_X9_commonDivisor (nI (S.n (S.f o2 1))) (nI (S.n (S.f o3 1)))) then (200 : Int32) else (f_X9_commonDivisor (nI (S.n (S.f o2 1))) (nI (S.n (S.f o3 1))))) else (1 : Int32))) hD h_o1.1 h_o1.2.1 gk18 rfl
  obtain ⟨S19, hS19⟩ : ∃ z, S.sI o1 4 (if (1 : Int32) < (if (200 : Int32) < (f_X9_commonDivisor (nI (S.n (S.f o2 1))) (nI (S.n (S.f o3 1)))) then (200 : Int32) else (f_X9_commonDivisor (nI (S.n (S.f o2 1))) (nI (S.n (S.f o3 1))))) then (if (200 : Int32) < (f_X9_commonDivisor (nI (S.n (S.f o2 1))) (nI (S.n (S.f o3 1)))) then (200 : Int32) else (f_X9_commonDivisor (nI (S.n (S.f o2 1))) (nI (S.n (S.f o3 1))))) else (1 : Int32)) = z := ⟨_, rfl⟩
  have hP : va_P D vwCl (X ++ PL cy S19) H := by rw [← hS19, ← e9]; exact hP2
  have hD : va_D A (X ++ PL cy S19) := by rw [← hS19, ← e9]; exact hD2
  have xe20 : ext S S19 := by rw [← hS19]; exact ext.sI _ _ _ _
  have t21 : stp [(6, 4), (17, 100)] [] [] S S19 := by rw [← hS19]; exact t0.I 4 (if (1 : Int32) < (if (200 : Int32) < (f_X9_commonDivisor (nI (S.n (S.f o2 1))) (nI (S.n (S.f o3 1)))) then (200 : Int32) else (f_X9_commonDivisor (nI (S.n (S.f o2 1))) (nI (S.n (S.f o3 1))))) then (if (200 : Int32) < (f_X9_commonDivisor (nI (S.n (S.f o2 1))) (nI (S.n (S.f o3 1)))) then (200 : Int32) else (f_X9_commonDivisor (nI (S.n (S.f o2 1))) (nI (S.n (S.f o3 1))))) else (1 : Int32)) h_o1 (by decide) (⟨by omega, by omega⟩) (Or.inl (by decide))
  refine lv_aload_n hx hb dX6_take_29 rfl (lv_at hl 1 rfl) ?_
  refine lv_aload_n hx hb dX6_take_30 rfl (lv_at hl 2 rfl) ?_
  obtain ⟨k22, gk22, hk22⟩ := wGt (cy := cy) X S19 (xe20.A h_o2).1 (xe20.A h_o2).2.1
  simp only [kE, (xe20.F h_o2 (by decide) F1.1)] at hk22
  refine va_get (D := D) (ci := 5) (v := .ref (S.f o2 1)) (C := RX1) (T := TX1) (N := 3) hx hb hts hi_X6_take_X1 hown hK hP k22 hk22 rfl 1 (by decide) (hts (.fieldLink RX6 28 "Hobhouse$Chart" "stands" "[I") (by decide +kernel)) (fun _ h9 => h9) rfl dX6_take_31 ?_
  refine lv_aload_n hx hb dX6_take_34 rfl (lv_at hl 1 rfl) ?_
  have F23 := ((hW.at h_o1 List.not_mem_nil).to_6 h_o1.2.1).F0
  obtain ⟨k24, gk24, hk24⟩ := wGt (cy := cy) X S19 (xe20.A h_o1).1 (xe20.A h_o1).2.1
  simp only [kE, (xe20.F h_o1 (by decide) F23.1)] at hk24
  refine va_get (D := D) (ci := 10) (v := .ref (S.f o1 0)) (C := RX6) (T := TX6) (N := 5) hx hb hts hi_X6_take_X6 hown hK hP k24 hk24 rfl 0 (by decide) (hts (.fieldLink RX6 9 "Hobhouse$Rolling" "firstHighs" "[I") (by decide +kernel)) (fun _ h9 => h9) rfl dX6_take_35 ?_
  refine lv_aload_n hx hb dX6_take_38 rfl (lv_at hl 1 rfl) ?_
  have F25 := ((hW.at h_o1 List.not_mem_nil).to_6 h_o1.2.1).F1
  obtain ⟨k26, gk26, hk26⟩ := wGt (cy := cy) X S19 (xe20.A h_o1).1 (xe20.A h_o1).2.1
  simp only [kE, (xe20.F h_o1 (by decide) F25.1)] at hk26
  refine va_get (D := D) (ci := 10) (v := .ref (S.f o1 1)) (C := RX6) (T := TX6) (N := 5) hx hb hts hi_X6_take_X6 hown hK hP k26 hk26 rfl 1 (by decide) (hts (.fieldLink RX6 15 "Hobhouse$Rolling" "firstLows" "[I") (by decide +kernel)) (fun _ h9 => h9) rfl dX6_take_39 ?_
  have hFc := free_all hD hS hA
  obtain ⟨k28, gk28, hk28⟩ := wGt (cy := cy) X S19 (xe20.A h_o1).1 (xe20.A h_o1).2.1
  refine va_callv (va_runV (As := [.ref (S.f o2 1), .ref (S.f o1 0), .ref (S.f o1 1)]) (rest := []) ⟨hx, hb, hml, hown, hts⟩ (c_X6_sortOut l (cy := cy) (X := X) (D := D) S19 _ o1 (xe20.A h_o1) (S.f o2 1) (xe20.A F1.2.1) (S.f o1 0) (xe20.A F23.2.1) (S.f o1 1) (xe20.A F25.2.1) (t21.w) (by rw [xe20.n F1.2.1, F1.2.2]; exact ((hW.at h_o2 List.not_mem_nil).to_1 h_o2.2.1).F0.2.2) ((xe20.n F23.2.1).trans F23.2.2) ((xe20.n F25.2.1).trans F25.2.2)) (cwV 3 hts gX6_take_X6_sortOut rfl rfl rfl hd_X6_sortOut ⟨Nat.le_of_ble_eq_true rfl, Nat.le_of_ble_eq_true rfl⟩) (pV (va_recv hK hP (q := (RX6, TX6, 5)) (ci := 10) (q0 := k28) rfl hk28) hP hK hD hN) rfl rfl hl.1 rfl (lv_room (Nat.le_of_ble_eq_true rfl)) dX6_take_42 ⟨(Nat.zero_le _), (Nat.zero_le _)⟩) hS (fun q _ h => hFc q h) hFc (fun u t H1 locs ht hvm hw hB hz1 hk1 hS => ?_)
  have w30 := hw
  obtain ⟨hP, hD⟩ := wd_post hFc ht hB
  generalize H1 = H at hP hS ⊢
  obtain ⟨S31, rfl⟩ : ∃ z, z = u := ⟨_, rfl⟩
  have t32 : stp [(6, 4), (17, 100)] [] [] S S31 := t21.tr w30 (by decide) (fun _ q => absurd q List.not_mem_nil)
  have xe33 : ext S19 S31 := w30.x
  refine lv_aload_n hx hb dX6_take_45 rfl (lv_at hl 1 rfl) ?_
  refine lv_aload_n hx hb dX6_take_46 rfl (lv_at hl 3 rfl) ?_
  obtain ⟨k34, gk34, hk34⟩ := wGt (cy := cy) X S31 ((xe20.tr xe33).A h_o3).1 ((xe20.tr xe33).A h_o3).2.1
  simp only [kE, ((xe20.tr xe33).F h_o3 (by decide) F7.1)] at hk34
  refine va_get (D := D) (ci := 5) (v := .ref (S.f o3 1)) (C := RX1) (T := TX1) (N := 3) hx hb hts hi_X6_take_X1 hown hK hP k34 hk34 rfl 1 (by decide) (hts (.fieldLink RX6 28 "Hobhouse$Chart" "stands" "[I") (by decide +kernel)) (fun _ h9 => h9) rfl dX6_take_47 ?_
  refine lv_aload_n hx hb dX6_take_50 rfl (lv_at hl 1 rfl) ?_
  have F35 := ((hW.at h_o1 List.not_mem_nil).to_6 h_o1.2.1).F2
  obtain ⟨k36, gk36, hk36⟩ := wGt (cy := cy) X S31 (xe33.A (xe20.A h_o1)).1 (xe33.A (xe20.A h_o1)).2.1
  simp only [kE, ((xe20.tr xe33).F h_o1 (by decide) F35.1)] at hk36
  refine va_get (D := D) (ci := 10) (v := .ref (S.f o1 2)) (C := RX6) (T := TX6) (N := 5) hx hb hts hi_X6_take_X6 hown hK hP k36 hk36 rfl 2 (by decide) (hts (.fieldLink RX6 18 "Hobhouse$Rolling" "secondHighs" "[I") (by decide +kernel)) (fun _ h9 => h9) rfl dX6_take_51 ?_
  refine lv_aload_n hx hb dX6_take_54 rfl (lv_at hl 1 rfl) ?_
  have F37 := ((hW.at h_o1 List.not_mem_nil).to_6 h_o1.2.1).F3
  obtain ⟨k38, gk38, hk38⟩ := wGt (cy := cy) X S31 (xe33.A (xe20.A h_o1)).1 (xe33.A (xe20.A h_o1)).2.1
  simp only [kE, ((xe20.tr xe33).F h_o1 (by decide) F37.1)] at hk38
  refine va_get (D := D) (ci := 10) (v := .ref (S.f o1 3)) (C := RX6) (T := TX6) (N := 5) hx hb hts hi_X6_take_X6 hown hK hP k38 hk38 rfl 3 (by decide) (hts (.fieldLink RX6 21 "Hobhouse$Rolling" "secondLows" "[I") (by decide +kernel)) (fun _ h9 => h9) rfl dX6_take_55 ?_
  have hFc := free_all hD hS hA
  obtain ⟨k40, gk40, hk40⟩ := wGt (cy := cy) X S31 (xe33.A (xe20.A h_o1)).1 (xe33.A (xe20.A h_o1)).2.1
  refine va_callv (va_runV (As := [.ref (S.f o3 1), .ref (S.f o1 2), .ref (S.f o1 3)]) (rest := []) ⟨hx, hb, hml, hown, hts⟩ (c_X6_sortOut l (cy := cy) (X := X) (D := D) S31 _ o1 (xe33.A (xe20.A h_o1)) (S.f o3 1) ((xe20.tr xe33).A F7.2.1) (S.f o1 2) ((xe20.tr xe33).A F35.2.1) (S.f o1 3) ((xe20.tr xe33).A F37.2.1) (t32.w) (by rw [(xe20.tr xe33).n F7.2.1, F7.2.2]; exact ((hW.at h_o3 List.not_mem_nil).to_1 h_o3.2.1).F0.2.2) (((xe20.tr xe33).n F35.2.1).trans F35.2.2) (((xe20.tr xe33).n F37.2.1).trans F37.2.2)) (cwV 3 hts gX6_take_X6_sortOut rfl rfl rfl hd_X6_sortOut ⟨Nat.le_of_ble_eq_true rfl, Nat.le_of_ble_eq_true rfl⟩) (pV (va_recv hK hP (q := (RX6, TX6, 5)) (ci := 10) (q0 := k40) rfl hk40) hP hK hD hN) rfl rfl hl.1 rfl (lv_room (Nat.le_of_ble_eq_true rfl)) dX6_take_58 ⟨(Nat.zero_le _), (Nat.zero_le _)⟩) hS (fun q _ h => hFc q h) hFc (fun u t H1 locs ht hvm hw hB hz1 hk1 hS => ?_)
  have w42 := hw
  obtain ⟨hP, hD⟩ := wd_post hFc ht hB
  generalize H1 = H at hP hS ⊢
  obtain ⟨S43, rfl⟩ : ∃ z, z = u := ⟨_, rfl⟩
  have t44 : stp [(6, 4), (17, 100)] [] [] S S43 := t32.tr w42 (by decide) (fun _ q => absurd q List.not_mem_nil)
  have xe45 : ext S31 S43 := w42.x
  refine W.widen (k := 0) (n := 0) (Nat.le_of_ble_eq_true rfl) (Nat.le_of_ble_eq_true rfl) ?_
  exact W.vret hx hb hr (fun t ht hW9 => ⟨⟨S43, rfl, t44, wd_end hP hK hD ht hW9.alike⟩, hS.F ht⟩) hS.2.2 dX6_take_61 hlocks
def f_X6_peakFrom_L19 (S : wPS) (o1 : Nat) (x1 : Int32) : Nat → Int32 → Int32 → Int32 → Int32 → Int32 × Int32 × Int32 × Int32
  | 0, w19_2, w19_3, w19_4, w19_5 => (w19_2, w19_3, w19_4, w19_5)
  | n + 1, w19_2, w19_3, w19_4, w19_5 => if (S.I o1 4) ≤ w19_5 then (w19_2, w19_3, w19_4, w19_5) else if (S.I o1 4) ≤ (w19_4 + (1 : Int32)) then f_X6_peakFrom_L19 S o1 x1 n (if w19_2 < ((S.i (S.f o1 0) w19_5.toNatClampNeg) + (S.i (S.f o1 2) w19_4.toNatClampNeg)) then ((S.i (S.f o1 0) w19_5.toNatClampNeg) + (S.i (S.f o1 2) w19_4.toNatClampNeg)) else w19_2) (if ((S.i (S.f o1 1) w19_5.toNatClampNeg) + (S.i (S.f o1 3) w19_4.toNatClampNeg)) < w19_3 then ((S.i (S.f o1 1) w19_5.toNatClampNeg) + (S.i (S.f o1 3) w19_4.toNatClampNeg)) else w19_3) (0 : Int32) (w19_5 + (1 : Int32)) else f_X6_peakFrom_L19 S o1 x1 n (if w19_2 < ((S.i (S.f o1 0) w19_5.toNatClampNeg) + (S.i (S.f o1 2) w19_4.toNatClampNeg)) then ((S.i (S.f o1 0) w19_5.toNatClampNeg) + (S.i (S.f o1 2) w19_4.toNatClampNeg)) else w19_2) (if ((S.i (S.f o1 1) w19_5.toNatClampNeg) + (S.i (S.f o1 3) w19_4.toNatClampNeg)) < w19_3 then ((S.i (S.f o1 1) w19_5.toNatClampNeg) + (S.i (S.f o1 3) w19_4.toNatClampNeg)) else w19_3) (w19_4 + (1 : Int32)) (w19_5 + (1 : Int32))
theorem f_X6_peakFrom_L19_s (S : wPS) (o1 : Nat) (x1 : Int32) (n : Nat) (w19_2 : Int32) (w19_3 : Int32) (w19_4 : Int32) (w19_5 : Int32) : f_X6_peakFrom_L19 S o1 x1 (n + 1) w19_2 w19_3 w19_4 w19_5 = if (S.I o1 4) ≤ w19_5 then (w19_2, w19_3, w19_4, w19_5) else if (S.I o1 4) ≤ (w19_4 + (1 : Int32)) then f_X6_peakFrom_L19 S o1 x1 n (if w19_2 < ((S.i (S.f o1 0) w19_5.toNatClampNeg) + (S.i (S.f o1 2) w19_4.toNatClampNeg)) then ((S.i (S.f o1 0) w19_5.toNatClampNeg) + (S.i (S.f o1 2) w19_4.toNatClampNeg)) else w19_2) (if ((S.i (S.f o1 1) w19_5.toNatClampNeg) + (S.i (S.f o1 3) w19_4.toNatClampNeg)) < w19_3 then ((S.i (S.f o1 1) w19_5.toNatClampNeg) + (S.i (S.f o1 3) w19_4.toNatClampNeg)) else w19_3) (0 : Int32) (w19_5 + (1 : Int32)) else f_X6_peakFrom_L19 S o1 x1 n (if w19_2 < ((S.i (S.f o1 0) w19_5.toNatClampNeg) + (S.i (S.f o1 2) w19_4.toNatClampNeg)) then ((S.i (S.f o1 0) w19_5.toNatClampNeg) + (S.i (S.f o1 2) w19_4.toNatClampNeg)) else w19_2) (if ((S.i (S.f o1 1) w19_5.toNatClampNeg) + (S.i (S.f o1 3) w19_4.toNatClampNeg)) < w19_3 then ((S.i (S.f o1 1) w19_5.toNatClampNeg) + (S.i (S.f o1 3) w19_4.toNatClampNeg)) else w19_3) (w19_4 + (1 : Int32)) (w19_5 + (1 : Int32)) := rfl
def f_X6_peakFrom (S : wPS) (o1 : Nat) (x1 : Int32) : Int32 := l4 (f_X6_peakFrom_L19 S o1 x1 201 (-2147483647 : Int32) (2147483647 : Int32) (f_J9_floorMod_7cf53 x1 (S.I o1 4)) (0 : Int32)) (fun z26 z27 z28 z29 => z26 - z27)
theorem hi_X6_peakFrom_X6 : ∀ w ∈ u_ws RX6 TX6 5, w ∈ wsX6_peakFrom := by decide +kernel
theorem hd_X6_peakFrom : yX6_peakFrom.cls = RX6 ∧ yX6_peakFrom.cls ≠ "java/lang/invoke/MethodHandle" ∧ yX6_peakFrom.cls ≠ "java/lang/invoke/VarHandle" ∧ (parseMethodDescriptor yX6_peakFrom.desc).map (fun d => d.parameters.length) = some 1 := by decide +kernel
set_option maxHeartbeats 4000000 in
set_option maxRecDepth 100000 in
theorem c_X6_peakFrom (l : Launch) {D : va_G} {cy : Nat → ClassId} {X : va_W} (S : wPS) (sz : Nat) (o1 : Nat) (h_o1 : isA S o1 6) (x1 : Int32) (hW : wtB S [])  : Met l yX6_peakFrom wsX6_peakFrom ({ frames := 1, cells := 0, slots := 0, locals := 22 }) (va_Pc [.ref o1, .int x1] (fun U => U.heap.size = sz ∧ WD D cy X (fun _ => True) S U ∧ NW U)) (va_Qi (fun r (_ : Unit) => r = f_X6_peakFrom S o1 x1) (fun _ t => WD D cy X (va_A (X ++ PL cy S) sz) S t) (va_A (X ++ PL cy S) sz)) 0 0 (va_A (X ++ PL cy S) sz) := by
  refine Met.ofW (cc := cX6_peakFrom) (maxL := 6) (ret := (some .int)) (by decide) rfl ?_
  intro p e s m args below meth c s₁ B hml hv
  obtain ⟨rfl, hsz, ⟨hP, hK, hD0⟩, hN⟩ := hv
  have hx := B.exec
  have hb := B.bytes
  have hr := B.returns
  have hts := atoms_spec (ws := wsX6_peakFrom) B.pre
  have hown : s.vm.findClass RX6 = some m.cls := findClass_of_methodNamed (x := yX6_peakFrom) B.named
  have hlocks := B.notSynchronized
  subst hsz
  have hD := hD0.self (sz := s.heap.size)
  generalize hAe : va_A (X ++ PL cy S) s.heap.size = A at hD ⊢
  have hA : ∀ q : Nat, s.heap.size ≤ q → A q := fun q h => by rw [← hAe]; exact Or.inr h
  have hS : va_S A s.heap s.heap [] := va_S.rf
  have hl := lv_entry ([.ref o1, .int x1]) (n := 6) (Nat.le_of_ble_eq_true rfl)
  rw [lg_entry_eq]
  generalize (lg_sl ([.ref o1, .int x1]) ++ List.replicate (6 - (lg_sl ([.ref o1, .int x1])).length) Slot.unset).toArray = ls at hl ⊢
  have hl : lv_has ls 6 [(0, .ref o1), (1, .int x1)] := hl
  refine lv_ldc (own := RX6) (v := -2147483647) hx hb hown (hts (.constant RX6 49 (-2147483647)) (by decide +kernel)) dX6_peakFrom_0 ?_
  refine lv_istore_n (lv' := [(2, .int (-2147483647 : Int32)), (0, .ref o1), (1, .int x1)]) hx hb dX6_peakFrom_2 rfl hl (by decide) rfl (fun ls hl => ?_)
  refine lv_ldc (own := RX6) (v := 2147483647) hx hb hown (hts (.constant RX6 50 (2147483647)) (by decide +kernel)) dX6_peakFrom_3 ?_
  refine lv_istore_n (lv' := [(3, .int (2147483647 : Int32)), (2, .int (-2147483647 : Int32)), (0, .ref o1), (1, .int x1)]) hx hb dX6_peakFrom_5 rfl hl (by decide) rfl (fun ls hl => ?_)
  refine lv_iload_n hx hb dX6_peakFrom_6 rfl (lv_at hl 3 rfl) ?_
  refine lv_aload_n hx hb dX6_peakFrom_7 rfl (lv_at hl 2 rfl) ?_
  obtain ⟨k1, gk1, hk1⟩ := wGt (cy := cy) X S h_o1.1 h_o1.2.1
  have i2 := ((hW.at h_o1 List.not_mem_nil).to_6 h_o1.2.1).R4
  refine va_get (D := D) (ci := 10) (v := .int (S.I o1 4)) (C := RX6) (T := TX6) (N := 5) hx hb hts hi_X6_peakFrom_X6 hown hK hP k1 hk1 rfl 4 (by decide) (hts (.fieldLink RX6 24 "Hobhouse$Rolling" "classes" "I") (by decide +kernel)) (fun _ h9 => h9) rfl dX6_peakFrom_8 ?_
  have hFc := free_all hD hS hA
  refine va_calli (va_runS (As := [.int x1, .int (S.I o1 4)]) (rest := []) ⟨hx, hb, hml, hown, hts⟩ (c_J9_floorMod_7cf53 l (cy := cy) (X := X) (D := D) S _ x1 (S.I o1 4) (by omega)) (va_cwS 2 hts gX6_peakFrom_J9_floorMod_7cf53 rfl rfl rfl (by decide +kernel) ⟨Nat.le_of_ble_eq_true rfl, Nat.le_of_ble_eq_true rfl⟩) (pS hP hK hD hN) rfl rfl hl.1 rfl (lv_room (Nat.le_of_ble_eq_true rfl)) dX6_peakFrom_11 ⟨(Nat.zero_le _), (Nat.zero_le _)⟩) hS (fun q _ h => hFc q h) hFc (fun r3 u t H1 locs ht hvm hw hB hz1 hk1 hS => ?_)
  have c4 := hw
  obtain ⟨hP, hD⟩ := wd_post hFc ht hB
  generalize H1 = H at hP hS ⊢
  obtain rfl : f_J9_floorMod_7cf53 x1 (S.I o1 4) = r3 := c4.symm
  have i5 := fm_rng (x := x1) (y := (S.I o1 4)) (by omega)
  refine lv_istore (lv' := [(4, .int (f_J9_floorMod_7cf53 x1 (S.I o1 4))), (3, .int (2147483647 : Int32)), (2, .int (-2147483647 : Int32)), (0, .ref o1), (1, .int x1)]) hx hb dX6_peakFrom_14 hl (by decide) rfl (fun ls hl => ?_)
  refine lv_iconst (v := 0) hx hb dX6_peakFrom_16 (by decide) ?_
  refine lv_istore (lv' := [(5, .int (0 : Int32)), (4, .int (f_J9_floorMod_7cf53 x1 (S.I o1 4))), (3, .int (2147483647 : Int32)), (2, .int (-2147483647 : Int32)), (0, .ref o1), (1, .int x1)]) hx hb dX6_peakFrom_17 hl (by decide) rfl (fun ls hl => ?_)
  have l32_0 : (0 : Int32).toInt = 0 := rfl
  have loop19 : ∀ (n : Nat) (w19_2 : Int32) (w19_3 : Int32) (w19_4 : Int32) (w19_5 : Int32) (H : Heap) (locs : List Loc) (ls : Array Slot), (200 - w19_5.toInt).toNat < n → 0 ≤ w19_5.toInt ∧ w19_5.toInt ≤ 200 ∧ 0 ≤ w19_4.toInt ∧ w19_4.toInt < (S.I o1 4).toInt → va_P D vwCl (X ++ PL cy S) H → va_S A s.heap H locs → lv_has ls 6 [(5, .int w19_5), (4, .int w19_4), (3, .int w19_3), (2, .int w19_2), (0, .ref o1), (1, .int x1)] → (∀ (w19_2x : Int32) (w19_3x : Int32) (w19_4x : Int32) (w19_5x : Int32) (H : Heap) (locs : List Loc) (ls : Array Slot), 0 ≤ w19_5x.toInt ∧ w19_5x.toInt ≤ 200 ∧ 0 ≤ w19_4x.toInt ∧ w19_4x.toInt < (S.I o1 4).toInt → va_P D vwCl (X ++ PL cy S) H → va_S A s.heap H locs → lv_has ls 6 [(5, .int w19_5x), (4, .int w19_4x), (3, .int w19_3x), (2, .int w19_2x), (0, .ref o1), (1, .int x1)] → f_X6_peakFrom_L19 S o1 x1 n w19_2 w19_3 w19_4 w19_5 = (w19_2x, w19_3x, w19_4x, w19_5x) → W p l e (headSpec wsX6_peakFrom ({ frames := 1, cells := 0, slots := 0, locals := 22 } : Room)).room s m [.ref o1, .int x1].toArray below meth c H locs 0 0 (MQ below (va_Qi (fun r (_ : Unit) => r = f_X6_peakFrom S o1 x1) (fun _ t => WD D cy X A S t) A) [.ref o1, .int x1].toArray s 0 0 A) (F0 m 95 ls [])) → W p l e (headSpec wsX6_peakFrom ({ frames := 1, cells := 0, slots := 0, locals := 22 } : Room)).room s m [.ref o1, .int x1].toArray below meth c H locs 0 0 (MQ below (va_Qi (fun r (_ : Unit) => r = f_X6_peakFrom S o1 x1) (fun _ t => WD D cy X A S t) A) [.ref o1, .int x1].toArray s 0 0 A) (F0 m 19 ls []) := by
    intro n19
    induction n19 with
    | zero => intro w19_2 w19_3 w19_4 w19_5 H locs ls hm; exact absurd hm (Nat.not_lt_zero _)
    | succ n19 ih19 =>
      intro w19_2 w19_3 w19_4 w19_5 H locs ls hm19 hi19 hP hS hl ko19
      refine lv_iload hx hb dX6_peakFrom_19 (lv_at hl 0 rfl) ?_
      refine lv_aload_n hx hb dX6_peakFrom_21 rfl (lv_at hl 4 rfl) ?_
      obtain ⟨k6, gk6, hk6⟩ := wGt (cy := cy) X S h_o1.1 h_o1.2.1
      refine va_get (D := D) (ci := 10) (v := .int (S.I o1 4)) (C := RX6) (T := TX6) (N := 5) hx hb hts hi_X6_peakFrom_X6 hown hK hP k6 hk6 rfl 4 (by decide) (hts (.fieldLink RX6 24 "Hobhouse$Rolling" "classes" "I") (by decide +kernel)) (fun _ h9 => h9) rfl dX6_peakFrom_22 ?_
      refine lv_icmp_ge (tgt := 95) hx hb dX6_peakFrom_25 (by decide) (fun c7 => ?_) (fun c7 => ?_)
      · have c7i : (S.I o1 4).toInt ≤ w19_5.toInt := le_v rfl rfl c7
        exact ko19 w19_2 w19_3 w19_4 w19_5 _ _ _ (by omega) hP hS (lv_sub hl [0, 1, 2, 3, 4, 5] rfl) (by rw [f_X6_peakFrom_L19_s, if_pos c7])
      · have c7i : w19_5.toInt < (S.I o1 4).toInt := nle_v rfl rfl c7
        refine lv_iload_n hx hb dX6_peakFrom_28 rfl (lv_at hl 3 rfl) ?_
        refine lv_aload_n hx hb dX6_peakFrom_29 rfl (lv_at hl 4 rfl) ?_
        have F8 := ((hW.at h_o1 List.not_mem_nil).to_6 h_o1.2.1).F0
        obtain ⟨k9, gk9, hk9⟩ := wGt (cy := cy) X S h_o1.1 h_o1.2.1
        simp only [kE, F8.1] at hk9
        refine va_get (D := D) (ci := 10) (v := .ref (S.f o1 0)) (C := RX6) (T := TX6) (N := 5) hx hb hts hi_X6_peakFrom_X6 hown hK hP k9 hk9 rfl 0 (by decide) (hts (.fieldLink RX6 9 "Hobhouse$Rolling" "firstHighs" "[I") (by decide +kernel)) (fun _ h9 => h9) rfl dX6_peakFrom_30 ?_
        refine lv_iload hx hb dX6_peakFrom_33 (lv_at hl 0 rfl) ?_
        obtain ⟨k10, gk10, hk10⟩ := wGt (cy := cy) X S F8.2.1.1 F8.2.1.2.1
        refine va_iald hx hb hK hP k10 2 hk10 rfl (inb (m := 200) F8.2.2 (by omega) (by omega)) dX6_peakFrom_35 ?_
        refine lv_aload_n hx hb dX6_peakFrom_36 rfl (lv_at hl 4 rfl) ?_
        have F11 := ((hW.at h_o1 List.not_mem_nil).to_6 h_o1.2.1).F2
        obtain ⟨k12, gk12, hk12⟩ := wGt (cy := cy) X S h_o1.1 h_o1.2.1
        simp only [kE, F11.1] at hk12
        refine va_get (D := D) (ci := 10) (v := .ref (S.f o1 2)) (C := RX6) (T := TX6) (N := 5) hx hb hts hi_X6_peakFrom_X6 hown hK hP k12 hk12 rfl 2 (by decide) (hts (.fieldLink RX6 18 "Hobhouse$Rolling" "secondHighs" "[I") (by decide +kernel)) (fun _ h9 => h9) rfl dX6_peakFrom_37 ?_
        refine lv_iload hx hb dX6_peakFrom_40 (lv_at hl 1 rfl) ?_
        obtain ⟨k13, gk13, hk13⟩ := wGt (cy := cy) X S F11.2.1.1 F11.2.1.2.1
        refine va_iald hx hb hK hP k13 2 hk13 rfl (inb (m := 200) F11.2.2 (by omega) (by omega)) dX6_peakFrom_42 ?_
        refine lv_iadd hx hb dX6_peakFrom_43 ?_
        refine va_mmax hx hb (hml.trans hl.1.symm) hown (hts (.methodLink RX6 42 Lib.Math.max.name) (by decide +kernel)) (hts (.static Lib.Math.max.name) (by decide +kernel)) (hts (.initialized "java/lang/Math") (by decide +kernel)) (hts (.code Lib.Math.max.name Lib.Math.max.code 2 (some .int)) (by decide +kernel)) (Nat.le_of_ble_eq_true rfl) (Nat.le_of_ble_eq_true rfl) (Nat.zero_le _) (Nat.zero_le _) dX6_peakFrom_44 ?_
        refine lv_istore_n (lv' := [(2, .int (if w19_2 < ((S.i (S.f o1 0) w19_5.toNatClampNeg) + (S.i (S.f o1 2) w19_4.toNatClampNeg)) then ((S.i (S.f o1 0) w19_5.toNatClampNeg) + (S.i (S.f o1 2) w19_4.toNatClampNeg)) else w19_2)), (5, .int w19_5), (4, .int w19_4), (3, .int w19_3), (0, .ref o1), (1, .int x1)]) hx hb dX6_peakFrom_47 rfl hl (by decide) rfl (fun ls hl => ?_)
        refine lv_iload_n hx hb dX6_peakFrom_48 rfl (lv_at hl 3 rfl) ?_
        refine lv_aload_n hx hb dX6_peakFrom_49 rfl (lv_at hl 4 rfl) ?_
        have F14 := ((hW.at h_o1 List.not_mem_nil).to_6 h_o1.2.1).F1
        obtain ⟨k15, gk15, hk15⟩ := wGt (cy := cy) X S h_o1.1 h_o1.2.1
        simp only [kE, F14.1] at hk15
        refine va_get (D := D) (ci := 10) (v := .ref (S.f o1 1)) (C := RX6) (T := TX6) (N := 5) hx hb hts hi_X6_peakFrom_X6 hown hK hP k15 hk15 rfl 1 (by decide) (hts (.fieldLink RX6 15 "Hobhouse$Rolling" "firstLows" "[I") (by decide +kernel)) (fun _ h9 => h9) rfl dX6_peakFrom_50 ?_
        refine lv_iload hx hb dX6_peakFrom_53 (lv_at hl 1 rfl) ?_
        obtain ⟨k16, gk16, hk16⟩ := wGt (cy := cy) X S F14.2.1.1 F14.2.1.2.1
        refine va_iald hx hb hK hP k16 2 hk16 rfl (inb (m := 200) F14.2.2 (by omega) (by omega)) dX6_peakFrom_55 ?_
        refine lv_aload_n hx hb dX6_peakFrom_56 rfl (lv_at hl 4 rfl) ?_
        have F17 := ((hW.at h_o1 List.not_mem_nil).to_6 h_o1.2.1).F3
        obtain ⟨k18, gk18, hk18⟩ := wGt (cy := cy) X S h_o1.1 h_o1.2.1
        simp only [kE, F17.1] at hk18
        refine va_get (D := D) (ci := 10) (v := .ref (S.f o1 3)) (C := RX6) (T := TX6) (N := 5) hx hb hts hi_X6_peakFrom_X6 hown hK hP k18 hk18 rfl 3 (by decide) (hts (.fieldLink RX6 21 "Hobhouse$Rolling" "secondLows" "[I") (by decide +kernel)) (fun _ h9 => h9) rfl dX6_peakFrom_57 ?_
        refine lv_iload hx hb dX6_peakFrom_60 (lv_at hl 2 rfl) ?_
        obtain ⟨k19, gk19, hk19⟩ := wGt (cy := cy) X S F17.2.1.1 F17.2.1.2.1
        refine va_iald hx hb hK hP k19 2 hk19 rfl (inb (m := 200) F17.2.2 (by omega) (by omega)) dX6_peakFrom_62 ?_
        refine lv_iadd hx hb dX6_peakFrom_63 ?_
        refine va_mmin hx hb (hml.trans hl.1.symm) hown (hts (.methodLink RX6 37 Lib.Math.min.name) (by decide +kernel)) (hts (.static Lib.Math.min.name) (by decide +kernel)) (hts (.initialized "java/lang/Math") (by decide +kernel)) (hts (.code Lib.Math.min.name Lib.Math.min.code 2 (some .int)) (by decide +kernel)) (Nat.le_of_ble_eq_true rfl) (Nat.le_of_ble_eq_true rfl) (Nat.zero_le _) (Nat.zero_le _) dX6_peakFrom_64 ?_
        refine lv_istore_n (lv' := [(3, .int (if ((S.i (S.f o1 1) w19_5.toNatClampNeg) + (S.i (S.f o1 3) w19_4.toNatClampNeg)) < w19_3 then ((S.i (S.f o1 1) w19_5.toNatClampNeg) + (S.i (S.f o1 3) w19_4.toNatClampNeg)) else w19_3)), (2, .int (if w19_2 < ((S.i (S.f o1 0) w19_5.toNatClampNeg) + (S.i (S.f o1 2) w19_4.toNatClampNeg)) then ((S.i (S.f o1 0) w19_5.toNatClampNeg) + (S.i (S.f o1 2) w19_4.toNatClampNeg)) else w19_2)), (5, .int w19_5), (4, .int w19_4), (0, .ref o1), (1, .int x1)]) hx hb dX6_peakFrom_67 rfl hl (by decide) rfl (fun ls hl => ?_)
        refine lv_iload hx hb dX6_peakFrom_68 (lv_at hl 3 rfl) ?_
        refine lv_iconst (v := 1) hx hb dX6_peakFrom_70 (by decide) ?_
        refine lv_iadd hx hb dX6_peakFrom_71 ?_
        refine lv_aload_n hx hb dX6_peakFrom_72 rfl (lv_at hl 4 rfl) ?_
        obtain ⟨k20, gk20, hk20⟩ := wGt (cy := cy) X S h_o1.1 h_o1.2.1
        refine va_get (D := D) (ci := 10) (v := .int (S.I o1 4)) (C := RX6) (T := TX6) (N := 5) hx hb hts hi_X6_peakFrom_X6 hown hK hP k20 hk20 rfl 4 (by decide) (hts (.fieldLink RX6 24 "Hobhouse$Rolling" "classes" "I") (by decide +kernel)) (fun _ h9 => h9) rfl dX6_peakFrom_73 ?_
        have l32_1 : (1 : Int32).toInt = 1 := rfl
        have i21 : (w19_4 + (1 : Int32)).toInt = w19_4.toInt + 1 := t_addr (n := 1) rfl (by omega)
        refine lv_icmp_ge (tgt := 86) hx hb dX6_peakFrom_76 (by decide) (fun c22 => ?_) (fun c22 => ?_)
        · have c22i : (S.I o1 4).toInt ≤ (w19_4 + (1 : Int32)).toInt := le_v rfl rfl c22
          refine lv_iconst (v := 0) hx hb dX6_peakFrom_86 (by decide) ?_
          refine lv_istore (lv' := [(4, .int (0 : Int32)), (3, .int (if ((S.i (S.f o1 1) w19_5.toNatClampNeg) + (S.i (S.f o1 3) w19_4.toNatClampNeg)) < w19_3 then ((S.i (S.f o1 1) w19_5.toNatClampNeg) + (S.i (S.f o1 3) w19_4.toNatClampNeg)) else w19_3)), (2, .int (if w19_2 < ((S.i (S.f o1 0) w19_5.toNatClampNeg) + (S.i (S.f o1 2) w19_4.toNatClampNeg)) then ((S.i (S.f o1 0) w19_5.toNatClampNeg) + (S.i (S.f o1 2) w19_4.toNatClampNeg)) else w19_2)), (5, .int w19_5), (0, .ref o1), (1, .int x1)]) hx hb dX6_peakFrom_87 hl (by decide) rfl (fun ls hl => ?_)
          refine lv_iinc (v := w19_5 + (1 : Int32)) (lv' := [(5, .int (w19_5 + (1 : Int32))), (4, .int (0 : Int32)), (3, .int (if ((S.i (S.f o1 1) w19_5.toNatClampNeg) + (S.i (S.f o1 3) w19_4.toNatClampNeg)) < w19_3 then ((S.i (S.f o1 1) w19_5.toNatClampNeg) + (S.i (S.f o1 3) w19_4.toNatClampNeg)) else w19_3)), (2, .int (if w19_2 < ((S.i (S.f o1 0) w19_5.toNatClampNeg) + (S.i (S.f o1 2) w19_4.toNatClampNeg)) then ((S.i (S.f o1 0) w19_5.toNatClampNeg) + (S.i (S.f o1 2) w19_4.toNatClampNeg)) else w19_2)), (0, .ref o1), (1, .int x1)]) hx hb dX6_peakFrom_89 hl (k := 3) rfl (by rfl) (by decide) rfl (fun ls hl => ?_)
          refine lv_goto (tgt := 19) hx hb dX6_peakFrom_92 (by decide) ?_
          have i23 : (w19_5 + (1 : Int32)).toInt = w19_5.toInt + 1 := t_addr (n := 1) rfl (by omega)
          exact ih19 (if w19_2 < ((S.i (S.f o1 0) w19_5.toNatClampNeg) + (S.i (S.f o1 2) w19_4.toNatClampNeg)) then ((S.i (S.f o1 0) w19_5.toNatClampNeg) + (S.i (S.f o1 2) w19_4.toNatClampNeg)) else w19_2) (if ((S.i (S.f o1 1) w19_5.toNatClampNeg) + (S.i (S.f o1 3) w19_4.toNatClampNeg)) < w19_3 then ((S.i (S.f o1 1) w19_5.toNatClampNeg) + (S.i (S.f o1 3) w19_4.toNatClampNeg)) else w19_3) (0 : Int32) (w19_5 + (1 : Int32)) _ _ _ (Nat.lt_of_lt_of_le (by omega) (Nat.le_of_lt_succ hm19)) (by omega) hP hS (lv_sub hl [0, 1, 2, 3, 4, 5] rfl) (fun w19_2y w19_3y w19_4y w19_5y H9 locs9 ls9 i9 P9 S9 l9 hfe => ko19 w19_2y w19_3y w19_4y w19_5y H9 locs9 ls9 i9 P9 S9 l9 (Eq.trans (by rw [f_X6_peakFrom_L19_s, if_neg c7, if_pos c22]) hfe))
        · have c22i : (w19_4 + (1 : Int32)).toInt < (S.I o1 4).toInt := nle_v rfl rfl c22
          refine lv_iload hx hb dX6_peakFrom_79 (lv_at hl 3 rfl) ?_
          refine lv_iconst (v := 1) hx hb dX6_peakFrom_81 (by decide) ?_
          refine lv_iadd hx hb dX6_peakFrom_82 ?_
          refine lv_goto (tgt := 87) hx hb dX6_peakFrom_83 (by decide) ?_
          refine lv_istore (lv' := [(4, .int (w19_4 + (1 : Int32))), (3, .int (if ((S.i (S.f o1 1) w19_5.toNatClampNeg) + (S.i (S.f o1 3) w19_4.toNatClampNeg)) < w19_3 then ((S.i (S.f o1 1) w19_5.toNatClampNeg) + (S.i (S.f o1 3) w19_4.toNatClampNeg)) else w19_3)), (2, .int (if w19_2 < ((S.i (S.f o1 0) w19_5.toNatClampNeg) + (S.i (S.f o1 2) w19_4.toNatClampNeg)) then ((S.i (S.f o1 0) w19_5.toNatClampNeg) + (S.i (S.f o1 2) w19_4.toNatClampNeg)) else w19_2)), (5, .int w19_5), (0, .ref o1), (1, .int x1)]) hx hb dX6_peakFrom_87 hl (by decide) rfl (fun ls hl => ?_)
          refine lv_iinc (v := w19_5 + (1 : Int32)) (lv' := [(5, .int (w19_5 + (1 : Int32))), (4, .int (w19_4 + (1 : Int32))), (3, .int (if ((S.i (S.f o1 1) w19_5.toNatClampNeg) + (S.i (S.f o1 3) w19_4.toNatClampNeg)) < w19_3 then ((S.i (S.f o1 1) w19_5.toNatClampNeg) + (S.i (S.f o1 3) w19_4.toNatClampNeg)) else w19_3)), (2, .int (if w19_2 < ((S.i (S.f o1 0) w19_5.toNatClampNeg) + (S.i (S.f o1 2) w19_4.toNatClampNeg)) then ((S.i (S.f o1 0) w19_5.toNatClampNeg) + (S.i (S.f o1 2) w19_4.toNatClampNeg)) else w19_2)), (0, .ref o1), (1, .int x1)]) hx hb dX6_peakFrom_89 hl (k := 3) rfl (by rfl) (by decide) rfl (fun ls hl => ?_)
          refine lv_goto (tgt := 19) hx hb dX6_peakFrom_92 (by decide) ?_
          have i24 : (w19_5 + (1 : Int32)).toInt = w19_5.toInt + 1 := t_addr (n := 1) rfl (by omega)
          exact ih19 (if w19_2 < ((S.i (S.f o1 0) w19_5.toNatClampNeg) + (S.i (S.f o1 2) w19_4.toNatClampNeg)) then ((S.i (S.f o1 0) w19_5.toNatClampNeg) + (S.i (S.f o1 2) w19_4.toNatClampNeg)) else w19_2) (if ((S.i (S.f o1 1) w19_5.toNatClampNeg) + (S.i (S.f o1 3) w19_4.toNatClampNeg)) < w19_3 then ((S.i (S.f o1 1) w19_5.toNatClampNeg) + (S.i (S.f o1 3) w19_4.toNatClampNeg)) else w19_3) (w19_4 + (1 : Int32)) (w19_5 + (1 : Int32)) _ _ _ (Nat.lt_of_lt_of_le (by omega) (Nat.le_of_lt_succ hm19)) (by omega) hP hS (lv_sub hl [0, 1, 2, 3, 4, 5] rfl) (fun w19_2y w19_3y w19_4y w19_5y H9 locs9 ls9 i9 P9 S9 l9 hfe => ko19 w19_2y w19_3y w19_4y w19_5y H9 locs9 ls9 i9 P9 S9 l9 (Eq.trans (by rw [f_X6_peakFrom_L19_s, if_neg c7, if_neg c22]) hfe))
  refine loop19 201 (-2147483647 : Int32) (2147483647 : Int32) (f_J9_floorMod_7cf53 x1 (S.I o1 4)) (0 : Int32) _ _ _ (by omega) (by omega) hP hS (lv_sub hl [0, 1, 2, 3, 4, 5] rfl) (fun z26 z27 z28 z29 H locs ls hi19 hP hS hl c25 => ?_)
  refine lv_iload_n hx hb dX6_peakFrom_95 rfl (lv_at hl 3 rfl) ?_
  refine lv_iload_n hx hb dX6_peakFrom_96 rfl (lv_at hl 2 rfl) ?_
  refine lv_isub hx hb dX6_peakFrom_97 ?_
  refine W.widen (k := 0) (n := 0) (Nat.le_of_ble_eq_true rfl) (Nat.le_of_ble_eq_true rfl) ?_
  exact W.iret (v := z26 - z27) hx hb hr (fun t ht hW9 => ⟨⟨z26 - z27, (), rfl, (by show (z26 - z27) = f_X6_peakFrom S o1 x1; unfold f_X6_peakFrom; rw [l4_eq c25]), wd_end hP hK hD ht hW9.alike⟩, hS.F ht⟩) hS.2.2 dX6_peakFrom_98 hlocks
def f_X6_quietStart_L10 (S : wPS) (o1 : Nat) : Nat → Int32 → Int32 → Int32 → Int32 × Int32 × Int32
  | 0, w10_1, w10_2, w10_3 => (w10_1, w10_2, w10_3)
  | n + 1, w10_1, w10_2, w10_3 => if (S.I o1 4) ≤ w10_3 then (w10_1, w10_2, w10_3) else if w10_2 ≤ (f_X6_peakFrom S o1 w10_3) then f_X6_quietStart_L10 S o1 n w10_1 w10_2 (w10_3 + (1 : Int32)) else f_X6_quietStart_L10 S o1 n w10_3 (f_X6_peakFrom S o1 w10_3) (w10_3 + (1 : Int32))
theorem f_X6_quietStart_L10_s (S : wPS) (o1 : Nat) (n : Nat) (w10_1 : Int32) (w10_2 : Int32) (w10_3 : Int32) : f_X6_quietStart_L10 S o1 (n + 1) w10_1 w10_2 w10_3 = if (S.I o1 4) ≤ w10_3 then (w10_1, w10_2, w10_3) else if w10_2 ≤ (f_X6_peakFrom S o1 w10_3) then f_X6_quietStart_L10 S o1 n w10_1 w10_2 (w10_3 + (1 : Int32)) else f_X6_quietStart_L10 S o1 n w10_3 (f_X6_peakFrom S o1 w10_3) (w10_3 + (1 : Int32)) := rfl
def f_X6_quietStart (S : wPS) (o1 : Nat) : Int32 := l3 (f_X6_quietStart_L10 S o1 202 (0 : Int32) (f_X6_peakFrom S o1 (0 : Int32)) (1 : Int32)) (fun z14 z15 z16 => z14)
theorem hi_X6_quietStart_X6 : ∀ w ∈ u_ws RX6 TX6 5, w ∈ wsX6_quietStart := by decide +kernel
theorem hd_X6_quietStart : yX6_quietStart.cls = RX6 ∧ yX6_quietStart.cls ≠ "java/lang/invoke/MethodHandle" ∧ yX6_quietStart.cls ≠ "java/lang/invoke/VarHandle" ∧ (parseMethodDescriptor yX6_quietStart.desc).map (fun d => d.parameters.length) = some 0 := by decide +kernel
set_option maxHeartbeats 4000000 in
set_option maxRecDepth 100000 in
theorem c_X6_quietStart (l : Launch) {D : va_G} {cy : Nat → ClassId} {X : va_W} (S : wPS) (sz : Nat) (o1 : Nat) (h_o1 : isA S o1 6) (hW : wtB S [])  : Met l yX6_quietStart wsX6_quietStart ({ frames := 2, cells := 0, slots := 0, locals := 47 }) (va_Pc [.ref o1] (fun U => U.heap.size = sz ∧ WD D cy X (fun _ => True) S U ∧ NW U)) (va_Qi (fun r (_ : Unit) => r = f_X6_quietStart S o1) (fun _ t => WD D cy X (va_A (X ++ PL cy S) sz) S t) (va_A (X ++ PL cy S) sz)) 0 0 (va_A (X ++ PL cy S) sz) := by
  refine Met.ofW (cc := cX6_quietStart) (maxL := 5) (ret := (some .int)) (by decide) rfl ?_
  intro p e s m args below meth c s₁ B hml hv
  obtain ⟨rfl, hsz, ⟨hP, hK, hD0⟩, hN⟩ := hv
  have hx := B.exec
  have hb := B.bytes
  have hr := B.returns
  have hts := atoms_spec (ws := wsX6_quietStart) B.pre
  have hown : s.vm.findClass RX6 = some m.cls := findClass_of_methodNamed (x := yX6_quietStart) B.named
  have hlocks := B.notSynchronized
  subst hsz
  have hD := hD0.self (sz := s.heap.size)
  generalize hAe : va_A (X ++ PL cy S) s.heap.size = A at hD ⊢
  have hA : ∀ q : Nat, s.heap.size ≤ q → A q := fun q h => by rw [← hAe]; exact Or.inr h
  have hS : va_S A s.heap s.heap [] := va_S.rf
  have hl := lv_entry ([.ref o1]) (n := 5) (Nat.le_of_ble_eq_true rfl)
  rw [lg_entry_eq]
  generalize (lg_sl ([.ref o1]) ++ List.replicate (5 - (lg_sl ([.ref o1])).length) Slot.unset).toArray = ls at hl ⊢
  have hl : lv_has ls 5 [(0, .ref o1)] := hl
  refine lv_iconst (v := 0) hx hb dX6_quietStart_0 (by decide) ?_
  refine lv_istore_n (lv' := [(1, .int (0 : Int32)), (0, .ref o1)]) hx hb dX6_quietStart_1 rfl hl (by decide) rfl (fun ls hl => ?_)
  refine lv_aload_n hx hb dX6_quietStart_2 rfl (lv_at hl 1 rfl) ?_
  refine lv_iconst (v := 0) hx hb dX6_quietStart_3 (by decide) ?_
  have l32_0 : (0 : Int32).toInt = 0 := rfl
  have hFc := free_all hD hS hA
  obtain ⟨k1, gk1, hk1⟩ := wGt (cy := cy) X S h_o1.1 h_o1.2.1
  refine va_calli (va_runV (As := [.int (0 : Int32)]) (rest := []) ⟨hx, hb, hml, hown, hts⟩ (c_X6_peakFrom l (cy := cy) (X := X) (D := D) S _ o1 h_o1 (0 : Int32) (hW)) (cwV 1 hts gX6_quietStart_X6_peakFrom rfl rfl rfl hd_X6_peakFrom ⟨Nat.le_of_ble_eq_true rfl, Nat.le_of_ble_eq_true rfl⟩) (pV (va_recv hK hP (q := (RX6, TX6, 5)) (ci := 10) (q0 := k1) rfl hk1) hP hK hD hN) rfl rfl hl.1 rfl (lv_room (Nat.le_of_ble_eq_true rfl)) dX6_quietStart_4 ⟨(Nat.zero_le _), (Nat.zero_le _)⟩) hS (fun q _ h => hFc q h) hFc (fun r2 u t H1 locs ht hvm hw hB hz1 hk1 hS => ?_)
  have c3 := hw
  obtain ⟨hP, hD⟩ := wd_post hFc ht hB
  generalize H1 = H at hP hS ⊢
  obtain rfl : f_X6_peakFrom S o1 (0 : Int32) = r2 := c3.symm
  refine lv_istore_n (lv' := [(2, .int (f_X6_peakFrom S o1 (0 : Int32))), (1, .int (0 : Int32)), (0, .ref o1)]) hx hb dX6_quietStart_7 rfl hl (by decide) rfl (fun ls hl => ?_)
  refine lv_iconst (v := 1) hx hb dX6_quietStart_8 (by decide) ?_
  refine lv_istore_n (lv' := [(3, .int (1 : Int32)), (2, .int (f_X6_peakFrom S o1 (0 : Int32))), (1, .int (0 : Int32)), (0, .ref o1)]) hx hb dX6_quietStart_9 rfl hl (by decide) rfl (fun ls hl => ?_)
  have l32_1 : (1 : Int32).toInt = 1 := rfl
  have loop10 : ∀ (n : Nat) (w10_1 : Int32) (w10_2 : Int32) (w10_3 : Int32) (H : Heap) (locs : List Loc) (ls : Array Slot), (201 - w10_3.toInt).toNat < n → 1 ≤ w10_3.toInt ∧ w10_3.toInt ≤ 201 → va_P D vwCl (X ++ PL cy S) H → va_S A s.heap H locs → lv_has ls 5 [(3, .int w10_3), (2, .int w10_2), (1, .int w10_1), (0, .ref o1)] → (∀ (w10_1x : Int32) (w10_2x : Int32) (w10_3x : Int32) (H : Heap) (locs : List Loc) (ls : Array Slot), 1 ≤ w10_3x.toInt ∧ w10_3x.toInt ≤ 201 → va_P D vwCl (X ++ PL cy S) H → va_S A s.heap H locs → lv_has ls 5 [(3, .int w10_3x), (2, .int w10_2x), (1, .int w10_1x), (0, .ref o1)] → f_X6_quietStart_L10 S o1 n w10_1 w10_2 w10_3 = (w10_1x, w10_2x, w10_3x) → W p l e (headSpec wsX6_quietStart ({ frames := 2, cells := 0, slots := 0, locals := 47 } : Room)).room s m [.ref o1].toArray below meth c H locs 0 0 (MQ below (va_Qi (fun r (_ : Unit) => r = f_X6_quietStart S o1) (fun _ t => WD D cy X A S t) A) [.ref o1].toArray s 0 0 A) (F0 m 42 ls [])) → W p l e (headSpec wsX6_quietStart ({ frames := 2, cells := 0, slots := 0, locals := 47 } : Room)).room s m [.ref o1].toArray below meth c H locs 0 0 (MQ below (va_Qi (fun r (_ : Unit) => r = f_X6_quietStart S o1) (fun _ t => WD D cy X A S t) A) [.ref o1].toArray s 0 0 A) (F0 m 10 ls []) := by
    intro n10
    induction n10 with
    | zero => intro w10_1 w10_2 w10_3 H locs ls hm; exact absurd hm (Nat.not_lt_zero _)
    | succ n10 ih10 =>
      intro w10_1 w10_2 w10_3 H locs ls hm10 hi10 hP hS hl ko10
      refine lv_iload_n hx hb dX6_quietStart_10 rfl (lv_at hl 0 rfl) ?_
      refine lv_aload_n hx hb dX6_quietStart_11 rfl (lv_at hl 3 rfl) ?_
      obtain ⟨k4, gk4, hk4⟩ := wGt (cy := cy) X S h_o1.1 h_o1.2.1
      have i5 := ((hW.at h_o1 List.not_mem_nil).to_6 h_o1.2.1).R4
      refine va_get (D := D) (ci := 10) (v := .int (S.I o1 4)) (C := RX6) (T := TX6) (N := 5) hx hb hts hi_X6_quietStart_X6 hown hK hP k4 hk4 rfl 4 (by decide) (hts (.fieldLink RX6 24 "Hobhouse$Rolling" "classes" "I") (by decide +kernel)) (fun _ h9 => h9) rfl dX6_quietStart_12 ?_
      refine lv_icmp_ge (tgt := 42) hx hb dX6_quietStart_15 (by decide) (fun c6 => ?_) (fun c6 => ?_)
      · have c6i : (S.I o1 4).toInt ≤ w10_3.toInt := le_v rfl rfl c6
        exact ko10 w10_1 w10_2 w10_3 _ _ _ (by omega) hP hS (lv_sub hl [0, 1, 2, 3] rfl) (by rw [f_X6_quietStart_L10_s, if_pos c6])
      · have c6i : w10_3.toInt < (S.I o1 4).toInt := nle_v rfl rfl c6
        refine lv_aload_n hx hb dX6_quietStart_18 rfl (lv_at hl 3 rfl) ?_
        refine lv_iload_n hx hb dX6_quietStart_19 rfl (lv_at hl 0 rfl) ?_
        have hFc := free_all hD hS hA
        obtain ⟨k7, gk7, hk7⟩ := wGt (cy := cy) X S h_o1.1 h_o1.2.1
        refine va_calli (va_runV (As := [.int w10_3]) (rest := []) ⟨hx, hb, hml, hown, hts⟩ (c_X6_peakFrom l (cy := cy) (X := X) (D := D) S _ o1 h_o1 w10_3 (hW)) (cwV 1 hts gX6_quietStart_X6_peakFrom rfl rfl rfl hd_X6_peakFrom ⟨Nat.le_of_ble_eq_true rfl, Nat.le_of_ble_eq_true rfl⟩) (pV (va_recv hK hP (q := (RX6, TX6, 5)) (ci := 10) (q0 := k7) rfl hk7) hP hK hD hN) rfl rfl hl.1 rfl (lv_room (Nat.le_of_ble_eq_true rfl)) dX6_quietStart_20 ⟨(Nat.zero_le _), (Nat.zero_le _)⟩) hS (fun q _ h => hFc q h) hFc (fun r8 u t H1 locs ht hvm hw hB hz1 hk1 hS => ?_)
        have c9 := hw
        obtain ⟨hP, hD⟩ := wd_post hFc ht hB
        generalize H1 = H at hP hS ⊢
        obtain rfl : f_X6_peakFrom S o1 w10_3 = r8 := c9.symm
        refine lv_istore (lv' := [(4, .int (f_X6_peakFrom S o1 w10_3)), (3, .int w10_3), (2, .int w10_2), (1, .int w10_1), (0, .ref o1)]) hx hb dX6_quietStart_23 hl (by decide) rfl (fun ls hl => ?_)
        refine lv_iload hx hb dX6_quietStart_25 (lv_at hl 0 rfl) ?_
        refine lv_iload_n hx hb dX6_quietStart_27 rfl (lv_at hl 2 rfl) ?_
        refine lv_icmp_ge (tgt := 36) hx hb dX6_quietStart_28 (by decide) (fun c10 => ?_) (fun c10 => ?_)
        · have c10i : w10_2.toInt ≤ (f_X6_peakFrom S o1 w10_3).toInt := le_v rfl rfl c10
          refine lv_iinc (v := w10_3 + (1 : Int32)) (lv' := [(3, .int (w10_3 + (1 : Int32))), (4, .int (f_X6_peakFrom S o1 w10_3)), (2, .int w10_2), (1, .int w10_1), (0, .ref o1)]) hx hb dX6_quietStart_36 hl (k := 1) rfl (by rfl) (by decide) rfl (fun ls hl => ?_)
          refine lv_goto (tgt := 10) hx hb dX6_quietStart_39 (by decide) ?_
          have i11 : (w10_3 + (1 : Int32)).toInt = w10_3.toInt + 1 := t_addr (n := 1) rfl (by omega)
          exact ih10 w10_1 w10_2 (w10_3 + (1 : Int32)) _ _ _ (Nat.lt_of_lt_of_le (by omega) (Nat.le_of_lt_succ hm10)) (by omega) hP hS (lv_sub hl [0, 2, 3, 4] rfl) (fun w10_1y w10_2y w10_3y H9 locs9 ls9 i9 P9 S9 l9 hfe => ko10 w10_1y w10_2y w10_3y H9 locs9 ls9 i9 P9 S9 l9 (Eq.trans (by rw [f_X6_quietStart_L10_s, if_neg c6, if_pos c10]) hfe))
        · have c10i : (f_X6_peakFrom S o1 w10_3).toInt < w10_2.toInt := nle_v rfl rfl c10
          refine lv_iload hx hb dX6_quietStart_31 (lv_at hl 0 rfl) ?_
          refine lv_istore_n (lv' := [(2, .int (f_X6_peakFrom S o1 w10_3)), (4, .int (f_X6_peakFrom S o1 w10_3)), (3, .int w10_3), (1, .int w10_1), (0, .ref o1)]) hx hb dX6_quietStart_33 rfl hl (by decide) rfl (fun ls hl => ?_)
          refine lv_iload_n hx hb dX6_quietStart_34 rfl (lv_at hl 2 rfl) ?_
          refine lv_istore_n (lv' := [(1, .int w10_3), (2, .int (f_X6_peakFrom S o1 w10_3)), (4, .int (f_X6_peakFrom S o1 w10_3)), (3, .int w10_3), (0, .ref o1)]) hx hb dX6_quietStart_35 rfl hl (by decide) rfl (fun ls hl => ?_)
          refine lv_iinc (v := w10_3 + (1 : Int32)) (lv' := [(3, .int (w10_3 + (1 : Int32))), (1, .int w10_3), (2, .int (f_X6_peakFrom S o1 w10_3)), (4, .int (f_X6_peakFrom S o1 w10_3)), (0, .ref o1)]) hx hb dX6_quietStart_36 hl (k := 3) rfl (by rfl) (by decide) rfl (fun ls hl => ?_)
          refine lv_goto (tgt := 10) hx hb dX6_quietStart_39 (by decide) ?_
          have i12 : (w10_3 + (1 : Int32)).toInt = w10_3.toInt + 1 := t_addr (n := 1) rfl (by omega)
          exact ih10 w10_3 (f_X6_peakFrom S o1 w10_3) (w10_3 + (1 : Int32)) _ _ _ (Nat.lt_of_lt_of_le (by omega) (Nat.le_of_lt_succ hm10)) (by omega) hP hS (lv_sub hl [0, 2, 1, 4] rfl) (fun w10_1y w10_2y w10_3y H9 locs9 ls9 i9 P9 S9 l9 hfe => ko10 w10_1y w10_2y w10_3y H9 locs9 ls9 i9 P9 S9 l9 (Eq.trans (by rw [f_X6_quietStart_L10_s, if_neg c6, if_neg c10]) hfe))
  refine loop10 202 (0 : Int32) (f_X6_peakFrom S o1 (0 : Int32)) (1 : Int32) _ _ _ (by omega) (by omega) hP hS (lv_sub hl [0, 1, 2, 3] rfl) (fun z14 z15 z16 H locs ls hi10 hP hS hl c13 => ?_)
  refine lv_iload_n hx hb dX6_quietStart_42 rfl (lv_at hl 2 rfl) ?_
  refine W.widen (k := 0) (n := 0) (Nat.le_of_ble_eq_true rfl) (Nat.le_of_ble_eq_true rfl) ?_
  exact W.iret (v := z14) hx hb hr (fun t ht hW9 => ⟨⟨z14, (), rfl, (by show z14 = f_X6_quietStart S o1; unfold f_X6_quietStart; rw [l3_eq c13]), wd_end hP hK hD ht hW9.alike⟩, hS.F ht⟩) hS.2.2 dX6_quietStart_43 hlocks
