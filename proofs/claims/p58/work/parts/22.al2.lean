theorem any_obj {C : String} {s : State} (hN : va_Nw (.castable C "java/lang/Object") s) : ∀ comp c0 : ClassId, s.vm.findClass "java/lang/Object" = some comp → s.vm.findClass C = some c0 → s.vm.assignable c0 comp = true := by
  intro comp c0 h1 h2
  obtain ⟨c3, c4, f1, f2, f3⟩ := Cond.castable_spec (va_Nw.use (A := #[]) rfl hN)
  cases h2.symm.trans f1
  cases h1.symm.trans f2
  exact f3
theorem shr_all : ∀ j : Fin 27, 0 ≤ ((nI j.val) >>> ((1 : Int32) &&& 31)).toInt ∧ ((nI j.val) >>> ((1 : Int32) &&& 31)).toInt ≤ 13 := by decide +kernel
theorem shr1 {x : Int32} (h : 0 ≤ x.toInt ∧ x.toInt ≤ 26) : 0 ≤ (x >>> ((1 : Int32) &&& 31)).toInt ∧ (x >>> ((1 : Int32) &&& 31)).toInt ≤ 13 := by
  obtain ⟨j, hj, rfl⟩ := nI_all (x := x) (n := 27) ⟨h.1, by omega⟩ (by decide)
  exact shr_all ⟨j, hj⟩
theorem cpy_el {f g : Nat → Option Nat} {sp dp n i y : Nat} (h : va_cpy f g sp dp n i = some y) (hg : ∀ i, g i = none) : ∃ k, f k = some y := by
  unfold va_cpy at h
  split at h
  · exact ⟨_, h⟩
  · rw [hg] at h; cases h
theorem cpy_r {U V : wPS} {q o i : Nat} {n : Int32} (hV : U.sr q (va_cpy (U.r o) (U.r q) (0 : Int32).toNatClampNeg (0 : Int32).toNatClampNeg n.toNatClampNeg) = V) (hi : i < n.toNatClampNeg) : V.r q i = U.r o i := by
  have z9 : (0 : Int32).toNatClampNeg = 0 := rfl
  rw [← hV]
  show va_up U.r q _ q i = _
  rw [up_qq]
  unfold va_cpy
  rw [z9, if_pos ⟨Nat.zero_le _, by omega⟩]
  simp
theorem ok14_row {U : wPS} {o q k : Nat} (hA : isA U o 14) (hk : U.n o = k) (hq : isA U q 22) (hn : 1 ≤ U.n q ∧ U.n q ≤ 40) (h0 : U.F q 0 = some k) (hs : 0 ≤ (U.I o 2).toInt ∧ (U.I o 2).toInt ≤ U.n q ∧ (U.I o 2).toInt ≤ 20 ∧ (k = 11 → (U.I o 2).toInt ≤ 8)) (he : ∀ i : Nat, (i : Int) < (U.I o 2).toInt → ∃ g, U.r q i = some g ∧ isA U g k) : ok_14 (U.sF o 1 (some q)) o := by
  have e1 : (U.sF o 1 (some q)).F o 1 = some q := sF_eq
  have f1 : (U.sF o 1 (some q)).f o 1 = q := f_of e1
  have hne : q ≠ o := fun e => by
    have h1 := hA.2.1; have h2 := hq.2.1
    rw [← e, h2] at h1
    exact absurd h1 (by decide)
  refine Or.inr ⟨by rw [f1]; exact e1, by rw [f1]; exact hq, by rw [f1]; exact hn, ?_, hs.1, by rw [f1]; exact ⟨hs.2.1, hs.2.2.1, fun e => hs.2.2.2 (hk.symm.trans e)⟩, ?_⟩
  · rw [f1, sF_ne (fun e => hne e.1), h0, ← hk]; rfl
  · rw [f1]; intro i hi
    obtain ⟨g, e, hg⟩ := he i hi
    exact ⟨g, e, hk ▸ hg⟩
theorem al_push {U : wPS} {o a g k : Nat} {i v : Int32} (h : ok_14 U o) (hF : U.F o 1 = some a) (hA : isA U a 22) (hn : 1 ≤ U.n a ∧ U.n a ≤ 40) (h0 : U.F a 0 = some k) (hk : U.n o = k) (hi : i.toInt = (U.I o 2).toInt) (hl : (U.I o 2).toInt < U.n a) (hg : isA U g k) (hv : v.toInt = i.toInt + 1 ∧ v.toInt ≤ 20 ∧ (k = 11 → v.toInt ≤ 8)) : cst 14 2 (U.sr a (va_up (U.r a) i.toNatClampNeg (some g))) o v := by
  have hs := (al_sz h).1
  have fo : U.f o 1 = a := f_of hF
  have hc := cl_int (i := i) (by omega)
  refine Or.inr ⟨?_, ?_, ?_, ?_, by omega, ?_, ?_⟩
  · show U.F o 1 = some (U.f o 1)
    rw [fo]; exact hF
  · show isA U (U.f o 1) 22
    rw [fo]; exact hA
  · show 1 ≤ U.n (U.f o 1) ∧ U.n (U.f o 1) ≤ 40
    rw [fo]; exact hn
  · show U.F (U.f o 1) 0 = some (U.n o)
    rw [fo, hk]; exact h0
  · show v.toInt ≤ U.n (U.f o 1) ∧ v.toInt ≤ 20 ∧ (U.n o = 11 → v.toInt ≤ 8)
    rw [fo]; exact ⟨by omega, by omega, fun e => hv.2.2 (hk.symm.trans e)⟩
  · intro j hj
    show ∃ g', (va_up U.r a (va_up (U.r a) i.toNatClampNeg (some g))) (U.f o 1) j = some g' ∧ isA U g' (U.n o)
    rw [fo, up_qq]
    by_cases e : j = i.toNatClampNeg
    · subst e
      exact ⟨g, up_qq, by rw [hk]; exact hg⟩
    · rw [up_nq e]
      rcases h with ⟨_, e2⟩ | ⟨a1, a2, a3, a4, a5, a6, a7⟩
      · omega
      · rw [fo] at a7
        exact a7 j (by omega)
theorem hd_J8_newLength_cabcc : yJ8_newLength_cabcc.cls = RJ8 ∧ yJ8_newLength_cabcc.cls ≠ "java/lang/invoke/MethodHandle" ∧ yJ8_newLength_cabcc.cls ≠ "java/lang/invoke/VarHandle" ∧ (parseMethodDescriptor yJ8_newLength_cabcc.desc).map (fun d => d.parameters.length) = some 3 := by decide +kernel
set_option maxHeartbeats 4000000 in
set_option maxRecDepth 100000 in
theorem c_J8_newLength_cabcc (l : Launch) {D : va_G} {cy : Nat → ClassId} {X : va_W} (S : wPS) (sz : Nat) (x1 : Int32) (x2 : Int32) (x3 : Int32) (h1 : 0 ≤ x1.toInt ∧ x1.toInt ≤ 26) (h2 : x2.toInt = 1) (h3 : 0 ≤ x3.toInt ∧ x3.toInt ≤ 13) : Met l yJ8_newLength_cabcc wsJ8_newLength_cabcc ({ frames := 1, cells := 0, slots := 0, locals := 14 }) (va_Pc [.int x1, .int x2, .int x3] (fun U => U.heap.size = sz ∧ WD D cy X (fun _ => True) S U ∧ NW U)) (va_Qi (fun r (_ : Unit) => x1.toInt + 1 ≤ r.toInt ∧ r.toInt ≤ 40) (fun _ t => WD D cy X (va_A (X ++ PL cy S) sz) S t) (va_A (X ++ PL cy S) sz)) 0 0 (va_A (X ++ PL cy S) sz) := by
  refine Met.ofW (cc := cJ8_newLength_cabcc) (maxL := 4) (ret := (some .int)) (by decide) rfl ?_
  intro p e s m args below meth c s₁ B hml hv
  obtain ⟨rfl, hsz, ⟨hP, hK, hD0⟩, hN⟩ := hv
  have hx := B.exec
  have hb := B.bytes
  have hr := B.returns
  have hts := atoms_spec (ws := wsJ8_newLength_cabcc) B.pre
  have hown : s.vm.findClass RJ8 = some m.cls := findClass_of_methodNamed (x := yJ8_newLength_cabcc) B.named
  have hlocks := B.notSynchronized
  subst hsz
  have hD := hD0.self (sz := s.heap.size)
  generalize hAe : va_A (X ++ PL cy S) s.heap.size = A at hD ⊢
  have hA : ∀ q : Nat, s.heap.size ≤ q → A q := fun q h => by rw [← hAe]; exact Or.inr h
  have hS : va_S A s.heap s.heap [] := va_S.rf
  have hl := lv_entry ([.int x1, .int x2, .int x3]) (n := 4) (Nat.le_of_ble_eq_true rfl)
  rw [lg_entry_eq]
  generalize (lg_sl ([.int x1, .int x2, .int x3]) ++ List.replicate (4 - (lg_sl ([.int x1, .int x2, .int x3])).length) Slot.unset).toArray = ls at hl ⊢
  have hl : lv_has ls 4 [(0, .int x1), (1, .int x2), (2, .int x3)] := hl
  refine lv_iload_n hx hb dJ8_newLength_cabcc_0 rfl (lv_at hl 0 rfl) ?_
  refine lv_iload_n hx hb dJ8_newLength_cabcc_1 rfl (lv_at hl 1 rfl) ?_
  refine lv_iload_n hx hb dJ8_newLength_cabcc_2 rfl (lv_at hl 2 rfl) ?_
  refine va_mmax hx hb (hml.trans hl.1.symm) hown (hts (.methodLink RJ8 194 Lib.Math.max.name) (by decide +kernel)) (hts (.static Lib.Math.max.name) (by decide +kernel)) (hts (.initialized "java/lang/Math") (by decide +kernel)) (hts (.code Lib.Math.max.name Lib.Math.max.code 2 (some .int)) (by decide +kernel)) (Nat.le_of_ble_eq_true rfl) (Nat.le_of_ble_eq_true rfl) (Nat.zero_le _) (Nat.zero_le _) dJ8_newLength_cabcc_3 ?_
  have i1 := mmax_i x2 x3
  refine lv_iadd hx hb dJ8_newLength_cabcc_6 ?_
  refine lv_istore_n (lv' := [(3, .int (x1 + (if x2 < x3 then x3 else x2))), (0, .int x1), (1, .int x2), (2, .int x3)]) hx hb dJ8_newLength_cabcc_7 rfl hl (by decide) rfl (fun ls hl => ?_)
  refine lv_iconst (v := 0) hx hb dJ8_newLength_cabcc_8 (by decide) ?_
  refine lv_iload_n hx hb dJ8_newLength_cabcc_9 rfl (lv_at hl 0 rfl) ?_
  have l32_0 : (0 : Int32).toInt = 0 := rfl
  have i2 : (x1 + (if x2 < x3 then x3 else x2)).toInt = x1.toInt + (if x2 < x3 then x3 else x2).toInt := t_add (by omega)
  refine lv_icmp_ge (tgt := 21) hx hb dJ8_newLength_cabcc_10 (by decide) (fun c3 => ?_) (fun c3 => ?_)
  · have c3i : (x1 + (if x2 < x3 then x3 else x2)).toInt ≤ 0 := le_v rfl rfl c3
    exact False.elim (by omega)
  · have c3i : 0 < (x1 + (if x2 < x3 then x3 else x2)).toInt := nle_v rfl rfl c3
    refine lv_iload_n hx hb dJ8_newLength_cabcc_13 rfl (lv_at hl 0 rfl) ?_
    refine lv_ldc (own := RJ8) (v := 2147483639) hx hb hown (hts (.constant RJ8 200 (2147483639)) (by decide +kernel)) dJ8_newLength_cabcc_14 ?_
    have l32_2147483639 : (2147483639 : Int32).toInt = 2147483639 := rfl
    refine lv_icmp_gt (tgt := 21) hx hb dJ8_newLength_cabcc_16 (by decide) (fun c4 => ?_) (fun c4 => ?_)
    · have c4i : 2147483639 < (x1 + (if x2 < x3 then x3 else x2)).toInt := lt_v rfl rfl c4
      exact False.elim (by omega)
    · have c4i : (x1 + (if x2 < x3 then x3 else x2)).toInt ≤ 2147483639 := nlt_v rfl rfl c4
      refine lv_iload_n hx hb dJ8_newLength_cabcc_19 rfl (lv_at hl 0 rfl) ?_
      refine W.widen (k := 0) (n := 0) (Nat.le_of_ble_eq_true rfl) (Nat.le_of_ble_eq_true rfl) ?_
      exact W.iret (v := x1 + (if x2 < x3 then x3 else x2)) hx hb hr (fun t ht hW9 => ⟨⟨x1 + (if x2 < x3 then x3 else x2), (), rfl, (by omega), wd_end hP hK hD ht hW9.alike⟩, hS.F ht⟩) hS.2.2 dJ8_newLength_cabcc_20 hlocks
theorem hd_J7_copyOf_6403c : yJ7_copyOf_6403c.cls = RJ7 ∧ yJ7_copyOf_6403c.cls ≠ "java/lang/invoke/MethodHandle" ∧ yJ7_copyOf_6403c.cls ≠ "java/lang/invoke/VarHandle" ∧ (parseMethodDescriptor yJ7_copyOf_6403c.desc).map (fun d => d.parameters.length) = some 3 := by decide +kernel
set_option maxHeartbeats 4000000 in
set_option maxRecDepth 100000 in
theorem c_J7_copyOf_6403c_g (l : Launch) {e0 mi : Nat} {D : va_G} {cy : Nat → ClassId} {X : va_W} (S : wPS) (sz : Nat) (o1 : Nat) (h_o1 : isA S o1 22) (x1 : Int32) (hW : wtB S []) (n1 : S.n o1 ≤ 26) (h2 : (S.n o1 : Int) ≤ x1.toInt ∧ x1.toInt ≤ 40) (h3 : S.F o1 0 = some 10) : Met l yJ7_copyOf_6403c wsJ7_copyOf_6403c ({ frames := 1, cells := 1, slots := 40, locals := 40 }) (va_Pc [.ref o1, .int x1, .ref mi] (fun U => U.heap.size = sz ∧ WD D cy X (fun _ => True) S U ∧ NW U ∧ OU e0 mi (va_A (X ++ PL cy S) sz) U U.heap)) (va_Qq (fun r (u : wPS) => ∃ a : Nat, r = some a ∧ stp ([] : List (Nat × Nat)) [] [] S u ∧ u.n a = x1.toNatClampNeg ∧ u.F a 0 = some 10 ∧ (∀ i : Nat, i < S.n o1 → u.r a i = S.r o1 i) ∧ isA u a 22) (fun u t => WD D cy X (va_A (X ++ PL cy S) sz) u t) (va_A (X ++ PL cy S) sz)) 1 40 (va_A (X ++ PL cy S) sz) := by
  refine Met.ofW (cc := cJ7_copyOf_6403c) (maxL := 4) (ret := (some (.array (.object "java/lang/Object")))) (by decide) rfl ?_
  intro p e s m args below meth c s₁ B hml hv
  obtain ⟨rfl, hsz, ⟨hP, hK, hD0⟩, hN, hOU⟩ := hv
  have hx := B.exec
  have hb := B.bytes
  have hr := B.returns
  have hts := atoms_spec (ws := wsJ7_copyOf_6403c) B.pre
  have hown : s.vm.findClass RJ7 = some m.cls := findClass_of_methodNamed (x := yJ7_copyOf_6403c) B.named
  have hlocks := B.notSynchronized
  subst hsz
  have hD := hD0.self (sz := s.heap.size)
  generalize hAe : va_A (X ++ PL cy S) s.heap.size = A at hD hOU ⊢
  have hA : ∀ q : Nat, s.heap.size ≤ q → A q := fun q h => by rw [← hAe]; exact Or.inr h
  have hS : va_S A s.heap s.heap [] := va_S.rf
  have hl := lv_entry ([.ref o1, .int x1, .ref mi]) (n := 4) (Nat.le_of_ble_eq_true rfl)
  rw [lg_entry_eq]
  generalize (lg_sl ([.ref o1, .int x1, .ref mi]) ++ List.replicate (4 - (lg_sl ([.ref o1, .int x1, .ref mi])).length) Slot.unset).toArray = ls at hl ⊢
  have hl : lv_has ls 4 [(0, .ref o1), (1, .int x1), (2, .ref mi)] := hl
  obtain ⟨⟨ga, gZ, gX, gl, gA⟩, ⟨sa9, sZ, sX, sl9, sA⟩, cZ, eZ, eX, el, eA, hMi, hDc, ⟨pf, pZ⟩⟩ := id hOU
  have t0 : stp ([] : List (Nat × Nat)) [] [] S S := stp.rf hW
  refine lv_aload_n hx hb dJ7_copyOf_6403c_0 rfl (lv_at hl 2 rfl) ?_
  refine va_ldcM (C := "[Ljava/lang/Object;") (mi := mi) hx hb hown (hts (.classLink RJ7 110 "[Ljava/lang/Object;") (by decide +kernel)) hMi dJ7_copyOf_6403c_1 ?_
  refine lv_acmp_ne (rx := some mi) (ry := some mi) (tgt := 13) hx hb dJ7_copyOf_6403c_3 (by decide) (fun c1 => ?_) (fun c1 => ?_)
  · exact absurd rfl c1
  · refine lv_iload_n hx hb dJ7_copyOf_6403c_6 rfl (lv_at hl 1 rfl) ?_
    have mqa2 : x1.toNatClampNeg ≤ 40 := clamp_le (by omega) (by omega)
    refine va_newq (C := "java/lang/Object") hx hb hown (hts (.classLink RJ7 2 "java/lang/Object") (by decide +kernel)) (hN (.arrayOver (.object "java/lang/Object")) (by decide +kernel)) hK hP hD hS hA (N' := x1.toNatClampNeg) (nneg_i (by omega)) (rfl) (Nat.le_trans (Nat.mul_le_mul_right _ mqa2) (by decide)) (Nat.le_of_ble_eq_true rfl) (Nat.le_trans (Nat.add_le_add_left mqa2 _) (Nat.le_of_ble_eq_true rfl)) dJ7_copyOf_6403c_7 (fun qa2 cqa2 H hK2 hP2 hD2 hS => ?_)
    obtain rfl : cqa2 = cy 7 := cls_22 hK hK2
    have hqa2 : qa2 ∉ S.L := nw_q hD2
    have e9 := wNw (cy := cy) (X := X) (S := S) (a := qa2) (k := 22) (z := x1.toNatClampNeg) (f := fun _ => 0) (g := fun _ => none) hqa2 rfl
    obtain ⟨S3, hS3⟩ : ∃ z, S.nw qa2 22 x1.toNatClampNeg (fun _ => 0) (fun _ => none) = z := ⟨_, rfl⟩
    have hP : va_P D vwCl (X ++ PL cy S3) H := by rw [← hS3, ← e9]; exact hP2
    have hD : va_D A (X ++ PL cy S3) := by rw [← hS3, ← e9]; exact hD2
    have xe4 : ext S S3 := by rw [← hS3]; exact ext.nw hqa2
    have t5 : stp ([] : List (Nat × Nat)) [] (qa2 :: []) S S3 := by rw [← hS3]; exact t0.nw hqa2 (Or.inl (by decide))
    refine W.widen (k := 1) (n := 40) (Nat.le_of_ble_eq_true rfl) (Nat.add_le_add_left mqa2 _) ?_
    have aqa2 : isA S3 qa2 22 := by rw [← hS3]; exact nw_A (Nat.lt_of_le_of_lt mqa2 (by decide))
    have nqa2 : S3.n qa2 = x1.toNatClampNeg := by rw [← hS3]; exact nw_n
    have rqa2 : ∀ j, S3.r qa2 j = none := by rw [← hS3]; exact fun j => congrFun (up_qq (f := S.r)) j
    have fqa2 : ∀ j, S3.F qa2 j = none := by rw [← hS3]; exact nw_F
    have bqa2 : qa2 ∉ S.L := fun e => hqa2 e
    have e9 := gh_PL (cy := cy) (X := X) (S := S3) (a := qa2) (j := 0) (v := some 10) aqa2.2.1 (by decide)
    have hP2 := hP
    have hD2 := hD
    rw [e9] at hP2 hD2
    replace e9 := Eq.refl (X ++ PL cy (S3.sF qa2 0 (some 10)))
    obtain ⟨S6, hS6⟩ : ∃ z, S3.sF qa2 0 (some 10) = z := ⟨_, rfl⟩
    have hP : va_P D vwCl (X ++ PL cy S6) H := by rw [← hS6, ← e9]; exact hP2
    have hD : va_D A (X ++ PL cy S6) := by rw [← hS6, ← e9]; exact hD2
    have xe7 : ext S3 S6 := by rw [← hS6]; exact ext.sF (fqa2 0)
    have t8 : stp ([] : List (Nat × Nat)) [] [] S S6 := by rw [← hS6]; exact (t5.F 0 10 List.mem_cons_self (Or.inr bqa2) (fqa2 0)).un (okAt.of_22 (S := S3.sF qa2 0 (some 10)) aqa2.2.1 (fun k i g _ e => by rw [show (S3.sF qa2 0 (some 10)).r qa2 i = none from rqa2 i] at e; cases e))
    have gqa2 : S6.F qa2 0 = some 10 := by rw [← hS6]; exact sF_eq
    have rqa2 : ∀ j, S6.r qa2 j = none := by rw [← hS6]; exact rqa2
    refine lv_goto (tgt := 24) hx hb dJ7_copyOf_6403c_10 (by decide) ?_
    refine lv_astore_n (lv' := [(3, .ref qa2), (0, .ref o1), (1, .int x1), (2, .ref mi)]) hx hb dJ7_copyOf_6403c_24 rfl hl (by decide) rfl (fun ls hl => ?_)
    refine lv_aload_n hx hb dJ7_copyOf_6403c_25 rfl (lv_at hl 1 rfl) ?_
    refine lv_iconst (v := 0) hx hb dJ7_copyOf_6403c_26 (by decide) ?_
    refine lv_aload_n hx hb dJ7_copyOf_6403c_27 rfl (lv_at hl 0 rfl) ?_
    refine lv_iconst (v := 0) hx hb dJ7_copyOf_6403c_28 (by decide) ?_
    refine lv_aload_n hx hb dJ7_copyOf_6403c_29 rfl (lv_at hl 1 rfl) ?_
    obtain ⟨k9, gk9, hk9⟩ := wGt (cy := cy) X S6 ((xe4.tr xe7).A h_o1).1 ((xe4.tr xe7).A h_o1).2.1
    have i10 : (nI (S.n o1)).toInt = ((S.n o1 : Nat) : Int) := nI_toInt h_o1.2.2
    have i11 := h_o1.2.2
    have i12 := n1
    refine va_alen (D := D) (cl := vwCl) (tys := tyL cy) hx hb hK hP k9 7 hk9 rfl (v := nI (S.n o1)) (by rw [((xe4.tr xe7).n h_o1)]; rfl) dJ7_copyOf_6403c_30 ?_
    refine lv_iload_n hx hb dJ7_copyOf_6403c_31 rfl (lv_at hl 2 rfl) ?_
    refine va_mmin hx hb (hml.trans hl.1.symm) hown (hts (.methodLink RJ7 304 Lib.Math.min.name) (by decide +kernel)) (hts (.static Lib.Math.min.name) (by decide +kernel)) (hts (.initialized "java/lang/Math") (by decide +kernel)) (hts (.code Lib.Math.min.name Lib.Math.min.code 2 (some .int)) (by decide +kernel)) (Nat.le_of_ble_eq_true rfl) (Nat.le_of_ble_eq_true rfl) (Nat.le_of_ble_eq_true rfl) (Nat.le_of_ble_eq_true rfl) dJ7_copyOf_6403c_32 ?_
    have i13 := mmin_i (nI (S.n o1)) x1
    obtain ⟨k14, gk14, hk14⟩ := wGt (cy := cy) X S6 ((xe4.tr xe7).A h_o1).1 ((xe4.tr xe7).A h_o1).2.1
    obtain ⟨k15, gk15, hk15⟩ := wGt (cy := cy) X S6 (xe7.A aqa2).1 (xe7.A aqa2).2.1
    have j0 : S6.n o1 = S.n o1 := (xe4.tr xe7).n h_o1
    have j1 := ((xe7.n aqa2).trans nqa2)
    have j2 := cl_int (i := (if x1 < (nI (S.n o1)) then x1 else (nI (S.n o1)))) (by omega)
    have j3 := cl_int (i := x1) (by omega)
    have z9 : (0 : Int32).toNatClampNeg = 0 := rfl
    refine va_copyq (C := "HobhouseModel$Gear") hx hb (hml.trans hl.1.symm) hown (hts (.methodLink RJ7 150 arraycopyName) (by decide +kernel)) (hts (.native arraycopyName) (by decide +kernel)) (hts (.static arraycopyName) (by decide +kernel)) (hts (.initialized "java/lang/System") (by decide +kernel)) hK hP hD hS k14 k15 7 7 hk14 hk15 rfl rfl (by decide) (by decide) (nneg_i (by omega)) (by rw [z9]; omega) (by rw [z9]; omega) (fun i9 _ y9 e9 => by have h9 := ((t8.w.at ((xe4.tr xe7).A h_o1) List.not_mem_nil).to_22 ((xe4.tr xe7).A h_o1).2.1).X0 10 _ y9 ((xe4.tr xe7).F h_o1 (by decide) h3) e9; obtain ⟨k8, g8, h8⟩ := wGt (cy := cy) X S6 h9.1 h9.2.1; exact va_recv hK hP (ci := 14) (q0 := k8) rfl h8) (any_obj (hN (.castable "HobhouseModel$Gear" "java/lang/Object") (by decide +kernel))) (Nat.le_of_ble_eq_true rfl) (Nat.le_of_ble_eq_true rfl) dJ7_copyOf_6403c_35 (fun H locs hP2 hD2 hS => ?_)
    have e9 := wPur (cy := cy) (f := (va_cpy (S6.r o1) (S6.r qa2) (0 : Int32).toNatClampNeg (0 : Int32).toNatClampNeg (if x1 < (nI (S.n o1)) then x1 else (nI (S.n o1))).toNatClampNeg)) hD (xe7.A aqa2).1 (xe7.A aqa2).2.1 gk15 rfl
    obtain ⟨S16, hS16⟩ : ∃ z, S6.sr qa2 (va_cpy (S6.r o1) (S6.r qa2) (0 : Int32).toNatClampNeg (0 : Int32).toNatClampNeg (if x1 < (nI (S.n o1)) then x1 else (nI (S.n o1))).toNatClampNeg) = z := ⟨_, rfl⟩
    have hP : va_P D vwCl (X ++ PL cy S16) H := by rw [← hS16, ← e9]; exact hP2
    have hD : va_D A (X ++ PL cy S16) := by rw [← hS16, ← e9]; exact hD2
    have xe17 : ext S6 S16 := by rw [← hS16]; exact ext.sr _ _ _
    have t18 : stp ([] : List (Nat × Nat)) [] [] S S16 := by rw [← hS16]; exact t8.rc (xe7.A aqa2) gqa2 rqa2 (fun i9 y9 e9 => by obtain ⟨q9, e8⟩ := cpy_el e9 rqa2; exact ((t8.w.at ((xe4.tr xe7).A h_o1) List.not_mem_nil).to_22 ((xe4.tr xe7).A h_o1).2.1).X0 10 q9 y9 ((xe4.tr xe7).F h_o1 (by decide) h3) e8) bqa2
    refine lv_aload_n hx hb dJ7_copyOf_6403c_38 rfl (lv_at hl 0 rfl) ?_
    refine W.widen (k := 1) (n := 40) (Nat.le_of_ble_eq_true rfl) (Nat.le_of_ble_eq_true rfl) ?_
    exact W.aret (v := .ref qa2) hx hb hr (Or.inr ⟨_, rfl⟩) (Or.inr ⟨_, rfl⟩) (fun t ht hW9 => ⟨⟨some qa2, S16, rfl, ⟨qa2, rfl, t18, ((((xe7.tr xe17).n aqa2).trans nqa2)), ((xe17.F (xe7.A aqa2) (by decide) gqa2)), ((fun i hi => (cpy_r hS16 (by omega)).trans (congrFun ((t8.fR o1 h_o1.1 List.not_mem_nil).2.2.1 (by rw [h_o1.2.1]; decide)) i))), (xe17.A (xe7.A aqa2))⟩, wd_end hP hK hD ht hW9.alike⟩, hS.F ht⟩) hS.2.2 dJ7_copyOf_6403c_39 hlocks
theorem hd_J7_copyOf_1904c : yJ7_copyOf_1904c.cls = RJ7 ∧ yJ7_copyOf_1904c.cls ≠ "java/lang/invoke/MethodHandle" ∧ yJ7_copyOf_1904c.cls ≠ "java/lang/invoke/VarHandle" ∧ (parseMethodDescriptor yJ7_copyOf_1904c.desc).map (fun d => d.parameters.length) = some 2 := by decide +kernel
set_option maxHeartbeats 4000000 in
set_option maxRecDepth 100000 in
theorem c_J7_copyOf_1904c_g (l : Launch) {e0 mi : Nat} {D : va_G} {cy : Nat → ClassId} {X : va_W} (S : wPS) (sz : Nat) (o1 : Nat) (h_o1 : isA S o1 22) (x1 : Int32) (hW : wtB S []) (n1 : S.n o1 ≤ 26) (h2 : (S.n o1 : Int) ≤ x1.toInt ∧ x1.toInt ≤ 40) (h3 : S.F o1 0 = some 10) : Met l yJ7_copyOf_1904c wsJ7_copyOf_1904c ({ frames := 2, cells := 1, slots := 40, locals := 63 }) (va_Pc [.ref o1, .int x1] (fun U => U.heap.size = sz ∧ WD D cy X (fun _ => True) S U ∧ NW U ∧ OU e0 mi (va_A (X ++ PL cy S) sz) U U.heap)) (va_Qq (fun r (u : wPS) => ∃ a : Nat, r = some a ∧ stp ([] : List (Nat × Nat)) [] [] S u ∧ u.n a = x1.toNatClampNeg ∧ u.F a 0 = some 10 ∧ (∀ i : Nat, i < S.n o1 → u.r a i = S.r o1 i) ∧ isA u a 22) (fun u t => WD D cy X (va_A (X ++ PL cy S) sz) u t) (va_A (X ++ PL cy S) sz)) 1 40 (va_A (X ++ PL cy S) sz) := by
  refine Met.ofW (cc := cJ7_copyOf_1904c) (maxL := 2) (ret := (some (.array (.object "java/lang/Object")))) (by decide) rfl ?_
  intro p e s m args below meth c s₁ B hml hv
  obtain ⟨rfl, hsz, ⟨hP, hK, hD0⟩, hN, hOU⟩ := hv
  have hx := B.exec
  have hb := B.bytes
  have hr := B.returns
  have hts := atoms_spec (ws := wsJ7_copyOf_1904c) B.pre
  have hown : s.vm.findClass RJ7 = some m.cls := findClass_of_methodNamed (x := yJ7_copyOf_1904c) B.named
  have hlocks := B.notSynchronized
  subst hsz
  have hD := hD0.self (sz := s.heap.size)
  generalize hAe : va_A (X ++ PL cy S) s.heap.size = A at hD hOU ⊢
  have hA : ∀ q : Nat, s.heap.size ≤ q → A q := fun q h => by rw [← hAe]; exact Or.inr h
  have hS : va_S A s.heap s.heap [] := va_S.rf
  have hl := lv_entry ([.ref o1, .int x1]) (n := 2) (Nat.le_of_ble_eq_true rfl)
  rw [lg_entry_eq]
  generalize (lg_sl ([.ref o1, .int x1]) ++ List.replicate (2 - (lg_sl ([.ref o1, .int x1])).length) Slot.unset).toArray = ls at hl ⊢
  have hl : lv_has ls 2 [(0, .ref o1), (1, .int x1)] := hl
  obtain ⟨⟨ga, gZ, gX, gl, gA⟩, ⟨sa9, sZ, sX, sl9, sA⟩, cZ, eZ, eX, el, eA, hMi, hDc, ⟨pf, pZ⟩⟩ := id hOU
  have t0 : stp ([] : List (Nat × Nat)) [] [] S S := stp.rf hW
  refine lv_aload_n hx hb dJ7_copyOf_1904c_0 rfl (lv_at hl 0 rfl) ?_
  refine lv_iload_n hx hb dJ7_copyOf_1904c_1 rfl (lv_at hl 1 rfl) ?_
  refine lv_aload_n hx hb dJ7_copyOf_1904c_2 rfl (lv_at hl 0 rfl) ?_
  obtain ⟨k1, gk1, hk1⟩ := wGt (cy := cy) X S h_o1.1 h_o1.2.1
  refine va_getC (C := "[Ljava/lang/Object;") (mi := mi) hx hb (hml.trans hl.1.symm) hown (hts (.methodLink RJ7 86 ⟨"java/lang/Object", "getClass", "()Ljava/lang/Class;"⟩) (by decide +kernel)) (va_Dc.use hDc) (hts (.selects "[Ljava/lang/Object;" ⟨"java/lang/Object", "getClass", "()Ljava/lang/Class;"⟩ ⟨"java/lang/Object", "getClass", "()Ljava/lang/Class;"⟩) (by decide +kernel)) (hts (.instanceMethod ⟨"java/lang/Object", "getClass", "()Ljava/lang/Class;"⟩) (by decide +kernel)) (hts (.native ⟨"java/lang/Object", "getClass", "()Ljava/lang/Class;"⟩) (by decide +kernel)) hMi (recv_arr hK hP (i := 7) rfl hk1 rfl) (Nat.le_of_ble_eq_true rfl) (Nat.le_of_ble_eq_true rfl) dJ7_copyOf_1904c_3 ?_
  have hFc := free_all hD hS hA
  refine va_callq (va_runS (As := [.ref o1, .int x1, .ref mi]) (rest := []) ⟨hx, hb, hml, hown, hts⟩ (c_J7_copyOf_6403c_g l (e0 := e0) (mi := mi) (cy := cy) (X := X) (D := D) S _ o1 h_o1 x1 (hW) n1 h2 h3) (cwS 3 hts gJ7_copyOf_1904c_J7_copyOf_6403c rfl rfl rfl hd_J7_copyOf_6403c ⟨Nat.le_of_ble_eq_true rfl, Nat.le_of_ble_eq_true rfl⟩) (pSo hP hK hD hN hOU hS hFc) rfl rfl hl.1 rfl (lv_room (Nat.le_of_ble_eq_true rfl)) dJ7_copyOf_1904c_6 ⟨Nat.le_of_ble_eq_true rfl, Nat.le_of_ble_eq_true rfl⟩) hS (fun q _ h => hFc q h) hFc (fun r2 u t H1 locs ht hvm hw hB hz1 hk1 hS => ?_)
  obtain ⟨r2, rfl, w3, y4, y5, y6, o7⟩ := hw
  obtain ⟨hP, hD⟩ := wd_post hFc ht hB
  generalize H1 = H at hP hS ⊢
  obtain ⟨S8, rfl⟩ : ∃ z, z = u := ⟨_, rfl⟩
  have t9 : stp ([] : List (Nat × Nat)) [] [] S S8 := t0.tr w3 (by decide) (fun _ q => absurd q List.not_mem_nil)
  have xe10 : ext S S8 := w3.x
  refine W.eq (g2 := F0 m 9 ls [.ref r2]) rfl ?_
  refine W.widen (k := 1) (n := 40) (Nat.le_of_ble_eq_true rfl) (Nat.le_of_ble_eq_true rfl) ?_
  exact W.aret (v := .ref r2) hx hb hr (Or.inr ⟨_, rfl⟩) (Or.inr ⟨_, rfl⟩) (fun t ht hW9 => ⟨⟨some r2, S8, rfl, ⟨r2, rfl, t9, (y4), (y5), (y6), o7⟩, wd_end hP hK hD ht hW9.alike⟩, hS.F ht⟩) hS.2.2 dJ7_copyOf_1904c_9 hlocks
theorem hi_Jx4a65c_grow_92f84_Jx4a65c : ∀ w ∈ u_ws RJx4a65c TJx4a65c 3, w ∈ wsJx4a65c_grow_92f84 := by decide +kernel
theorem hd_Jx4a65c_grow_92f84 : yJx4a65c_grow_92f84.cls = RJx4a65c ∧ yJx4a65c_grow_92f84.cls ≠ "java/lang/invoke/MethodHandle" ∧ yJx4a65c_grow_92f84.cls ≠ "java/lang/invoke/VarHandle" ∧ (parseMethodDescriptor yJx4a65c_grow_92f84.desc).map (fun d => d.parameters.length) = some 1 := by decide +kernel
set_option maxHeartbeats 4000000 in
set_option maxRecDepth 100000 in
theorem c_Jx4a65c_grow_92f84_gA (l : Launch) {e0 mi : Nat} {D : va_G} {cy : Nat → ClassId} {X : va_W} (S : wPS) (sz : Nat) (o1 : Nat) (h_o1 : isA S o1 14) (x1 : Int32) (hW : wtB S []) (hE9 : S.F o1 1 = some e0) (hs : (S.I o1 2).toInt = 0) (hx : x1.toInt = 1) (hg : S.n o1 = 10) : Met l yJx4a65c_grow_92f84 wsJx4a65c_grow_92f84 ({ frames := 1, cells := 1, slots := 10, locals := 14 }) (va_Pc [.ref o1, .int x1] (fun U => U.heap.size = sz ∧ WD D cy X (fun _ => True) S U ∧ NW U ∧ OU e0 mi (va_A (X ++ PL cy S) sz) U U.heap)) (va_Qq (fun r (u : wPS) => ∃ a : Nat, r = some a ∧ stp [(14, 1), (114, 10)] [] [] S u ∧ u.F o1 1 = some a ∧ ((S.I o1 2).toInt < u.n a ∧ u.n a ≤ 40) ∧ u.F a 0 = some 10 ∧ (u.I o1 2).toInt = (S.I o1 2).toInt ∧ u.n o1 = 10 ∧ (∀ i : Nat, (i : Int) < (S.I o1 2).toInt → u.r a i = S.r (S.f o1 1) i) ∧ isA u a 22) (fun u t => WD D cy X (va_A (X ++ PL cy S) sz) u t) (va_A (X ++ PL cy S) sz)) 1 10 (va_A (X ++ PL cy S) sz) := by
  refine Met.ofW (cc := cJx4a65c_grow_92f84) (maxL := 4) (ret := (some (.array (.object "java/lang/Object")))) (by decide) rfl ?_
  intro p e s m args below meth c s₁ B hml hv
  obtain ⟨rfl, hsz, ⟨hP, hK, hD0⟩, hN, hOU⟩ := hv
  have hx := B.exec
  have hb := B.bytes
  have hr := B.returns
  have hts := atoms_spec (ws := wsJx4a65c_grow_92f84) B.pre
  have hown : s.vm.findClass RJx4a65c = some m.cls := findClass_of_methodNamed (x := yJx4a65c_grow_92f84) B.named
  have hlocks := B.notSynchronized
  subst hsz
  have hD := hD0.self (sz := s.heap.size)
  generalize hAe : va_A (X ++ PL cy S) s.heap.size = A at hD hOU ⊢
  have hA : ∀ q : Nat, s.heap.size ≤ q → A q := fun q h => by rw [← hAe]; exact Or.inr h
  have hS : va_S A s.heap s.heap [] := va_S.rf
  have hl := lv_entry ([.ref o1, .int x1]) (n := 4) (Nat.le_of_ble_eq_true rfl)
  rw [lg_entry_eq]
  generalize (lg_sl ([.ref o1, .int x1]) ++ List.replicate (4 - (lg_sl ([.ref o1, .int x1])).length) Slot.unset).toArray = ls at hl ⊢
  have hl : lv_has ls 4 [(0, .ref o1), (1, .int x1)] := hl
  obtain ⟨⟨ga, gZ, gX, gl, gA⟩, ⟨sa9, sZ, sX, sl9, sA⟩, cZ, eZ, eX, el, eA, hMi, hDc, ⟨pf, pZ⟩⟩ := id hOU
  have t0 : stp [(14, 1), (114, 10)] [] [] S S := stp.rf hW
  refine lv_aload_n hx hb dJx4a65c_grow_92f84_0 rfl (lv_at hl 0 rfl) ?_
  have F1 : S.F o1 1 = some e0 := hE9
  obtain ⟨k2, gk2, hk2⟩ := wGt (cy := cy) X S h_o1.1 h_o1.2.1
  simp only [kE, F1] at hk2
  refine va_get (D := D) (ci := 3) (v := .ref e0) (C := RJx4a65c) (T := TJx4a65c) (N := 3) hx hb hts hi_Jx4a65c_grow_92f84_Jx4a65c hown hK hP k2 hk2 rfl 1 (by decide) (hts (.fieldLink RJx4a65c 9 "java/util/ArrayList" "elementData" "[Ljava/lang/Object;") (by decide +kernel)) (fun _ h9 => h9) rfl dJx4a65c_grow_92f84_1 ?_
  refine ou_len hx hb eX el eA hS dJx4a65c_grow_92f84_4 ?_
  refine W.eq (g2 := F0 m 5 ls [.int (0 : Int32)]) rfl ?_
  refine lv_istore_n (lv' := [(2, .int (0 : Int32)), (0, .ref o1), (1, .int x1)]) hx hb dJx4a65c_grow_92f84_5 rfl hl (by decide) rfl (fun ls hl => ?_)
  refine lv_iload_n hx hb dJx4a65c_grow_92f84_6 rfl (lv_at hl 0 rfl) ?_
  refine lv_if_gt (tgt := 20) hx hb dJx4a65c_grow_92f84_7 (by decide) (fun c3 => ?_) (fun c3 => ?_)
  · exact absurd c3 (by decide)
  · refine lv_aload_n hx hb dJx4a65c_grow_92f84_10 rfl (lv_at hl 1 rfl) ?_
    obtain ⟨k4, gk4, hk4⟩ := wGt (cy := cy) X S h_o1.1 h_o1.2.1
    simp only [kE, F1] at hk4
    refine va_get (D := D) (ci := 3) (v := .ref e0) (C := RJx4a65c) (T := TJx4a65c) (N := 3) hx hb hts hi_Jx4a65c_grow_92f84_Jx4a65c hown hK hP k4 hk4 rfl 1 (by decide) (hts (.fieldLink RJx4a65c 9 "java/util/ArrayList" "elementData" "[Ljava/lang/Object;") (by decide +kernel)) (fun _ h9 => h9) rfl dJx4a65c_grow_92f84_11 ?_
    refine va_gets hx hb eZ hS hown (hts (.fieldLink RJx4a65c 39 "java/util/ArrayList" "DEFAULTCAPACITY_EMPTY_ELEMENTDATA" "[Ljava/lang/Object;") (by decide +kernel)) (fun _ h9 => h9) dJx4a65c_grow_92f84_14 ?_
    refine lv_acmp_eq (rx := some e0) (ry := some e0) (tgt := 45) hx hb dJx4a65c_grow_92f84_17 (by decide) (fun c5 => ?_) (fun c5 => ?_)
    · refine lv_aload_n hx hb dJx4a65c_grow_92f84_45 rfl (lv_at hl 1 rfl) ?_
      refine lv_bipush (v := 10) hx hb dJx4a65c_grow_92f84_46 (by decide +kernel) ?_
      refine lv_iload_n hx hb dJx4a65c_grow_92f84_48 rfl (lv_at hl 2 rfl) ?_
      refine va_mmax hx hb (hml.trans hl.1.symm) hown (hts (.methodLink RJx4a65c 79 Lib.Math.max.name) (by decide +kernel)) (hts (.static Lib.Math.max.name) (by decide +kernel)) (hts (.initialized "java/lang/Math") (by decide +kernel)) (hts (.code Lib.Math.max.name Lib.Math.max.code 2 (some .int)) (by decide +kernel)) (Nat.le_of_ble_eq_true rfl) (Nat.le_of_ble_eq_true rfl) (Nat.zero_le _) (Nat.zero_le _) dJx4a65c_grow_92f84_49 ?_
      have l32_10 : (10 : Int32).toInt = 10 := rfl
      have i6 := mmax_i (10 : Int32) x1
      have mqa7 : (if (10 : Int32) < x1 then x1 else (10 : Int32)).toNatClampNeg ≤ 10 := clamp_le (by omega) (by omega)
      refine va_newq (C := "java/lang/Object") hx hb hown (hts (.classLink RJx4a65c 7 "java/lang/Object") (by decide +kernel)) (hN (.arrayOver (.object "java/lang/Object")) (by decide +kernel)) hK hP hD hS hA (N' := (if (10 : Int32) < x1 then x1 else (10 : Int32)).toNatClampNeg) (nneg_i (by omega)) (rfl) (Nat.le_trans (Nat.mul_le_mul_right _ mqa7) (by decide)) (Nat.le_of_ble_eq_true rfl) (Nat.le_trans (Nat.add_le_add_left mqa7 _) (Nat.le_of_ble_eq_true rfl)) dJx4a65c_grow_92f84_52 (fun qa7 cqa7 H hK2 hP2 hD2 hS => ?_)
      obtain rfl : cqa7 = cy 7 := cls_22 hK hK2
      have hqa7 : qa7 ∉ S.L := nw_q hD2
      have e9 := wNw (cy := cy) (X := X) (S := S) (a := qa7) (k := 22) (z := (if (10 : Int32) < x1 then x1 else (10 : Int32)).toNatClampNeg) (f := fun _ => 0) (g := fun _ => none) hqa7 rfl
      obtain ⟨S8, hS8⟩ : ∃ z, S.nw qa7 22 ((if (10 : Int32) < x1 then x1 else (10 : Int32)).toNatClampNeg) (fun _ => 0) (fun _ => none) = z := ⟨_, rfl⟩
      have hP : va_P D vwCl (X ++ PL cy S8) H := by rw [← hS8, ← e9]; exact hP2
      have hD : va_D A (X ++ PL cy S8) := by rw [← hS8, ← e9]; exact hD2
      have xe9 : ext S S8 := by rw [← hS8]; exact ext.nw hqa7
      have t10 : stp [(14, 1), (114, 10)] [] (qa7 :: []) S S8 := by rw [← hS8]; exact t0.nw hqa7 (Or.inl (by decide))
      have k11 : (S8.I o1 2).toInt = (S.I o1 2).toInt := by rw [← hS8]; exact congrArg Int32.toInt (nw_Io hqa7 h_o1.1)
      refine W.widen (k := 1) (n := 10) (Nat.le_of_ble_eq_true rfl) (Nat.add_le_add_left mqa7 _) ?_
      have aqa7 : isA S8 qa7 22 := by rw [← hS8]; exact nw_A (Nat.lt_of_le_of_lt mqa7 (by decide))
      have nqa7 : S8.n qa7 = (if (10 : Int32) < x1 then x1 else (10 : Int32)).toNatClampNeg := by rw [← hS8]; exact nw_n
      have rqa7 : ∀ j, S8.r qa7 j = none := by rw [← hS8]; exact fun j => congrFun (up_qq (f := S.r)) j
      have fqa7 : ∀ j, S8.F qa7 j = none := by rw [← hS8]; exact nw_F
      have bqa7 : qa7 ∉ S.L := fun e => hqa7 e
      have e9 := gh_PL (cy := cy) (X := X) (S := S8) (a := qa7) (j := 0) (v := some 10) aqa7.2.1 (by decide)
      have hP2 := hP
      have hD2 := hD
      rw [e9] at hP2 hD2
      replace e9 := Eq.refl (X ++ PL cy (S8.sF qa7 0 (some 10)))
      obtain ⟨S12, hS12⟩ : ∃ z, S8.sF qa7 0 (some 10) = z := ⟨_, rfl⟩
      have hP : va_P D vwCl (X ++ PL cy S12) H := by rw [← hS12, ← e9]; exact hP2
      have hD : va_D A (X ++ PL cy S12) := by rw [← hS12, ← e9]; exact hD2
      have xe13 : ext S8 S12 := by rw [← hS12]; exact ext.sF (fqa7 0)
      have t14 : stp [(14, 1), (114, 10)] [] [] S S12 := by rw [← hS12]; exact (t10.F 0 10 List.mem_cons_self (Or.inr bqa7) (fqa7 0)).un (okAt.of_22 (S := S8.sF qa7 0 (some 10)) aqa7.2.1 (fun k i g _ e => by rw [show (S8.sF qa7 0 (some 10)).r qa7 i = none from rqa7 i] at e; cases e))
      have k15 : (S12.I o1 2).toInt = (S8.I o1 2).toInt := by rw [← hS12]; rfl
      have gqa7 : S12.F qa7 0 = some 10 := by rw [← hS12]; exact sF_eq
      have rqa7 : ∀ j, S12.r qa7 j = none := by rw [← hS12]; exact rqa7
      refine lv_dup_x1 hx hb dJx4a65c_grow_92f84_55 rfl rfl ?_
      obtain ⟨k16, gk16, hk16⟩ := wGt (cy := cy) X S12 ((xe9.tr xe13).A h_o1).1 ((xe9.tr xe13).A h_o1).2.1
      refine va_put (D := D) (ci := 3) (v := .ref qa7) (ty := (tyJx4a65c 1)) (C := RJx4a65c) (T := TJx4a65c) (N := 3) hx hb hts hi_Jx4a65c_grow_92f84_Jx4a65c tyJx4a65c tyJx4a65c_ok nmJx4a65c hown hK hP hD hS k16 hk16 rfl 1 (by decide) (hts (.fieldLink RJx4a65c 9 "java/util/ArrayList" "elementData" "[Ljava/lang/Object;") (by decide +kernel)) (fun _ h9 => h9) rfl (by decide +kernel) (rfl) (rfl) (Nat.le_of_ble_eq_true rfl) dJx4a65c_grow_92f84_56 (fun H locs hP2 hD2 hS => ?_)
      have e9 := wPuF (cy := cy) (j := 1) (v := (some qa7)) hD ((xe9.tr xe13).A h_o1).1 ((xe9.tr xe13).A h_o1).2.1 gk16 rfl
      obtain ⟨S17, hS17⟩ : ∃ z, S12.sF o1 1 (some qa7) = z := ⟨_, rfl⟩
      have hP : va_P D vwCl (X ++ PL cy S17) H := by rw [← hS17, ← e9]; exact hP2
      have hD : va_D A (X ++ PL cy S17) := by rw [← hS17, ← e9]; exact hD2
      have xe18 : ext S12 S17 := by rw [← hS17]; exact ext.sL ((xe9.tr xe13).A h_o1)
      have t19 : stp [(14, 1), (114, 10)] [] [] S S17 := by rw [← hS17]; exact t14.L qa7 ((xe9.tr xe13).A h_o1) (by decide) (ok14_row ((xe9.tr xe13).A h_o1) ((t14.x.n h_o1).trans hg) (xe13.A aqa7) (by have h9 := cl_int (i := (if (10 : Int32) < x1 then x1 else (10 : Int32))) (by omega); have h8 := ((xe13.n aqa7).trans nqa7); omega) gqa7 (by have h9 := cl_int (i := (if (10 : Int32) < x1 then x1 else (10 : Int32))) (by omega); have h8 := ((xe13.n aqa7).trans nqa7); omega) (fun i hi => absurd hi (by omega))) (by rw [(show S12.n o1 = 10 from (t14.x.n h_o1).trans hg)]; decide)
      have k20 : (S17.I o1 2).toInt = (S12.I o1 2).toInt := by rw [← hS17]; rfl
      have F21 : S17.F o1 1 = some qa7 := by rw [← hS17]; exact sF_eq
      have h8 := cl_int (i := (if (10 : Int32) < x1 then x1 else (10 : Int32))) (by omega)
      have h8 := cl_int (i := (if (10 : Int32) < x1 then x1 else (10 : Int32))) (by omega)
      have h8 := cl_int (i := (if (10 : Int32) < x1 then x1 else (10 : Int32))) (by omega)
      have h8 := cl_int (i := (if (10 : Int32) < x1 then x1 else (10 : Int32))) (by omega)
      have h8 := cl_int (i := (if (10 : Int32) < x1 then x1 else (10 : Int32))) (by omega)
      have h8 := cl_int (i := (if (10 : Int32) < x1 then x1 else (10 : Int32))) (by omega)
      refine W.widen (k := 1) (n := 10) (Nat.le_of_ble_eq_true rfl) (Nat.le_of_ble_eq_true rfl) ?_
      exact W.aret (v := .ref qa7) hx hb hr (Or.inr ⟨_, rfl⟩) (Or.inr ⟨_, rfl⟩) (fun t ht hW9 => ⟨⟨some qa7, S17, rfl, ⟨qa7, rfl, t19, (F21), (by have h9 := (((xe13.tr xe18).n aqa7).trans nqa7); rw [h9]; omega), ((xe18.F (xe13.A aqa7) (by decide) gqa7)), (by omega), ((t19.x.n h_o1).trans hg), ((fun i hi => absurd hi (by omega))), (xe18.A (xe13.A aqa7))⟩, wd_end hP hK hD ht hW9.alike⟩, hS.F ht⟩) hS.2.2 dJx4a65c_grow_92f84_59 hlocks
    · exact absurd rfl c5
theorem hi_Jx4a65c_grow_d5877_Jx4a65c : ∀ w ∈ u_ws RJx4a65c TJx4a65c 3, w ∈ wsJx4a65c_grow_d5877 := by decide +kernel
theorem hd_Jx4a65c_grow_d5877 : yJx4a65c_grow_d5877.cls = RJx4a65c ∧ yJx4a65c_grow_d5877.cls ≠ "java/lang/invoke/MethodHandle" ∧ yJx4a65c_grow_d5877.cls ≠ "java/lang/invoke/VarHandle" ∧ (parseMethodDescriptor yJx4a65c_grow_d5877.desc).map (fun d => d.parameters.length) = some 0 := by decide +kernel
set_option maxHeartbeats 4000000 in
set_option maxRecDepth 100000 in
theorem c_Jx4a65c_grow_d5877_gA (l : Launch) {e0 mi : Nat} {D : va_G} {cy : Nat → ClassId} {X : va_W} (S : wPS) (sz : Nat) (o1 : Nat) (h_o1 : isA S o1 14) (hW : wtB S []) (hE9 : S.F o1 1 = some e0) (hs : (S.I o1 2).toInt = 0) (hg : S.n o1 = 10) : Met l yJx4a65c_grow_d5877 wsJx4a65c_grow_d5877 ({ frames := 2, cells := 1, slots := 10, locals := 37 }) (va_Pc [.ref o1] (fun U => U.heap.size = sz ∧ WD D cy X (fun _ => True) S U ∧ NW U ∧ OU e0 mi (va_A (X ++ PL cy S) sz) U U.heap)) (va_Qq (fun r (u : wPS) => ∃ a : Nat, r = some a ∧ stp [(14, 1), (114, 10)] [] [] S u ∧ u.F o1 1 = some a ∧ ((S.I o1 2).toInt < u.n a ∧ u.n a ≤ 40) ∧ u.F a 0 = some 10 ∧ (u.I o1 2).toInt = (S.I o1 2).toInt ∧ u.n o1 = 10 ∧ (∀ i : Nat, (i : Int) < (S.I o1 2).toInt → u.r a i = S.r (S.f o1 1) i) ∧ isA u a 22) (fun u t => WD D cy X (va_A (X ++ PL cy S) sz) u t) (va_A (X ++ PL cy S) sz)) 1 10 (va_A (X ++ PL cy S) sz) := by
  refine Met.ofW (cc := cJx4a65c_grow_d5877) (maxL := 1) (ret := (some (.array (.object "java/lang/Object")))) (by decide) rfl ?_
  intro p e s m args below meth c s₁ B hml hv
  obtain ⟨rfl, hsz, ⟨hP, hK, hD0⟩, hN, hOU⟩ := hv
  have hx := B.exec
  have hb := B.bytes
  have hr := B.returns
  have hts := atoms_spec (ws := wsJx4a65c_grow_d5877) B.pre
  have hown : s.vm.findClass RJx4a65c = some m.cls := findClass_of_methodNamed (x := yJx4a65c_grow_d5877) B.named
  have hlocks := B.notSynchronized
  subst hsz
  have hD := hD0.self (sz := s.heap.size)
  generalize hAe : va_A (X ++ PL cy S) s.heap.size = A at hD hOU ⊢
  have hA : ∀ q : Nat, s.heap.size ≤ q → A q := fun q h => by rw [← hAe]; exact Or.inr h
  have hS : va_S A s.heap s.heap [] := va_S.rf
  have hl := lv_entry ([.ref o1]) (n := 1) (Nat.le_of_ble_eq_true rfl)
  rw [lg_entry_eq]
  generalize (lg_sl ([.ref o1]) ++ List.replicate (1 - (lg_sl ([.ref o1])).length) Slot.unset).toArray = ls at hl ⊢
  have hl : lv_has ls 1 [(0, .ref o1)] := hl
  obtain ⟨⟨ga, gZ, gX, gl, gA⟩, ⟨sa9, sZ, sX, sl9, sA⟩, cZ, eZ, eX, el, eA, hMi, hDc, ⟨pf, pZ⟩⟩ := id hOU
  have t0 : stp [(14, 1), (114, 10)] [] [] S S := stp.rf hW
  refine lv_aload_n hx hb dJx4a65c_grow_d5877_0 rfl (lv_at hl 0 rfl) ?_
  refine lv_aload_n hx hb dJx4a65c_grow_d5877_1 rfl (lv_at hl 0 rfl) ?_
  obtain ⟨k1, gk1, hk1⟩ := wGt (cy := cy) X S h_o1.1 h_o1.2.1
  refine va_get (D := D) (ci := 3) (v := .int (S.I o1 2)) (C := RJx4a65c) (T := TJx4a65c) (N := 3) hx hb hts hi_Jx4a65c_grow_d5877_Jx4a65c hown hK hP k1 hk1 rfl 2 (by decide) (hts (.fieldLink RJx4a65c 48 "java/util/ArrayList" "size" "I") (by decide +kernel)) (fun _ h9 => h9) rfl dJx4a65c_grow_d5877_2 ?_
  refine lv_iconst (v := 1) hx hb dJx4a65c_grow_d5877_5 (by decide) ?_
  refine lv_iadd hx hb dJx4a65c_grow_d5877_6 ?_
  have l32_1 : (1 : Int32).toInt = 1 := rfl
  have i2 : ((S.I o1 2) + (1 : Int32)).toInt = (S.I o1 2).toInt + 1 := t_addr (n := 1) rfl (by omega)
  have hFc := free_all hD hS hA
  obtain ⟨k3, gk3, hk3⟩ := wGt (cy := cy) X S h_o1.1 h_o1.2.1
  refine va_callq (va_runV (As := [.int ((S.I o1 2) + (1 : Int32))]) (rest := []) ⟨hx, hb, hml, hown, hts⟩ (c_Jx4a65c_grow_92f84_gA l (e0 := e0) (mi := mi) (cy := cy) (X := X) (D := D) S _ o1 h_o1 ((S.I o1 2) + (1 : Int32)) (hW) hE9 hs (by omega) hg) (cwV 1 hts gJx4a65c_grow_d5877_Jx4a65c_grow_92f84 rfl rfl rfl hd_Jx4a65c_grow_92f84 ⟨Nat.le_of_ble_eq_true rfl, Nat.le_of_ble_eq_true rfl⟩) (pVo (va_recv hK hP (q := (RJx4a65c, TJx4a65c, 3)) (ci := 3) (q0 := k3) rfl hk3) hP hK hD hN hOU hS hFc) rfl rfl hl.1 rfl (lv_room (Nat.le_of_ble_eq_true rfl)) dJx4a65c_grow_d5877_7 ⟨Nat.le_of_ble_eq_true rfl, Nat.le_of_ble_eq_true rfl⟩) hS (fun q _ h => hFc q h) hFc (fun r4 u t H1 locs ht hvm hw hB hz1 hk1 hS => ?_)
  obtain ⟨r4, rfl, w5, y6, y7, y8, y9, y10, y11, o12⟩ := hw
  obtain ⟨hP, hD⟩ := wd_post hFc ht hB
  generalize H1 = H at hP hS ⊢
  obtain ⟨S13, rfl⟩ : ∃ z, z = u := ⟨_, rfl⟩
  have t14 : stp [(14, 1), (114, 10)] [] [] S S13 := t0.tr w5 (by decide) (fun _ q => absurd q List.not_mem_nil)
  have xe15 : ext S S13 := w5.x
  refine W.eq (g2 := F0 m 10 ls [.ref r4]) rfl ?_
  refine W.widen (k := 1) (n := 10) (Nat.le_of_ble_eq_true rfl) (Nat.le_of_ble_eq_true rfl) ?_
  exact W.aret (v := .ref r4) hx hb hr (Or.inr ⟨_, rfl⟩) (Or.inr ⟨_, rfl⟩) (fun t ht hW9 => ⟨⟨some r4, S13, rfl, ⟨r4, rfl, t14, (y6), (y7), (y8), (y9), (y10), (y11), o12⟩, wd_end hP hK hD ht hW9.alike⟩, hS.F ht⟩) hS.2.2 dJx4a65c_grow_d5877_10 hlocks
theorem hi_Jx4a65c_add_72be8_Jx4a65c : ∀ w ∈ u_ws RJx4a65c TJx4a65c 3, w ∈ wsJx4a65c_add_72be8 := by decide +kernel
theorem hd_Jx4a65c_add_72be8 : yJx4a65c_add_72be8.cls = RJx4a65c ∧ yJx4a65c_add_72be8.cls ≠ "java/lang/invoke/MethodHandle" ∧ yJx4a65c_add_72be8.cls ≠ "java/lang/invoke/VarHandle" ∧ (parseMethodDescriptor yJx4a65c_add_72be8.desc).map (fun d => d.parameters.length) = some 3 := by decide +kernel
set_option maxHeartbeats 4000000 in
set_option maxRecDepth 100000 in
theorem c_Jx4a65c_add_72be8_gA (l : Launch) {e0 mi : Nat} {D : va_G} {cy : Nat → ClassId} {X : va_W} (S : wPS) (sz : Nat) (o1 : Nat) (h_o1 : isA S o1 14) (o2 : Nat) (h_o2 : isA S o2 10) (x1 : Int32) (hW : wtB S []) (hE9 : S.F o1 1 = some e0) (hs : (S.I o1 2).toInt = 0) (hx : x1.toInt = (S.I o1 2).toInt) (hg : S.n o1 = 10) : Met l yJx4a65c_add_72be8 wsJx4a65c_add_72be8 ({ frames := 3, cells := 1, slots := 10, locals := 57 }) (va_Pc [.ref o1, .ref o2, .ref e0, .int x1] (fun U => U.heap.size = sz ∧ WD D cy X (fun _ => True) S U ∧ NW U ∧ OU e0 mi (va_A (X ++ PL cy S) sz) U U.heap)) (va_Qv (fun (u : wPS) => stp [(14, 1), (14, 2), (22, 101), (114, 10), (122, 10)] [] [] S u ∧ (u.I o1 2).toInt = (S.I o1 2).toInt + 1 ∧ (∃ a : Nat, u.F o1 1 = some a ∧ isA u a 22 ∧ u.r a x1.toNatClampNeg = some o2 ∧ ∀ i : Nat, (i : Int) < (S.I o1 2).toInt → u.r a i = S.r (S.f o1 1) i)) (fun u t => WD D cy X (va_A (X ++ PL cy S) sz) u t) (va_A (X ++ PL cy S) sz)) 1 10 (va_A (X ++ PL cy S) sz) := by
  refine Met.ofW (cc := cJx4a65c_add_72be8) (maxL := 4) (ret := none) (by decide) rfl ?_
  intro p e s m args below meth c s₁ B hml hv
  obtain ⟨rfl, hsz, ⟨hP, hK, hD0⟩, hN, hOU⟩ := hv
  have hx := B.exec
  have hb := B.bytes
  have hr := B.returns
  have hts := atoms_spec (ws := wsJx4a65c_add_72be8) B.pre
  have hown : s.vm.findClass RJx4a65c = some m.cls := findClass_of_methodNamed (x := yJx4a65c_add_72be8) B.named
  have hlocks := B.notSynchronized
  subst hsz
  have hD := hD0.self (sz := s.heap.size)
  generalize hAe : va_A (X ++ PL cy S) s.heap.size = A at hD hOU ⊢
  have hA : ∀ q : Nat, s.heap.size ≤ q → A q := fun q h => by rw [← hAe]; exact Or.inr h
  have hS : va_S A s.heap s.heap [] := va_S.rf
  have hl := lv_entry ([.ref o1, .ref o2, .ref e0, .int x1]) (n := 4) (Nat.le_of_ble_eq_true rfl)
  rw [lg_entry_eq]
  generalize (lg_sl ([.ref o1, .ref o2, .ref e0, .int x1]) ++ List.replicate (4 - (lg_sl ([.ref o1, .ref o2, .ref e0, .int x1])).length) Slot.unset).toArray = ls at hl ⊢
  have hl : lv_has ls 4 [(0, .ref o1), (1, .ref o2), (2, .ref e0), (3, .int x1)] := hl
  obtain ⟨⟨ga, gZ, gX, gl, gA⟩, ⟨sa9, sZ, sX, sl9, sA⟩, cZ, eZ, eX, el, eA, hMi, hDc, ⟨pf, pZ⟩⟩ := id hOU
  have t0 : stp [(14, 1), (14, 2), (22, 101), (114, 10), (122, 10)] [] [] S S := stp.rf hW
  refine lv_iload_n hx hb dJx4a65c_add_72be8_0 rfl (lv_at hl 3 rfl) ?_
  refine lv_aload_n hx hb dJx4a65c_add_72be8_1 rfl (lv_at hl 2 rfl) ?_
  refine ou_len hx hb eX el eA hS dJx4a65c_add_72be8_2 ?_
  refine W.eq (g2 := F0 m 3 ls [.int (0 : Int32), .int x1]) rfl ?_
  refine lv_icmp_ne (tgt := 11) hx hb dJx4a65c_add_72be8_3 (by decide) (fun c1 => ?_) (fun c1 => ?_)
  · have c1i : ¬ x1.toInt = 0 := neq_v rfl rfl c1
    exact False.elim (by omega)
  · have c1i : x1.toInt = 0 := eq_v rfl rfl c1
    refine lv_aload_n hx hb dJx4a65c_add_72be8_6 rfl (lv_at hl 0 rfl) ?_
    have hFc := free_all hD hS hA
    obtain ⟨k2, gk2, hk2⟩ := wGt (cy := cy) X S h_o1.1 h_o1.2.1
    refine va_callq (va_runV (As := []) (rest := []) ⟨hx, hb, hml, hown, hts⟩ (c_Jx4a65c_grow_d5877_gA l (e0 := e0) (mi := mi) (cy := cy) (X := X) (D := D) S _ o1 h_o1 (hW) hE9 hs hg) (cwV 0 hts gJx4a65c_add_72be8_Jx4a65c_grow_d5877 rfl rfl rfl hd_Jx4a65c_grow_d5877 ⟨Nat.le_of_ble_eq_true rfl, Nat.le_of_ble_eq_true rfl⟩) (pVo (va_recv hK hP (q := (RJx4a65c, TJx4a65c, 3)) (ci := 3) (q0 := k2) rfl hk2) hP hK hD hN hOU hS hFc) rfl rfl hl.1 rfl (lv_room (Nat.le_of_ble_eq_true rfl)) dJx4a65c_add_72be8_7 ⟨Nat.le_of_ble_eq_true rfl, Nat.le_of_ble_eq_true rfl⟩) hS (fun q _ h => hFc q h) hFc (fun r3 u t H1 locs ht hvm hw hB hz1 hk1 hS => ?_)
    obtain ⟨r3, rfl, w4, y5, y6, y7, y8, y9, y10, o11⟩ := hw
    obtain ⟨hP, hD⟩ := wd_post hFc ht hB
    generalize H1 = H at hP hS ⊢
    obtain ⟨S12, rfl⟩ : ∃ z, z = u := ⟨_, rfl⟩
    have t13 : stp [(14, 1), (14, 2), (22, 101), (114, 10), (122, 10)] [] [] S S12 := t0.tr w4 (by decide) (fun _ q => absurd q List.not_mem_nil)
    have xe14 : ext S S12 := w4.x
    have k15 : (S12.I o1 2).toInt = (S.I o1 2).toInt := by rw [(w4.fR o1 h_o1.1 List.not_mem_nil).1 2 (by rw [h_o1.2.1]; decide) |>.1]
    refine W.eq (g2 := F0 m 10 ls [.ref r3]) rfl ?_
    have q1 := y5
    have q2 := y6
    have q3 := y7
    have q4 := y8
    have q5 := y9
    have q9r := y10
    refine lv_astore_n (lv' := [(2, .ref r3), (0, .ref o1), (1, .ref o2), (3, .int x1)]) hx hb dJx4a65c_add_72be8_10 rfl hl (by decide) rfl (fun ls hl => ?_)
    have k14 := ((t13.w.at (xe14.A h_o1) List.not_mem_nil).to_14 (xe14.A h_o1).2.1)
    refine lv_aload_n hx hb dJx4a65c_add_72be8_11 rfl (lv_at hl 0 rfl) ?_
    refine lv_iload_n hx hb dJx4a65c_add_72be8_12 rfl (lv_at hl 3 rfl) ?_
    refine lv_aload_n hx hb dJx4a65c_add_72be8_13 rfl (lv_at hl 2 rfl) ?_
    have q6 := o11
    have q7 := (xe14.A h_o2)
    obtain ⟨k16, gk16, hk16⟩ := wGt (cy := cy) X S12 (xe14.A h_o2).1 (xe14.A h_o2).2.1
    obtain ⟨k17, gk17, hk17⟩ := wGt (cy := cy) X S12 o11.1 o11.2.1
    refine va_astqO (E := "java/lang/Object") hx hb hK hP hD hS k17 7 k16 14 hk17 rfl (hN (.castable "HobhouseModel$Gear" "java/lang/Object") (by decide +kernel)) hk16 rfl (inb (m := S12.n r3) rfl (by omega) (by omega)) dJx4a65c_add_72be8_14 (fun H locs hP2 hD2 hS => ?_)
    have e9 := wPur (cy := cy) (f := (va_up (S12.r r3) x1.toNatClampNeg (some o2))) hD o11.1 o11.2.1 gk17 rfl
    obtain ⟨S18, hS18⟩ : ∃ z, S12.sr r3 (va_up (S12.r r3) x1.toNatClampNeg (some o2)) = z := ⟨_, rfl⟩
    have hP : va_P D vwCl (X ++ PL cy S18) H := by rw [← hS18, ← e9]; exact hP2
    have hD : va_D A (X ++ PL cy S18) := by rw [← hS18, ← e9]; exact hD2
    have xe19 : ext S12 S18 := by rw [← hS18]; exact ext.sr _ _ _
    have t20 : stp [(14, 1), (14, 2), (22, 101), (114, 10), (122, 10)] [] [] S S18 := by rw [← hS18]; exact t13.r o11 (by decide) (xe14.A h_o2) (Or.inr (Or.inr (Or.inr (Or.inl ⟨rfl, q3⟩)))) List.not_mem_nil (by decide)
    have k21 : (S18.I o1 2).toInt = (S12.I o1 2).toInt := by rw [← hS18]; rfl
    have g22 : S18.r r3 x1.toNatClampNeg = some o2 := by rw [← hS18]; exact sr_eq
    refine lv_aload_n hx hb dJx4a65c_add_72be8_15 rfl (lv_at hl 1 rfl) ?_
    refine lv_iload_n hx hb dJx4a65c_add_72be8_16 rfl (lv_at hl 3 rfl) ?_
    refine lv_iconst (v := 1) hx hb dJx4a65c_add_72be8_17 (by decide) ?_
    refine lv_iadd hx hb dJx4a65c_add_72be8_18 ?_
    have i19 : (x1 + (1 : Int32)).toInt = x1.toInt + 1 := t_addr (n := 1) rfl (by omega)
    obtain ⟨k23, gk23, hk23⟩ := wGt (cy := cy) X S18 (xe19.A (xe14.A h_o1)).1 (xe19.A (xe14.A h_o1)).2.1
    refine va_put (D := D) (ci := 3) (v := .int (x1 + (1 : Int32))) (ty := .int) (C := RJx4a65c) (T := TJx4a65c) (N := 3) hx hb hts hi_Jx4a65c_add_72be8_Jx4a65c tyJx4a65c tyJx4a65c_ok nmJx4a65c hown hK hP hD hS k23 hk23 rfl 2 (by decide) (hts (.fieldLink RJx4a65c 48 "java/util/ArrayList" "size" "I") (by decide +kernel)) (fun _ h9 => h9) rfl (by decide +kernel) (rfl) (rfl) (Nat.le_of_ble_eq_true rfl) dJx4a65c_add_72be8_19 (fun H locs hP2 hD2 hS => ?_)
    have e9 := wPuI (cy := cy) (j := 2) (v := (x1 + (1 : Int32))) hD (xe19.A (xe14.A h_o1)).1 (xe19.A (xe14.A h_o1)).2.1 gk23 rfl
    obtain ⟨S24, hS24⟩ : ∃ z, S18.sI o1 2 (x1 + (1 : Int32)) = z := ⟨_, rfl⟩
    have hP : va_P D vwCl (X ++ PL cy S24) H := by rw [← hS24, ← e9]; exact hP2
    have hD : va_D A (X ++ PL cy S24) := by rw [← hS24, ← e9]; exact hD2
    have xe25 : ext S18 S24 := by rw [← hS24]; exact ext.sI _ _ _ _
    have t26 : stp [(14, 1), (14, 2), (22, 101), (114, 10), (122, 10)] [] [] S S24 := by rw [← hS24]; exact t20.I 2 (x1 + (1 : Int32)) (xe19.A (xe14.A h_o1)) (by decide) ((by rw [← hS18]; exact al_push k14 q1 q6 (by omega) q3 q5 (by omega) (by omega) q7 (by omega))) (Or.inr ⟨by omega, by rw [(show S18.n o1 = 10 from (t20.x.n h_o1).trans hg)]; decide⟩)
    have k27 : (S24.I o1 2).toInt = (x1 + (1 : Int32)).toInt := by rw [← hS24, sI_eq]
    refine W.widen (k := 1) (n := 10) (Nat.le_of_ble_eq_true rfl) (Nat.le_of_ble_eq_true rfl) ?_
    exact W.vret hx hb hr (fun t ht hW9 => ⟨⟨S24, rfl, ⟨t26, (by omega), (⟨r3, (by rw [← hS24]; rw [← hS18]; exact q1), ((xe19.tr xe25).A o11), (by rw [← hS24]; exact g22), (fun i hi => by rw [← hS24]; show S18.r r3 i = _; rw [← hS18, sr_up_ne (by have h8 := cl_int (i := x1) (by omega); omega)]; exact q9r i hi)⟩)⟩, wd_end hP hK hD ht hW9.alike⟩, hS.F ht⟩) hS.2.2 dJx4a65c_add_72be8_22 hlocks
theorem hi_Jx4a65c_add_9ea2d_Jx4a65c : ∀ w ∈ u_ws RJx4a65c TJx4a65c 3, w ∈ wsJx4a65c_add_9ea2d := by decide +kernel
theorem hd_Jx4a65c_add_9ea2d : yJx4a65c_add_9ea2d.cls = RJx4a65c ∧ yJx4a65c_add_9ea2d.cls ≠ "java/lang/invoke/MethodHandle" ∧ yJx4a65c_add_9ea2d.cls ≠ "java/lang/invoke/VarHandle" ∧ (parseMethodDescriptor yJx4a65c_add_9ea2d.desc).map (fun d => d.parameters.length) = some 1 := by decide +kernel
set_option maxHeartbeats 4000000 in
set_option maxRecDepth 100000 in
theorem c_Jx4a65c_add_9ea2d_gA (l : Launch) {e0 mi : Nat} {D : va_G} {cy : Nat → ClassId} {X : va_W} (S : wPS) (sz : Nat) (o1 : Nat) (h_o1 : isA S o1 14) (o2 : Nat) (h_o2 : isA S o2 10) (hW : wtB S []) (hE9 : S.F o1 1 = some e0) (hs : (S.I o1 2).toInt = 0) (hg : S.n o1 = 10) : Met l yJx4a65c_add_9ea2d wsJx4a65c_add_9ea2d ({ frames := 6, cells := 1, slots := 40, locals := 150 }) (va_Pc [.ref o1, .ref o2] (fun U => U.heap.size = sz ∧ WD D cy X (fun _ => True) S U ∧ NW U ∧ OU e0 mi (va_A (X ++ PL cy S) sz) U U.heap)) (va_Qi (fun r (u : wPS) => stp [(14, 0), (14, 1), (14, 2), (22, 101), (114, 10), (122, 10)] [] [] S u ∧ (u.I o1 2).toInt = (S.I o1 2).toInt + 1 ∧ (∃ a : Nat, u.F o1 1 = some a ∧ isA u a 22 ∧ u.r a (S.I o1 2).toNatClampNeg = some o2 ∧ ∀ i : Nat, (i : Int) < (S.I o1 2).toInt → u.r a i = S.r (S.f o1 1) i)) (fun u t => WD D cy X (va_A (X ++ PL cy S) sz) u t) (va_A (X ++ PL cy S) sz)) 1 40 (va_A (X ++ PL cy S) sz) := by
  refine Met.ofW (cc := cJx4a65c_add_9ea2d) (maxL := 2) (ret := (some .boolean)) (by decide) rfl ?_
  intro p e s m args below meth c s₁ B hml hv
  obtain ⟨rfl, hsz, ⟨hP, hK, hD0⟩, hN, hOU⟩ := hv
  have hx := B.exec
  have hb := B.bytes
  have hr := B.returns
  have hts := atoms_spec (ws := wsJx4a65c_add_9ea2d) B.pre
  have hown : s.vm.findClass RJx4a65c = some m.cls := findClass_of_methodNamed (x := yJx4a65c_add_9ea2d) B.named
  have hlocks := B.notSynchronized
  subst hsz
  have hD := hD0.self (sz := s.heap.size)
  generalize hAe : va_A (X ++ PL cy S) s.heap.size = A at hD hOU ⊢
  have hA : ∀ q : Nat, s.heap.size ≤ q → A q := fun q h => by rw [← hAe]; exact Or.inr h
  have hS : va_S A s.heap s.heap [] := va_S.rf
  have hl := lv_entry ([.ref o1, .ref o2]) (n := 2) (Nat.le_of_ble_eq_true rfl)
  rw [lg_entry_eq]
  generalize (lg_sl ([.ref o1, .ref o2]) ++ List.replicate (2 - (lg_sl ([.ref o1, .ref o2])).length) Slot.unset).toArray = ls at hl ⊢
  have hl : lv_has ls 2 [(0, .ref o1), (1, .ref o2)] := hl
  obtain ⟨⟨ga, gZ, gX, gl, gA⟩, ⟨sa9, sZ, sX, sl9, sA⟩, cZ, eZ, eX, el, eA, hMi, hDc, ⟨pf, pZ⟩⟩ := id hOU
  have t0 : stp [(14, 0), (14, 1), (14, 2), (22, 101), (114, 10), (122, 10)] [] [] S S := stp.rf hW
  refine lv_aload_n hx hb dJx4a65c_add_9ea2d_0 rfl (lv_at hl 0 rfl) ?_
  refine lv_dup hx hb dJx4a65c_add_9ea2d_1 rfl ?_
  obtain ⟨k1, gk1, hk1⟩ := wGt (cy := cy) X S h_o1.1 h_o1.2.1
  refine va_get (D := D) (ci := 3) (v := .int (S.I o1 0)) (C := RJx4a65c) (T := TJx4a65c) (N := 3) hx hb hts hi_Jx4a65c_add_9ea2d_Jx4a65c hown hK hP k1 hk1 rfl 0 (by decide) (hts (.fieldLink RJx4a65c 63 "java/util/ArrayList" "modCount" "I") (by decide +kernel)) (fun x9 h9 => u_same (hts (.sameField "java/util/ArrayList" "java/util/AbstractList" "modCount" "I") (by decide +kernel)) x9 h9) rfl dJx4a65c_add_9ea2d_2 ?_
  refine lv_iconst (v := 1) hx hb dJx4a65c_add_9ea2d_5 (by decide) ?_
  refine lv_iadd hx hb dJx4a65c_add_9ea2d_6 ?_
  obtain ⟨k2, gk2, hk2⟩ := wGt (cy := cy) X S h_o1.1 h_o1.2.1
  refine va_put (D := D) (ci := 3) (v := .int ((S.I o1 0) + (1 : Int32))) (ty := .int) (C := RJx4a65c) (T := TJx4a65c) (N := 3) hx hb hts hi_Jx4a65c_add_9ea2d_Jx4a65c tyJx4a65c tyJx4a65c_ok nmJx4a65c hown hK hP hD hS k2 hk2 rfl 0 (by decide) (hts (.fieldLink RJx4a65c 63 "java/util/ArrayList" "modCount" "I") (by decide +kernel)) (fun x9 h9 => u_same (hts (.sameField "java/util/ArrayList" "java/util/AbstractList" "modCount" "I") (by decide +kernel)) x9 h9) rfl (by decide +kernel) (rfl) (rfl) (Nat.le_of_ble_eq_true rfl) dJx4a65c_add_9ea2d_7 (fun H locs hP2 hD2 hS => ?_)
  have e9 := wPuI (cy := cy) (j := 0) (v := ((S.I o1 0) + (1 : Int32))) hD h_o1.1 h_o1.2.1 gk2 rfl
  obtain ⟨S3, hS3⟩ : ∃ z, S.sI o1 0 ((S.I o1 0) + (1 : Int32)) = z := ⟨_, rfl⟩
  have hP : va_P D vwCl (X ++ PL cy S3) H := by rw [← hS3, ← e9]; exact hP2
  have hD : va_D A (X ++ PL cy S3) := by rw [← hS3, ← e9]; exact hD2
  have xe4 : ext S S3 := by rw [← hS3]; exact ext.sI _ _ _ _
  have t5 : stp [(14, 0), (14, 1), (14, 2), (22, 101), (114, 10), (122, 10)] [] [] S S3 := by rw [← hS3]; exact t0.I 0 ((S.I o1 0) + (1 : Int32)) h_o1 (by decide) (trivial) (Or.inl (by decide))
  have k6 : (S3.I o1 2).toInt = (S.I o1 2).toInt := by rw [← hS3]; exact congrArg Int32.toInt (sI_I (by rintro ⟨e1, e2⟩; exact absurd e2 (by decide)))
  refine lv_aload_n hx hb dJx4a65c_add_9ea2d_10 rfl (lv_at hl 0 rfl) ?_
  refine lv_aload_n hx hb dJx4a65c_add_9ea2d_11 rfl (lv_at hl 1 rfl) ?_
  refine lv_aload_n hx hb dJx4a65c_add_9ea2d_12 rfl (lv_at hl 0 rfl) ?_
  have F7 : S3.F o1 1 = some e0 := (by rw [← hS3]; exact hE9)
  obtain ⟨k8, gk8, hk8⟩ := wGt (cy := cy) X S3 (xe4.A h_o1).1 (xe4.A h_o1).2.1
  simp only [kE, F7] at hk8
  refine va_get (D := D) (ci := 3) (v := .ref e0) (C := RJx4a65c) (T := TJx4a65c) (N := 3) hx hb hts hi_Jx4a65c_add_9ea2d_Jx4a65c hown hK hP k8 hk8 rfl 1 (by decide) (hts (.fieldLink RJx4a65c 9 "java/util/ArrayList" "elementData" "[Ljava/lang/Object;") (by decide +kernel)) (fun _ h9 => h9) rfl dJx4a65c_add_9ea2d_13 ?_
  refine lv_aload_n hx hb dJx4a65c_add_9ea2d_16 rfl (lv_at hl 0 rfl) ?_
  obtain ⟨k9, gk9, hk9⟩ := wGt (cy := cy) X S3 (xe4.A h_o1).1 (xe4.A h_o1).2.1
  refine va_get (D := D) (ci := 3) (v := .int (S3.I o1 2)) (C := RJx4a65c) (T := TJx4a65c) (N := 3) hx hb hts hi_Jx4a65c_add_9ea2d_Jx4a65c hown hK hP k9 hk9 rfl 2 (by decide) (hts (.fieldLink RJx4a65c 48 "java/util/ArrayList" "size" "I") (by decide +kernel)) (fun _ h9 => h9) rfl dJx4a65c_add_9ea2d_17 ?_
  have hFc := free_all hD hS hA
  obtain ⟨k10, gk10, hk10⟩ := wGt (cy := cy) X S3 (xe4.A h_o1).1 (xe4.A h_o1).2.1
  refine va_callv (va_runV (As := [.ref o2, .ref e0, .int (S3.I o1 2)]) (rest := []) ⟨hx, hb, hml, hown, hts⟩ (c_Jx4a65c_add_72be8_gA l (e0 := e0) (mi := mi) (cy := cy) (X := X) (D := D) S3 _ o1 (xe4.A h_o1) o2 (xe4.A h_o2) (S3.I o1 2) (t5.w) (by rw [← hS3]; exact hE9) (by omega) (by omega) ((t5.x.n h_o1).trans hg)) (cwV 3 hts gJx4a65c_add_9ea2d_Jx4a65c_add_72be8 rfl rfl rfl hd_Jx4a65c_add_72be8 ⟨Nat.le_of_ble_eq_true rfl, Nat.le_of_ble_eq_true rfl⟩) (pVo (va_recv hK hP (q := (RJx4a65c, TJx4a65c, 3)) (ci := 3) (q0 := k10) rfl hk10) hP hK hD hN hOU hS hFc) rfl rfl hl.1 rfl (lv_room (Nat.le_of_ble_eq_true rfl)) dJx4a65c_add_9ea2d_20 ⟨Nat.le_of_ble_eq_true rfl, Nat.le_of_ble_eq_true rfl⟩) hS (fun q _ h => hFc q h) hFc (fun u t H1 locs ht hvm hw hB hz1 hk1 hS => ?_)
  obtain ⟨w12, y13, y14⟩ := hw
  obtain ⟨hP, hD⟩ := wd_post hFc ht hB
  generalize H1 = H at hP hS ⊢
  obtain ⟨S15, rfl⟩ : ∃ z, z = u := ⟨_, rfl⟩
  have t16 : stp [(14, 0), (14, 1), (14, 2), (22, 101), (114, 10), (122, 10)] [] [] S S15 := t5.tr w12 (by decide) (fun _ q => absurd q List.not_mem_nil)
  have xe17 : ext S3 S15 := w12.x
  refine lv_iconst (v := 1) hx hb dJx4a65c_add_9ea2d_23 (by decide) ?_
  refine W.widen (k := 1) (n := 40) (Nat.le_of_ble_eq_true rfl) (Nat.le_of_ble_eq_true rfl) ?_
  exact W.zret (v := (1 : Int32)) hx hb hr (by rfl) (fun t ht hW9 => ⟨⟨(1 : Int32), S15, rfl, ⟨t16, (by omega), ((by have h9 := y14; rw [← hS3, sI_ne (S := S) (a := o1) (j := 0) (c := 2) (by decide)] at h9; exact h9))⟩, wd_end hP hK hD ht hW9.alike⟩, hS.F ht⟩) hS.2.2 dJx4a65c_add_9ea2d_24 hlocks
set_option maxHeartbeats 4000000 in
set_option maxRecDepth 100000 in
theorem c_Jx4a65c_grow_92f84_gB (l : Launch) {e0 mi : Nat} {D : va_G} {cy : Nat → ClassId} {X : va_W} (S : wPS) (sz : Nat) (o1 : Nat) (h_o1 : isA S o1 14) (x1 : Int32) (hW : wtB S []) (hp : (S.F o1 1 = some (S.f o1 1) ∧ isA S (S.f o1 1) 22 ∧ (1 ≤ S.n (S.f o1 1) ∧ S.n (S.f o1 1) ≤ 40) ∧ S.F (S.f o1 1) 0 = some (S.n o1) ∧ 0 ≤ (S.I o1 2).toInt ∧ ((S.I o1 2).toInt ≤ S.n (S.f o1 1) ∧ (S.I o1 2).toInt ≤ 20 ∧ (S.n o1 = 11 → (S.I o1 2).toInt ≤ 8)) ∧ ∀ i : Nat, (i : Int) < (S.I o1 2).toInt → ∃ g, S.r (S.f o1 1) i = some g ∧ isA S g (S.n o1))) (hf : (S.I o1 2).toInt = S.n (S.f o1 1) ∧ (S.I o1 2).toInt ≤ 26) (hx : x1.toInt = (S.I o1 2).toInt + 1) (hg : S.n o1 = 10) : Met l yJx4a65c_grow_92f84 wsJx4a65c_grow_92f84 ({ frames := 3, cells := 1, slots := 40, locals := 84 }) (va_Pc [.ref o1, .int x1] (fun U => U.heap.size = sz ∧ WD D cy X (fun _ => True) S U ∧ NW U ∧ OU e0 mi (va_A (X ++ PL cy S) sz) U U.heap)) (va_Qq (fun r (u : wPS) => ∃ a : Nat, r = some a ∧ stp [(14, 1), (114, 10)] [] [] S u ∧ u.F o1 1 = some a ∧ ((S.I o1 2).toInt < u.n a ∧ u.n a ≤ 40) ∧ u.F a 0 = some 10 ∧ (u.I o1 2).toInt = (S.I o1 2).toInt ∧ u.n o1 = 10 ∧ (∀ i : Nat, (i : Int) < (S.I o1 2).toInt → u.r a i = S.r (S.f o1 1) i) ∧ isA u a 22) (fun u t => WD D cy X (va_A (X ++ PL cy S) sz) u t) (va_A (X ++ PL cy S) sz)) 1 40 (va_A (X ++ PL cy S) sz) := by
  refine Met.ofW (cc := cJx4a65c_grow_92f84) (maxL := 4) (ret := (some (.array (.object "java/lang/Object")))) (by decide) rfl ?_
  intro p e s m args below meth c s₁ B hml hv
  obtain ⟨rfl, hsz, ⟨hP, hK, hD0⟩, hN, hOU⟩ := hv
  have hx := B.exec
  have hb := B.bytes
  have hr := B.returns
  have hts := atoms_spec (ws := wsJx4a65c_grow_92f84) B.pre
  have hown : s.vm.findClass RJx4a65c = some m.cls := findClass_of_methodNamed (x := yJx4a65c_grow_92f84) B.named
  have hlocks := B.notSynchronized
  subst hsz
  have hD := hD0.self (sz := s.heap.size)
  generalize hAe : va_A (X ++ PL cy S) s.heap.size = A at hD hOU ⊢
  have hA : ∀ q : Nat, s.heap.size ≤ q → A q := fun q h => by rw [← hAe]; exact Or.inr h
  have hS : va_S A s.heap s.heap [] := va_S.rf
  have hl := lv_entry ([.ref o1, .int x1]) (n := 4) (Nat.le_of_ble_eq_true rfl)
  rw [lg_entry_eq]
  generalize (lg_sl ([.ref o1, .int x1]) ++ List.replicate (4 - (lg_sl ([.ref o1, .int x1])).length) Slot.unset).toArray = ls at hl ⊢
  have hl : lv_has ls 4 [(0, .ref o1), (1, .int x1)] := hl
  have hp3 := hp.2.2.1
  have hp5 := hp.2.2.2.2.1
  have hp6 := hp.2.2.2.2.2.1
  obtain ⟨⟨ga, gZ, gX, gl, gA⟩, ⟨sa9, sZ, sX, sl9, sA⟩, cZ, eZ, eX, el, eA, hMi, hDc, ⟨pf, pZ⟩⟩ := id hOU
  have t0 : stp [(14, 1), (114, 10)] [] [] S S := stp.rf hW
  refine lv_aload_n hx hb dJx4a65c_grow_92f84_0 rfl (lv_at hl 0 rfl) ?_
  have F1 : S.F o1 1 = some (S.f o1 1) := hp.1
  have a2 : isA S (S.f o1 1) 22 := hp.2.1
  have n3 : S.n (S.f o1 1) ≤ 26 := by omega
  obtain ⟨k4, gk4, hk4⟩ := wGt (cy := cy) X S h_o1.1 h_o1.2.1
  simp only [kE, F1] at hk4
  refine va_get (D := D) (ci := 3) (v := .ref (S.f o1 1)) (C := RJx4a65c) (T := TJx4a65c) (N := 3) hx hb hts hi_Jx4a65c_grow_92f84_Jx4a65c hown hK hP k4 hk4 rfl 1 (by decide) (hts (.fieldLink RJx4a65c 9 "java/util/ArrayList" "elementData" "[Ljava/lang/Object;") (by decide +kernel)) (fun _ h9 => h9) rfl dJx4a65c_grow_92f84_1 ?_
  obtain ⟨k5, gk5, hk5⟩ := wGt (cy := cy) X S a2.1 a2.2.1
  have i6 : (nI (S.n (S.f o1 1))).toInt = ((S.n (S.f o1 1) : Nat) : Int) := nI_toInt a2.2.2
  have i7 := a2.2.2
  have i8 := n3
  refine va_alen (D := D) (cl := vwCl) (tys := tyL cy) hx hb hK hP k5 7 hk5 rfl (v := nI (S.n (S.f o1 1))) rfl dJx4a65c_grow_92f84_4 ?_
  refine lv_istore_n (lv' := [(2, .int (nI (S.n (S.f o1 1)))), (0, .ref o1), (1, .int x1)]) hx hb dJx4a65c_grow_92f84_5 rfl hl (by decide) rfl (fun ls hl => ?_)
  refine lv_iload_n hx hb dJx4a65c_grow_92f84_6 rfl (lv_at hl 0 rfl) ?_
  refine lv_if_gt (tgt := 20) hx hb dJx4a65c_grow_92f84_7 (by decide) (fun c9 => ?_) (fun c9 => ?_)
  · have c9i : 0 < (nI (S.n (S.f o1 1))).toInt := lt_v rfl rfl c9
    refine lv_iload_n hx hb dJx4a65c_grow_92f84_20 rfl (lv_at hl 0 rfl) ?_
    refine lv_iload_n hx hb dJx4a65c_grow_92f84_21 rfl (lv_at hl 2 rfl) ?_
    refine lv_iload_n hx hb dJx4a65c_grow_92f84_22 rfl (lv_at hl 0 rfl) ?_
    refine lv_isub hx hb dJx4a65c_grow_92f84_23 ?_
    refine lv_iload_n hx hb dJx4a65c_grow_92f84_24 rfl (lv_at hl 0 rfl) ?_
    refine lv_iconst (v := 1) hx hb dJx4a65c_grow_92f84_25 (by decide) ?_
    refine lv_ishr hx hb dJx4a65c_grow_92f84_26 ?_
    have hs9 := shr1 (x := nI (S.n (S.f o1 1))) (by omega)
    have i10 : (x1 - (nI (S.n (S.f o1 1)))).toInt = x1.toInt - (nI (S.n (S.f o1 1))).toInt := t_sub (by omega)
    have l32_1 : (1 : Int32).toInt = 1 := rfl
    have hFc := free_all hD hS hA
    refine va_calli (va_runS (As := [.int (nI (S.n (S.f o1 1))), .int (x1 - (nI (S.n (S.f o1 1)))), .int ((nI (S.n (S.f o1 1))) >>> ((1 : Int32) &&& 31))]) (rest := []) ⟨hx, hb, hml, hown, hts⟩ (c_J8_newLength_cabcc l (cy := cy) (X := X) (D := D) S _ (nI (S.n (S.f o1 1))) (x1 - (nI (S.n (S.f o1 1)))) ((nI (S.n (S.f o1 1))) >>> ((1 : Int32) &&& 31)) (by omega) (by omega) (by omega)) (va_cwS 3 hts gJx4a65c_grow_92f84_J8_newLength_cabcc rfl rfl rfl (by decide +kernel) ⟨Nat.le_of_ble_eq_true rfl, Nat.le_of_ble_eq_true rfl⟩) (pS hP hK hD hN) rfl rfl hl.1 rfl (lv_room (Nat.le_of_ble_eq_true rfl)) dJx4a65c_grow_92f84_27 ⟨(Nat.zero_le _), (Nat.zero_le _)⟩) hS (fun q _ h => hFc q h) hFc (fun r11 u t H1 locs ht hvm hw hB hz1 hk1 hS => ?_)
    have y12 := hw
    obtain ⟨hP, hD⟩ := wd_post hFc ht hB
    generalize H1 = H at hP hS ⊢
    refine lv_istore_n (lv' := [(3, .int r11), (2, .int (nI (S.n (S.f o1 1)))), (0, .ref o1), (1, .int x1)]) hx hb dJx4a65c_grow_92f84_30 rfl hl (by decide) rfl (fun ls hl => ?_)
    refine lv_aload_n hx hb dJx4a65c_grow_92f84_31 rfl (lv_at hl 2 rfl) ?_
    refine lv_aload_n hx hb dJx4a65c_grow_92f84_32 rfl (lv_at hl 2 rfl) ?_
    obtain ⟨k13, gk13, hk13⟩ := wGt (cy := cy) X S h_o1.1 h_o1.2.1
    simp only [kE, F1] at hk13
    refine va_get (D := D) (ci := 3) (v := .ref (S.f o1 1)) (C := RJx4a65c) (T := TJx4a65c) (N := 3) hx hb hts hi_Jx4a65c_grow_92f84_Jx4a65c hown hK hP k13 hk13 rfl 1 (by decide) (hts (.fieldLink RJx4a65c 9 "java/util/ArrayList" "elementData" "[Ljava/lang/Object;") (by decide +kernel)) (fun _ h9 => h9) rfl dJx4a65c_grow_92f84_33 ?_
    refine lv_iload_n hx hb dJx4a65c_grow_92f84_36 rfl (lv_at hl 0 rfl) ?_
    have hFc := free_all hD hS hA
    refine va_callq (va_runS (As := [.ref (S.f o1 1), .int r11]) (rest := [.ref o1]) ⟨hx, hb, hml, hown, hts⟩ (c_J7_copyOf_1904c_g l (e0 := e0) (mi := mi) (cy := cy) (X := X) (D := D) S _ (S.f o1 1) a2 r11 (hW) (by omega) (by omega) (hg ▸ hp.2.2.2.1)) (va_cwS 2 hts gJx4a65c_grow_92f84_J7_copyOf_1904c rfl rfl rfl (by decide +kernel) ⟨Nat.le_of_ble_eq_true rfl, Nat.le_of_ble_eq_true rfl⟩) (pSo hP hK hD hN hOU hS hFc) rfl rfl hl.1 rfl (lv_room (Nat.le_of_ble_eq_true rfl)) dJx4a65c_grow_92f84_37 ⟨Nat.le_of_ble_eq_true rfl, Nat.le_of_ble_eq_true rfl⟩) hS (fun q _ h => hFc q h) hFc (fun r14 u t H1 locs ht hvm hw hB hz1 hk1 hS => ?_)
    obtain ⟨r14, rfl, w15, y16, y17, y18, o19⟩ := hw
    obtain ⟨hP, hD⟩ := wd_post hFc ht hB
    generalize H1 = H at hP hS ⊢
    obtain ⟨S20, rfl⟩ : ∃ z, z = u := ⟨_, rfl⟩
    have t21 : stp [(14, 1), (114, 10)] [] [] S S20 := t0.tr w15 (by decide) (fun _ q => absurd q List.not_mem_nil)
    have xe22 : ext S S20 := w15.x
    have k23 : (S20.I o1 2).toInt = (S.I o1 2).toInt := by rw [(w15.fR o1 h_o1.1 List.not_mem_nil).1 2 (by rw [h_o1.2.1]; decide) |>.1]
    refine W.eq (g2 := F0 m 40 ls [.ref r14, .ref o1]) rfl ?_
    refine lv_dup_x1 hx hb dJx4a65c_grow_92f84_40 rfl rfl ?_
    obtain ⟨k24, gk24, hk24⟩ := wGt (cy := cy) X S20 (xe22.A h_o1).1 (xe22.A h_o1).2.1
    refine va_put (D := D) (ci := 3) (v := .ref r14) (ty := (tyJx4a65c 1)) (C := RJx4a65c) (T := TJx4a65c) (N := 3) hx hb hts hi_Jx4a65c_grow_92f84_Jx4a65c tyJx4a65c tyJx4a65c_ok nmJx4a65c hown hK hP hD hS k24 hk24 rfl 1 (by decide) (hts (.fieldLink RJx4a65c 9 "java/util/ArrayList" "elementData" "[Ljava/lang/Object;") (by decide +kernel)) (fun _ h9 => h9) rfl (by decide +kernel) (rfl) (rfl) (Nat.le_of_ble_eq_true rfl) dJx4a65c_grow_92f84_41 (fun H locs hP2 hD2 hS => ?_)
    have e9 := wPuF (cy := cy) (j := 1) (v := (some r14)) hD (xe22.A h_o1).1 (xe22.A h_o1).2.1 gk24 rfl
    obtain ⟨S25, hS25⟩ : ∃ z, S20.sF o1 1 (some r14) = z := ⟨_, rfl⟩
    have hP : va_P D vwCl (X ++ PL cy S25) H := by rw [← hS25, ← e9]; exact hP2
    have hD : va_D A (X ++ PL cy S25) := by rw [← hS25, ← e9]; exact hD2
    have xe26 : ext S20 S25 := by rw [← hS25]; exact ext.sL (xe22.A h_o1)
    have t27 : stp [(14, 1), (114, 10)] [] [] S S25 := by rw [← hS25]; exact t21.L r14 (xe22.A h_o1) (by decide) (ok14_row (xe22.A h_o1) ((t21.x.n h_o1).trans hg) o19 (by have h9 := cl_int (i := r11) (by omega); rw [y16]; omega) y17 (by have h9 := cl_int (i := r11) (by omega); rw [y16]; omega) (fun i hi => by obtain ⟨g9, e9, h9⟩ := hp.2.2.2.2.2.2 i (by omega); rw [hg] at h9; exact ⟨g9, (y18 i (by omega)).trans e9, t21.x.A h9⟩)) (by rw [(show S20.n o1 = 10 from (t21.x.n h_o1).trans hg)]; decide)
    have k28 : (S25.I o1 2).toInt = (S20.I o1 2).toInt := by rw [← hS25]; rfl
    have F29 : S25.F o1 1 = some r14 := by rw [← hS25]; exact sF_eq
    have h8 := cl_int (i := r11) (by omega)
    have h8 := cl_int (i := r11) (by omega)
    have h8 := cl_int (i := r11) (by omega)
    have h8 := cl_int (i := r11) (by omega)
    have h8 := cl_int (i := r11) (by omega)
    have h8 := cl_int (i := r11) (by omega)
    refine W.widen (k := 1) (n := 40) (Nat.le_of_ble_eq_true rfl) (Nat.le_of_ble_eq_true rfl) ?_
    exact W.aret (v := .ref r14) hx hb hr (Or.inr ⟨_, rfl⟩) (Or.inr ⟨_, rfl⟩) (fun t ht hW9 => ⟨⟨some r14, S25, rfl, ⟨r14, rfl, t27, (F29), (by have h9 := ((xe26.n o19).trans y16); rw [h9]; omega), ((xe26.F o19 (by decide) y17)), (by omega), ((t27.x.n h_o1).trans hg), ((by rw [← hS25]; exact fun i hi => y18 i (by omega))), (xe26.A o19)⟩, wd_end hP hK hD ht hW9.alike⟩, hS.F ht⟩) hS.2.2 dJx4a65c_grow_92f84_44 hlocks
  · have c9i : (nI (S.n (S.f o1 1))).toInt ≤ 0 := nlt_v rfl rfl c9
    exact False.elim (by omega)
set_option maxHeartbeats 4000000 in
set_option maxRecDepth 100000 in
theorem c_Jx4a65c_grow_d5877_gB (l : Launch) {e0 mi : Nat} {D : va_G} {cy : Nat → ClassId} {X : va_W} (S : wPS) (sz : Nat) (o1 : Nat) (h_o1 : isA S o1 14) (hW : wtB S []) (hp : (S.F o1 1 = some (S.f o1 1) ∧ isA S (S.f o1 1) 22 ∧ (1 ≤ S.n (S.f o1 1) ∧ S.n (S.f o1 1) ≤ 40) ∧ S.F (S.f o1 1) 0 = some (S.n o1) ∧ 0 ≤ (S.I o1 2).toInt ∧ ((S.I o1 2).toInt ≤ S.n (S.f o1 1) ∧ (S.I o1 2).toInt ≤ 20 ∧ (S.n o1 = 11 → (S.I o1 2).toInt ≤ 8)) ∧ ∀ i : Nat, (i : Int) < (S.I o1 2).toInt → ∃ g, S.r (S.f o1 1) i = some g ∧ isA S g (S.n o1))) (hf : (S.I o1 2).toInt = S.n (S.f o1 1) ∧ (S.I o1 2).toInt ≤ 26) (hg : S.n o1 = 10) : Met l yJx4a65c_grow_d5877 wsJx4a65c_grow_d5877 ({ frames := 4, cells := 1, slots := 40, locals := 107 }) (va_Pc [.ref o1] (fun U => U.heap.size = sz ∧ WD D cy X (fun _ => True) S U ∧ NW U ∧ OU e0 mi (va_A (X ++ PL cy S) sz) U U.heap)) (va_Qq (fun r (u : wPS) => ∃ a : Nat, r = some a ∧ stp [(14, 1), (114, 10)] [] [] S u ∧ u.F o1 1 = some a ∧ ((S.I o1 2).toInt < u.n a ∧ u.n a ≤ 40) ∧ u.F a 0 = some 10 ∧ (u.I o1 2).toInt = (S.I o1 2).toInt ∧ u.n o1 = 10 ∧ (∀ i : Nat, (i : Int) < (S.I o1 2).toInt → u.r a i = S.r (S.f o1 1) i) ∧ isA u a 22) (fun u t => WD D cy X (va_A (X ++ PL cy S) sz) u t) (va_A (X ++ PL cy S) sz)) 1 40 (va_A (X ++ PL cy S) sz) := by
  refine Met.ofW (cc := cJx4a65c_grow_d5877) (maxL := 1) (ret := (some (.array (.object "java/lang/Object")))) (by decide) rfl ?_
  intro p e s m args below meth c s₁ B hml hv
  obtain ⟨rfl, hsz, ⟨hP, hK, hD0⟩, hN, hOU⟩ := hv
  have hx := B.exec
  have hb := B.bytes
  have hr := B.returns
  have hts := atoms_spec (ws := wsJx4a65c_grow_d5877) B.pre
  have hown : s.vm.findClass RJx4a65c = some m.cls := findClass_of_methodNamed (x := yJx4a65c_grow_d5877) B.named
  have hlocks := B.notSynchronized
  subst hsz
  have hD := hD0.self (sz := s.heap.size)
  generalize hAe : va_A (X ++ PL cy S) s.heap.size = A at hD hOU ⊢
  have hA : ∀ q : Nat, s.heap.size ≤ q → A q := fun q h => by rw [← hAe]; exact Or.inr h
  have hS : va_S A s.heap s.heap [] := va_S.rf
  have hl := lv_entry ([.ref o1]) (n := 1) (Nat.le_of_ble_eq_true rfl)
  rw [lg_entry_eq]
  generalize (lg_sl ([.ref o1]) ++ List.replicate (1 - (lg_sl ([.ref o1])).length) Slot.unset).toArray = ls at hl ⊢
  have hl : lv_has ls 1 [(0, .ref o1)] := hl
  have hp3 := hp.2.2.1
  have hp5 := hp.2.2.2.2.1
  have hp6 := hp.2.2.2.2.2.1
  obtain ⟨⟨ga, gZ, gX, gl, gA⟩, ⟨sa9, sZ, sX, sl9, sA⟩, cZ, eZ, eX, el, eA, hMi, hDc, ⟨pf, pZ⟩⟩ := id hOU
  have t0 : stp [(14, 1), (114, 10)] [] [] S S := stp.rf hW
  refine lv_aload_n hx hb dJx4a65c_grow_d5877_0 rfl (lv_at hl 0 rfl) ?_
  refine lv_aload_n hx hb dJx4a65c_grow_d5877_1 rfl (lv_at hl 0 rfl) ?_
  obtain ⟨k1, gk1, hk1⟩ := wGt (cy := cy) X S h_o1.1 h_o1.2.1
  refine va_get (D := D) (ci := 3) (v := .int (S.I o1 2)) (C := RJx4a65c) (T := TJx4a65c) (N := 3) hx hb hts hi_Jx4a65c_grow_d5877_Jx4a65c hown hK hP k1 hk1 rfl 2 (by decide) (hts (.fieldLink RJx4a65c 48 "java/util/ArrayList" "size" "I") (by decide +kernel)) (fun _ h9 => h9) rfl dJx4a65c_grow_d5877_2 ?_
  refine lv_iconst (v := 1) hx hb dJx4a65c_grow_d5877_5 (by decide) ?_
  refine lv_iadd hx hb dJx4a65c_grow_d5877_6 ?_
  have l32_1 : (1 : Int32).toInt = 1 := rfl
  have i2 : ((S.I o1 2) + (1 : Int32)).toInt = (S.I o1 2).toInt + 1 := t_addr (n := 1) rfl (by omega)
  have hFc := free_all hD hS hA
  obtain ⟨k3, gk3, hk3⟩ := wGt (cy := cy) X S h_o1.1 h_o1.2.1
  refine va_callq (va_runV (As := [.int ((S.I o1 2) + (1 : Int32))]) (rest := []) ⟨hx, hb, hml, hown, hts⟩ (c_Jx4a65c_grow_92f84_gB l (e0 := e0) (mi := mi) (cy := cy) (X := X) (D := D) S _ o1 h_o1 ((S.I o1 2) + (1 : Int32)) (hW) hp hf (by omega) hg) (cwV 1 hts gJx4a65c_grow_d5877_Jx4a65c_grow_92f84 rfl rfl rfl hd_Jx4a65c_grow_92f84 ⟨Nat.le_of_ble_eq_true rfl, Nat.le_of_ble_eq_true rfl⟩) (pVo (va_recv hK hP (q := (RJx4a65c, TJx4a65c, 3)) (ci := 3) (q0 := k3) rfl hk3) hP hK hD hN hOU hS hFc) rfl rfl hl.1 rfl (lv_room (Nat.le_of_ble_eq_true rfl)) dJx4a65c_grow_d5877_7 ⟨Nat.le_of_ble_eq_true rfl, Nat.le_of_ble_eq_true rfl⟩) hS (fun q _ h => hFc q h) hFc (fun r4 u t H1 locs ht hvm hw hB hz1 hk1 hS => ?_)
  obtain ⟨r4, rfl, w5, y6, y7, y8, y9, y10, y11, o12⟩ := hw
  obtain ⟨hP, hD⟩ := wd_post hFc ht hB
  generalize H1 = H at hP hS ⊢
  obtain ⟨S13, rfl⟩ : ∃ z, z = u := ⟨_, rfl⟩
  have t14 : stp [(14, 1), (114, 10)] [] [] S S13 := t0.tr w5 (by decide) (fun _ q => absurd q List.not_mem_nil)
  have xe15 : ext S S13 := w5.x
  refine W.eq (g2 := F0 m 10 ls [.ref r4]) rfl ?_
  refine W.widen (k := 1) (n := 40) (Nat.le_of_ble_eq_true rfl) (Nat.le_of_ble_eq_true rfl) ?_
  exact W.aret (v := .ref r4) hx hb hr (Or.inr ⟨_, rfl⟩) (Or.inr ⟨_, rfl⟩) (fun t ht hW9 => ⟨⟨some r4, S13, rfl, ⟨r4, rfl, t14, (y6), (y7), (y8), (y9), (y10), (y11), o12⟩, wd_end hP hK hD ht hW9.alike⟩, hS.F ht⟩) hS.2.2 dJx4a65c_grow_d5877_10 hlocks
set_option maxHeartbeats 4000000 in
set_option maxRecDepth 100000 in
theorem c_Jx4a65c_add_72be8_gB (l : Launch) {e0 mi : Nat} {D : va_G} {cy : Nat → ClassId} {X : va_W} (S : wPS) (sz : Nat) (o1 : Nat) (h_o1 : isA S o1 14) (o2 : Nat) (h_o2 : isA S o2 10) (o3 : Nat) (h_o3 : isA S o3 22) (x1 : Int32) (hW : wtB S []) (h3 : S.F o1 1 = some o3) (hp : (S.F o1 1 = some (S.f o1 1) ∧ isA S (S.f o1 1) 22 ∧ (1 ≤ S.n (S.f o1 1) ∧ S.n (S.f o1 1) ≤ 40) ∧ S.F (S.f o1 1) 0 = some (S.n o1) ∧ 0 ≤ (S.I o1 2).toInt ∧ ((S.I o1 2).toInt ≤ S.n (S.f o1 1) ∧ (S.I o1 2).toInt ≤ 20 ∧ (S.n o1 = 11 → (S.I o1 2).toInt ≤ 8)) ∧ ∀ i : Nat, (i : Int) < (S.I o1 2).toInt → ∃ g, S.r (S.f o1 1) i = some g ∧ isA S g (S.n o1))) (hb : (S.I o1 2).toInt ≤ 19) (hx : x1.toInt = (S.I o1 2).toInt) (hg : S.n o1 = 10) : Met l yJx4a65c_add_72be8 wsJx4a65c_add_72be8 ({ frames := 5, cells := 1, slots := 40, locals := 127 }) (va_Pc [.ref o1, .ref o2, .ref o3, .int x1] (fun U => U.heap.size = sz ∧ WD D cy X (fun _ => True) S U ∧ NW U ∧ OU e0 mi (va_A (X ++ PL cy S) sz) U U.heap)) (va_Qv (fun (u : wPS) => stp [(14, 1), (14, 2), (22, 101), (114, 10), (122, 10)] [] [] S u ∧ (u.I o1 2).toInt = (S.I o1 2).toInt + 1 ∧ (∃ a : Nat, u.F o1 1 = some a ∧ isA u a 22 ∧ u.r a x1.toNatClampNeg = some o2 ∧ ∀ i : Nat, (i : Int) < (S.I o1 2).toInt → u.r a i = S.r (S.f o1 1) i)) (fun u t => WD D cy X (va_A (X ++ PL cy S) sz) u t) (va_A (X ++ PL cy S) sz)) 1 40 (va_A (X ++ PL cy S) sz) := by
  refine Met.ofW (cc := cJx4a65c_add_72be8) (maxL := 4) (ret := none) (by decide) rfl ?_
  intro p e s m args below meth c s₁ B hml hv
  obtain ⟨rfl, hsz, ⟨hP, hK, hD0⟩, hN, hOU⟩ := hv
  have hx := B.exec
  have hb := B.bytes
  have hr := B.returns
  have hts := atoms_spec (ws := wsJx4a65c_add_72be8) B.pre
  have hown : s.vm.findClass RJx4a65c = some m.cls := findClass_of_methodNamed (x := yJx4a65c_add_72be8) B.named
  have hlocks := B.notSynchronized
  subst hsz
  have hD := hD0.self (sz := s.heap.size)
  generalize hAe : va_A (X ++ PL cy S) s.heap.size = A at hD hOU ⊢
  have hA : ∀ q : Nat, s.heap.size ≤ q → A q := fun q h => by rw [← hAe]; exact Or.inr h
  have hS : va_S A s.heap s.heap [] := va_S.rf
  have hl := lv_entry ([.ref o1, .ref o2, .ref o3, .int x1]) (n := 4) (Nat.le_of_ble_eq_true rfl)
  rw [lg_entry_eq]
  generalize (lg_sl ([.ref o1, .ref o2, .ref o3, .int x1]) ++ List.replicate (4 - (lg_sl ([.ref o1, .ref o2, .ref o3, .int x1])).length) Slot.unset).toArray = ls at hl ⊢
  have hl : lv_has ls 4 [(0, .ref o1), (1, .ref o2), (2, .ref o3), (3, .int x1)] := hl
  have hp3 := hp.2.2.1
  have hp5 := hp.2.2.2.2.1
  have hp6 := hp.2.2.2.2.2.1
  have e3 : S.f o1 1 = o3 := f_of h3
  have hp6b := hp6
  have hp3b := hp3
  rw [e3] at hp6b hp3b
  obtain ⟨⟨ga, gZ, gX, gl, gA⟩, ⟨sa9, sZ, sX, sl9, sA⟩, cZ, eZ, eX, el, eA, hMi, hDc, ⟨pf, pZ⟩⟩ := id hOU
  have t0 : stp [(14, 1), (14, 2), (22, 101), (114, 10), (122, 10)] [] [] S S := stp.rf hW
  refine lv_iload_n hx hb dJx4a65c_add_72be8_0 rfl (lv_at hl 3 rfl) ?_
  refine lv_aload_n hx hb dJx4a65c_add_72be8_1 rfl (lv_at hl 2 rfl) ?_
  obtain ⟨k1, gk1, hk1⟩ := wGt (cy := cy) X S h_o3.1 h_o3.2.1
  have i2 : (nI (S.n o3)).toInt = ((S.n o3 : Nat) : Int) := nI_toInt h_o3.2.2
  have i3 := h_o3.2.2
  refine va_alen (D := D) (cl := vwCl) (tys := tyL cy) hx hb hK hP k1 7 hk1 rfl (v := nI (S.n o3)) rfl dJx4a65c_add_72be8_2 ?_
  refine lv_icmp_ne (tgt := 11) hx hb dJx4a65c_add_72be8_3 (by decide) (fun c4 => ?_) (fun c4 => ?_)
  · have c4i : ¬ x1.toInt = (nI (S.n o3)).toInt := neq_v rfl rfl c4
    have q1 := h3
    have q2 : (S.I o1 2).toInt < S.n o3 ∧ S.n o3 ≤ 40 := by omega
    have q3 : S.F o3 0 = some 10 := by rw [← e3, ← hg]; exact hp.2.2.2.1
    have q4 : (S.I o1 2).toInt = (S.I o1 2).toInt := rfl
    have q5 := hg
    have q9r : ∀ i : Nat, (i : Int) < (S.I o1 2).toInt → S.r o3 i = S.r (S.f o1 1) i := fun i _ => by rw [e3]
    have k14 := ((hW.at h_o1 List.not_mem_nil).to_14 h_o1.2.1)
    refine lv_aload_n hx hb dJx4a65c_add_72be8_11 rfl (lv_at hl 2 rfl) ?_
    refine lv_iload_n hx hb dJx4a65c_add_72be8_12 rfl (lv_at hl 3 rfl) ?_
    refine lv_aload_n hx hb dJx4a65c_add_72be8_13 rfl (lv_at hl 1 rfl) ?_
    have q6 := h_o3
    have q7 := h_o2
    obtain ⟨k5, gk5, hk5⟩ := wGt (cy := cy) X S h_o2.1 h_o2.2.1
    obtain ⟨k6, gk6, hk6⟩ := wGt (cy := cy) X S h_o3.1 h_o3.2.1
    refine va_astqO (E := "java/lang/Object") hx hb hK hP hD hS k6 7 k5 14 hk6 rfl (hN (.castable "HobhouseModel$Gear" "java/lang/Object") (by decide +kernel)) hk5 rfl (inb (m := S.n o3) rfl (by omega) (by omega)) dJx4a65c_add_72be8_14 (fun H locs hP2 hD2 hS => ?_)
    have e9 := wPur (cy := cy) (f := (va_up (S.r o3) x1.toNatClampNeg (some o2))) hD h_o3.1 h_o3.2.1 gk6 rfl
    obtain ⟨S7, hS7⟩ : ∃ z, S.sr o3 (va_up (S.r o3) x1.toNatClampNeg (some o2)) = z := ⟨_, rfl⟩
    have hP : va_P D vwCl (X ++ PL cy S7) H := by rw [← hS7, ← e9]; exact hP2
    have hD : va_D A (X ++ PL cy S7) := by rw [← hS7, ← e9]; exact hD2
    have xe8 : ext S S7 := by rw [← hS7]; exact ext.sr _ _ _
    have t9 : stp [(14, 1), (14, 2), (22, 101), (114, 10), (122, 10)] [] [] S S7 := by rw [← hS7]; exact t0.r h_o3 (by decide) h_o2 (Or.inr (Or.inr (Or.inr (Or.inl ⟨rfl, q3⟩)))) List.not_mem_nil (by decide)
    have k10 : (S7.I o1 2).toInt = (S.I o1 2).toInt := by rw [← hS7]; rfl
    have g11 : S7.r o3 x1.toNatClampNeg = some o2 := by rw [← hS7]; exact sr_eq
    refine lv_aload_n hx hb dJx4a65c_add_72be8_15 rfl (lv_at hl 0 rfl) ?_
    refine lv_iload_n hx hb dJx4a65c_add_72be8_16 rfl (lv_at hl 3 rfl) ?_
    refine lv_iconst (v := 1) hx hb dJx4a65c_add_72be8_17 (by decide) ?_
    refine lv_iadd hx hb dJx4a65c_add_72be8_18 ?_
    have i19 : (x1 + (1 : Int32)).toInt = x1.toInt + 1 := t_addr (n := 1) rfl (by omega)
    obtain ⟨k12, gk12, hk12⟩ := wGt (cy := cy) X S7 (xe8.A h_o1).1 (xe8.A h_o1).2.1
    refine va_put (D := D) (ci := 3) (v := .int (x1 + (1 : Int32))) (ty := .int) (C := RJx4a65c) (T := TJx4a65c) (N := 3) hx hb hts hi_Jx4a65c_add_72be8_Jx4a65c tyJx4a65c tyJx4a65c_ok nmJx4a65c hown hK hP hD hS k12 hk12 rfl 2 (by decide) (hts (.fieldLink RJx4a65c 48 "java/util/ArrayList" "size" "I") (by decide +kernel)) (fun _ h9 => h9) rfl (by decide +kernel) (rfl) (rfl) (Nat.le_of_ble_eq_true rfl) dJx4a65c_add_72be8_19 (fun H locs hP2 hD2 hS => ?_)
    have e9 := wPuI (cy := cy) (j := 2) (v := (x1 + (1 : Int32))) hD (xe8.A h_o1).1 (xe8.A h_o1).2.1 gk12 rfl
    obtain ⟨S13, hS13⟩ : ∃ z, S7.sI o1 2 (x1 + (1 : Int32)) = z := ⟨_, rfl⟩
    have hP : va_P D vwCl (X ++ PL cy S13) H := by rw [← hS13, ← e9]; exact hP2
    have hD : va_D A (X ++ PL cy S13) := by rw [← hS13, ← e9]; exact hD2
    have xe14 : ext S7 S13 := by rw [← hS13]; exact ext.sI _ _ _ _
    have t15 : stp [(14, 1), (14, 2), (22, 101), (114, 10), (122, 10)] [] [] S S13 := by rw [← hS13]; exact t9.I 2 (x1 + (1 : Int32)) (xe8.A h_o1) (by decide) ((by rw [← hS7]; exact al_push k14 q1 q6 (by omega) q3 q5 (by omega) (by omega) q7 (by omega))) (Or.inr ⟨by omega, by rw [(show S7.n o1 = 10 from (t9.x.n h_o1).trans hg)]; decide⟩)
    have k16 : (S13.I o1 2).toInt = (x1 + (1 : Int32)).toInt := by rw [← hS13, sI_eq]
    refine W.widen (k := 1) (n := 40) (Nat.le_of_ble_eq_true rfl) (Nat.le_of_ble_eq_true rfl) ?_
    exact W.vret hx hb hr (fun t ht hW9 => ⟨⟨S13, rfl, ⟨t15, (by omega), (⟨o3, (by rw [← hS13]; rw [← hS7]; exact q1), ((xe8.tr xe14).A h_o3), (by rw [← hS13]; exact g11), (fun i hi => by rw [← hS13]; show S7.r o3 i = _; rw [← hS7, sr_up_ne (by have h8 := cl_int (i := x1) (by omega); omega)]; exact q9r i hi)⟩)⟩, wd_end hP hK hD ht hW9.alike⟩, hS.F ht⟩) hS.2.2 dJx4a65c_add_72be8_22 hlocks
  · have c4i : x1.toInt = (nI (S.n o3)).toInt := eq_v rfl rfl c4
    refine lv_aload_n hx hb dJx4a65c_add_72be8_6 rfl (lv_at hl 0 rfl) ?_
    have hFc := free_all hD hS hA
    obtain ⟨k17, gk17, hk17⟩ := wGt (cy := cy) X S h_o1.1 h_o1.2.1
    refine va_callq (va_runV (As := []) (rest := []) ⟨hx, hb, hml, hown, hts⟩ (c_Jx4a65c_grow_d5877_gB l (e0 := e0) (mi := mi) (cy := cy) (X := X) (D := D) S _ o1 h_o1 (hW) hp (by rw [e3]; omega) hg) (cwV 0 hts gJx4a65c_add_72be8_Jx4a65c_grow_d5877 rfl rfl rfl hd_Jx4a65c_grow_d5877 ⟨Nat.le_of_ble_eq_true rfl, Nat.le_of_ble_eq_true rfl⟩) (pVo (va_recv hK hP (q := (RJx4a65c, TJx4a65c, 3)) (ci := 3) (q0 := k17) rfl hk17) hP hK hD hN hOU hS hFc) rfl rfl hl.1 rfl (lv_room (Nat.le_of_ble_eq_true rfl)) dJx4a65c_add_72be8_7 ⟨Nat.le_of_ble_eq_true rfl, Nat.le_of_ble_eq_true rfl⟩) hS (fun q _ h => hFc q h) hFc (fun r18 u t H1 locs ht hvm hw hB hz1 hk1 hS => ?_)
    obtain ⟨r18, rfl, w19, y20, y21, y22, y23, y24, y25, o26⟩ := hw
    obtain ⟨hP, hD⟩ := wd_post hFc ht hB
    generalize H1 = H at hP hS ⊢
    obtain ⟨S27, rfl⟩ : ∃ z, z = u := ⟨_, rfl⟩
    have t28 : stp [(14, 1), (14, 2), (22, 101), (114, 10), (122, 10)] [] [] S S27 := t0.tr w19 (by decide) (fun _ q => absurd q List.not_mem_nil)
    have xe29 : ext S S27 := w19.x
    have k30 : (S27.I o1 2).toInt = (S.I o1 2).toInt := by rw [(w19.fR o1 h_o1.1 List.not_mem_nil).1 2 (by rw [h_o1.2.1]; decide) |>.1]
    refine W.eq (g2 := F0 m 10 ls [.ref r18]) rfl ?_
    have q1 := y20
    have q2 := y21
    have q3 := y22
    have q4 := y23
    have q5 := y24
    have q9r := y25
    refine lv_astore_n (lv' := [(2, .ref r18), (0, .ref o1), (1, .ref o2), (3, .int x1)]) hx hb dJx4a65c_add_72be8_10 rfl hl (by decide) rfl (fun ls hl => ?_)
    have k14 := ((t28.w.at (xe29.A h_o1) List.not_mem_nil).to_14 (xe29.A h_o1).2.1)
    refine lv_aload_n hx hb dJx4a65c_add_72be8_11 rfl (lv_at hl 0 rfl) ?_
    refine lv_iload_n hx hb dJx4a65c_add_72be8_12 rfl (lv_at hl 3 rfl) ?_
    refine lv_aload_n hx hb dJx4a65c_add_72be8_13 rfl (lv_at hl 2 rfl) ?_
    have q6 := o26
    have q7 := (xe29.A h_o2)
    obtain ⟨k31, gk31, hk31⟩ := wGt (cy := cy) X S27 (xe29.A h_o2).1 (xe29.A h_o2).2.1
    obtain ⟨k32, gk32, hk32⟩ := wGt (cy := cy) X S27 o26.1 o26.2.1
    refine va_astqO (E := "java/lang/Object") hx hb hK hP hD hS k32 7 k31 14 hk32 rfl (hN (.castable "HobhouseModel$Gear" "java/lang/Object") (by decide +kernel)) hk31 rfl (inb (m := S27.n r18) rfl (by omega) (by omega)) dJx4a65c_add_72be8_14 (fun H locs hP2 hD2 hS => ?_)
    have e9 := wPur (cy := cy) (f := (va_up (S27.r r18) x1.toNatClampNeg (some o2))) hD o26.1 o26.2.1 gk32 rfl
    obtain ⟨S33, hS33⟩ : ∃ z, S27.sr r18 (va_up (S27.r r18) x1.toNatClampNeg (some o2)) = z := ⟨_, rfl⟩
    have hP : va_P D vwCl (X ++ PL cy S33) H := by rw [← hS33, ← e9]; exact hP2
    have hD : va_D A (X ++ PL cy S33) := by rw [← hS33, ← e9]; exact hD2
    have xe34 : ext S27 S33 := by rw [← hS33]; exact ext.sr _ _ _
    have t35 : stp [(14, 1), (14, 2), (22, 101), (114, 10), (122, 10)] [] [] S S33 := by rw [← hS33]; exact t28.r o26 (by decide) (xe29.A h_o2) (Or.inr (Or.inr (Or.inr (Or.inl ⟨rfl, q3⟩)))) List.not_mem_nil (by decide)
    have k36 : (S33.I o1 2).toInt = (S27.I o1 2).toInt := by rw [← hS33]; rfl
    have g37 : S33.r r18 x1.toNatClampNeg = some o2 := by rw [← hS33]; exact sr_eq
    refine lv_aload_n hx hb dJx4a65c_add_72be8_15 rfl (lv_at hl 1 rfl) ?_
    refine lv_iload_n hx hb dJx4a65c_add_72be8_16 rfl (lv_at hl 3 rfl) ?_
    refine lv_iconst (v := 1) hx hb dJx4a65c_add_72be8_17 (by decide) ?_
    refine lv_iadd hx hb dJx4a65c_add_72be8_18 ?_
    have i19 : (x1 + (1 : Int32)).toInt = x1.toInt + 1 := t_addr (n := 1) rfl (by omega)
    obtain ⟨k38, gk38, hk38⟩ := wGt (cy := cy) X S33 (xe34.A (xe29.A h_o1)).1 (xe34.A (xe29.A h_o1)).2.1
    refine va_put (D := D) (ci := 3) (v := .int (x1 + (1 : Int32))) (ty := .int) (C := RJx4a65c) (T := TJx4a65c) (N := 3) hx hb hts hi_Jx4a65c_add_72be8_Jx4a65c tyJx4a65c tyJx4a65c_ok nmJx4a65c hown hK hP hD hS k38 hk38 rfl 2 (by decide) (hts (.fieldLink RJx4a65c 48 "java/util/ArrayList" "size" "I") (by decide +kernel)) (fun _ h9 => h9) rfl (by decide +kernel) (rfl) (rfl) (Nat.le_of_ble_eq_true rfl) dJx4a65c_add_72be8_19 (fun H locs hP2 hD2 hS => ?_)
    have e9 := wPuI (cy := cy) (j := 2) (v := (x1 + (1 : Int32))) hD (xe34.A (xe29.A h_o1)).1 (xe34.A (xe29.A h_o1)).2.1 gk38 rfl
    obtain ⟨S39, hS39⟩ : ∃ z, S33.sI o1 2 (x1 + (1 : Int32)) = z := ⟨_, rfl⟩
    have hP : va_P D vwCl (X ++ PL cy S39) H := by rw [← hS39, ← e9]; exact hP2
    have hD : va_D A (X ++ PL cy S39) := by rw [← hS39, ← e9]; exact hD2
    have xe40 : ext S33 S39 := by rw [← hS39]; exact ext.sI _ _ _ _
    have t41 : stp [(14, 1), (14, 2), (22, 101), (114, 10), (122, 10)] [] [] S S39 := by rw [← hS39]; exact t35.I 2 (x1 + (1 : Int32)) (xe34.A (xe29.A h_o1)) (by decide) ((by rw [← hS33]; exact al_push k14 q1 q6 (by omega) q3 q5 (by omega) (by omega) q7 (by omega))) (Or.inr ⟨by omega, by rw [(show S33.n o1 = 10 from (t35.x.n h_o1).trans hg)]; decide⟩)
    have k42 : (S39.I o1 2).toInt = (x1 + (1 : Int32)).toInt := by rw [← hS39, sI_eq]
    refine W.widen (k := 1) (n := 40) (Nat.le_of_ble_eq_true rfl) (Nat.le_of_ble_eq_true rfl) ?_
    exact W.vret hx hb hr (fun t ht hW9 => ⟨⟨S39, rfl, ⟨t41, (by omega), (⟨r18, (by rw [← hS39]; rw [← hS33]; exact q1), ((xe34.tr xe40).A o26), (by rw [← hS39]; exact g37), (fun i hi => by rw [← hS39]; show S33.r r18 i = _; rw [← hS33, sr_up_ne (by have h8 := cl_int (i := x1) (by omega); omega)]; exact q9r i hi)⟩)⟩, wd_end hP hK hD ht hW9.alike⟩, hS.F ht⟩) hS.2.2 dJx4a65c_add_72be8_22 hlocks
set_option maxHeartbeats 4000000 in
set_option maxRecDepth 100000 in
theorem c_Jx4a65c_add_9ea2d_gB (l : Launch) {e0 mi : Nat} {D : va_G} {cy : Nat → ClassId} {X : va_W} (S : wPS) (sz : Nat) (o1 : Nat) (h_o1 : isA S o1 14) (o2 : Nat) (h_o2 : isA S o2 10) (hW : wtB S []) (hp : (S.F o1 1 = some (S.f o1 1) ∧ isA S (S.f o1 1) 22 ∧ (1 ≤ S.n (S.f o1 1) ∧ S.n (S.f o1 1) ≤ 40) ∧ S.F (S.f o1 1) 0 = some (S.n o1) ∧ 0 ≤ (S.I o1 2).toInt ∧ ((S.I o1 2).toInt ≤ S.n (S.f o1 1) ∧ (S.I o1 2).toInt ≤ 20 ∧ (S.n o1 = 11 → (S.I o1 2).toInt ≤ 8)) ∧ ∀ i : Nat, (i : Int) < (S.I o1 2).toInt → ∃ g, S.r (S.f o1 1) i = some g ∧ isA S g (S.n o1))) (hb : (S.I o1 2).toInt ≤ 19) (hg : S.n o1 = 10) : Met l yJx4a65c_add_9ea2d wsJx4a65c_add_9ea2d ({ frames := 6, cells := 1, slots := 40, locals := 150 }) (va_Pc [.ref o1, .ref o2] (fun U => U.heap.size = sz ∧ WD D cy X (fun _ => True) S U ∧ NW U ∧ OU e0 mi (va_A (X ++ PL cy S) sz) U U.heap)) (va_Qi (fun r (u : wPS) => stp [(14, 0), (14, 1), (14, 2), (22, 101), (114, 10), (122, 10)] [] [] S u ∧ (u.I o1 2).toInt = (S.I o1 2).toInt + 1 ∧ (∃ a : Nat, u.F o1 1 = some a ∧ isA u a 22 ∧ u.r a (S.I o1 2).toNatClampNeg = some o2 ∧ ∀ i : Nat, (i : Int) < (S.I o1 2).toInt → u.r a i = S.r (S.f o1 1) i)) (fun u t => WD D cy X (va_A (X ++ PL cy S) sz) u t) (va_A (X ++ PL cy S) sz)) 1 40 (va_A (X ++ PL cy S) sz) := by
  refine Met.ofW (cc := cJx4a65c_add_9ea2d) (maxL := 2) (ret := (some .boolean)) (by decide) rfl ?_
  intro p e s m args below meth c s₁ B hml hv
  obtain ⟨rfl, hsz, ⟨hP, hK, hD0⟩, hN, hOU⟩ := hv
  have hx := B.exec
  have hb := B.bytes
  have hr := B.returns
  have hts := atoms_spec (ws := wsJx4a65c_add_9ea2d) B.pre
  have hown : s.vm.findClass RJx4a65c = some m.cls := findClass_of_methodNamed (x := yJx4a65c_add_9ea2d) B.named
  have hlocks := B.notSynchronized
  subst hsz
  have hD := hD0.self (sz := s.heap.size)
  generalize hAe : va_A (X ++ PL cy S) s.heap.size = A at hD hOU ⊢
  have hA : ∀ q : Nat, s.heap.size ≤ q → A q := fun q h => by rw [← hAe]; exact Or.inr h
  have hS : va_S A s.heap s.heap [] := va_S.rf
  have hl := lv_entry ([.ref o1, .ref o2]) (n := 2) (Nat.le_of_ble_eq_true rfl)
  rw [lg_entry_eq]
  generalize (lg_sl ([.ref o1, .ref o2]) ++ List.replicate (2 - (lg_sl ([.ref o1, .ref o2])).length) Slot.unset).toArray = ls at hl ⊢
  have hl : lv_has ls 2 [(0, .ref o1), (1, .ref o2)] := hl
  obtain ⟨⟨ga, gZ, gX, gl, gA⟩, ⟨sa9, sZ, sX, sl9, sA⟩, cZ, eZ, eX, el, eA, hMi, hDc, ⟨pf, pZ⟩⟩ := id hOU
  have t0 : stp [(14, 0), (14, 1), (14, 2), (22, 101), (114, 10), (122, 10)] [] [] S S := stp.rf hW
  refine lv_aload_n hx hb dJx4a65c_add_9ea2d_0 rfl (lv_at hl 0 rfl) ?_
  refine lv_dup hx hb dJx4a65c_add_9ea2d_1 rfl ?_
  obtain ⟨k1, gk1, hk1⟩ := wGt (cy := cy) X S h_o1.1 h_o1.2.1
  refine va_get (D := D) (ci := 3) (v := .int (S.I o1 0)) (C := RJx4a65c) (T := TJx4a65c) (N := 3) hx hb hts hi_Jx4a65c_add_9ea2d_Jx4a65c hown hK hP k1 hk1 rfl 0 (by decide) (hts (.fieldLink RJx4a65c 63 "java/util/ArrayList" "modCount" "I") (by decide +kernel)) (fun x9 h9 => u_same (hts (.sameField "java/util/ArrayList" "java/util/AbstractList" "modCount" "I") (by decide +kernel)) x9 h9) rfl dJx4a65c_add_9ea2d_2 ?_
  refine lv_iconst (v := 1) hx hb dJx4a65c_add_9ea2d_5 (by decide) ?_
  refine lv_iadd hx hb dJx4a65c_add_9ea2d_6 ?_
  obtain ⟨k2, gk2, hk2⟩ := wGt (cy := cy) X S h_o1.1 h_o1.2.1
  refine va_put (D := D) (ci := 3) (v := .int ((S.I o1 0) + (1 : Int32))) (ty := .int) (C := RJx4a65c) (T := TJx4a65c) (N := 3) hx hb hts hi_Jx4a65c_add_9ea2d_Jx4a65c tyJx4a65c tyJx4a65c_ok nmJx4a65c hown hK hP hD hS k2 hk2 rfl 0 (by decide) (hts (.fieldLink RJx4a65c 63 "java/util/ArrayList" "modCount" "I") (by decide +kernel)) (fun x9 h9 => u_same (hts (.sameField "java/util/ArrayList" "java/util/AbstractList" "modCount" "I") (by decide +kernel)) x9 h9) rfl (by decide +kernel) (rfl) (rfl) (Nat.le_of_ble_eq_true rfl) dJx4a65c_add_9ea2d_7 (fun H locs hP2 hD2 hS => ?_)
  have e9 := wPuI (cy := cy) (j := 0) (v := ((S.I o1 0) + (1 : Int32))) hD h_o1.1 h_o1.2.1 gk2 rfl
  obtain ⟨S3, hS3⟩ : ∃ z, S.sI o1 0 ((S.I o1 0) + (1 : Int32)) = z := ⟨_, rfl⟩
  have hP : va_P D vwCl (X ++ PL cy S3) H := by rw [← hS3, ← e9]; exact hP2
  have hD : va_D A (X ++ PL cy S3) := by rw [← hS3, ← e9]; exact hD2
  have xe4 : ext S S3 := by rw [← hS3]; exact ext.sI _ _ _ _
  have t5 : stp [(14, 0), (14, 1), (14, 2), (22, 101), (114, 10), (122, 10)] [] [] S S3 := by rw [← hS3]; exact t0.I 0 ((S.I o1 0) + (1 : Int32)) h_o1 (by decide) (trivial) (Or.inl (by decide))
  have k6 : (S3.I o1 2).toInt = (S.I o1 2).toInt := by rw [← hS3]; exact congrArg Int32.toInt (sI_I (by rintro ⟨e1, e2⟩; exact absurd e2 (by decide)))
  refine lv_aload_n hx hb dJx4a65c_add_9ea2d_10 rfl (lv_at hl 0 rfl) ?_
  refine lv_aload_n hx hb dJx4a65c_add_9ea2d_11 rfl (lv_at hl 1 rfl) ?_
  refine lv_aload_n hx hb dJx4a65c_add_9ea2d_12 rfl (lv_at hl 0 rfl) ?_
  have F7 : S3.F o1 1 = some (S.f o1 1) := (by rw [← hS3]; exact hp.1)
  have a8 : isA S3 (S.f o1 1) 22 := t5.x.A hp.2.1
  obtain ⟨k9, gk9, hk9⟩ := wGt (cy := cy) X S3 (xe4.A h_o1).1 (xe4.A h_o1).2.1
  simp only [kE, F7] at hk9
  refine va_get (D := D) (ci := 3) (v := .ref (S.f o1 1)) (C := RJx4a65c) (T := TJx4a65c) (N := 3) hx hb hts hi_Jx4a65c_add_9ea2d_Jx4a65c hown hK hP k9 hk9 rfl 1 (by decide) (hts (.fieldLink RJx4a65c 9 "java/util/ArrayList" "elementData" "[Ljava/lang/Object;") (by decide +kernel)) (fun _ h9 => h9) rfl dJx4a65c_add_9ea2d_13 ?_
  refine lv_aload_n hx hb dJx4a65c_add_9ea2d_16 rfl (lv_at hl 0 rfl) ?_
  obtain ⟨k10, gk10, hk10⟩ := wGt (cy := cy) X S3 (xe4.A h_o1).1 (xe4.A h_o1).2.1
  refine va_get (D := D) (ci := 3) (v := .int (S3.I o1 2)) (C := RJx4a65c) (T := TJx4a65c) (N := 3) hx hb hts hi_Jx4a65c_add_9ea2d_Jx4a65c hown hK hP k10 hk10 rfl 2 (by decide) (hts (.fieldLink RJx4a65c 48 "java/util/ArrayList" "size" "I") (by decide +kernel)) (fun _ h9 => h9) rfl dJx4a65c_add_9ea2d_17 ?_
  have hFc := free_all hD hS hA
  obtain ⟨k11, gk11, hk11⟩ := wGt (cy := cy) X S3 (xe4.A h_o1).1 (xe4.A h_o1).2.1
  refine va_callv (va_runV (As := [.ref o2, .ref (S.f o1 1), .int (S3.I o1 2)]) (rest := []) ⟨hx, hb, hml, hown, hts⟩ (c_Jx4a65c_add_72be8_gB l (e0 := e0) (mi := mi) (cy := cy) (X := X) (D := D) S3 _ o1 (xe4.A h_o1) o2 (xe4.A h_o2) (S.f o1 1) a8 (S3.I o1 2) (t5.w) (by rw [← hS3]; exact hp.1) (by rw [← hS3, sI_ne (S := S) (a := o1) (j := 0) (c := 2) (by decide)]; exact hp) (by omega) (by omega) ((t5.x.n h_o1).trans hg)) (cwV 3 hts gJx4a65c_add_9ea2d_Jx4a65c_add_72be8 rfl rfl rfl hd_Jx4a65c_add_72be8 ⟨Nat.le_of_ble_eq_true rfl, Nat.le_of_ble_eq_true rfl⟩) (pVo (va_recv hK hP (q := (RJx4a65c, TJx4a65c, 3)) (ci := 3) (q0 := k11) rfl hk11) hP hK hD hN hOU hS hFc) rfl rfl hl.1 rfl (lv_room (Nat.le_of_ble_eq_true rfl)) dJx4a65c_add_9ea2d_20 ⟨Nat.le_of_ble_eq_true rfl, Nat.le_of_ble_eq_true rfl⟩) hS (fun q _ h => hFc q h) hFc (fun u t H1 locs ht hvm hw hB hz1 hk1 hS => ?_)
  obtain ⟨w13, y14, y15⟩ := hw
  obtain ⟨hP, hD⟩ := wd_post hFc ht hB
  generalize H1 = H at hP hS ⊢
  obtain ⟨S16, rfl⟩ : ∃ z, z = u := ⟨_, rfl⟩
  have t17 : stp [(14, 0), (14, 1), (14, 2), (22, 101), (114, 10), (122, 10)] [] [] S S16 := t5.tr w13 (by decide) (fun _ q => absurd q List.not_mem_nil)
  have xe18 : ext S3 S16 := w13.x
  refine lv_iconst (v := 1) hx hb dJx4a65c_add_9ea2d_23 (by decide) ?_
  refine W.widen (k := 1) (n := 40) (Nat.le_of_ble_eq_true rfl) (Nat.le_of_ble_eq_true rfl) ?_
  exact W.zret (v := (1 : Int32)) hx hb hr (by rfl) (fun t ht hW9 => ⟨⟨(1 : Int32), S16, rfl, ⟨t17, (by omega), ((by have h9 := y15; rw [← hS3, sI_ne (S := S) (a := o1) (j := 0) (c := 2) (by decide)] at h9; exact h9))⟩, wd_end hP hK hD ht hW9.alike⟩, hS.F ht⟩) hS.2.2 dJx4a65c_add_9ea2d_24 hlocks
set_option maxHeartbeats 4000000 in
set_option maxRecDepth 100000 in
theorem c_J7_copyOf_6403c_h (l : Launch) {e0 mi : Nat} {D : va_G} {cy : Nat → ClassId} {X : va_W} (S : wPS) (sz : Nat) (o1 : Nat) (h_o1 : isA S o1 22) (x1 : Int32) (hW : wtB S []) (n1 : S.n o1 ≤ 26) (h2 : (S.n o1 : Int) ≤ x1.toInt ∧ x1.toInt ≤ 40) (h3 : S.F o1 0 = some 11) : Met l yJ7_copyOf_6403c wsJ7_copyOf_6403c ({ frames := 1, cells := 1, slots := 40, locals := 40 }) (va_Pc [.ref o1, .int x1, .ref mi] (fun U => U.heap.size = sz ∧ WD D cy X (fun _ => True) S U ∧ NW U ∧ OU e0 mi (va_A (X ++ PL cy S) sz) U U.heap)) (va_Qq (fun r (u : wPS) => ∃ a : Nat, r = some a ∧ stp ([] : List (Nat × Nat)) [] [] S u ∧ u.n a = x1.toNatClampNeg ∧ u.F a 0 = some 11 ∧ (∀ i : Nat, i < S.n o1 → u.r a i = S.r o1 i) ∧ isA u a 22) (fun u t => WD D cy X (va_A (X ++ PL cy S) sz) u t) (va_A (X ++ PL cy S) sz)) 1 40 (va_A (X ++ PL cy S) sz) := by
  refine Met.ofW (cc := cJ7_copyOf_6403c) (maxL := 4) (ret := (some (.array (.object "java/lang/Object")))) (by decide) rfl ?_
  intro p e s m args below meth c s₁ B hml hv
  obtain ⟨rfl, hsz, ⟨hP, hK, hD0⟩, hN, hOU⟩ := hv
  have hx := B.exec
  have hb := B.bytes
  have hr := B.returns
  have hts := atoms_spec (ws := wsJ7_copyOf_6403c) B.pre
  have hown : s.vm.findClass RJ7 = some m.cls := findClass_of_methodNamed (x := yJ7_copyOf_6403c) B.named
  have hlocks := B.notSynchronized
  subst hsz
  have hD := hD0.self (sz := s.heap.size)
  generalize hAe : va_A (X ++ PL cy S) s.heap.size = A at hD hOU ⊢
  have hA : ∀ q : Nat, s.heap.size ≤ q → A q := fun q h => by rw [← hAe]; exact Or.inr h
  have hS : va_S A s.heap s.heap [] := va_S.rf
  have hl := lv_entry ([.ref o1, .int x1, .ref mi]) (n := 4) (Nat.le_of_ble_eq_true rfl)
  rw [lg_entry_eq]
  generalize (lg_sl ([.ref o1, .int x1, .ref mi]) ++ List.replicate (4 - (lg_sl ([.ref o1, .int x1, .ref mi])).length) Slot.unset).toArray = ls at hl ⊢
  have hl : lv_has ls 4 [(0, .ref o1), (1, .int x1), (2, .ref mi)] := hl
  obtain ⟨⟨ga, gZ, gX, gl, gA⟩, ⟨sa9, sZ, sX, sl9, sA⟩, cZ, eZ, eX, el, eA, hMi, hDc, ⟨pf, pZ⟩⟩ := id hOU
  have t0 : stp ([] : List (Nat × Nat)) [] [] S S := stp.rf hW
  refine lv_aload_n hx hb dJ7_copyOf_6403c_0 rfl (lv_at hl 2 rfl) ?_
  refine va_ldcM (C := "[Ljava/lang/Object;") (mi := mi) hx hb hown (hts (.classLink RJ7 110 "[Ljava/lang/Object;") (by decide +kernel)) hMi dJ7_copyOf_6403c_1 ?_
  refine lv_acmp_ne (rx := some mi) (ry := some mi) (tgt := 13) hx hb dJ7_copyOf_6403c_3 (by decide) (fun c1 => ?_) (fun c1 => ?_)
  · exact absurd rfl c1
  · refine lv_iload_n hx hb dJ7_copyOf_6403c_6 rfl (lv_at hl 1 rfl) ?_
    have mqa2 : x1.toNatClampNeg ≤ 40 := clamp_le (by omega) (by omega)
    refine va_newq (C := "java/lang/Object") hx hb hown (hts (.classLink RJ7 2 "java/lang/Object") (by decide +kernel)) (hN (.arrayOver (.object "java/lang/Object")) (by decide +kernel)) hK hP hD hS hA (N' := x1.toNatClampNeg) (nneg_i (by omega)) (rfl) (Nat.le_trans (Nat.mul_le_mul_right _ mqa2) (by decide)) (Nat.le_of_ble_eq_true rfl) (Nat.le_trans (Nat.add_le_add_left mqa2 _) (Nat.le_of_ble_eq_true rfl)) dJ7_copyOf_6403c_7 (fun qa2 cqa2 H hK2 hP2 hD2 hS => ?_)
    obtain rfl : cqa2 = cy 7 := cls_22 hK hK2
    have hqa2 : qa2 ∉ S.L := nw_q hD2
    have e9 := wNw (cy := cy) (X := X) (S := S) (a := qa2) (k := 22) (z := x1.toNatClampNeg) (f := fun _ => 0) (g := fun _ => none) hqa2 rfl
    obtain ⟨S3, hS3⟩ : ∃ z, S.nw qa2 22 x1.toNatClampNeg (fun _ => 0) (fun _ => none) = z := ⟨_, rfl⟩
    have hP : va_P D vwCl (X ++ PL cy S3) H := by rw [← hS3, ← e9]; exact hP2
    have hD : va_D A (X ++ PL cy S3) := by rw [← hS3, ← e9]; exact hD2
    have xe4 : ext S S3 := by rw [← hS3]; exact ext.nw hqa2
    have t5 : stp ([] : List (Nat × Nat)) [] (qa2 :: []) S S3 := by rw [← hS3]; exact t0.nw hqa2 (Or.inl (by decide))
    refine W.widen (k := 1) (n := 40) (Nat.le_of_ble_eq_true rfl) (Nat.add_le_add_left mqa2 _) ?_
    have aqa2 : isA S3 qa2 22 := by rw [← hS3]; exact nw_A (Nat.lt_of_le_of_lt mqa2 (by decide))
    have nqa2 : S3.n qa2 = x1.toNatClampNeg := by rw [← hS3]; exact nw_n
    have rqa2 : ∀ j, S3.r qa2 j = none := by rw [← hS3]; exact fun j => congrFun (up_qq (f := S.r)) j
    have fqa2 : ∀ j, S3.F qa2 j = none := by rw [← hS3]; exact nw_F
    have bqa2 : qa2 ∉ S.L := fun e => hqa2 e
    have e9 := gh_PL (cy := cy) (X := X) (S := S3) (a := qa2) (j := 0) (v := some 11) aqa2.2.1 (by decide)
    have hP2 := hP
    have hD2 := hD
    rw [e9] at hP2 hD2
    replace e9 := Eq.refl (X ++ PL cy (S3.sF qa2 0 (some 11)))
    obtain ⟨S6, hS6⟩ : ∃ z, S3.sF qa2 0 (some 11) = z := ⟨_, rfl⟩
    have hP : va_P D vwCl (X ++ PL cy S6) H := by rw [← hS6, ← e9]; exact hP2
    have hD : va_D A (X ++ PL cy S6) := by rw [← hS6, ← e9]; exact hD2
    have xe7 : ext S3 S6 := by rw [← hS6]; exact ext.sF (fqa2 0)
    have t8 : stp ([] : List (Nat × Nat)) [] [] S S6 := by rw [← hS6]; exact (t5.F 0 11 List.mem_cons_self (Or.inr bqa2) (fqa2 0)).un (okAt.of_22 (S := S3.sF qa2 0 (some 11)) aqa2.2.1 (fun k i g _ e => by rw [show (S3.sF qa2 0 (some 11)).r qa2 i = none from rqa2 i] at e; cases e))
    have gqa2 : S6.F qa2 0 = some 11 := by rw [← hS6]; exact sF_eq
    have rqa2 : ∀ j, S6.r qa2 j = none := by rw [← hS6]; exact rqa2
    refine lv_goto (tgt := 24) hx hb dJ7_copyOf_6403c_10 (by decide) ?_
    refine lv_astore_n (lv' := [(3, .ref qa2), (0, .ref o1), (1, .int x1), (2, .ref mi)]) hx hb dJ7_copyOf_6403c_24 rfl hl (by decide) rfl (fun ls hl => ?_)
    refine lv_aload_n hx hb dJ7_copyOf_6403c_25 rfl (lv_at hl 1 rfl) ?_
    refine lv_iconst (v := 0) hx hb dJ7_copyOf_6403c_26 (by decide) ?_
    refine lv_aload_n hx hb dJ7_copyOf_6403c_27 rfl (lv_at hl 0 rfl) ?_
    refine lv_iconst (v := 0) hx hb dJ7_copyOf_6403c_28 (by decide) ?_
    refine lv_aload_n hx hb dJ7_copyOf_6403c_29 rfl (lv_at hl 1 rfl) ?_
    obtain ⟨k9, gk9, hk9⟩ := wGt (cy := cy) X S6 ((xe4.tr xe7).A h_o1).1 ((xe4.tr xe7).A h_o1).2.1
    have i10 : (nI (S.n o1)).toInt = ((S.n o1 : Nat) : Int) := nI_toInt h_o1.2.2
    have i11 := h_o1.2.2
    have i12 := n1
    refine va_alen (D := D) (cl := vwCl) (tys := tyL cy) hx hb hK hP k9 7 hk9 rfl (v := nI (S.n o1)) (by rw [((xe4.tr xe7).n h_o1)]; rfl) dJ7_copyOf_6403c_30 ?_
    refine lv_iload_n hx hb dJ7_copyOf_6403c_31 rfl (lv_at hl 2 rfl) ?_
    refine va_mmin hx hb (hml.trans hl.1.symm) hown (hts (.methodLink RJ7 304 Lib.Math.min.name) (by decide +kernel)) (hts (.static Lib.Math.min.name) (by decide +kernel)) (hts (.initialized "java/lang/Math") (by decide +kernel)) (hts (.code Lib.Math.min.name Lib.Math.min.code 2 (some .int)) (by decide +kernel)) (Nat.le_of_ble_eq_true rfl) (Nat.le_of_ble_eq_true rfl) (Nat.le_of_ble_eq_true rfl) (Nat.le_of_ble_eq_true rfl) dJ7_copyOf_6403c_32 ?_
    have i13 := mmin_i (nI (S.n o1)) x1
    obtain ⟨k14, gk14, hk14⟩ := wGt (cy := cy) X S6 ((xe4.tr xe7).A h_o1).1 ((xe4.tr xe7).A h_o1).2.1
    obtain ⟨k15, gk15, hk15⟩ := wGt (cy := cy) X S6 (xe7.A aqa2).1 (xe7.A aqa2).2.1
    have j0 : S6.n o1 = S.n o1 := (xe4.tr xe7).n h_o1
    have j1 := ((xe7.n aqa2).trans nqa2)
    have j2 := cl_int (i := (if x1 < (nI (S.n o1)) then x1 else (nI (S.n o1)))) (by omega)
    have j3 := cl_int (i := x1) (by omega)
    have z9 : (0 : Int32).toNatClampNeg = 0 := rfl
    refine va_copyq (C := "HobhouseModel$Hob") hx hb (hml.trans hl.1.symm) hown (hts (.methodLink RJ7 150 arraycopyName) (by decide +kernel)) (hts (.native arraycopyName) (by decide +kernel)) (hts (.static arraycopyName) (by decide +kernel)) (hts (.initialized "java/lang/System") (by decide +kernel)) hK hP hD hS k14 k15 7 7 hk14 hk15 rfl rfl (by decide) (by decide) (nneg_i (by omega)) (by rw [z9]; omega) (by rw [z9]; omega) (fun i9 _ y9 e9 => by have h9 := ((t8.w.at ((xe4.tr xe7).A h_o1) List.not_mem_nil).to_22 ((xe4.tr xe7).A h_o1).2.1).X0 11 _ y9 ((xe4.tr xe7).F h_o1 (by decide) h3) e9; obtain ⟨k8, g8, h8⟩ := wGt (cy := cy) X S6 h9.1 h9.2.1; exact va_recv hK hP (ci := 15) (q0 := k8) rfl h8) (any_obj (hN (.castable "HobhouseModel$Hob" "java/lang/Object") (by decide +kernel))) (Nat.le_of_ble_eq_true rfl) (Nat.le_of_ble_eq_true rfl) dJ7_copyOf_6403c_35 (fun H locs hP2 hD2 hS => ?_)
    have e9 := wPur (cy := cy) (f := (va_cpy (S6.r o1) (S6.r qa2) (0 : Int32).toNatClampNeg (0 : Int32).toNatClampNeg (if x1 < (nI (S.n o1)) then x1 else (nI (S.n o1))).toNatClampNeg)) hD (xe7.A aqa2).1 (xe7.A aqa2).2.1 gk15 rfl
    obtain ⟨S16, hS16⟩ : ∃ z, S6.sr qa2 (va_cpy (S6.r o1) (S6.r qa2) (0 : Int32).toNatClampNeg (0 : Int32).toNatClampNeg (if x1 < (nI (S.n o1)) then x1 else (nI (S.n o1))).toNatClampNeg) = z := ⟨_, rfl⟩
    have hP : va_P D vwCl (X ++ PL cy S16) H := by rw [← hS16, ← e9]; exact hP2
    have hD : va_D A (X ++ PL cy S16) := by rw [← hS16, ← e9]; exact hD2
    have xe17 : ext S6 S16 := by rw [← hS16]; exact ext.sr _ _ _
    have t18 : stp ([] : List (Nat × Nat)) [] [] S S16 := by rw [← hS16]; exact t8.rc (xe7.A aqa2) gqa2 rqa2 (fun i9 y9 e9 => by obtain ⟨q9, e8⟩ := cpy_el e9 rqa2; exact ((t8.w.at ((xe4.tr xe7).A h_o1) List.not_mem_nil).to_22 ((xe4.tr xe7).A h_o1).2.1).X0 11 q9 y9 ((xe4.tr xe7).F h_o1 (by decide) h3) e8) bqa2
    refine lv_aload_n hx hb dJ7_copyOf_6403c_38 rfl (lv_at hl 0 rfl) ?_
    refine W.widen (k := 1) (n := 40) (Nat.le_of_ble_eq_true rfl) (Nat.le_of_ble_eq_true rfl) ?_
    exact W.aret (v := .ref qa2) hx hb hr (Or.inr ⟨_, rfl⟩) (Or.inr ⟨_, rfl⟩) (fun t ht hW9 => ⟨⟨some qa2, S16, rfl, ⟨qa2, rfl, t18, ((((xe7.tr xe17).n aqa2).trans nqa2)), ((xe17.F (xe7.A aqa2) (by decide) gqa2)), ((fun i hi => (cpy_r hS16 (by omega)).trans (congrFun ((t8.fR o1 h_o1.1 List.not_mem_nil).2.2.1 (by rw [h_o1.2.1]; decide)) i))), (xe17.A (xe7.A aqa2))⟩, wd_end hP hK hD ht hW9.alike⟩, hS.F ht⟩) hS.2.2 dJ7_copyOf_6403c_39 hlocks
set_option maxHeartbeats 4000000 in
set_option maxRecDepth 100000 in
theorem c_J7_copyOf_1904c_h (l : Launch) {e0 mi : Nat} {D : va_G} {cy : Nat → ClassId} {X : va_W} (S : wPS) (sz : Nat) (o1 : Nat) (h_o1 : isA S o1 22) (x1 : Int32) (hW : wtB S []) (n1 : S.n o1 ≤ 26) (h2 : (S.n o1 : Int) ≤ x1.toInt ∧ x1.toInt ≤ 40) (h3 : S.F o1 0 = some 11) : Met l yJ7_copyOf_1904c wsJ7_copyOf_1904c ({ frames := 2, cells := 1, slots := 40, locals := 63 }) (va_Pc [.ref o1, .int x1] (fun U => U.heap.size = sz ∧ WD D cy X (fun _ => True) S U ∧ NW U ∧ OU e0 mi (va_A (X ++ PL cy S) sz) U U.heap)) (va_Qq (fun r (u : wPS) => ∃ a : Nat, r = some a ∧ stp ([] : List (Nat × Nat)) [] [] S u ∧ u.n a = x1.toNatClampNeg ∧ u.F a 0 = some 11 ∧ (∀ i : Nat, i < S.n o1 → u.r a i = S.r o1 i) ∧ isA u a 22) (fun u t => WD D cy X (va_A (X ++ PL cy S) sz) u t) (va_A (X ++ PL cy S) sz)) 1 40 (va_A (X ++ PL cy S) sz) := by
  refine Met.ofW (cc := cJ7_copyOf_1904c) (maxL := 2) (ret := (some (.array (.object "java/lang/Object")))) (by decide) rfl ?_
  intro p e s m args below meth c s₁ B hml hv
  obtain ⟨rfl, hsz, ⟨hP, hK, hD0⟩, hN, hOU⟩ := hv
  have hx := B.exec
  have hb := B.bytes
  have hr := B.returns
  have hts := atoms_spec (ws := wsJ7_copyOf_1904c) B.pre
  have hown : s.vm.findClass RJ7 = some m.cls := findClass_of_methodNamed (x := yJ7_copyOf_1904c) B.named
  have hlocks := B.notSynchronized
  subst hsz
  have hD := hD0.self (sz := s.heap.size)
  generalize hAe : va_A (X ++ PL cy S) s.heap.size = A at hD hOU ⊢
  have hA : ∀ q : Nat, s.heap.size ≤ q → A q := fun q h => by rw [← hAe]; exact Or.inr h
  have hS : va_S A s.heap s.heap [] := va_S.rf
  have hl := lv_entry ([.ref o1, .int x1]) (n := 2) (Nat.le_of_ble_eq_true rfl)
  rw [lg_entry_eq]
  generalize (lg_sl ([.ref o1, .int x1]) ++ List.replicate (2 - (lg_sl ([.ref o1, .int x1])).length) Slot.unset).toArray = ls at hl ⊢
  have hl : lv_has ls 2 [(0, .ref o1), (1, .int x1)] := hl
  obtain ⟨⟨ga, gZ, gX, gl, gA⟩, ⟨sa9, sZ, sX, sl9, sA⟩, cZ, eZ, eX, el, eA, hMi, hDc, ⟨pf, pZ⟩⟩ := id hOU
  have t0 : stp ([] : List (Nat × Nat)) [] [] S S := stp.rf hW
  refine lv_aload_n hx hb dJ7_copyOf_1904c_0 rfl (lv_at hl 0 rfl) ?_
  refine lv_iload_n hx hb dJ7_copyOf_1904c_1 rfl (lv_at hl 1 rfl) ?_
  refine lv_aload_n hx hb dJ7_copyOf_1904c_2 rfl (lv_at hl 0 rfl) ?_
  obtain ⟨k1, gk1, hk1⟩ := wGt (cy := cy) X S h_o1.1 h_o1.2.1
  refine va_getC (C := "[Ljava/lang/Object;") (mi := mi) hx hb (hml.trans hl.1.symm) hown (hts (.methodLink RJ7 86 ⟨"java/lang/Object", "getClass", "()Ljava/lang/Class;"⟩) (by decide +kernel)) (va_Dc.use hDc) (hts (.selects "[Ljava/lang/Object;" ⟨"java/lang/Object", "getClass", "()Ljava/lang/Class;"⟩ ⟨"java/lang/Object", "getClass", "()Ljava/lang/Class;"⟩) (by decide +kernel)) (hts (.instanceMethod ⟨"java/lang/Object", "getClass", "()Ljava/lang/Class;"⟩) (by decide +kernel)) (hts (.native ⟨"java/lang/Object", "getClass", "()Ljava/lang/Class;"⟩) (by decide +kernel)) hMi (recv_arr hK hP (i := 7) rfl hk1 rfl) (Nat.le_of_ble_eq_true rfl) (Nat.le_of_ble_eq_true rfl) dJ7_copyOf_1904c_3 ?_
  have hFc := free_all hD hS hA
  refine va_callq (va_runS (As := [.ref o1, .int x1, .ref mi]) (rest := []) ⟨hx, hb, hml, hown, hts⟩ (c_J7_copyOf_6403c_h l (e0 := e0) (mi := mi) (cy := cy) (X := X) (D := D) S _ o1 h_o1 x1 (hW) n1 h2 h3) (cwS 3 hts gJ7_copyOf_1904c_J7_copyOf_6403c rfl rfl rfl hd_J7_copyOf_6403c ⟨Nat.le_of_ble_eq_true rfl, Nat.le_of_ble_eq_true rfl⟩) (pSo hP hK hD hN hOU hS hFc) rfl rfl hl.1 rfl (lv_room (Nat.le_of_ble_eq_true rfl)) dJ7_copyOf_1904c_6 ⟨Nat.le_of_ble_eq_true rfl, Nat.le_of_ble_eq_true rfl⟩) hS (fun q _ h => hFc q h) hFc (fun r2 u t H1 locs ht hvm hw hB hz1 hk1 hS => ?_)
  obtain ⟨r2, rfl, w3, y4, y5, y6, o7⟩ := hw
  obtain ⟨hP, hD⟩ := wd_post hFc ht hB
  generalize H1 = H at hP hS ⊢
  obtain ⟨S8, rfl⟩ : ∃ z, z = u := ⟨_, rfl⟩
  have t9 : stp ([] : List (Nat × Nat)) [] [] S S8 := t0.tr w3 (by decide) (fun _ q => absurd q List.not_mem_nil)
  have xe10 : ext S S8 := w3.x
  refine W.eq (g2 := F0 m 9 ls [.ref r2]) rfl ?_
  refine W.widen (k := 1) (n := 40) (Nat.le_of_ble_eq_true rfl) (Nat.le_of_ble_eq_true rfl) ?_
  exact W.aret (v := .ref r2) hx hb hr (Or.inr ⟨_, rfl⟩) (Or.inr ⟨_, rfl⟩) (fun t ht hW9 => ⟨⟨some r2, S8, rfl, ⟨r2, rfl, t9, (y4), (y5), (y6), o7⟩, wd_end hP hK hD ht hW9.alike⟩, hS.F ht⟩) hS.2.2 dJ7_copyOf_1904c_9 hlocks
set_option maxHeartbeats 4000000 in
set_option maxRecDepth 100000 in
theorem c_Jx4a65c_grow_92f84_hA (l : Launch) {e0 mi : Nat} {D : va_G} {cy : Nat → ClassId} {X : va_W} (S : wPS) (sz : Nat) (o1 : Nat) (h_o1 : isA S o1 14) (x1 : Int32) (hW : wtB S []) (hE9 : S.F o1 1 = some e0) (hs : (S.I o1 2).toInt = 0) (hx : x1.toInt = 1) (hg : S.n o1 = 11) : Met l yJx4a65c_grow_92f84 wsJx4a65c_grow_92f84 ({ frames := 1, cells := 1, slots := 10, locals := 14 }) (va_Pc [.ref o1, .int x1] (fun U => U.heap.size = sz ∧ WD D cy X (fun _ => True) S U ∧ NW U ∧ OU e0 mi (va_A (X ++ PL cy S) sz) U U.heap)) (va_Qq (fun r (u : wPS) => ∃ a : Nat, r = some a ∧ stp [(14, 1), (114, 11)] [] [] S u ∧ u.F o1 1 = some a ∧ ((S.I o1 2).toInt < u.n a ∧ u.n a ≤ 40) ∧ u.F a 0 = some 11 ∧ (u.I o1 2).toInt = (S.I o1 2).toInt ∧ u.n o1 = 11 ∧ (∀ i : Nat, (i : Int) < (S.I o1 2).toInt → u.r a i = S.r (S.f o1 1) i) ∧ isA u a 22) (fun u t => WD D cy X (va_A (X ++ PL cy S) sz) u t) (va_A (X ++ PL cy S) sz)) 1 10 (va_A (X ++ PL cy S) sz) := by
  refine Met.ofW (cc := cJx4a65c_grow_92f84) (maxL := 4) (ret := (some (.array (.object "java/lang/Object")))) (by decide) rfl ?_
  intro p e s m args below meth c s₁ B hml hv
  obtain ⟨rfl, hsz, ⟨hP, hK, hD0⟩, hN, hOU⟩ := hv
  have hx := B.exec
  have hb := B.bytes
  have hr := B.returns
  have hts := atoms_spec (ws := wsJx4a65c_grow_92f84) B.pre
  have hown : s.vm.findClass RJx4a65c = some m.cls := findClass_of_methodNamed (x := yJx4a65c_grow_92f84) B.named
  have hlocks := B.notSynchronized
  subst hsz
  have hD := hD0.self (sz := s.heap.size)
  generalize hAe : va_A (X ++ PL cy S) s.heap.size = A at hD hOU ⊢
  have hA : ∀ q : Nat, s.heap.size ≤ q → A q := fun q h => by rw [← hAe]; exact Or.inr h
  have hS : va_S A s.heap s.heap [] := va_S.rf
  have hl := lv_entry ([.ref o1, .int x1]) (n := 4) (Nat.le_of_ble_eq_true rfl)
  rw [lg_entry_eq]
  generalize (lg_sl ([.ref o1, .int x1]) ++ List.replicate (4 - (lg_sl ([.ref o1, .int x1])).length) Slot.unset).toArray = ls at hl ⊢
  have hl : lv_has ls 4 [(0, .ref o1), (1, .int x1)] := hl
  obtain ⟨⟨ga, gZ, gX, gl, gA⟩, ⟨sa9, sZ, sX, sl9, sA⟩, cZ, eZ, eX, el, eA, hMi, hDc, ⟨pf, pZ⟩⟩ := id hOU
  have t0 : stp [(14, 1), (114, 11)] [] [] S S := stp.rf hW
  refine lv_aload_n hx hb dJx4a65c_grow_92f84_0 rfl (lv_at hl 0 rfl) ?_
  have F1 : S.F o1 1 = some e0 := hE9
  obtain ⟨k2, gk2, hk2⟩ := wGt (cy := cy) X S h_o1.1 h_o1.2.1
  simp only [kE, F1] at hk2
  refine va_get (D := D) (ci := 3) (v := .ref e0) (C := RJx4a65c) (T := TJx4a65c) (N := 3) hx hb hts hi_Jx4a65c_grow_92f84_Jx4a65c hown hK hP k2 hk2 rfl 1 (by decide) (hts (.fieldLink RJx4a65c 9 "java/util/ArrayList" "elementData" "[Ljava/lang/Object;") (by decide +kernel)) (fun _ h9 => h9) rfl dJx4a65c_grow_92f84_1 ?_
  refine ou_len hx hb eX el eA hS dJx4a65c_grow_92f84_4 ?_
  refine W.eq (g2 := F0 m 5 ls [.int (0 : Int32)]) rfl ?_
  refine lv_istore_n (lv' := [(2, .int (0 : Int32)), (0, .ref o1), (1, .int x1)]) hx hb dJx4a65c_grow_92f84_5 rfl hl (by decide) rfl (fun ls hl => ?_)
  refine lv_iload_n hx hb dJx4a65c_grow_92f84_6 rfl (lv_at hl 0 rfl) ?_
  refine lv_if_gt (tgt := 20) hx hb dJx4a65c_grow_92f84_7 (by decide) (fun c3 => ?_) (fun c3 => ?_)
  · exact absurd c3 (by decide)
  · refine lv_aload_n hx hb dJx4a65c_grow_92f84_10 rfl (lv_at hl 1 rfl) ?_
    obtain ⟨k4, gk4, hk4⟩ := wGt (cy := cy) X S h_o1.1 h_o1.2.1
    simp only [kE, F1] at hk4
    refine va_get (D := D) (ci := 3) (v := .ref e0) (C := RJx4a65c) (T := TJx4a65c) (N := 3) hx hb hts hi_Jx4a65c_grow_92f84_Jx4a65c hown hK hP k4 hk4 rfl 1 (by decide) (hts (.fieldLink RJx4a65c 9 "java/util/ArrayList" "elementData" "[Ljava/lang/Object;") (by decide +kernel)) (fun _ h9 => h9) rfl dJx4a65c_grow_92f84_11 ?_
    refine va_gets hx hb eZ hS hown (hts (.fieldLink RJx4a65c 39 "java/util/ArrayList" "DEFAULTCAPACITY_EMPTY_ELEMENTDATA" "[Ljava/lang/Object;") (by decide +kernel)) (fun _ h9 => h9) dJx4a65c_grow_92f84_14 ?_
    refine lv_acmp_eq (rx := some e0) (ry := some e0) (tgt := 45) hx hb dJx4a65c_grow_92f84_17 (by decide) (fun c5 => ?_) (fun c5 => ?_)
    · refine lv_aload_n hx hb dJx4a65c_grow_92f84_45 rfl (lv_at hl 1 rfl) ?_
      refine lv_bipush (v := 10) hx hb dJx4a65c_grow_92f84_46 (by decide +kernel) ?_
      refine lv_iload_n hx hb dJx4a65c_grow_92f84_48 rfl (lv_at hl 2 rfl) ?_
      refine va_mmax hx hb (hml.trans hl.1.symm) hown (hts (.methodLink RJx4a65c 79 Lib.Math.max.name) (by decide +kernel)) (hts (.static Lib.Math.max.name) (by decide +kernel)) (hts (.initialized "java/lang/Math") (by decide +kernel)) (hts (.code Lib.Math.max.name Lib.Math.max.code 2 (some .int)) (by decide +kernel)) (Nat.le_of_ble_eq_true rfl) (Nat.le_of_ble_eq_true rfl) (Nat.zero_le _) (Nat.zero_le _) dJx4a65c_grow_92f84_49 ?_
      have l32_10 : (10 : Int32).toInt = 10 := rfl
      have i6 := mmax_i (10 : Int32) x1
      have mqa7 : (if (10 : Int32) < x1 then x1 else (10 : Int32)).toNatClampNeg ≤ 10 := clamp_le (by omega) (by omega)
      refine va_newq (C := "java/lang/Object") hx hb hown (hts (.classLink RJx4a65c 7 "java/lang/Object") (by decide +kernel)) (hN (.arrayOver (.object "java/lang/Object")) (by decide +kernel)) hK hP hD hS hA (N' := (if (10 : Int32) < x1 then x1 else (10 : Int32)).toNatClampNeg) (nneg_i (by omega)) (rfl) (Nat.le_trans (Nat.mul_le_mul_right _ mqa7) (by decide)) (Nat.le_of_ble_eq_true rfl) (Nat.le_trans (Nat.add_le_add_left mqa7 _) (Nat.le_of_ble_eq_true rfl)) dJx4a65c_grow_92f84_52 (fun qa7 cqa7 H hK2 hP2 hD2 hS => ?_)
      obtain rfl : cqa7 = cy 7 := cls_22 hK hK2
      have hqa7 : qa7 ∉ S.L := nw_q hD2
      have e9 := wNw (cy := cy) (X := X) (S := S) (a := qa7) (k := 22) (z := (if (10 : Int32) < x1 then x1 else (10 : Int32)).toNatClampNeg) (f := fun _ => 0) (g := fun _ => none) hqa7 rfl
      obtain ⟨S8, hS8⟩ : ∃ z, S.nw qa7 22 ((if (10 : Int32) < x1 then x1 else (10 : Int32)).toNatClampNeg) (fun _ => 0) (fun _ => none) = z := ⟨_, rfl⟩
      have hP : va_P D vwCl (X ++ PL cy S8) H := by rw [← hS8, ← e9]; exact hP2
      have hD : va_D A (X ++ PL cy S8) := by rw [← hS8, ← e9]; exact hD2
      have xe9 : ext S S8 := by rw [← hS8]; exact ext.nw hqa7
      have t10 : stp [(14, 1), (114, 11)] [] (qa7 :: []) S S8 := by rw [← hS8]; exact t0.nw hqa7 (Or.inl (by decide))
      have k11 : (S8.I o1 2).toInt = (S.I o1 2).toInt := by rw [← hS8]; exact congrArg Int32.toInt (nw_Io hqa7 h_o1.1)
      refine W.widen (k := 1) (n := 10) (Nat.le_of_ble_eq_true rfl) (Nat.add_le_add_left mqa7 _) ?_
      have aqa7 : isA S8 qa7 22 := by rw [← hS8]; exact nw_A (Nat.lt_of_le_of_lt mqa7 (by decide))
      have nqa7 : S8.n qa7 = (if (10 : Int32) < x1 then x1 else (10 : Int32)).toNatClampNeg := by rw [← hS8]; exact nw_n
      have rqa7 : ∀ j, S8.r qa7 j = none := by rw [← hS8]; exact fun j => congrFun (up_qq (f := S.r)) j
      have fqa7 : ∀ j, S8.F qa7 j = none := by rw [← hS8]; exact nw_F
      have bqa7 : qa7 ∉ S.L := fun e => hqa7 e
      have e9 := gh_PL (cy := cy) (X := X) (S := S8) (a := qa7) (j := 0) (v := some 11) aqa7.2.1 (by decide)
      have hP2 := hP
      have hD2 := hD
      rw [e9] at hP2 hD2
      replace e9 := Eq.refl (X ++ PL cy (S8.sF qa7 0 (some 11)))
      obtain ⟨S12, hS12⟩ : ∃ z, S8.sF qa7 0 (some 11) = z := ⟨_, rfl⟩
      have hP : va_P D vwCl (X ++ PL cy S12) H := by rw [← hS12, ← e9]; exact hP2
      have hD : va_D A (X ++ PL cy S12) := by rw [← hS12, ← e9]; exact hD2
      have xe13 : ext S8 S12 := by rw [← hS12]; exact ext.sF (fqa7 0)
      have t14 : stp [(14, 1), (114, 11)] [] [] S S12 := by rw [← hS12]; exact (t10.F 0 11 List.mem_cons_self (Or.inr bqa7) (fqa7 0)).un (okAt.of_22 (S := S8.sF qa7 0 (some 11)) aqa7.2.1 (fun k i g _ e => by rw [show (S8.sF qa7 0 (some 11)).r qa7 i = none from rqa7 i] at e; cases e))
      have k15 : (S12.I o1 2).toInt = (S8.I o1 2).toInt := by rw [← hS12]; rfl
      have gqa7 : S12.F qa7 0 = some 11 := by rw [← hS12]; exact sF_eq
      have rqa7 : ∀ j, S12.r qa7 j = none := by rw [← hS12]; exact rqa7
      refine lv_dup_x1 hx hb dJx4a65c_grow_92f84_55 rfl rfl ?_
      obtain ⟨k16, gk16, hk16⟩ := wGt (cy := cy) X S12 ((xe9.tr xe13).A h_o1).1 ((xe9.tr xe13).A h_o1).2.1
      refine va_put (D := D) (ci := 3) (v := .ref qa7) (ty := (tyJx4a65c 1)) (C := RJx4a65c) (T := TJx4a65c) (N := 3) hx hb hts hi_Jx4a65c_grow_92f84_Jx4a65c tyJx4a65c tyJx4a65c_ok nmJx4a65c hown hK hP hD hS k16 hk16 rfl 1 (by decide) (hts (.fieldLink RJx4a65c 9 "java/util/ArrayList" "elementData" "[Ljava/lang/Object;") (by decide +kernel)) (fun _ h9 => h9) rfl (by decide +kernel) (rfl) (rfl) (Nat.le_of_ble_eq_true rfl) dJx4a65c_grow_92f84_56 (fun H locs hP2 hD2 hS => ?_)
      have e9 := wPuF (cy := cy) (j := 1) (v := (some qa7)) hD ((xe9.tr xe13).A h_o1).1 ((xe9.tr xe13).A h_o1).2.1 gk16 rfl
      obtain ⟨S17, hS17⟩ : ∃ z, S12.sF o1 1 (some qa7) = z := ⟨_, rfl⟩
      have hP : va_P D vwCl (X ++ PL cy S17) H := by rw [← hS17, ← e9]; exact hP2
      have hD : va_D A (X ++ PL cy S17) := by rw [← hS17, ← e9]; exact hD2
      have xe18 : ext S12 S17 := by rw [← hS17]; exact ext.sL ((xe9.tr xe13).A h_o1)
      have t19 : stp [(14, 1), (114, 11)] [] [] S S17 := by rw [← hS17]; exact t14.L qa7 ((xe9.tr xe13).A h_o1) (by decide) (ok14_row ((xe9.tr xe13).A h_o1) ((t14.x.n h_o1).trans hg) (xe13.A aqa7) (by have h9 := cl_int (i := (if (10 : Int32) < x1 then x1 else (10 : Int32))) (by omega); have h8 := ((xe13.n aqa7).trans nqa7); omega) gqa7 (by have h9 := cl_int (i := (if (10 : Int32) < x1 then x1 else (10 : Int32))) (by omega); have h8 := ((xe13.n aqa7).trans nqa7); omega) (fun i hi => absurd hi (by omega))) (by rw [(show S12.n o1 = 11 from (t14.x.n h_o1).trans hg)]; decide)
      have k20 : (S17.I o1 2).toInt = (S12.I o1 2).toInt := by rw [← hS17]; rfl
      have F21 : S17.F o1 1 = some qa7 := by rw [← hS17]; exact sF_eq
      have h8 := cl_int (i := (if (10 : Int32) < x1 then x1 else (10 : Int32))) (by omega)
      have h8 := cl_int (i := (if (10 : Int32) < x1 then x1 else (10 : Int32))) (by omega)
      have h8 := cl_int (i := (if (10 : Int32) < x1 then x1 else (10 : Int32))) (by omega)
      have h8 := cl_int (i := (if (10 : Int32) < x1 then x1 else (10 : Int32))) (by omega)
      have h8 := cl_int (i := (if (10 : Int32) < x1 then x1 else (10 : Int32))) (by omega)
      have h8 := cl_int (i := (if (10 : Int32) < x1 then x1 else (10 : Int32))) (by omega)
      refine W.widen (k := 1) (n := 10) (Nat.le_of_ble_eq_true rfl) (Nat.le_of_ble_eq_true rfl) ?_
      exact W.aret (v := .ref qa7) hx hb hr (Or.inr ⟨_, rfl⟩) (Or.inr ⟨_, rfl⟩) (fun t ht hW9 => ⟨⟨some qa7, S17, rfl, ⟨qa7, rfl, t19, (F21), (by have h9 := (((xe13.tr xe18).n aqa7).trans nqa7); rw [h9]; omega), ((xe18.F (xe13.A aqa7) (by decide) gqa7)), (by omega), ((t19.x.n h_o1).trans hg), ((fun i hi => absurd hi (by omega))), (xe18.A (xe13.A aqa7))⟩, wd_end hP hK hD ht hW9.alike⟩, hS.F ht⟩) hS.2.2 dJx4a65c_grow_92f84_59 hlocks
    · exact absurd rfl c5
set_option maxHeartbeats 4000000 in
set_option maxRecDepth 100000 in
theorem c_Jx4a65c_grow_d5877_hA (l : Launch) {e0 mi : Nat} {D : va_G} {cy : Nat → ClassId} {X : va_W} (S : wPS) (sz : Nat) (o1 : Nat) (h_o1 : isA S o1 14) (hW : wtB S []) (hE9 : S.F o1 1 = some e0) (hs : (S.I o1 2).toInt = 0) (hg : S.n o1 = 11) : Met l yJx4a65c_grow_d5877 wsJx4a65c_grow_d5877 ({ frames := 2, cells := 1, slots := 10, locals := 37 }) (va_Pc [.ref o1] (fun U => U.heap.size = sz ∧ WD D cy X (fun _ => True) S U ∧ NW U ∧ OU e0 mi (va_A (X ++ PL cy S) sz) U U.heap)) (va_Qq (fun r (u : wPS) => ∃ a : Nat, r = some a ∧ stp [(14, 1), (114, 11)] [] [] S u ∧ u.F o1 1 = some a ∧ ((S.I o1 2).toInt < u.n a ∧ u.n a ≤ 40) ∧ u.F a 0 = some 11 ∧ (u.I o1 2).toInt = (S.I o1 2).toInt ∧ u.n o1 = 11 ∧ (∀ i : Nat, (i : Int) < (S.I o1 2).toInt → u.r a i = S.r (S.f o1 1) i) ∧ isA u a 22) (fun u t => WD D cy X (va_A (X ++ PL cy S) sz) u t) (va_A (X ++ PL cy S) sz)) 1 10 (va_A (X ++ PL cy S) sz) := by
  refine Met.ofW (cc := cJx4a65c_grow_d5877) (maxL := 1) (ret := (some (.array (.object "java/lang/Object")))) (by decide) rfl ?_
  intro p e s m args below meth c s₁ B hml hv
  obtain ⟨rfl, hsz, ⟨hP, hK, hD0⟩, hN, hOU⟩ := hv
  have hx := B.exec
  have hb := B.bytes
  have hr := B.returns
  have hts := atoms_spec (ws := wsJx4a65c_grow_d5877) B.pre
  have hown : s.vm.findClass RJx4a65c = some m.cls := findClass_of_methodNamed (x := yJx4a65c_grow_d5877) B.named
  have hlocks := B.notSynchronized
  subst hsz
  have hD := hD0.self (sz := s.heap.size)
  generalize hAe : va_A (X ++ PL cy S) s.heap.size = A at hD hOU ⊢
  have hA : ∀ q : Nat, s.heap.size ≤ q → A q := fun q h => by rw [← hAe]; exact Or.inr h
  have hS : va_S A s.heap s.heap [] := va_S.rf
  have hl := lv_entry ([.ref o1]) (n := 1) (Nat.le_of_ble_eq_true rfl)
  rw [lg_entry_eq]
  generalize (lg_sl ([.ref o1]) ++ List.replicate (1 - (lg_sl ([.ref o1])).length) Slot.unset).toArray = ls at hl ⊢
  have hl : lv_has ls 1 [(0, .ref o1)] := hl
  obtain ⟨⟨ga, gZ, gX, gl, gA⟩, ⟨sa9, sZ, sX, sl9, sA⟩, cZ, eZ, eX, el, eA, hMi, hDc, ⟨pf, pZ⟩⟩ := id hOU
  have t0 : stp [(14, 1), (114, 11)] [] [] S S := stp.rf hW
  refine lv_aload_n hx hb dJx4a65c_grow_d5877_0 rfl (lv_at hl 0 rfl) ?_
  refine lv_aload_n hx hb dJx4a65c_grow_d5877_1 rfl (lv_at hl 0 rfl) ?_
  obtain ⟨k1, gk1, hk1⟩ := wGt (cy := cy) X S h_o1.1 h_o1.2.1
  refine va_get (D := D) (ci := 3) (v := .int (S.I o1 2)) (C := RJx4a65c) (T := TJx4a65c) (N := 3) hx hb hts hi_Jx4a65c_grow_d5877_Jx4a65c hown hK hP k1 hk1 rfl 2 (by decide) (hts (.fieldLink RJx4a65c 48 "java/util/ArrayList" "size" "I") (by decide +kernel)) (fun _ h9 => h9) rfl dJx4a65c_grow_d5877_2 ?_
  refine lv_iconst (v := 1) hx hb dJx4a65c_grow_d5877_5 (by decide) ?_
  refine lv_iadd hx hb dJx4a65c_grow_d5877_6 ?_
  have l32_1 : (1 : Int32).toInt = 1 := rfl
  have i2 : ((S.I o1 2) + (1 : Int32)).toInt = (S.I o1 2).toInt + 1 := t_addr (n := 1) rfl (by omega)
  have hFc := free_all hD hS hA
  obtain ⟨k3, gk3, hk3⟩ := wGt (cy := cy) X S h_o1.1 h_o1.2.1
  refine va_callq (va_runV (As := [.int ((S.I o1 2) + (1 : Int32))]) (rest := []) ⟨hx, hb, hml, hown, hts⟩ (c_Jx4a65c_grow_92f84_hA l (e0 := e0) (mi := mi) (cy := cy) (X := X) (D := D) S _ o1 h_o1 ((S.I o1 2) + (1 : Int32)) (hW) hE9 hs (by omega) hg) (cwV 1 hts gJx4a65c_grow_d5877_Jx4a65c_grow_92f84 rfl rfl rfl hd_Jx4a65c_grow_92f84 ⟨Nat.le_of_ble_eq_true rfl, Nat.le_of_ble_eq_true rfl⟩) (pVo (va_recv hK hP (q := (RJx4a65c, TJx4a65c, 3)) (ci := 3) (q0 := k3) rfl hk3) hP hK hD hN hOU hS hFc) rfl rfl hl.1 rfl (lv_room (Nat.le_of_ble_eq_true rfl)) dJx4a65c_grow_d5877_7 ⟨Nat.le_of_ble_eq_true rfl, Nat.le_of_ble_eq_true rfl⟩) hS (fun q _ h => hFc q h) hFc (fun r4 u t H1 locs ht hvm hw hB hz1 hk1 hS => ?_)
  obtain ⟨r4, rfl, w5, y6, y7, y8, y9, y10, y11, o12⟩ := hw
  obtain ⟨hP, hD⟩ := wd_post hFc ht hB
  generalize H1 = H at hP hS ⊢
  obtain ⟨S13, rfl⟩ : ∃ z, z = u := ⟨_, rfl⟩
  have t14 : stp [(14, 1), (114, 11)] [] [] S S13 := t0.tr w5 (by decide) (fun _ q => absurd q List.not_mem_nil)
  have xe15 : ext S S13 := w5.x
  refine W.eq (g2 := F0 m 10 ls [.ref r4]) rfl ?_
  refine W.widen (k := 1) (n := 10) (Nat.le_of_ble_eq_true rfl) (Nat.le_of_ble_eq_true rfl) ?_
  exact W.aret (v := .ref r4) hx hb hr (Or.inr ⟨_, rfl⟩) (Or.inr ⟨_, rfl⟩) (fun t ht hW9 => ⟨⟨some r4, S13, rfl, ⟨r4, rfl, t14, (y6), (y7), (y8), (y9), (y10), (y11), o12⟩, wd_end hP hK hD ht hW9.alike⟩, hS.F ht⟩) hS.2.2 dJx4a65c_grow_d5877_10 hlocks
set_option maxHeartbeats 4000000 in
set_option maxRecDepth 100000 in
theorem c_Jx4a65c_add_72be8_hA (l : Launch) {e0 mi : Nat} {D : va_G} {cy : Nat → ClassId} {X : va_W} (S : wPS) (sz : Nat) (o1 : Nat) (h_o1 : isA S o1 14) (o2 : Nat) (h_o2 : isA S o2 11) (x1 : Int32) (hW : wtB S []) (hE9 : S.F o1 1 = some e0) (hs : (S.I o1 2).toInt = 0) (hx : x1.toInt = (S.I o1 2).toInt) (hg : S.n o1 = 11) : Met l yJx4a65c_add_72be8 wsJx4a65c_add_72be8 ({ frames := 3, cells := 1, slots := 10, locals := 57 }) (va_Pc [.ref o1, .ref o2, .ref e0, .int x1] (fun U => U.heap.size = sz ∧ WD D cy X (fun _ => True) S U ∧ NW U ∧ OU e0 mi (va_A (X ++ PL cy S) sz) U U.heap)) (va_Qv (fun (u : wPS) => stp [(14, 1), (14, 2), (22, 101), (114, 11), (122, 11)] [] [] S u ∧ (u.I o1 2).toInt = (S.I o1 2).toInt + 1 ∧ (∃ a : Nat, u.F o1 1 = some a ∧ isA u a 22 ∧ u.r a x1.toNatClampNeg = some o2 ∧ ∀ i : Nat, (i : Int) < (S.I o1 2).toInt → u.r a i = S.r (S.f o1 1) i)) (fun u t => WD D cy X (va_A (X ++ PL cy S) sz) u t) (va_A (X ++ PL cy S) sz)) 1 10 (va_A (X ++ PL cy S) sz) := by
  refine Met.ofW (cc := cJx4a65c_add_72be8) (maxL := 4) (ret := none) (by decide) rfl ?_
  intro p e s m args below meth c s₁ B hml hv
  obtain ⟨rfl, hsz, ⟨hP, hK, hD0⟩, hN, hOU⟩ := hv
  have hx := B.exec
  have hb := B.bytes
  have hr := B.returns
  have hts := atoms_spec (ws := wsJx4a65c_add_72be8) B.pre
  have hown : s.vm.findClass RJx4a65c = some m.cls := findClass_of_methodNamed (x := yJx4a65c_add_72be8) B.named
  have hlocks := B.notSynchronized
  subst hsz
  have hD := hD0.self (sz := s.heap.size)
  generalize hAe : va_A (X ++ PL cy S) s.heap.size = A at hD hOU ⊢
  have hA : ∀ q : Nat, s.heap.size ≤ q → A q := fun q h => by rw [← hAe]; exact Or.inr h
  have hS : va_S A s.heap s.heap [] := va_S.rf
  have hl := lv_entry ([.ref o1, .ref o2, .ref e0, .int x1]) (n := 4) (Nat.le_of_ble_eq_true rfl)
  rw [lg_entry_eq]
  generalize (lg_sl ([.ref o1, .ref o2, .ref e0, .int x1]) ++ List.replicate (4 - (lg_sl ([.ref o1, .ref o2, .ref e0, .int x1])).length) Slot.unset).toArray = ls at hl ⊢
  have hl : lv_has ls 4 [(0, .ref o1), (1, .ref o2), (2, .ref e0), (3, .int x1)] := hl
  obtain ⟨⟨ga, gZ, gX, gl, gA⟩, ⟨sa9, sZ, sX, sl9, sA⟩, cZ, eZ, eX, el, eA, hMi, hDc, ⟨pf, pZ⟩⟩ := id hOU
  have t0 : stp [(14, 1), (14, 2), (22, 101), (114, 11), (122, 11)] [] [] S S := stp.rf hW
  refine lv_iload_n hx hb dJx4a65c_add_72be8_0 rfl (lv_at hl 3 rfl) ?_
  refine lv_aload_n hx hb dJx4a65c_add_72be8_1 rfl (lv_at hl 2 rfl) ?_
  refine ou_len hx hb eX el eA hS dJx4a65c_add_72be8_2 ?_
  refine W.eq (g2 := F0 m 3 ls [.int (0 : Int32), .int x1]) rfl ?_
  refine lv_icmp_ne (tgt := 11) hx hb dJx4a65c_add_72be8_3 (by decide) (fun c1 => ?_) (fun c1 => ?_)
  · have c1i : ¬ x1.toInt = 0 := neq_v rfl rfl c1
    exact False.elim (by omega)
  · have c1i : x1.toInt = 0 := eq_v rfl rfl c1
    refine lv_aload_n hx hb dJx4a65c_add_72be8_6 rfl (lv_at hl 0 rfl) ?_
    have hFc := free_all hD hS hA
    obtain ⟨k2, gk2, hk2⟩ := wGt (cy := cy) X S h_o1.1 h_o1.2.1
    refine va_callq (va_runV (As := []) (rest := []) ⟨hx, hb, hml, hown, hts⟩ (c_Jx4a65c_grow_d5877_hA l (e0 := e0) (mi := mi) (cy := cy) (X := X) (D := D) S _ o1 h_o1 (hW) hE9 hs hg) (cwV 0 hts gJx4a65c_add_72be8_Jx4a65c_grow_d5877 rfl rfl rfl hd_Jx4a65c_grow_d5877 ⟨Nat.le_of_ble_eq_true rfl, Nat.le_of_ble_eq_true rfl⟩) (pVo (va_recv hK hP (q := (RJx4a65c, TJx4a65c, 3)) (ci := 3) (q0 := k2) rfl hk2) hP hK hD hN hOU hS hFc) rfl rfl hl.1 rfl (lv_room (Nat.le_of_ble_eq_true rfl)) dJx4a65c_add_72be8_7 ⟨Nat.le_of_ble_eq_true rfl, Nat.le_of_ble_eq_true rfl⟩) hS (fun q _ h => hFc q h) hFc (fun r3 u t H1 locs ht hvm hw hB hz1 hk1 hS => ?_)
    obtain ⟨r3, rfl, w4, y5, y6, y7, y8, y9, y10, o11⟩ := hw
    obtain ⟨hP, hD⟩ := wd_post hFc ht hB
    generalize H1 = H at hP hS ⊢
    obtain ⟨S12, rfl⟩ : ∃ z, z = u := ⟨_, rfl⟩
    have t13 : stp [(14, 1), (14, 2), (22, 101), (114, 11), (122, 11)] [] [] S S12 := t0.tr w4 (by decide) (fun _ q => absurd q List.not_mem_nil)
    have xe14 : ext S S12 := w4.x
    have k15 : (S12.I o1 2).toInt = (S.I o1 2).toInt := by rw [(w4.fR o1 h_o1.1 List.not_mem_nil).1 2 (by rw [h_o1.2.1]; decide) |>.1]
    refine W.eq (g2 := F0 m 10 ls [.ref r3]) rfl ?_
    have q1 := y5
    have q2 := y6
    have q3 := y7
    have q4 := y8
    have q5 := y9
    have q9r := y10
    refine lv_astore_n (lv' := [(2, .ref r3), (0, .ref o1), (1, .ref o2), (3, .int x1)]) hx hb dJx4a65c_add_72be8_10 rfl hl (by decide) rfl (fun ls hl => ?_)
    have k14 := ((t13.w.at (xe14.A h_o1) List.not_mem_nil).to_14 (xe14.A h_o1).2.1)
    refine lv_aload_n hx hb dJx4a65c_add_72be8_11 rfl (lv_at hl 0 rfl) ?_
    refine lv_iload_n hx hb dJx4a65c_add_72be8_12 rfl (lv_at hl 3 rfl) ?_
    refine lv_aload_n hx hb dJx4a65c_add_72be8_13 rfl (lv_at hl 2 rfl) ?_
    have q6 := o11
    have q7 := (xe14.A h_o2)
    obtain ⟨k16, gk16, hk16⟩ := wGt (cy := cy) X S12 (xe14.A h_o2).1 (xe14.A h_o2).2.1
    obtain ⟨k17, gk17, hk17⟩ := wGt (cy := cy) X S12 o11.1 o11.2.1
    refine va_astqO (E := "java/lang/Object") hx hb hK hP hD hS k17 7 k16 15 hk17 rfl (hN (.castable "HobhouseModel$Hob" "java/lang/Object") (by decide +kernel)) hk16 rfl (inb (m := S12.n r3) rfl (by omega) (by omega)) dJx4a65c_add_72be8_14 (fun H locs hP2 hD2 hS => ?_)
    have e9 := wPur (cy := cy) (f := (va_up (S12.r r3) x1.toNatClampNeg (some o2))) hD o11.1 o11.2.1 gk17 rfl
    obtain ⟨S18, hS18⟩ : ∃ z, S12.sr r3 (va_up (S12.r r3) x1.toNatClampNeg (some o2)) = z := ⟨_, rfl⟩
    have hP : va_P D vwCl (X ++ PL cy S18) H := by rw [← hS18, ← e9]; exact hP2
    have hD : va_D A (X ++ PL cy S18) := by rw [← hS18, ← e9]; exact hD2
    have xe19 : ext S12 S18 := by rw [← hS18]; exact ext.sr _ _ _
    have t20 : stp [(14, 1), (14, 2), (22, 101), (114, 11), (122, 11)] [] [] S S18 := by rw [← hS18]; exact t13.r o11 (by decide) (xe14.A h_o2) (Or.inr (Or.inr (Or.inr (Or.inl ⟨rfl, q3⟩)))) List.not_mem_nil (by decide)
    have k21 : (S18.I o1 2).toInt = (S12.I o1 2).toInt := by rw [← hS18]; rfl
    have g22 : S18.r r3 x1.toNatClampNeg = some o2 := by rw [← hS18]; exact sr_eq
    refine lv_aload_n hx hb dJx4a65c_add_72be8_15 rfl (lv_at hl 1 rfl) ?_
    refine lv_iload_n hx hb dJx4a65c_add_72be8_16 rfl (lv_at hl 3 rfl) ?_
    refine lv_iconst (v := 1) hx hb dJx4a65c_add_72be8_17 (by decide) ?_
    refine lv_iadd hx hb dJx4a65c_add_72be8_18 ?_
    have i19 : (x1 + (1 : Int32)).toInt = x1.toInt + 1 := t_addr (n := 1) rfl (by omega)
    obtain ⟨k23, gk23, hk23⟩ := wGt (cy := cy) X S18 (xe19.A (xe14.A h_o1)).1 (xe19.A (xe14.A h_o1)).2.1
    refine va_put (D := D) (ci := 3) (v := .int (x1 + (1 : Int32))) (ty := .int) (C := RJx4a65c) (T := TJx4a65c) (N := 3) hx hb hts hi_Jx4a65c_add_72be8_Jx4a65c tyJx4a65c tyJx4a65c_ok nmJx4a65c hown hK hP hD hS k23 hk23 rfl 2 (by decide) (hts (.fieldLink RJx4a65c 48 "java/util/ArrayList" "size" "I") (by decide +kernel)) (fun _ h9 => h9) rfl (by decide +kernel) (rfl) (rfl) (Nat.le_of_ble_eq_true rfl) dJx4a65c_add_72be8_19 (fun H locs hP2 hD2 hS => ?_)
    have e9 := wPuI (cy := cy) (j := 2) (v := (x1 + (1 : Int32))) hD (xe19.A (xe14.A h_o1)).1 (xe19.A (xe14.A h_o1)).2.1 gk23 rfl
    obtain ⟨S24, hS24⟩ : ∃ z, S18.sI o1 2 (x1 + (1 : Int32)) = z := ⟨_, rfl⟩
    have hP : va_P D vwCl (X ++ PL cy S24) H := by rw [← hS24, ← e9]; exact hP2
    have hD : va_D A (X ++ PL cy S24) := by rw [← hS24, ← e9]; exact hD2
    have xe25 : ext S18 S24 := by rw [← hS24]; exact ext.sI _ _ _ _
    have t26 : stp [(14, 1), (14, 2), (22, 101), (114, 11), (122, 11)] [] [] S S24 := by rw [← hS24]; exact t20.I 2 (x1 + (1 : Int32)) (xe19.A (xe14.A h_o1)) (by decide) ((by rw [← hS18]; exact al_push k14 q1 q6 (by omega) q3 q5 (by omega) (by omega) q7 (by omega))) (Or.inr ⟨by omega, by rw [(show S18.n o1 = 11 from (t20.x.n h_o1).trans hg)]; decide⟩)
    have k27 : (S24.I o1 2).toInt = (x1 + (1 : Int32)).toInt := by rw [← hS24, sI_eq]
    refine W.widen (k := 1) (n := 10) (Nat.le_of_ble_eq_true rfl) (Nat.le_of_ble_eq_true rfl) ?_
    exact W.vret hx hb hr (fun t ht hW9 => ⟨⟨S24, rfl, ⟨t26, (by omega), (⟨r3, (by rw [← hS24]; rw [← hS18]; exact q1), ((xe19.tr xe25).A o11), (by rw [← hS24]; exact g22), (fun i hi => by rw [← hS24]; show S18.r r3 i = _; rw [← hS18, sr_up_ne (by have h8 := cl_int (i := x1) (by omega); omega)]; exact q9r i hi)⟩)⟩, wd_end hP hK hD ht hW9.alike⟩, hS.F ht⟩) hS.2.2 dJx4a65c_add_72be8_22 hlocks
set_option maxHeartbeats 4000000 in
set_option maxRecDepth 100000 in
theorem c_Jx4a65c_add_9ea2d_hA (l : Launch) {e0 mi : Nat} {D : va_G} {cy : Nat → ClassId} {X : va_W} (S : wPS) (sz : Nat) (o1 : Nat) (h_o1 : isA S o1 14) (o2 : Nat) (h_o2 : isA S o2 11) (hW : wtB S []) (hE9 : S.F o1 1 = some e0) (hs : (S.I o1 2).toInt = 0) (hg : S.n o1 = 11) : Met l yJx4a65c_add_9ea2d wsJx4a65c_add_9ea2d ({ frames := 6, cells := 1, slots := 40, locals := 150 }) (va_Pc [.ref o1, .ref o2] (fun U => U.heap.size = sz ∧ WD D cy X (fun _ => True) S U ∧ NW U ∧ OU e0 mi (va_A (X ++ PL cy S) sz) U U.heap)) (va_Qi (fun r (u : wPS) => stp [(14, 0), (14, 1), (14, 2), (22, 101), (114, 11), (122, 11)] [] [] S u ∧ (u.I o1 2).toInt = (S.I o1 2).toInt + 1 ∧ (∃ a : Nat, u.F o1 1 = some a ∧ isA u a 22 ∧ u.r a (S.I o1 2).toNatClampNeg = some o2 ∧ ∀ i : Nat, (i : Int) < (S.I o1 2).toInt → u.r a i = S.r (S.f o1 1) i)) (fun u t => WD D cy X (va_A (X ++ PL cy S) sz) u t) (va_A (X ++ PL cy S) sz)) 1 40 (va_A (X ++ PL cy S) sz) := by
  refine Met.ofW (cc := cJx4a65c_add_9ea2d) (maxL := 2) (ret := (some .boolean)) (by decide) rfl ?_
  intro p e s m args below meth c s₁ B hml hv
  obtain ⟨rfl, hsz, ⟨hP, hK, hD0⟩, hN, hOU⟩ := hv
  have hx := B.exec
  have hb := B.bytes
  have hr := B.returns
  have hts := atoms_spec (ws := wsJx4a65c_add_9ea2d) B.pre
  have hown : s.vm.findClass RJx4a65c = some m.cls := findClass_of_methodNamed (x := yJx4a65c_add_9ea2d) B.named
  have hlocks := B.notSynchronized
  subst hsz
  have hD := hD0.self (sz := s.heap.size)
  generalize hAe : va_A (X ++ PL cy S) s.heap.size = A at hD hOU ⊢
  have hA : ∀ q : Nat, s.heap.size ≤ q → A q := fun q h => by rw [← hAe]; exact Or.inr h
  have hS : va_S A s.heap s.heap [] := va_S.rf
  have hl := lv_entry ([.ref o1, .ref o2]) (n := 2) (Nat.le_of_ble_eq_true rfl)
  rw [lg_entry_eq]
  generalize (lg_sl ([.ref o1, .ref o2]) ++ List.replicate (2 - (lg_sl ([.ref o1, .ref o2])).length) Slot.unset).toArray = ls at hl ⊢
  have hl : lv_has ls 2 [(0, .ref o1), (1, .ref o2)] := hl
  obtain ⟨⟨ga, gZ, gX, gl, gA⟩, ⟨sa9, sZ, sX, sl9, sA⟩, cZ, eZ, eX, el, eA, hMi, hDc, ⟨pf, pZ⟩⟩ := id hOU
  have t0 : stp [(14, 0), (14, 1), (14, 2), (22, 101), (114, 11), (122, 11)] [] [] S S := stp.rf hW
  refine lv_aload_n hx hb dJx4a65c_add_9ea2d_0 rfl (lv_at hl 0 rfl) ?_
  refine lv_dup hx hb dJx4a65c_add_9ea2d_1 rfl ?_
  obtain ⟨k1, gk1, hk1⟩ := wGt (cy := cy) X S h_o1.1 h_o1.2.1
  refine va_get (D := D) (ci := 3) (v := .int (S.I o1 0)) (C := RJx4a65c) (T := TJx4a65c) (N := 3) hx hb hts hi_Jx4a65c_add_9ea2d_Jx4a65c hown hK hP k1 hk1 rfl 0 (by decide) (hts (.fieldLink RJx4a65c 63 "java/util/ArrayList" "modCount" "I") (by decide +kernel)) (fun x9 h9 => u_same (hts (.sameField "java/util/ArrayList" "java/util/AbstractList" "modCount" "I") (by decide +kernel)) x9 h9) rfl dJx4a65c_add_9ea2d_2 ?_
  refine lv_iconst (v := 1) hx hb dJx4a65c_add_9ea2d_5 (by decide) ?_
  refine lv_iadd hx hb dJx4a65c_add_9ea2d_6 ?_
  obtain ⟨k2, gk2, hk2⟩ := wGt (cy := cy) X S h_o1.1 h_o1.2.1
  refine va_put (D := D) (ci := 3) (v := .int ((S.I o1 0) + (1 : Int32))) (ty := .int) (C := RJx4a65c) (T := TJx4a65c) (N := 3) hx hb hts hi_Jx4a65c_add_9ea2d_Jx4a65c tyJx4a65c tyJx4a65c_ok nmJx4a65c hown hK hP hD hS k2 hk2 rfl 0 (by decide) (hts (.fieldLink RJx4a65c 63 "java/util/ArrayList" "modCount" "I") (by decide +kernel)) (fun x9 h9 => u_same (hts (.sameField "java/util/ArrayList" "java/util/AbstractList" "modCount" "I") (by decide +kernel)) x9 h9) rfl (by decide +kernel) (rfl) (rfl) (Nat.le_of_ble_eq_true rfl) dJx4a65c_add_9ea2d_7 (fun H locs hP2 hD2 hS => ?_)
  have e9 := wPuI (cy := cy) (j := 0) (v := ((S.I o1 0) + (1 : Int32))) hD h_o1.1 h_o1.2.1 gk2 rfl
  obtain ⟨S3, hS3⟩ : ∃ z, S.sI o1 0 ((S.I o1 0) + (1 : Int32)) = z := ⟨_, rfl⟩
  have hP : va_P D vwCl (X ++ PL cy S3) H := by rw [← hS3, ← e9]; exact hP2
  have hD : va_D A (X ++ PL cy S3) := by rw [← hS3, ← e9]; exact hD2
  have xe4 : ext S S3 := by rw [← hS3]; exact ext.sI _ _ _ _
  have t5 : stp [(14, 0), (14, 1), (14, 2), (22, 101), (114, 11), (122, 11)] [] [] S S3 := by rw [← hS3]; exact t0.I 0 ((S.I o1 0) + (1 : Int32)) h_o1 (by decide) (trivial) (Or.inl (by decide))
  have k6 : (S3.I o1 2).toInt = (S.I o1 2).toInt := by rw [← hS3]; exact congrArg Int32.toInt (sI_I (by rintro ⟨e1, e2⟩; exact absurd e2 (by decide)))
  refine lv_aload_n hx hb dJx4a65c_add_9ea2d_10 rfl (lv_at hl 0 rfl) ?_
  refine lv_aload_n hx hb dJx4a65c_add_9ea2d_11 rfl (lv_at hl 1 rfl) ?_
  refine lv_aload_n hx hb dJx4a65c_add_9ea2d_12 rfl (lv_at hl 0 rfl) ?_
  have F7 : S3.F o1 1 = some e0 := (by rw [← hS3]; exact hE9)
  obtain ⟨k8, gk8, hk8⟩ := wGt (cy := cy) X S3 (xe4.A h_o1).1 (xe4.A h_o1).2.1
  simp only [kE, F7] at hk8
  refine va_get (D := D) (ci := 3) (v := .ref e0) (C := RJx4a65c) (T := TJx4a65c) (N := 3) hx hb hts hi_Jx4a65c_add_9ea2d_Jx4a65c hown hK hP k8 hk8 rfl 1 (by decide) (hts (.fieldLink RJx4a65c 9 "java/util/ArrayList" "elementData" "[Ljava/lang/Object;") (by decide +kernel)) (fun _ h9 => h9) rfl dJx4a65c_add_9ea2d_13 ?_
  refine lv_aload_n hx hb dJx4a65c_add_9ea2d_16 rfl (lv_at hl 0 rfl) ?_
  obtain ⟨k9, gk9, hk9⟩ := wGt (cy := cy) X S3 (xe4.A h_o1).1 (xe4.A h_o1).2.1
  refine va_get (D := D) (ci := 3) (v := .int (S3.I o1 2)) (C := RJx4a65c) (T := TJx4a65c) (N := 3) hx hb hts hi_Jx4a65c_add_9ea2d_Jx4a65c hown hK hP k9 hk9 rfl 2 (by decide) (hts (.fieldLink RJx4a65c 48 "java/util/ArrayList" "size" "I") (by decide +kernel)) (fun _ h9 => h9) rfl dJx4a65c_add_9ea2d_17 ?_
  have hFc := free_all hD hS hA
  obtain ⟨k10, gk10, hk10⟩ := wGt (cy := cy) X S3 (xe4.A h_o1).1 (xe4.A h_o1).2.1
  refine va_callv (va_runV (As := [.ref o2, .ref e0, .int (S3.I o1 2)]) (rest := []) ⟨hx, hb, hml, hown, hts⟩ (c_Jx4a65c_add_72be8_hA l (e0 := e0) (mi := mi) (cy := cy) (X := X) (D := D) S3 _ o1 (xe4.A h_o1) o2 (xe4.A h_o2) (S3.I o1 2) (t5.w) (by rw [← hS3]; exact hE9) (by omega) (by omega) ((t5.x.n h_o1).trans hg)) (cwV 3 hts gJx4a65c_add_9ea2d_Jx4a65c_add_72be8 rfl rfl rfl hd_Jx4a65c_add_72be8 ⟨Nat.le_of_ble_eq_true rfl, Nat.le_of_ble_eq_true rfl⟩) (pVo (va_recv hK hP (q := (RJx4a65c, TJx4a65c, 3)) (ci := 3) (q0 := k10) rfl hk10) hP hK hD hN hOU hS hFc) rfl rfl hl.1 rfl (lv_room (Nat.le_of_ble_eq_true rfl)) dJx4a65c_add_9ea2d_20 ⟨Nat.le_of_ble_eq_true rfl, Nat.le_of_ble_eq_true rfl⟩) hS (fun q _ h => hFc q h) hFc (fun u t H1 locs ht hvm hw hB hz1 hk1 hS => ?_)
  obtain ⟨w12, y13, y14⟩ := hw
  obtain ⟨hP, hD⟩ := wd_post hFc ht hB
  generalize H1 = H at hP hS ⊢
  obtain ⟨S15, rfl⟩ : ∃ z, z = u := ⟨_, rfl⟩
  have t16 : stp [(14, 0), (14, 1), (14, 2), (22, 101), (114, 11), (122, 11)] [] [] S S15 := t5.tr w12 (by decide) (fun _ q => absurd q List.not_mem_nil)
  have xe17 : ext S3 S15 := w12.x
  refine lv_iconst (v := 1) hx hb dJx4a65c_add_9ea2d_23 (by decide) ?_
  refine W.widen (k := 1) (n := 40) (Nat.le_of_ble_eq_true rfl) (Nat.le_of_ble_eq_true rfl) ?_
  exact W.zret (v := (1 : Int32)) hx hb hr (by rfl) (fun t ht hW9 => ⟨⟨(1 : Int32), S15, rfl, ⟨t16, (by omega), ((by have h9 := y14; rw [← hS3, sI_ne (S := S) (a := o1) (j := 0) (c := 2) (by decide)] at h9; exact h9))⟩, wd_end hP hK hD ht hW9.alike⟩, hS.F ht⟩) hS.2.2 dJx4a65c_add_9ea2d_24 hlocks
set_option maxHeartbeats 4000000 in
set_option maxRecDepth 100000 in
theorem c_Jx4a65c_grow_92f84_hB (l : Launch) {e0 mi : Nat} {D : va_G} {cy : Nat → ClassId} {X : va_W} (S : wPS) (sz : Nat) (o1 : Nat) (h_o1 : isA S o1 14) (x1 : Int32) (hW : wtB S []) (hp : (S.F o1 1 = some (S.f o1 1) ∧ isA S (S.f o1 1) 22 ∧ (1 ≤ S.n (S.f o1 1) ∧ S.n (S.f o1 1) ≤ 40) ∧ S.F (S.f o1 1) 0 = some (S.n o1) ∧ 0 ≤ (S.I o1 2).toInt ∧ ((S.I o1 2).toInt ≤ S.n (S.f o1 1) ∧ (S.I o1 2).toInt ≤ 20 ∧ (S.n o1 = 11 → (S.I o1 2).toInt ≤ 8)) ∧ ∀ i : Nat, (i : Int) < (S.I o1 2).toInt → ∃ g, S.r (S.f o1 1) i = some g ∧ isA S g (S.n o1))) (hf : (S.I o1 2).toInt = S.n (S.f o1 1) ∧ (S.I o1 2).toInt ≤ 26) (hx : x1.toInt = (S.I o1 2).toInt + 1) (hg : S.n o1 = 11) : Met l yJx4a65c_grow_92f84 wsJx4a65c_grow_92f84 ({ frames := 3, cells := 1, slots := 40, locals := 84 }) (va_Pc [.ref o1, .int x1] (fun U => U.heap.size = sz ∧ WD D cy X (fun _ => True) S U ∧ NW U ∧ OU e0 mi (va_A (X ++ PL cy S) sz) U U.heap)) (va_Qq (fun r (u : wPS) => ∃ a : Nat, r = some a ∧ stp [(14, 1), (114, 11)] [] [] S u ∧ u.F o1 1 = some a ∧ ((S.I o1 2).toInt < u.n a ∧ u.n a ≤ 40) ∧ u.F a 0 = some 11 ∧ (u.I o1 2).toInt = (S.I o1 2).toInt ∧ u.n o1 = 11 ∧ (∀ i : Nat, (i : Int) < (S.I o1 2).toInt → u.r a i = S.r (S.f o1 1) i) ∧ isA u a 22) (fun u t => WD D cy X (va_A (X ++ PL cy S) sz) u t) (va_A (X ++ PL cy S) sz)) 1 40 (va_A (X ++ PL cy S) sz) := by
  refine Met.ofW (cc := cJx4a65c_grow_92f84) (maxL := 4) (ret := (some (.array (.object "java/lang/Object")))) (by decide) rfl ?_
  intro p e s m args below meth c s₁ B hml hv
  obtain ⟨rfl, hsz, ⟨hP, hK, hD0⟩, hN, hOU⟩ := hv
  have hx := B.exec
  have hb := B.bytes
  have hr := B.returns
  have hts := atoms_spec (ws := wsJx4a65c_grow_92f84) B.pre
  have hown : s.vm.findClass RJx4a65c = some m.cls := findClass_of_methodNamed (x := yJx4a65c_grow_92f84) B.named
  have hlocks := B.notSynchronized
  subst hsz
  have hD := hD0.self (sz := s.heap.size)
  generalize hAe : va_A (X ++ PL cy S) s.heap.size = A at hD hOU ⊢
  have hA : ∀ q : Nat, s.heap.size ≤ q → A q := fun q h => by rw [← hAe]; exact Or.inr h
  have hS : va_S A s.heap s.heap [] := va_S.rf
  have hl := lv_entry ([.ref o1, .int x1]) (n := 4) (Nat.le_of_ble_eq_true rfl)
  rw [lg_entry_eq]
  generalize (lg_sl ([.ref o1, .int x1]) ++ List.replicate (4 - (lg_sl ([.ref o1, .int x1])).length) Slot.unset).toArray = ls at hl ⊢
  have hl : lv_has ls 4 [(0, .ref o1), (1, .int x1)] := hl
  have hp3 := hp.2.2.1
  have hp5 := hp.2.2.2.2.1
  have hp6 := hp.2.2.2.2.2.1
  obtain ⟨⟨ga, gZ, gX, gl, gA⟩, ⟨sa9, sZ, sX, sl9, sA⟩, cZ, eZ, eX, el, eA, hMi, hDc, ⟨pf, pZ⟩⟩ := id hOU
  have t0 : stp [(14, 1), (114, 11)] [] [] S S := stp.rf hW
  refine lv_aload_n hx hb dJx4a65c_grow_92f84_0 rfl (lv_at hl 0 rfl) ?_
  have F1 : S.F o1 1 = some (S.f o1 1) := hp.1
  have a2 : isA S (S.f o1 1) 22 := hp.2.1
  have n3 : S.n (S.f o1 1) ≤ 26 := by omega
  obtain ⟨k4, gk4, hk4⟩ := wGt (cy := cy) X S h_o1.1 h_o1.2.1
  simp only [kE, F1] at hk4
  refine va_get (D := D) (ci := 3) (v := .ref (S.f o1 1)) (C := RJx4a65c) (T := TJx4a65c) (N := 3) hx hb hts hi_Jx4a65c_grow_92f84_Jx4a65c hown hK hP k4 hk4 rfl 1 (by decide) (hts (.fieldLink RJx4a65c 9 "java/util/ArrayList" "elementData" "[Ljava/lang/Object;") (by decide +kernel)) (fun _ h9 => h9) rfl dJx4a65c_grow_92f84_1 ?_
  obtain ⟨k5, gk5, hk5⟩ := wGt (cy := cy) X S a2.1 a2.2.1
  have i6 : (nI (S.n (S.f o1 1))).toInt = ((S.n (S.f o1 1) : Nat) : Int) := nI_toInt a2.2.2
  have i7 := a2.2.2
  have i8 := n3
  refine va_alen (D := D) (cl := vwCl) (tys := tyL cy) hx hb hK hP k5 7 hk5 rfl (v := nI (S.n (S.f o1 1))) rfl dJx4a65c_grow_92f84_4 ?_
  refine lv_istore_n (lv' := [(2, .int (nI (S.n (S.f o1 1)))), (0, .ref o1), (1, .int x1)]) hx hb dJx4a65c_grow_92f84_5 rfl hl (by decide) rfl (fun ls hl => ?_)
  refine lv_iload_n hx hb dJx4a65c_grow_92f84_6 rfl (lv_at hl 0 rfl) ?_
  refine lv_if_gt (tgt := 20) hx hb dJx4a65c_grow_92f84_7 (by decide) (fun c9 => ?_) (fun c9 => ?_)
  · have c9i : 0 < (nI (S.n (S.f o1 1))).toInt := lt_v rfl rfl c9
    refine lv_iload_n hx hb dJx4a65c_grow_92f84_20 rfl (lv_at hl 0 rfl) ?_
    refine lv_iload_n hx hb dJx4a65c_grow_92f84_21 rfl (lv_at hl 2 rfl) ?_
    refine lv_iload_n hx hb dJx4a65c_grow_92f84_22 rfl (lv_at hl 0 rfl) ?_
    refine lv_isub hx hb dJx4a65c_grow_92f84_23 ?_
    refine lv_iload_n hx hb dJx4a65c_grow_92f84_24 rfl (lv_at hl 0 rfl) ?_
    refine lv_iconst (v := 1) hx hb dJx4a65c_grow_92f84_25 (by decide) ?_
    refine lv_ishr hx hb dJx4a65c_grow_92f84_26 ?_
    have hs9 := shr1 (x := nI (S.n (S.f o1 1))) (by omega)
    have i10 : (x1 - (nI (S.n (S.f o1 1)))).toInt = x1.toInt - (nI (S.n (S.f o1 1))).toInt := t_sub (by omega)
    have l32_1 : (1 : Int32).toInt = 1 := rfl
    have hFc := free_all hD hS hA
    refine va_calli (va_runS (As := [.int (nI (S.n (S.f o1 1))), .int (x1 - (nI (S.n (S.f o1 1)))), .int ((nI (S.n (S.f o1 1))) >>> ((1 : Int32) &&& 31))]) (rest := []) ⟨hx, hb, hml, hown, hts⟩ (c_J8_newLength_cabcc l (cy := cy) (X := X) (D := D) S _ (nI (S.n (S.f o1 1))) (x1 - (nI (S.n (S.f o1 1)))) ((nI (S.n (S.f o1 1))) >>> ((1 : Int32) &&& 31)) (by omega) (by omega) (by omega)) (va_cwS 3 hts gJx4a65c_grow_92f84_J8_newLength_cabcc rfl rfl rfl (by decide +kernel) ⟨Nat.le_of_ble_eq_true rfl, Nat.le_of_ble_eq_true rfl⟩) (pS hP hK hD hN) rfl rfl hl.1 rfl (lv_room (Nat.le_of_ble_eq_true rfl)) dJx4a65c_grow_92f84_27 ⟨(Nat.zero_le _), (Nat.zero_le _)⟩) hS (fun q _ h => hFc q h) hFc (fun r11 u t H1 locs ht hvm hw hB hz1 hk1 hS => ?_)
    have y12 := hw
    obtain ⟨hP, hD⟩ := wd_post hFc ht hB
    generalize H1 = H at hP hS ⊢
    refine lv_istore_n (lv' := [(3, .int r11), (2, .int (nI (S.n (S.f o1 1)))), (0, .ref o1), (1, .int x1)]) hx hb dJx4a65c_grow_92f84_30 rfl hl (by decide) rfl (fun ls hl => ?_)
    refine lv_aload_n hx hb dJx4a65c_grow_92f84_31 rfl (lv_at hl 2 rfl) ?_
    refine lv_aload_n hx hb dJx4a65c_grow_92f84_32 rfl (lv_at hl 2 rfl) ?_
    obtain ⟨k13, gk13, hk13⟩ := wGt (cy := cy) X S h_o1.1 h_o1.2.1
    simp only [kE, F1] at hk13
    refine va_get (D := D) (ci := 3) (v := .ref (S.f o1 1)) (C := RJx4a65c) (T := TJx4a65c) (N := 3) hx hb hts hi_Jx4a65c_grow_92f84_Jx4a65c hown hK hP k13 hk13 rfl 1 (by decide) (hts (.fieldLink RJx4a65c 9 "java/util/ArrayList" "elementData" "[Ljava/lang/Object;") (by decide +kernel)) (fun _ h9 => h9) rfl dJx4a65c_grow_92f84_33 ?_
    refine lv_iload_n hx hb dJx4a65c_grow_92f84_36 rfl (lv_at hl 0 rfl) ?_
    have hFc := free_all hD hS hA
    refine va_callq (va_runS (As := [.ref (S.f o1 1), .int r11]) (rest := [.ref o1]) ⟨hx, hb, hml, hown, hts⟩ (c_J7_copyOf_1904c_h l (e0 := e0) (mi := mi) (cy := cy) (X := X) (D := D) S _ (S.f o1 1) a2 r11 (hW) (by omega) (by omega) (hg ▸ hp.2.2.2.1)) (va_cwS 2 hts gJx4a65c_grow_92f84_J7_copyOf_1904c rfl rfl rfl (by decide +kernel) ⟨Nat.le_of_ble_eq_true rfl, Nat.le_of_ble_eq_true rfl⟩) (pSo hP hK hD hN hOU hS hFc) rfl rfl hl.1 rfl (lv_room (Nat.le_of_ble_eq_true rfl)) dJx4a65c_grow_92f84_37 ⟨Nat.le_of_ble_eq_true rfl, Nat.le_of_ble_eq_true rfl⟩) hS (fun q _ h => hFc q h) hFc (fun r14 u t H1 locs ht hvm hw hB hz1 hk1 hS => ?_)
    obtain ⟨r14, rfl, w15, y16, y17, y18, o19⟩ := hw
    obtain ⟨hP, hD⟩ := wd_post hFc ht hB
    generalize H1 = H at hP hS ⊢
    obtain ⟨S20, rfl⟩ : ∃ z, z = u := ⟨_, rfl⟩
    have t21 : stp [(14, 1), (114, 11)] [] [] S S20 := t0.tr w15 (by decide) (fun _ q => absurd q List.not_mem_nil)
    have xe22 : ext S S20 := w15.x
    have k23 : (S20.I o1 2).toInt = (S.I o1 2).toInt := by rw [(w15.fR o1 h_o1.1 List.not_mem_nil).1 2 (by rw [h_o1.2.1]; decide) |>.1]
    refine W.eq (g2 := F0 m 40 ls [.ref r14, .ref o1]) rfl ?_
    refine lv_dup_x1 hx hb dJx4a65c_grow_92f84_40 rfl rfl ?_
    obtain ⟨k24, gk24, hk24⟩ := wGt (cy := cy) X S20 (xe22.A h_o1).1 (xe22.A h_o1).2.1
    refine va_put (D := D) (ci := 3) (v := .ref r14) (ty := (tyJx4a65c 1)) (C := RJx4a65c) (T := TJx4a65c) (N := 3) hx hb hts hi_Jx4a65c_grow_92f84_Jx4a65c tyJx4a65c tyJx4a65c_ok nmJx4a65c hown hK hP hD hS k24 hk24 rfl 1 (by decide) (hts (.fieldLink RJx4a65c 9 "java/util/ArrayList" "elementData" "[Ljava/lang/Object;") (by decide +kernel)) (fun _ h9 => h9) rfl (by decide +kernel) (rfl) (rfl) (Nat.le_of_ble_eq_true rfl) dJx4a65c_grow_92f84_41 (fun H locs hP2 hD2 hS => ?_)
    have e9 := wPuF (cy := cy) (j := 1) (v := (some r14)) hD (xe22.A h_o1).1 (xe22.A h_o1).2.1 gk24 rfl
    obtain ⟨S25, hS25⟩ : ∃ z, S20.sF o1 1 (some r14) = z := ⟨_, rfl⟩
    have hP : va_P D vwCl (X ++ PL cy S25) H := by rw [← hS25, ← e9]; exact hP2
    have hD : va_D A (X ++ PL cy S25) := by rw [← hS25, ← e9]; exact hD2
    have xe26 : ext S20 S25 := by rw [← hS25]; exact ext.sL (xe22.A h_o1)
    have t27 : stp [(14, 1), (114, 11)] [] [] S S25 := by rw [← hS25]; exact t21.L r14 (xe22.A h_o1) (by decide) (ok14_row (xe22.A h_o1) ((t21.x.n h_o1).trans hg) o19 (by have h9 := cl_int (i := r11) (by omega); rw [y16]; omega) y17 (by have h9 := cl_int (i := r11) (by omega); rw [y16]; omega) (fun i hi => by obtain ⟨g9, e9, h9⟩ := hp.2.2.2.2.2.2 i (by omega); rw [hg] at h9; exact ⟨g9, (y18 i (by omega)).trans e9, t21.x.A h9⟩)) (by rw [(show S20.n o1 = 11 from (t21.x.n h_o1).trans hg)]; decide)
    have k28 : (S25.I o1 2).toInt = (S20.I o1 2).toInt := by rw [← hS25]; rfl
    have F29 : S25.F o1 1 = some r14 := by rw [← hS25]; exact sF_eq
    have h8 := cl_int (i := r11) (by omega)
    have h8 := cl_int (i := r11) (by omega)
    have h8 := cl_int (i := r11) (by omega)
    have h8 := cl_int (i := r11) (by omega)
    have h8 := cl_int (i := r11) (by omega)
    have h8 := cl_int (i := r11) (by omega)
    refine W.widen (k := 1) (n := 40) (Nat.le_of_ble_eq_true rfl) (Nat.le_of_ble_eq_true rfl) ?_
    exact W.aret (v := .ref r14) hx hb hr (Or.inr ⟨_, rfl⟩) (Or.inr ⟨_, rfl⟩) (fun t ht hW9 => ⟨⟨some r14, S25, rfl, ⟨r14, rfl, t27, (F29), (by have h9 := ((xe26.n o19).trans y16); rw [h9]; omega), ((xe26.F o19 (by decide) y17)), (by omega), ((t27.x.n h_o1).trans hg), ((by rw [← hS25]; exact fun i hi => y18 i (by omega))), (xe26.A o19)⟩, wd_end hP hK hD ht hW9.alike⟩, hS.F ht⟩) hS.2.2 dJx4a65c_grow_92f84_44 hlocks
  · have c9i : (nI (S.n (S.f o1 1))).toInt ≤ 0 := nlt_v rfl rfl c9
    exact False.elim (by omega)
set_option maxHeartbeats 4000000 in
set_option maxRecDepth 100000 in
theorem c_Jx4a65c_grow_d5877_hB (l : Launch) {e0 mi : Nat} {D : va_G} {cy : Nat → ClassId} {X : va_W} (S : wPS) (sz : Nat) (o1 : Nat) (h_o1 : isA S o1 14) (hW : wtB S []) (hp : (S.F o1 1 = some (S.f o1 1) ∧ isA S (S.f o1 1) 22 ∧ (1 ≤ S.n (S.f o1 1) ∧ S.n (S.f o1 1) ≤ 40) ∧ S.F (S.f o1 1) 0 = some (S.n o1) ∧ 0 ≤ (S.I o1 2).toInt ∧ ((S.I o1 2).toInt ≤ S.n (S.f o1 1) ∧ (S.I o1 2).toInt ≤ 20 ∧ (S.n o1 = 11 → (S.I o1 2).toInt ≤ 8)) ∧ ∀ i : Nat, (i : Int) < (S.I o1 2).toInt → ∃ g, S.r (S.f o1 1) i = some g ∧ isA S g (S.n o1))) (hf : (S.I o1 2).toInt = S.n (S.f o1 1) ∧ (S.I o1 2).toInt ≤ 26) (hg : S.n o1 = 11) : Met l yJx4a65c_grow_d5877 wsJx4a65c_grow_d5877 ({ frames := 4, cells := 1, slots := 40, locals := 107 }) (va_Pc [.ref o1] (fun U => U.heap.size = sz ∧ WD D cy X (fun _ => True) S U ∧ NW U ∧ OU e0 mi (va_A (X ++ PL cy S) sz) U U.heap)) (va_Qq (fun r (u : wPS) => ∃ a : Nat, r = some a ∧ stp [(14, 1), (114, 11)] [] [] S u ∧ u.F o1 1 = some a ∧ ((S.I o1 2).toInt < u.n a ∧ u.n a ≤ 40) ∧ u.F a 0 = some 11 ∧ (u.I o1 2).toInt = (S.I o1 2).toInt ∧ u.n o1 = 11 ∧ (∀ i : Nat, (i : Int) < (S.I o1 2).toInt → u.r a i = S.r (S.f o1 1) i) ∧ isA u a 22) (fun u t => WD D cy X (va_A (X ++ PL cy S) sz) u t) (va_A (X ++ PL cy S) sz)) 1 40 (va_A (X ++ PL cy S) sz) := by
  refine Met.ofW (cc := cJx4a65c_grow_d5877) (maxL := 1) (ret := (some (.array (.object "java/lang/Object")))) (by decide) rfl ?_
  intro p e s m args below meth c s₁ B hml hv
  obtain ⟨rfl, hsz, ⟨hP, hK, hD0⟩, hN, hOU⟩ := hv
  have hx := B.exec
  have hb := B.bytes
  have hr := B.returns
  have hts := atoms_spec (ws := wsJx4a65c_grow_d5877) B.pre
  have hown : s.vm.findClass RJx4a65c = some m.cls := findClass_of_methodNamed (x := yJx4a65c_grow_d5877) B.named
  have hlocks := B.notSynchronized
  subst hsz
  have hD := hD0.self (sz := s.heap.size)
  generalize hAe : va_A (X ++ PL cy S) s.heap.size = A at hD hOU ⊢
  have hA : ∀ q : Nat, s.heap.size ≤ q → A q := fun q h => by rw [← hAe]; exact Or.inr h
  have hS : va_S A s.heap s.heap [] := va_S.rf
  have hl := lv_entry ([.ref o1]) (n := 1) (Nat.le_of_ble_eq_true rfl)
  rw [lg_entry_eq]
  generalize (lg_sl ([.ref o1]) ++ List.replicate (1 - (lg_sl ([.ref o1])).length) Slot.unset).toArray = ls at hl ⊢
  have hl : lv_has ls 1 [(0, .ref o1)] := hl
  have hp3 := hp.2.2.1
  have hp5 := hp.2.2.2.2.1
  have hp6 := hp.2.2.2.2.2.1
  obtain ⟨⟨ga, gZ, gX, gl, gA⟩, ⟨sa9, sZ, sX, sl9, sA⟩, cZ, eZ, eX, el, eA, hMi, hDc, ⟨pf, pZ⟩⟩ := id hOU
  have t0 : stp [(14, 1), (114, 11)] [] [] S S := stp.rf hW
  refine lv_aload_n hx hb dJx4a65c_grow_d5877_0 rfl (lv_at hl 0 rfl) ?_
  refine lv_aload_n hx hb dJx4a65c_grow_d5877_1 rfl (lv_at hl 0 rfl) ?_
  obtain ⟨k1, gk1, hk1⟩ := wGt (cy := cy) X S h_o1.1 h_o1.2.1
  refine va_get (D := D) (ci := 3) (v := .int (S.I o1 2)) (C := RJx4a65c) (T := TJx4a65c) (N := 3) hx hb hts hi_Jx4a65c_grow_d5877_Jx4a65c hown hK hP k1 hk1 rfl 2 (by decide) (hts (.fieldLink RJx4a65c 48 "java/util/ArrayList" "size" "I") (by decide +kernel)) (fun _ h9 => h9) rfl dJx4a65c_grow_d5877_2 ?_
  refine lv_iconst (v := 1) hx hb dJx4a65c_grow_d5877_5 (by decide) ?_
  refine lv_iadd hx hb dJx4a65c_grow_d5877_6 ?_
  have l32_1 : (1 : Int32).toInt = 1 := rfl
  have i2 : ((S.I o1 2) + (1 : Int32)).toInt = (S.I o1 2).toInt + 1 := t_addr (n := 1) rfl (by omega)
  have hFc := free_all hD hS hA
  obtain ⟨k3, gk3, hk3⟩ := wGt (cy := cy) X S h_o1.1 h_o1.2.1
  refine va_callq (va_runV (As := [.int ((S.I o1 2) + (1 : Int32))]) (rest := []) ⟨hx, hb, hml, hown, hts⟩ (c_Jx4a65c_grow_92f84_hB l (e0 := e0) (mi := mi) (cy := cy) (X := X) (D := D) S _ o1 h_o1 ((S.I o1 2) + (1 : Int32)) (hW) hp hf (by omega) hg) (cwV 1 hts gJx4a65c_grow_d5877_Jx4a65c_grow_92f84 rfl rfl rfl hd_Jx4a65c_grow_92f84 ⟨Nat.le_of_ble_eq_true rfl, Nat.le_of_ble_eq_true rfl⟩) (pVo (va_recv hK hP (q := (RJx4a65c, TJx4a65c, 3)) (ci := 3) (q0 := k3) rfl hk3) hP hK hD hN hOU hS hFc) rfl rfl hl.1 rfl (lv_room (Nat.le_of_ble_eq_true rfl)) dJx4a65c_grow_d5877_7 ⟨Nat.le_of_ble_eq_true rfl, Nat.le_of_ble_eq_true rfl⟩) hS (fun q _ h => hFc q h) hFc (fun r4 u t H1 locs ht hvm hw hB hz1 hk1 hS => ?_)
  obtain ⟨r4, rfl, w5, y6, y7, y8, y9, y10, y11, o12⟩ := hw
  obtain ⟨hP, hD⟩ := wd_post hFc ht hB
  generalize H1 = H at hP hS ⊢
  obtain ⟨S13, rfl⟩ : ∃ z, z = u := ⟨_, rfl⟩
  have t14 : stp [(14, 1), (114, 11)] [] [] S S13 := t0.tr w5 (by decide) (fun _ q => absurd q List.not_mem_nil)
  have xe15 : ext S S13 := w5.x
  refine W.eq (g2 := F0 m 10 ls [.ref r4]) rfl ?_
  refine W.widen (k := 1) (n := 40) (Nat.le_of_ble_eq_true rfl) (Nat.le_of_ble_eq_true rfl) ?_
  exact W.aret (v := .ref r4) hx hb hr (Or.inr ⟨_, rfl⟩) (Or.inr ⟨_, rfl⟩) (fun t ht hW9 => ⟨⟨some r4, S13, rfl, ⟨r4, rfl, t14, (y6), (y7), (y8), (y9), (y10), (y11), o12⟩, wd_end hP hK hD ht hW9.alike⟩, hS.F ht⟩) hS.2.2 dJx4a65c_grow_d5877_10 hlocks
set_option maxHeartbeats 4000000 in
set_option maxRecDepth 100000 in
theorem c_Jx4a65c_add_72be8_hB (l : Launch) {e0 mi : Nat} {D : va_G} {cy : Nat → ClassId} {X : va_W} (S : wPS) (sz : Nat) (o1 : Nat) (h_o1 : isA S o1 14) (o2 : Nat) (h_o2 : isA S o2 11) (o3 : Nat) (h_o3 : isA S o3 22) (x1 : Int32) (hW : wtB S []) (h3 : S.F o1 1 = some o3) (hp : (S.F o1 1 = some (S.f o1 1) ∧ isA S (S.f o1 1) 22 ∧ (1 ≤ S.n (S.f o1 1) ∧ S.n (S.f o1 1) ≤ 40) ∧ S.F (S.f o1 1) 0 = some (S.n o1) ∧ 0 ≤ (S.I o1 2).toInt ∧ ((S.I o1 2).toInt ≤ S.n (S.f o1 1) ∧ (S.I o1 2).toInt ≤ 20 ∧ (S.n o1 = 11 → (S.I o1 2).toInt ≤ 8)) ∧ ∀ i : Nat, (i : Int) < (S.I o1 2).toInt → ∃ g, S.r (S.f o1 1) i = some g ∧ isA S g (S.n o1))) (hb : (S.I o1 2).toInt ≤ 7) (hx : x1.toInt = (S.I o1 2).toInt) (hg : S.n o1 = 11) : Met l yJx4a65c_add_72be8 wsJx4a65c_add_72be8 ({ frames := 5, cells := 1, slots := 40, locals := 127 }) (va_Pc [.ref o1, .ref o2, .ref o3, .int x1] (fun U => U.heap.size = sz ∧ WD D cy X (fun _ => True) S U ∧ NW U ∧ OU e0 mi (va_A (X ++ PL cy S) sz) U U.heap)) (va_Qv (fun (u : wPS) => stp [(14, 1), (14, 2), (22, 101), (114, 11), (122, 11)] [] [] S u ∧ (u.I o1 2).toInt = (S.I o1 2).toInt + 1 ∧ (∃ a : Nat, u.F o1 1 = some a ∧ isA u a 22 ∧ u.r a x1.toNatClampNeg = some o2 ∧ ∀ i : Nat, (i : Int) < (S.I o1 2).toInt → u.r a i = S.r (S.f o1 1) i)) (fun u t => WD D cy X (va_A (X ++ PL cy S) sz) u t) (va_A (X ++ PL cy S) sz)) 1 40 (va_A (X ++ PL cy S) sz) := by
  refine Met.ofW (cc := cJx4a65c_add_72be8) (maxL := 4) (ret := none) (by decide) rfl ?_
  intro p e s m args below meth c s₁ B hml hv
  obtain ⟨rfl, hsz, ⟨hP, hK, hD0⟩, hN, hOU⟩ := hv
  have hx := B.exec
  have hb := B.bytes
  have hr := B.returns
  have hts := atoms_spec (ws := wsJx4a65c_add_72be8) B.pre
  have hown : s.vm.findClass RJx4a65c = some m.cls := findClass_of_methodNamed (x := yJx4a65c_add_72be8) B.named
  have hlocks := B.notSynchronized
  subst hsz
  have hD := hD0.self (sz := s.heap.size)
  generalize hAe : va_A (X ++ PL cy S) s.heap.size = A at hD hOU ⊢
  have hA : ∀ q : Nat, s.heap.size ≤ q → A q := fun q h => by rw [← hAe]; exact Or.inr h
  have hS : va_S A s.heap s.heap [] := va_S.rf
  have hl := lv_entry ([.ref o1, .ref o2, .ref o3, .int x1]) (n := 4) (Nat.le_of_ble_eq_true rfl)
  rw [lg_entry_eq]
  generalize (lg_sl ([.ref o1, .ref o2, .ref o3, .int x1]) ++ List.replicate (4 - (lg_sl ([.ref o1, .ref o2, .ref o3, .int x1])).length) Slot.unset).toArray = ls at hl ⊢
  have hl : lv_has ls 4 [(0, .ref o1), (1, .ref o2), (2, .ref o3), (3, .int x1)] := hl
  have hp3 := hp.2.2.1
  have hp5 := hp.2.2.2.2.1
  have hp6 := hp.2.2.2.2.2.1
  have e3 : S.f o1 1 = o3 := f_of h3
  have hp6b := hp6
  have hp3b := hp3
  rw [e3] at hp6b hp3b
  obtain ⟨⟨ga, gZ, gX, gl, gA⟩, ⟨sa9, sZ, sX, sl9, sA⟩, cZ, eZ, eX, el, eA, hMi, hDc, ⟨pf, pZ⟩⟩ := id hOU
  have t0 : stp [(14, 1), (14, 2), (22, 101), (114, 11), (122, 11)] [] [] S S := stp.rf hW
  refine lv_iload_n hx hb dJx4a65c_add_72be8_0 rfl (lv_at hl 3 rfl) ?_
  refine lv_aload_n hx hb dJx4a65c_add_72be8_1 rfl (lv_at hl 2 rfl) ?_
  obtain ⟨k1, gk1, hk1⟩ := wGt (cy := cy) X S h_o3.1 h_o3.2.1
  have i2 : (nI (S.n o3)).toInt = ((S.n o3 : Nat) : Int) := nI_toInt h_o3.2.2
  have i3 := h_o3.2.2
  refine va_alen (D := D) (cl := vwCl) (tys := tyL cy) hx hb hK hP k1 7 hk1 rfl (v := nI (S.n o3)) rfl dJx4a65c_add_72be8_2 ?_
  refine lv_icmp_ne (tgt := 11) hx hb dJx4a65c_add_72be8_3 (by decide) (fun c4 => ?_) (fun c4 => ?_)
  · have c4i : ¬ x1.toInt = (nI (S.n o3)).toInt := neq_v rfl rfl c4
    have q1 := h3
    have q2 : (S.I o1 2).toInt < S.n o3 ∧ S.n o3 ≤ 40 := by omega
    have q3 : S.F o3 0 = some 11 := by rw [← e3, ← hg]; exact hp.2.2.2.1
    have q4 : (S.I o1 2).toInt = (S.I o1 2).toInt := rfl
    have q5 := hg
    have q9r : ∀ i : Nat, (i : Int) < (S.I o1 2).toInt → S.r o3 i = S.r (S.f o1 1) i := fun i _ => by rw [e3]
    have k14 := ((hW.at h_o1 List.not_mem_nil).to_14 h_o1.2.1)
    refine lv_aload_n hx hb dJx4a65c_add_72be8_11 rfl (lv_at hl 2 rfl) ?_
    refine lv_iload_n hx hb dJx4a65c_add_72be8_12 rfl (lv_at hl 3 rfl) ?_
    refine lv_aload_n hx hb dJx4a65c_add_72be8_13 rfl (lv_at hl 1 rfl) ?_
    have q6 := h_o3
    have q7 := h_o2
    obtain ⟨k5, gk5, hk5⟩ := wGt (cy := cy) X S h_o2.1 h_o2.2.1
    obtain ⟨k6, gk6, hk6⟩ := wGt (cy := cy) X S h_o3.1 h_o3.2.1
    refine va_astqO (E := "java/lang/Object") hx hb hK hP hD hS k6 7 k5 15 hk6 rfl (hN (.castable "HobhouseModel$Hob" "java/lang/Object") (by decide +kernel)) hk5 rfl (inb (m := S.n o3) rfl (by omega) (by omega)) dJx4a65c_add_72be8_14 (fun H locs hP2 hD2 hS => ?_)
    have e9 := wPur (cy := cy) (f := (va_up (S.r o3) x1.toNatClampNeg (some o2))) hD h_o3.1 h_o3.2.1 gk6 rfl
    obtain ⟨S7, hS7⟩ : ∃ z, S.sr o3 (va_up (S.r o3) x1.toNatClampNeg (some o2)) = z := ⟨_, rfl⟩
    have hP : va_P D vwCl (X ++ PL cy S7) H := by rw [← hS7, ← e9]; exact hP2
    have hD : va_D A (X ++ PL cy S7) := by rw [← hS7, ← e9]; exact hD2
    have xe8 : ext S S7 := by rw [← hS7]; exact ext.sr _ _ _
    have t9 : stp [(14, 1), (14, 2), (22, 101), (114, 11), (122, 11)] [] [] S S7 := by rw [← hS7]; exact t0.r h_o3 (by decide) h_o2 (Or.inr (Or.inr (Or.inr (Or.inl ⟨rfl, q3⟩)))) List.not_mem_nil (by decide)
    have k10 : (S7.I o1 2).toInt = (S.I o1 2).toInt := by rw [← hS7]; rfl
    have g11 : S7.r o3 x1.toNatClampNeg = some o2 := by rw [← hS7]; exact sr_eq
    refine lv_aload_n hx hb dJx4a65c_add_72be8_15 rfl (lv_at hl 0 rfl) ?_
    refine lv_iload_n hx hb dJx4a65c_add_72be8_16 rfl (lv_at hl 3 rfl) ?_
    refine lv_iconst (v := 1) hx hb dJx4a65c_add_72be8_17 (by decide) ?_
    refine lv_iadd hx hb dJx4a65c_add_72be8_18 ?_
    have i19 : (x1 + (1 : Int32)).toInt = x1.toInt + 1 := t_addr (n := 1) rfl (by omega)
    obtain ⟨k12, gk12, hk12⟩ := wGt (cy := cy) X S7 (xe8.A h_o1).1 (xe8.A h_o1).2.1
    refine va_put (D := D) (ci := 3) (v := .int (x1 + (1 : Int32))) (ty := .int) (C := RJx4a65c) (T := TJx4a65c) (N := 3) hx hb hts hi_Jx4a65c_add_72be8_Jx4a65c tyJx4a65c tyJx4a65c_ok nmJx4a65c hown hK hP hD hS k12 hk12 rfl 2 (by decide) (hts (.fieldLink RJx4a65c 48 "java/util/ArrayList" "size" "I") (by decide +kernel)) (fun _ h9 => h9) rfl (by decide +kernel) (rfl) (rfl) (Nat.le_of_ble_eq_true rfl) dJx4a65c_add_72be8_19 (fun H locs hP2 hD2 hS => ?_)
    have e9 := wPuI (cy := cy) (j := 2) (v := (x1 + (1 : Int32))) hD (xe8.A h_o1).1 (xe8.A h_o1).2.1 gk12 rfl
    obtain ⟨S13, hS13⟩ : ∃ z, S7.sI o1 2 (x1 + (1 : Int32)) = z := ⟨_, rfl⟩
    have hP : va_P D vwCl (X ++ PL cy S13) H := by rw [← hS13, ← e9]; exact hP2
    have hD : va_D A (X ++ PL cy S13) := by rw [← hS13, ← e9]; exact hD2
    have xe14 : ext S7 S13 := by rw [← hS13]; exact ext.sI _ _ _ _
    have t15 : stp [(14, 1), (14, 2), (22, 101), (114, 11), (122, 11)] [] [] S S13 := by rw [← hS13]; exact t9.I 2 (x1 + (1 : Int32)) (xe8.A h_o1) (by decide) ((by rw [← hS7]; exact al_push k14 q1 q6 (by omega) q3 q5 (by omega) (by omega) q7 (by omega))) (Or.inr ⟨by omega, by rw [(show S7.n o1 = 11 from (t9.x.n h_o1).trans hg)]; decide⟩)
    have k16 : (S13.I o1 2).toInt = (x1 + (1 : Int32)).toInt := by rw [← hS13, sI_eq]
    refine W.widen (k := 1) (n := 40) (Nat.le_of_ble_eq_true rfl) (Nat.le_of_ble_eq_true rfl) ?_
    exact W.vret hx hb hr (fun t ht hW9 => ⟨⟨S13, rfl, ⟨t15, (by omega), (⟨o3, (by rw [← hS13]; rw [← hS7]; exact q1), ((xe8.tr xe14).A h_o3), (by rw [← hS13]; exact g11), (fun i hi => by rw [← hS13]; show S7.r o3 i = _; rw [← hS7, sr_up_ne (by have h8 := cl_int (i := x1) (by omega); omega)]; exact q9r i hi)⟩)⟩, wd_end hP hK hD ht hW9.alike⟩, hS.F ht⟩) hS.2.2 dJx4a65c_add_72be8_22 hlocks
  · have c4i : x1.toInt = (nI (S.n o3)).toInt := eq_v rfl rfl c4
    refine lv_aload_n hx hb dJx4a65c_add_72be8_6 rfl (lv_at hl 0 rfl) ?_
    have hFc := free_all hD hS hA
    obtain ⟨k17, gk17, hk17⟩ := wGt (cy := cy) X S h_o1.1 h_o1.2.1
    refine va_callq (va_runV (As := []) (rest := []) ⟨hx, hb, hml, hown, hts⟩ (c_Jx4a65c_grow_d5877_hB l (e0 := e0) (mi := mi) (cy := cy) (X := X) (D := D) S _ o1 h_o1 (hW) hp (by rw [e3]; omega) hg) (cwV 0 hts gJx4a65c_add_72be8_Jx4a65c_grow_d5877 rfl rfl rfl hd_Jx4a65c_grow_d5877 ⟨Nat.le_of_ble_eq_true rfl, Nat.le_of_ble_eq_true rfl⟩) (pVo (va_recv hK hP (q := (RJx4a65c, TJx4a65c, 3)) (ci := 3) (q0 := k17) rfl hk17) hP hK hD hN hOU hS hFc) rfl rfl hl.1 rfl (lv_room (Nat.le_of_ble_eq_true rfl)) dJx4a65c_add_72be8_7 ⟨Nat.le_of_ble_eq_true rfl, Nat.le_of_ble_eq_true rfl⟩) hS (fun q _ h => hFc q h) hFc (fun r18 u t H1 locs ht hvm hw hB hz1 hk1 hS => ?_)
    obtain ⟨r18, rfl, w19, y20, y21, y22, y23, y24, y25, o26⟩ := hw
    obtain ⟨hP, hD⟩ := wd_post hFc ht hB
    generalize H1 = H at hP hS ⊢
    obtain ⟨S27, rfl⟩ : ∃ z, z = u := ⟨_, rfl⟩
    have t28 : stp [(14, 1), (14, 2), (22, 101), (114, 11), (122, 11)] [] [] S S27 := t0.tr w19 (by decide) (fun _ q => absurd q List.not_mem_nil)
    have xe29 : ext S S27 := w19.x
    have k30 : (S27.I o1 2).toInt = (S.I o1 2).toInt := by rw [(w19.fR o1 h_o1.1 List.not_mem_nil).1 2 (by rw [h_o1.2.1]; decide) |>.1]
    refine W.eq (g2 := F0 m 10 ls [.ref r18]) rfl ?_
    have q1 := y20
    have q2 := y21
    have q3 := y22
    have q4 := y23
    have q5 := y24
    have q9r := y25
    refine lv_astore_n (lv' := [(2, .ref r18), (0, .ref o1), (1, .ref o2), (3, .int x1)]) hx hb dJx4a65c_add_72be8_10 rfl hl (by decide) rfl (fun ls hl => ?_)
    have k14 := ((t28.w.at (xe29.A h_o1) List.not_mem_nil).to_14 (xe29.A h_o1).2.1)
    refine lv_aload_n hx hb dJx4a65c_add_72be8_11 rfl (lv_at hl 0 rfl) ?_
    refine lv_iload_n hx hb dJx4a65c_add_72be8_12 rfl (lv_at hl 3 rfl) ?_
    refine lv_aload_n hx hb dJx4a65c_add_72be8_13 rfl (lv_at hl 2 rfl) ?_
    have q6 := o26
    have q7 := (xe29.A h_o2)
    obtain ⟨k31, gk31, hk31⟩ := wGt (cy := cy) X S27 (xe29.A h_o2).1 (xe29.A h_o2).2.1
    obtain ⟨k32, gk32, hk32⟩ := wGt (cy := cy) X S27 o26.1 o26.2.1
    refine va_astqO (E := "java/lang/Object") hx hb hK hP hD hS k32 7 k31 15 hk32 rfl (hN (.castable "HobhouseModel$Hob" "java/lang/Object") (by decide +kernel)) hk31 rfl (inb (m := S27.n r18) rfl (by omega) (by omega)) dJx4a65c_add_72be8_14 (fun H locs hP2 hD2 hS => ?_)
    have e9 := wPur (cy := cy) (f := (va_up (S27.r r18) x1.toNatClampNeg (some o2))) hD o26.1 o26.2.1 gk32 rfl
    obtain ⟨S33, hS33⟩ : ∃ z, S27.sr r18 (va_up (S27.r r18) x1.toNatClampNeg (some o2)) = z := ⟨_, rfl⟩
    have hP : va_P D vwCl (X ++ PL cy S33) H := by rw [← hS33, ← e9]; exact hP2
    have hD : va_D A (X ++ PL cy S33) := by rw [← hS33, ← e9]; exact hD2
    have xe34 : ext S27 S33 := by rw [← hS33]; exact ext.sr _ _ _
    have t35 : stp [(14, 1), (14, 2), (22, 101), (114, 11), (122, 11)] [] [] S S33 := by rw [← hS33]; exact t28.r o26 (by decide) (xe29.A h_o2) (Or.inr (Or.inr (Or.inr (Or.inl ⟨rfl, q3⟩)))) List.not_mem_nil (by decide)
    have k36 : (S33.I o1 2).toInt = (S27.I o1 2).toInt := by rw [← hS33]; rfl
    have g37 : S33.r r18 x1.toNatClampNeg = some o2 := by rw [← hS33]; exact sr_eq
    refine lv_aload_n hx hb dJx4a65c_add_72be8_15 rfl (lv_at hl 1 rfl) ?_
    refine lv_iload_n hx hb dJx4a65c_add_72be8_16 rfl (lv_at hl 3 rfl) ?_
    refine lv_iconst (v := 1) hx hb dJx4a65c_add_72be8_17 (by decide) ?_
    refine lv_iadd hx hb dJx4a65c_add_72be8_18 ?_
    have i19 : (x1 + (1 : Int32)).toInt = x1.toInt + 1 := t_addr (n := 1) rfl (by omega)
    obtain ⟨k38, gk38, hk38⟩ := wGt (cy := cy) X S33 (xe34.A (xe29.A h_o1)).1 (xe34.A (xe29.A h_o1)).2.1
    refine va_put (D := D) (ci := 3) (v := .int (x1 + (1 : Int32))) (ty := .int) (C := RJx4a65c) (T := TJx4a65c) (N := 3) hx hb hts hi_Jx4a65c_add_72be8_Jx4a65c tyJx4a65c tyJx4a65c_ok nmJx4a65c hown hK hP hD hS k38 hk38 rfl 2 (by decide) (hts (.fieldLink RJx4a65c 48 "java/util/ArrayList" "size" "I") (by decide +kernel)) (fun _ h9 => h9) rfl (by decide +kernel) (rfl) (rfl) (Nat.le_of_ble_eq_true rfl) dJx4a65c_add_72be8_19 (fun H locs hP2 hD2 hS => ?_)
    have e9 := wPuI (cy := cy) (j := 2) (v := (x1 + (1 : Int32))) hD (xe34.A (xe29.A h_o1)).1 (xe34.A (xe29.A h_o1)).2.1 gk38 rfl
    obtain ⟨S39, hS39⟩ : ∃ z, S33.sI o1 2 (x1 + (1 : Int32)) = z := ⟨_, rfl⟩
    have hP : va_P D vwCl (X ++ PL cy S39) H := by rw [← hS39, ← e9]; exact hP2
    have hD : va_D A (X ++ PL cy S39) := by rw [← hS39, ← e9]; exact hD2
    have xe40 : ext S33 S39 := by rw [← hS39]; exact ext.sI _ _ _ _
    have t41 : stp [(14, 1), (14, 2), (22, 101), (114, 11), (122, 11)] [] [] S S39 := by rw [← hS39]; exact t35.I 2 (x1 + (1 : Int32)) (xe34.A (xe29.A h_o1)) (by decide) ((by rw [← hS33]; exact al_push k14 q1 q6 (by omega) q3 q5 (by omega) (by omega) q7 (by omega))) (Or.inr ⟨by omega, by rw [(show S33.n o1 = 11 from (t35.x.n h_o1).trans hg)]; decide⟩)
    have k42 : (S39.I o1 2).toInt = (x1 + (1 : Int32)).toInt := by rw [← hS39, sI_eq]
    refine W.widen (k := 1) (n := 40) (Nat.le_of_ble_eq_true rfl) (Nat.le_of_ble_eq_true rfl) ?_
    exact W.vret hx hb hr (fun t ht hW9 => ⟨⟨S39, rfl, ⟨t41, (by omega), (⟨r18, (by rw [← hS39]; rw [← hS33]; exact q1), ((xe34.tr xe40).A o26), (by rw [← hS39]; exact g37), (fun i hi => by rw [← hS39]; show S33.r r18 i = _; rw [← hS33, sr_up_ne (by have h8 := cl_int (i := x1) (by omega); omega)]; exact q9r i hi)⟩)⟩, wd_end hP hK hD ht hW9.alike⟩, hS.F ht⟩) hS.2.2 dJx4a65c_add_72be8_22 hlocks
set_option maxHeartbeats 4000000 in
set_option maxRecDepth 100000 in
theorem c_Jx4a65c_add_9ea2d_hB (l : Launch) {e0 mi : Nat} {D : va_G} {cy : Nat → ClassId} {X : va_W} (S : wPS) (sz : Nat) (o1 : Nat) (h_o1 : isA S o1 14) (o2 : Nat) (h_o2 : isA S o2 11) (hW : wtB S []) (hp : (S.F o1 1 = some (S.f o1 1) ∧ isA S (S.f o1 1) 22 ∧ (1 ≤ S.n (S.f o1 1) ∧ S.n (S.f o1 1) ≤ 40) ∧ S.F (S.f o1 1) 0 = some (S.n o1) ∧ 0 ≤ (S.I o1 2).toInt ∧ ((S.I o1 2).toInt ≤ S.n (S.f o1 1) ∧ (S.I o1 2).toInt ≤ 20 ∧ (S.n o1 = 11 → (S.I o1 2).toInt ≤ 8)) ∧ ∀ i : Nat, (i : Int) < (S.I o1 2).toInt → ∃ g, S.r (S.f o1 1) i = some g ∧ isA S g (S.n o1))) (hb : (S.I o1 2).toInt ≤ 7) (hg : S.n o1 = 11) : Met l yJx4a65c_add_9ea2d wsJx4a65c_add_9ea2d ({ frames := 6, cells := 1, slots := 40, locals := 150 }) (va_Pc [.ref o1, .ref o2] (fun U => U.heap.size = sz ∧ WD D cy X (fun _ => True) S U ∧ NW U ∧ OU e0 mi (va_A (X ++ PL cy S) sz) U U.heap)) (va_Qi (fun r (u : wPS) => stp [(14, 0), (14, 1), (14, 2), (22, 101), (114, 11), (122, 11)] [] [] S u ∧ (u.I o1 2).toInt = (S.I o1 2).toInt + 1 ∧ (∃ a : Nat, u.F o1 1 = some a ∧ isA u a 22 ∧ u.r a (S.I o1 2).toNatClampNeg = some o2 ∧ ∀ i : Nat, (i : Int) < (S.I o1 2).toInt → u.r a i = S.r (S.f o1 1) i)) (fun u t => WD D cy X (va_A (X ++ PL cy S) sz) u t) (va_A (X ++ PL cy S) sz)) 1 40 (va_A (X ++ PL cy S) sz) := by
  refine Met.ofW (cc := cJx4a65c_add_9ea2d) (maxL := 2) (ret := (some .boolean)) (by decide) rfl ?_
  intro p e s m args below meth c s₁ B hml hv
  obtain ⟨rfl, hsz, ⟨hP, hK, hD0⟩, hN, hOU⟩ := hv
  have hx := B.exec
  have hb := B.bytes
  have hr := B.returns
  have hts := atoms_spec (ws := wsJx4a65c_add_9ea2d) B.pre
  have hown : s.vm.findClass RJx4a65c = some m.cls := findClass_of_methodNamed (x := yJx4a65c_add_9ea2d) B.named
  have hlocks := B.notSynchronized
  subst hsz
  have hD := hD0.self (sz := s.heap.size)
  generalize hAe : va_A (X ++ PL cy S) s.heap.size = A at hD hOU ⊢
  have hA : ∀ q : Nat, s.heap.size ≤ q → A q := fun q h => by rw [← hAe]; exact Or.inr h
  have hS : va_S A s.heap s.heap [] := va_S.rf
  have hl := lv_entry ([.ref o1, .ref o2]) (n := 2) (Nat.le_of_ble_eq_true rfl)
  rw [lg_entry_eq]
  generalize (lg_sl ([.ref o1, .ref o2]) ++ List.replicate (2 - (lg_sl ([.ref o1, .ref o2])).length) Slot.unset).toArray = ls at hl ⊢
  have hl : lv_has ls 2 [(0, .ref o1), (1, .ref o2)] := hl
  obtain ⟨⟨ga, gZ, gX, gl, gA⟩, ⟨sa9, sZ, sX, sl9, sA⟩, cZ, eZ, eX, el, eA, hMi, hDc, ⟨pf, pZ⟩⟩ := id hOU
  have t0 : stp [(14, 0), (14, 1), (14, 2), (22, 101), (114, 11), (122, 11)] [] [] S S := stp.rf hW
  refine lv_aload_n hx hb dJx4a65c_add_9ea2d_0 rfl (lv_at hl 0 rfl) ?_
  refine lv_dup hx hb dJx4a65c_add_9ea2d_1 rfl ?_
  obtain ⟨k1, gk1, hk1⟩ := wGt (cy := cy) X S h_o1.1 h_o1.2.1
  refine va_get (D := D) (ci := 3) (v := .int (S.I o1 0)) (C := RJx4a65c) (T := TJx4a65c) (N := 3) hx hb hts hi_Jx4a65c_add_9ea2d_Jx4a65c hown hK hP k1 hk1 rfl 0 (by decide) (hts (.fieldLink RJx4a65c 63 "java/util/ArrayList" "modCount" "I") (by decide +kernel)) (fun x9 h9 => u_same (hts (.sameField "java/util/ArrayList" "java/util/AbstractList" "modCount" "I") (by decide +kernel)) x9 h9) rfl dJx4a65c_add_9ea2d_2 ?_
  refine lv_iconst (v := 1) hx hb dJx4a65c_add_9ea2d_5 (by decide) ?_
  refine lv_iadd hx hb dJx4a65c_add_9ea2d_6 ?_
  obtain ⟨k2, gk2, hk2⟩ := wGt (cy := cy) X S h_o1.1 h_o1.2.1
  refine va_put (D := D) (ci := 3) (v := .int ((S.I o1 0) + (1 : Int32))) (ty := .int) (C := RJx4a65c) (T := TJx4a65c) (N := 3) hx hb hts hi_Jx4a65c_add_9ea2d_Jx4a65c tyJx4a65c tyJx4a65c_ok nmJx4a65c hown hK hP hD hS k2 hk2 rfl 0 (by decide) (hts (.fieldLink RJx4a65c 63 "java/util/ArrayList" "modCount" "I") (by decide +kernel)) (fun x9 h9 => u_same (hts (.sameField "java/util/ArrayList" "java/util/AbstractList" "modCount" "I") (by decide +kernel)) x9 h9) rfl (by decide +kernel) (rfl) (rfl) (Nat.le_of_ble_eq_true rfl) dJx4a65c_add_9ea2d_7 (fun H locs hP2 hD2 hS => ?_)
  have e9 := wPuI (cy := cy) (j := 0) (v := ((S.I o1 0) + (1 : Int32))) hD h_o1.1 h_o1.2.1 gk2 rfl
  obtain ⟨S3, hS3⟩ : ∃ z, S.sI o1 0 ((S.I o1 0) + (1 : Int32)) = z := ⟨_, rfl⟩
  have hP : va_P D vwCl (X ++ PL cy S3) H := by rw [← hS3, ← e9]; exact hP2
  have hD : va_D A (X ++ PL cy S3) := by rw [← hS3, ← e9]; exact hD2
  have xe4 : ext S S3 := by rw [← hS3]; exact ext.sI _ _ _ _
  have t5 : stp [(14, 0), (14, 1), (14, 2), (22, 101), (114, 11), (122, 11)] [] [] S S3 := by rw [← hS3]; exact t0.I 0 ((S.I o1 0) + (1 : Int32)) h_o1 (by decide) (trivial) (Or.inl (by decide))
  have k6 : (S3.I o1 2).toInt = (S.I o1 2).toInt := by rw [← hS3]; exact congrArg Int32.toInt (sI_I (by rintro ⟨e1, e2⟩; exact absurd e2 (by decide)))
  refine lv_aload_n hx hb dJx4a65c_add_9ea2d_10 rfl (lv_at hl 0 rfl) ?_
  refine lv_aload_n hx hb dJx4a65c_add_9ea2d_11 rfl (lv_at hl 1 rfl) ?_
  refine lv_aload_n hx hb dJx4a65c_add_9ea2d_12 rfl (lv_at hl 0 rfl) ?_
  have F7 : S3.F o1 1 = some (S.f o1 1) := (by rw [← hS3]; exact hp.1)
  have a8 : isA S3 (S.f o1 1) 22 := t5.x.A hp.2.1
  obtain ⟨k9, gk9, hk9⟩ := wGt (cy := cy) X S3 (xe4.A h_o1).1 (xe4.A h_o1).2.1
  simp only [kE, F7] at hk9
  refine va_get (D := D) (ci := 3) (v := .ref (S.f o1 1)) (C := RJx4a65c) (T := TJx4a65c) (N := 3) hx hb hts hi_Jx4a65c_add_9ea2d_Jx4a65c hown hK hP k9 hk9 rfl 1 (by decide) (hts (.fieldLink RJx4a65c 9 "java/util/ArrayList" "elementData" "[Ljava/lang/Object;") (by decide +kernel)) (fun _ h9 => h9) rfl dJx4a65c_add_9ea2d_13 ?_
  refine lv_aload_n hx hb dJx4a65c_add_9ea2d_16 rfl (lv_at hl 0 rfl) ?_
  obtain ⟨k10, gk10, hk10⟩ := wGt (cy := cy) X S3 (xe4.A h_o1).1 (xe4.A h_o1).2.1
  refine va_get (D := D) (ci := 3) (v := .int (S3.I o1 2)) (C := RJx4a65c) (T := TJx4a65c) (N := 3) hx hb hts hi_Jx4a65c_add_9ea2d_Jx4a65c hown hK hP k10 hk10 rfl 2 (by decide) (hts (.fieldLink RJx4a65c 48 "java/util/ArrayList" "size" "I") (by decide +kernel)) (fun _ h9 => h9) rfl dJx4a65c_add_9ea2d_17 ?_
  have hFc := free_all hD hS hA
  obtain ⟨k11, gk11, hk11⟩ := wGt (cy := cy) X S3 (xe4.A h_o1).1 (xe4.A h_o1).2.1
  refine va_callv (va_runV (As := [.ref o2, .ref (S.f o1 1), .int (S3.I o1 2)]) (rest := []) ⟨hx, hb, hml, hown, hts⟩ (c_Jx4a65c_add_72be8_hB l (e0 := e0) (mi := mi) (cy := cy) (X := X) (D := D) S3 _ o1 (xe4.A h_o1) o2 (xe4.A h_o2) (S.f o1 1) a8 (S3.I o1 2) (t5.w) (by rw [← hS3]; exact hp.1) (by rw [← hS3, sI_ne (S := S) (a := o1) (j := 0) (c := 2) (by decide)]; exact hp) (by omega) (by omega) ((t5.x.n h_o1).trans hg)) (cwV 3 hts gJx4a65c_add_9ea2d_Jx4a65c_add_72be8 rfl rfl rfl hd_Jx4a65c_add_72be8 ⟨Nat.le_of_ble_eq_true rfl, Nat.le_of_ble_eq_true rfl⟩) (pVo (va_recv hK hP (q := (RJx4a65c, TJx4a65c, 3)) (ci := 3) (q0 := k11) rfl hk11) hP hK hD hN hOU hS hFc) rfl rfl hl.1 rfl (lv_room (Nat.le_of_ble_eq_true rfl)) dJx4a65c_add_9ea2d_20 ⟨Nat.le_of_ble_eq_true rfl, Nat.le_of_ble_eq_true rfl⟩) hS (fun q _ h => hFc q h) hFc (fun u t H1 locs ht hvm hw hB hz1 hk1 hS => ?_)
  obtain ⟨w13, y14, y15⟩ := hw
  obtain ⟨hP, hD⟩ := wd_post hFc ht hB
  generalize H1 = H at hP hS ⊢
  obtain ⟨S16, rfl⟩ : ∃ z, z = u := ⟨_, rfl⟩
  have t17 : stp [(14, 0), (14, 1), (14, 2), (22, 101), (114, 11), (122, 11)] [] [] S S16 := t5.tr w13 (by decide) (fun _ q => absurd q List.not_mem_nil)
  have xe18 : ext S3 S16 := w13.x
  refine lv_iconst (v := 1) hx hb dJx4a65c_add_9ea2d_23 (by decide) ?_
  refine W.widen (k := 1) (n := 40) (Nat.le_of_ble_eq_true rfl) (Nat.le_of_ble_eq_true rfl) ?_
  exact W.zret (v := (1 : Int32)) hx hb hr (by rfl) (fun t ht hW9 => ⟨⟨(1 : Int32), S16, rfl, ⟨t17, (by omega), ((by have h9 := y15; rw [← hS3, sI_ne (S := S) (a := o1) (j := 0) (c := 2) (by decide)] at h9; exact h9))⟩, wd_end hP hK hD ht hW9.alike⟩, hS.F ht⟩) hS.2.2 dJx4a65c_add_9ea2d_24 hlocks
theorem c_Jx4a65c_add_9ea2d_g (l : Launch) {e0 mi : Nat} {D : va_G} {cy : Nat → ClassId} {X : va_W} (S : wPS) (sz : Nat) (o1 : Nat) (h_o1 : isA S o1 14) (o2 : Nat) (h_o2 : isA S o2 10) (hW : wtB S []) (h7 : S.F o1 7 = some e0) (hb : (S.I o1 2).toInt ≤ 19) (hg : S.n o1 = 10) : Met l yJx4a65c_add_9ea2d wsJx4a65c_add_9ea2d ({ frames := 6, cells := 1, slots := 40, locals := 150 }) (va_Pc [.ref o1, .ref o2] (fun U => U.heap.size = sz ∧ WD D cy X (fun _ => True) S U ∧ NW U ∧ OU e0 mi (va_A (X ++ PL cy S) sz) U U.heap)) (va_Qi (fun r (u : wPS) => stp [(14, 0), (14, 1), (14, 2), (22, 101), (114, 10), (122, 10)] [] [] S u ∧ (u.I o1 2).toInt = (S.I o1 2).toInt + 1 ∧ (∃ a : Nat, u.F o1 1 = some a ∧ isA u a 22 ∧ u.r a (S.I o1 2).toNatClampNeg = some o2 ∧ ∀ i : Nat, (i : Int) < (S.I o1 2).toInt → u.r a i = S.r (S.f o1 1) i)) (fun u t => WD D cy X (va_A (X ++ PL cy S) sz) u t) (va_A (X ++ PL cy S) sz)) 1 40 (va_A (X ++ PL cy S) sz) := by
  rcases ((hW.at h_o1 List.not_mem_nil).to_14 h_o1.2.1) with ⟨a, b⟩ | h
  · exact c_Jx4a65c_add_9ea2d_gA l (e0 := e0) (mi := mi) S sz o1 h_o1 o2 h_o2 hW (a.trans h7) b hg
  · exact c_Jx4a65c_add_9ea2d_gB l (e0 := e0) (mi := mi) S sz o1 h_o1 o2 h_o2 hW h hb hg
theorem c_Jx4a65c_add_9ea2d_h (l : Launch) {e0 mi : Nat} {D : va_G} {cy : Nat → ClassId} {X : va_W} (S : wPS) (sz : Nat) (o1 : Nat) (h_o1 : isA S o1 14) (o2 : Nat) (h_o2 : isA S o2 11) (hW : wtB S []) (h7 : S.F o1 7 = some e0) (hb : (S.I o1 2).toInt ≤ 7) (hg : S.n o1 = 11) : Met l yJx4a65c_add_9ea2d wsJx4a65c_add_9ea2d ({ frames := 6, cells := 1, slots := 40, locals := 150 }) (va_Pc [.ref o1, .ref o2] (fun U => U.heap.size = sz ∧ WD D cy X (fun _ => True) S U ∧ NW U ∧ OU e0 mi (va_A (X ++ PL cy S) sz) U U.heap)) (va_Qi (fun r (u : wPS) => stp [(14, 0), (14, 1), (14, 2), (22, 101), (114, 11), (122, 11)] [] [] S u ∧ (u.I o1 2).toInt = (S.I o1 2).toInt + 1 ∧ (∃ a : Nat, u.F o1 1 = some a ∧ isA u a 22 ∧ u.r a (S.I o1 2).toNatClampNeg = some o2 ∧ ∀ i : Nat, (i : Int) < (S.I o1 2).toInt → u.r a i = S.r (S.f o1 1) i)) (fun u t => WD D cy X (va_A (X ++ PL cy S) sz) u t) (va_A (X ++ PL cy S) sz)) 1 40 (va_A (X ++ PL cy S) sz) := by
  rcases ((hW.at h_o1 List.not_mem_nil).to_14 h_o1.2.1) with ⟨a, b⟩ | h
  · exact c_Jx4a65c_add_9ea2d_hA l (e0 := e0) (mi := mi) S sz o1 h_o1 o2 h_o2 hW (a.trans h7) b hg
  · exact c_Jx4a65c_add_9ea2d_hB l (e0 := e0) (mi := mi) S sz o1 h_o1 o2 h_o2 hW h hb hg
