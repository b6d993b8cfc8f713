theorem al_pos {S : wPS} {a : Nat} {x : Int32} (h : ok_14 S a) (h1 : 0 ≤ x.toInt ∧ x.toInt < (S.I a 2).toInt) : S.F a 1 = some (S.f a 1) ∧ isA S (S.f a 1) 22 ∧ S.n (S.f a 1) ≤ 40 ∧ S.F (S.f a 1) 0 = some (S.n a) ∧ (S.I a 2).toInt ≤ S.n (S.f a 1) ∧ ∀ i : Nat, (i : Int) < (S.I a 2).toInt → ∃ g, S.r (S.f a 1) i = some g ∧ isA S g (S.n a) := by
  rcases h with ⟨_, e⟩ | ⟨a1, a2, a3, a4, a5, a6, a7⟩
  · omega
  · exact ⟨a1, a2, a3.2, a4, a6.1, a7⟩
theorem al_sz {S : wPS} {a : Nat} (h : ok_14 S a) : 0 ≤ (S.I a 2).toInt ∧ (S.I a 2).toInt ≤ 20 := by
  rcases h with ⟨_, e⟩ | ⟨a1, a2, a3, a4, a5, a6, a7⟩
  · omega
  · omega
theorem al_sz8 {S : wPS} {a : Nat} (h : ok_14 S a) (hn : S.n a = 11) : (S.I a 2).toInt ≤ 8 := by
  rcases h with ⟨_, e⟩ | ⟨a1, a2, a3, a4, a5, a6, a7⟩
  · omega
  · exact a6.2.2 hn
theorem z_sI {S : wPS} {a i : Nat} (h : ∀ j, S.I a j = 0) : ∀ j, (S.sI a i 0).I a j = 0 := fun j => by
  by_cases e : j = i
  · subst e; exact sI_eq
  · rw [sI_ne e]; exact h j
set_option maxHeartbeats 4000000 in
set_option maxRecDepth 100000 in
theorem c_Jxa1e45_init_da8c8 (l : Launch) {D : va_G} {cy : Nat → ClassId} {X : va_W} (S : wPS) (sz : Nat) (o1 : Nat) (h_o1 : isA S o1 14)  : Met l yJxa1e45_init_da8c8 wsJxa1e45_init_da8c8 ({ frames := 1, cells := 0, slots := 0, locals := 12 }) (va_Pc [.ref o1] (fun U => U.heap.size = sz ∧ WD D cy X (fun _ => True) S U ∧ NW U)) (va_Qv (fun (_ : Unit) => True) (fun _ t => WD D cy X (va_A (X ++ PL cy S) sz) S t) (va_A (X ++ PL cy S) sz)) 0 0 (va_A (X ++ PL cy S) sz) := by
  refine Met.ofW (cc := cJxa1e45_init_da8c8) (maxL := 1) (ret := none) (by decide) rfl ?_
  intro p e s m args below meth c s₁ B hml hv
  obtain ⟨rfl, hsz, ⟨hP, hK, hD0⟩, hN⟩ := hv
  have hx := B.exec
  have hb := B.bytes
  have hr := B.returns
  have hts := atoms_spec (ws := wsJxa1e45_init_da8c8) B.pre
  have hown : s.vm.findClass RJxa1e45 = some m.cls := findClass_of_methodNamed (x := yJxa1e45_init_da8c8) B.named
  have hlocks := B.notSynchronized
  subst hsz
  have hD := hD0.self (sz := s.heap.size)
  generalize hAe : va_A (X ++ PL cy S) s.heap.size = A at hD ⊢
  have hA : ∀ q : Nat, s.heap.size ≤ q → A q := fun q h => by rw [← hAe]; exact Or.inr h
  have hS : va_S A s.heap s.heap [] := va_S.rf
  have hl := lv_entry ([.ref o1]) (n := 1) (Nat.le_of_ble_eq_true rfl)
  rw [lg_entry_eq]
  generalize (lg_sl ([.ref o1]) ++ List.replicate (1 - (lg_sl ([.ref o1])).length) Slot.unset).toArray = ls at hl ⊢
  have hl : lv_has ls 1 [(0, .ref o1)] := hl
  refine lv_aload_n hx hb dJxa1e45_init_da8c8_0 rfl (lv_at hl 0 rfl) ?_
  refine W.objInit hx hb hown (hts (.methodLink RJxa1e45 1 objectInit) (by decide +kernel)) (hts (.instanceMethod objectInit) (by decide +kernel)) (hts (.code objectInit ⟨#[0xb1]⟩ 1 none) (by decide +kernel)) rfl (by rw [hml]; exact hl.1) rfl dJxa1e45_init_da8c8_1 (Nat.le_of_ble_eq_true rfl) (Nat.le_of_ble_eq_true rfl) ?_
  refine W.eq (g2 := F0 m 4 ls []) rfl ?_
  refine W.widen (k := 0) (n := 0) (Nat.le_of_ble_eq_true rfl) (Nat.le_of_ble_eq_true rfl) ?_
  exact W.vret hx hb hr (fun t ht hW9 => ⟨⟨(), rfl, trivial, wd_end hP hK hD ht hW9.alike⟩, hS.F ht⟩) hS.2.2 dJxa1e45_init_da8c8_4 hlocks
theorem hi_Jxc12de_init_da8c8_Jx4a65c : ∀ w ∈ u_ws RJx4a65c TJx4a65c 3, w ∈ wsJxc12de_init_da8c8 := by decide +kernel
set_option maxHeartbeats 4000000 in
set_option maxRecDepth 100000 in
theorem c_Jxc12de_init_da8c8 (l : Launch) {D : va_G} {cy : Nat → ClassId} {X : va_W} (S : wPS) (sz : Nat) (o1 : Nat) (h_o1 : isA S o1 14) (R : List Nat) (hW : wtB S (o1 :: R)) (hF0 : ∀ j, S.F o1 j = none) (hI0 : ∀ j, S.I o1 j = 0)  : Met l yJxc12de_init_da8c8 wsJxc12de_init_da8c8 ({ frames := 2, cells := 0, slots := 0, locals := 32 }) (va_Pc [.ref o1] (fun U => U.heap.size = sz ∧ WD D cy X (fun _ => True) S U ∧ NW U)) (va_Qv (fun (u : wPS) => stp ([] : List (Nat × Nat)) [o1] (o1 :: R) S u ∧ (∀ j, u.F o1 j = none) ∧ (∀ j, u.I o1 j = 0)) (fun u t => WD D cy X (va_A (X ++ PL cy S) sz) u t) (va_A (X ++ PL cy S) sz)) 0 0 (va_A (X ++ PL cy S) sz) := by
  refine Met.ofW (cc := cJxc12de_init_da8c8) (maxL := 1) (ret := none) (by decide) rfl ?_
  intro p e s m args below meth c s₁ B hml hv
  obtain ⟨rfl, hsz, ⟨hP, hK, hD0⟩, hN⟩ := hv
  have hx := B.exec
  have hb := B.bytes
  have hr := B.returns
  have hts := atoms_spec (ws := wsJxc12de_init_da8c8) B.pre
  have hown : s.vm.findClass RJxc12de = some m.cls := findClass_of_methodNamed (x := yJxc12de_init_da8c8) B.named
  have hlocks := B.notSynchronized
  have hin : meth.name = "<init>" := (name_of_methodNamed B.named B.method).1
  subst hsz
  have hD := hD0.self (sz := s.heap.size)
  generalize hAe : va_A (X ++ PL cy S) s.heap.size = A at hD ⊢
  have hA : ∀ q : Nat, s.heap.size ≤ q → A q := fun q h => by rw [← hAe]; exact Or.inr h
  have hS : va_S A s.heap s.heap [] := va_S.rf
  have hl := lv_entry ([.ref o1]) (n := 1) (Nat.le_of_ble_eq_true rfl)
  rw [lg_entry_eq]
  generalize (lg_sl ([.ref o1]) ++ List.replicate (1 - (lg_sl ([.ref o1])).length) Slot.unset).toArray = ls at hl ⊢
  have hl : lv_has ls 1 [(0, .ref o1)] := hl
  have t0 : stp ([] : List (Nat × Nat)) [o1] (o1 :: R) S S := stp.rf hW
  refine lv_aload_n hx hb dJxc12de_init_da8c8_0 rfl (lv_at hl 0 rfl) ?_
  have hFc := free_all hD hS hA
  refine va_callv (va_runI (As := []) (rest := []) ⟨hx, hb, hml, hown, hts⟩ (c_Jxa1e45_init_da8c8 l (cy := cy) (X := X) (D := D) S _ o1 h_o1) (cwI 0 hts gJxc12de_init_da8c8_Jxa1e45_init_da8c8 rfl rfl rfl (hts (.initialized RJxa1e45) (by decide +kernel)) (hts (.methodLink RJxc12de 1 yJxa1e45_init_da8c8) (by decide +kernel)) (hts (.instanceMethod yJxa1e45_init_da8c8) (by decide +kernel)) rfl (by decide +kernel) ⟨Nat.le_of_ble_eq_true rfl, Nat.le_of_ble_eq_true rfl⟩) (pS hP hK hD hN) rfl rfl hl.1 rfl (lv_room (Nat.le_of_ble_eq_true rfl)) dJxc12de_init_da8c8_1 ⟨(Nat.zero_le _), (Nat.zero_le _)⟩) hS (fun q _ h => hFc q h) hFc (fun u t H1 locs ht hvm hw hB hz1 hk1 hS => ?_)
  clear hw
  obtain ⟨hP, hD⟩ := wd_post hFc ht hB
  generalize H1 = H at hP hS ⊢
  refine lv_aload_n hx hb dJxc12de_init_da8c8_4 rfl (lv_at hl 0 rfl) ?_
  refine lv_iconst (v := 0) hx hb dJxc12de_init_da8c8_5 (by decide) ?_
  obtain ⟨k2, gk2, hk2⟩ := wGt (cy := cy) X S h_o1.1 h_o1.2.1
  refine va_put (D := D) (ci := 3) (v := .int (0 : Int32)) (ty := .int) (C := RJx4a65c) (T := TJx4a65c) (N := 3) hx hb hts hi_Jxc12de_init_da8c8_Jx4a65c tyJx4a65c tyJx4a65c_ok nmJx4a65c hown hK hP hD hS k2 hk2 rfl 0 (by decide) (hts (.fieldLink RJxc12de 7 "java/util/AbstractList" "modCount" "I") (by decide +kernel)) (fun _ h9 => h9) rfl (by decide +kernel) (rfl) (rfl) (Nat.le_of_ble_eq_true rfl) dJxc12de_init_da8c8_6 (fun H locs hP2 hD2 hS => ?_)
  have e9 := wPuI (cy := cy) (j := 0) (v := (0 : Int32)) hD h_o1.1 h_o1.2.1 gk2 rfl
  obtain ⟨S3, hS3⟩ : ∃ z, S.sI o1 0 (0 : Int32) = z := ⟨_, rfl⟩
  have hP : va_P D vwCl (X ++ PL cy S3) H := by rw [← hS3, ← e9]; exact hP2
  have hD : va_D A (X ++ PL cy S3) := by rw [← hS3, ← e9]; exact hD2
  have xe4 : ext S S3 := by rw [← hS3]; exact ext.sI _ _ _ _
  have t5 : stp ([] : List (Nat × Nat)) [o1] (o1 :: R) S S3 := by rw [← hS3]; exact t0.Ir 0 (0 : Int32) List.mem_cons_self (Or.inl List.mem_cons_self)
  have oo : isA S3 o1 14 := (xe4.A h_o1)
  refine W.widen (k := 0) (n := 0) (Nat.le_of_ble_eq_true rfl) (Nat.le_of_ble_eq_true rfl) ?_
  exact W.vret hx hb hr (fun t ht hW9 => ⟨⟨S3, rfl, ⟨t5, (by rw [← hS3]; exact hF0), (by rw [← hS3]; exact z_sI hI0)⟩, wd_end hP hK hD ht hW9.alike⟩, hS.F ht⟩) hS.2.2 dJxc12de_init_da8c8_9 hlocks
theorem hi_Jx4a65c_init_da8c8_Jx4a65c : ∀ w ∈ u_ws RJx4a65c TJx4a65c 3, w ∈ wsJx4a65c_init_da8c8 := by decide +kernel
set_option maxHeartbeats 4000000 in
set_option maxRecDepth 100000 in
theorem c_Jx4a65c_init_da8c8 (l : Launch) {e0 mi : Nat} {D : va_G} {cy : Nat → ClassId} {X : va_W} (S : wPS) (sz : Nat) (o1 : Nat) (h_o1 : isA S o1 14) (R : List Nat) (hW : wtB S (o1 :: R)) (hF0 : ∀ j, S.F o1 j = none) (hI0 : ∀ j, S.I o1 j = 0)  : Met l yJx4a65c_init_da8c8 wsJx4a65c_init_da8c8 ({ frames := 3, cells := 0, slots := 0, locals := 52 }) (va_Pc [.ref o1] (fun U => U.heap.size = sz ∧ WD D cy X (fun _ => True) S U ∧ NW U ∧ OU e0 mi (va_A (X ++ PL cy S) sz) U U.heap)) (va_Qv (fun (u : wPS) => stp ([] : List (Nat × Nat)) [o1] R S u ∧ isA u o1 14 ∧ u.I o1 0 = (0 : Int32) ∧ u.I o1 2 = (0 : Int32) ∧ u.F o1 7 = some e0) (fun u t => WD D cy X (va_A (X ++ PL cy S) sz) u t) (va_A (X ++ PL cy S) sz)) 0 0 (va_A (X ++ PL cy S) sz) := by
  refine Met.ofW (cc := cJx4a65c_init_da8c8) (maxL := 1) (ret := none) (by decide) rfl ?_
  intro p e s m args below meth c s₁ B hml hv
  obtain ⟨rfl, hsz, ⟨hP, hK, hD0⟩, hN, hOU⟩ := hv
  have hx := B.exec
  have hb := B.bytes
  have hr := B.returns
  have hts := atoms_spec (ws := wsJx4a65c_init_da8c8) B.pre
  have hown : s.vm.findClass RJx4a65c = some m.cls := findClass_of_methodNamed (x := yJx4a65c_init_da8c8) B.named
  have hlocks := B.notSynchronized
  have hin : meth.name = "<init>" := (name_of_methodNamed B.named B.method).1
  subst hsz
  have hD := hD0.self (sz := s.heap.size)
  generalize hAe : va_A (X ++ PL cy S) s.heap.size = A at hD hOU ⊢
  have hA : ∀ q : Nat, s.heap.size ≤ q → A q := fun q h => by rw [← hAe]; exact Or.inr h
  have hS : va_S A s.heap s.heap [] := va_S.rf
  have hl := lv_entry ([.ref o1]) (n := 1) (Nat.le_of_ble_eq_true rfl)
  rw [lg_entry_eq]
  generalize (lg_sl ([.ref o1]) ++ List.replicate (1 - (lg_sl ([.ref o1])).length) Slot.unset).toArray = ls at hl ⊢
  have hl : lv_has ls 1 [(0, .ref o1)] := hl
  obtain ⟨⟨ga, gZ, gX, gl, gA⟩, ⟨sa9, sZ, sX, sl9, sA⟩, cZ, eZ, eX, el, eA, hMi, hDc, ⟨pf, pZ⟩⟩ := id hOU
  have t0 : stp ([] : List (Nat × Nat)) [o1] (o1 :: R) S S := stp.rf hW
  refine lv_aload_n hx hb dJx4a65c_init_da8c8_0 rfl (lv_at hl 0 rfl) ?_
  have hFc := free_all hD hS hA
  refine va_callv (va_runI (As := []) (rest := []) ⟨hx, hb, hml, hown, hts⟩ (c_Jxc12de_init_da8c8 l (cy := cy) (X := X) (D := D) S _ o1 h_o1 R (hW) hF0 hI0) (cwI 0 hts gJx4a65c_init_da8c8_Jxc12de_init_da8c8 rfl rfl rfl (hts (.initialized RJxc12de) (by decide +kernel)) (hts (.methodLink RJx4a65c 1 yJxc12de_init_da8c8) (by decide +kernel)) (hts (.instanceMethod yJxc12de_init_da8c8) (by decide +kernel)) rfl (by decide +kernel) ⟨Nat.le_of_ble_eq_true rfl, Nat.le_of_ble_eq_true rfl⟩) (pS hP hK hD hN) rfl rfl hl.1 rfl (lv_room (Nat.le_of_ble_eq_true rfl)) dJx4a65c_init_da8c8_1 ⟨(Nat.zero_le _), (Nat.zero_le _)⟩) hS (fun q _ h => hFc q h) hFc (fun u t H1 locs ht hvm hw hB hz1 hk1 hS => ?_)
  obtain ⟨w2, y3, y4⟩ := hw
  obtain ⟨hP, hD⟩ := wd_post hFc ht hB
  generalize H1 = H at hP hS ⊢
  obtain ⟨S5, rfl⟩ : ∃ z, z = u := ⟨_, rfl⟩
  have t6 : stp ([] : List (Nat × Nat)) [o1] (o1 :: R) S S5 := t0.tr w2 (by decide) (fun z q => by rw [List.mem_singleton.mp q]; exact (Or.inl List.mem_cons_self))
  have xe7 : ext S S5 := w2.x
  refine lv_aload_n hx hb dJx4a65c_init_da8c8_4 rfl (lv_at hl 0 rfl) ?_
  refine va_gets hx hb eZ hS hown (hts (.fieldLink RJx4a65c 39 "java/util/ArrayList" "DEFAULTCAPACITY_EMPTY_ELEMENTDATA" "[Ljava/lang/Object;") (by decide +kernel)) (fun _ h9 => h9) dJx4a65c_init_da8c8_5 ?_
  have e9 := gh_PL (cy := cy) (X := X) (j := 7) (v := some e0) (xe7.A h_o1).2.1 (by decide)
  have hP2 := hP
  have hD2 := hD
  rw [e9] at hP2 hD2
  replace e9 := Eq.refl (X ++ PL cy (S5.sF o1 7 (some e0)))
  obtain ⟨S8, hS8⟩ : ∃ z, S5.sF o1 7 (some e0) = z := ⟨_, rfl⟩
  have hP : va_P D vwCl (X ++ PL cy S8) H := by rw [← hS8, ← e9]; exact hP2
  have hD : va_D A (X ++ PL cy S8) := by rw [← hS8, ← e9]; exact hD2
  have xe9 : ext S5 S8 := by rw [← hS8]; exact ext.sF (by exact y3 7)
  have t10 : stp ([] : List (Nat × Nat)) [o1] (o1 :: R) S S8 := by rw [← hS8]; exact t6.F 7 e0 List.mem_cons_self (Or.inl List.mem_cons_self) (by exact y3 7)
  have F11 : S8.F o1 7 = some e0 := by rw [← hS8]; exact sF_eq
  obtain ⟨k12, gk12, hk12⟩ := wGt (cy := cy) X S8 (xe9.A (xe7.A h_o1)).1 (xe9.A (xe7.A h_o1)).2.1
  refine va_put (D := D) (ci := 3) (v := .ref e0) (ty := (tyJx4a65c 1)) (C := RJx4a65c) (T := TJx4a65c) (N := 3) hx hb hts hi_Jx4a65c_init_da8c8_Jx4a65c tyJx4a65c tyJx4a65c_ok nmJx4a65c hown hK hP hD hS k12 hk12 rfl 1 (by decide) (hts (.fieldLink RJx4a65c 9 "java/util/ArrayList" "elementData" "[Ljava/lang/Object;") (by decide +kernel)) (fun _ h9 => h9) rfl (by decide +kernel) (rfl) (rfl) (Nat.le_of_ble_eq_true rfl) dJx4a65c_init_da8c8_8 (fun H locs hP2 hD2 hS => ?_)
  have e9 := wPuF (cy := cy) (j := 1) (v := (some e0)) hD (xe9.A (xe7.A h_o1)).1 (xe9.A (xe7.A h_o1)).2.1 gk12 rfl
  obtain ⟨S13, hS13⟩ : ∃ z, S8.sF o1 1 (some e0) = z := ⟨_, rfl⟩
  have hP : va_P D vwCl (X ++ PL cy S13) H := by rw [← hS13, ← e9]; exact hP2
  have hD : va_D A (X ++ PL cy S13) := by rw [← hS13, ← e9]; exact hD2
  have xe14 : ext S8 S13 := by rw [← hS13]; exact ext.sF (by rw [← hS8, sF_ne (fun q9 => absurd q9.2 (by decide))]; exact y3 1)
  have t15 : stp ([] : List (Nat × Nat)) [o1] (o1 :: R) S S13 := by rw [← hS13]; exact t10.F 1 e0 List.mem_cons_self (Or.inl List.mem_cons_self) (by rw [← hS8, sF_ne (fun q9 => absurd q9.2 (by decide))]; exact y3 1)
  have F16 : S13.F o1 1 = some e0 := by rw [← hS13]; exact sF_eq
  have oo : isA S13 o1 14 := (xe14.A (xe9.A (xe7.A h_o1)))
  have I0 : S13.I o1 0 = (0 : Int32) := (by rw [← hS13]; show S8.I o1 0 = _; rw [← hS8]; show S5.I o1 0 = _; exact y4 0)
  have I2 : S13.I o1 2 = (0 : Int32) := (by rw [← hS13]; show S8.I o1 2 = _; rw [← hS8]; show S5.I o1 2 = _; exact y4 2)
  have tt : stp ([] : List (Nat × Nat)) [o1] R S S13 := t15.un (okAt.of_14 oo.2.1 (Or.inl ⟨(F16).trans ((xe14.F (xe9.A (xe7.A h_o1)) (by decide) F11)).symm, by rw [I2]; rfl⟩))
  refine W.widen (k := 0) (n := 0) (Nat.le_of_ble_eq_true rfl) (Nat.le_of_ble_eq_true rfl) ?_
  exact W.vret hx hb hr (fun t ht hW9 => ⟨⟨S13, rfl, ⟨tt, oo, I0, I2, ((xe14.F (xe9.A (xe7.A h_o1)) (by decide) F11))⟩, wd_end hP hK hD ht hW9.alike⟩, hS.F ht⟩) hS.2.2 dJx4a65c_init_da8c8_11 hlocks
def f_Jx4a65c_size_8abf5 (S : wPS) (o1 : Nat) : Int32 := S.I o1 2
theorem hi_Jx4a65c_size_8abf5_Jx4a65c : ∀ w ∈ u_ws RJx4a65c TJx4a65c 3, w ∈ wsJx4a65c_size_8abf5 := by decide +kernel
theorem hd_Jx4a65c_size_8abf5 : yJx4a65c_size_8abf5.cls = RJx4a65c ∧ yJx4a65c_size_8abf5.cls ≠ "java/lang/invoke/MethodHandle" ∧ yJx4a65c_size_8abf5.cls ≠ "java/lang/invoke/VarHandle" ∧ (parseMethodDescriptor yJx4a65c_size_8abf5.desc).map (fun d => d.parameters.length) = some 0 := by decide +kernel
set_option maxHeartbeats 4000000 in
set_option maxRecDepth 100000 in
theorem c_Jx4a65c_size_8abf5 (l : Launch) {D : va_G} {cy : Nat → ClassId} {X : va_W} (S : wPS) (sz : Nat) (o1 : Nat) (h_o1 : isA S o1 14)  : Met l yJx4a65c_size_8abf5 wsJx4a65c_size_8abf5 ({ frames := 0, cells := 0, slots := 0, locals := 0 }) (va_Pc [.ref o1] (fun U => U.heap.size = sz ∧ WD D cy X (fun _ => True) S U ∧ NW U)) (va_Qi (fun r (_ : Unit) => r = f_Jx4a65c_size_8abf5 S o1) (fun _ t => WD D cy X (va_A (X ++ PL cy S) sz) S t) (va_A (X ++ PL cy S) sz)) 0 0 (va_A (X ++ PL cy S) sz) := by
  refine Met.ofW (cc := cJx4a65c_size_8abf5) (maxL := 1) (ret := (some .int)) (by decide) rfl ?_
  intro p e s m args below meth c s₁ B hml hv
  obtain ⟨rfl, hsz, ⟨hP, hK, hD0⟩, hN⟩ := hv
  have hx := B.exec
  have hb := B.bytes
  have hr := B.returns
  have hts := atoms_spec (ws := wsJx4a65c_size_8abf5) B.pre
  have hown : s.vm.findClass RJx4a65c = some m.cls := findClass_of_methodNamed (x := yJx4a65c_size_8abf5) B.named
  have hlocks := B.notSynchronized
  subst hsz
  have hD := hD0.self (sz := s.heap.size)
  generalize hAe : va_A (X ++ PL cy S) s.heap.size = A at hD ⊢
  have hA : ∀ q : Nat, s.heap.size ≤ q → A q := fun q h => by rw [← hAe]; exact Or.inr h
  have hS : va_S A s.heap s.heap [] := va_S.rf
  have hl := lv_entry ([.ref o1]) (n := 1) (Nat.le_of_ble_eq_true rfl)
  rw [lg_entry_eq]
  generalize (lg_sl ([.ref o1]) ++ List.replicate (1 - (lg_sl ([.ref o1])).length) Slot.unset).toArray = ls at hl ⊢
  have hl : lv_has ls 1 [(0, .ref o1)] := hl
  refine lv_aload_n hx hb dJx4a65c_size_8abf5_0 rfl (lv_at hl 0 rfl) ?_
  obtain ⟨k1, gk1, hk1⟩ := wGt (cy := cy) X S h_o1.1 h_o1.2.1
  refine va_get (D := D) (ci := 3) (v := .int (S.I o1 2)) (C := RJx4a65c) (T := TJx4a65c) (N := 3) hx hb hts hi_Jx4a65c_size_8abf5_Jx4a65c hown hK hP k1 hk1 rfl 2 (by decide) (hts (.fieldLink RJx4a65c 48 "java/util/ArrayList" "size" "I") (by decide +kernel)) (fun _ h9 => h9) rfl dJx4a65c_size_8abf5_1 ?_
  refine W.widen (k := 0) (n := 0) (Nat.le_of_ble_eq_true rfl) (Nat.le_of_ble_eq_true rfl) ?_
  exact W.iret (v := S.I o1 2) hx hb hr (fun t ht hW9 => ⟨⟨S.I o1 2, (), rfl, (by show (S.I o1 2) = f_Jx4a65c_size_8abf5 S o1; unfold f_Jx4a65c_size_8abf5; rfl), wd_end hP hK hD ht hW9.alike⟩, hS.F ht⟩) hS.2.2 dJx4a65c_size_8abf5_4 hlocks
def f_Jx4a65c_isEmpty_aae02 (S : wPS) (o1 : Nat) : Int32 := if (S.I o1 2) = (0 : Int32) then (1 : Int32) else (0 : Int32)
theorem f_Jx4a65c_isEmpty_aae02_b (S : wPS) (o1 : Nat) : narrow .boolean (.int (f_Jx4a65c_isEmpty_aae02 S o1)) = .int (f_Jx4a65c_isEmpty_aae02 S o1) := by
  unfold f_Jx4a65c_isEmpty_aae02; (repeat' split) <;> rfl
theorem hi_Jx4a65c_isEmpty_aae02_Jx4a65c : ∀ w ∈ u_ws RJx4a65c TJx4a65c 3, w ∈ wsJx4a65c_isEmpty_aae02 := by decide +kernel
theorem hd_Jx4a65c_isEmpty_aae02 : yJx4a65c_isEmpty_aae02.cls = RJx4a65c ∧ yJx4a65c_isEmpty_aae02.cls ≠ "java/lang/invoke/MethodHandle" ∧ yJx4a65c_isEmpty_aae02.cls ≠ "java/lang/invoke/VarHandle" ∧ (parseMethodDescriptor yJx4a65c_isEmpty_aae02.desc).map (fun d => d.parameters.length) = some 0 := by decide +kernel
set_option maxHeartbeats 4000000 in
set_option maxRecDepth 100000 in
theorem c_Jx4a65c_isEmpty_aae02 (l : Launch) {D : va_G} {cy : Nat → ClassId} {X : va_W} (S : wPS) (sz : Nat) (o1 : Nat) (h_o1 : isA S o1 14)  : Met l yJx4a65c_isEmpty_aae02 wsJx4a65c_isEmpty_aae02 ({ frames := 0, cells := 0, slots := 0, locals := 0 }) (va_Pc [.ref o1] (fun U => U.heap.size = sz ∧ WD D cy X (fun _ => True) S U ∧ NW U)) (va_Qi (fun r (_ : Unit) => r = f_Jx4a65c_isEmpty_aae02 S o1) (fun _ t => WD D cy X (va_A (X ++ PL cy S) sz) S t) (va_A (X ++ PL cy S) sz)) 0 0 (va_A (X ++ PL cy S) sz) := by
  refine Met.ofW (cc := cJx4a65c_isEmpty_aae02) (maxL := 1) (ret := (some .boolean)) (by decide) rfl ?_
  intro p e s m args below meth c s₁ B hml hv
  obtain ⟨rfl, hsz, ⟨hP, hK, hD0⟩, hN⟩ := hv
  have hx := B.exec
  have hb := B.bytes
  have hr := B.returns
  have hts := atoms_spec (ws := wsJx4a65c_isEmpty_aae02) B.pre
  have hown : s.vm.findClass RJx4a65c = some m.cls := findClass_of_methodNamed (x := yJx4a65c_isEmpty_aae02) B.named
  have hlocks := B.notSynchronized
  subst hsz
  have hD := hD0.self (sz := s.heap.size)
  generalize hAe : va_A (X ++ PL cy S) s.heap.size = A at hD ⊢
  have hA : ∀ q : Nat, s.heap.size ≤ q → A q := fun q h => by rw [← hAe]; exact Or.inr h
  have hS : va_S A s.heap s.heap [] := va_S.rf
  have hl := lv_entry ([.ref o1]) (n := 1) (Nat.le_of_ble_eq_true rfl)
  rw [lg_entry_eq]
  generalize (lg_sl ([.ref o1]) ++ List.replicate (1 - (lg_sl ([.ref o1])).length) Slot.unset).toArray = ls at hl ⊢
  have hl : lv_has ls 1 [(0, .ref o1)] := hl
  refine lv_aload_n hx hb dJx4a65c_isEmpty_aae02_0 rfl (lv_at hl 0 rfl) ?_
  obtain ⟨k1, gk1, hk1⟩ := wGt (cy := cy) X S h_o1.1 h_o1.2.1
  refine va_get (D := D) (ci := 3) (v := .int (S.I o1 2)) (C := RJx4a65c) (T := TJx4a65c) (N := 3) hx hb hts hi_Jx4a65c_isEmpty_aae02_Jx4a65c hown hK hP k1 hk1 rfl 2 (by decide) (hts (.fieldLink RJx4a65c 48 "java/util/ArrayList" "size" "I") (by decide +kernel)) (fun _ h9 => h9) rfl dJx4a65c_isEmpty_aae02_1 ?_
  refine lv_if_ne (tgt := 11) hx hb dJx4a65c_isEmpty_aae02_4 (by decide) (fun c2 => ?_) (fun c2 => ?_)
  · have c2i : ¬ (S.I o1 2).toInt = 0 := neq_v rfl rfl c2
    refine lv_iconst (v := 0) hx hb dJx4a65c_isEmpty_aae02_11 (by decide) ?_
    refine W.widen (k := 0) (n := 0) (Nat.le_of_ble_eq_true rfl) (Nat.le_of_ble_eq_true rfl) ?_
    exact W.zret (v := (0 : Int32)) hx hb hr (by rfl) (fun t ht hW9 => ⟨⟨(0 : Int32), (), rfl, (by show (0 : Int32) = f_Jx4a65c_isEmpty_aae02 S o1; unfold f_Jx4a65c_isEmpty_aae02; rw [if_neg c2]), wd_end hP hK hD ht hW9.alike⟩, hS.F ht⟩) hS.2.2 dJx4a65c_isEmpty_aae02_12 hlocks
  · have c2i : (S.I o1 2).toInt = 0 := eq_v rfl rfl c2
    refine lv_iconst (v := 1) hx hb dJx4a65c_isEmpty_aae02_7 (by decide) ?_
    refine lv_goto (tgt := 12) hx hb dJx4a65c_isEmpty_aae02_8 (by decide) ?_
    refine W.widen (k := 0) (n := 0) (Nat.le_of_ble_eq_true rfl) (Nat.le_of_ble_eq_true rfl) ?_
    exact W.zret (v := (1 : Int32)) hx hb hr (by rfl) (fun t ht hW9 => ⟨⟨(1 : Int32), (), rfl, (by show (1 : Int32) = f_Jx4a65c_isEmpty_aae02 S o1; unfold f_Jx4a65c_isEmpty_aae02; rw [if_pos c2]), wd_end hP hK hD ht hW9.alike⟩, hS.F ht⟩) hS.2.2 dJx4a65c_isEmpty_aae02_12 hlocks
theorem al_em {S : wPS} {a : Nat} : ((f_Jx4a65c_isEmpty_aae02 S a).toInt = 0 ∧ ¬ (S.I a 2).toInt = 0) ∨ ((f_Jx4a65c_isEmpty_aae02 S a).toInt = 1 ∧ (S.I a 2).toInt = 0) := by
  unfold f_Jx4a65c_isEmpty_aae02
  split
  · rename_i h
    exact Or.inr ⟨rfl, eq_i h⟩
  · rename_i h
    exact Or.inl ⟨rfl, neq_i h⟩
def f_Jx4a65c_elementData_915e3 (S : wPS) (o1 : Nat) (x1 : Int32) : Nat := (S.q (S.f o1 1) x1.toNatClampNeg)
theorem hi_Jx4a65c_elementData_915e3_Jx4a65c : ∀ w ∈ u_ws RJx4a65c TJx4a65c 3, w ∈ wsJx4a65c_elementData_915e3 := by decide +kernel
theorem hd_Jx4a65c_elementData_915e3 : yJx4a65c_elementData_915e3.cls = RJx4a65c ∧ yJx4a65c_elementData_915e3.cls ≠ "java/lang/invoke/MethodHandle" ∧ yJx4a65c_elementData_915e3.cls ≠ "java/lang/invoke/VarHandle" ∧ (parseMethodDescriptor yJx4a65c_elementData_915e3.desc).map (fun d => d.parameters.length) = some 1 := by decide +kernel
set_option maxHeartbeats 4000000 in
set_option maxRecDepth 100000 in
theorem c_Jx4a65c_elementData_915e3 (l : Launch) {D : va_G} {cy : Nat → ClassId} {X : va_W} (S : wPS) (sz : Nat) (o1 : Nat) (h_o1 : isA S o1 14) (x1 : Int32) (hW : wtB S []) (h1 : 0 ≤ x1.toInt ∧ x1.toInt < (S.I o1 2).toInt) : Met l yJx4a65c_elementData_915e3 wsJx4a65c_elementData_915e3 ({ frames := 0, cells := 0, slots := 0, locals := 0 }) (va_Pc [.ref o1, .int x1] (fun U => U.heap.size = sz ∧ WD D cy X (fun _ => True) S U ∧ NW U)) (va_Qq (fun r (_ : Unit) => ∃ a : Nat, r = some a ∧ a = f_Jx4a65c_elementData_915e3 S o1 x1 ∧ isA S a (S.n o1)) (fun _ t => WD D cy X (va_A (X ++ PL cy S) sz) S t) (va_A (X ++ PL cy S) sz)) 0 0 (va_A (X ++ PL cy S) sz) := by
  refine Met.ofW (cc := cJx4a65c_elementData_915e3) (maxL := 2) (ret := (some (.object "java/lang/Object"))) (by decide) rfl ?_
  intro p e s m args below meth c s₁ B hml hv
  obtain ⟨rfl, hsz, ⟨hP, hK, hD0⟩, hN⟩ := hv
  have hx := B.exec
  have hb := B.bytes
  have hr := B.returns
  have hts := atoms_spec (ws := wsJx4a65c_elementData_915e3) B.pre
  have hown : s.vm.findClass RJx4a65c = some m.cls := findClass_of_methodNamed (x := yJx4a65c_elementData_915e3) B.named
  have hlocks := B.notSynchronized
  subst hsz
  have hD := hD0.self (sz := s.heap.size)
  generalize hAe : va_A (X ++ PL cy S) s.heap.size = A at hD ⊢
  have hA : ∀ q : Nat, s.heap.size ≤ q → A q := fun q h => by rw [← hAe]; exact Or.inr h
  have hS : va_S A s.heap s.heap [] := va_S.rf
  have hl := lv_entry ([.ref o1, .int x1]) (n := 2) (Nat.le_of_ble_eq_true rfl)
  rw [lg_entry_eq]
  generalize (lg_sl ([.ref o1, .int x1]) ++ List.replicate (2 - (lg_sl ([.ref o1, .int x1])).length) Slot.unset).toArray = ls at hl ⊢
  have hl : lv_has ls 2 [(0, .ref o1), (1, .int x1)] := hl
  have hp := al_pos ((hW.at h_o1 List.not_mem_nil).to_14 h_o1.2.1) h1
  have hp5 := hp.2.2.2.2.1
  refine lv_aload_n hx hb dJx4a65c_elementData_915e3_0 rfl (lv_at hl 0 rfl) ?_
  obtain ⟨k1, gk1, hk1⟩ := wGt (cy := cy) X S h_o1.1 h_o1.2.1
  simp only [kE, hp.1] at hk1
  refine va_get (D := D) (ci := 3) (v := .ref (S.f o1 1)) (C := RJx4a65c) (T := TJx4a65c) (N := 3) hx hb hts hi_Jx4a65c_elementData_915e3_Jx4a65c hown hK hP k1 hk1 rfl 1 (by decide) (hts (.fieldLink RJx4a65c 9 "java/util/ArrayList" "elementData" "[Ljava/lang/Object;") (by decide +kernel)) (fun _ h9 => h9) rfl dJx4a65c_elementData_915e3_1 ?_
  refine lv_iload_n hx hb dJx4a65c_elementData_915e3_4 rfl (lv_at hl 1 rfl) ?_
  have i2 := hp.2.2.1
  obtain ⟨k3, gk3, hk3⟩ := wGt (cy := cy) X S hp.2.1.1 hp.2.1.2.1
  have g4 := elq (hp.2.2.2.2.2 x1.toNatClampNeg (by have h9 := cl_int (i := x1) (by omega); omega))
  refine va_aldq hx hb hK hP k3 7 hk3 rfl (inb (m := S.n (S.f o1 1)) rfl (by omega) (by omega)) dJx4a65c_elementData_915e3_5 ?_
  rw [g4.1]
  refine W.eq (g2 := F0 m 6 ls [.ref (S.q (S.f o1 1) x1.toNatClampNeg)]) rfl ?_
  refine W.widen (k := 0) (n := 0) (Nat.le_of_ble_eq_true rfl) (Nat.le_of_ble_eq_true rfl) ?_
  exact W.aret (v := .ref (S.q (S.f o1 1) x1.toNatClampNeg)) hx hb hr (Or.inl ⟨_, rfl⟩) (Or.inr ⟨_, rfl⟩) (fun t ht hW9 => ⟨⟨some (S.q (S.f o1 1) x1.toNatClampNeg), (), rfl, ⟨(S.q (S.f o1 1) x1.toNatClampNeg), rfl, (by show (S.q (S.f o1 1) x1.toNatClampNeg) = f_Jx4a65c_elementData_915e3 S o1 x1; unfold f_Jx4a65c_elementData_915e3; rfl), g4.2⟩, wd_end hP hK hD ht hW9.alike⟩, hS.F ht⟩) hS.2.2 dJx4a65c_elementData_915e3_6 hlocks
def f_Jx4a65c_get_915e3 (S : wPS) (o1 : Nat) (x1 : Int32) : Nat := l1 (f_Jx4a65c_elementData_915e3 S o1 x1) (fun r4 => r4)
theorem hi_Jx4a65c_get_915e3_Jx4a65c : ∀ w ∈ u_ws RJx4a65c TJx4a65c 3, w ∈ wsJx4a65c_get_915e3 := by decide +kernel
theorem hd_Jx4a65c_get_915e3 : yJx4a65c_get_915e3.cls = RJx4a65c ∧ yJx4a65c_get_915e3.cls ≠ "java/lang/invoke/MethodHandle" ∧ yJx4a65c_get_915e3.cls ≠ "java/lang/invoke/VarHandle" ∧ (parseMethodDescriptor yJx4a65c_get_915e3.desc).map (fun d => d.parameters.length) = some 1 := by decide +kernel
set_option maxHeartbeats 4000000 in
set_option maxRecDepth 100000 in
theorem c_Jx4a65c_get_915e3 (l : Launch) {D : va_G} {cy : Nat → ClassId} {X : va_W} (S : wPS) (sz : Nat) (o1 : Nat) (h_o1 : isA S o1 14) (x1 : Int32) (hW : wtB S []) (h1 : 0 ≤ x1.toInt ∧ x1.toInt < (S.I o1 2).toInt) : Met l yJx4a65c_get_915e3 wsJx4a65c_get_915e3 ({ frames := 2, cells := 0, slots := 0, locals := 43 }) (va_Pc [.ref o1, .int x1] (fun U => U.heap.size = sz ∧ WD D cy X (fun _ => True) S U ∧ NW U)) (va_Qq (fun r (_ : Unit) => ∃ a : Nat, r = some a ∧ a = f_Jx4a65c_get_915e3 S o1 x1 ∧ isA S a (S.n o1)) (fun _ t => WD D cy X (va_A (X ++ PL cy S) sz) S t) (va_A (X ++ PL cy S) sz)) 0 0 (va_A (X ++ PL cy S) sz) := by
  refine Met.ofW (cc := cJx4a65c_get_915e3) (maxL := 2) (ret := (some (.object "java/lang/Object"))) (by decide) rfl ?_
  intro p e s m args below meth c s₁ B hml hv
  obtain ⟨rfl, hsz, ⟨hP, hK, hD0⟩, hN⟩ := hv
  have hx := B.exec
  have hb := B.bytes
  have hr := B.returns
  have hts := atoms_spec (ws := wsJx4a65c_get_915e3) B.pre
  have hown : s.vm.findClass RJx4a65c = some m.cls := findClass_of_methodNamed (x := yJx4a65c_get_915e3) B.named
  have hlocks := B.notSynchronized
  subst hsz
  have hD := hD0.self (sz := s.heap.size)
  generalize hAe : va_A (X ++ PL cy S) s.heap.size = A at hD ⊢
  have hA : ∀ q : Nat, s.heap.size ≤ q → A q := fun q h => by rw [← hAe]; exact Or.inr h
  have hS : va_S A s.heap s.heap [] := va_S.rf
  have hl := lv_entry ([.ref o1, .int x1]) (n := 2) (Nat.le_of_ble_eq_true rfl)
  rw [lg_entry_eq]
  generalize (lg_sl ([.ref o1, .int x1]) ++ List.replicate (2 - (lg_sl ([.ref o1, .int x1])).length) Slot.unset).toArray = ls at hl ⊢
  have hl : lv_has ls 2 [(0, .ref o1), (1, .int x1)] := hl
  refine lv_iload_n hx hb dJx4a65c_get_915e3_0 rfl (lv_at hl 1 rfl) ?_
  refine lv_aload_n hx hb dJx4a65c_get_915e3_1 rfl (lv_at hl 0 rfl) ?_
  obtain ⟨k1, gk1, hk1⟩ := wGt (cy := cy) X S h_o1.1 h_o1.2.1
  refine va_get (D := D) (ci := 3) (v := .int (S.I o1 2)) (C := RJx4a65c) (T := TJx4a65c) (N := 3) hx hb hts hi_Jx4a65c_get_915e3_Jx4a65c hown hK hP k1 hk1 rfl 2 (by decide) (hts (.fieldLink RJx4a65c 48 "java/util/ArrayList" "size" "I") (by decide +kernel)) (fun _ h9 => h9) rfl dJx4a65c_get_915e3_2 ?_
  have hFc := free_all hD hS hA
  refine va_calli (va_runS (As := [.int x1, .int (S.I o1 2)]) (rest := []) ⟨hx, hb, hml, hown, hts⟩ (c_J15_checkIndex_7cf53 l (cy := cy) (X := X) (D := D) S _ x1 (S.I o1 2) (by omega)) (va_cwS 2 hts gJx4a65c_get_915e3_J15_checkIndex_7cf53 rfl rfl rfl (by decide +kernel) ⟨Nat.le_of_ble_eq_true rfl, Nat.le_of_ble_eq_true rfl⟩) (pS hP hK hD hN) rfl rfl hl.1 rfl (lv_room (Nat.le_of_ble_eq_true rfl)) dJx4a65c_get_915e3_5 ⟨(Nat.zero_le _), (Nat.zero_le _)⟩) hS (fun q _ h => hFc q h) hFc (fun r2 u t H1 locs ht hvm hw hB hz1 hk1 hS => ?_)
  clear hw
  obtain ⟨hP, hD⟩ := wd_post hFc ht hB
  generalize H1 = H at hP hS ⊢
  refine lv_pop hx hb dJx4a65c_get_915e3_8 rfl ?_
  refine lv_aload_n hx hb dJx4a65c_get_915e3_9 rfl (lv_at hl 0 rfl) ?_
  refine lv_iload_n hx hb dJx4a65c_get_915e3_10 rfl (lv_at hl 1 rfl) ?_
  have hFc := free_all hD hS hA
  obtain ⟨k3, gk3, hk3⟩ := wGt (cy := cy) X S h_o1.1 h_o1.2.1
  refine va_callq (va_runV (As := [.int x1]) (rest := []) ⟨hx, hb, hml, hown, hts⟩ (c_Jx4a65c_elementData_915e3 l (cy := cy) (X := X) (D := D) S _ o1 h_o1 x1 (hW) (by omega)) (cwV 1 hts gJx4a65c_get_915e3_Jx4a65c_elementData_915e3 rfl rfl rfl hd_Jx4a65c_elementData_915e3 ⟨Nat.le_of_ble_eq_true rfl, Nat.le_of_ble_eq_true rfl⟩) (pV (va_recv hK hP (q := (RJx4a65c, TJx4a65c, 3)) (ci := 3) (q0 := k3) rfl hk3) hP hK hD hN) rfl rfl hl.1 rfl (lv_room (Nat.le_of_ble_eq_true rfl)) dJx4a65c_get_915e3_11 ⟨(Nat.zero_le _), (Nat.zero_le _)⟩) hS (fun q _ h => hFc q h) hFc (fun r4 u t H1 locs ht hvm hw hB hz1 hk1 hS => ?_)
  obtain ⟨r4, rfl, c5, o6⟩ := hw
  obtain ⟨hP, hD⟩ := wd_post hFc ht hB
  generalize H1 = H at hP hS ⊢
  have o6k : isA S r4 (S.n o1) := by rw [← show _ = (S.n o1) from rfl]; exact o6
  refine W.eq (g2 := F0 m 14 ls [.ref r4]) rfl ?_
  refine W.widen (k := 0) (n := 0) (Nat.le_of_ble_eq_true rfl) (Nat.le_of_ble_eq_true rfl) ?_
  exact W.aret (v := .ref r4) hx hb hr (Or.inl ⟨_, rfl⟩) (Or.inr ⟨_, rfl⟩) (fun t ht hW9 => ⟨⟨some r4, (), rfl, ⟨r4, rfl, (by show r4 = f_Jx4a65c_get_915e3 S o1 x1; unfold f_Jx4a65c_get_915e3; rw [l1_eq c5.symm]), o6k⟩, wd_end hP hK hD ht hW9.alike⟩, hS.F ht⟩) hS.2.2 dJx4a65c_get_915e3_14 hlocks
