theorem dJ9_floorMod_7cf53_0 : decode cJ9_floorMod_7cf53 0 = .ok (.iload_n 0, 1) := by decide +kernel
theorem dJ9_floorMod_7cf53_1 : decode cJ9_floorMod_7cf53 1 = .ok (.iload_n 1, 1) := by decide +kernel
theorem dJ9_floorMod_7cf53_2 : decode cJ9_floorMod_7cf53 2 = .ok (.irem, 1) := by decide +kernel
theorem dJ9_floorMod_7cf53_3 : decode cJ9_floorMod_7cf53 3 = .ok (.istore_n 2, 1) := by decide +kernel
theorem dJ9_floorMod_7cf53_4 : decode cJ9_floorMod_7cf53 4 = .ok (.iload_n 0, 1) := by decide +kernel
theorem dJ9_floorMod_7cf53_5 : decode cJ9_floorMod_7cf53 5 = .ok (.iload_n 1, 1) := by decide +kernel
theorem dJ9_floorMod_7cf53_6 : decode cJ9_floorMod_7cf53 6 = .ok (.ixor, 1) := by decide +kernel
theorem dJ9_floorMod_7cf53_7 : decode cJ9_floorMod_7cf53 7 = .ok (.ifCond .ge 11, 3) := by decide +kernel
theorem dJ9_floorMod_7cf53_10 : decode cJ9_floorMod_7cf53 10 = .ok (.iload_n 2, 1) := by decide +kernel
theorem dJ9_floorMod_7cf53_11 : decode cJ9_floorMod_7cf53 11 = .ok (.ifCond .eq 7, 3) := by decide +kernel
theorem dJ9_floorMod_7cf53_14 : decode cJ9_floorMod_7cf53 14 = .ok (.iload_n 2, 1) := by decide +kernel
theorem dJ9_floorMod_7cf53_15 : decode cJ9_floorMod_7cf53 15 = .ok (.iload_n 1, 1) := by decide +kernel
theorem dJ9_floorMod_7cf53_16 : decode cJ9_floorMod_7cf53 16 = .ok (.iadd, 1) := by decide +kernel
theorem dJ9_floorMod_7cf53_17 : decode cJ9_floorMod_7cf53 17 = .ok (.ireturn, 1) := by decide +kernel
theorem dJ9_floorMod_7cf53_18 : decode cJ9_floorMod_7cf53 18 = .ok (.iload_n 2, 1) := by decide +kernel
theorem dJ9_floorMod_7cf53_19 : decode cJ9_floorMod_7cf53 19 = .ok (.ireturn, 1) := by decide +kernel
def f_J9_floorMod_7cf53 (x1 : Int32) (x2 : Int32) : Int32 := if (0 : Int32) ≤ (x1 ^^^ x2) then x1 - x1 / x2 * x2 else if (x1 - x1 / x2 * x2) = (0 : Int32) then x1 - x1 / x2 * x2 else (x1 - x1 / x2 * x2) + x2
set_option maxHeartbeats 4000000 in
set_option maxRecDepth 100000 in
theorem c_J9_floorMod_7cf53 (l : Launch) {D : va_G} {cy : Nat → ClassId} {X : va_W} (S : wPS) (sz : Nat) (x1 : Int32) (x2 : Int32) (hy : ¬ x2 = 0) : Met l yJ9_floorMod_7cf53 wsJ9_floorMod_7cf53 ({ frames := 0, cells := 0, slots := 0, locals := 0 }) (va_Pc [.int x1, .int x2] (fun U => U.heap.size = sz ∧ WD D cy X (fun _ => True) S U ∧ NW U)) (va_Qi (fun r (_ : Unit) => r = f_J9_floorMod_7cf53 x1 x2) (fun _ t => WD D cy X (va_A (X ++ PL cy S) sz) S t) (va_A (X ++ PL cy S) sz)) 0 0 (va_A (X ++ PL cy S) sz) := by
  refine Met.ofW (cc := cJ9_floorMod_7cf53) (maxL := 3) (ret := (some .int)) (by decide) rfl ?_
  intro p e s m args below meth c s₁ B hml hv
  obtain ⟨rfl, hsz, ⟨hP, hK, hD0⟩, hN⟩ := hv
  have hx := B.exec
  have hb := B.bytes
  have hr := B.returns
  have hts := atoms_spec (ws := wsJ9_floorMod_7cf53) B.pre
  have hown : s.vm.findClass RJ9 = some m.cls := findClass_of_methodNamed B.named
  have hlocks := B.notSynchronized
  subst hsz
  have hD := hD0.self (sz := s.heap.size)
  generalize hAe : va_A (X ++ PL cy S) s.heap.size = A at hD ⊢
  have hA : ∀ q : Nat, s.heap.size ≤ q → A q := fun q h => by rw [← hAe]; exact Or.inr h
  have hS : va_S A s.heap s.heap [] := va_S.rf
  have hl := lv_entry ([.int x1, .int x2]) (n := 3) (Nat.le_of_ble_eq_true rfl)
  rw [lg_entry_eq]
  generalize (lg_sl ([.int x1, .int x2]) ++ List.replicate (3 - (lg_sl ([.int x1, .int x2])).length) Slot.unset).toArray = ls at hl ⊢
  have hl : lv_has ls 3 [(0, .int x1), (1, .int x2)] := hl
  refine lv_iload_n hx hb dJ9_floorMod_7cf53_0 rfl (lv_at hl 0 rfl) ?_
  refine lv_iload_n hx hb dJ9_floorMod_7cf53_1 rfl (lv_at hl 1 rfl) ?_
  refine lv_irem hx hb dJ9_floorMod_7cf53_2 (hy) ?_
  refine lv_istore_n (lv' := [(2, .int (x1 - x1 / x2 * x2)), (0, .int x1), (1, .int x2)]) hx hb dJ9_floorMod_7cf53_3 rfl hl (by decide) rfl (fun ls hl => ?_)
  refine lv_iload_n hx hb dJ9_floorMod_7cf53_4 rfl (lv_at hl 1 rfl) ?_
  refine lv_iload_n hx hb dJ9_floorMod_7cf53_5 rfl (lv_at hl 2 rfl) ?_
  refine lv_ixor hx hb dJ9_floorMod_7cf53_6 ?_
  refine lv_if_ge (tgt := 18) hx hb dJ9_floorMod_7cf53_7 (by decide) (fun c1 => ?_) (fun c1 => ?_)
  · refine lv_iload_n hx hb dJ9_floorMod_7cf53_18 rfl (lv_at hl 0 rfl) ?_
    exact W.iret (v := x1 - x1 / x2 * x2) hx hb hr (fun t ht hW => ⟨⟨x1 - x1 / x2 * x2, (), rfl, (by show (x1 - x1 / x2 * x2) = f_J9_floorMod_7cf53 x1 x2; unfold f_J9_floorMod_7cf53; rw [if_pos c1]), wd_end hP hK hD ht hW.alike⟩, hS.F ht⟩) hS.2.2 dJ9_floorMod_7cf53_19 hlocks
  · refine lv_iload_n hx hb dJ9_floorMod_7cf53_10 rfl (lv_at hl 0 rfl) ?_
    refine lv_if_eq (tgt := 18) hx hb dJ9_floorMod_7cf53_11 (by decide) (fun c2 => ?_) (fun c2 => ?_)
    · refine lv_iload_n hx hb dJ9_floorMod_7cf53_18 rfl (lv_at hl 0 rfl) ?_
      exact W.iret (v := x1 - x1 / x2 * x2) hx hb hr (fun t ht hW => ⟨⟨x1 - x1 / x2 * x2, (), rfl, (by show (x1 - x1 / x2 * x2) = f_J9_floorMod_7cf53 x1 x2; unfold f_J9_floorMod_7cf53; rw [if_neg c1, if_pos c2]), wd_end hP hK hD ht hW.alike⟩, hS.F ht⟩) hS.2.2 dJ9_floorMod_7cf53_19 hlocks
    · refine lv_iload_n hx hb dJ9_floorMod_7cf53_14 rfl (lv_at hl 0 rfl) ?_
      refine lv_iload_n hx hb dJ9_floorMod_7cf53_15 rfl (lv_at hl 2 rfl) ?_
      refine lv_iadd hx hb dJ9_floorMod_7cf53_16 ?_
      exact W.iret (v := (x1 - x1 / x2 * x2) + x2) hx hb hr (fun t ht hW => ⟨⟨(x1 - x1 / x2 * x2) + x2, (), rfl, (by show ((x1 - x1 / x2 * x2) + x2) = f_J9_floorMod_7cf53 x1 x2; unfold f_J9_floorMod_7cf53; rw [if_neg c1, if_neg c2]), wd_end hP hK hD ht hW.alike⟩, hS.F ht⟩) hS.2.2 dJ9_floorMod_7cf53_17 hlocks
theorem le_msb (x : Int32) : 0 ≤ x ↔ x.toBitVec.msb = false := by
  rw [Int32.le_iff_toInt_le, BitVec.msb_eq_toInt]
  have h4 : (0 : Int32).toInt = 0 := rfl
  rw [h4, decide_eq_false_iff_not]
  show _ ↔ ¬ x.toInt < 0
  omega
theorem xor_nn {x y : Int32} (hy : 0 ≤ y) : 0 ≤ x ^^^ y ↔ 0 ≤ x := by
  rw [le_msb, le_msb, Int32.toBitVec_xor, BitVec.msb_xor, (le_msb y).mp hy, Bool.xor_false]
theorem rem_eq {x y : Int32} (hy : 0 < y.toInt) : (x - x / y * y).toInt = x.toInt.tmod y.toInt := by
  have hy2 := t_rng y
  have h1 : x.toInt - x.toInt.tdiv y.toInt * y.toInt = x.toInt.tmod y.toInt := by
    have := Int.tmod_def x.toInt y.toInt
    rw [Int.mul_comm] at this
    omega
  have h2 := tmod_bounds (a := x.toInt) hy
  rw [Int32.toInt_sub, Int32.toInt_mul, Int32.toInt_div, Int.bmod_mul_bmod, Int.sub_bmod_bmod, h1]
  exact Int.bmod_eq_of_le (by omega) (by omega)
theorem fm_rng {x y : Int32} (hy : 0 < y.toInt) : 0 ≤ (f_J9_floorMod_7cf53 x y).toInt ∧ (f_J9_floorMod_7cf53 x y).toInt < y.toInt := by
  have hy0 : 0 ≤ y := Int32.le_iff_toInt_le.mpr (by have h4 : (0 : Int32).toInt = 0 := rfl; rw [h4]; omega)
  have hr := rem_eq (x := x) hy
  have h2 := tmod_bounds (a := x.toInt) hy
  have hyr := t_rng y
  unfold f_J9_floorMod_7cf53
  split
  · rename_i h
    have h3 := z_le ((xor_nn hy0).mp h)
    have h4 := Int.tmod_nonneg y.toInt h3
    rw [hr]; omega
  · rename_i h
    have h3 : ¬ 0 ≤ x := fun q => h ((xor_nn hy0).mpr q)
    have h5 : x.toInt < 0 := by
      have h6 : ¬ (0 : Int32).toInt ≤ x.toInt := fun q => h3 (Int32.le_iff_toInt_le.mpr q)
      have h4 : (0 : Int32).toInt = 0 := rfl
      rw [h4] at h6; omega
    have h6 : x.toInt.tmod y.toInt ≤ 0 := by
      have := Int.tmod_nonneg (a := -x.toInt) y.toInt (by omega)
      rw [Int.neg_tmod] at this
      omega
    split
    · rename_i h7
      rw [h7]
      have h4 : (0 : Int32).toInt = 0 := rfl
      rw [h4]; omega
    · rename_i h7
      have h8 : ¬ (x - x / y * y).toInt = 0 := fun q => h7 (Int32.toInt_inj.mp q)
      rw [t_add (by rw [hr]; omega), hr]
      rw [hr] at h8
      omega
