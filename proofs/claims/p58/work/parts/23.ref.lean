def f_X12_in (x1 : Int64) (x2 : Int64) (x3 : Int64) : Int32 := if (lg_cmp x1 x2) < (0 : Int32) then (0 : Int32) else if (0 : Int32) < (lg_cmp x1 x3) then (0 : Int32) else (1 : Int32)
theorem f_X12_in_b (x1 : Int64) (x2 : Int64) (x3 : Int64) : narrow .boolean (.int (f_X12_in x1 x2 x3)) = .int (f_X12_in x1 x2 x3) := by
  unfold f_X12_in; (repeat' split) <;> rfl
theorem hd_X12_in : yX12_in.cls = RX12 ∧ yX12_in.cls ≠ "java/lang/invoke/MethodHandle" ∧ yX12_in.cls ≠ "java/lang/invoke/VarHandle" ∧ (parseMethodDescriptor yX12_in.desc).map (fun d => d.parameters.length) = some 3 := by decide +kernel
set_option maxHeartbeats 4000000 in
set_option maxRecDepth 100000 in
theorem c_X12_in (l : Launch) {D : va_G} {cy : Nat → ClassId} {X : va_W} (S : wPS) (sz : Nat) (x1 : Int64) (x2 : Int64) (x3 : Int64)  : Met l yX12_in wsX12_in ({ frames := 0, cells := 0, slots := 0, locals := 0 }) (va_Pc [.long x1, .long x2, .long x3] (fun U => U.heap.size = sz ∧ WD D cy X (fun _ => True) S U ∧ NW U)) (va_Qi (fun r (_ : Unit) => r = f_X12_in x1 x2 x3) (fun _ t => WD D cy X (va_A (X ++ PL cy S) sz) S t) (va_A (X ++ PL cy S) sz)) 0 0 (va_A (X ++ PL cy S) sz) := by
  refine Met.ofW (cc := cX12_in) (maxL := 6) (ret := (some .boolean)) (by decide) rfl ?_
  intro p e s m args below meth c s₁ B hml hv
  obtain ⟨rfl, hsz, ⟨hP, hK, hD0⟩, hN⟩ := hv
  have hx := B.exec
  have hb := B.bytes
  have hr := B.returns
  have hts := atoms_spec (ws := wsX12_in) B.pre
  have hown : s.vm.findClass RX12 = some m.cls := findClass_of_methodNamed (x := yX12_in) B.named
  have hlocks := B.notSynchronized
  subst hsz
  have hD := hD0.self (sz := s.heap.size)
  generalize hAe : va_A (X ++ PL cy S) s.heap.size = A at hD ⊢
  have hA : ∀ q : Nat, s.heap.size ≤ q → A q := fun q h => by rw [← hAe]; exact Or.inr h
  have hS : va_S A s.heap s.heap [] := va_S.rf
  have hl := lv_entry ([.long x1, .long x2, .long x3]) (n := 6) (Nat.le_of_ble_eq_true rfl)
  rw [lg_entry_eq]
  generalize (lg_sl ([.long x1, .long x2, .long x3]) ++ List.replicate (6 - (lg_sl ([.long x1, .long x2, .long x3])).length) Slot.unset).toArray = ls at hl ⊢
  have hl : lv_has ls 6 [(0, .long x1), (2, .long x2), (4, .long x3)] := hl
  refine lv_lload_n hx hb dX12_in_0 rfl (lv_at hl 0 rfl) ?_
  refine lv_lload_n hx hb dX12_in_1 rfl (lv_at hl 1 rfl) ?_
  refine W.lcmp hx hb dX12_in_2 ?_
  refine lv_if_lt (tgt := 17) hx hb dX12_in_3 (by decide) (fun c1 => ?_) (fun c1 => ?_)
  · have c1i := lc_lt c1
    refine lv_iconst (v := 0) hx hb dX12_in_17 (by decide) ?_
    refine W.widen (k := 0) (n := 0) (Nat.le_of_ble_eq_true rfl) (Nat.le_of_ble_eq_true rfl) ?_
    exact W.zret (v := (0 : Int32)) hx hb hr (by rfl) (fun t ht hW9 => ⟨⟨(0 : Int32), (), rfl, (by show (0 : Int32) = f_X12_in x1 x2 x3; unfold f_X12_in; rw [if_pos c1]), wd_end hP hK hD ht hW9.alike⟩, hS.F ht⟩) hS.2.2 dX12_in_18 hlocks
  · have c1i := lc_nlt c1
    refine lv_lload_n hx hb dX12_in_6 rfl (lv_at hl 0 rfl) ?_
    refine lv_lload hx hb dX12_in_7 (lv_at hl 2 rfl) ?_
    refine W.lcmp hx hb dX12_in_9 ?_
    refine lv_if_gt (tgt := 17) hx hb dX12_in_10 (by decide) (fun c2 => ?_) (fun c2 => ?_)
    · have c2i := lc_gt c2
      refine lv_iconst (v := 0) hx hb dX12_in_17 (by decide) ?_
      refine W.widen (k := 0) (n := 0) (Nat.le_of_ble_eq_true rfl) (Nat.le_of_ble_eq_true rfl) ?_
      exact W.zret (v := (0 : Int32)) hx hb hr (by rfl) (fun t ht hW9 => ⟨⟨(0 : Int32), (), rfl, (by show (0 : Int32) = f_X12_in x1 x2 x3; unfold f_X12_in; rw [if_neg c1, if_pos c2]), wd_end hP hK hD ht hW9.alike⟩, hS.F ht⟩) hS.2.2 dX12_in_18 hlocks
    · have c2i := lc_ngt c2
      refine lv_iconst (v := 1) hx hb dX12_in_13 (by decide) ?_
      refine lv_goto (tgt := 18) hx hb dX12_in_14 (by decide) ?_
      refine W.widen (k := 0) (n := 0) (Nat.le_of_ble_eq_true rfl) (Nat.le_of_ble_eq_true rfl) ?_
      exact W.zret (v := (1 : Int32)) hx hb hr (by rfl) (fun t ht hW9 => ⟨⟨(1 : Int32), (), rfl, (by show (1 : Int32) = f_X12_in x1 x2 x3; unfold f_X12_in; rw [if_neg c1, if_neg c2]), wd_end hP hK hD ht hW9.alike⟩, hS.F ht⟩) hS.2.2 dX12_in_18 hlocks
theorem in_rng (x lo hi : Int64) : (f_X12_in x lo hi).toInt = 0 ∨ (lo.toInt ≤ x.toInt ∧ x.toInt ≤ hi.toInt) := by
  unfold f_X12_in
  split
  · exact Or.inl rfl
  · rename_i h
    split
    · exact Or.inl rfl
    · rename_i h2
      exact Or.inr ⟨lc_nlt h, lc_ngt h2⟩
theorem nz_eq {x : Int64} (h : ¬ lg_cmp x 0 = 0) : ¬ x = 0 := fun e => h (by rw [e]; rfl)
theorem sq64 {m x : Int64} (hm : 0 ≤ m.toInt ∧ m.toInt ≤ 3037000499) (h : x.toInt < (m * m).toInt) (hx : 12769 ≤ x.toInt) : 114 ≤ m.toInt := by
  have h1 : m.toInt * m.toInt ≤ 3037000499 * 3037000499 := Int.mul_le_mul hm.2 hm.2 hm.1 (by decide)
  have h0 : 0 ≤ m.toInt * m.toInt := Int.mul_nonneg hm.1 hm.1
  rw [t64_mul ⟨by omega, by omega⟩] at h
  by_cases e : m.toInt ≤ 113
  · have h2 : m.toInt * m.toInt ≤ 113 * 113 := Int.mul_le_mul e e hm.1 (by decide)
    omega
  · omega
theorem mid64 {a b : Int64} (ha : 0 ≤ a.toInt ∧ a.toInt ≤ 3037000499) (hb : 0 ≤ b.toInt ∧ b.toInt ≤ 3037000499) : ((a + b) / 2).toInt = (a.toInt + b.toInt) / 2 := by
  have e := t64_add (x := a) (y := b) ⟨by omega, by omega⟩
  rw [t64_divl (n := 2) rfl (by omega) (by decide), e]
theorem ac_nz {x y : Int32} (hx : 6 ≤ x.toInt ∧ x.toInt ≤ 200) (hy : 500 ≤ y.toInt ∧ y.toInt ≤ 10000) : ¬ x.toInt64 * y.toInt64 = 0 := fun e => by
  have h1 : x.toInt * y.toInt ≤ 200 * 10000 := Int.mul_le_mul hx.2 hy.2 (by omega) (by decide)
  have h2 : 6 * 500 ≤ x.toInt * y.toInt := Int.mul_le_mul hx.1 hy.1 (by decide) (by omega)
  have h3 : (x.toInt64 * y.toInt64).toInt = x.toInt * y.toInt := by rw [t64_mul (by rw [i64_i, i64_i]; omega), i64_i, i64_i]
  rw [e] at h3
  have h4 : (0 : Int64).toInt = 0 := rfl
  omega
def f_X12_root_L15 (x1 : Int64) : Nat → Int64 → Int64 → Int64 × Int64
  | 0, w15_2, w15_4 => (w15_2, w15_4)
  | n + 1, w15_2, w15_4 => if (lg_cmp (w15_4 - w15_2) (1 : Int64)) ≤ (0 : Int32) then (w15_2, w15_4) else if (0 : Int32) < (lg_cmp (((w15_2 + w15_4) / (2 : Int64)) * ((w15_2 + w15_4) / (2 : Int64))) x1) then f_X12_root_L15 x1 n w15_2 ((w15_2 + w15_4) / (2 : Int64)) else f_X12_root_L15 x1 n ((w15_2 + w15_4) / (2 : Int64)) w15_4
theorem f_X12_root_L15_s (x1 : Int64) (n : Nat) (w15_2 : Int64) (w15_4 : Int64) : f_X12_root_L15 x1 (n + 1) w15_2 w15_4 = if (lg_cmp (w15_4 - w15_2) (1 : Int64)) ≤ (0 : Int32) then (w15_2, w15_4) else if (0 : Int32) < (lg_cmp (((w15_2 + w15_4) / (2 : Int64)) * ((w15_2 + w15_4) / (2 : Int64))) x1) then f_X12_root_L15 x1 n w15_2 ((w15_2 + w15_4) / (2 : Int64)) else f_X12_root_L15 x1 n ((w15_2 + w15_4) / (2 : Int64)) w15_4 := rfl
def f_X12_root (x1 : Int64) : Int64 := if (0 : Int32) < (lg_cmp x1 (0 : Int64)) then l2 (f_X12_root_L15 x1 3037000500 (0 : Int64) (3037000499 : Int64)) (fun z6 z7 => z6) else (0 : Int64)
theorem hd_X12_root : yX12_root.cls = RX12 ∧ yX12_root.cls ≠ "java/lang/invoke/MethodHandle" ∧ yX12_root.cls ≠ "java/lang/invoke/VarHandle" ∧ (parseMethodDescriptor yX12_root.desc).map (fun d => d.parameters.length) = some 1 := by decide +kernel
set_option maxHeartbeats 4000000 in
set_option maxRecDepth 100000 in
theorem c_X12_root (l : Launch) {D : va_G} {cy : Nat → ClassId} {X : va_W} (S : wPS) (sz : Nat) (x1 : Int64)  : Met l yX12_root wsX12_root ({ frames := 0, cells := 0, slots := 0, locals := 0 }) (va_Pc [.long x1] (fun U => U.heap.size = sz ∧ WD D cy X (fun _ => True) S U ∧ NW U)) (va_Ql (fun r (_ : Unit) => r = f_X12_root x1 ∧ (12769 ≤ x1.toInt → 113 ≤ r.toInt)) (fun _ t => WD D cy X (va_A (X ++ PL cy S) sz) S t) (va_A (X ++ PL cy S) sz)) 0 0 (va_A (X ++ PL cy S) sz) := by
  refine Met.ofW (cc := cX12_root) (maxL := 8) (ret := (some .long)) (by decide) rfl ?_
  intro p e s m args below meth c s₁ B hml hv
  obtain ⟨rfl, hsz, ⟨hP, hK, hD0⟩, hN⟩ := hv
  have hx := B.exec
  have hb := B.bytes
  have hr := B.returns
  have hts := atoms_spec (ws := wsX12_root) B.pre
  have hown : s.vm.findClass RX12 = some m.cls := findClass_of_methodNamed (x := yX12_root) B.named
  have hlocks := B.notSynchronized
  subst hsz
  have hD := hD0.self (sz := s.heap.size)
  generalize hAe : va_A (X ++ PL cy S) s.heap.size = A at hD ⊢
  have hA : ∀ q : Nat, s.heap.size ≤ q → A q := fun q h => by rw [← hAe]; exact Or.inr h
  have hS : va_S A s.heap s.heap [] := va_S.rf
  have hl := lv_entry ([.long x1]) (n := 8) (Nat.le_of_ble_eq_true rfl)
  rw [lg_entry_eq]
  generalize (lg_sl ([.long x1]) ++ List.replicate (8 - (lg_sl ([.long x1])).length) Slot.unset).toArray = ls at hl ⊢
  have hl : lv_has ls 8 [(0, .long x1)] := hl
  refine lv_lload_n hx hb dX12_root_0 rfl (lv_at hl 0 rfl) ?_
  refine lv_lconst (v := 0) hx hb dX12_root_1 (by decide) ?_
  refine W.lcmp hx hb dX12_root_2 ?_
  refine lv_if_gt (tgt := 8) hx hb dX12_root_3 (by decide) (fun c1 => ?_) (fun c1 => ?_)
  · have c1i := lc_gt c1
    refine lv_lconst (v := 0) hx hb dX12_root_8 (by decide) ?_
    refine lv_lstore_n (lv' := [(2, .long (0 : Int64)), (0, .long x1)]) hx hb dX12_root_9 rfl hl (by decide) rfl (fun ls hl => ?_)
    refine lv_ldc2 (own := RX12) (v := 3037000499) hx hb hown (hts (.constantLong RX12 1 (3037000499)) (by decide +kernel)) dX12_root_10 ?_
    have la9 : (0 : Int64).toInt = 0 := rfl
    have lb9 : (3037000499 : Int64).toInt = 3037000499 := rfl
    refine lv_lstore (lv' := [(4, .long (3037000499 : Int64)), (2, .long (0 : Int64)), (0, .long x1)]) hx hb dX12_root_13 hl (by decide) rfl (fun ls hl => ?_)
    have loop15 : ∀ (n : Nat) (w15_2 : Int64) (w15_4 : Int64) (H : Heap) (locs : List Loc) (ls : Array Slot), (w15_4.toInt - w15_2.toInt).toNat < n → 0 ≤ w15_2.toInt ∧ w15_2.toInt < w15_4.toInt ∧ w15_4.toInt ≤ 3037000499 ∧ (12769 ≤ x1.toInt → 114 ≤ w15_4.toInt) → va_P D vwCl (X ++ PL cy S) H → va_S A s.heap H locs → lv_has ls 8 [(4, .long w15_4), (2, .long w15_2), (0, .long x1)] → (∀ (w15_2x : Int64) (w15_4x : Int64) (H : Heap) (locs : List Loc) (ls : Array Slot), 0 ≤ w15_2x.toInt ∧ w15_2x.toInt < w15_4x.toInt ∧ w15_4x.toInt ≤ 3037000499 ∧ (12769 ≤ x1.toInt → 114 ≤ w15_4x.toInt) → w15_4x.toInt ≤ w15_2x.toInt + 1 → va_P D vwCl (X ++ PL cy S) H → va_S A s.heap H locs → lv_has ls 8 [(4, .long w15_4x), (2, .long w15_2x), (0, .long x1)] → f_X12_root_L15 x1 n w15_2 w15_4 = (w15_2x, w15_4x) → W p l e (headSpec wsX12_root ({ frames := 0, cells := 0, slots := 0, locals := 0 } : Room)).room s m [.long x1].toArray below meth c H locs 0 0 (MQ below (va_Ql (fun r (_ : Unit) => r = f_X12_root x1 ∧ (12769 ≤ x1.toInt → 113 ≤ r.toInt)) (fun _ t => WD D cy X A S t) A) [.long x1].toArray s 0 0 A) (F0 m 57 ls [])) → W p l e (headSpec wsX12_root ({ frames := 0, cells := 0, slots := 0, locals := 0 } : Room)).room s m [.long x1].toArray below meth c H locs 0 0 (MQ below (va_Ql (fun r (_ : Unit) => r = f_X12_root x1 ∧ (12769 ≤ x1.toInt → 113 ≤ r.toInt)) (fun _ t => WD D cy X A S t) A) [.long x1].toArray s 0 0 A) (F0 m 15 ls []) := by
      intro n15
      induction n15 with
      | zero => intro w15_2 w15_4 H locs ls hm; exact absurd hm (Nat.not_lt_zero _)
      | succ n15 ih15 =>
        intro w15_2 w15_4 H locs ls hm15 hi15 hP hS hl ko15
        refine lv_lload hx hb dX12_root_15 (lv_at hl 0 rfl) ?_
        refine lv_lload_n hx hb dX12_root_17 rfl (lv_at hl 1 rfl) ?_
        refine lv_lsub hx hb dX12_root_18 ?_
        refine lv_lconst (v := 1) hx hb dX12_root_19 (by decide) ?_
        refine W.lcmp hx hb dX12_root_20 ?_
        have i2 : (w15_4 - w15_2).toInt = w15_4.toInt - w15_2.toInt := t64_sub (by omega)
        have l64_1 : (1 : Int64).toInt = 1 := rfl
        refine lv_if_le (tgt := 57) hx hb dX12_root_21 (by decide) (fun c3 => ?_) (fun c3 => ?_)
        · have c3i := lc_le c3
          exact ko15 w15_2 w15_4 _ _ _ (by omega) (by omega) hP hS (lv_sub hl [0, 1, 2] rfl) (by rw [f_X12_root_L15_s, if_pos c3])
        · have c3i := lc_nle c3
          refine lv_lload_n hx hb dX12_root_24 rfl (lv_at hl 1 rfl) ?_
          refine lv_lload hx hb dX12_root_25 (lv_at hl 0 rfl) ?_
          refine lv_ladd hx hb dX12_root_27 ?_
          refine lv_ldc2 (own := RX12) (v := 2) hx hb hown (hts (.constantLong RX12 3 (2)) (by decide +kernel)) dX12_root_28 ?_
          refine lv_ldiv hx hb dX12_root_31 (by decide) ?_
          refine lv_lstore (lv' := [(6, .long ((w15_2 + w15_4) / (2 : Int64))), (4, .long w15_4), (2, .long w15_2), (0, .long x1)]) hx hb dX12_root_32 hl (by decide) rfl (fun ls hl => ?_)
          refine lv_lload hx hb dX12_root_34 (lv_at hl 0 rfl) ?_
          refine lv_lload hx hb dX12_root_36 (lv_at hl 0 rfl) ?_
          refine lv_lmul hx hb dX12_root_38 ?_
          refine lv_lload_n hx hb dX12_root_39 rfl (lv_at hl 3 rfl) ?_
          refine W.lcmp hx hb dX12_root_40 ?_
          refine lv_if_gt (tgt := 50) hx hb dX12_root_41 (by decide) (fun c4 => ?_) (fun c4 => ?_)
          · have hm := mid64 (a := w15_2) (b := w15_4) (by omega) (by omega)
            have hs := fun q => sq64 (m := ((w15_2 + w15_4) / (2 : Int64))) (x := x1) (by omega) (lc_gt c4) q
            refine lv_lload hx hb dX12_root_50 (lv_at hl 0 rfl) ?_
            refine lv_lstore (lv' := [(4, .long ((w15_2 + w15_4) / (2 : Int64))), (6, .long ((w15_2 + w15_4) / (2 : Int64))), (2, .long w15_2), (0, .long x1)]) hx hb dX12_root_52 hl (by decide) rfl (fun ls hl => ?_)
            refine lv_goto (tgt := 15) hx hb dX12_root_54 (by decide) ?_
            exact ih15 w15_2 ((w15_2 + w15_4) / (2 : Int64)) _ _ _ (Nat.lt_of_lt_of_le (by omega) (Nat.le_of_lt_succ hm15)) (by omega) hP hS (lv_sub hl [0, 2, 3] rfl) (fun w15_2y w15_4y H9 locs9 ls9 i9 o9 P9 S9 l9 hfe => ko15 w15_2y w15_4y H9 locs9 ls9 i9 o9 P9 S9 l9 (Eq.trans (by rw [f_X12_root_L15_s, if_neg c3, if_pos c4]) hfe))
          · have hm := mid64 (a := w15_2) (b := w15_4) (by omega) (by omega)
            refine lv_lload hx hb dX12_root_44 (lv_at hl 0 rfl) ?_
            refine lv_lstore_n (lv' := [(2, .long ((w15_2 + w15_4) / (2 : Int64))), (6, .long ((w15_2 + w15_4) / (2 : Int64))), (4, .long w15_4), (0, .long x1)]) hx hb dX12_root_46 rfl hl (by decide) rfl (fun ls hl => ?_)
            refine lv_goto (tgt := 54) hx hb dX12_root_47 (by decide) ?_
            refine lv_goto (tgt := 15) hx hb dX12_root_54 (by decide) ?_
            exact ih15 ((w15_2 + w15_4) / (2 : Int64)) w15_4 _ _ _ (Nat.lt_of_lt_of_le (by omega) (Nat.le_of_lt_succ hm15)) (by omega) hP hS (lv_sub hl [2, 0, 3] rfl) (fun w15_2y w15_4y H9 locs9 ls9 i9 o9 P9 S9 l9 hfe => ko15 w15_2y w15_4y H9 locs9 ls9 i9 o9 P9 S9 l9 (Eq.trans (by rw [f_X12_root_L15_s, if_neg c3, if_neg c4]) hfe))
    refine loop15 3037000500 (0 : Int64) (3037000499 : Int64) _ _ _ (by omega) (by omega) hP hS (lv_sub hl [0, 1, 2] rfl) (fun z6 z7 H locs ls hi15 ho15 hP hS hl c5 => ?_)
    refine lv_lload_n hx hb dX12_root_57 rfl (lv_at hl 1 rfl) ?_
    refine W.widen (k := 0) (n := 0) (Nat.le_of_ble_eq_true rfl) (Nat.le_of_ble_eq_true rfl) ?_
    exact W.lret (v := z6) hx hb hr (fun t ht hW9 => ⟨⟨z6, (), rfl, ⟨(by show z6 = f_X12_root x1; unfold f_X12_root; rw [if_pos c1, l2_eq c5]), (by omega)⟩, wd_end hP hK hD ht hW9.alike⟩, hS.F ht⟩) hS.2.2 dX12_root_58 hlocks
  · have c1i := lc_ngt c1
    refine lv_lconst (v := 0) hx hb dX12_root_6 (by decide) ?_
    refine W.widen (k := 0) (n := 0) (Nat.le_of_ble_eq_true rfl) (Nat.le_of_ble_eq_true rfl) ?_
    exact W.lret (v := (0 : Int64)) hx hb hr (fun t ht hW9 => ⟨⟨(0 : Int64), (), rfl, ⟨(by show (0 : Int64) = f_X12_root x1; unfold f_X12_root; rw [if_neg c1]), (by omega)⟩, wd_end hP hK hD ht hW9.alike⟩, hS.F ht⟩) hS.2.2 dX12_root_7 hlocks
theorem hd_X12_limitOf : yX12_limitOf.cls = RX12 ∧ yX12_limitOf.cls ≠ "java/lang/invoke/MethodHandle" ∧ yX12_limitOf.cls ≠ "java/lang/invoke/VarHandle" ∧ (parseMethodDescriptor yX12_limitOf.desc).map (fun d => d.parameters.length) = some 1 := by decide +kernel
set_option maxHeartbeats 4000000 in
set_option maxRecDepth 100000 in
theorem c_X12_limitOf (l : Launch) {D : va_G} {cy : Nat → ClassId} {X : va_W} (S : wPS) (sz : Nat) (x1 : Int32)  : Met l yX12_limitOf wsX12_limitOf ({ frames := 0, cells := 0, slots := 0, locals := 0 }) (va_Pc [.int x1] (fun U => U.heap.size = sz ∧ WD D cy X (fun _ => True) S U ∧ NW U)) (va_Qi (fun r (_ : Unit) => True) (fun _ t => WD D cy X (va_A (X ++ PL cy S) sz) S t) (va_A (X ++ PL cy S) sz)) 0 0 (va_A (X ++ PL cy S) sz) := by
  refine Met.ofW (cc := cX12_limitOf) (maxL := 1) (ret := (some .int)) (by decide) rfl ?_
  intro p e s m args below meth c s₁ B hml hv
  obtain ⟨rfl, hsz, ⟨hP, hK, hD0⟩, hN⟩ := hv
  have hx := B.exec
  have hb := B.bytes
  have hr := B.returns
  have hts := atoms_spec (ws := wsX12_limitOf) B.pre
  have hown : s.vm.findClass RX12 = some m.cls := findClass_of_methodNamed (x := yX12_limitOf) B.named
  have hlocks := B.notSynchronized
  subst hsz
  have hD := hD0.self (sz := s.heap.size)
  generalize hAe : va_A (X ++ PL cy S) s.heap.size = A at hD ⊢
  have hA : ∀ q : Nat, s.heap.size ≤ q → A q := fun q h => by rw [← hAe]; exact Or.inr h
  have hS : va_S A s.heap s.heap [] := va_S.rf
  have hl := lv_entry ([.int x1]) (n := 1) (Nat.le_of_ble_eq_true rfl)
  rw [lg_entry_eq]
  generalize (lg_sl ([.int x1]) ++ List.replicate (1 - (lg_sl ([.int x1])).length) Slot.unset).toArray = ls at hl ⊢
  have hl : lv_has ls 1 [(0, .int x1)] := hl
  refine lv_iload_n hx hb dX12_limitOf_0 rfl (lv_at hl 0 rfl) ?_
  by_cases c1 : x1 = (0 : Int32)
  · rw [c1]
    have c1i := eq_i c1
    have l32_0 : (0 : Int32).toInt = 0 := rfl
    refine lv_tableIn (x := 0) (tgt := 64) hx hb dX12_limitOf_1 (by decide) (by decide) rfl (by decide) ?_
    refine lv_iconst (v := 2) hx hb dX12_limitOf_64 (by decide) ?_
    refine W.widen (k := 0) (n := 0) (Nat.le_of_ble_eq_true rfl) (Nat.le_of_ble_eq_true rfl) ?_
    exact W.iret (v := (2 : Int32)) hx hb hr (fun t ht hW9 => ⟨⟨(2 : Int32), (), rfl, trivial, wd_end hP hK hD ht hW9.alike⟩, hS.F ht⟩) hS.2.2 dX12_limitOf_65 hlocks
  have c1i := neq_i c1
  have l32_0 : (0 : Int32).toInt = 0 := rfl
  by_cases c2 : x1 = (1 : Int32)
  · rw [c2]
    have c2i := eq_i c2
    have l32_1 : (1 : Int32).toInt = 1 := rfl
    refine lv_tableIn (x := 1) (tgt := 66) hx hb dX12_limitOf_1 (by decide) (by decide) rfl (by decide) ?_
    refine lv_iconst (v := 3) hx hb dX12_limitOf_66 (by decide) ?_
    refine W.widen (k := 0) (n := 0) (Nat.le_of_ble_eq_true rfl) (Nat.le_of_ble_eq_true rfl) ?_
    exact W.iret (v := (3 : Int32)) hx hb hr (fun t ht hW9 => ⟨⟨(3 : Int32), (), rfl, trivial, wd_end hP hK hD ht hW9.alike⟩, hS.F ht⟩) hS.2.2 dX12_limitOf_67 hlocks
  have c2i := neq_i c2
  have l32_1 : (1 : Int32).toInt = 1 := rfl
  by_cases c3 : x1 = (2 : Int32)
  · rw [c3]
    have c3i := eq_i c3
    have l32_2 : (2 : Int32).toInt = 2 := rfl
    refine lv_tableIn (x := 2) (tgt := 68) hx hb dX12_limitOf_1 (by decide) (by decide) rfl (by decide) ?_
    refine lv_iconst (v := 4) hx hb dX12_limitOf_68 (by decide) ?_
    refine W.widen (k := 0) (n := 0) (Nat.le_of_ble_eq_true rfl) (Nat.le_of_ble_eq_true rfl) ?_
    exact W.iret (v := (4 : Int32)) hx hb hr (fun t ht hW9 => ⟨⟨(4 : Int32), (), rfl, trivial, wd_end hP hK hD ht hW9.alike⟩, hS.F ht⟩) hS.2.2 dX12_limitOf_69 hlocks
  have c3i := neq_i c3
  have l32_2 : (2 : Int32).toInt = 2 := rfl
  by_cases c4 : x1 = (3 : Int32)
  · rw [c4]
    have c4i := eq_i c4
    have l32_3 : (3 : Int32).toInt = 3 := rfl
    refine lv_tableIn (x := 3) (tgt := 70) hx hb dX12_limitOf_1 (by decide) (by decide) rfl (by decide) ?_
    refine lv_bipush (v := 6) hx hb dX12_limitOf_70 (by decide +kernel) ?_
    refine W.widen (k := 0) (n := 0) (Nat.le_of_ble_eq_true rfl) (Nat.le_of_ble_eq_true rfl) ?_
    exact W.iret (v := (6 : Int32)) hx hb hr (fun t ht hW9 => ⟨⟨(6 : Int32), (), rfl, trivial, wd_end hP hK hD ht hW9.alike⟩, hS.F ht⟩) hS.2.2 dX12_limitOf_72 hlocks
  have c4i := neq_i c4
  have l32_3 : (3 : Int32).toInt = 3 := rfl
  by_cases c5 : x1 = (4 : Int32)
  · rw [c5]
    have c5i := eq_i c5
    have l32_4 : (4 : Int32).toInt = 4 := rfl
    refine lv_tableIn (x := 4) (tgt := 73) hx hb dX12_limitOf_1 (by decide) (by decide) rfl (by decide) ?_
    refine lv_bipush (v := 8) hx hb dX12_limitOf_73 (by decide +kernel) ?_
    refine W.widen (k := 0) (n := 0) (Nat.le_of_ble_eq_true rfl) (Nat.le_of_ble_eq_true rfl) ?_
    exact W.iret (v := (8 : Int32)) hx hb hr (fun t ht hW9 => ⟨⟨(8 : Int32), (), rfl, trivial, wd_end hP hK hD ht hW9.alike⟩, hS.F ht⟩) hS.2.2 dX12_limitOf_75 hlocks
  have c5i := neq_i c5
  have l32_4 : (4 : Int32).toInt = 4 := rfl
  by_cases c6 : x1 = (5 : Int32)
  · rw [c6]
    have c6i := eq_i c6
    have l32_5 : (5 : Int32).toInt = 5 := rfl
    refine lv_tableIn (x := 5) (tgt := 76) hx hb dX12_limitOf_1 (by decide) (by decide) rfl (by decide) ?_
    refine lv_bipush (v := 11) hx hb dX12_limitOf_76 (by decide +kernel) ?_
    refine W.widen (k := 0) (n := 0) (Nat.le_of_ble_eq_true rfl) (Nat.le_of_ble_eq_true rfl) ?_
    exact W.iret (v := (11 : Int32)) hx hb hr (fun t ht hW9 => ⟨⟨(11 : Int32), (), rfl, trivial, wd_end hP hK hD ht hW9.alike⟩, hS.F ht⟩) hS.2.2 dX12_limitOf_78 hlocks
  have c6i := neq_i c6
  have l32_5 : (5 : Int32).toInt = 5 := rfl
  by_cases c7 : x1 = (6 : Int32)
  · rw [c7]
    have c7i := eq_i c7
    have l32_6 : (6 : Int32).toInt = 6 := rfl
    refine lv_tableIn (x := 6) (tgt := 79) hx hb dX12_limitOf_1 (by decide) (by decide) rfl (by decide) ?_
    refine lv_bipush (v := 16) hx hb dX12_limitOf_79 (by decide +kernel) ?_
    refine W.widen (k := 0) (n := 0) (Nat.le_of_ble_eq_true rfl) (Nat.le_of_ble_eq_true rfl) ?_
    exact W.iret (v := (16 : Int32)) hx hb hr (fun t ht hW9 => ⟨⟨(16 : Int32), (), rfl, trivial, wd_end hP hK hD ht hW9.alike⟩, hS.F ht⟩) hS.2.2 dX12_limitOf_81 hlocks
  have c7i := neq_i c7
  have l32_6 : (6 : Int32).toInt = 6 := rfl
  by_cases c8 : x1 = (7 : Int32)
  · rw [c8]
    have c8i := eq_i c8
    have l32_7 : (7 : Int32).toInt = 7 := rfl
    refine lv_tableIn (x := 7) (tgt := 82) hx hb dX12_limitOf_1 (by decide) (by decide) rfl (by decide) ?_
    refine lv_bipush (v := 22) hx hb dX12_limitOf_82 (by decide +kernel) ?_
    refine W.widen (k := 0) (n := 0) (Nat.le_of_ble_eq_true rfl) (Nat.le_of_ble_eq_true rfl) ?_
    exact W.iret (v := (22 : Int32)) hx hb hr (fun t ht hW9 => ⟨⟨(22 : Int32), (), rfl, trivial, wd_end hP hK hD ht hW9.alike⟩, hS.F ht⟩) hS.2.2 dX12_limitOf_84 hlocks
  have c8i := neq_i c8
  have l32_7 : (7 : Int32).toInt = 7 := rfl
  by_cases c9 : x1 = (8 : Int32)
  · rw [c9]
    have c9i := eq_i c9
    have l32_8 : (8 : Int32).toInt = 8 := rfl
    refine lv_tableIn (x := 8) (tgt := 85) hx hb dX12_limitOf_1 (by decide) (by decide) rfl (by decide) ?_
    refine lv_bipush (v := 32) hx hb dX12_limitOf_85 (by decide +kernel) ?_
    refine W.widen (k := 0) (n := 0) (Nat.le_of_ble_eq_true rfl) (Nat.le_of_ble_eq_true rfl) ?_
    exact W.iret (v := (32 : Int32)) hx hb hr (fun t ht hW9 => ⟨⟨(32 : Int32), (), rfl, trivial, wd_end hP hK hD ht hW9.alike⟩, hS.F ht⟩) hS.2.2 dX12_limitOf_87 hlocks
  have c9i := neq_i c9
  have l32_8 : (8 : Int32).toInt = 8 := rfl
  by_cases c10 : x1 = (9 : Int32)
  · rw [c10]
    have c10i := eq_i c10
    have l32_9 : (9 : Int32).toInt = 9 := rfl
    refine lv_tableIn (x := 9) (tgt := 88) hx hb dX12_limitOf_1 (by decide) (by decide) rfl (by decide) ?_
    refine lv_bipush (v := 45) hx hb dX12_limitOf_88 (by decide +kernel) ?_
    refine W.widen (k := 0) (n := 0) (Nat.le_of_ble_eq_true rfl) (Nat.le_of_ble_eq_true rfl) ?_
    exact W.iret (v := (45 : Int32)) hx hb hr (fun t ht hW9 => ⟨⟨(45 : Int32), (), rfl, trivial, wd_end hP hK hD ht hW9.alike⟩, hS.F ht⟩) hS.2.2 dX12_limitOf_90 hlocks
  have c10i := neq_i c10
  have l32_9 : (9 : Int32).toInt = 9 := rfl
  by_cases c11 : x1 = (10 : Int32)
  · rw [c11]
    have c11i := eq_i c11
    have l32_10 : (10 : Int32).toInt = 10 := rfl
    refine lv_tableIn (x := 10) (tgt := 91) hx hb dX12_limitOf_1 (by decide) (by decide) rfl (by decide) ?_
    refine lv_bipush (v := 64) hx hb dX12_limitOf_91 (by decide +kernel) ?_
    refine W.widen (k := 0) (n := 0) (Nat.le_of_ble_eq_true rfl) (Nat.le_of_ble_eq_true rfl) ?_
    exact W.iret (v := (64 : Int32)) hx hb hr (fun t ht hW9 => ⟨⟨(64 : Int32), (), rfl, trivial, wd_end hP hK hD ht hW9.alike⟩, hS.F ht⟩) hS.2.2 dX12_limitOf_93 hlocks
  have c11i := neq_i c11
  have l32_10 : (10 : Int32).toInt = 10 := rfl
  by_cases c12 : x1 = (11 : Int32)
  · rw [c12]
    have c12i := eq_i c12
    have l32_11 : (11 : Int32).toInt = 11 := rfl
    refine lv_tableIn (x := 11) (tgt := 94) hx hb dX12_limitOf_1 (by decide) (by decide) rfl (by decide) ?_
    refine lv_bipush (v := 90) hx hb dX12_limitOf_94 (by decide +kernel) ?_
    refine W.widen (k := 0) (n := 0) (Nat.le_of_ble_eq_true rfl) (Nat.le_of_ble_eq_true rfl) ?_
    exact W.iret (v := (90 : Int32)) hx hb hr (fun t ht hW9 => ⟨⟨(90 : Int32), (), rfl, trivial, wd_end hP hK hD ht hW9.alike⟩, hS.F ht⟩) hS.2.2 dX12_limitOf_96 hlocks
  have c12i := neq_i c12
  have l32_11 : (11 : Int32).toInt = 11 := rfl
  refine lv_tableOut (tgt := 97) hx hb dX12_limitOf_1 (by omega) (by decide) ?_
  refine lv_sipush (v := 128) hx hb dX12_limitOf_97 (by decide +kernel) ?_
  refine W.widen (k := 0) (n := 0) (Nat.le_of_ble_eq_true rfl) (Nat.le_of_ble_eq_true rfl) ?_
  exact W.iret (v := (128 : Int32)) hx hb hr (fun t ht hW9 => ⟨⟨(128 : Int32), (), rfl, trivial, wd_end hP hK hD ht hW9.alike⟩, hS.F ht⟩) hS.2.2 dX12_limitOf_100 hlocks
theorem hd_X12_gradeOf : yX12_gradeOf.cls = RX12 ∧ yX12_gradeOf.cls ≠ "java/lang/invoke/MethodHandle" ∧ yX12_gradeOf.cls ≠ "java/lang/invoke/VarHandle" ∧ (parseMethodDescriptor yX12_gradeOf.desc).map (fun d => d.parameters.length) = some 1 := by decide +kernel
set_option maxHeartbeats 4000000 in
set_option maxRecDepth 100000 in
theorem c_X12_gradeOf (l : Launch) {D : va_G} {cy : Nat → ClassId} {X : va_W} (S : wPS) (sz : Nat) (x1 : Int32)  : Met l yX12_gradeOf wsX12_gradeOf ({ frames := 1, cells := 0, slots := 0, locals := 20 }) (va_Pc [.int x1] (fun U => U.heap.size = sz ∧ WD D cy X (fun _ => True) S U ∧ NW U)) (va_Qi (fun r (_ : Unit) => 0 ≤ r.toInt ∧ r.toInt ≤ 13) (fun _ t => WD D cy X (va_A (X ++ PL cy S) sz) S t) (va_A (X ++ PL cy S) sz)) 0 0 (va_A (X ++ PL cy S) sz) := by
  refine Met.ofW (cc := cX12_gradeOf) (maxL := 2) (ret := (some .int)) (by decide) rfl ?_
  intro p e s m args below meth c s₁ B hml hv
  obtain ⟨rfl, hsz, ⟨hP, hK, hD0⟩, hN⟩ := hv
  have hx := B.exec
  have hb := B.bytes
  have hr := B.returns
  have hts := atoms_spec (ws := wsX12_gradeOf) B.pre
  have hown : s.vm.findClass RX12 = some m.cls := findClass_of_methodNamed (x := yX12_gradeOf) B.named
  have hlocks := B.notSynchronized
  subst hsz
  have hD := hD0.self (sz := s.heap.size)
  generalize hAe : va_A (X ++ PL cy S) s.heap.size = A at hD ⊢
  have hA : ∀ q : Nat, s.heap.size ≤ q → A q := fun q h => by rw [← hAe]; exact Or.inr h
  have hS : va_S A s.heap s.heap [] := va_S.rf
  have hl := lv_entry ([.int x1]) (n := 2) (Nat.le_of_ble_eq_true rfl)
  rw [lg_entry_eq]
  generalize (lg_sl ([.int x1]) ++ List.replicate (2 - (lg_sl ([.int x1])).length) Slot.unset).toArray = ls at hl ⊢
  have hl : lv_has ls 2 [(0, .int x1)] := hl
  refine lv_iconst (v := 0) hx hb dX12_gradeOf_0 (by decide) ?_
  refine lv_istore_n (lv' := [(1, .int (0 : Int32)), (0, .int x1)]) hx hb dX12_gradeOf_1 rfl hl (by decide) rfl (fun ls hl => ?_)
  have l32_0 : (0 : Int32).toInt = 0 := rfl
  have loop2 : ∀ (n : Nat) (w2_1 : Int32) (H : Heap) (locs : List Loc) (ls : Array Slot), (13 - w2_1.toInt).toNat < n → 0 ≤ w2_1.toInt ∧ w2_1.toInt ≤ 13 → va_P D vwCl (X ++ PL cy S) H → va_S A s.heap H locs → lv_has ls 2 [(1, .int w2_1), (0, .int x1)] → (∀ (w2_1x : Int32) (H : Heap) (locs : List Loc) (ls : Array Slot), 0 ≤ w2_1x.toInt ∧ w2_1x.toInt ≤ 13 → va_P D vwCl (X ++ PL cy S) H → va_S A s.heap H locs → lv_has ls 2 [(1, .int w2_1x), (0, .int x1)] → W p l e (headSpec wsX12_gradeOf ({ frames := 1, cells := 0, slots := 0, locals := 20 } : Room)).room s m [.int x1].toArray below meth c H locs 0 0 (MQ below (va_Qi (fun r (_ : Unit) => 0 ≤ r.toInt ∧ r.toInt ≤ 13) (fun _ t => WD D cy X A S t) A) [.int x1].toArray s 0 0 A) (F0 m 22 ls [])) → W p l e (headSpec wsX12_gradeOf ({ frames := 1, cells := 0, slots := 0, locals := 20 } : Room)).room s m [.int x1].toArray below meth c H locs 0 0 (MQ below (va_Qi (fun r (_ : Unit) => 0 ≤ r.toInt ∧ r.toInt ≤ 13) (fun _ t => WD D cy X A S t) A) [.int x1].toArray s 0 0 A) (F0 m 2 ls []) := by
    intro n2
    induction n2 with
    | zero => intro w2_1 H locs ls hm; exact absurd hm (Nat.not_lt_zero _)
    | succ n2 ih2 =>
      intro w2_1 H locs ls hm2 hi2 hP hS hl ko2
      refine lv_iload_n hx hb dX12_gradeOf_2 rfl (lv_at hl 0 rfl) ?_
      refine lv_bipush (v := 13) hx hb dX12_gradeOf_3 (by decide +kernel) ?_
      refine lv_icmp_ge (tgt := 22) hx hb dX12_gradeOf_5 (by decide) (fun c1 => ?_) (fun c1 => ?_)
      · have c1i : 13 ≤ w2_1.toInt := le_v rfl rfl c1
        exact ko2 w2_1 _ _ _ (by omega) hP hS (lv_sub hl [0, 1] rfl)
      · have c1i : w2_1.toInt < 13 := nle_v rfl rfl c1
        refine lv_iload_n hx hb dX12_gradeOf_8 rfl (lv_at hl 1 rfl) ?_
        refine lv_iload_n hx hb dX12_gradeOf_9 rfl (lv_at hl 0 rfl) ?_
        have hFc := free_all hD hS hA
        refine va_calli (va_runS (As := [.int w2_1]) (rest := [.int x1]) ⟨hx, hb, hml, hown, hts⟩ (c_X12_limitOf l (cy := cy) (X := X) (D := D) S _ w2_1) (cwS 1 hts gX12_gradeOf_X12_limitOf rfl rfl rfl hd_X12_limitOf ⟨Nat.le_of_ble_eq_true rfl, Nat.le_of_ble_eq_true rfl⟩) (pS hP hK hD hN) rfl rfl hl.1 rfl (lv_room (Nat.le_of_ble_eq_true rfl)) dX12_gradeOf_10 ⟨(Nat.zero_le _), (Nat.zero_le _)⟩) hS (fun q _ h => hFc q h) hFc (fun r2 u t H1 locs ht hvm hw hB hz1 hk1 hS => ?_)
        clear hw
        obtain ⟨hP, hD⟩ := wd_post hFc ht hB
        generalize H1 = H at hP hS ⊢
        refine lv_icmp_le (tgt := 22) hx hb dX12_gradeOf_13 (by decide) (fun c3 => ?_) (fun c3 => ?_)
        · have c3i : x1.toInt ≤ r2.toInt := le_v rfl rfl c3
          exact ko2 w2_1 _ _ _ (by omega) hP hS (lv_sub hl [0, 1] rfl)
        · have c3i : r2.toInt < x1.toInt := nle_v rfl rfl c3
          refine lv_iinc (v := w2_1 + (1 : Int32)) (lv' := [(1, .int (w2_1 + (1 : Int32))), (0, .int x1)]) hx hb dX12_gradeOf_16 hl (k := 0) rfl (by rfl) (by decide) rfl (fun ls hl => ?_)
          refine lv_goto (tgt := 2) hx hb dX12_gradeOf_19 (by decide) ?_
          have l32_1 : (1 : Int32).toInt = 1 := rfl
          have i4 : (w2_1 + (1 : Int32)).toInt = w2_1.toInt + 1 := t_addr (n := 1) rfl (by omega)
          exact ih2 (w2_1 + (1 : Int32)) _ _ _ (Nat.lt_of_lt_of_le (by omega) (Nat.le_of_lt_succ hm2)) (by omega) hP hS (lv_sub hl [0, 1] rfl) ko2
  refine loop2 14 (0 : Int32) _ _ _ (by omega) (by omega) hP hS (lv_sub hl [0, 1] rfl) (fun z6 H locs ls hi2 hP hS hl => ?_)
  refine lv_iload_n hx hb dX12_gradeOf_22 rfl (lv_at hl 0 rfl) ?_
  refine W.widen (k := 0) (n := 0) (Nat.le_of_ble_eq_true rfl) (Nat.le_of_ble_eq_true rfl) ?_
  exact W.iret (v := z6) hx hb hr (fun t ht hW9 => ⟨⟨z6, (), rfl, (by omega), wd_end hP hK hD ht hW9.alike⟩, hS.F ht⟩) hS.2.2 dX12_gradeOf_23 hlocks
def f_X10_across (S : wPS) (o1 : Nat) : Int64 := ((S.I o1 1).toInt64) * ((S.I o1 2).toInt64)
theorem hi_X10_across_X10 : ∀ w ∈ u_ws RX10 TX10 23, w ∈ wsX10_across := by decide +kernel
theorem hd_X10_across : yX10_across.cls = RX10 ∧ yX10_across.cls ≠ "java/lang/invoke/MethodHandle" ∧ yX10_across.cls ≠ "java/lang/invoke/VarHandle" ∧ (parseMethodDescriptor yX10_across.desc).map (fun d => d.parameters.length) = some 0 := by decide +kernel
set_option maxHeartbeats 4000000 in
set_option maxRecDepth 100000 in
theorem c_X10_across (l : Launch) {D : va_G} {cy : Nat → ClassId} {X : va_W} (S : wPS) (sz : Nat) (o1 : Nat) (h_o1 : isA S o1 10)  : Met l yX10_across wsX10_across ({ frames := 0, cells := 0, slots := 0, locals := 0 }) (va_Pc [.ref o1] (fun U => U.heap.size = sz ∧ WD D cy X (fun _ => True) S U ∧ NW U)) (va_Ql (fun r (_ : Unit) => r = f_X10_across S o1) (fun _ t => WD D cy X (va_A (X ++ PL cy S) sz) S t) (va_A (X ++ PL cy S) sz)) 0 0 (va_A (X ++ PL cy S) sz) := by
  refine Met.ofW (cc := cX10_across) (maxL := 1) (ret := (some .long)) (by decide) rfl ?_
  intro p e s m args below meth c s₁ B hml hv
  obtain ⟨rfl, hsz, ⟨hP, hK, hD0⟩, hN⟩ := hv
  have hx := B.exec
  have hb := B.bytes
  have hr := B.returns
  have hts := atoms_spec (ws := wsX10_across) B.pre
  have hown : s.vm.findClass RX10 = some m.cls := findClass_of_methodNamed (x := yX10_across) B.named
  have hlocks := B.notSynchronized
  subst hsz
  have hD := hD0.self (sz := s.heap.size)
  generalize hAe : va_A (X ++ PL cy S) s.heap.size = A at hD ⊢
  have hA : ∀ q : Nat, s.heap.size ≤ q → A q := fun q h => by rw [← hAe]; exact Or.inr h
  have hS : va_S A s.heap s.heap [] := va_S.rf
  have hl := lv_entry ([.ref o1]) (n := 1) (Nat.le_of_ble_eq_true rfl)
  rw [lg_entry_eq]
  generalize (lg_sl ([.ref o1]) ++ List.replicate (1 - (lg_sl ([.ref o1])).length) Slot.unset).toArray = ls at hl ⊢
  have hl : lv_has ls 1 [(0, .ref o1)] := hl
  refine lv_aload_n hx hb dX10_across_0 rfl (lv_at hl 0 rfl) ?_
  obtain ⟨k1, gk1, hk1⟩ := wGt (cy := cy) X S h_o1.1 h_o1.2.1
  refine va_get (D := D) (ci := 14) (v := .int (S.I o1 1)) (C := RX10) (T := TX10) (N := 23) hx hb hts hi_X10_across_X10 hown hK hP k1 hk1 rfl 1 (by decide) (hts (.fieldLink RX10 29 "HobhouseModel$Gear" "teeth" "I") (by decide +kernel)) (fun _ h9 => h9) rfl dX10_across_1 ?_
  refine lv_i2l hx hb dX10_across_4 rfl ?_
  refine lv_aload_n hx hb dX10_across_5 rfl (lv_at hl 0 rfl) ?_
  obtain ⟨k2, gk2, hk2⟩ := wGt (cy := cy) X S h_o1.1 h_o1.2.1
  refine va_get (D := D) (ci := 14) (v := .int (S.I o1 2)) (C := RX10) (T := TX10) (N := 23) hx hb hts hi_X10_across_X10 hown hK hP k2 hk2 rfl 2 (by decide) (hts (.fieldLink RX10 32 "HobhouseModel$Gear" "module" "I") (by decide +kernel)) (fun _ h9 => h9) rfl dX10_across_6 ?_
  refine lv_i2l hx hb dX10_across_9 rfl ?_
  refine lv_lmul hx hb dX10_across_10 ?_
  refine W.widen (k := 0) (n := 0) (Nat.le_of_ble_eq_true rfl) (Nat.le_of_ble_eq_true rfl) ?_
  exact W.lret (v := ((S.I o1 1).toInt64) * ((S.I o1 2).toInt64)) hx hb hr (fun t ht hW9 => ⟨⟨((S.I o1 1).toInt64) * ((S.I o1 2).toInt64), (), rfl, (by show (((S.I o1 1).toInt64) * ((S.I o1 2).toInt64)) = f_X10_across S o1; unfold f_X10_across; rfl), wd_end hP hK hD ht hW9.alike⟩, hS.F ht⟩) hS.2.2 dX10_across_11 hlocks
def f_X10_tip (S : wPS) (o1 : Nat) (x1 : Int32) : Int64 := ((f_X10_across S o1) + ((2 : Int64) * ((S.I o1 2).toInt64))) + ((((2 : Int64) * x1.toInt64) * ((S.I o1 2).toInt64)) / (100 : Int64))
theorem hi_X10_tip_X10 : ∀ w ∈ u_ws RX10 TX10 23, w ∈ wsX10_tip := by decide +kernel
theorem hd_X10_tip : yX10_tip.cls = RX10 ∧ yX10_tip.cls ≠ "java/lang/invoke/MethodHandle" ∧ yX10_tip.cls ≠ "java/lang/invoke/VarHandle" ∧ (parseMethodDescriptor yX10_tip.desc).map (fun d => d.parameters.length) = some 1 := by decide +kernel
set_option maxHeartbeats 4000000 in
set_option maxRecDepth 100000 in
theorem c_X10_tip (l : Launch) {D : va_G} {cy : Nat → ClassId} {X : va_W} (S : wPS) (sz : Nat) (o1 : Nat) (h_o1 : isA S o1 10) (x1 : Int32)  : Met l yX10_tip wsX10_tip ({ frames := 1, cells := 0, slots := 0, locals := 20 }) (va_Pc [.ref o1, .int x1] (fun U => U.heap.size = sz ∧ WD D cy X (fun _ => True) S U ∧ NW U)) (va_Ql (fun r (_ : Unit) => r = f_X10_tip S o1 x1) (fun _ t => WD D cy X (va_A (X ++ PL cy S) sz) S t) (va_A (X ++ PL cy S) sz)) 0 0 (va_A (X ++ PL cy S) sz) := by
  refine Met.ofW (cc := cX10_tip) (maxL := 2) (ret := (some .long)) (by decide) rfl ?_
  intro p e s m args below meth c s₁ B hml hv
  obtain ⟨rfl, hsz, ⟨hP, hK, hD0⟩, hN⟩ := hv
  have hx := B.exec
  have hb := B.bytes
  have hr := B.returns
  have hts := atoms_spec (ws := wsX10_tip) B.pre
  have hown : s.vm.findClass RX10 = some m.cls := findClass_of_methodNamed (x := yX10_tip) B.named
  have hlocks := B.notSynchronized
  subst hsz
  have hD := hD0.self (sz := s.heap.size)
  generalize hAe : va_A (X ++ PL cy S) s.heap.size = A at hD ⊢
  have hA : ∀ q : Nat, s.heap.size ≤ q → A q := fun q h => by rw [← hAe]; exact Or.inr h
  have hS : va_S A s.heap s.heap [] := va_S.rf
  have hl := lv_entry ([.ref o1, .int x1]) (n := 2) (Nat.le_of_ble_eq_true rfl)
  rw [lg_entry_eq]
  generalize (lg_sl ([.ref o1, .int x1]) ++ List.replicate (2 - (lg_sl ([.ref o1, .int x1])).length) Slot.unset).toArray = ls at hl ⊢
  have hl : lv_has ls 2 [(0, .ref o1), (1, .int x1)] := hl
  refine lv_aload_n hx hb dX10_tip_0 rfl (lv_at hl 0 rfl) ?_
  have hFc := free_all hD hS hA
  obtain ⟨k1, gk1, hk1⟩ := wGt (cy := cy) X S h_o1.1 h_o1.2.1
  refine va_calll (va_runV (As := []) (rest := []) ⟨hx, hb, hml, hown, hts⟩ (c_X10_across l (cy := cy) (X := X) (D := D) S _ o1 h_o1) (cwV 0 hts gX10_tip_X10_across rfl rfl rfl hd_X10_across ⟨Nat.le_of_ble_eq_true rfl, Nat.le_of_ble_eq_true rfl⟩) (pV (va_recv hK hP (q := (RX10, TX10, 23)) (ci := 14) (q0 := k1) rfl hk1) hP hK hD hN) rfl rfl hl.1 rfl (lv_room (Nat.le_of_ble_eq_true rfl)) dX10_tip_1 ⟨(Nat.zero_le _), (Nat.zero_le _)⟩) hS (fun q _ h => hFc q h) hFc (fun r2 u t H1 locs ht hvm hw hB hz1 hk1 hS => ?_)
  have c3 := hw
  obtain ⟨hP, hD⟩ := wd_post hFc ht hB
  generalize H1 = H at hP hS ⊢
  obtain rfl : f_X10_across S o1 = r2 := c3.symm
  refine lv_ldc2 (own := RX10) (v := 2) hx hb hown (hts (.constantLong RX10 45 (2)) (by decide +kernel)) dX10_tip_4 ?_
  refine lv_aload_n hx hb dX10_tip_7 rfl (lv_at hl 0 rfl) ?_
  obtain ⟨k4, gk4, hk4⟩ := wGt (cy := cy) X S h_o1.1 h_o1.2.1
  refine va_get (D := D) (ci := 14) (v := .int (S.I o1 2)) (C := RX10) (T := TX10) (N := 23) hx hb hts hi_X10_tip_X10 hown hK hP k4 hk4 rfl 2 (by decide) (hts (.fieldLink RX10 32 "HobhouseModel$Gear" "module" "I") (by decide +kernel)) (fun _ h9 => h9) rfl dX10_tip_8 ?_
  refine lv_i2l hx hb dX10_tip_11 rfl ?_
  refine lv_lmul hx hb dX10_tip_12 ?_
  refine lv_ladd hx hb dX10_tip_13 ?_
  refine lv_ldc2 (own := RX10) (v := 2) hx hb hown (hts (.constantLong RX10 45 (2)) (by decide +kernel)) dX10_tip_14 ?_
  refine lv_iload_n hx hb dX10_tip_17 rfl (lv_at hl 1 rfl) ?_
  refine lv_i2l hx hb dX10_tip_18 rfl ?_
  refine lv_lmul hx hb dX10_tip_19 ?_
  refine lv_aload_n hx hb dX10_tip_20 rfl (lv_at hl 0 rfl) ?_
  obtain ⟨k5, gk5, hk5⟩ := wGt (cy := cy) X S h_o1.1 h_o1.2.1
  refine va_get (D := D) (ci := 14) (v := .int (S.I o1 2)) (C := RX10) (T := TX10) (N := 23) hx hb hts hi_X10_tip_X10 hown hK hP k5 hk5 rfl 2 (by decide) (hts (.fieldLink RX10 32 "HobhouseModel$Gear" "module" "I") (by decide +kernel)) (fun _ h9 => h9) rfl dX10_tip_21 ?_
  refine lv_i2l hx hb dX10_tip_24 rfl ?_
  refine lv_lmul hx hb dX10_tip_25 ?_
  refine lv_ldc2 (own := RX10) (v := 100) hx hb hown (hts (.constantLong RX10 47 (100)) (by decide +kernel)) dX10_tip_26 ?_
  refine lv_ldiv hx hb dX10_tip_29 (by decide) ?_
  refine lv_ladd hx hb dX10_tip_30 ?_
  refine W.widen (k := 0) (n := 0) (Nat.le_of_ble_eq_true rfl) (Nat.le_of_ble_eq_true rfl) ?_
  exact W.lret (v := ((f_X10_across S o1) + ((2 : Int64) * ((S.I o1 2).toInt64))) + ((((2 : Int64) * x1.toInt64) * ((S.I o1 2).toInt64)) / (100 : Int64))) hx hb hr (fun t ht hW9 => ⟨⟨((f_X10_across S o1) + ((2 : Int64) * ((S.I o1 2).toInt64))) + ((((2 : Int64) * x1.toInt64) * ((S.I o1 2).toInt64)) / (100 : Int64)), (), rfl, (by show (((f_X10_across S o1) + ((2 : Int64) * ((S.I o1 2).toInt64))) + ((((2 : Int64) * x1.toInt64) * ((S.I o1 2).toInt64)) / (100 : Int64))) = f_X10_tip S o1 x1; unfold f_X10_tip; rfl), wd_end hP hK hD ht hW9.alike⟩, hS.F ht⟩) hS.2.2 dX10_tip_31 hlocks
def f_X10_isUndercut (S : wPS) (o1 : Nat) (x1 : Int32) : Int32 := if ((100 : Int32) * ((137 : Int32) - ((8 : Int32) * (S.I o1 1)))) ≤ ((137 : Int32) * x1) then (0 : Int32) else (1 : Int32)
theorem f_X10_isUndercut_b (S : wPS) (o1 : Nat) (x1 : Int32) : narrow .boolean (.int (f_X10_isUndercut S o1 x1)) = .int (f_X10_isUndercut S o1 x1) := by
  unfold f_X10_isUndercut; (repeat' split) <;> rfl
theorem hi_X10_isUndercut_X10 : ∀ w ∈ u_ws RX10 TX10 23, w ∈ wsX10_isUndercut := by decide +kernel
theorem hd_X10_isUndercut : yX10_isUndercut.cls = RX10 ∧ yX10_isUndercut.cls ≠ "java/lang/invoke/MethodHandle" ∧ yX10_isUndercut.cls ≠ "java/lang/invoke/VarHandle" ∧ (parseMethodDescriptor yX10_isUndercut.desc).map (fun d => d.parameters.length) = some 1 := by decide +kernel
set_option maxHeartbeats 4000000 in
set_option maxRecDepth 100000 in
theorem c_X10_isUndercut (l : Launch) {D : va_G} {cy : Nat → ClassId} {X : va_W} (S : wPS) (sz : Nat) (o1 : Nat) (h_o1 : isA S o1 10) (x1 : Int32)  : Met l yX10_isUndercut wsX10_isUndercut ({ frames := 0, cells := 0, slots := 0, locals := 0 }) (va_Pc [.ref o1, .int x1] (fun U => U.heap.size = sz ∧ WD D cy X (fun _ => True) S U ∧ NW U)) (va_Qi (fun r (_ : Unit) => r = f_X10_isUndercut S o1 x1) (fun _ t => WD D cy X (va_A (X ++ PL cy S) sz) S t) (va_A (X ++ PL cy S) sz)) 0 0 (va_A (X ++ PL cy S) sz) := by
  refine Met.ofW (cc := cX10_isUndercut) (maxL := 2) (ret := (some .boolean)) (by decide) rfl ?_
  intro p e s m args below meth c s₁ B hml hv
  obtain ⟨rfl, hsz, ⟨hP, hK, hD0⟩, hN⟩ := hv
  have hx := B.exec
  have hb := B.bytes
  have hr := B.returns
  have hts := atoms_spec (ws := wsX10_isUndercut) B.pre
  have hown : s.vm.findClass RX10 = some m.cls := findClass_of_methodNamed (x := yX10_isUndercut) B.named
  have hlocks := B.notSynchronized
  subst hsz
  have hD := hD0.self (sz := s.heap.size)
  generalize hAe : va_A (X ++ PL cy S) s.heap.size = A at hD ⊢
  have hA : ∀ q : Nat, s.heap.size ≤ q → A q := fun q h => by rw [← hAe]; exact Or.inr h
  have hS : va_S A s.heap s.heap [] := va_S.rf
  have hl := lv_entry ([.ref o1, .int x1]) (n := 2) (Nat.le_of_ble_eq_true rfl)
  rw [lg_entry_eq]
  generalize (lg_sl ([.ref o1, .int x1]) ++ List.replicate (2 - (lg_sl ([.ref o1, .int x1])).length) Slot.unset).toArray = ls at hl ⊢
  have hl : lv_has ls 2 [(0, .ref o1), (1, .int x1)] := hl
  refine lv_sipush (v := 137) hx hb dX10_isUndercut_0 (by decide +kernel) ?_
  refine lv_iload_n hx hb dX10_isUndercut_3 rfl (lv_at hl 1 rfl) ?_
  refine lv_imul hx hb dX10_isUndercut_4 ?_
  refine lv_bipush (v := 100) hx hb dX10_isUndercut_5 (by decide +kernel) ?_
  refine lv_sipush (v := 137) hx hb dX10_isUndercut_7 (by decide +kernel) ?_
  refine lv_bipush (v := 8) hx hb dX10_isUndercut_10 (by decide +kernel) ?_
  refine lv_aload_n hx hb dX10_isUndercut_12 rfl (lv_at hl 0 rfl) ?_
  obtain ⟨k1, gk1, hk1⟩ := wGt (cy := cy) X S h_o1.1 h_o1.2.1
  refine va_get (D := D) (ci := 14) (v := .int (S.I o1 1)) (C := RX10) (T := TX10) (N := 23) hx hb hts hi_X10_isUndercut_X10 hown hK hP k1 hk1 rfl 1 (by decide) (hts (.fieldLink RX10 29 "HobhouseModel$Gear" "teeth" "I") (by decide +kernel)) (fun _ h9 => h9) rfl dX10_isUndercut_13 ?_
  refine lv_imul hx hb dX10_isUndercut_16 ?_
  refine lv_isub hx hb dX10_isUndercut_17 ?_
  refine lv_imul hx hb dX10_isUndercut_18 ?_
  refine lv_icmp_ge (tgt := 26) hx hb dX10_isUndercut_19 (by decide) (fun c2 => ?_) (fun c2 => ?_)
  · have c2i : ((100 : Int32) * ((137 : Int32) - ((8 : Int32) * (S.I o1 1)))).toInt ≤ ((137 : Int32) * x1).toInt := le_v rfl rfl c2
    refine lv_iconst (v := 0) hx hb dX10_isUndercut_26 (by decide) ?_
    refine W.widen (k := 0) (n := 0) (Nat.le_of_ble_eq_true rfl) (Nat.le_of_ble_eq_true rfl) ?_
    exact W.zret (v := (0 : Int32)) hx hb hr (by rfl) (fun t ht hW9 => ⟨⟨(0 : Int32), (), rfl, (by show (0 : Int32) = f_X10_isUndercut S o1 x1; unfold f_X10_isUndercut; rw [if_pos c2]), wd_end hP hK hD ht hW9.alike⟩, hS.F ht⟩) hS.2.2 dX10_isUndercut_27 hlocks
  · have c2i : ((137 : Int32) * x1).toInt < ((100 : Int32) * ((137 : Int32) - ((8 : Int32) * (S.I o1 1)))).toInt := nle_v rfl rfl c2
    refine lv_iconst (v := 1) hx hb dX10_isUndercut_22 (by decide) ?_
    refine lv_goto (tgt := 27) hx hb dX10_isUndercut_23 (by decide) ?_
    refine W.widen (k := 0) (n := 0) (Nat.le_of_ble_eq_true rfl) (Nat.le_of_ble_eq_true rfl) ?_
    exact W.zret (v := (1 : Int32)) hx hb hr (by rfl) (fun t ht hW9 => ⟨⟨(1 : Int32), (), rfl, (by show (1 : Int32) = f_X10_isUndercut S o1 x1; unfold f_X10_isUndercut; rw [if_neg c2]), wd_end hP hK hD ht hW9.alike⟩, hS.F ht⟩) hS.2.2 dX10_isUndercut_27 hlocks
def f_X10_isSharp (S : wPS) (o1 : Nat) (x1 : Int32) : Int32 := if ((40 : Int32) * x1) ≤ ((100 : Int32) * ((S.I o1 1) + (10 : Int32))) then (0 : Int32) else (1 : Int32)
theorem f_X10_isSharp_b (S : wPS) (o1 : Nat) (x1 : Int32) : narrow .boolean (.int (f_X10_isSharp S o1 x1)) = .int (f_X10_isSharp S o1 x1) := by
  unfold f_X10_isSharp; (repeat' split) <;> rfl
theorem hi_X10_isSharp_X10 : ∀ w ∈ u_ws RX10 TX10 23, w ∈ wsX10_isSharp := by decide +kernel
theorem hd_X10_isSharp : yX10_isSharp.cls = RX10 ∧ yX10_isSharp.cls ≠ "java/lang/invoke/MethodHandle" ∧ yX10_isSharp.cls ≠ "java/lang/invoke/VarHandle" ∧ (parseMethodDescriptor yX10_isSharp.desc).map (fun d => d.parameters.length) = some 1 := by decide +kernel
set_option maxHeartbeats 4000000 in
set_option maxRecDepth 100000 in
theorem c_X10_isSharp (l : Launch) {D : va_G} {cy : Nat → ClassId} {X : va_W} (S : wPS) (sz : Nat) (o1 : Nat) (h_o1 : isA S o1 10) (x1 : Int32)  : Met l yX10_isSharp wsX10_isSharp ({ frames := 0, cells := 0, slots := 0, locals := 0 }) (va_Pc [.ref o1, .int x1] (fun U => U.heap.size = sz ∧ WD D cy X (fun _ => True) S U ∧ NW U)) (va_Qi (fun r (_ : Unit) => r = f_X10_isSharp S o1 x1) (fun _ t => WD D cy X (va_A (X ++ PL cy S) sz) S t) (va_A (X ++ PL cy S) sz)) 0 0 (va_A (X ++ PL cy S) sz) := by
  refine Met.ofW (cc := cX10_isSharp) (maxL := 2) (ret := (some .boolean)) (by decide) rfl ?_
  intro p e s m args below meth c s₁ B hml hv
  obtain ⟨rfl, hsz, ⟨hP, hK, hD0⟩, hN⟩ := hv
  have hx := B.exec
  have hb := B.bytes
  have hr := B.returns
  have hts := atoms_spec (ws := wsX10_isSharp) B.pre
  have hown : s.vm.findClass RX10 = some m.cls := findClass_of_methodNamed (x := yX10_isSharp) B.named
  have hlocks := B.notSynchronized
  subst hsz
  have hD := hD0.self (sz := s.heap.size)
  generalize hAe : va_A (X ++ PL cy S) s.heap.size = A at hD ⊢
  have hA : ∀ q : Nat, s.heap.size ≤ q → A q := fun q h => by rw [← hAe]; exact Or.inr h
  have hS : va_S A s.heap s.heap [] := va_S.rf
  have hl := lv_entry ([.ref o1, .int x1]) (n := 2) (Nat.le_of_ble_eq_true rfl)
  rw [lg_entry_eq]
  generalize (lg_sl ([.ref o1, .int x1]) ++ List.replicate (2 - (lg_sl ([.ref o1, .int x1])).length) Slot.unset).toArray = ls at hl ⊢
  have hl : lv_has ls 2 [(0, .ref o1), (1, .int x1)] := hl
  refine lv_bipush (v := 40) hx hb dX10_isSharp_0 (by decide +kernel) ?_
  refine lv_iload_n hx hb dX10_isSharp_2 rfl (lv_at hl 1 rfl) ?_
  refine lv_imul hx hb dX10_isSharp_3 ?_
  refine lv_bipush (v := 100) hx hb dX10_isSharp_4 (by decide +kernel) ?_
  refine lv_aload_n hx hb dX10_isSharp_6 rfl (lv_at hl 0 rfl) ?_
  obtain ⟨k1, gk1, hk1⟩ := wGt (cy := cy) X S h_o1.1 h_o1.2.1
  refine va_get (D := D) (ci := 14) (v := .int (S.I o1 1)) (C := RX10) (T := TX10) (N := 23) hx hb hts hi_X10_isSharp_X10 hown hK hP k1 hk1 rfl 1 (by decide) (hts (.fieldLink RX10 29 "HobhouseModel$Gear" "teeth" "I") (by decide +kernel)) (fun _ h9 => h9) rfl dX10_isSharp_7 ?_
  refine lv_bipush (v := 10) hx hb dX10_isSharp_10 (by decide +kernel) ?_
  refine lv_iadd hx hb dX10_isSharp_12 ?_
  refine lv_imul hx hb dX10_isSharp_13 ?_
  refine lv_icmp_le (tgt := 21) hx hb dX10_isSharp_14 (by decide) (fun c2 => ?_) (fun c2 => ?_)
  · have c2i : ((40 : Int32) * x1).toInt ≤ ((100 : Int32) * ((S.I o1 1) + (10 : Int32))).toInt := le_v rfl rfl c2
    refine lv_iconst (v := 0) hx hb dX10_isSharp_21 (by decide) ?_
    refine W.widen (k := 0) (n := 0) (Nat.le_of_ble_eq_true rfl) (Nat.le_of_ble_eq_true rfl) ?_
    exact W.zret (v := (0 : Int32)) hx hb hr (by rfl) (fun t ht hW9 => ⟨⟨(0 : Int32), (), rfl, (by show (0 : Int32) = f_X10_isSharp S o1 x1; unfold f_X10_isSharp; rw [if_pos c2]), wd_end hP hK hD ht hW9.alike⟩, hS.F ht⟩) hS.2.2 dX10_isSharp_22 hlocks
  · have c2i : ((100 : Int32) * ((S.I o1 1) + (10 : Int32))).toInt < ((40 : Int32) * x1).toInt := nle_v rfl rfl c2
    refine lv_iconst (v := 1) hx hb dX10_isSharp_17 (by decide) ?_
    refine lv_goto (tgt := 22) hx hb dX10_isSharp_18 (by decide) ?_
    refine W.widen (k := 0) (n := 0) (Nat.le_of_ble_eq_true rfl) (Nat.le_of_ble_eq_true rfl) ?_
    exact W.zret (v := (1 : Int32)) hx hb hr (by rfl) (fun t ht hW9 => ⟨⟨(1 : Int32), (), rfl, (by show (1 : Int32) = f_X10_isSharp S o1 x1; unfold f_X10_isSharp; rw [if_neg c2]), wd_end hP hK hD ht hW9.alike⟩, hS.F ht⟩) hS.2.2 dX10_isSharp_22 hlocks
def f_X10_line (S : wPS) (o1 : Nat) (x1 : Int32) : Int64 := f_X12_root (((((137 : Int64) * (f_X10_tip S o1 x1)) * (f_X10_tip S o1 x1)) - (((121 : Int64) * (f_X10_across S o1)) * (f_X10_across S o1))) / (137 : Int64))
theorem hd_X10_line : yX10_line.cls = RX10 ∧ yX10_line.cls ≠ "java/lang/invoke/MethodHandle" ∧ yX10_line.cls ≠ "java/lang/invoke/VarHandle" ∧ (parseMethodDescriptor yX10_line.desc).map (fun d => d.parameters.length) = some 1 := by decide +kernel
set_option maxHeartbeats 4000000 in
set_option maxRecDepth 100000 in
theorem c_X10_line (l : Launch) {D : va_G} {cy : Nat → ClassId} {X : va_W} (S : wPS) (sz : Nat) (o1 : Nat) (h_o1 : isA S o1 10) (x1 : Int32)  : Met l yX10_line wsX10_line ({ frames := 2, cells := 0, slots := 0, locals := 41 }) (va_Pc [.ref o1, .int x1] (fun U => U.heap.size = sz ∧ WD D cy X (fun _ => True) S U ∧ NW U)) (va_Ql (fun r (_ : Unit) => r = f_X10_line S o1 x1) (fun _ t => WD D cy X (va_A (X ++ PL cy S) sz) S t) (va_A (X ++ PL cy S) sz)) 0 0 (va_A (X ++ PL cy S) sz) := by
  refine Met.ofW (cc := cX10_line) (maxL := 2) (ret := (some .long)) (by decide) rfl ?_
  intro p e s m args below meth c s₁ B hml hv
  obtain ⟨rfl, hsz, ⟨hP, hK, hD0⟩, hN⟩ := hv
  have hx := B.exec
  have hb := B.bytes
  have hr := B.returns
  have hts := atoms_spec (ws := wsX10_line) B.pre
  have hown : s.vm.findClass RX10 = some m.cls := findClass_of_methodNamed (x := yX10_line) B.named
  have hlocks := B.notSynchronized
  subst hsz
  have hD := hD0.self (sz := s.heap.size)
  generalize hAe : va_A (X ++ PL cy S) s.heap.size = A at hD ⊢
  have hA : ∀ q : Nat, s.heap.size ≤ q → A q := fun q h => by rw [← hAe]; exact Or.inr h
  have hS : va_S A s.heap s.heap [] := va_S.rf
  have hl := lv_entry ([.ref o1, .int x1]) (n := 2) (Nat.le_of_ble_eq_true rfl)
  rw [lg_entry_eq]
  generalize (lg_sl ([.ref o1, .int x1]) ++ List.replicate (2 - (lg_sl ([.ref o1, .int x1])).length) Slot.unset).toArray = ls at hl ⊢
  have hl : lv_has ls 2 [(0, .ref o1), (1, .int x1)] := hl
  refine lv_ldc2 (own := RX10) (v := 137) hx hb hown (hts (.constantLong RX10 49 (137)) (by decide +kernel)) dX10_line_0 ?_
  refine lv_aload_n hx hb dX10_line_3 rfl (lv_at hl 0 rfl) ?_
  refine lv_iload_n hx hb dX10_line_4 rfl (lv_at hl 1 rfl) ?_
  have hFc := free_all hD hS hA
  obtain ⟨k1, gk1, hk1⟩ := wGt (cy := cy) X S h_o1.1 h_o1.2.1
  refine va_calll (va_runV (As := [.int x1]) (rest := [.long (137 : Int64)]) ⟨hx, hb, hml, hown, hts⟩ (c_X10_tip l (cy := cy) (X := X) (D := D) S _ o1 h_o1 x1) (cwV 1 hts gX10_line_X10_tip rfl rfl rfl hd_X10_tip ⟨Nat.le_of_ble_eq_true rfl, Nat.le_of_ble_eq_true rfl⟩) (pV (va_recv hK hP (q := (RX10, TX10, 23)) (ci := 14) (q0 := k1) rfl hk1) hP hK hD hN) rfl rfl hl.1 rfl (lv_room (Nat.le_of_ble_eq_true rfl)) dX10_line_5 ⟨(Nat.zero_le _), (Nat.zero_le _)⟩) hS (fun q _ h => hFc q h) hFc (fun r2 u t H1 locs ht hvm hw hB hz1 hk1 hS => ?_)
  have c3 := hw
  obtain ⟨hP, hD⟩ := wd_post hFc ht hB
  generalize H1 = H at hP hS ⊢
  obtain rfl : f_X10_tip S o1 x1 = r2 := c3.symm
  refine lv_lmul hx hb dX10_line_8 ?_
  refine lv_aload_n hx hb dX10_line_9 rfl (lv_at hl 0 rfl) ?_
  refine lv_iload_n hx hb dX10_line_10 rfl (lv_at hl 1 rfl) ?_
  have hFc := free_all hD hS hA
  obtain ⟨k4, gk4, hk4⟩ := wGt (cy := cy) X S h_o1.1 h_o1.2.1
  refine va_calll (va_runV (As := [.int x1]) (rest := [.long ((137 : Int64) * (f_X10_tip S o1 x1))]) ⟨hx, hb, hml, hown, hts⟩ (c_X10_tip l (cy := cy) (X := X) (D := D) S _ o1 h_o1 x1) (cwV 1 hts gX10_line_X10_tip rfl rfl rfl hd_X10_tip ⟨Nat.le_of_ble_eq_true rfl, Nat.le_of_ble_eq_true rfl⟩) (pV (va_recv hK hP (q := (RX10, TX10, 23)) (ci := 14) (q0 := k4) rfl hk4) hP hK hD hN) rfl rfl hl.1 rfl (lv_room (Nat.le_of_ble_eq_true rfl)) dX10_line_11 ⟨(Nat.zero_le _), (Nat.zero_le _)⟩) hS (fun q _ h => hFc q h) hFc (fun r5 u t H1 locs ht hvm hw hB hz1 hk1 hS => ?_)
  have c6 := hw
  obtain ⟨hP, hD⟩ := wd_post hFc ht hB
  generalize H1 = H at hP hS ⊢
  obtain rfl : f_X10_tip S o1 x1 = r5 := c6.symm
  refine lv_lmul hx hb dX10_line_14 ?_
  refine lv_ldc2 (own := RX10) (v := 121) hx hb hown (hts (.constantLong RX10 55 (121)) (by decide +kernel)) dX10_line_15 ?_
  refine lv_aload_n hx hb dX10_line_18 rfl (lv_at hl 0 rfl) ?_
  have hFc := free_all hD hS hA
  obtain ⟨k7, gk7, hk7⟩ := wGt (cy := cy) X S h_o1.1 h_o1.2.1
  refine va_calll (va_runV (As := []) (rest := [.long (121 : Int64), .long (((137 : Int64) * (f_X10_tip S o1 x1)) * (f_X10_tip S o1 x1))]) ⟨hx, hb, hml, hown, hts⟩ (c_X10_across l (cy := cy) (X := X) (D := D) S _ o1 h_o1) (cwV 0 hts gX10_line_X10_across rfl rfl rfl hd_X10_across ⟨Nat.le_of_ble_eq_true rfl, Nat.le_of_ble_eq_true rfl⟩) (pV (va_recv hK hP (q := (RX10, TX10, 23)) (ci := 14) (q0 := k7) rfl hk7) hP hK hD hN) rfl rfl hl.1 rfl (lv_room (Nat.le_of_ble_eq_true rfl)) dX10_line_19 ⟨(Nat.zero_le _), (Nat.zero_le _)⟩) hS (fun q _ h => hFc q h) hFc (fun r8 u t H1 locs ht hvm hw hB hz1 hk1 hS => ?_)
  have c9 := hw
  obtain ⟨hP, hD⟩ := wd_post hFc ht hB
  generalize H1 = H at hP hS ⊢
  obtain rfl : f_X10_across S o1 = r8 := c9.symm
  refine lv_lmul hx hb dX10_line_22 ?_
  refine lv_aload_n hx hb dX10_line_23 rfl (lv_at hl 0 rfl) ?_
  have hFc := free_all hD hS hA
  obtain ⟨k10, gk10, hk10⟩ := wGt (cy := cy) X S h_o1.1 h_o1.2.1
  refine va_calll (va_runV (As := []) (rest := [.long ((121 : Int64) * (f_X10_across S o1)), .long (((137 : Int64) * (f_X10_tip S o1 x1)) * (f_X10_tip S o1 x1))]) ⟨hx, hb, hml, hown, hts⟩ (c_X10_across l (cy := cy) (X := X) (D := D) S _ o1 h_o1) (cwV 0 hts gX10_line_X10_across rfl rfl rfl hd_X10_across ⟨Nat.le_of_ble_eq_true rfl, Nat.le_of_ble_eq_true rfl⟩) (pV (va_recv hK hP (q := (RX10, TX10, 23)) (ci := 14) (q0 := k10) rfl hk10) hP hK hD hN) rfl rfl hl.1 rfl (lv_room (Nat.le_of_ble_eq_true rfl)) dX10_line_24 ⟨(Nat.zero_le _), (Nat.zero_le _)⟩) hS (fun q _ h => hFc q h) hFc (fun r11 u t H1 locs ht hvm hw hB hz1 hk1 hS => ?_)
  have c12 := hw
  obtain ⟨hP, hD⟩ := wd_post hFc ht hB
  generalize H1 = H at hP hS ⊢
  obtain rfl : f_X10_across S o1 = r11 := c12.symm
  refine lv_lmul hx hb dX10_line_27 ?_
  refine lv_lsub hx hb dX10_line_28 ?_
  refine lv_ldc2 (own := RX10) (v := 137) hx hb hown (hts (.constantLong RX10 49 (137)) (by decide +kernel)) dX10_line_29 ?_
  refine lv_ldiv hx hb dX10_line_32 (by decide) ?_
  have hFc := free_all hD hS hA
  refine va_calll (va_runSN (As := [.long (((((137 : Int64) * (f_X10_tip S o1 x1)) * (f_X10_tip S o1 x1)) - (((121 : Int64) * (f_X10_across S o1)) * (f_X10_across S o1))) / (137 : Int64))]) (rest := []) ⟨hx, hb, hml, hown, hts⟩ (c_X12_root l (cy := cy) (X := X) (D := D) S _ (((((137 : Int64) * (f_X10_tip S o1 x1)) * (f_X10_tip S o1 x1)) - (((121 : Int64) * (f_X10_across S o1)) * (f_X10_across S o1))) / (137 : Int64))) ⟨va_cnB 1 hts gX10_line_X12_root_n57 rfl rfl rfl (hN (.methodLinkNest RX10 57 yX12_root RX12) (by decide +kernel)) (hts (.initialized RX12) (by decide +kernel)) (by decide +kernel) ⟨Nat.le_of_ble_eq_true rfl, Nat.le_of_ble_eq_true rfl⟩, hts (.static yX12_root) (by decide +kernel), trivial⟩ (pS hP hK hD hN) rfl rfl hl.1 rfl (lv_room (Nat.le_of_ble_eq_true rfl)) dX10_line_33 ⟨(Nat.zero_le _), (Nat.zero_le _)⟩) hS (fun q _ h => hFc q h) hFc (fun r13 u t H1 locs ht hvm hw hB hz1 hk1 hS => ?_)
  obtain ⟨c14, y15⟩ := hw
  obtain ⟨hP, hD⟩ := wd_post hFc ht hB
  generalize H1 = H at hP hS ⊢
  obtain rfl : f_X12_root (((((137 : Int64) * (f_X10_tip S o1 x1)) * (f_X10_tip S o1 x1)) - (((121 : Int64) * (f_X10_across S o1)) * (f_X10_across S o1))) / (137 : Int64)) = r13 := c14.symm
  refine W.widen (k := 0) (n := 0) (Nat.le_of_ble_eq_true rfl) (Nat.le_of_ble_eq_true rfl) ?_
  exact W.lret (v := f_X12_root (((((137 : Int64) * (f_X10_tip S o1 x1)) * (f_X10_tip S o1 x1)) - (((121 : Int64) * (f_X10_across S o1)) * (f_X10_across S o1))) / (137 : Int64))) hx hb hr (fun t ht hW9 => ⟨⟨f_X12_root (((((137 : Int64) * (f_X10_tip S o1 x1)) * (f_X10_tip S o1 x1)) - (((121 : Int64) * (f_X10_across S o1)) * (f_X10_across S o1))) / (137 : Int64)), (), rfl, (by show (f_X12_root (((((137 : Int64) * (f_X10_tip S o1 x1)) * (f_X10_tip S o1 x1)) - (((121 : Int64) * (f_X10_across S o1)) * (f_X10_across S o1))) / (137 : Int64))) = f_X10_line S o1 x1; unfold f_X10_line; rfl), wd_end hP hK hD ht hW9.alike⟩, hS.F ht⟩) hS.2.2 dX10_line_36 hlocks
def f_X10_way (S : wPS) (o1 : Nat) (x1 : Int32) : Int64 := (f_X10_line S o1 x1) - (f_X12_root ((((16 : Int64) * (f_X10_across S o1)) * (f_X10_across S o1)) / (137 : Int64)))
theorem hd_X10_way : yX10_way.cls = RX10 ∧ yX10_way.cls ≠ "java/lang/invoke/MethodHandle" ∧ yX10_way.cls ≠ "java/lang/invoke/VarHandle" ∧ (parseMethodDescriptor yX10_way.desc).map (fun d => d.parameters.length) = some 1 := by decide +kernel
set_option maxHeartbeats 4000000 in
set_option maxRecDepth 100000 in
theorem c_X10_way (l : Launch) {D : va_G} {cy : Nat → ClassId} {X : va_W} (S : wPS) (sz : Nat) (o1 : Nat) (h_o1 : isA S o1 10) (x1 : Int32)  : Met l yX10_way wsX10_way ({ frames := 3, cells := 0, slots := 0, locals := 62 }) (va_Pc [.ref o1, .int x1] (fun U => U.heap.size = sz ∧ WD D cy X (fun _ => True) S U ∧ NW U)) (va_Ql (fun r (_ : Unit) => r = f_X10_way S o1 x1) (fun _ t => WD D cy X (va_A (X ++ PL cy S) sz) S t) (va_A (X ++ PL cy S) sz)) 0 0 (va_A (X ++ PL cy S) sz) := by
  refine Met.ofW (cc := cX10_way) (maxL := 2) (ret := (some .long)) (by decide) rfl ?_
  intro p e s m args below meth c s₁ B hml hv
  obtain ⟨rfl, hsz, ⟨hP, hK, hD0⟩, hN⟩ := hv
  have hx := B.exec
  have hb := B.bytes
  have hr := B.returns
  have hts := atoms_spec (ws := wsX10_way) B.pre
  have hown : s.vm.findClass RX10 = some m.cls := findClass_of_methodNamed (x := yX10_way) B.named
  have hlocks := B.notSynchronized
  subst hsz
  have hD := hD0.self (sz := s.heap.size)
  generalize hAe : va_A (X ++ PL cy S) s.heap.size = A at hD ⊢
  have hA : ∀ q : Nat, s.heap.size ≤ q → A q := fun q h => by rw [← hAe]; exact Or.inr h
  have hS : va_S A s.heap s.heap [] := va_S.rf
  have hl := lv_entry ([.ref o1, .int x1]) (n := 2) (Nat.le_of_ble_eq_true rfl)
  rw [lg_entry_eq]
  generalize (lg_sl ([.ref o1, .int x1]) ++ List.replicate (2 - (lg_sl ([.ref o1, .int x1])).length) Slot.unset).toArray = ls at hl ⊢
  have hl : lv_has ls 2 [(0, .ref o1), (1, .int x1)] := hl
  refine lv_aload_n hx hb dX10_way_0 rfl (lv_at hl 0 rfl) ?_
  refine lv_iload_n hx hb dX10_way_1 rfl (lv_at hl 1 rfl) ?_
  have hFc := free_all hD hS hA
  obtain ⟨k1, gk1, hk1⟩ := wGt (cy := cy) X S h_o1.1 h_o1.2.1
  refine va_calll (va_runV (As := [.int x1]) (rest := []) ⟨hx, hb, hml, hown, hts⟩ (c_X10_line l (cy := cy) (X := X) (D := D) S _ o1 h_o1 x1) (cwV 1 hts gX10_way_X10_line rfl rfl rfl hd_X10_line ⟨Nat.le_of_ble_eq_true rfl, Nat.le_of_ble_eq_true rfl⟩) (pV (va_recv hK hP (q := (RX10, TX10, 23)) (ci := 14) (q0 := k1) rfl hk1) hP hK hD hN) rfl rfl hl.1 rfl (lv_room (Nat.le_of_ble_eq_true rfl)) dX10_way_2 ⟨(Nat.zero_le _), (Nat.zero_le _)⟩) hS (fun q _ h => hFc q h) hFc (fun r2 u t H1 locs ht hvm hw hB hz1 hk1 hS => ?_)
  have c3 := hw
  obtain ⟨hP, hD⟩ := wd_post hFc ht hB
  generalize H1 = H at hP hS ⊢
  obtain rfl : f_X10_line S o1 x1 = r2 := c3.symm
  refine lv_ldc2 (own := RX10) (v := 16) hx hb hown (hts (.constantLong RX10 64 (16)) (by decide +kernel)) dX10_way_5 ?_
  refine lv_aload_n hx hb dX10_way_8 rfl (lv_at hl 0 rfl) ?_
  have hFc := free_all hD hS hA
  obtain ⟨k4, gk4, hk4⟩ := wGt (cy := cy) X S h_o1.1 h_o1.2.1
  refine va_calll (va_runV (As := []) (rest := [.long (16 : Int64), .long (f_X10_line S o1 x1)]) ⟨hx, hb, hml, hown, hts⟩ (c_X10_across l (cy := cy) (X := X) (D := D) S _ o1 h_o1) (cwV 0 hts gX10_way_X10_across rfl rfl rfl hd_X10_across ⟨Nat.le_of_ble_eq_true rfl, Nat.le_of_ble_eq_true rfl⟩) (pV (va_recv hK hP (q := (RX10, TX10, 23)) (ci := 14) (q0 := k4) rfl hk4) hP hK hD hN) rfl rfl hl.1 rfl (lv_room (Nat.le_of_ble_eq_true rfl)) dX10_way_9 ⟨(Nat.zero_le _), (Nat.zero_le _)⟩) hS (fun q _ h => hFc q h) hFc (fun r5 u t H1 locs ht hvm hw hB hz1 hk1 hS => ?_)
  have c6 := hw
  obtain ⟨hP, hD⟩ := wd_post hFc ht hB
  generalize H1 = H at hP hS ⊢
  obtain rfl : f_X10_across S o1 = r5 := c6.symm
  refine lv_lmul hx hb dX10_way_12 ?_
  refine lv_aload_n hx hb dX10_way_13 rfl (lv_at hl 0 rfl) ?_
  have hFc := free_all hD hS hA
  obtain ⟨k7, gk7, hk7⟩ := wGt (cy := cy) X S h_o1.1 h_o1.2.1
  refine va_calll (va_runV (As := []) (rest := [.long ((16 : Int64) * (f_X10_across S o1)), .long (f_X10_line S o1 x1)]) ⟨hx, hb, hml, hown, hts⟩ (c_X10_across l (cy := cy) (X := X) (D := D) S _ o1 h_o1) (cwV 0 hts gX10_way_X10_across rfl rfl rfl hd_X10_across ⟨Nat.le_of_ble_eq_true rfl, Nat.le_of_ble_eq_true rfl⟩) (pV (va_recv hK hP (q := (RX10, TX10, 23)) (ci := 14) (q0 := k7) rfl hk7) hP hK hD hN) rfl rfl hl.1 rfl (lv_room (Nat.le_of_ble_eq_true rfl)) dX10_way_14 ⟨(Nat.zero_le _), (Nat.zero_le _)⟩) hS (fun q _ h => hFc q h) hFc (fun r8 u t H1 locs ht hvm hw hB hz1 hk1 hS => ?_)
  have c9 := hw
  obtain ⟨hP, hD⟩ := wd_post hFc ht hB
  generalize H1 = H at hP hS ⊢
  obtain rfl : f_X10_across S o1 = r8 := c9.symm
  refine lv_lmul hx hb dX10_way_17 ?_
  refine lv_ldc2 (own := RX10) (v := 137) hx hb hown (hts (.constantLong RX10 49 (137)) (by decide +kernel)) dX10_way_18 ?_
  refine lv_ldiv hx hb dX10_way_21 (by decide) ?_
  have hFc := free_all hD hS hA
  refine va_calll (va_runSN (As := [.long ((((16 : Int64) * (f_X10_across S o1)) * (f_X10_across S o1)) / (137 : Int64))]) (rest := [.long (f_X10_line S o1 x1)]) ⟨hx, hb, hml, hown, hts⟩ (c_X12_root l (cy := cy) (X := X) (D := D) S _ ((((16 : Int64) * (f_X10_across S o1)) * (f_X10_across S o1)) / (137 : Int64))) ⟨va_cnB 1 hts gX10_way_X12_root_n57 rfl rfl rfl (hN (.methodLinkNest RX10 57 yX12_root RX12) (by decide +kernel)) (hts (.initialized RX12) (by decide +kernel)) (by decide +kernel) ⟨Nat.le_of_ble_eq_true rfl, Nat.le_of_ble_eq_true rfl⟩, hts (.static yX12_root) (by decide +kernel), trivial⟩ (pS hP hK hD hN) rfl rfl hl.1 rfl (lv_room (Nat.le_of_ble_eq_true rfl)) dX10_way_22 ⟨(Nat.zero_le _), (Nat.zero_le _)⟩) hS (fun q _ h => hFc q h) hFc (fun r10 u t H1 locs ht hvm hw hB hz1 hk1 hS => ?_)
  obtain ⟨c11, y12⟩ := hw
  obtain ⟨hP, hD⟩ := wd_post hFc ht hB
  generalize H1 = H at hP hS ⊢
  obtain rfl : f_X12_root ((((16 : Int64) * (f_X10_across S o1)) * (f_X10_across S o1)) / (137 : Int64)) = r10 := c11.symm
  refine lv_lsub hx hb dX10_way_25 ?_
  refine W.widen (k := 0) (n := 0) (Nat.le_of_ble_eq_true rfl) (Nat.le_of_ble_eq_true rfl) ?_
  exact W.lret (v := (f_X10_line S o1 x1) - (f_X12_root ((((16 : Int64) * (f_X10_across S o1)) * (f_X10_across S o1)) / (137 : Int64)))) hx hb hr (fun t ht hW9 => ⟨⟨(f_X10_line S o1 x1) - (f_X12_root ((((16 : Int64) * (f_X10_across S o1)) * (f_X10_across S o1)) / (137 : Int64))), (), rfl, (by show ((f_X10_line S o1 x1) - (f_X12_root ((((16 : Int64) * (f_X10_across S o1)) * (f_X10_across S o1)) / (137 : Int64)))) = f_X10_way S o1 x1; unfold f_X10_way; rfl), wd_end hP hK hD ht hW9.alike⟩, hS.F ht⟩) hS.2.2 dX10_way_26 hlocks
def f_X10_isFine (S : wPS) (o1 : Nat) (x1 : Int32) : Int32 := if (f_X10_isUndercut S o1 x1) = (0 : Int32) then if (f_X10_isSharp S o1 x1) = (0 : Int32) then (1 : Int32) else (0 : Int32) else (0 : Int32)
theorem f_X10_isFine_b (S : wPS) (o1 : Nat) (x1 : Int32) : narrow .boolean (.int (f_X10_isFine S o1 x1)) = .int (f_X10_isFine S o1 x1) := by
  unfold f_X10_isFine; (repeat' split) <;> rfl
theorem hd_X10_isFine : yX10_isFine.cls = RX10 ∧ yX10_isFine.cls ≠ "java/lang/invoke/MethodHandle" ∧ yX10_isFine.cls ≠ "java/lang/invoke/VarHandle" ∧ (parseMethodDescriptor yX10_isFine.desc).map (fun d => d.parameters.length) = some 1 := by decide +kernel
set_option maxHeartbeats 4000000 in
set_option maxRecDepth 100000 in
theorem c_X10_isFine (l : Launch) {D : va_G} {cy : Nat → ClassId} {X : va_W} (S : wPS) (sz : Nat) (o1 : Nat) (h_o1 : isA S o1 10) (x1 : Int32)  : Met l yX10_isFine wsX10_isFine ({ frames := 1, cells := 0, slots := 0, locals := 21 }) (va_Pc [.ref o1, .int x1] (fun U => U.heap.size = sz ∧ WD D cy X (fun _ => True) S U ∧ NW U)) (va_Qi (fun r (_ : Unit) => r = f_X10_isFine S o1 x1) (fun _ t => WD D cy X (va_A (X ++ PL cy S) sz) S t) (va_A (X ++ PL cy S) sz)) 0 0 (va_A (X ++ PL cy S) sz) := by
  refine Met.ofW (cc := cX10_isFine) (maxL := 2) (ret := (some .boolean)) (by decide) rfl ?_
  intro p e s m args below meth c s₁ B hml hv
  obtain ⟨rfl, hsz, ⟨hP, hK, hD0⟩, hN⟩ := hv
  have hx := B.exec
  have hb := B.bytes
  have hr := B.returns
  have hts := atoms_spec (ws := wsX10_isFine) B.pre
  have hown : s.vm.findClass RX10 = some m.cls := findClass_of_methodNamed (x := yX10_isFine) B.named
  have hlocks := B.notSynchronized
  subst hsz
  have hD := hD0.self (sz := s.heap.size)
  generalize hAe : va_A (X ++ PL cy S) s.heap.size = A at hD ⊢
  have hA : ∀ q : Nat, s.heap.size ≤ q → A q := fun q h => by rw [← hAe]; exact Or.inr h
  have hS : va_S A s.heap s.heap [] := va_S.rf
  have hl := lv_entry ([.ref o1, .int x1]) (n := 2) (Nat.le_of_ble_eq_true rfl)
  rw [lg_entry_eq]
  generalize (lg_sl ([.ref o1, .int x1]) ++ List.replicate (2 - (lg_sl ([.ref o1, .int x1])).length) Slot.unset).toArray = ls at hl ⊢
  have hl : lv_has ls 2 [(0, .ref o1), (1, .int x1)] := hl
  refine lv_aload_n hx hb dX10_isFine_0 rfl (lv_at hl 0 rfl) ?_
  refine lv_iload_n hx hb dX10_isFine_1 rfl (lv_at hl 1 rfl) ?_
  have hFc := free_all hD hS hA
  obtain ⟨k1, gk1, hk1⟩ := wGt (cy := cy) X S h_o1.1 h_o1.2.1
  refine va_calli (va_runV (As := [.int x1]) (rest := []) ⟨hx, hb, hml, hown, hts⟩ (c_X10_isUndercut l (cy := cy) (X := X) (D := D) S _ o1 h_o1 x1) (cwV 1 hts gX10_isFine_X10_isUndercut rfl rfl rfl hd_X10_isUndercut ⟨Nat.le_of_ble_eq_true rfl, Nat.le_of_ble_eq_true rfl⟩) (pV (va_recv hK hP (q := (RX10, TX10, 23)) (ci := 14) (q0 := k1) rfl hk1) hP hK hD hN) rfl rfl hl.1 rfl (lv_room (Nat.le_of_ble_eq_true rfl)) dX10_isFine_2 ⟨(Nat.zero_le _), (Nat.zero_le _)⟩) hS (fun q _ h => hFc q h) hFc (fun r2 u t H1 locs ht hvm hw hB hz1 hk1 hS => ?_)
  have c3 := hw
  obtain ⟨hP, hD⟩ := wd_post hFc ht hB
  generalize H1 = H at hP hS ⊢
  obtain rfl : f_X10_isUndercut S o1 x1 = r2 := c3.symm
  refine lv_if_ne (tgt := 20) hx hb dX10_isFine_5 (by decide) (fun c4 => ?_) (fun c4 => ?_)
  · have c4i : ¬ (f_X10_isUndercut S o1 x1).toInt = 0 := neq_v rfl rfl c4
    refine lv_iconst (v := 0) hx hb dX10_isFine_20 (by decide) ?_
    refine W.widen (k := 0) (n := 0) (Nat.le_of_ble_eq_true rfl) (Nat.le_of_ble_eq_true rfl) ?_
    exact W.zret (v := (0 : Int32)) hx hb hr (by rfl) (fun t ht hW9 => ⟨⟨(0 : Int32), (), rfl, (by show (0 : Int32) = f_X10_isFine S o1 x1; unfold f_X10_isFine; rw [if_neg c4]), wd_end hP hK hD ht hW9.alike⟩, hS.F ht⟩) hS.2.2 dX10_isFine_21 hlocks
  · have c4i : (f_X10_isUndercut S o1 x1).toInt = 0 := eq_v rfl rfl c4
    refine lv_aload_n hx hb dX10_isFine_8 rfl (lv_at hl 0 rfl) ?_
    refine lv_iload_n hx hb dX10_isFine_9 rfl (lv_at hl 1 rfl) ?_
    have hFc := free_all hD hS hA
    obtain ⟨k5, gk5, hk5⟩ := wGt (cy := cy) X S h_o1.1 h_o1.2.1
    refine va_calli (va_runV (As := [.int x1]) (rest := []) ⟨hx, hb, hml, hown, hts⟩ (c_X10_isSharp l (cy := cy) (X := X) (D := D) S _ o1 h_o1 x1) (cwV 1 hts gX10_isFine_X10_isSharp rfl rfl rfl hd_X10_isSharp ⟨Nat.le_of_ble_eq_true rfl, Nat.le_of_ble_eq_true rfl⟩) (pV (va_recv hK hP (q := (RX10, TX10, 23)) (ci := 14) (q0 := k5) rfl hk5) hP hK hD hN) rfl rfl hl.1 rfl (lv_room (Nat.le_of_ble_eq_true rfl)) dX10_isFine_10 ⟨(Nat.zero_le _), (Nat.zero_le _)⟩) hS (fun q _ h => hFc q h) hFc (fun r6 u t H1 locs ht hvm hw hB hz1 hk1 hS => ?_)
    have c7 := hw
    obtain ⟨hP, hD⟩ := wd_post hFc ht hB
    generalize H1 = H at hP hS ⊢
    obtain rfl : f_X10_isSharp S o1 x1 = r6 := c7.symm
    refine lv_if_ne (tgt := 20) hx hb dX10_isFine_13 (by decide) (fun c8 => ?_) (fun c8 => ?_)
    · have c8i : ¬ (f_X10_isSharp S o1 x1).toInt = 0 := neq_v rfl rfl c8
      refine lv_iconst (v := 0) hx hb dX10_isFine_20 (by decide) ?_
      refine W.widen (k := 0) (n := 0) (Nat.le_of_ble_eq_true rfl) (Nat.le_of_ble_eq_true rfl) ?_
      exact W.zret (v := (0 : Int32)) hx hb hr (by rfl) (fun t ht hW9 => ⟨⟨(0 : Int32), (), rfl, (by show (0 : Int32) = f_X10_isFine S o1 x1; unfold f_X10_isFine; rw [if_pos c4, if_neg c8]), wd_end hP hK hD ht hW9.alike⟩, hS.F ht⟩) hS.2.2 dX10_isFine_21 hlocks
    · have c8i : (f_X10_isSharp S o1 x1).toInt = 0 := eq_v rfl rfl c8
      refine lv_iconst (v := 1) hx hb dX10_isFine_16 (by decide) ?_
      refine lv_goto (tgt := 21) hx hb dX10_isFine_17 (by decide) ?_
      refine W.widen (k := 0) (n := 0) (Nat.le_of_ble_eq_true rfl) (Nat.le_of_ble_eq_true rfl) ?_
      exact W.zret (v := (1 : Int32)) hx hb hr (by rfl) (fun t ht hW9 => ⟨⟨(1 : Int32), (), rfl, (by show (1 : Int32) = f_X10_isFine S o1 x1; unfold f_X10_isFine; rw [if_pos c4, if_pos c8]), wd_end hP hK hD ht hW9.alike⟩, hS.F ht⟩) hS.2.2 dX10_isFine_21 hlocks
theorem hi_X10_caseLeft_X10 : ∀ w ∈ u_ws RX10 TX10 23, w ∈ wsX10_caseLeft := by decide +kernel
theorem hd_X10_caseLeft : yX10_caseLeft.cls = RX10 ∧ yX10_caseLeft.cls ≠ "java/lang/invoke/MethodHandle" ∧ yX10_caseLeft.cls ≠ "java/lang/invoke/VarHandle" ∧ (parseMethodDescriptor yX10_caseLeft.desc).map (fun d => d.parameters.length) = some 0 := by decide +kernel
set_option maxHeartbeats 4000000 in
set_option maxRecDepth 100000 in
theorem c_X10_caseLeft (l : Launch) {D : va_G} {cy : Nat → ClassId} {X : va_W} (S : wPS) (sz : Nat) (o1 : Nat) (h_o1 : isA S o1 10)  : Met l yX10_caseLeft wsX10_caseLeft ({ frames := 1, cells := 0, slots := 0, locals := 13 }) (va_Pc [.ref o1] (fun U => U.heap.size = sz ∧ WD D cy X (fun _ => True) S U ∧ NW U)) (va_Qi (fun r (_ : Unit) => True) (fun _ t => WD D cy X (va_A (X ++ PL cy S) sz) S t) (va_A (X ++ PL cy S) sz)) 0 0 (va_A (X ++ PL cy S) sz) := by
  refine Met.ofW (cc := cX10_caseLeft) (maxL := 1) (ret := (some .int)) (by decide) rfl ?_
  intro p e s m args below meth c s₁ B hml hv
  obtain ⟨rfl, hsz, ⟨hP, hK, hD0⟩, hN⟩ := hv
  have hx := B.exec
  have hb := B.bytes
  have hr := B.returns
  have hts := atoms_spec (ws := wsX10_caseLeft) B.pre
  have hown : s.vm.findClass RX10 = some m.cls := findClass_of_methodNamed (x := yX10_caseLeft) B.named
  have hlocks := B.notSynchronized
  subst hsz
  have hD := hD0.self (sz := s.heap.size)
  generalize hAe : va_A (X ++ PL cy S) s.heap.size = A at hD ⊢
  have hA : ∀ q : Nat, s.heap.size ≤ q → A q := fun q h => by rw [← hAe]; exact Or.inr h
  have hS : va_S A s.heap s.heap [] := va_S.rf
  have hl := lv_entry ([.ref o1]) (n := 1) (Nat.le_of_ble_eq_true rfl)
  rw [lg_entry_eq]
  generalize (lg_sl ([.ref o1]) ++ List.replicate (1 - (lg_sl ([.ref o1])).length) Slot.unset).toArray = ls at hl ⊢
  have hl : lv_has ls 1 [(0, .ref o1)] := hl
  refine lv_aload_n hx hb dX10_caseLeft_0 rfl (lv_at hl 0 rfl) ?_
  obtain ⟨k1, gk1, hk1⟩ := wGt (cy := cy) X S h_o1.1 h_o1.2.1
  refine va_get (D := D) (ci := 14) (v := .int (S.I o1 19)) (C := RX10) (T := TX10) (N := 23) hx hb hts hi_X10_caseLeft_X10 hown hK hP k1 hk1 rfl 19 (by decide) (hts (.fieldLink RX10 73 "HobhouseModel$Gear" "isHard" "Z") (by decide +kernel)) (fun _ h9 => h9) rfl dX10_caseLeft_1 ?_
  refine lv_if_eq (tgt := 23) hx hb dX10_caseLeft_4 (by decide) (fun c2 => ?_) (fun c2 => ?_)
  · have c2i : (S.I o1 19).toInt = 0 := eq_v rfl rfl c2
    refine lv_iconst (v := 0) hx hb dX10_caseLeft_23 (by decide) ?_
    refine W.widen (k := 0) (n := 0) (Nat.le_of_ble_eq_true rfl) (Nat.le_of_ble_eq_true rfl) ?_
    exact W.iret (v := (0 : Int32)) hx hb hr (fun t ht hW9 => ⟨⟨(0 : Int32), (), rfl, trivial, wd_end hP hK hD ht hW9.alike⟩, hS.F ht⟩) hS.2.2 dX10_caseLeft_24 hlocks
  · have c2i : ¬ (S.I o1 19).toInt = 0 := neq_v rfl rfl c2
    refine lv_iconst (v := 0) hx hb dX10_caseLeft_7 (by decide) ?_
    refine lv_aload_n hx hb dX10_caseLeft_8 rfl (lv_at hl 0 rfl) ?_
    obtain ⟨k3, gk3, hk3⟩ := wGt (cy := cy) X S h_o1.1 h_o1.2.1
    refine va_get (D := D) (ci := 14) (v := .int (S.I o1 12)) (C := RX10) (T := TX10) (N := 23) hx hb hts hi_X10_caseLeft_X10 hown hK hP k3 hk3 rfl 12 (by decide) (hts (.fieldLink RX10 77 "HobhouseModel$Gear" "depth" "I") (by decide +kernel)) (fun _ h9 => h9) rfl dX10_caseLeft_9 ?_
    refine lv_aload_n hx hb dX10_caseLeft_12 rfl (lv_at hl 0 rfl) ?_
    obtain ⟨k4, gk4, hk4⟩ := wGt (cy := cy) X S h_o1.1 h_o1.2.1
    refine va_get (D := D) (ci := 14) (v := .int (S.I o1 13)) (C := RX10) (T := TX10) (N := 23) hx hb hts hi_X10_caseLeft_X10 hown hK hP k4 hk4 rfl 13 (by decide) (hts (.fieldLink RX10 80 "HobhouseModel$Gear" "ground" "I") (by decide +kernel)) (fun _ h9 => h9) rfl dX10_caseLeft_13 ?_
    refine lv_isub hx hb dX10_caseLeft_16 ?_
    refine va_mmax hx hb (hml.trans hl.1.symm) hown (hts (.methodLink RX10 83 Lib.Math.max.name) (by decide +kernel)) (hts (.static Lib.Math.max.name) (by decide +kernel)) (hts (.initialized "java/lang/Math") (by decide +kernel)) (hts (.code Lib.Math.max.name Lib.Math.max.code 2 (some .int)) (by decide +kernel)) (Nat.le_of_ble_eq_true rfl) (Nat.le_of_ble_eq_true rfl) (Nat.zero_le _) (Nat.zero_le _) dX10_caseLeft_17 ?_
    refine lv_goto (tgt := 24) hx hb dX10_caseLeft_20 (by decide) ?_
    refine W.widen (k := 0) (n := 0) (Nat.le_of_ble_eq_true rfl) (Nat.le_of_ble_eq_true rfl) ?_
    exact W.iret (v := (if (0 : Int32) < ((S.I o1 12) - (S.I o1 13)) then ((S.I o1 12) - (S.I o1 13)) else (0 : Int32))) hx hb hr (fun t ht hW9 => ⟨⟨(if (0 : Int32) < ((S.I o1 12) - (S.I o1 13)) then ((S.I o1 12) - (S.I o1 13)) else (0 : Int32)), (), rfl, trivial, wd_end hP hK hD ht hW9.alike⟩, hS.F ht⟩) hS.2.2 dX10_caseLeft_24 hlocks
def f_X10_isBroken (S : wPS) (o1 : Nat) : Int32 := if (lg_cmp (S.J o1 22) (1000000 : Int64)) < (0 : Int32) then (0 : Int32) else (1 : Int32)
theorem f_X10_isBroken_b (S : wPS) (o1 : Nat) : narrow .boolean (.int (f_X10_isBroken S o1)) = .int (f_X10_isBroken S o1) := by
  unfold f_X10_isBroken; (repeat' split) <;> rfl
theorem hi_X10_isBroken_X10 : ∀ w ∈ u_ws RX10 TX10 23, w ∈ wsX10_isBroken := by decide +kernel
theorem hd_X10_isBroken : yX10_isBroken.cls = RX10 ∧ yX10_isBroken.cls ≠ "java/lang/invoke/MethodHandle" ∧ yX10_isBroken.cls ≠ "java/lang/invoke/VarHandle" ∧ (parseMethodDescriptor yX10_isBroken.desc).map (fun d => d.parameters.length) = some 0 := by decide +kernel
set_option maxHeartbeats 4000000 in
set_option maxRecDepth 100000 in
theorem c_X10_isBroken (l : Launch) {D : va_G} {cy : Nat → ClassId} {X : va_W} (S : wPS) (sz : Nat) (o1 : Nat) (h_o1 : isA S o1 10)  : Met l yX10_isBroken wsX10_isBroken ({ frames := 0, cells := 0, slots := 0, locals := 0 }) (va_Pc [.ref o1] (fun U => U.heap.size = sz ∧ WD D cy X (fun _ => True) S U ∧ NW U)) (va_Qi (fun r (_ : Unit) => r = f_X10_isBroken S o1) (fun _ t => WD D cy X (va_A (X ++ PL cy S) sz) S t) (va_A (X ++ PL cy S) sz)) 0 0 (va_A (X ++ PL cy S) sz) := by
  refine Met.ofW (cc := cX10_isBroken) (maxL := 1) (ret := (some .boolean)) (by decide) rfl ?_
  intro p e s m args below meth c s₁ B hml hv
  obtain ⟨rfl, hsz, ⟨hP, hK, hD0⟩, hN⟩ := hv
  have hx := B.exec
  have hb := B.bytes
  have hr := B.returns
  have hts := atoms_spec (ws := wsX10_isBroken) B.pre
  have hown : s.vm.findClass RX10 = some m.cls := findClass_of_methodNamed (x := yX10_isBroken) B.named
  have hlocks := B.notSynchronized
  subst hsz
  have hD := hD0.self (sz := s.heap.size)
  generalize hAe : va_A (X ++ PL cy S) s.heap.size = A at hD ⊢
  have hA : ∀ q : Nat, s.heap.size ≤ q → A q := fun q h => by rw [← hAe]; exact Or.inr h
  have hS : va_S A s.heap s.heap [] := va_S.rf
  have hl := lv_entry ([.ref o1]) (n := 1) (Nat.le_of_ble_eq_true rfl)
  rw [lg_entry_eq]
  generalize (lg_sl ([.ref o1]) ++ List.replicate (1 - (lg_sl ([.ref o1])).length) Slot.unset).toArray = ls at hl ⊢
  have hl : lv_has ls 1 [(0, .ref o1)] := hl
  refine lv_aload_n hx hb dX10_isBroken_0 rfl (lv_at hl 0 rfl) ?_
  obtain ⟨k1, gk1, hk1⟩ := wGt (cy := cy) X S h_o1.1 h_o1.2.1
  refine va_get (D := D) (ci := 14) (v := .long (S.J o1 22)) (C := RX10) (T := TX10) (N := 23) hx hb hts hi_X10_isBroken_X10 hown hK hP k1 hk1 rfl 22 (by decide) (hts (.fieldLink RX10 89 "HobhouseModel$Gear" "damage" "J") (by decide +kernel)) (fun _ h9 => h9) rfl dX10_isBroken_1 ?_
  refine lv_ldc2 (own := RX10) (v := 1000000) hx hb hown (hts (.constantLong RX10 93 (1000000)) (by decide +kernel)) dX10_isBroken_4 ?_
  refine W.lcmp hx hb dX10_isBroken_7 ?_
  refine lv_if_lt (tgt := 15) hx hb dX10_isBroken_8 (by decide) (fun c2 => ?_) (fun c2 => ?_)
  · have c2i := lc_lt c2
    refine lv_iconst (v := 0) hx hb dX10_isBroken_15 (by decide) ?_
    refine W.widen (k := 0) (n := 0) (Nat.le_of_ble_eq_true rfl) (Nat.le_of_ble_eq_true rfl) ?_
    exact W.zret (v := (0 : Int32)) hx hb hr (by rfl) (fun t ht hW9 => ⟨⟨(0 : Int32), (), rfl, (by show (0 : Int32) = f_X10_isBroken S o1; unfold f_X10_isBroken; rw [if_pos c2]), wd_end hP hK hD ht hW9.alike⟩, hS.F ht⟩) hS.2.2 dX10_isBroken_16 hlocks
  · have c2i := lc_nlt c2
    refine lv_iconst (v := 1) hx hb dX10_isBroken_11 (by decide) ?_
    refine lv_goto (tgt := 16) hx hb dX10_isBroken_12 (by decide) ?_
    refine W.widen (k := 0) (n := 0) (Nat.le_of_ble_eq_true rfl) (Nat.le_of_ble_eq_true rfl) ?_
    exact W.zret (v := (1 : Int32)) hx hb hr (by rfl) (fun t ht hW9 => ⟨⟨(1 : Int32), (), rfl, (by show (1 : Int32) = f_X10_isBroken S o1; unfold f_X10_isBroken; rw [if_neg c2]), wd_end hP hK hD ht hW9.alike⟩, hS.F ht⟩) hS.2.2 dX10_isBroken_16 hlocks
theorem hi_X10_isFree_X10 : ∀ w ∈ u_ws RX10 TX10 23, w ∈ wsX10_isFree := by decide +kernel
theorem hd_X10_isFree : yX10_isFree.cls = RX10 ∧ yX10_isFree.cls ≠ "java/lang/invoke/MethodHandle" ∧ yX10_isFree.cls ≠ "java/lang/invoke/VarHandle" ∧ (parseMethodDescriptor yX10_isFree.desc).map (fun d => d.parameters.length) = some 0 := by decide +kernel
set_option maxHeartbeats 4000000 in
set_option maxRecDepth 100000 in
theorem c_X10_isFree (l : Launch) {D : va_G} {cy : Nat → ClassId} {X : va_W} (S : wPS) (sz : Nat) (o1 : Nat) (h_o1 : isA S o1 10)  : Met l yX10_isFree wsX10_isFree ({ frames := 1, cells := 0, slots := 0, locals := 20 }) (va_Pc [.ref o1] (fun U => U.heap.size = sz ∧ WD D cy X (fun _ => True) S U ∧ NW U)) (va_Qi (fun r (_ : Unit) => True) (fun _ t => WD D cy X (va_A (X ++ PL cy S) sz) S t) (va_A (X ++ PL cy S) sz)) 0 0 (va_A (X ++ PL cy S) sz) := by
  refine Met.ofW (cc := cX10_isFree) (maxL := 1) (ret := (some .boolean)) (by decide) rfl ?_
  intro p e s m args below meth c s₁ B hml hv
  obtain ⟨rfl, hsz, ⟨hP, hK, hD0⟩, hN⟩ := hv
  have hx := B.exec
  have hb := B.bytes
  have hr := B.returns
  have hts := atoms_spec (ws := wsX10_isFree) B.pre
  have hown : s.vm.findClass RX10 = some m.cls := findClass_of_methodNamed (x := yX10_isFree) B.named
  have hlocks := B.notSynchronized
  subst hsz
  have hD := hD0.self (sz := s.heap.size)
  generalize hAe : va_A (X ++ PL cy S) s.heap.size = A at hD ⊢
  have hA : ∀ q : Nat, s.heap.size ≤ q → A q := fun q h => by rw [← hAe]; exact Or.inr h
  have hS : va_S A s.heap s.heap [] := va_S.rf
  have hl := lv_entry ([.ref o1]) (n := 1) (Nat.le_of_ble_eq_true rfl)
  rw [lg_entry_eq]
  generalize (lg_sl ([.ref o1]) ++ List.replicate (1 - (lg_sl ([.ref o1])).length) Slot.unset).toArray = ls at hl ⊢
  have hl : lv_has ls 1 [(0, .ref o1)] := hl
  refine lv_aload_n hx hb dX10_isFree_0 rfl (lv_at hl 0 rfl) ?_
  obtain ⟨k1, gk1, hk1⟩ := wGt (cy := cy) X S h_o1.1 h_o1.2.1
  refine va_get (D := D) (ci := 14) (v := .int (S.I o1 18)) (C := RX10) (T := TX10) (N := 23) hx hb hts hi_X10_isFree_X10 hown hK hP k1 hk1 rfl 18 (by decide) (hts (.fieldLink RX10 95 "HobhouseModel$Gear" "isCut" "Z") (by decide +kernel)) (fun _ h9 => h9) rfl dX10_isFree_1 ?_
  refine lv_if_eq (tgt := 33) hx hb dX10_isFree_4 (by decide) (fun c2 => ?_) (fun c2 => ?_)
  · have c2i : (S.I o1 18).toInt = 0 := eq_v rfl rfl c2
    refine lv_iconst (v := 0) hx hb dX10_isFree_33 (by decide) ?_
    refine W.widen (k := 0) (n := 0) (Nat.le_of_ble_eq_true rfl) (Nat.le_of_ble_eq_true rfl) ?_
    exact W.zret (v := (0 : Int32)) hx hb hr (by rfl) (fun t ht hW9 => ⟨⟨(0 : Int32), (), rfl, trivial, wd_end hP hK hD ht hW9.alike⟩, hS.F ht⟩) hS.2.2 dX10_isFree_34 hlocks
  · have c2i : ¬ (S.I o1 18).toInt = 0 := neq_v rfl rfl c2
    refine lv_aload_n hx hb dX10_isFree_7 rfl (lv_at hl 0 rfl) ?_
    obtain ⟨k3, gk3, hk3⟩ := wGt (cy := cy) X S h_o1.1 h_o1.2.1
    refine va_get (D := D) (ci := 14) (v := .int (S.I o1 20)) (C := RX10) (T := TX10) (N := 23) hx hb hts hi_X10_isFree_X10 hown hK hP k3 hk3 rfl 20 (by decide) (hts (.fieldLink RX10 98 "HobhouseModel$Gear" "isScrap" "Z") (by decide +kernel)) (fun _ h9 => h9) rfl dX10_isFree_8 ?_
    refine lv_if_ne (tgt := 33) hx hb dX10_isFree_11 (by decide) (fun c4 => ?_) (fun c4 => ?_)
    · have c4i : ¬ (S.I o1 20).toInt = 0 := neq_v rfl rfl c4
      refine lv_iconst (v := 0) hx hb dX10_isFree_33 (by decide) ?_
      refine W.widen (k := 0) (n := 0) (Nat.le_of_ble_eq_true rfl) (Nat.le_of_ble_eq_true rfl) ?_
      exact W.zret (v := (0 : Int32)) hx hb hr (by rfl) (fun t ht hW9 => ⟨⟨(0 : Int32), (), rfl, trivial, wd_end hP hK hD ht hW9.alike⟩, hS.F ht⟩) hS.2.2 dX10_isFree_34 hlocks
    · have c4i : (S.I o1 20).toInt = 0 := eq_v rfl rfl c4
      refine lv_aload_n hx hb dX10_isFree_14 rfl (lv_at hl 0 rfl) ?_
      have hFc := free_all hD hS hA
      obtain ⟨k5, gk5, hk5⟩ := wGt (cy := cy) X S h_o1.1 h_o1.2.1
      refine va_calli (va_runV (As := []) (rest := []) ⟨hx, hb, hml, hown, hts⟩ (c_X10_isBroken l (cy := cy) (X := X) (D := D) S _ o1 h_o1) (cwV 0 hts gX10_isFree_X10_isBroken rfl rfl rfl hd_X10_isBroken ⟨Nat.le_of_ble_eq_true rfl, Nat.le_of_ble_eq_true rfl⟩) (pV (va_recv hK hP (q := (RX10, TX10, 23)) (ci := 14) (q0 := k5) rfl hk5) hP hK hD hN) rfl rfl hl.1 rfl (lv_room (Nat.le_of_ble_eq_true rfl)) dX10_isFree_15 ⟨(Nat.zero_le _), (Nat.zero_le _)⟩) hS (fun q _ h => hFc q h) hFc (fun r6 u t H1 locs ht hvm hw hB hz1 hk1 hS => ?_)
      have c7 := hw
      obtain ⟨hP, hD⟩ := wd_post hFc ht hB
      generalize H1 = H at hP hS ⊢
      obtain rfl : f_X10_isBroken S o1 = r6 := c7.symm
      refine lv_if_ne (tgt := 33) hx hb dX10_isFree_18 (by decide) (fun c8 => ?_) (fun c8 => ?_)
      · have c8i : ¬ (f_X10_isBroken S o1).toInt = 0 := neq_v rfl rfl c8
        refine lv_iconst (v := 0) hx hb dX10_isFree_33 (by decide) ?_
        refine W.widen (k := 0) (n := 0) (Nat.le_of_ble_eq_true rfl) (Nat.le_of_ble_eq_true rfl) ?_
        exact W.zret (v := (0 : Int32)) hx hb hr (by rfl) (fun t ht hW9 => ⟨⟨(0 : Int32), (), rfl, trivial, wd_end hP hK hD ht hW9.alike⟩, hS.F ht⟩) hS.2.2 dX10_isFree_34 hlocks
      · have c8i : (f_X10_isBroken S o1).toInt = 0 := eq_v rfl rfl c8
        refine lv_aload_n hx hb dX10_isFree_21 rfl (lv_at hl 0 rfl) ?_
        obtain ⟨k9, gk9, hk9⟩ := wGt (cy := cy) X S h_o1.1 h_o1.2.1
        refine va_get (D := D) (ci := 14) (v := .int (S.I o1 16)) (C := RX10) (T := TX10) (N := 23) hx hb hts hi_X10_isFree_X10 hown hK hP k9 hk9 rfl 16 (by decide) (hts (.fieldLink RX10 23 "HobhouseModel$Gear" "mate" "I") (by decide +kernel)) (fun _ h9 => h9) rfl dX10_isFree_22 ?_
        refine lv_iconst (v := -1) hx hb dX10_isFree_25 (by decide) ?_
        refine lv_icmp_ne (tgt := 33) hx hb dX10_isFree_26 (by decide) (fun c10 => ?_) (fun c10 => ?_)
        · have c10i : ¬ (S.I o1 16).toInt = -1 := neq_v rfl rfl c10
          refine lv_iconst (v := 0) hx hb dX10_isFree_33 (by decide) ?_
          refine W.widen (k := 0) (n := 0) (Nat.le_of_ble_eq_true rfl) (Nat.le_of_ble_eq_true rfl) ?_
          exact W.zret (v := (0 : Int32)) hx hb hr (by rfl) (fun t ht hW9 => ⟨⟨(0 : Int32), (), rfl, trivial, wd_end hP hK hD ht hW9.alike⟩, hS.F ht⟩) hS.2.2 dX10_isFree_34 hlocks
        · have c10i : (S.I o1 16).toInt = -1 := eq_v rfl rfl c10
          refine lv_iconst (v := 1) hx hb dX10_isFree_29 (by decide) ?_
          refine lv_goto (tgt := 34) hx hb dX10_isFree_30 (by decide) ?_
          refine W.widen (k := 0) (n := 0) (Nat.le_of_ble_eq_true rfl) (Nat.le_of_ble_eq_true rfl) ?_
          exact W.zret (v := (1 : Int32)) hx hb hr (by rfl) (fun t ht hW9 => ⟨⟨(1 : Int32), (), rfl, trivial, wd_end hP hK hD ht hW9.alike⟩, hS.F ht⟩) hS.2.2 dX10_isFree_34 hlocks
theorem hi_X10_greatest_X10 : ∀ w ∈ u_ws RX10 TX10 23, w ∈ wsX10_greatest := by decide +kernel
theorem hd_X10_greatest : yX10_greatest.cls = RX10 ∧ yX10_greatest.cls ≠ "java/lang/invoke/MethodHandle" ∧ yX10_greatest.cls ≠ "java/lang/invoke/VarHandle" ∧ (parseMethodDescriptor yX10_greatest.desc).map (fun d => d.parameters.length) = some 0 := by decide +kernel
set_option maxHeartbeats 4000000 in
set_option maxRecDepth 100000 in
theorem c_X10_greatest (l : Launch) {D : va_G} {cy : Nat → ClassId} {X : va_W} (S : wPS) (sz : Nat) (o1 : Nat) (h_o1 : isA S o1 10) (hW : wtB S [])  : Met l yX10_greatest wsX10_greatest ({ frames := 1, cells := 0, slots := 0, locals := 14 }) (va_Pc [.ref o1] (fun U => U.heap.size = sz ∧ WD D cy X (fun _ => True) S U ∧ NW U)) (va_Qi (fun r (_ : Unit) => True) (fun _ t => WD D cy X (va_A (X ++ PL cy S) sz) S t) (va_A (X ++ PL cy S) sz)) 0 0 (va_A (X ++ PL cy S) sz) := by
  refine Met.ofW (cc := cX10_greatest) (maxL := 3) (ret := (some .int)) (by decide) rfl ?_
  intro p e s m args below meth c s₁ B hml hv
  obtain ⟨rfl, hsz, ⟨hP, hK, hD0⟩, hN⟩ := hv
  have hx := B.exec
  have hb := B.bytes
  have hr := B.returns
  have hts := atoms_spec (ws := wsX10_greatest) B.pre
  have hown : s.vm.findClass RX10 = some m.cls := findClass_of_methodNamed (x := yX10_greatest) B.named
  have hlocks := B.notSynchronized
  subst hsz
  have hD := hD0.self (sz := s.heap.size)
  generalize hAe : va_A (X ++ PL cy S) s.heap.size = A at hD ⊢
  have hA : ∀ q : Nat, s.heap.size ≤ q → A q := fun q h => by rw [← hAe]; exact Or.inr h
  have hS : va_S A s.heap s.heap [] := va_S.rf
  have hl := lv_entry ([.ref o1]) (n := 3) (Nat.le_of_ble_eq_true rfl)
  rw [lg_entry_eq]
  generalize (lg_sl ([.ref o1]) ++ List.replicate (3 - (lg_sl ([.ref o1])).length) Slot.unset).toArray = ls at hl ⊢
  have hl : lv_has ls 3 [(0, .ref o1)] := hl
  have r1 := ((hW.at h_o1 List.not_mem_nil).to_10 h_o1.2.1).R1
  have r2 := ((hW.at h_o1 List.not_mem_nil).to_10 h_o1.2.1).R2
  refine lv_iconst (v := 0) hx hb dX10_greatest_0 (by decide) ?_
  refine lv_istore_n (lv' := [(1, .int (0 : Int32)), (0, .ref o1)]) hx hb dX10_greatest_1 rfl hl (by decide) rfl (fun ls hl => ?_)
  refine lv_iconst (v := 0) hx hb dX10_greatest_2 (by decide) ?_
  refine lv_istore_n (lv' := [(2, .int (0 : Int32)), (1, .int (0 : Int32)), (0, .ref o1)]) hx hb dX10_greatest_3 rfl hl (by decide) rfl (fun ls hl => ?_)
  have l32_0 : (0 : Int32).toInt = 0 := rfl
  have loop4 : ∀ (n : Nat) (w4_1 : Int32) (w4_2 : Int32) (H : Heap) (locs : List Loc) (ls : Array Slot), (200 - w4_2.toInt).toNat < n → 0 ≤ w4_2.toInt ∧ w4_2.toInt ≤ 200 → va_P D vwCl (X ++ PL cy S) H → va_S A s.heap H locs → lv_has ls 3 [(2, .int w4_2), (1, .int w4_1), (0, .ref o1)] → (∀ (w4_1x : Int32) (w4_2x : Int32) (H : Heap) (locs : List Loc) (ls : Array Slot), 0 ≤ w4_2x.toInt ∧ w4_2x.toInt ≤ 200 → va_P D vwCl (X ++ PL cy S) H → va_S A s.heap H locs → lv_has ls 3 [(2, .int w4_2x), (1, .int w4_1x), (0, .ref o1)] → W p l e (headSpec wsX10_greatest ({ frames := 1, cells := 0, slots := 0, locals := 14 } : Room)).room s m [.ref o1].toArray below meth c H locs 0 0 (MQ below (va_Qi (fun r (_ : Unit) => True) (fun _ t => WD D cy X A S t) A) [.ref o1].toArray s 0 0 A) (F0 m 32 ls [])) → W p l e (headSpec wsX10_greatest ({ frames := 1, cells := 0, slots := 0, locals := 14 } : Room)).room s m [.ref o1].toArray below meth c H locs 0 0 (MQ below (va_Qi (fun r (_ : Unit) => True) (fun _ t => WD D cy X A S t) A) [.ref o1].toArray s 0 0 A) (F0 m 4 ls []) := by
    intro n4
    induction n4 with
    | zero => intro w4_1 w4_2 H locs ls hm; exact absurd hm (Nat.not_lt_zero _)
    | succ n4 ih4 =>
      intro w4_1 w4_2 H locs ls hm4 hi4 hP hS hl ko4
      refine lv_iload_n hx hb dX10_greatest_4 rfl (lv_at hl 0 rfl) ?_
      refine lv_aload_n hx hb dX10_greatest_5 rfl (lv_at hl 2 rfl) ?_
      obtain ⟨k1, gk1, hk1⟩ := wGt (cy := cy) X S h_o1.1 h_o1.2.1
      have i2 := ((hW.at h_o1 List.not_mem_nil).to_10 h_o1.2.1).R1
      refine va_get (D := D) (ci := 14) (v := .int (S.I o1 1)) (C := RX10) (T := TX10) (N := 23) hx hb hts hi_X10_greatest_X10 hown hK hP k1 hk1 rfl 1 (by decide) (hts (.fieldLink RX10 29 "HobhouseModel$Gear" "teeth" "I") (by decide +kernel)) (fun _ h9 => h9) rfl dX10_greatest_6 ?_
      refine lv_icmp_ge (tgt := 32) hx hb dX10_greatest_9 (by decide) (fun c3 => ?_) (fun c3 => ?_)
      · have c3i : (S.I o1 1).toInt ≤ w4_2.toInt := le_v rfl rfl c3
        exact ko4 w4_1 w4_2 _ _ _ (by omega) hP hS (lv_sub hl [0, 1, 2] rfl)
      · have c3i : w4_2.toInt < (S.I o1 1).toInt := nle_v rfl rfl c3
        refine lv_iload_n hx hb dX10_greatest_12 rfl (lv_at hl 1 rfl) ?_
        refine lv_aload_n hx hb dX10_greatest_13 rfl (lv_at hl 2 rfl) ?_
        have F4 := ((hW.at h_o1 List.not_mem_nil).to_10 h_o1.2.1).F5
        obtain ⟨k5, gk5, hk5⟩ := wGt (cy := cy) X S h_o1.1 h_o1.2.1
        simp only [kE, F4.1] at hk5
        refine va_get (D := D) (ci := 14) (v := .ref (S.f o1 5)) (C := RX10) (T := TX10) (N := 23) hx hb hts hi_X10_greatest_X10 hown hK hP k5 hk5 rfl 5 (by decide) (hts (.fieldLink RX10 9 "HobhouseModel$Gear" "errors" "[I") (by decide +kernel)) (fun _ h9 => h9) rfl dX10_greatest_14 ?_
        refine lv_iload_n hx hb dX10_greatest_17 rfl (lv_at hl 0 rfl) ?_
        obtain ⟨k6, gk6, hk6⟩ := wGt (cy := cy) X S F4.2.1.1 F4.2.1.2.1
        refine va_iald hx hb hK hP k6 2 hk6 rfl (inb (m := 200) F4.2.2 (by omega) (by omega)) dX10_greatest_18 ?_
        refine va_mabs hx hb (hml.trans hl.1.symm) hown (hts (.methodLink RX10 105 Lib.Math.abs.name) (by decide +kernel)) (hts (.static Lib.Math.abs.name) (by decide +kernel)) (hts (.initialized "java/lang/Math") (by decide +kernel)) (hts (.code Lib.Math.abs.name Lib.Math.abs.code 1 (some .int)) (by decide +kernel)) (Nat.le_of_ble_eq_true rfl) (Nat.le_of_ble_eq_true rfl) (Nat.zero_le _) (Nat.zero_le _) dX10_greatest_19 ?_
        refine va_mmax hx hb (hml.trans hl.1.symm) hown (hts (.methodLink RX10 83 Lib.Math.max.name) (by decide +kernel)) (hts (.static Lib.Math.max.name) (by decide +kernel)) (hts (.initialized "java/lang/Math") (by decide +kernel)) (hts (.code Lib.Math.max.name Lib.Math.max.code 2 (some .int)) (by decide +kernel)) (Nat.le_of_ble_eq_true rfl) (Nat.le_of_ble_eq_true rfl) (Nat.zero_le _) (Nat.zero_le _) dX10_greatest_22 ?_
        refine lv_istore_n (lv' := [(1, .int (if w4_1 < (if 0 ≤ (S.i (S.f o1 5) w4_2.toNatClampNeg) then (S.i (S.f o1 5) w4_2.toNatClampNeg) else 0 - (S.i (S.f o1 5) w4_2.toNatClampNeg)) then (if 0 ≤ (S.i (S.f o1 5) w4_2.toNatClampNeg) then (S.i (S.f o1 5) w4_2.toNatClampNeg) else 0 - (S.i (S.f o1 5) w4_2.toNatClampNeg)) else w4_1)), (2, .int w4_2), (0, .ref o1)]) hx hb dX10_greatest_25 rfl hl (by decide) rfl (fun ls hl => ?_)
        refine lv_iinc (v := w4_2 + (1 : Int32)) (lv' := [(2, .int (w4_2 + (1 : Int32))), (1, .int (if w4_1 < (if 0 ≤ (S.i (S.f o1 5) w4_2.toNatClampNeg) then (S.i (S.f o1 5) w4_2.toNatClampNeg) else 0 - (S.i (S.f o1 5) w4_2.toNatClampNeg)) then (if 0 ≤ (S.i (S.f o1 5) w4_2.toNatClampNeg) then (S.i (S.f o1 5) w4_2.toNatClampNeg) else 0 - (S.i (S.f o1 5) w4_2.toNatClampNeg)) else w4_1)), (0, .ref o1)]) hx hb dX10_greatest_26 hl (k := 1) rfl (by rfl) (by decide) rfl (fun ls hl => ?_)
        refine lv_goto (tgt := 4) hx hb dX10_greatest_29 (by decide) ?_
        have l32_1 : (1 : Int32).toInt = 1 := rfl
        have i7 : (w4_2 + (1 : Int32)).toInt = w4_2.toInt + 1 := t_addr (n := 1) rfl (by omega)
        exact ih4 (if w4_1 < (if 0 ≤ (S.i (S.f o1 5) w4_2.toNatClampNeg) then (S.i (S.f o1 5) w4_2.toNatClampNeg) else 0 - (S.i (S.f o1 5) w4_2.toNatClampNeg)) then (if 0 ≤ (S.i (S.f o1 5) w4_2.toNatClampNeg) then (S.i (S.f o1 5) w4_2.toNatClampNeg) else 0 - (S.i (S.f o1 5) w4_2.toNatClampNeg)) else w4_1) (w4_2 + (1 : Int32)) _ _ _ (Nat.lt_of_lt_of_le (by omega) (Nat.le_of_lt_succ hm4)) (by omega) hP hS (lv_sub hl [0, 1, 2] rfl) ko4
  refine loop4 201 (0 : Int32) (0 : Int32) _ _ _ (by omega) (by omega) hP hS (lv_sub hl [0, 1, 2] rfl) (fun z9 z10 H locs ls hi4 hP hS hl => ?_)
  refine lv_iload_n hx hb dX10_greatest_32 rfl (lv_at hl 1 rfl) ?_
  refine W.widen (k := 0) (n := 0) (Nat.le_of_ble_eq_true rfl) (Nat.le_of_ble_eq_true rfl) ?_
  exact W.iret (v := z9) hx hb hr (fun t ht hW9 => ⟨⟨z9, (), rfl, trivial, wd_end hP hK hD ht hW9.alike⟩, hS.F ht⟩) hS.2.2 dX10_greatest_33 hlocks
theorem hi_X10_all_X10 : ∀ w ∈ u_ws RX10 TX10 23, w ∈ wsX10_all := by decide +kernel
theorem hd_X10_all : yX10_all.cls = RX10 ∧ yX10_all.cls ≠ "java/lang/invoke/MethodHandle" ∧ yX10_all.cls ≠ "java/lang/invoke/VarHandle" ∧ (parseMethodDescriptor yX10_all.desc).map (fun d => d.parameters.length) = some 0 := by decide +kernel
set_option maxHeartbeats 4000000 in
set_option maxRecDepth 100000 in
theorem c_X10_all (l : Launch) {D : va_G} {cy : Nat → ClassId} {X : va_W} (S : wPS) (sz : Nat) (o1 : Nat) (h_o1 : isA S o1 10) (hW : wtB S [])  : Met l yX10_all wsX10_all ({ frames := 0, cells := 0, slots := 0, locals := 0 }) (va_Pc [.ref o1] (fun U => U.heap.size = sz ∧ WD D cy X (fun _ => True) S U ∧ NW U)) (va_Qi (fun r (_ : Unit) => True) (fun _ t => WD D cy X (va_A (X ++ PL cy S) sz) S t) (va_A (X ++ PL cy S) sz)) 0 0 (va_A (X ++ PL cy S) sz) := by
  refine Met.ofW (cc := cX10_all) (maxL := 3) (ret := (some .int)) (by decide) rfl ?_
  intro p e s m args below meth c s₁ B hml hv
  obtain ⟨rfl, hsz, ⟨hP, hK, hD0⟩, hN⟩ := hv
  have hx := B.exec
  have hb := B.bytes
  have hr := B.returns
  have hts := atoms_spec (ws := wsX10_all) B.pre
  have hown : s.vm.findClass RX10 = some m.cls := findClass_of_methodNamed (x := yX10_all) B.named
  have hlocks := B.notSynchronized
  subst hsz
  have hD := hD0.self (sz := s.heap.size)
  generalize hAe : va_A (X ++ PL cy S) s.heap.size = A at hD ⊢
  have hA : ∀ q : Nat, s.heap.size ≤ q → A q := fun q h => by rw [← hAe]; exact Or.inr h
  have hS : va_S A s.heap s.heap [] := va_S.rf
  have hl := lv_entry ([.ref o1]) (n := 3) (Nat.le_of_ble_eq_true rfl)
  rw [lg_entry_eq]
  generalize (lg_sl ([.ref o1]) ++ List.replicate (3 - (lg_sl ([.ref o1])).length) Slot.unset).toArray = ls at hl ⊢
  have hl : lv_has ls 3 [(0, .ref o1)] := hl
  have r1 := ((hW.at h_o1 List.not_mem_nil).to_10 h_o1.2.1).R1
  have r2 := ((hW.at h_o1 List.not_mem_nil).to_10 h_o1.2.1).R2
  refine lv_iconst (v := 0) hx hb dX10_all_0 (by decide) ?_
  refine lv_istore_n (lv' := [(1, .int (0 : Int32)), (0, .ref o1)]) hx hb dX10_all_1 rfl hl (by decide) rfl (fun ls hl => ?_)
  refine lv_iconst (v := 0) hx hb dX10_all_2 (by decide) ?_
  refine lv_istore_n (lv' := [(2, .int (0 : Int32)), (1, .int (0 : Int32)), (0, .ref o1)]) hx hb dX10_all_3 rfl hl (by decide) rfl (fun ls hl => ?_)
  have l32_0 : (0 : Int32).toInt = 0 := rfl
  have loop4 : ∀ (n : Nat) (w4_1 : Int32) (w4_2 : Int32) (H : Heap) (locs : List Loc) (ls : Array Slot), (200 - w4_2.toInt).toNat < n → 0 ≤ w4_2.toInt ∧ w4_2.toInt ≤ 200 → va_P D vwCl (X ++ PL cy S) H → va_S A s.heap H locs → lv_has ls 3 [(2, .int w4_2), (1, .int w4_1), (0, .ref o1)] → (∀ (w4_1x : Int32) (w4_2x : Int32) (H : Heap) (locs : List Loc) (ls : Array Slot), 0 ≤ w4_2x.toInt ∧ w4_2x.toInt ≤ 200 → va_P D vwCl (X ++ PL cy S) H → va_S A s.heap H locs → lv_has ls 3 [(2, .int w4_2x), (1, .int w4_1x), (0, .ref o1)] → W p l e (headSpec wsX10_all ({ frames := 0, cells := 0, slots := 0, locals := 0 } : Room)).room s m [.ref o1].toArray below meth c H locs 0 0 (MQ below (va_Qi (fun r (_ : Unit) => True) (fun _ t => WD D cy X A S t) A) [.ref o1].toArray s 0 0 A) (F0 m 27 ls [])) → W p l e (headSpec wsX10_all ({ frames := 0, cells := 0, slots := 0, locals := 0 } : Room)).room s m [.ref o1].toArray below meth c H locs 0 0 (MQ below (va_Qi (fun r (_ : Unit) => True) (fun _ t => WD D cy X A S t) A) [.ref o1].toArray s 0 0 A) (F0 m 4 ls []) := by
    intro n4
    induction n4 with
    | zero => intro w4_1 w4_2 H locs ls hm; exact absurd hm (Nat.not_lt_zero _)
    | succ n4 ih4 =>
      intro w4_1 w4_2 H locs ls hm4 hi4 hP hS hl ko4
      refine lv_iload_n hx hb dX10_all_4 rfl (lv_at hl 0 rfl) ?_
      refine lv_aload_n hx hb dX10_all_5 rfl (lv_at hl 2 rfl) ?_
      obtain ⟨k1, gk1, hk1⟩ := wGt (cy := cy) X S h_o1.1 h_o1.2.1
      have i2 := ((hW.at h_o1 List.not_mem_nil).to_10 h_o1.2.1).R1
      refine va_get (D := D) (ci := 14) (v := .int (S.I o1 1)) (C := RX10) (T := TX10) (N := 23) hx hb hts hi_X10_all_X10 hown hK hP k1 hk1 rfl 1 (by decide) (hts (.fieldLink RX10 29 "HobhouseModel$Gear" "teeth" "I") (by decide +kernel)) (fun _ h9 => h9) rfl dX10_all_6 ?_
      refine lv_icmp_ge (tgt := 27) hx hb dX10_all_9 (by decide) (fun c3 => ?_) (fun c3 => ?_)
      · have c3i : (S.I o1 1).toInt ≤ w4_2.toInt := le_v rfl rfl c3
        exact ko4 w4_1 w4_2 _ _ _ (by omega) hP hS (lv_sub hl [0, 1, 2] rfl)
      · have c3i : w4_2.toInt < (S.I o1 1).toInt := nle_v rfl rfl c3
        refine lv_iload_n hx hb dX10_all_12 rfl (lv_at hl 1 rfl) ?_
        refine lv_aload_n hx hb dX10_all_13 rfl (lv_at hl 2 rfl) ?_
        have F4 := ((hW.at h_o1 List.not_mem_nil).to_10 h_o1.2.1).F5
        obtain ⟨k5, gk5, hk5⟩ := wGt (cy := cy) X S h_o1.1 h_o1.2.1
        simp only [kE, F4.1] at hk5
        refine va_get (D := D) (ci := 14) (v := .ref (S.f o1 5)) (C := RX10) (T := TX10) (N := 23) hx hb hts hi_X10_all_X10 hown hK hP k5 hk5 rfl 5 (by decide) (hts (.fieldLink RX10 9 "HobhouseModel$Gear" "errors" "[I") (by decide +kernel)) (fun _ h9 => h9) rfl dX10_all_14 ?_
        refine lv_iload_n hx hb dX10_all_17 rfl (lv_at hl 0 rfl) ?_
        obtain ⟨k6, gk6, hk6⟩ := wGt (cy := cy) X S F4.2.1.1 F4.2.1.2.1
        refine va_iald hx hb hK hP k6 2 hk6 rfl (inb (m := 200) F4.2.2 (by omega) (by omega)) dX10_all_18 ?_
        refine lv_iadd hx hb dX10_all_19 ?_
        refine lv_istore_n (lv' := [(1, .int (w4_1 + (S.i (S.f o1 5) w4_2.toNatClampNeg))), (2, .int w4_2), (0, .ref o1)]) hx hb dX10_all_20 rfl hl (by decide) rfl (fun ls hl => ?_)
        refine lv_iinc (v := w4_2 + (1 : Int32)) (lv' := [(2, .int (w4_2 + (1 : Int32))), (1, .int (w4_1 + (S.i (S.f o1 5) w4_2.toNatClampNeg))), (0, .ref o1)]) hx hb dX10_all_21 hl (k := 1) rfl (by rfl) (by decide) rfl (fun ls hl => ?_)
        refine lv_goto (tgt := 4) hx hb dX10_all_24 (by decide) ?_
        have l32_1 : (1 : Int32).toInt = 1 := rfl
        have i7 : (w4_2 + (1 : Int32)).toInt = w4_2.toInt + 1 := t_addr (n := 1) rfl (by omega)
        exact ih4 (w4_1 + (S.i (S.f o1 5) w4_2.toNatClampNeg)) (w4_2 + (1 : Int32)) _ _ _ (Nat.lt_of_lt_of_le (by omega) (Nat.le_of_lt_succ hm4)) (by omega) hP hS (lv_sub hl [0, 1, 2] rfl) ko4
  refine loop4 201 (0 : Int32) (0 : Int32) _ _ _ (by omega) (by omega) hP hS (lv_sub hl [0, 1, 2] rfl) (fun z9 z10 H locs ls hi4 hP hS hl => ?_)
  refine lv_iload_n hx hb dX10_all_27 rfl (lv_at hl 1 rfl) ?_
  refine W.widen (k := 0) (n := 0) (Nat.le_of_ble_eq_true rfl) (Nat.le_of_ble_eq_true rfl) ?_
  exact W.iret (v := z9) hx hb hr (fun t ht hW9 => ⟨⟨z9, (), rfl, trivial, wd_end hP hK hD ht hW9.alike⟩, hS.F ht⟩) hS.2.2 dX10_all_28 hlocks
theorem hi_X10_total_X10 : ∀ w ∈ u_ws RX10 TX10 23, w ∈ wsX10_total := by decide +kernel
theorem hd_X10_total : yX10_total.cls = RX10 ∧ yX10_total.cls ≠ "java/lang/invoke/MethodHandle" ∧ yX10_total.cls ≠ "java/lang/invoke/VarHandle" ∧ (parseMethodDescriptor yX10_total.desc).map (fun d => d.parameters.length) = some 0 := by decide +kernel
set_option maxHeartbeats 4000000 in
set_option maxRecDepth 100000 in
theorem c_X10_total (l : Launch) {D : va_G} {cy : Nat → ClassId} {X : va_W} (S : wPS) (sz : Nat) (o1 : Nat) (h_o1 : isA S o1 10) (hW : wtB S [])  : Met l yX10_total wsX10_total ({ frames := 1, cells := 0, slots := 0, locals := 22 }) (va_Pc [.ref o1] (fun U => U.heap.size = sz ∧ WD D cy X (fun _ => True) S U ∧ NW U)) (va_Qi (fun r (_ : Unit) => True) (fun _ t => WD D cy X (va_A (X ++ PL cy S) sz) S t) (va_A (X ++ PL cy S) sz)) 0 0 (va_A (X ++ PL cy S) sz) := by
  refine Met.ofW (cc := cX10_total) (maxL := 7) (ret := (some .int)) (by decide) rfl ?_
  intro p e s m args below meth c s₁ B hml hv
  obtain ⟨rfl, hsz, ⟨hP, hK, hD0⟩, hN⟩ := hv
  have hx := B.exec
  have hb := B.bytes
  have hr := B.returns
  have hts := atoms_spec (ws := wsX10_total) B.pre
  have hown : s.vm.findClass RX10 = some m.cls := findClass_of_methodNamed (x := yX10_total) B.named
  have hlocks := B.notSynchronized
  subst hsz
  have hD := hD0.self (sz := s.heap.size)
  generalize hAe : va_A (X ++ PL cy S) s.heap.size = A at hD ⊢
  have hA : ∀ q : Nat, s.heap.size ≤ q → A q := fun q h => by rw [← hAe]; exact Or.inr h
  have hS : va_S A s.heap s.heap [] := va_S.rf
  have hl := lv_entry ([.ref o1]) (n := 7) (Nat.le_of_ble_eq_true rfl)
  rw [lg_entry_eq]
  generalize (lg_sl ([.ref o1]) ++ List.replicate (7 - (lg_sl ([.ref o1])).length) Slot.unset).toArray = ls at hl ⊢
  have hl : lv_has ls 7 [(0, .ref o1)] := hl
  have r1 := ((hW.at h_o1 List.not_mem_nil).to_10 h_o1.2.1).R1
  have r2 := ((hW.at h_o1 List.not_mem_nil).to_10 h_o1.2.1).R2
  refine lv_iconst (v := 0) hx hb dX10_total_0 (by decide) ?_
  refine lv_istore_n (lv' := [(1, .int (0 : Int32)), (0, .ref o1)]) hx hb dX10_total_1 rfl hl (by decide) rfl (fun ls hl => ?_)
  refine lv_iconst (v := 0) hx hb dX10_total_2 (by decide) ?_
  refine lv_istore_n (lv' := [(2, .int (0 : Int32)), (1, .int (0 : Int32)), (0, .ref o1)]) hx hb dX10_total_3 rfl hl (by decide) rfl (fun ls hl => ?_)
  refine lv_iconst (v := 0) hx hb dX10_total_4 (by decide) ?_
  refine lv_istore_n (lv' := [(3, .int (0 : Int32)), (2, .int (0 : Int32)), (1, .int (0 : Int32)), (0, .ref o1)]) hx hb dX10_total_5 rfl hl (by decide) rfl (fun ls hl => ?_)
  refine lv_aload_n hx hb dX10_total_6 rfl (lv_at hl 3 rfl) ?_
  have hFc := free_all hD hS hA
  obtain ⟨k1, gk1, hk1⟩ := wGt (cy := cy) X S h_o1.1 h_o1.2.1
  refine va_calli (va_runV (As := []) (rest := []) ⟨hx, hb, hml, hown, hts⟩ (c_X10_all l (cy := cy) (X := X) (D := D) S _ o1 h_o1 (hW)) (cwV 0 hts gX10_total_X10_all rfl rfl rfl hd_X10_all ⟨Nat.le_of_ble_eq_true rfl, Nat.le_of_ble_eq_true rfl⟩) (pV (va_recv hK hP (q := (RX10, TX10, 23)) (ci := 14) (q0 := k1) rfl hk1) hP hK hD hN) rfl rfl hl.1 rfl (lv_room (Nat.le_of_ble_eq_true rfl)) dX10_total_7 ⟨(Nat.zero_le _), (Nat.zero_le _)⟩) hS (fun q _ h => hFc q h) hFc (fun r2 u t H1 locs ht hvm hw hB hz1 hk1 hS => ?_)
  clear hw
  obtain ⟨hP, hD⟩ := wd_post hFc ht hB
  generalize H1 = H at hP hS ⊢
  refine lv_istore (lv' := [(4, .int r2), (3, .int (0 : Int32)), (2, .int (0 : Int32)), (1, .int (0 : Int32)), (0, .ref o1)]) hx hb dX10_total_10 hl (by decide) rfl (fun ls hl => ?_)
  refine lv_iconst (v := 0) hx hb dX10_total_12 (by decide) ?_
  refine lv_istore (lv' := [(5, .int (0 : Int32)), (4, .int r2), (3, .int (0 : Int32)), (2, .int (0 : Int32)), (1, .int (0 : Int32)), (0, .ref o1)]) hx hb dX10_total_13 hl (by decide) rfl (fun ls hl => ?_)
  have l32_0 : (0 : Int32).toInt = 0 := rfl
  have loop15 : ∀ (n : Nat) (w15_1 : Int32) (w15_2 : Int32) (w15_3 : Int32) (w15_5 : Int32) (H : Heap) (locs : List Loc) (ls : Array Slot), (200 - w15_5.toInt).toNat < n → 0 ≤ w15_5.toInt ∧ w15_5.toInt ≤ 200 → va_P D vwCl (X ++ PL cy S) H → va_S A s.heap H locs → lv_has ls 7 [(5, .int w15_5), (4, .int r2), (3, .int w15_3), (2, .int w15_2), (1, .int w15_1), (0, .ref o1)] → (∀ (w15_1x : Int32) (w15_2x : Int32) (w15_3x : Int32) (w15_5x : Int32) (H : Heap) (locs : List Loc) (ls : Array Slot), 0 ≤ w15_5x.toInt ∧ w15_5x.toInt ≤ 200 → va_P D vwCl (X ++ PL cy S) H → va_S A s.heap H locs → lv_has ls 7 [(5, .int w15_5x), (4, .int r2), (3, .int w15_3x), (2, .int w15_2x), (1, .int w15_1x), (0, .ref o1)] → W p l e (headSpec wsX10_total ({ frames := 1, cells := 0, slots := 0, locals := 22 } : Room)).room s m [.ref o1].toArray below meth c H locs 0 0 (MQ below (va_Qi (fun r (_ : Unit) => True) (fun _ t => WD D cy X A S t) A) [.ref o1].toArray s 0 0 A) (F0 m 68 ls [])) → W p l e (headSpec wsX10_total ({ frames := 1, cells := 0, slots := 0, locals := 22 } : Room)).room s m [.ref o1].toArray below meth c H locs 0 0 (MQ below (va_Qi (fun r (_ : Unit) => True) (fun _ t => WD D cy X A S t) A) [.ref o1].toArray s 0 0 A) (F0 m 15 ls []) := by
    intro n15
    induction n15 with
    | zero => intro w15_1 w15_2 w15_3 w15_5 H locs ls hm; exact absurd hm (Nat.not_lt_zero _)
    | succ n15 ih15 =>
      intro w15_1 w15_2 w15_3 w15_5 H locs ls hm15 hi15 hP hS hl ko15
      refine lv_iload hx hb dX10_total_15 (lv_at hl 0 rfl) ?_
      refine lv_aload_n hx hb dX10_total_17 rfl (lv_at hl 5 rfl) ?_
      obtain ⟨k3, gk3, hk3⟩ := wGt (cy := cy) X S h_o1.1 h_o1.2.1
      have i4 := ((hW.at h_o1 List.not_mem_nil).to_10 h_o1.2.1).R1
      refine va_get (D := D) (ci := 14) (v := .int (S.I o1 1)) (C := RX10) (T := TX10) (N := 23) hx hb hts hi_X10_total_X10 hown hK hP k3 hk3 rfl 1 (by decide) (hts (.fieldLink RX10 29 "HobhouseModel$Gear" "teeth" "I") (by decide +kernel)) (fun _ h9 => h9) rfl dX10_total_18 ?_
      refine lv_icmp_ge (tgt := 68) hx hb dX10_total_21 (by decide) (fun c5 => ?_) (fun c5 => ?_)
      · have c5i : (S.I o1 1).toInt ≤ w15_5.toInt := le_v rfl rfl c5
        exact ko15 w15_1 w15_2 w15_3 w15_5 _ _ _ (by omega) hP hS (lv_sub hl [0, 1, 2, 3, 4, 5] rfl)
      · have c5i : w15_5.toInt < (S.I o1 1).toInt := nle_v rfl rfl c5
        refine lv_aload_n hx hb dX10_total_24 rfl (lv_at hl 5 rfl) ?_
        obtain ⟨k6, gk6, hk6⟩ := wGt (cy := cy) X S h_o1.1 h_o1.2.1
        refine va_get (D := D) (ci := 14) (v := .int (S.I o1 1)) (C := RX10) (T := TX10) (N := 23) hx hb hts hi_X10_total_X10 hown hK hP k6 hk6 rfl 1 (by decide) (hts (.fieldLink RX10 29 "HobhouseModel$Gear" "teeth" "I") (by decide +kernel)) (fun _ h9 => h9) rfl dX10_total_25 ?_
        refine lv_iload_n hx hb dX10_total_28 rfl (lv_at hl 4 rfl) ?_
        refine lv_imul hx hb dX10_total_29 ?_
        refine lv_iload hx hb dX10_total_30 (lv_at hl 0 rfl) ?_
        refine lv_iload hx hb dX10_total_32 (lv_at hl 1 rfl) ?_
        refine lv_imul hx hb dX10_total_34 ?_
        refine lv_isub hx hb dX10_total_35 ?_
        refine lv_istore (lv' := [(6, .int (((S.I o1 1) * w15_1) - (w15_5 * r2))), (5, .int w15_5), (4, .int r2), (3, .int w15_3), (2, .int w15_2), (1, .int w15_1), (0, .ref o1)]) hx hb dX10_total_36 hl (by decide) rfl (fun ls hl => ?_)
        refine lv_iload_n hx hb dX10_total_38 rfl (lv_at hl 4 rfl) ?_
        refine lv_iload hx hb dX10_total_39 (lv_at hl 0 rfl) ?_
        refine va_mmax hx hb (hml.trans hl.1.symm) hown (hts (.methodLink RX10 83 Lib.Math.max.name) (by decide +kernel)) (hts (.static Lib.Math.max.name) (by decide +kernel)) (hts (.initialized "java/lang/Math") (by decide +kernel)) (hts (.code Lib.Math.max.name Lib.Math.max.code 2 (some .int)) (by decide +kernel)) (Nat.le_of_ble_eq_true rfl) (Nat.le_of_ble_eq_true rfl) (Nat.zero_le _) (Nat.zero_le _) dX10_total_41 ?_
        refine lv_istore_n (lv' := [(2, .int (if w15_2 < (((S.I o1 1) * w15_1) - (w15_5 * r2)) then (((S.I o1 1) * w15_1) - (w15_5 * r2)) else w15_2)), (6, .int (((S.I o1 1) * w15_1) - (w15_5 * r2))), (5, .int w15_5), (4, .int r2), (3, .int w15_3), (1, .int w15_1), (0, .ref o1)]) hx hb dX10_total_44 rfl hl (by decide) rfl (fun ls hl => ?_)
        refine lv_iload_n hx hb dX10_total_45 rfl (lv_at hl 4 rfl) ?_
        refine lv_iload hx hb dX10_total_46 (lv_at hl 1 rfl) ?_
        refine va_mmin hx hb (hml.trans hl.1.symm) hown (hts (.methodLink RX10 113 Lib.Math.min.name) (by decide +kernel)) (hts (.static Lib.Math.min.name) (by decide +kernel)) (hts (.initialized "java/lang/Math") (by decide +kernel)) (hts (.code Lib.Math.min.name Lib.Math.min.code 2 (some .int)) (by decide +kernel)) (Nat.le_of_ble_eq_true rfl) (Nat.le_of_ble_eq_true rfl) (Nat.zero_le _) (Nat.zero_le _) dX10_total_48 ?_
        refine lv_istore_n (lv' := [(3, .int (if (((S.I o1 1) * w15_1) - (w15_5 * r2)) < w15_3 then (((S.I o1 1) * w15_1) - (w15_5 * r2)) else w15_3)), (2, .int (if w15_2 < (((S.I o1 1) * w15_1) - (w15_5 * r2)) then (((S.I o1 1) * w15_1) - (w15_5 * r2)) else w15_2)), (6, .int (((S.I o1 1) * w15_1) - (w15_5 * r2))), (5, .int w15_5), (4, .int r2), (1, .int w15_1), (0, .ref o1)]) hx hb dX10_total_51 rfl hl (by decide) rfl (fun ls hl => ?_)
        refine lv_iload_n hx hb dX10_total_52 rfl (lv_at hl 5 rfl) ?_
        refine lv_aload_n hx hb dX10_total_53 rfl (lv_at hl 6 rfl) ?_
        have F7 := ((hW.at h_o1 List.not_mem_nil).to_10 h_o1.2.1).F5
        obtain ⟨k8, gk8, hk8⟩ := wGt (cy := cy) X S h_o1.1 h_o1.2.1
        simp only [kE, F7.1] at hk8
        refine va_get (D := D) (ci := 14) (v := .ref (S.f o1 5)) (C := RX10) (T := TX10) (N := 23) hx hb hts hi_X10_total_X10 hown hK hP k8 hk8 rfl 5 (by decide) (hts (.fieldLink RX10 9 "HobhouseModel$Gear" "errors" "[I") (by decide +kernel)) (fun _ h9 => h9) rfl dX10_total_54 ?_
        refine lv_iload hx hb dX10_total_57 (lv_at hl 3 rfl) ?_
        obtain ⟨k9, gk9, hk9⟩ := wGt (cy := cy) X S F7.2.1.1 F7.2.1.2.1
        refine va_iald hx hb hK hP k9 2 hk9 rfl (inb (m := 200) F7.2.2 (by omega) (by omega)) dX10_total_59 ?_
        refine lv_iadd hx hb dX10_total_60 ?_
        refine lv_istore_n (lv' := [(1, .int (w15_1 + (S.i (S.f o1 5) w15_5.toNatClampNeg))), (3, .int (if (((S.I o1 1) * w15_1) - (w15_5 * r2)) < w15_3 then (((S.I o1 1) * w15_1) - (w15_5 * r2)) else w15_3)), (2, .int (if w15_2 < (((S.I o1 1) * w15_1) - (w15_5 * r2)) then (((S.I o1 1) * w15_1) - (w15_5 * r2)) else w15_2)), (6, .int (((S.I o1 1) * w15_1) - (w15_5 * r2))), (5, .int w15_5), (4, .int r2), (0, .ref o1)]) hx hb dX10_total_61 rfl hl (by decide) rfl (fun ls hl => ?_)
        refine lv_iinc (v := w15_5 + (1 : Int32)) (lv' := [(5, .int (w15_5 + (1 : Int32))), (1, .int (w15_1 + (S.i (S.f o1 5) w15_5.toNatClampNeg))), (3, .int (if (((S.I o1 1) * w15_1) - (w15_5 * r2)) < w15_3 then (((S.I o1 1) * w15_1) - (w15_5 * r2)) else w15_3)), (2, .int (if w15_2 < (((S.I o1 1) * w15_1) - (w15_5 * r2)) then (((S.I o1 1) * w15_1) - (w15_5 * r2)) else w15_2)), (6, .int (((S.I o1 1) * w15_1) - (w15_5 * r2))), (4, .int r2), (0, .ref o1)]) hx hb dX10_total_62 hl (k := 4) rfl (by rfl) (by decide) rfl (fun ls hl => ?_)
        refine lv_goto (tgt := 15) hx hb dX10_total_65 (by decide) ?_
        have l32_1 : (1 : Int32).toInt = 1 := rfl
        have i10 : (w15_5 + (1 : Int32)).toInt = w15_5.toInt + 1 := t_addr (n := 1) rfl (by omega)
        exact ih15 (w15_1 + (S.i (S.f o1 5) w15_5.toNatClampNeg)) (if w15_2 < (((S.I o1 1) * w15_1) - (w15_5 * r2)) then (((S.I o1 1) * w15_1) - (w15_5 * r2)) else w15_2) (if (((S.I o1 1) * w15_1) - (w15_5 * r2)) < w15_3 then (((S.I o1 1) * w15_1) - (w15_5 * r2)) else w15_3) (w15_5 + (1 : Int32)) _ _ _ (Nat.lt_of_lt_of_le (by omega) (Nat.le_of_lt_succ hm15)) (by omega) hP hS (lv_sub hl [0, 5, 2, 3, 1, 6] rfl) ko15
  refine loop15 201 (0 : Int32) (0 : Int32) (0 : Int32) (0 : Int32) _ _ _ (by omega) (by omega) hP hS (lv_sub hl [0, 1, 2, 3, 4, 5] rfl) (fun z12 z13 z14 z15 H locs ls hi15 hP hS hl => ?_)
  refine lv_iload_n hx hb dX10_total_68 rfl (lv_at hl 3 rfl) ?_
  refine lv_iload_n hx hb dX10_total_69 rfl (lv_at hl 2 rfl) ?_
  refine lv_isub hx hb dX10_total_70 ?_
  refine lv_aload_n hx hb dX10_total_71 rfl (lv_at hl 5 rfl) ?_
  obtain ⟨k16, gk16, hk16⟩ := wGt (cy := cy) X S h_o1.1 h_o1.2.1
  have i17 := ((hW.at h_o1 List.not_mem_nil).to_10 h_o1.2.1).R1
  refine va_get (D := D) (ci := 14) (v := .int (S.I o1 1)) (C := RX10) (T := TX10) (N := 23) hx hb hts hi_X10_total_X10 hown hK hP k16 hk16 rfl 1 (by decide) (hts (.fieldLink RX10 29 "HobhouseModel$Gear" "teeth" "I") (by decide +kernel)) (fun _ h9 => h9) rfl dX10_total_72 ?_
  refine lv_idiv hx hb dX10_total_75 (nz_i (by omega)) ?_
  refine W.widen (k := 0) (n := 0) (Nat.le_of_ble_eq_true rfl) (Nat.le_of_ble_eq_true rfl) ?_
  exact W.iret (v := (z13 - z14) / (S.I o1 1)) hx hb hr (fun t ht hW9 => ⟨⟨(z13 - z14) / (S.I o1 1), (), rfl, trivial, wd_end hP hK hD ht hW9.alike⟩, hS.F ht⟩) hS.2.2 dX10_total_76 hlocks
theorem hi_X10_grade_X10 : ∀ w ∈ u_ws RX10 TX10 23, w ∈ wsX10_grade := by decide +kernel
theorem hd_X10_grade : yX10_grade.cls = RX10 ∧ yX10_grade.cls ≠ "java/lang/invoke/MethodHandle" ∧ yX10_grade.cls ≠ "java/lang/invoke/VarHandle" ∧ (parseMethodDescriptor yX10_grade.desc).map (fun d => d.parameters.length) = some 0 := by decide +kernel
set_option maxHeartbeats 4000000 in
set_option maxRecDepth 100000 in
theorem c_X10_grade (l : Launch) {D : va_G} {cy : Nat → ClassId} {X : va_W} (S : wPS) (sz : Nat) (o1 : Nat) (h_o1 : isA S o1 10) (hW : wtB S [])  : Met l yX10_grade wsX10_grade ({ frames := 2, cells := 0, slots := 0, locals := 48 }) (va_Pc [.ref o1] (fun U => U.heap.size = sz ∧ WD D cy X (fun _ => True) S U ∧ NW U)) (va_Qi (fun r (_ : Unit) => 0 ≤ r.toInt ∧ r.toInt ≤ 13) (fun _ t => WD D cy X (va_A (X ++ PL cy S) sz) S t) (va_A (X ++ PL cy S) sz)) 0 0 (va_A (X ++ PL cy S) sz) := by
  refine Met.ofW (cc := cX10_grade) (maxL := 1) (ret := (some .int)) (by decide) rfl ?_
  intro p e s m args below meth c s₁ B hml hv
  obtain ⟨rfl, hsz, ⟨hP, hK, hD0⟩, hN⟩ := hv
  have hx := B.exec
  have hb := B.bytes
  have hr := B.returns
  have hts := atoms_spec (ws := wsX10_grade) B.pre
  have hown : s.vm.findClass RX10 = some m.cls := findClass_of_methodNamed (x := yX10_grade) B.named
  have hlocks := B.notSynchronized
  subst hsz
  have hD := hD0.self (sz := s.heap.size)
  generalize hAe : va_A (X ++ PL cy S) s.heap.size = A at hD ⊢
  have hA : ∀ q : Nat, s.heap.size ≤ q → A q := fun q h => by rw [← hAe]; exact Or.inr h
  have hS : va_S A s.heap s.heap [] := va_S.rf
  have hl := lv_entry ([.ref o1]) (n := 1) (Nat.le_of_ble_eq_true rfl)
  rw [lg_entry_eq]
  generalize (lg_sl ([.ref o1]) ++ List.replicate (1 - (lg_sl ([.ref o1])).length) Slot.unset).toArray = ls at hl ⊢
  have hl : lv_has ls 1 [(0, .ref o1)] := hl
  refine lv_aload_n hx hb dX10_grade_0 rfl (lv_at hl 0 rfl) ?_
  have hFc := free_all hD hS hA
  obtain ⟨k1, gk1, hk1⟩ := wGt (cy := cy) X S h_o1.1 h_o1.2.1
  refine va_calli (va_runV (As := []) (rest := []) ⟨hx, hb, hml, hown, hts⟩ (c_X10_greatest l (cy := cy) (X := X) (D := D) S _ o1 h_o1 (hW)) (cwV 0 hts gX10_grade_X10_greatest rfl rfl rfl hd_X10_greatest ⟨Nat.le_of_ble_eq_true rfl, Nat.le_of_ble_eq_true rfl⟩) (pV (va_recv hK hP (q := (RX10, TX10, 23)) (ci := 14) (q0 := k1) rfl hk1) hP hK hD hN) rfl rfl hl.1 rfl (lv_room (Nat.le_of_ble_eq_true rfl)) dX10_grade_1 ⟨(Nat.zero_le _), (Nat.zero_le _)⟩) hS (fun q _ h => hFc q h) hFc (fun r2 u t H1 locs ht hvm hw hB hz1 hk1 hS => ?_)
  clear hw
  obtain ⟨hP, hD⟩ := wd_post hFc ht hB
  generalize H1 = H at hP hS ⊢
  have hFc := free_all hD hS hA
  refine va_calli (va_runSN (As := [.int r2]) (rest := []) ⟨hx, hb, hml, hown, hts⟩ (c_X12_gradeOf l (cy := cy) (X := X) (D := D) S _ r2) ⟨va_cnB 1 hts gX10_grade_X12_gradeOf_n122 rfl rfl rfl (hN (.methodLinkNest RX10 122 yX12_gradeOf RX12) (by decide +kernel)) (hts (.initialized RX12) (by decide +kernel)) (by decide +kernel) ⟨Nat.le_of_ble_eq_true rfl, Nat.le_of_ble_eq_true rfl⟩, hts (.static yX12_gradeOf) (by decide +kernel), trivial⟩ (pS hP hK hD hN) rfl rfl hl.1 rfl (lv_room (Nat.le_of_ble_eq_true rfl)) dX10_grade_4 ⟨(Nat.zero_le _), (Nat.zero_le _)⟩) hS (fun q _ h => hFc q h) hFc (fun r3 u t H1 locs ht hvm hw hB hz1 hk1 hS => ?_)
  have y4 := hw
  obtain ⟨hP, hD⟩ := wd_post hFc ht hB
  generalize H1 = H at hP hS ⊢
  refine lv_aload_n hx hb dX10_grade_7 rfl (lv_at hl 0 rfl) ?_
  have hFc := free_all hD hS hA
  obtain ⟨k5, gk5, hk5⟩ := wGt (cy := cy) X S h_o1.1 h_o1.2.1
  refine va_calli (va_runV (As := []) (rest := [.int r3]) ⟨hx, hb, hml, hown, hts⟩ (c_X10_total l (cy := cy) (X := X) (D := D) S _ o1 h_o1 (hW)) (cwV 0 hts gX10_grade_X10_total rfl rfl rfl hd_X10_total ⟨Nat.le_of_ble_eq_true rfl, Nat.le_of_ble_eq_true rfl⟩) (pV (va_recv hK hP (q := (RX10, TX10, 23)) (ci := 14) (q0 := k5) rfl hk5) hP hK hD hN) rfl rfl hl.1 rfl (lv_room (Nat.le_of_ble_eq_true rfl)) dX10_grade_8 ⟨(Nat.zero_le _), (Nat.zero_le _)⟩) hS (fun q _ h => hFc q h) hFc (fun r6 u t H1 locs ht hvm hw hB hz1 hk1 hS => ?_)
  clear hw
  obtain ⟨hP, hD⟩ := wd_post hFc ht hB
  generalize H1 = H at hP hS ⊢
  refine lv_iconst (v := 4) hx hb dX10_grade_11 (by decide) ?_
  refine lv_idiv hx hb dX10_grade_12 (by decide) ?_
  have l32_4 : (4 : Int32).toInt = 4 := rfl
  have hFc := free_all hD hS hA
  refine va_calli (va_runSN (As := [.int (r6 / (4 : Int32))]) (rest := [.int r3]) ⟨hx, hb, hml, hown, hts⟩ (c_X12_gradeOf l (cy := cy) (X := X) (D := D) S _ (r6 / (4 : Int32))) ⟨va_cnB 1 hts gX10_grade_X12_gradeOf_n122 rfl rfl rfl (hN (.methodLinkNest RX10 122 yX12_gradeOf RX12) (by decide +kernel)) (hts (.initialized RX12) (by decide +kernel)) (by decide +kernel) ⟨Nat.le_of_ble_eq_true rfl, Nat.le_of_ble_eq_true rfl⟩, hts (.static yX12_gradeOf) (by decide +kernel), trivial⟩ (pS hP hK hD hN) rfl rfl hl.1 rfl (lv_room (Nat.le_of_ble_eq_true rfl)) dX10_grade_13 ⟨(Nat.zero_le _), (Nat.zero_le _)⟩) hS (fun q _ h => hFc q h) hFc (fun r7 u t H1 locs ht hvm hw hB hz1 hk1 hS => ?_)
  have y8 := hw
  obtain ⟨hP, hD⟩ := wd_post hFc ht hB
  generalize H1 = H at hP hS ⊢
  refine lv_iconst (v := 2) hx hb dX10_grade_16 (by decide) ?_
  refine lv_aload_n hx hb dX10_grade_17 rfl (lv_at hl 0 rfl) ?_
  obtain ⟨k9, gk9, hk9⟩ := wGt (cy := cy) X S h_o1.1 h_o1.2.1
  refine va_get (D := D) (ci := 14) (v := .int (S.I o1 10)) (C := RX10) (T := TX10) (N := 23) hx hb hts hi_X10_grade_X10 hown hK hP k9 hk9 rfl 10 (by decide) (hts (.fieldLink RX10 128 "HobhouseModel$Gear" "profile" "I") (by decide +kernel)) (fun _ h9 => h9) rfl dX10_grade_18 ?_
  refine lv_imul hx hb dX10_grade_21 ?_
  have l32_2 : (2 : Int32).toInt = 2 := rfl
  have hFc := free_all hD hS hA
  refine va_calli (va_runSN (As := [.int ((2 : Int32) * (S.I o1 10))]) (rest := [.int r7, .int r3]) ⟨hx, hb, hml, hown, hts⟩ (c_X12_gradeOf l (cy := cy) (X := X) (D := D) S _ ((2 : Int32) * (S.I o1 10))) ⟨va_cnB 1 hts gX10_grade_X12_gradeOf_n122 rfl rfl rfl (hN (.methodLinkNest RX10 122 yX12_gradeOf RX12) (by decide +kernel)) (hts (.initialized RX12) (by decide +kernel)) (by decide +kernel) ⟨Nat.le_of_ble_eq_true rfl, Nat.le_of_ble_eq_true rfl⟩, hts (.static yX12_gradeOf) (by decide +kernel), trivial⟩ (pS hP hK hD hN) rfl rfl hl.1 rfl (lv_room (Nat.le_of_ble_eq_true rfl)) dX10_grade_22 ⟨(Nat.zero_le _), (Nat.zero_le _)⟩) hS (fun q _ h => hFc q h) hFc (fun r10 u t H1 locs ht hvm hw hB hz1 hk1 hS => ?_)
  have y11 := hw
  obtain ⟨hP, hD⟩ := wd_post hFc ht hB
  generalize H1 = H at hP hS ⊢
  refine va_mmax hx hb (hml.trans hl.1.symm) hown (hts (.methodLink RX10 83 Lib.Math.max.name) (by decide +kernel)) (hts (.static Lib.Math.max.name) (by decide +kernel)) (hts (.initialized "java/lang/Math") (by decide +kernel)) (hts (.code Lib.Math.max.name Lib.Math.max.code 2 (some .int)) (by decide +kernel)) (Nat.le_of_ble_eq_true rfl) (Nat.le_of_ble_eq_true rfl) (Nat.zero_le _) (Nat.zero_le _) dX10_grade_25 ?_
  have i12 := mmax_i r7 r10
  refine va_mmax hx hb (hml.trans hl.1.symm) hown (hts (.methodLink RX10 83 Lib.Math.max.name) (by decide +kernel)) (hts (.static Lib.Math.max.name) (by decide +kernel)) (hts (.initialized "java/lang/Math") (by decide +kernel)) (hts (.code Lib.Math.max.name Lib.Math.max.code 2 (some .int)) (by decide +kernel)) (Nat.le_of_ble_eq_true rfl) (Nat.le_of_ble_eq_true rfl) (Nat.zero_le _) (Nat.zero_le _) dX10_grade_28 ?_
  have i13 := mmax_i r3 (if r7 < r10 then r10 else r7)
  refine W.widen (k := 0) (n := 0) (Nat.le_of_ble_eq_true rfl) (Nat.le_of_ble_eq_true rfl) ?_
  exact W.iret (v := (if r3 < (if r7 < r10 then r10 else r7) then (if r7 < r10 then r10 else r7) else r3)) hx hb hr (fun t ht hW9 => ⟨⟨(if r3 < (if r7 < r10 then r10 else r7) then (if r7 < r10 then r10 else r7) else r3), (), rfl, (by omega), wd_end hP hK hD ht hW9.alike⟩, hS.F ht⟩) hS.2.2 dX10_grade_31 hlocks
theorem hi_X10_part_X10 : ∀ w ∈ u_ws RX10 TX10 23, w ∈ wsX10_part := by decide +kernel
theorem hd_X10_part : yX10_part.cls = RX10 ∧ yX10_part.cls ≠ "java/lang/invoke/MethodHandle" ∧ yX10_part.cls ≠ "java/lang/invoke/VarHandle" ∧ (parseMethodDescriptor yX10_part.desc).map (fun d => d.parameters.length) = some 1 := by decide +kernel
set_option maxHeartbeats 4000000 in
set_option maxRecDepth 100000 in
theorem c_X10_part (l : Launch) {D : va_G} {cy : Nat → ClassId} {X : va_W} (S : wPS) (sz : Nat) (o1 : Nat) (h_o1 : isA S o1 10) (x1 : Int32) (hW : wtB S []) (h1 : 1 ≤ x1.toInt ∧ x1.toInt ≤ 200) : Met l yX10_part wsX10_part ({ frames := 1, cells := 0, slots := 0, locals := 13 }) (va_Pc [.ref o1, .int x1] (fun U => U.heap.size = sz ∧ WD D cy X (fun _ => True) S U ∧ NW U)) (va_Qi (fun r (_ : Unit) => True) (fun _ t => WD D cy X (va_A (X ++ PL cy S) sz) S t) (va_A (X ++ PL cy S) sz)) 0 0 (va_A (X ++ PL cy S) sz) := by
  refine Met.ofW (cc := cX10_part) (maxL := 7) (ret := (some .int)) (by decide) rfl ?_
  intro p e s m args below meth c s₁ B hml hv
  obtain ⟨rfl, hsz, ⟨hP, hK, hD0⟩, hN⟩ := hv
  have hx := B.exec
  have hb := B.bytes
  have hr := B.returns
  have hts := atoms_spec (ws := wsX10_part) B.pre
  have hown : s.vm.findClass RX10 = some m.cls := findClass_of_methodNamed (x := yX10_part) B.named
  have hlocks := B.notSynchronized
  subst hsz
  have hD := hD0.self (sz := s.heap.size)
  generalize hAe : va_A (X ++ PL cy S) s.heap.size = A at hD ⊢
  have hA : ∀ q : Nat, s.heap.size ≤ q → A q := fun q h => by rw [← hAe]; exact Or.inr h
  have hS : va_S A s.heap s.heap [] := va_S.rf
  have hl := lv_entry ([.ref o1, .int x1]) (n := 7) (Nat.le_of_ble_eq_true rfl)
  rw [lg_entry_eq]
  generalize (lg_sl ([.ref o1, .int x1]) ++ List.replicate (7 - (lg_sl ([.ref o1, .int x1])).length) Slot.unset).toArray = ls at hl ⊢
  have hl : lv_has ls 7 [(0, .ref o1), (1, .int x1)] := hl
  have r1 := ((hW.at h_o1 List.not_mem_nil).to_10 h_o1.2.1).R1
  have r2 := ((hW.at h_o1 List.not_mem_nil).to_10 h_o1.2.1).R2
  refine lv_iconst (v := 0) hx hb dX10_part_0 (by decide) ?_
  refine lv_istore_n (lv' := [(2, .int (0 : Int32)), (0, .ref o1), (1, .int x1)]) hx hb dX10_part_1 rfl hl (by decide) rfl (fun ls hl => ?_)
  refine lv_iconst (v := 0) hx hb dX10_part_2 (by decide) ?_
  refine lv_istore_n (lv' := [(3, .int (0 : Int32)), (2, .int (0 : Int32)), (0, .ref o1), (1, .int x1)]) hx hb dX10_part_3 rfl hl (by decide) rfl (fun ls hl => ?_)
  refine lv_iconst (v := 0) hx hb dX10_part_4 (by decide) ?_
  refine lv_istore (lv' := [(4, .int (0 : Int32)), (3, .int (0 : Int32)), (2, .int (0 : Int32)), (0, .ref o1), (1, .int x1)]) hx hb dX10_part_5 hl (by decide) rfl (fun ls hl => ?_)
  have l32_0 : (0 : Int32).toInt = 0 := rfl
  have loop7 : ∀ (n : Nat) (w7_2 : Int32) (w7_3 : Int32) (w7_4 : Int32) (H : Heap) (locs : List Loc) (ls : Array Slot), (200 - w7_4.toInt).toNat < n → 0 ≤ w7_4.toInt ∧ w7_4.toInt ≤ 200 → va_P D vwCl (X ++ PL cy S) H → va_S A s.heap H locs → lv_has ls 7 [(4, .int w7_4), (3, .int w7_3), (2, .int w7_2), (0, .ref o1), (1, .int x1)] → (∀ (w7_2x : Int32) (w7_3x : Int32) (w7_4x : Int32) (H : Heap) (locs : List Loc) (ls : Array Slot), 0 ≤ w7_4x.toInt ∧ w7_4x.toInt ≤ 200 → va_P D vwCl (X ++ PL cy S) H → va_S A s.heap H locs → lv_has ls 7 [(4, .int w7_4x), (3, .int w7_3x), (2, .int w7_2x), (0, .ref o1), (1, .int x1)] → W p l e (headSpec wsX10_part ({ frames := 1, cells := 0, slots := 0, locals := 13 } : Room)).room s m [.ref o1, .int x1].toArray below meth c H locs 0 0 (MQ below (va_Qi (fun r (_ : Unit) => True) (fun _ t => WD D cy X A S t) A) [.ref o1, .int x1].toArray s 0 0 A) (F0 m 90 ls [])) → W p l e (headSpec wsX10_part ({ frames := 1, cells := 0, slots := 0, locals := 13 } : Room)).room s m [.ref o1, .int x1].toArray below meth c H locs 0 0 (MQ below (va_Qi (fun r (_ : Unit) => True) (fun _ t => WD D cy X A S t) A) [.ref o1, .int x1].toArray s 0 0 A) (F0 m 7 ls []) := by
    intro n7
    induction n7 with
    | zero => intro w7_2 w7_3 w7_4 H locs ls hm; exact absurd hm (Nat.not_lt_zero _)
    | succ n7 ih7 =>
      intro w7_2 w7_3 w7_4 H locs ls hm7 hi7 hP hS hl ko7
      refine lv_iload hx hb dX10_part_7 (lv_at hl 0 rfl) ?_
      refine lv_iload_n hx hb dX10_part_9 rfl (lv_at hl 4 rfl) ?_
      refine lv_icmp_ge (tgt := 90) hx hb dX10_part_10 (by decide) (fun c1 => ?_) (fun c1 => ?_)
      · have c1i : x1.toInt ≤ w7_4.toInt := le_v rfl rfl c1
        exact ko7 w7_2 w7_3 w7_4 _ _ _ (by omega) hP hS (lv_sub hl [0, 1, 2, 3, 4] rfl)
      · have c1i : w7_4.toInt < x1.toInt := nle_v rfl rfl c1
        refine lv_iconst (v := 0) hx hb dX10_part_13 (by decide) ?_
        refine lv_istore (lv' := [(5, .int (0 : Int32)), (4, .int w7_4), (3, .int w7_3), (2, .int w7_2), (0, .ref o1), (1, .int x1)]) hx hb dX10_part_14 hl (by decide) rfl (fun ls hl => ?_)
        refine lv_iload hx hb dX10_part_16 (lv_at hl 1 rfl) ?_
        refine lv_istore (lv' := [(6, .int w7_4), (5, .int (0 : Int32)), (4, .int w7_4), (3, .int w7_3), (2, .int w7_2), (0, .ref o1), (1, .int x1)]) hx hb dX10_part_18 hl (by decide) rfl (fun ls hl => ?_)
        have loop20 : ∀ (n : Nat) (w20_5 : Int32) (w20_6 : Int32) (H : Heap) (locs : List Loc) (ls : Array Slot), (400 - w20_6.toInt).toNat < n → 0 ≤ w20_6.toInt ∧ w20_6.toInt ≤ 400 → va_P D vwCl (X ++ PL cy S) H → va_S A s.heap H locs → lv_has ls 7 [(6, .int w20_6), (5, .int w20_5), (4, .int w7_4), (3, .int w7_3), (2, .int w7_2), (0, .ref o1), (1, .int x1)] → (∀ (w20_5x : Int32) (w20_6x : Int32) (H : Heap) (locs : List Loc) (ls : Array Slot), 0 ≤ w20_6x.toInt ∧ w20_6x.toInt ≤ 400 → va_P D vwCl (X ++ PL cy S) H → va_S A s.heap H locs → lv_has ls 7 [(6, .int w20_6x), (5, .int w20_5x), (4, .int w7_4), (3, .int w7_3), (2, .int w7_2), (0, .ref o1), (1, .int x1)] → W p l e (headSpec wsX10_part ({ frames := 1, cells := 0, slots := 0, locals := 13 } : Room)).room s m [.ref o1, .int x1].toArray below meth c H locs 0 0 (MQ below (va_Qi (fun r (_ : Unit) => True) (fun _ t => WD D cy X A S t) A) [.ref o1, .int x1].toArray s 0 0 A) (F0 m 50 ls [])) → W p l e (headSpec wsX10_part ({ frames := 1, cells := 0, slots := 0, locals := 13 } : Room)).room s m [.ref o1, .int x1].toArray below meth c H locs 0 0 (MQ below (va_Qi (fun r (_ : Unit) => True) (fun _ t => WD D cy X A S t) A) [.ref o1, .int x1].toArray s 0 0 A) (F0 m 20 ls []) := by
          intro n20
          induction n20 with
          | zero => intro w20_5 w20_6 H locs ls hm; exact absurd hm (Nat.not_lt_zero _)
          | succ n20 ih20 =>
            intro w20_5 w20_6 H locs ls hm20 hi20 hP hS hl ko20
            refine lv_iload hx hb dX10_part_20 (lv_at hl 0 rfl) ?_
            refine lv_aload_n hx hb dX10_part_22 rfl (lv_at hl 5 rfl) ?_
            obtain ⟨k2, gk2, hk2⟩ := wGt (cy := cy) X S h_o1.1 h_o1.2.1
            have i3 := ((hW.at h_o1 List.not_mem_nil).to_10 h_o1.2.1).R1
            refine va_get (D := D) (ci := 14) (v := .int (S.I o1 1)) (C := RX10) (T := TX10) (N := 23) hx hb hts hi_X10_part_X10 hown hK hP k2 hk2 rfl 1 (by decide) (hts (.fieldLink RX10 29 "HobhouseModel$Gear" "teeth" "I") (by decide +kernel)) (fun _ h9 => h9) rfl dX10_part_23 ?_
            refine lv_icmp_ge (tgt := 50) hx hb dX10_part_26 (by decide) (fun c4 => ?_) (fun c4 => ?_)
            · have c4i : (S.I o1 1).toInt ≤ w20_6.toInt := le_v rfl rfl c4
              exact ko20 w20_5 w20_6 _ _ _ (by omega) hP hS (lv_sub hl [0, 1, 2, 3, 4, 5, 6] rfl)
            · have c4i : w20_6.toInt < (S.I o1 1).toInt := nle_v rfl rfl c4
              refine lv_iload hx hb dX10_part_29 (lv_at hl 1 rfl) ?_
              refine lv_aload_n hx hb dX10_part_31 rfl (lv_at hl 5 rfl) ?_
              have F5 := ((hW.at h_o1 List.not_mem_nil).to_10 h_o1.2.1).F5
              obtain ⟨k6, gk6, hk6⟩ := wGt (cy := cy) X S h_o1.1 h_o1.2.1
              simp only [kE, F5.1] at hk6
              refine va_get (D := D) (ci := 14) (v := .ref (S.f o1 5)) (C := RX10) (T := TX10) (N := 23) hx hb hts hi_X10_part_X10 hown hK hP k6 hk6 rfl 5 (by decide) (hts (.fieldLink RX10 9 "HobhouseModel$Gear" "errors" "[I") (by decide +kernel)) (fun _ h9 => h9) rfl dX10_part_32 ?_
              refine lv_iload hx hb dX10_part_35 (lv_at hl 0 rfl) ?_
              obtain ⟨k7, gk7, hk7⟩ := wGt (cy := cy) X S F5.2.1.1 F5.2.1.2.1
              refine va_iald hx hb hK hP k7 2 hk7 rfl (inb (m := 200) F5.2.2 (by omega) (by omega)) dX10_part_37 ?_
              refine lv_iadd hx hb dX10_part_38 ?_
              refine lv_istore (lv' := [(5, .int (w20_5 + (S.i (S.f o1 5) w20_6.toNatClampNeg))), (6, .int w20_6), (4, .int w7_4), (3, .int w7_3), (2, .int w7_2), (0, .ref o1), (1, .int x1)]) hx hb dX10_part_39 hl (by decide) rfl (fun ls hl => ?_)
              refine lv_iload hx hb dX10_part_41 (lv_at hl 1 rfl) ?_
              refine lv_iload_n hx hb dX10_part_43 rfl (lv_at hl 6 rfl) ?_
              refine lv_iadd hx hb dX10_part_44 ?_
              refine lv_istore (lv' := [(6, .int (w20_6 + x1)), (5, .int (w20_5 + (S.i (S.f o1 5) w20_6.toNatClampNeg))), (4, .int w7_4), (3, .int w7_3), (2, .int w7_2), (0, .ref o1), (1, .int x1)]) hx hb dX10_part_45 hl (by decide) rfl (fun ls hl => ?_)
              refine lv_goto (tgt := 20) hx hb dX10_part_47 (by decide) ?_
              have i8 : (w20_6 + x1).toInt = w20_6.toInt + x1.toInt := t_add (by omega)
              exact ih20 (w20_5 + (S.i (S.f o1 5) w20_6.toNatClampNeg)) (w20_6 + x1) _ _ _ (Nat.lt_of_lt_of_le (by omega) (Nat.le_of_lt_succ hm20)) (by omega) hP hS (lv_sub hl [0, 1, 2, 3, 4, 5, 6] rfl) ko20
        refine loop20 401 (0 : Int32) w7_4 _ _ _ (by omega) (by omega) hP hS (lv_sub hl [0, 1, 2, 3, 4, 5, 6] rfl) (fun z10 z11 H locs ls hi20 hP hS hl => ?_)
        refine lv_iload hx hb dX10_part_50 (lv_at hl 2 rfl) ?_
        refine lv_if_ne (tgt := 60) hx hb dX10_part_52 (by decide) (fun c12 => ?_) (fun c12 => ?_)
        · have c12i : ¬ w7_4.toInt = 0 := neq_v rfl rfl c12
          refine lv_iload_n hx hb dX10_part_60 rfl (lv_at hl 4 rfl) ?_
          refine lv_iload hx hb dX10_part_61 (lv_at hl 1 rfl) ?_
          refine va_mmax hx hb (hml.trans hl.1.symm) hown (hts (.methodLink RX10 83 Lib.Math.max.name) (by decide +kernel)) (hts (.static Lib.Math.max.name) (by decide +kernel)) (hts (.initialized "java/lang/Math") (by decide +kernel)) (hts (.code Lib.Math.max.name Lib.Math.max.code 2 (some .int)) (by decide +kernel)) (Nat.le_of_ble_eq_true rfl) (Nat.le_of_ble_eq_true rfl) (Nat.zero_le _) (Nat.zero_le _) dX10_part_63 ?_
          refine lv_istore_n (lv' := [(2, .int (if w7_2 < z10 then z10 else w7_2)), (6, .int z11), (5, .int z10), (4, .int w7_4), (3, .int w7_3), (0, .ref o1), (1, .int x1)]) hx hb dX10_part_66 rfl hl (by decide) rfl (fun ls hl => ?_)
          refine lv_iload hx hb dX10_part_67 (lv_at hl 3 rfl) ?_
          refine lv_if_ne (tgt := 77) hx hb dX10_part_69 (by decide) (fun c13 => ?_) (fun c13 => ?_)
          · have c13i : ¬ w7_4.toInt = 0 := neq_v rfl rfl c13
            refine lv_iload_n hx hb dX10_part_77 rfl (lv_at hl 4 rfl) ?_
            refine lv_iload hx hb dX10_part_78 (lv_at hl 2 rfl) ?_
            refine va_mmin hx hb (hml.trans hl.1.symm) hown (hts (.methodLink RX10 113 Lib.Math.min.name) (by decide +kernel)) (hts (.static Lib.Math.min.name) (by decide +kernel)) (hts (.initialized "java/lang/Math") (by decide +kernel)) (hts (.code Lib.Math.min.name Lib.Math.min.code 2 (some .int)) (by decide +kernel)) (Nat.le_of_ble_eq_true rfl) (Nat.le_of_ble_eq_true rfl) (Nat.zero_le _) (Nat.zero_le _) dX10_part_80 ?_
            refine lv_istore_n (lv' := [(3, .int (if z10 < w7_3 then z10 else w7_3)), (2, .int (if w7_2 < z10 then z10 else w7_2)), (6, .int z11), (5, .int z10), (4, .int w7_4), (0, .ref o1), (1, .int x1)]) hx hb dX10_part_83 rfl hl (by decide) rfl (fun ls hl => ?_)
            refine lv_iinc (v := w7_4 + (1 : Int32)) (lv' := [(4, .int (w7_4 + (1 : Int32))), (3, .int (if z10 < w7_3 then z10 else w7_3)), (2, .int (if w7_2 < z10 then z10 else w7_2)), (6, .int z11), (5, .int z10), (0, .ref o1), (1, .int x1)]) hx hb dX10_part_84 hl (k := 4) rfl (by rfl) (by decide) rfl (fun ls hl => ?_)
            refine lv_goto (tgt := 7) hx hb dX10_part_87 (by decide) ?_
            have l32_1 : (1 : Int32).toInt = 1 := rfl
            have i14 : (w7_4 + (1 : Int32)).toInt = w7_4.toInt + 1 := t_addr (n := 1) rfl (by omega)
            exact ih7 (if w7_2 < z10 then z10 else w7_2) (if z10 < w7_3 then z10 else w7_3) (w7_4 + (1 : Int32)) _ _ _ (Nat.lt_of_lt_of_le (by omega) (Nat.le_of_lt_succ hm7)) (by omega) hP hS (lv_sub hl [0, 1, 2, 5, 6] rfl) ko7
          · have c13i : w7_4.toInt = 0 := eq_v rfl rfl c13
            refine lv_iload hx hb dX10_part_72 (lv_at hl 2 rfl) ?_
            refine lv_goto (tgt := 83) hx hb dX10_part_74 (by decide) ?_
            refine lv_istore_n (lv' := [(3, .int z10), (2, .int (if w7_2 < z10 then z10 else w7_2)), (6, .int z11), (5, .int z10), (4, .int w7_4), (0, .ref o1), (1, .int x1)]) hx hb dX10_part_83 rfl hl (by decide) rfl (fun ls hl => ?_)
            refine lv_iinc (v := w7_4 + (1 : Int32)) (lv' := [(4, .int (w7_4 + (1 : Int32))), (3, .int z10), (2, .int (if w7_2 < z10 then z10 else w7_2)), (6, .int z11), (5, .int z10), (0, .ref o1), (1, .int x1)]) hx hb dX10_part_84 hl (k := 4) rfl (by rfl) (by decide) rfl (fun ls hl => ?_)
            refine lv_goto (tgt := 7) hx hb dX10_part_87 (by decide) ?_
            have l32_1 : (1 : Int32).toInt = 1 := rfl
            have i15 : (w7_4 + (1 : Int32)).toInt = w7_4.toInt + 1 := t_addr (n := 1) rfl (by omega)
            exact ih7 (if w7_2 < z10 then z10 else w7_2) z10 (w7_4 + (1 : Int32)) _ _ _ (Nat.lt_of_lt_of_le (by omega) (Nat.le_of_lt_succ hm7)) (by omega) hP hS (lv_sub hl [0, 1, 2, 5, 6] rfl) ko7
        · have c12i : w7_4.toInt = 0 := eq_v rfl rfl c12
          refine lv_iload hx hb dX10_part_55 (lv_at hl 1 rfl) ?_
          refine lv_goto (tgt := 66) hx hb dX10_part_57 (by decide) ?_
          refine lv_istore_n (lv' := [(2, .int z10), (6, .int z11), (5, .int z10), (4, .int w7_4), (3, .int w7_3), (0, .ref o1), (1, .int x1)]) hx hb dX10_part_66 rfl hl (by decide) rfl (fun ls hl => ?_)
          refine lv_iload hx hb dX10_part_67 (lv_at hl 3 rfl) ?_
          refine lv_if_ne (tgt := 77) hx hb dX10_part_69 (by decide) (fun c16 => ?_) (fun c16 => ?_)
          · have c16i : ¬ w7_4.toInt = 0 := neq_v rfl rfl c16
            refine lv_iload_n hx hb dX10_part_77 rfl (lv_at hl 4 rfl) ?_
            refine lv_iload hx hb dX10_part_78 (lv_at hl 2 rfl) ?_
            refine va_mmin hx hb (hml.trans hl.1.symm) hown (hts (.methodLink RX10 113 Lib.Math.min.name) (by decide +kernel)) (hts (.static Lib.Math.min.name) (by decide +kernel)) (hts (.initialized "java/lang/Math") (by decide +kernel)) (hts (.code Lib.Math.min.name Lib.Math.min.code 2 (some .int)) (by decide +kernel)) (Nat.le_of_ble_eq_true rfl) (Nat.le_of_ble_eq_true rfl) (Nat.zero_le _) (Nat.zero_le _) dX10_part_80 ?_
            refine lv_istore_n (lv' := [(3, .int (if z10 < w7_3 then z10 else w7_3)), (2, .int z10), (6, .int z11), (5, .int z10), (4, .int w7_4), (0, .ref o1), (1, .int x1)]) hx hb dX10_part_83 rfl hl (by decide) rfl (fun ls hl => ?_)
            refine lv_iinc (v := w7_4 + (1 : Int32)) (lv' := [(4, .int (w7_4 + (1 : Int32))), (3, .int (if z10 < w7_3 then z10 else w7_3)), (2, .int z10), (6, .int z11), (5, .int z10), (0, .ref o1), (1, .int x1)]) hx hb dX10_part_84 hl (k := 4) rfl (by rfl) (by decide) rfl (fun ls hl => ?_)
            refine lv_goto (tgt := 7) hx hb dX10_part_87 (by decide) ?_
            have l32_1 : (1 : Int32).toInt = 1 := rfl
            have i17 : (w7_4 + (1 : Int32)).toInt = w7_4.toInt + 1 := t_addr (n := 1) rfl (by omega)
            exact ih7 z10 (if z10 < w7_3 then z10 else w7_3) (w7_4 + (1 : Int32)) _ _ _ (Nat.lt_of_lt_of_le (by omega) (Nat.le_of_lt_succ hm7)) (by omega) hP hS (lv_sub hl [0, 1, 2, 5, 6] rfl) ko7
          · have c16i : w7_4.toInt = 0 := eq_v rfl rfl c16
            refine lv_iload hx hb dX10_part_72 (lv_at hl 2 rfl) ?_
            refine lv_goto (tgt := 83) hx hb dX10_part_74 (by decide) ?_
            refine lv_istore_n (lv' := [(3, .int z10), (2, .int z10), (6, .int z11), (5, .int z10), (4, .int w7_4), (0, .ref o1), (1, .int x1)]) hx hb dX10_part_83 rfl hl (by decide) rfl (fun ls hl => ?_)
            refine lv_iinc (v := w7_4 + (1 : Int32)) (lv' := [(4, .int (w7_4 + (1 : Int32))), (3, .int z10), (2, .int z10), (6, .int z11), (5, .int z10), (0, .ref o1), (1, .int x1)]) hx hb dX10_part_84 hl (k := 4) rfl (by rfl) (by decide) rfl (fun ls hl => ?_)
            refine lv_goto (tgt := 7) hx hb dX10_part_87 (by decide) ?_
            have l32_1 : (1 : Int32).toInt = 1 := rfl
            have i18 : (w7_4 + (1 : Int32)).toInt = w7_4.toInt + 1 := t_addr (n := 1) rfl (by omega)
            exact ih7 z10 z10 (w7_4 + (1 : Int32)) _ _ _ (Nat.lt_of_lt_of_le (by omega) (Nat.le_of_lt_succ hm7)) (by omega) hP hS (lv_sub hl [0, 1, 2, 5, 6] rfl) ko7
  refine loop7 201 (0 : Int32) (0 : Int32) (0 : Int32) _ _ _ (by omega) (by omega) hP hS (lv_sub hl [0, 1, 2, 3, 4] rfl) (fun z20 z21 z22 H locs ls hi7 hP hS hl => ?_)
  refine lv_iload_n hx hb dX10_part_90 rfl (lv_at hl 2 rfl) ?_
  refine lv_iload_n hx hb dX10_part_91 rfl (lv_at hl 1 rfl) ?_
  refine lv_isub hx hb dX10_part_92 ?_
  refine lv_iload_n hx hb dX10_part_93 rfl (lv_at hl 4 rfl) ?_
  refine lv_imul hx hb dX10_part_94 ?_
  refine lv_aload_n hx hb dX10_part_95 rfl (lv_at hl 3 rfl) ?_
  obtain ⟨k23, gk23, hk23⟩ := wGt (cy := cy) X S h_o1.1 h_o1.2.1
  have i24 := ((hW.at h_o1 List.not_mem_nil).to_10 h_o1.2.1).R1
  refine va_get (D := D) (ci := 14) (v := .int (S.I o1 1)) (C := RX10) (T := TX10) (N := 23) hx hb hts hi_X10_part_X10 hown hK hP k23 hk23 rfl 1 (by decide) (hts (.fieldLink RX10 29 "HobhouseModel$Gear" "teeth" "I") (by decide +kernel)) (fun _ h9 => h9) rfl dX10_part_96 ?_
  refine lv_idiv hx hb dX10_part_99 (nz_i (by omega)) ?_
  refine W.widen (k := 0) (n := 0) (Nat.le_of_ble_eq_true rfl) (Nat.le_of_ble_eq_true rfl) ?_
  exact W.iret (v := ((z20 - z21) * x1) / (S.I o1 1)) hx hb hr (fun t ht hW9 => ⟨⟨((z20 - z21) * x1) / (S.I o1 1), (), rfl, trivial, wd_end hP hK hD ht hW9.alike⟩, hS.F ht⟩) hS.2.2 dX10_part_100 hlocks
theorem hi_X10_partOrNone_X10 : ∀ w ∈ u_ws RX10 TX10 23, w ∈ wsX10_partOrNone := by decide +kernel
theorem hd_X10_partOrNone : yX10_partOrNone.cls = RX10 ∧ yX10_partOrNone.cls ≠ "java/lang/invoke/MethodHandle" ∧ yX10_partOrNone.cls ≠ "java/lang/invoke/VarHandle" ∧ (parseMethodDescriptor yX10_partOrNone.desc).map (fun d => d.parameters.length) = some 1 := by decide +kernel
set_option maxHeartbeats 4000000 in
set_option maxRecDepth 100000 in
theorem c_X10_partOrNone (l : Launch) {D : va_G} {cy : Nat → ClassId} {X : va_W} (S : wPS) (sz : Nat) (o1 : Nat) (h_o1 : isA S o1 10) (x1 : Int32) (hW : wtB S [])  : Met l yX10_partOrNone wsX10_partOrNone ({ frames := 2, cells := 0, slots := 0, locals := 39 }) (va_Pc [.ref o1, .int x1] (fun U => U.heap.size = sz ∧ WD D cy X (fun _ => True) S U ∧ NW U)) (va_Qi (fun r (_ : Unit) => True) (fun _ t => WD D cy X (va_A (X ++ PL cy S) sz) S t) (va_A (X ++ PL cy S) sz)) 0 0 (va_A (X ++ PL cy S) sz) := by
  refine Met.ofW (cc := cX10_partOrNone) (maxL := 2) (ret := (some .int)) (by decide) rfl ?_
  intro p e s m args below meth c s₁ B hml hv
  obtain ⟨rfl, hsz, ⟨hP, hK, hD0⟩, hN⟩ := hv
  have hx := B.exec
  have hb := B.bytes
  have hr := B.returns
  have hts := atoms_spec (ws := wsX10_partOrNone) B.pre
  have hown : s.vm.findClass RX10 = some m.cls := findClass_of_methodNamed (x := yX10_partOrNone) B.named
  have hlocks := B.notSynchronized
  subst hsz
  have hD := hD0.self (sz := s.heap.size)
  generalize hAe : va_A (X ++ PL cy S) s.heap.size = A at hD ⊢
  have hA : ∀ q : Nat, s.heap.size ≤ q → A q := fun q h => by rw [← hAe]; exact Or.inr h
  have hS : va_S A s.heap s.heap [] := va_S.rf
  have hl := lv_entry ([.ref o1, .int x1]) (n := 2) (Nat.le_of_ble_eq_true rfl)
  rw [lg_entry_eq]
  generalize (lg_sl ([.ref o1, .int x1]) ++ List.replicate (2 - (lg_sl ([.ref o1, .int x1])).length) Slot.unset).toArray = ls at hl ⊢
  have hl : lv_has ls 2 [(0, .ref o1), (1, .int x1)] := hl
  have r1 := ((hW.at h_o1 List.not_mem_nil).to_10 h_o1.2.1).R1
  have r2 := ((hW.at h_o1 List.not_mem_nil).to_10 h_o1.2.1).R2
  refine lv_iload_n hx hb dX10_partOrNone_0 rfl (lv_at hl 1 rfl) ?_
  refine lv_if_le (tgt := 21) hx hb dX10_partOrNone_1 (by decide) (fun c1 => ?_) (fun c1 => ?_)
  · have c1i : x1.toInt ≤ 0 := le_v rfl rfl c1
    refine lv_iconst (v := 0) hx hb dX10_partOrNone_21 (by decide) ?_
    refine W.widen (k := 0) (n := 0) (Nat.le_of_ble_eq_true rfl) (Nat.le_of_ble_eq_true rfl) ?_
    exact W.iret (v := (0 : Int32)) hx hb hr (fun t ht hW9 => ⟨⟨(0 : Int32), (), rfl, trivial, wd_end hP hK hD ht hW9.alike⟩, hS.F ht⟩) hS.2.2 dX10_partOrNone_22 hlocks
  · have c1i : 0 < x1.toInt := nle_v rfl rfl c1
    refine lv_aload_n hx hb dX10_partOrNone_4 rfl (lv_at hl 0 rfl) ?_
    obtain ⟨k2, gk2, hk2⟩ := wGt (cy := cy) X S h_o1.1 h_o1.2.1
    have i3 := ((hW.at h_o1 List.not_mem_nil).to_10 h_o1.2.1).R1
    refine va_get (D := D) (ci := 14) (v := .int (S.I o1 1)) (C := RX10) (T := TX10) (N := 23) hx hb hts hi_X10_partOrNone_X10 hown hK hP k2 hk2 rfl 1 (by decide) (hts (.fieldLink RX10 29 "HobhouseModel$Gear" "teeth" "I") (by decide +kernel)) (fun _ h9 => h9) rfl dX10_partOrNone_5 ?_
    refine lv_iload_n hx hb dX10_partOrNone_8 rfl (lv_at hl 1 rfl) ?_
    refine lv_irem hx hb dX10_partOrNone_9 (nz_i (by omega)) ?_
    refine lv_if_ne (tgt := 21) hx hb dX10_partOrNone_10 (by decide) (fun c4 => ?_) (fun c4 => ?_)
    · have c4i : ¬ ((S.I o1 1) - (S.I o1 1) / x1 * x1).toInt = 0 := neq_v rfl rfl c4
      refine lv_iconst (v := 0) hx hb dX10_partOrNone_21 (by decide) ?_
      refine W.widen (k := 0) (n := 0) (Nat.le_of_ble_eq_true rfl) (Nat.le_of_ble_eq_true rfl) ?_
      exact W.iret (v := (0 : Int32)) hx hb hr (fun t ht hW9 => ⟨⟨(0 : Int32), (), rfl, trivial, wd_end hP hK hD ht hW9.alike⟩, hS.F ht⟩) hS.2.2 dX10_partOrNone_22 hlocks
    · have c4i : ((S.I o1 1) - (S.I o1 1) / x1 * x1).toInt = 0 := eq_v rfl rfl c4
      refine lv_aload_n hx hb dX10_partOrNone_13 rfl (lv_at hl 0 rfl) ?_
      refine lv_iload_n hx hb dX10_partOrNone_14 rfl (lv_at hl 1 rfl) ?_
      have hFc := free_all hD hS hA
      obtain ⟨k5, gk5, hk5⟩ := wGt (cy := cy) X S h_o1.1 h_o1.2.1
      refine va_calli (va_runV (As := [.int x1]) (rest := []) ⟨hx, hb, hml, hown, hts⟩ (c_X10_part l (cy := cy) (X := X) (D := D) S _ o1 h_o1 x1 (hW) ⟨by omega, by have h9 := rem0_le (by omega) (by omega) c4; omega⟩) (cwV 1 hts gX10_partOrNone_X10_part rfl rfl rfl hd_X10_part ⟨Nat.le_of_ble_eq_true rfl, Nat.le_of_ble_eq_true rfl⟩) (pV (va_recv hK hP (q := (RX10, TX10, 23)) (ci := 14) (q0 := k5) rfl hk5) hP hK hD hN) rfl rfl hl.1 rfl (lv_room (Nat.le_of_ble_eq_true rfl)) dX10_partOrNone_15 ⟨(Nat.zero_le _), (Nat.zero_le _)⟩) hS (fun q _ h => hFc q h) hFc (fun r6 u t H1 locs ht hvm hw hB hz1 hk1 hS => ?_)
      clear hw
      obtain ⟨hP, hD⟩ := wd_post hFc ht hB
      generalize H1 = H at hP hS ⊢
      refine lv_goto (tgt := 22) hx hb dX10_partOrNone_18 (by decide) ?_
      refine W.widen (k := 0) (n := 0) (Nat.le_of_ble_eq_true rfl) (Nat.le_of_ble_eq_true rfl) ?_
      exact W.iret (v := r6) hx hb hr (fun t ht hW9 => ⟨⟨r6, (), rfl, trivial, wd_end hP hK hD ht hW9.alike⟩, hS.F ht⟩) hS.2.2 dX10_partOrNone_22 hlocks
theorem hi_X10_bears_X10 : ∀ w ∈ u_ws RX10 TX10 23, w ∈ wsX10_bears := by decide +kernel
theorem hd_X10_bears : yX10_bears.cls = RX10 ∧ yX10_bears.cls ≠ "java/lang/invoke/MethodHandle" ∧ yX10_bears.cls ≠ "java/lang/invoke/VarHandle" ∧ (parseMethodDescriptor yX10_bears.desc).map (fun d => d.parameters.length) = some 1 := by decide +kernel
set_option maxHeartbeats 4000000 in
set_option maxRecDepth 100000 in
theorem c_X10_bears (l : Launch) {D : va_G} {cy : Nat → ClassId} {X : va_W} (S : wPS) (sz : Nat) (o1 : Nat) (h_o1 : isA S o1 10) (x1 : Int64) (hW : wtB S [])  : Met l yX10_bears wsX10_bears ({ frames := 2, cells := 0, slots := 0, locals := 33 }) (va_Pc [.ref o1, .long x1] (fun U => U.heap.size = sz ∧ WD D cy X (fun _ => True) S U ∧ NW U)) (va_Qi (fun r (_ : Unit) => True) (fun _ t => WD D cy X (va_A (X ++ PL cy S) sz) S t) (va_A (X ++ PL cy S) sz)) 0 0 (va_A (X ++ PL cy S) sz) := by
  refine Met.ofW (cc := cX10_bears) (maxL := 10) (ret := (some .boolean)) (by decide) rfl ?_
  intro p e s m args below meth c s₁ B hml hv
  obtain ⟨rfl, hsz, ⟨hP, hK, hD0⟩, hN⟩ := hv
  have hx := B.exec
  have hb := B.bytes
  have hr := B.returns
  have hts := atoms_spec (ws := wsX10_bears) B.pre
  have hown : s.vm.findClass RX10 = some m.cls := findClass_of_methodNamed (x := yX10_bears) B.named
  have hlocks := B.notSynchronized
  subst hsz
  have hD := hD0.self (sz := s.heap.size)
  generalize hAe : va_A (X ++ PL cy S) s.heap.size = A at hD ⊢
  have hA : ∀ q : Nat, s.heap.size ≤ q → A q := fun q h => by rw [← hAe]; exact Or.inr h
  have hS : va_S A s.heap s.heap [] := va_S.rf
  have hl := lv_entry ([.ref o1, .long x1]) (n := 10) (Nat.le_of_ble_eq_true rfl)
  rw [lg_entry_eq]
  generalize (lg_sl ([.ref o1, .long x1]) ++ List.replicate (10 - (lg_sl ([.ref o1, .long x1])).length) Slot.unset).toArray = ls at hl ⊢
  have hl : lv_has ls 10 [(0, .ref o1), (1, .long x1)] := hl
  have r1 := ((hW.at h_o1 List.not_mem_nil).to_10 h_o1.2.1).R1
  have r2 := ((hW.at h_o1 List.not_mem_nil).to_10 h_o1.2.1).R2
  refine lv_ldc2 (own := RX10) (v := 2000000) hx hb hown (hts (.constantLong RX10 131 (2000000)) (by decide +kernel)) dX10_bears_0 ?_
  refine lv_lload_n hx hb dX10_bears_3 rfl (lv_at hl 1 rfl) ?_
  refine lv_lmul hx hb dX10_bears_4 ?_
  refine lv_aload_n hx hb dX10_bears_5 rfl (lv_at hl 0 rfl) ?_
  have hFc := free_all hD hS hA
  obtain ⟨k1, gk1, hk1⟩ := wGt (cy := cy) X S h_o1.1 h_o1.2.1
  refine va_calll (va_runV (As := []) (rest := [.long ((2000000 : Int64) * x1)]) ⟨hx, hb, hml, hown, hts⟩ (c_X10_across l (cy := cy) (X := X) (D := D) S _ o1 h_o1) (cwV 0 hts gX10_bears_X10_across rfl rfl rfl hd_X10_across ⟨Nat.le_of_ble_eq_true rfl, Nat.le_of_ble_eq_true rfl⟩) (pV (va_recv hK hP (q := (RX10, TX10, 23)) (ci := 14) (q0 := k1) rfl hk1) hP hK hD hN) rfl rfl hl.1 rfl (lv_room (Nat.le_of_ble_eq_true rfl)) dX10_bears_6 ⟨(Nat.zero_le _), (Nat.zero_le _)⟩) hS (fun q _ h => hFc q h) hFc (fun r2 u t H1 locs ht hvm hw hB hz1 hk1 hS => ?_)
  have c3 := hw
  obtain ⟨hP, hD⟩ := wd_post hFc ht hB
  generalize H1 = H at hP hS ⊢
  obtain rfl : f_X10_across S o1 = r2 := c3.symm
  refine lv_ldiv hx hb dX10_bears_9 (ac_nz r1 r2) ?_
  refine lv_lstore_n (lv' := [(3, .long (((2000000 : Int64) * x1) / (f_X10_across S o1))), (0, .ref o1), (1, .long x1)]) hx hb dX10_bears_10 rfl hl (by decide) rfl (fun ls hl => ?_)
  refine lv_lload_n hx hb dX10_bears_11 rfl (lv_at hl 0 rfl) ?_
  refine lv_aload_n hx hb dX10_bears_12 rfl (lv_at hl 1 rfl) ?_
  obtain ⟨k4, gk4, hk4⟩ := wGt (cy := cy) X S h_o1.1 h_o1.2.1
  have i5 := ((hW.at h_o1 List.not_mem_nil).to_10 h_o1.2.1).R1
  refine va_get (D := D) (ci := 14) (v := .int (S.I o1 1)) (C := RX10) (T := TX10) (N := 23) hx hb hts hi_X10_bears_X10 hown hK hP k4 hk4 rfl 1 (by decide) (hts (.fieldLink RX10 29 "HobhouseModel$Gear" "teeth" "I") (by decide +kernel)) (fun _ h9 => h9) rfl dX10_bears_13 ?_
  refine lv_bipush (v := 20) hx hb dX10_bears_16 (by decide +kernel) ?_
  refine lv_iadd hx hb dX10_bears_18 ?_
  refine lv_i2l hx hb dX10_bears_19 rfl ?_
  refine lv_lmul hx hb dX10_bears_20 ?_
  refine lv_aload_n hx hb dX10_bears_21 rfl (lv_at hl 1 rfl) ?_
  obtain ⟨k6, gk6, hk6⟩ := wGt (cy := cy) X S h_o1.1 h_o1.2.1
  refine va_get (D := D) (ci := 14) (v := .int (S.I o1 1)) (C := RX10) (T := TX10) (N := 23) hx hb hts hi_X10_bears_X10 hown hK hP k6 hk6 rfl 1 (by decide) (hts (.fieldLink RX10 29 "HobhouseModel$Gear" "teeth" "I") (by decide +kernel)) (fun _ h9 => h9) rfl dX10_bears_22 ?_
  refine lv_i2l hx hb dX10_bears_25 rfl ?_
  refine lv_ldiv hx hb dX10_bears_26 (nz_l (by omega)) ?_
  refine lv_ldc2 (own := RX10) (v := 1000000) hx hb hown (hts (.constantLong RX10 93 (1000000)) (by decide +kernel)) dX10_bears_27 ?_
  refine lv_lmul hx hb dX10_bears_30 ?_
  refine lv_aload_n hx hb dX10_bears_31 rfl (lv_at hl 1 rfl) ?_
  obtain ⟨k7, gk7, hk7⟩ := wGt (cy := cy) X S h_o1.1 h_o1.2.1
  have i8 := ((hW.at h_o1 List.not_mem_nil).to_10 h_o1.2.1).R4
  refine va_get (D := D) (ci := 14) (v := .int (S.I o1 4)) (C := RX10) (T := TX10) (N := 23) hx hb hts hi_X10_bears_X10 hown hK hP k7 hk7 rfl 4 (by decide) (hts (.fieldLink RX10 38 "HobhouseModel$Gear" "width" "I") (by decide +kernel)) (fun _ h9 => h9) rfl dX10_bears_32 ?_
  refine lv_i2l hx hb dX10_bears_35 rfl ?_
  refine lv_aload_n hx hb dX10_bears_36 rfl (lv_at hl 1 rfl) ?_
  obtain ⟨k9, gk9, hk9⟩ := wGt (cy := cy) X S h_o1.1 h_o1.2.1
  have i10 := ((hW.at h_o1 List.not_mem_nil).to_10 h_o1.2.1).R2
  refine va_get (D := D) (ci := 14) (v := .int (S.I o1 2)) (C := RX10) (T := TX10) (N := 23) hx hb hts hi_X10_bears_X10 hown hK hP k9 hk9 rfl 2 (by decide) (hts (.fieldLink RX10 32 "HobhouseModel$Gear" "module" "I") (by decide +kernel)) (fun _ h9 => h9) rfl dX10_bears_37 ?_
  refine lv_i2l hx hb dX10_bears_40 rfl ?_
  refine lv_lmul hx hb dX10_bears_41 ?_
  refine lv_ldiv hx hb dX10_bears_42 (wm_nz (a := 0) (b := 0) ((hW.at h_o1 List.not_mem_nil).to_10 h_o1.2.1).R4 ((hW.at h_o1 List.not_mem_nil).to_10 h_o1.2.1).R2) ?_
  refine lv_lstore (lv' := [(5, .long (((((((2000000 : Int64) * x1) / (f_X10_across S o1)) * (((S.I o1 1) + (20 : Int32)).toInt64)) / ((S.I o1 1).toInt64)) * (1000000 : Int64)) / (((S.I o1 4).toInt64) * ((S.I o1 2).toInt64)))), (3, .long (((2000000 : Int64) * x1) / (f_X10_across S o1))), (0, .ref o1), (1, .long x1)]) hx hb dX10_bears_43 hl (by decide) rfl (fun ls hl => ?_)
  refine lv_lload_n hx hb dX10_bears_45 rfl (lv_at hl 1 rfl) ?_
  refine lv_ldc2 (own := RX10) (v := 1000000) hx hb hown (hts (.constantLong RX10 93 (1000000)) (by decide +kernel)) dX10_bears_46 ?_
  refine lv_lmul hx hb dX10_bears_49 ?_
  refine lv_aload_n hx hb dX10_bears_50 rfl (lv_at hl 2 rfl) ?_
  have hFc := free_all hD hS hA
  obtain ⟨k11, gk11, hk11⟩ := wGt (cy := cy) X S h_o1.1 h_o1.2.1
  refine va_calll (va_runV (As := []) (rest := [.long ((((2000000 : Int64) * x1) / (f_X10_across S o1)) * (1000000 : Int64))]) ⟨hx, hb, hml, hown, hts⟩ (c_X10_across l (cy := cy) (X := X) (D := D) S _ o1 h_o1) (cwV 0 hts gX10_bears_X10_across rfl rfl rfl hd_X10_across ⟨Nat.le_of_ble_eq_true rfl, Nat.le_of_ble_eq_true rfl⟩) (pV (va_recv hK hP (q := (RX10, TX10, 23)) (ci := 14) (q0 := k11) rfl hk11) hP hK hD hN) rfl rfl hl.1 rfl (lv_room (Nat.le_of_ble_eq_true rfl)) dX10_bears_51 ⟨(Nat.zero_le _), (Nat.zero_le _)⟩) hS (fun q _ h => hFc q h) hFc (fun r12 u t H1 locs ht hvm hw hB hz1 hk1 hS => ?_)
  have c13 := hw
  obtain ⟨hP, hD⟩ := wd_post hFc ht hB
  generalize H1 = H at hP hS ⊢
  obtain rfl : f_X10_across S o1 = r12 := c13.symm
  refine lv_ldiv hx hb dX10_bears_54 (ac_nz r1 r2) ?_
  refine lv_ldc2 (own := RX10) (v := 100000) hx hb hown (hts (.constantLong RX10 133 (100000)) (by decide +kernel)) dX10_bears_55 ?_
  refine lv_lmul hx hb dX10_bears_58 ?_
  refine lv_aload_n hx hb dX10_bears_59 rfl (lv_at hl 2 rfl) ?_
  obtain ⟨k14, gk14, hk14⟩ := wGt (cy := cy) X S h_o1.1 h_o1.2.1
  refine va_get (D := D) (ci := 14) (v := .int (S.I o1 4)) (C := RX10) (T := TX10) (N := 23) hx hb hts hi_X10_bears_X10 hown hK hP k14 hk14 rfl 4 (by decide) (hts (.fieldLink RX10 38 "HobhouseModel$Gear" "width" "I") (by decide +kernel)) (fun _ h9 => h9) rfl dX10_bears_60 ?_
  refine lv_i2l hx hb dX10_bears_63 rfl ?_
  refine lv_ldiv hx hb dX10_bears_64 (nz_l (by omega)) ?_
  have hFc := free_all hD hS hA
  refine va_calll (va_runSN (As := [.long (((((((2000000 : Int64) * x1) / (f_X10_across S o1)) * (1000000 : Int64)) / (f_X10_across S o1)) * (100000 : Int64)) / ((S.I o1 4).toInt64))]) (rest := []) ⟨hx, hb, hml, hown, hts⟩ (c_X12_root l (cy := cy) (X := X) (D := D) S _ (((((((2000000 : Int64) * x1) / (f_X10_across S o1)) * (1000000 : Int64)) / (f_X10_across S o1)) * (100000 : Int64)) / ((S.I o1 4).toInt64))) ⟨va_cnB 1 hts gX10_bears_X12_root_n57 rfl rfl rfl (hN (.methodLinkNest RX10 57 yX12_root RX12) (by decide +kernel)) (hts (.initialized RX12) (by decide +kernel)) (by decide +kernel) ⟨Nat.le_of_ble_eq_true rfl, Nat.le_of_ble_eq_true rfl⟩, hts (.static yX12_root) (by decide +kernel), trivial⟩ (pS hP hK hD hN) rfl rfl hl.1 rfl (lv_room (Nat.le_of_ble_eq_true rfl)) dX10_bears_65 ⟨(Nat.zero_le _), (Nat.zero_le _)⟩) hS (fun q _ h => hFc q h) hFc (fun r15 u t H1 locs ht hvm hw hB hz1 hk1 hS => ?_)
  obtain ⟨c16, y17⟩ := hw
  obtain ⟨hP, hD⟩ := wd_post hFc ht hB
  generalize H1 = H at hP hS ⊢
  obtain rfl : f_X12_root (((((((2000000 : Int64) * x1) / (f_X10_across S o1)) * (1000000 : Int64)) / (f_X10_across S o1)) * (100000 : Int64)) / ((S.I o1 4).toInt64)) = r15 := c16.symm
  refine lv_lstore (lv' := [(7, .long (f_X12_root (((((((2000000 : Int64) * x1) / (f_X10_across S o1)) * (1000000 : Int64)) / (f_X10_across S o1)) * (100000 : Int64)) / ((S.I o1 4).toInt64)))), (5, .long (((((((2000000 : Int64) * x1) / (f_X10_across S o1)) * (((S.I o1 1) + (20 : Int32)).toInt64)) / ((S.I o1 1).toInt64)) * (1000000 : Int64)) / (((S.I o1 4).toInt64) * ((S.I o1 2).toInt64)))), (3, .long (((2000000 : Int64) * x1) / (f_X10_across S o1))), (0, .ref o1), (1, .long x1)]) hx hb dX10_bears_68 hl (by decide) rfl (fun ls hl => ?_)
  refine lv_aload_n hx hb dX10_bears_70 rfl (lv_at hl 3 rfl) ?_
  have hFc := free_all hD hS hA
  obtain ⟨k18, gk18, hk18⟩ := wGt (cy := cy) X S h_o1.1 h_o1.2.1
  refine va_calli (va_runV (As := []) (rest := []) ⟨hx, hb, hml, hown, hts⟩ (c_X10_caseLeft l (cy := cy) (X := X) (D := D) S _ o1 h_o1) (cwV 0 hts gX10_bears_X10_caseLeft rfl rfl rfl hd_X10_caseLeft ⟨Nat.le_of_ble_eq_true rfl, Nat.le_of_ble_eq_true rfl⟩) (pV (va_recv hK hP (q := (RX10, TX10, 23)) (ci := 14) (q0 := k18) rfl hk18) hP hK hD hN) rfl rfl hl.1 rfl (lv_room (Nat.le_of_ble_eq_true rfl)) dX10_bears_71 ⟨(Nat.zero_le _), (Nat.zero_le _)⟩) hS (fun q _ h => hFc q h) hFc (fun r19 u t H1 locs ht hvm hw hB hz1 hk1 hS => ?_)
  clear hw
  obtain ⟨hP, hD⟩ := wd_post hFc ht hB
  generalize H1 = H at hP hS ⊢
  refine lv_if_ne (tgt := 81) hx hb dX10_bears_74 (by decide) (fun c20 => ?_) (fun c20 => ?_)
  · have c20i : ¬ r19.toInt = 0 := neq_v rfl rfl c20
    refine lv_ldc2 (own := RX10) (v := 6) hx hb hown (hts (.constantLong RX10 138 (6)) (by decide +kernel)) dX10_bears_81 ?_
    refine lv_aload_n hx hb dX10_bears_84 rfl (lv_at hl 3 rfl) ?_
    have hFc := free_all hD hS hA
    obtain ⟨k21, gk21, hk21⟩ := wGt (cy := cy) X S h_o1.1 h_o1.2.1
    refine va_calli (va_runV (As := []) (rest := [.long (6 : Int64)]) ⟨hx, hb, hml, hown, hts⟩ (c_X10_caseLeft l (cy := cy) (X := X) (D := D) S _ o1 h_o1) (cwV 0 hts gX10_bears_X10_caseLeft rfl rfl rfl hd_X10_caseLeft ⟨Nat.le_of_ble_eq_true rfl, Nat.le_of_ble_eq_true rfl⟩) (pV (va_recv hK hP (q := (RX10, TX10, 23)) (ci := 14) (q0 := k21) rfl hk21) hP hK hD hN) rfl rfl hl.1 rfl (lv_room (Nat.le_of_ble_eq_true rfl)) dX10_bears_85 ⟨(Nat.zero_le _), (Nat.zero_le _)⟩) hS (fun q _ h => hFc q h) hFc (fun r22 u t H1 locs ht hvm hw hB hz1 hk1 hS => ?_)
    clear hw
    obtain ⟨hP, hD⟩ := wd_post hFc ht hB
    generalize H1 = H at hP hS ⊢
    refine lv_i2l hx hb dX10_bears_88 rfl ?_
    refine lv_lmul hx hb dX10_bears_89 ?_
    refine lv_aload_n hx hb dX10_bears_90 rfl (lv_at hl 3 rfl) ?_
    obtain ⟨k23, gk23, hk23⟩ := wGt (cy := cy) X S h_o1.1 h_o1.2.1
    refine va_get (D := D) (ci := 14) (v := .int (S.I o1 2)) (C := RX10) (T := TX10) (N := 23) hx hb hts hi_X10_bears_X10 hown hK hP k23 hk23 rfl 2 (by decide) (hts (.fieldLink RX10 32 "HobhouseModel$Gear" "module" "I") (by decide +kernel)) (fun _ h9 => h9) rfl dX10_bears_91 ?_
    refine lv_i2l hx hb dX10_bears_94 rfl ?_
    refine W.lcmp hx hb dX10_bears_95 ?_
    refine lv_if_lt (tgt := 103) hx hb dX10_bears_96 (by decide) (fun c24 => ?_) (fun c24 => ?_)
    · refine lv_iconst (v := 1) hx hb dX10_bears_103 (by decide) ?_
      refine lv_istore (lv' := [(9, .int (1 : Int32)), (7, .long (f_X12_root (((((((2000000 : Int64) * x1) / (f_X10_across S o1)) * (1000000 : Int64)) / (f_X10_across S o1)) * (100000 : Int64)) / ((S.I o1 4).toInt64)))), (5, .long (((((((2000000 : Int64) * x1) / (f_X10_across S o1)) * (((S.I o1 1) + (20 : Int32)).toInt64)) / ((S.I o1 1).toInt64)) * (1000000 : Int64)) / (((S.I o1 4).toInt64) * ((S.I o1 2).toInt64)))), (3, .long (((2000000 : Int64) * x1) / (f_X10_across S o1))), (0, .ref o1), (1, .long x1)]) hx hb dX10_bears_104 hl (by decide) rfl (fun ls hl => ?_)
      refine lv_lload hx hb dX10_bears_106 (lv_at hl 2 rfl) ?_
      refine lv_iload hx hb dX10_bears_108 (lv_at hl 0 rfl) ?_
      refine lv_if_ne (tgt := 119) hx hb dX10_bears_110 (by decide) (fun c25 => ?_) (fun c25 => ?_)
      · refine lv_iload hx hb dX10_bears_119 (lv_at hl 0 rfl) ?_
        refine lv_iconst (v := 1) hx hb dX10_bears_121 (by decide) ?_
        refine lv_icmp_ne (tgt := 131) hx hb dX10_bears_122 (by decide) (fun c26 => ?_) (fun c26 => ?_)
        · exact absurd (by decide) c26
        · refine lv_sipush (v := 300) hx hb dX10_bears_125 (by decide +kernel) ?_
          refine lv_goto (tgt := 134) hx hb dX10_bears_128 (by decide) ?_
          refine lv_i2l hx hb dX10_bears_134 rfl ?_
          refine W.lcmp hx hb dX10_bears_135 ?_
          refine lv_if_gt (tgt := 176) hx hb dX10_bears_136 (by decide) (fun c27 => ?_) (fun c27 => ?_)
          · refine lv_iconst (v := 0) hx hb dX10_bears_176 (by decide) ?_
            refine W.widen (k := 0) (n := 0) (Nat.le_of_ble_eq_true rfl) (Nat.le_of_ble_eq_true rfl) ?_
            exact W.zret (v := (0 : Int32)) hx hb hr (by rfl) (fun t ht hW9 => ⟨⟨(0 : Int32), (), rfl, trivial, wd_end hP hK hD ht hW9.alike⟩, hS.F ht⟩) hS.2.2 dX10_bears_177 hlocks
          · refine lv_lload hx hb dX10_bears_139 (lv_at hl 1 rfl) ?_
            refine lv_iload hx hb dX10_bears_141 (lv_at hl 0 rfl) ?_
            refine lv_if_ne (tgt := 152) hx hb dX10_bears_143 (by decide) (fun c28 => ?_) (fun c28 => ?_)
            · refine lv_iload hx hb dX10_bears_152 (lv_at hl 0 rfl) ?_
              refine lv_iconst (v := 1) hx hb dX10_bears_154 (by decide) ?_
              refine lv_icmp_ne (tgt := 164) hx hb dX10_bears_155 (by decide) (fun c29 => ?_) (fun c29 => ?_)
              · exact absurd (by decide) c29
              · refine lv_sipush (v := 1000) hx hb dX10_bears_158 (by decide +kernel) ?_
                refine lv_goto (tgt := 167) hx hb dX10_bears_161 (by decide) ?_
                refine lv_i2l hx hb dX10_bears_167 rfl ?_
                refine W.lcmp hx hb dX10_bears_168 ?_
                refine lv_if_gt (tgt := 176) hx hb dX10_bears_169 (by decide) (fun c30 => ?_) (fun c30 => ?_)
                · refine lv_iconst (v := 0) hx hb dX10_bears_176 (by decide) ?_
                  refine W.widen (k := 0) (n := 0) (Nat.le_of_ble_eq_true rfl) (Nat.le_of_ble_eq_true rfl) ?_
                  exact W.zret (v := (0 : Int32)) hx hb hr (by rfl) (fun t ht hW9 => ⟨⟨(0 : Int32), (), rfl, trivial, wd_end hP hK hD ht hW9.alike⟩, hS.F ht⟩) hS.2.2 dX10_bears_177 hlocks
                · refine lv_iconst (v := 1) hx hb dX10_bears_172 (by decide) ?_
                  refine lv_goto (tgt := 177) hx hb dX10_bears_173 (by decide) ?_
                  refine W.widen (k := 0) (n := 0) (Nat.le_of_ble_eq_true rfl) (Nat.le_of_ble_eq_true rfl) ?_
                  exact W.zret (v := (1 : Int32)) hx hb hr (by rfl) (fun t ht hW9 => ⟨⟨(1 : Int32), (), rfl, trivial, wd_end hP hK hD ht hW9.alike⟩, hS.F ht⟩) hS.2.2 dX10_bears_177 hlocks
            · exact absurd c28 (by decide)
      · exact absurd c25 (by decide)
    · refine lv_iconst (v := 2) hx hb dX10_bears_99 (by decide) ?_
      refine lv_goto (tgt := 104) hx hb dX10_bears_100 (by decide) ?_
      refine lv_istore (lv' := [(9, .int (2 : Int32)), (7, .long (f_X12_root (((((((2000000 : Int64) * x1) / (f_X10_across S o1)) * (1000000 : Int64)) / (f_X10_across S o1)) * (100000 : Int64)) / ((S.I o1 4).toInt64)))), (5, .long (((((((2000000 : Int64) * x1) / (f_X10_across S o1)) * (((S.I o1 1) + (20 : Int32)).toInt64)) / ((S.I o1 1).toInt64)) * (1000000 : Int64)) / (((S.I o1 4).toInt64) * ((S.I o1 2).toInt64)))), (3, .long (((2000000 : Int64) * x1) / (f_X10_across S o1))), (0, .ref o1), (1, .long x1)]) hx hb dX10_bears_104 hl (by decide) rfl (fun ls hl => ?_)
      refine lv_lload hx hb dX10_bears_106 (lv_at hl 2 rfl) ?_
      refine lv_iload hx hb dX10_bears_108 (lv_at hl 0 rfl) ?_
      refine lv_if_ne (tgt := 119) hx hb dX10_bears_110 (by decide) (fun c31 => ?_) (fun c31 => ?_)
      · refine lv_iload hx hb dX10_bears_119 (lv_at hl 0 rfl) ?_
        refine lv_iconst (v := 1) hx hb dX10_bears_121 (by decide) ?_
        refine lv_icmp_ne (tgt := 131) hx hb dX10_bears_122 (by decide) (fun c32 => ?_) (fun c32 => ?_)
        · refine lv_sipush (v := 400) hx hb dX10_bears_131 (by decide +kernel) ?_
          refine lv_i2l hx hb dX10_bears_134 rfl ?_
          refine W.lcmp hx hb dX10_bears_135 ?_
          refine lv_if_gt (tgt := 176) hx hb dX10_bears_136 (by decide) (fun c33 => ?_) (fun c33 => ?_)
          · refine lv_iconst (v := 0) hx hb dX10_bears_176 (by decide) ?_
            refine W.widen (k := 0) (n := 0) (Nat.le_of_ble_eq_true rfl) (Nat.le_of_ble_eq_true rfl) ?_
            exact W.zret (v := (0 : Int32)) hx hb hr (by rfl) (fun t ht hW9 => ⟨⟨(0 : Int32), (), rfl, trivial, wd_end hP hK hD ht hW9.alike⟩, hS.F ht⟩) hS.2.2 dX10_bears_177 hlocks
          · refine lv_lload hx hb dX10_bears_139 (lv_at hl 1 rfl) ?_
            refine lv_iload hx hb dX10_bears_141 (lv_at hl 0 rfl) ?_
            refine lv_if_ne (tgt := 152) hx hb dX10_bears_143 (by decide) (fun c34 => ?_) (fun c34 => ?_)
            · refine lv_iload hx hb dX10_bears_152 (lv_at hl 0 rfl) ?_
              refine lv_iconst (v := 1) hx hb dX10_bears_154 (by decide) ?_
              refine lv_icmp_ne (tgt := 164) hx hb dX10_bears_155 (by decide) (fun c35 => ?_) (fun c35 => ?_)
              · refine lv_sipush (v := 1400) hx hb dX10_bears_164 (by decide +kernel) ?_
                refine lv_i2l hx hb dX10_bears_167 rfl ?_
                refine W.lcmp hx hb dX10_bears_168 ?_
                refine lv_if_gt (tgt := 176) hx hb dX10_bears_169 (by decide) (fun c36 => ?_) (fun c36 => ?_)
                · refine lv_iconst (v := 0) hx hb dX10_bears_176 (by decide) ?_
                  refine W.widen (k := 0) (n := 0) (Nat.le_of_ble_eq_true rfl) (Nat.le_of_ble_eq_true rfl) ?_
                  exact W.zret (v := (0 : Int32)) hx hb hr (by rfl) (fun t ht hW9 => ⟨⟨(0 : Int32), (), rfl, trivial, wd_end hP hK hD ht hW9.alike⟩, hS.F ht⟩) hS.2.2 dX10_bears_177 hlocks
                · refine lv_iconst (v := 1) hx hb dX10_bears_172 (by decide) ?_
                  refine lv_goto (tgt := 177) hx hb dX10_bears_173 (by decide) ?_
                  refine W.widen (k := 0) (n := 0) (Nat.le_of_ble_eq_true rfl) (Nat.le_of_ble_eq_true rfl) ?_
                  exact W.zret (v := (1 : Int32)) hx hb hr (by rfl) (fun t ht hW9 => ⟨⟨(1 : Int32), (), rfl, trivial, wd_end hP hK hD ht hW9.alike⟩, hS.F ht⟩) hS.2.2 dX10_bears_177 hlocks
              · exact absurd c35 (by decide)
            · exact absurd c34 (by decide)
        · exact absurd c32 (by decide)
      · exact absurd c31 (by decide)
  · have c20i : r19.toInt = 0 := eq_v rfl rfl c20
    refine lv_iconst (v := 0) hx hb dX10_bears_77 (by decide) ?_
    refine lv_goto (tgt := 104) hx hb dX10_bears_78 (by decide) ?_
    refine lv_istore (lv' := [(9, .int (0 : Int32)), (7, .long (f_X12_root (((((((2000000 : Int64) * x1) / (f_X10_across S o1)) * (1000000 : Int64)) / (f_X10_across S o1)) * (100000 : Int64)) / ((S.I o1 4).toInt64)))), (5, .long (((((((2000000 : Int64) * x1) / (f_X10_across S o1)) * (((S.I o1 1) + (20 : Int32)).toInt64)) / ((S.I o1 1).toInt64)) * (1000000 : Int64)) / (((S.I o1 4).toInt64) * ((S.I o1 2).toInt64)))), (3, .long (((2000000 : Int64) * x1) / (f_X10_across S o1))), (0, .ref o1), (1, .long x1)]) hx hb dX10_bears_104 hl (by decide) rfl (fun ls hl => ?_)
    refine lv_lload hx hb dX10_bears_106 (lv_at hl 2 rfl) ?_
    refine lv_iload hx hb dX10_bears_108 (lv_at hl 0 rfl) ?_
    refine lv_if_ne (tgt := 119) hx hb dX10_bears_110 (by decide) (fun c37 => ?_) (fun c37 => ?_)
    · exact absurd (by decide) c37
    · refine lv_sipush (v := 200) hx hb dX10_bears_113 (by decide +kernel) ?_
      refine lv_goto (tgt := 134) hx hb dX10_bears_116 (by decide) ?_
      refine lv_i2l hx hb dX10_bears_134 rfl ?_
      refine W.lcmp hx hb dX10_bears_135 ?_
      refine lv_if_gt (tgt := 176) hx hb dX10_bears_136 (by decide) (fun c38 => ?_) (fun c38 => ?_)
      · refine lv_iconst (v := 0) hx hb dX10_bears_176 (by decide) ?_
        refine W.widen (k := 0) (n := 0) (Nat.le_of_ble_eq_true rfl) (Nat.le_of_ble_eq_true rfl) ?_
        exact W.zret (v := (0 : Int32)) hx hb hr (by rfl) (fun t ht hW9 => ⟨⟨(0 : Int32), (), rfl, trivial, wd_end hP hK hD ht hW9.alike⟩, hS.F ht⟩) hS.2.2 dX10_bears_177 hlocks
      · refine lv_lload hx hb dX10_bears_139 (lv_at hl 1 rfl) ?_
        refine lv_iload hx hb dX10_bears_141 (lv_at hl 0 rfl) ?_
        refine lv_if_ne (tgt := 152) hx hb dX10_bears_143 (by decide) (fun c39 => ?_) (fun c39 => ?_)
        · exact absurd (by decide) c39
        · refine lv_sipush (v := 600) hx hb dX10_bears_146 (by decide +kernel) ?_
          refine lv_goto (tgt := 167) hx hb dX10_bears_149 (by decide) ?_
          refine lv_i2l hx hb dX10_bears_167 rfl ?_
          refine W.lcmp hx hb dX10_bears_168 ?_
          refine lv_if_gt (tgt := 176) hx hb dX10_bears_169 (by decide) (fun c40 => ?_) (fun c40 => ?_)
          · refine lv_iconst (v := 0) hx hb dX10_bears_176 (by decide) ?_
            refine W.widen (k := 0) (n := 0) (Nat.le_of_ble_eq_true rfl) (Nat.le_of_ble_eq_true rfl) ?_
            exact W.zret (v := (0 : Int32)) hx hb hr (by rfl) (fun t ht hW9 => ⟨⟨(0 : Int32), (), rfl, trivial, wd_end hP hK hD ht hW9.alike⟩, hS.F ht⟩) hS.2.2 dX10_bears_177 hlocks
          · refine lv_iconst (v := 1) hx hb dX10_bears_172 (by decide) ?_
            refine lv_goto (tgt := 177) hx hb dX10_bears_173 (by decide) ?_
            refine W.widen (k := 0) (n := 0) (Nat.le_of_ble_eq_true rfl) (Nat.le_of_ble_eq_true rfl) ?_
            exact W.zret (v := (1 : Int32)) hx hb hr (by rfl) (fun t ht hW9 => ⟨⟨(1 : Int32), (), rfl, trivial, wd_end hP hK hD ht hW9.alike⟩, hS.F ht⟩) hS.2.2 dX10_bears_177 hlocks
theorem hd_X10_bears_ : yX10_bears_.cls = RX10 ∧ yX10_bears_.cls ≠ "java/lang/invoke/MethodHandle" ∧ yX10_bears_.cls ≠ "java/lang/invoke/VarHandle" ∧ (parseMethodDescriptor yX10_bears_.desc).map (fun d => d.parameters.length) = some 0 := by decide +kernel
set_option maxHeartbeats 4000000 in
set_option maxRecDepth 100000 in
theorem c_X10_bears_ (l : Launch) {D : va_G} {cy : Nat → ClassId} {X : va_W} (S : wPS) (sz : Nat) (o1 : Nat) (h_o1 : isA S o1 10) (hW : wtB S [])  : Met l yX10_bears_ wsX10_bears_ ({ frames := 3, cells := 0, slots := 0, locals := 62 }) (va_Pc [.ref o1] (fun U => U.heap.size = sz ∧ WD D cy X (fun _ => True) S U ∧ NW U)) (va_Qi (fun r (_ : Unit) => 0 ≤ r.toInt ∧ r.toInt ≤ 100001) (fun _ t => WD D cy X (va_A (X ++ PL cy S) sz) S t) (va_A (X ++ PL cy S) sz)) 0 0 (va_A (X ++ PL cy S) sz) := by
  refine Met.ofW (cc := cX10_bears_) (maxL := 4) (ret := (some .int)) (by decide) rfl ?_
  intro p e s m args below meth c s₁ B hml hv
  obtain ⟨rfl, hsz, ⟨hP, hK, hD0⟩, hN⟩ := hv
  have hx := B.exec
  have hb := B.bytes
  have hr := B.returns
  have hts := atoms_spec (ws := wsX10_bears_) B.pre
  have hown : s.vm.findClass RX10 = some m.cls := findClass_of_methodNamed (x := yX10_bears_) B.named
  have hlocks := B.notSynchronized
  subst hsz
  have hD := hD0.self (sz := s.heap.size)
  generalize hAe : va_A (X ++ PL cy S) s.heap.size = A at hD ⊢
  have hA : ∀ q : Nat, s.heap.size ≤ q → A q := fun q h => by rw [← hAe]; exact Or.inr h
  have hS : va_S A s.heap s.heap [] := va_S.rf
  have hl := lv_entry ([.ref o1]) (n := 4) (Nat.le_of_ble_eq_true rfl)
  rw [lg_entry_eq]
  generalize (lg_sl ([.ref o1]) ++ List.replicate (4 - (lg_sl ([.ref o1])).length) Slot.unset).toArray = ls at hl ⊢
  have hl : lv_has ls 4 [(0, .ref o1)] := hl
  refine lv_iconst (v := 0) hx hb dX10_bears__0 (by decide) ?_
  refine lv_istore_n (lv' := [(1, .int (0 : Int32)), (0, .ref o1)]) hx hb dX10_bears__1 rfl hl (by decide) rfl (fun ls hl => ?_)
  refine lv_ldc (own := RX10) (v := 100001) hx hb hown (hts (.constant RX10 140 (100001)) (by decide +kernel)) dX10_bears__2 ?_
  refine lv_istore_n (lv' := [(2, .int (100001 : Int32)), (1, .int (0 : Int32)), (0, .ref o1)]) hx hb dX10_bears__4 rfl hl (by decide) rfl (fun ls hl => ?_)
  have l32_100001 : (100001 : Int32).toInt = 100001 := rfl
  have l32_0 : (0 : Int32).toInt = 0 := rfl
  have loop5 : ∀ (n : Nat) (w5_1 : Int32) (w5_2 : Int32) (H : Heap) (locs : List Loc) (ls : Array Slot), (w5_2.toInt - w5_1.toInt).toNat < n → 0 ≤ w5_1.toInt ∧ w5_1.toInt < w5_2.toInt ∧ w5_2.toInt ≤ 100001 → va_P D vwCl (X ++ PL cy S) H → va_S A s.heap H locs → lv_has ls 4 [(2, .int w5_2), (1, .int w5_1), (0, .ref o1)] → (∀ (w5_1x : Int32) (w5_2x : Int32) (H : Heap) (locs : List Loc) (ls : Array Slot), 0 ≤ w5_1x.toInt ∧ w5_1x.toInt < w5_2x.toInt ∧ w5_2x.toInt ≤ 100001 → va_P D vwCl (X ++ PL cy S) H → va_S A s.heap H locs → lv_has ls 4 [(2, .int w5_2x), (1, .int w5_1x), (0, .ref o1)] → W p l e (headSpec wsX10_bears_ ({ frames := 3, cells := 0, slots := 0, locals := 62 } : Room)).room s m [.ref o1].toArray below meth c H locs 0 0 (MQ below (va_Qi (fun r (_ : Unit) => 0 ≤ r.toInt ∧ r.toInt ≤ 100001) (fun _ t => WD D cy X A S t) A) [.ref o1].toArray s 0 0 A) (F0 m 37 ls [])) → W p l e (headSpec wsX10_bears_ ({ frames := 3, cells := 0, slots := 0, locals := 62 } : Room)).room s m [.ref o1].toArray below meth c H locs 0 0 (MQ below (va_Qi (fun r (_ : Unit) => 0 ≤ r.toInt ∧ r.toInt ≤ 100001) (fun _ t => WD D cy X A S t) A) [.ref o1].toArray s 0 0 A) (F0 m 5 ls []) := by
    intro n5
    induction n5 with
    | zero => intro w5_1 w5_2 H locs ls hm; exact absurd hm (Nat.not_lt_zero _)
    | succ n5 ih5 =>
      intro w5_1 w5_2 H locs ls hm5 hi5 hP hS hl ko5
      refine lv_iload_n hx hb dX10_bears__5 rfl (lv_at hl 0 rfl) ?_
      refine lv_iload_n hx hb dX10_bears__6 rfl (lv_at hl 1 rfl) ?_
      refine lv_isub hx hb dX10_bears__7 ?_
      refine lv_iconst (v := 1) hx hb dX10_bears__8 (by decide) ?_
      have i1 : (w5_2 - w5_1).toInt = w5_2.toInt - w5_1.toInt := t_sub (by omega)
      have l32_1 : (1 : Int32).toInt = 1 := rfl
      refine lv_icmp_le (tgt := 37) hx hb dX10_bears__9 (by decide) (fun c2 => ?_) (fun c2 => ?_)
      · have c2i : (w5_2 - w5_1).toInt ≤ 1 := le_v rfl rfl c2
        exact ko5 w5_1 w5_2 _ _ _ (by omega) hP hS (lv_sub hl [0, 1, 2] rfl)
      · have c2i : 1 < (w5_2 - w5_1).toInt := nle_v rfl rfl c2
        refine lv_iload_n hx hb dX10_bears__12 rfl (lv_at hl 1 rfl) ?_
        refine lv_iload_n hx hb dX10_bears__13 rfl (lv_at hl 0 rfl) ?_
        refine lv_iadd hx hb dX10_bears__14 ?_
        refine lv_iconst (v := 2) hx hb dX10_bears__15 (by decide) ?_
        refine lv_idiv hx hb dX10_bears__16 (by decide) ?_
        refine lv_istore_n (lv' := [(3, .int ((w5_1 + w5_2) / (2 : Int32))), (2, .int w5_2), (1, .int w5_1), (0, .ref o1)]) hx hb dX10_bears__17 rfl hl (by decide) rfl (fun ls hl => ?_)
        refine lv_aload_n hx hb dX10_bears__18 rfl (lv_at hl 3 rfl) ?_
        refine lv_iload_n hx hb dX10_bears__19 rfl (lv_at hl 0 rfl) ?_
        refine lv_i2l hx hb dX10_bears__20 rfl ?_
        have hFc := free_all hD hS hA
        obtain ⟨k3, gk3, hk3⟩ := wGt (cy := cy) X S h_o1.1 h_o1.2.1
        refine va_calli (va_runV (As := [.long (((w5_1 + w5_2) / (2 : Int32)).toInt64)]) (rest := []) ⟨hx, hb, hml, hown, hts⟩ (c_X10_bears l (cy := cy) (X := X) (D := D) S _ o1 h_o1 (((w5_1 + w5_2) / (2 : Int32)).toInt64) (hW)) (cwV 1 hts gX10_bears__X10_bears rfl rfl rfl hd_X10_bears ⟨Nat.le_of_ble_eq_true rfl, Nat.le_of_ble_eq_true rfl⟩) (pV (va_recv hK hP (q := (RX10, TX10, 23)) (ci := 14) (q0 := k3) rfl hk3) hP hK hD hN) rfl rfl hl.1 rfl (lv_room (Nat.le_of_ble_eq_true rfl)) dX10_bears__21 ⟨(Nat.zero_le _), (Nat.zero_le _)⟩) hS (fun q _ h => hFc q h) hFc (fun r4 u t H1 locs ht hvm hw hB hz1 hk1 hS => ?_)
        clear hw
        obtain ⟨hP, hD⟩ := wd_post hFc ht hB
        generalize H1 = H at hP hS ⊢
        refine lv_if_eq (tgt := 32) hx hb dX10_bears__24 (by decide) (fun c5 => ?_) (fun c5 => ?_)
        · have c5i : r4.toInt = 0 := eq_v rfl rfl c5
          refine lv_iload_n hx hb dX10_bears__32 rfl (lv_at hl 0 rfl) ?_
          refine lv_istore_n (lv' := [(2, .int ((w5_1 + w5_2) / (2 : Int32))), (3, .int ((w5_1 + w5_2) / (2 : Int32))), (1, .int w5_1), (0, .ref o1)]) hx hb dX10_bears__33 rfl hl (by decide) rfl (fun ls hl => ?_)
          refine lv_goto (tgt := 5) hx hb dX10_bears__34 (by decide) ?_
          have l32_2 : (2 : Int32).toInt = 2 := rfl
          have i6 : (w5_1 + w5_2).toInt = w5_1.toInt + w5_2.toInt := t_add (by omega)
          have i7 : ((w5_1 + w5_2) / (2 : Int32)).toInt = (w5_1 + w5_2).toInt / 2 := t_divl rfl (by omega) (by omega)
          exact ih5 w5_1 ((w5_1 + w5_2) / (2 : Int32)) _ _ _ (Nat.lt_of_lt_of_le (by omega) (Nat.le_of_lt_succ hm5)) (by omega) hP hS (lv_sub hl [0, 2, 3] rfl) ko5
        · have c5i : ¬ r4.toInt = 0 := neq_v rfl rfl c5
          refine lv_iload_n hx hb dX10_bears__27 rfl (lv_at hl 0 rfl) ?_
          refine lv_istore_n (lv' := [(1, .int ((w5_1 + w5_2) / (2 : Int32))), (3, .int ((w5_1 + w5_2) / (2 : Int32))), (2, .int w5_2), (0, .ref o1)]) hx hb dX10_bears__28 rfl hl (by decide) rfl (fun ls hl => ?_)
          refine lv_goto (tgt := 34) hx hb dX10_bears__29 (by decide) ?_
          refine lv_goto (tgt := 5) hx hb dX10_bears__34 (by decide) ?_
          have l32_2 : (2 : Int32).toInt = 2 := rfl
          have i8 : (w5_1 + w5_2).toInt = w5_1.toInt + w5_2.toInt := t_add (by omega)
          have i9 : ((w5_1 + w5_2) / (2 : Int32)).toInt = (w5_1 + w5_2).toInt / 2 := t_divl rfl (by omega) (by omega)
          exact ih5 ((w5_1 + w5_2) / (2 : Int32)) w5_2 _ _ _ (Nat.lt_of_lt_of_le (by omega) (Nat.le_of_lt_succ hm5)) (by omega) hP hS (lv_sub hl [2, 0, 3] rfl) ko5
  refine loop5 100002 (0 : Int32) (100001 : Int32) _ _ _ (by omega) (by omega) hP hS (lv_sub hl [0, 1, 2] rfl) (fun z11 z12 H locs ls hi5 hP hS hl => ?_)
  refine lv_iload_n hx hb dX10_bears__37 rfl (lv_at hl 1 rfl) ?_
  refine W.widen (k := 0) (n := 0) (Nat.le_of_ble_eq_true rfl) (Nat.le_of_ble_eq_true rfl) ?_
  exact W.iret (v := z11) hx hb hr (fun t ht hW9 => ⟨⟨z11, (), rfl, (by omega), wd_end hP hK hD ht hW9.alike⟩, hS.F ht⟩) hS.2.2 dX10_bears__38 hlocks
theorem hd_X10_life : yX10_life.cls = RX10 ∧ yX10_life.cls ≠ "java/lang/invoke/MethodHandle" ∧ yX10_life.cls ≠ "java/lang/invoke/VarHandle" ∧ (parseMethodDescriptor yX10_life.desc).map (fun d => d.parameters.length) = some 1 := by decide +kernel
set_option maxHeartbeats 4000000 in
set_option maxRecDepth 100000 in
theorem c_X10_life (l : Launch) {D : va_G} {cy : Nat → ClassId} {X : va_W} (S : wPS) (sz : Nat) (o1 : Nat) (h_o1 : isA S o1 10) (x1 : Int64) (hW : wtB S [])  : Met l yX10_life wsX10_life ({ frames := 4, cells := 0, slots := 0, locals := 85 }) (va_Pc [.ref o1, .long x1] (fun U => U.heap.size = sz ∧ WD D cy X (fun _ => True) S U ∧ NW U)) (va_Ql (fun r (_ : Unit) => True) (fun _ t => WD D cy X (va_A (X ++ PL cy S) sz) S t) (va_A (X ++ PL cy S) sz)) 0 0 (va_A (X ++ PL cy S) sz) := by
  refine Met.ofW (cc := cX10_life) (maxL := 8) (ret := (some .long)) (by decide) rfl ?_
  intro p e s m args below meth c s₁ B hml hv
  obtain ⟨rfl, hsz, ⟨hP, hK, hD0⟩, hN⟩ := hv
  have hx := B.exec
  have hb := B.bytes
  have hr := B.returns
  have hts := atoms_spec (ws := wsX10_life) B.pre
  have hown : s.vm.findClass RX10 = some m.cls := findClass_of_methodNamed (x := yX10_life) B.named
  have hlocks := B.notSynchronized
  subst hsz
  have hD := hD0.self (sz := s.heap.size)
  generalize hAe : va_A (X ++ PL cy S) s.heap.size = A at hD ⊢
  have hA : ∀ q : Nat, s.heap.size ≤ q → A q := fun q h => by rw [← hAe]; exact Or.inr h
  have hS : va_S A s.heap s.heap [] := va_S.rf
  have hl := lv_entry ([.ref o1, .long x1]) (n := 8) (Nat.le_of_ble_eq_true rfl)
  rw [lg_entry_eq]
  generalize (lg_sl ([.ref o1, .long x1]) ++ List.replicate (8 - (lg_sl ([.ref o1, .long x1])).length) Slot.unset).toArray = ls at hl ⊢
  have hl : lv_has ls 8 [(0, .ref o1), (1, .long x1)] := hl
  refine lv_aload_n hx hb dX10_life_0 rfl (lv_at hl 0 rfl) ?_
  have hFc := free_all hD hS hA
  obtain ⟨k1, gk1, hk1⟩ := wGt (cy := cy) X S h_o1.1 h_o1.2.1
  refine va_calli (va_runV (As := []) (rest := []) ⟨hx, hb, hml, hown, hts⟩ (c_X10_bears_ l (cy := cy) (X := X) (D := D) S _ o1 h_o1 (hW)) (cwV 0 hts gX10_life_X10_bears_ rfl rfl rfl hd_X10_bears_ ⟨Nat.le_of_ble_eq_true rfl, Nat.le_of_ble_eq_true rfl⟩) (pV (va_recv hK hP (q := (RX10, TX10, 23)) (ci := 14) (q0 := k1) rfl hk1) hP hK hD hN) rfl rfl hl.1 rfl (lv_room (Nat.le_of_ble_eq_true rfl)) dX10_life_1 ⟨(Nat.zero_le _), (Nat.zero_le _)⟩) hS (fun q _ h => hFc q h) hFc (fun r2 u t H1 locs ht hvm hw hB hz1 hk1 hS => ?_)
  have y3 := hw
  obtain ⟨hP, hD⟩ := wd_post hFc ht hB
  generalize H1 = H at hP hS ⊢
  refine lv_i2l hx hb dX10_life_4 rfl ?_
  refine lv_lstore_n (lv' := [(3, .long r2.toInt64), (0, .ref o1), (1, .long x1)]) hx hb dX10_life_5 rfl hl (by decide) rfl (fun ls hl => ?_)
  refine lv_lload_n hx hb dX10_life_6 rfl (lv_at hl 2 rfl) ?_
  refine lv_lload_n hx hb dX10_life_7 rfl (lv_at hl 0 rfl) ?_
  refine W.lcmp hx hb dX10_life_8 ?_
  refine lv_if_gt (tgt := 16) hx hb dX10_life_9 (by decide) (fun c4 => ?_) (fun c4 => ?_)
  · have c4i := lc_gt c4
    have i5 := i64_i r2
    refine lv_ldc2 (own := RX10) (v := 1000000) hx hb hown (hts (.constantLong RX10 93 (1000000)) (by decide +kernel)) dX10_life_16 ?_
    refine lv_lstore (lv' := [(5, .long (1000000 : Int64)), (3, .long r2.toInt64), (0, .ref o1), (1, .long x1)]) hx hb dX10_life_19 hl (by decide) rfl (fun ls hl => ?_)
    refine lv_iconst (v := 0) hx hb dX10_life_21 (by decide) ?_
    refine lv_istore (lv' := [(7, .int (0 : Int32)), (5, .long (1000000 : Int64)), (3, .long r2.toInt64), (0, .ref o1), (1, .long x1)]) hx hb dX10_life_22 hl (by decide) rfl (fun ls hl => ?_)
    have l32_0 : (0 : Int32).toInt = 0 := rfl
    have loop24 : ∀ (n : Nat) (w24_5 : Int64) (w24_7 : Int32) (H : Heap) (locs : List Loc) (ls : Array Slot), (6 - w24_7.toInt).toNat < n → 0 ≤ w24_7.toInt ∧ w24_7.toInt ≤ 6 → va_P D vwCl (X ++ PL cy S) H → va_S A s.heap H locs → lv_has ls 8 [(7, .int w24_7), (5, .long w24_5), (3, .long r2.toInt64), (0, .ref o1), (1, .long x1)] → (∀ (w24_5x : Int64) (w24_7x : Int32) (H : Heap) (locs : List Loc) (ls : Array Slot), 0 ≤ w24_7x.toInt ∧ w24_7x.toInt ≤ 6 → va_P D vwCl (X ++ PL cy S) H → va_S A s.heap H locs → lv_has ls 8 [(7, .int w24_7x), (5, .long w24_5x), (3, .long r2.toInt64), (0, .ref o1), (1, .long x1)] → W p l e (headSpec wsX10_life ({ frames := 4, cells := 0, slots := 0, locals := 85 } : Room)).room s m [.ref o1, .long x1].toArray below meth c H locs 0 0 (MQ below (va_Ql (fun r (_ : Unit) => True) (fun _ t => WD D cy X A S t) A) [.ref o1, .long x1].toArray s 0 0 A) (F0 m 45 ls [])) → W p l e (headSpec wsX10_life ({ frames := 4, cells := 0, slots := 0, locals := 85 } : Room)).room s m [.ref o1, .long x1].toArray below meth c H locs 0 0 (MQ below (va_Ql (fun r (_ : Unit) => True) (fun _ t => WD D cy X A S t) A) [.ref o1, .long x1].toArray s 0 0 A) (F0 m 24 ls []) := by
      intro n24
      induction n24 with
      | zero => intro w24_5 w24_7 H locs ls hm; exact absurd hm (Nat.not_lt_zero _)
      | succ n24 ih24 =>
        intro w24_5 w24_7 H locs ls hm24 hi24 hP hS hl ko24
        refine lv_iload hx hb dX10_life_24 (lv_at hl 0 rfl) ?_
        refine lv_bipush (v := 6) hx hb dX10_life_26 (by decide +kernel) ?_
        refine lv_icmp_ge (tgt := 45) hx hb dX10_life_28 (by decide) (fun c6 => ?_) (fun c6 => ?_)
        · have c6i : 6 ≤ w24_7.toInt := le_v rfl rfl c6
          exact ko24 w24_5 w24_7 _ _ _ (by omega) hP hS (lv_sub hl [0, 1, 2, 3, 4] rfl)
        · have c6i : w24_7.toInt < 6 := nle_v rfl rfl c6
          refine lv_lload hx hb dX10_life_31 (lv_at hl 1 rfl) ?_
          refine lv_lload_n hx hb dX10_life_33 rfl (lv_at hl 2 rfl) ?_
          refine lv_lmul hx hb dX10_life_34 ?_
          refine lv_lload_n hx hb dX10_life_35 rfl (lv_at hl 4 rfl) ?_
          refine lv_ldiv hx hb dX10_life_36 (lc_nz0 c4 (by omega)) ?_
          refine lv_lstore (lv' := [(5, .long ((w24_5 * r2.toInt64) / x1)), (7, .int w24_7), (3, .long r2.toInt64), (0, .ref o1), (1, .long x1)]) hx hb dX10_life_37 hl (by decide) rfl (fun ls hl => ?_)
          refine lv_iinc (v := w24_7 + (1 : Int32)) (lv' := [(7, .int (w24_7 + (1 : Int32))), (5, .long ((w24_5 * r2.toInt64) / x1)), (3, .long r2.toInt64), (0, .ref o1), (1, .long x1)]) hx hb dX10_life_39 hl (k := 1) rfl (by rfl) (by decide) rfl (fun ls hl => ?_)
          refine lv_goto (tgt := 24) hx hb dX10_life_42 (by decide) ?_
          have l32_1 : (1 : Int32).toInt = 1 := rfl
          have i7 : (w24_7 + (1 : Int32)).toInt = w24_7.toInt + 1 := t_addr (n := 1) rfl (by omega)
          exact ih24 ((w24_5 * r2.toInt64) / x1) (w24_7 + (1 : Int32)) _ _ _ (Nat.lt_of_lt_of_le (by omega) (Nat.le_of_lt_succ hm24)) (by omega) hP hS (lv_sub hl [0, 1, 2, 3, 4] rfl) ko24
    refine loop24 7 (1000000 : Int64) (0 : Int32) _ _ _ (by omega) (by omega) hP hS (lv_sub hl [0, 1, 2, 3, 4] rfl) (fun z9 z10 H locs ls hi24 hP hS hl => ?_)
    refine lv_lload hx hb dX10_life_45 (lv_at hl 1 rfl) ?_
    refine W.widen (k := 0) (n := 0) (Nat.le_of_ble_eq_true rfl) (Nat.le_of_ble_eq_true rfl) ?_
    exact W.lret (v := z9) hx hb hr (fun t ht hW9 => ⟨⟨z9, (), rfl, trivial, wd_end hP hK hD ht hW9.alike⟩, hS.F ht⟩) hS.2.2 dX10_life_47 hlocks
  · have c4i := lc_ngt c4
    have i11 := i64_i r2
    refine lv_ldc2 (own := RX10) (v := -1) hx hb hown (hts (.constantLong RX10 147 (-1)) (by decide +kernel)) dX10_life_12 ?_
    refine W.widen (k := 0) (n := 0) (Nat.le_of_ble_eq_true rfl) (Nat.le_of_ble_eq_true rfl) ?_
    exact W.lret (v := (-1 : Int64)) hx hb hr (fun t ht hW9 => ⟨⟨(-1 : Int64), (), rfl, trivial, wd_end hP hK hD ht hW9.alike⟩, hS.F ht⟩) hS.2.2 dX10_life_15 hlocks
theorem hi_X10_runs_X10 : ∀ w ∈ u_ws RX10 TX10 23, w ∈ wsX10_runs := by decide +kernel
theorem hd_X10_runs : yX10_runs.cls = RX10 ∧ yX10_runs.cls ≠ "java/lang/invoke/MethodHandle" ∧ yX10_runs.cls ≠ "java/lang/invoke/VarHandle" ∧ (parseMethodDescriptor yX10_runs.desc).map (fun d => d.parameters.length) = some 2 := by decide +kernel
set_option maxHeartbeats 4000000 in
set_option maxRecDepth 100000 in
theorem c_X10_runs (l : Launch) {D : va_G} {cy : Nat → ClassId} {X : va_W} (S : wPS) (sz : Nat) (o1 : Nat) (h_o1 : isA S o1 10) (x1 : Int64) (x2 : Int64) (hW : wtB S [])  : Met l yX10_runs wsX10_runs ({ frames := 5, cells := 0, slots := 0, locals := 112 }) (va_Pc [.ref o1, .long x1, .long x2] (fun U => U.heap.size = sz ∧ WD D cy X (fun _ => True) S U ∧ NW U)) (va_Qv (fun (u : wPS) => stp [(10, 22)] [] [] S u) (fun u t => WD D cy X (va_A (X ++ PL cy S) sz) u t) (va_A (X ++ PL cy S) sz)) 0 0 (va_A (X ++ PL cy S) sz) := by
  refine Met.ofW (cc := cX10_runs) (maxL := 7) (ret := none) (by decide) rfl ?_
  intro p e s m args below meth c s₁ B hml hv
  obtain ⟨rfl, hsz, ⟨hP, hK, hD0⟩, hN⟩ := hv
  have hx := B.exec
  have hb := B.bytes
  have hr := B.returns
  have hts := atoms_spec (ws := wsX10_runs) B.pre
  have hown : s.vm.findClass RX10 = some m.cls := findClass_of_methodNamed (x := yX10_runs) B.named
  have hlocks := B.notSynchronized
  subst hsz
  have hD := hD0.self (sz := s.heap.size)
  generalize hAe : va_A (X ++ PL cy S) s.heap.size = A at hD ⊢
  have hA : ∀ q : Nat, s.heap.size ≤ q → A q := fun q h => by rw [← hAe]; exact Or.inr h
  have hS : va_S A s.heap s.heap [] := va_S.rf
  have hl := lv_entry ([.ref o1, .long x1, .long x2]) (n := 7) (Nat.le_of_ble_eq_true rfl)
  rw [lg_entry_eq]
  generalize (lg_sl ([.ref o1, .long x1, .long x2]) ++ List.replicate (7 - (lg_sl ([.ref o1, .long x1, .long x2])).length) Slot.unset).toArray = ls at hl ⊢
  have hl : lv_has ls 7 [(0, .ref o1), (1, .long x1), (3, .long x2)] := hl
  have t0 : stp [(10, 22)] [] [] S S := stp.rf hW
  refine lv_aload_n hx hb dX10_runs_0 rfl (lv_at hl 0 rfl) ?_
  refine lv_lload_n hx hb dX10_runs_1 rfl (lv_at hl 1 rfl) ?_
  have hFc := free_all hD hS hA
  obtain ⟨k1, gk1, hk1⟩ := wGt (cy := cy) X S h_o1.1 h_o1.2.1
  refine va_calll (va_runV (As := [.long x1]) (rest := []) ⟨hx, hb, hml, hown, hts⟩ (c_X10_life l (cy := cy) (X := X) (D := D) S _ o1 h_o1 x1 (hW)) (cwV 1 hts gX10_runs_X10_life rfl rfl rfl hd_X10_life ⟨Nat.le_of_ble_eq_true rfl, Nat.le_of_ble_eq_true rfl⟩) (pV (va_recv hK hP (q := (RX10, TX10, 23)) (ci := 14) (q0 := k1) rfl hk1) hP hK hD hN) rfl rfl hl.1 rfl (lv_room (Nat.le_of_ble_eq_true rfl)) dX10_runs_2 ⟨(Nat.zero_le _), (Nat.zero_le _)⟩) hS (fun q _ h => hFc q h) hFc (fun r2 u t H1 locs ht hvm hw hB hz1 hk1 hS => ?_)
  clear hw
  obtain ⟨hP, hD⟩ := wd_post hFc ht hB
  generalize H1 = H at hP hS ⊢
  refine lv_lstore (lv' := [(5, .long r2), (0, .ref o1), (1, .long x1), (3, .long x2)]) hx hb dX10_runs_5 hl (by decide) rfl (fun ls hl => ?_)
  refine lv_aload_n hx hb dX10_runs_7 rfl (lv_at hl 1 rfl) ?_
  refine lv_dup hx hb dX10_runs_8 rfl ?_
  obtain ⟨k3, gk3, hk3⟩ := wGt (cy := cy) X S h_o1.1 h_o1.2.1
  refine va_get (D := D) (ci := 14) (v := .long (S.J o1 22)) (C := RX10) (T := TX10) (N := 23) hx hb hts hi_X10_runs_X10 hown hK hP k3 hk3 rfl 22 (by decide) (hts (.fieldLink RX10 89 "HobhouseModel$Gear" "damage" "J") (by decide +kernel)) (fun _ h9 => h9) rfl dX10_runs_9 ?_
  refine lv_lload hx hb dX10_runs_12 (lv_at hl 0 rfl) ?_
  refine lv_lconst (v := 0) hx hb dX10_runs_14 (by decide) ?_
  refine W.lcmp hx hb dX10_runs_15 ?_
  refine lv_if_ge (tgt := 23) hx hb dX10_runs_16 (by decide) (fun c4 => ?_) (fun c4 => ?_)
  · have c4i := lc_ge c4
    refine lv_lload hx hb dX10_runs_23 (lv_at hl 0 rfl) ?_
    refine lv_lconst (v := 0) hx hb dX10_runs_25 (by decide) ?_
    refine W.lcmp hx hb dX10_runs_26 ?_
    refine lv_if_ne (tgt := 36) hx hb dX10_runs_27 (by decide) (fun c5 => ?_) (fun c5 => ?_)
    · refine lv_ldc2 (own := RX10) (v := 1000000) hx hb hown (hts (.constantLong RX10 93 (1000000)) (by decide +kernel)) dX10_runs_36 ?_
      refine lv_lload_n hx hb dX10_runs_39 rfl (lv_at hl 3 rfl) ?_
      refine lv_lmul hx hb dX10_runs_40 ?_
      refine lv_lload hx hb dX10_runs_41 (lv_at hl 0 rfl) ?_
      refine lv_ldiv hx hb dX10_runs_43 (nz_eq c5) ?_
      refine lv_ladd hx hb dX10_runs_44 ?_
      obtain ⟨k6, gk6, hk6⟩ := wGt (cy := cy) X S h_o1.1 h_o1.2.1
      refine va_put (D := D) (ci := 14) (v := .long ((S.J o1 22) + (((1000000 : Int64) * x2) / r2))) (ty := .long) (C := RX10) (T := TX10) (N := 23) hx hb hts hi_X10_runs_X10 tyX10 tyX10_ok nmX10 hown hK hP hD hS k6 hk6 rfl 22 (by decide) (hts (.fieldLink RX10 89 "HobhouseModel$Gear" "damage" "J") (by decide +kernel)) (fun _ h9 => h9) rfl (by decide +kernel) (rfl) (rfl) (Nat.le_of_ble_eq_true rfl) dX10_runs_45 (fun H locs hP2 hD2 hS => ?_)
      have e9 := wPuJ (cy := cy) (j := 22) (v := ((S.J o1 22) + (((1000000 : Int64) * x2) / r2))) hD h_o1.1 h_o1.2.1 gk6 rfl
      obtain ⟨S7, hS7⟩ : ∃ z, S.sJ o1 22 ((S.J o1 22) + (((1000000 : Int64) * x2) / r2)) = z := ⟨_, rfl⟩
      have hP : va_P D vwCl (X ++ PL cy S7) H := by rw [← hS7, ← e9]; exact hP2
      have hD : va_D A (X ++ PL cy S7) := by rw [← hS7, ← e9]; exact hD2
      have xe8 : ext S S7 := by rw [← hS7]; exact ext.sJ _ _ _ _
      have t9 : stp [(10, 22)] [] [] S S7 := by rw [← hS7]; exact t0.J 22 ((S.J o1 22) + (((1000000 : Int64) * x2) / r2)) h_o1 (by decide)
      refine W.widen (k := 0) (n := 0) (Nat.le_of_ble_eq_true rfl) (Nat.le_of_ble_eq_true rfl) ?_
      exact W.vret hx hb hr (fun t ht hW9 => ⟨⟨S7, rfl, t9, wd_end hP hK hD ht hW9.alike⟩, hS.F ht⟩) hS.2.2 dX10_runs_48 hlocks
    · refine lv_ldc2 (own := RX10) (v := 1000000) hx hb hown (hts (.constantLong RX10 93 (1000000)) (by decide +kernel)) dX10_runs_30 ?_
      refine lv_goto (tgt := 44) hx hb dX10_runs_33 (by decide) ?_
      refine lv_ladd hx hb dX10_runs_44 ?_
      obtain ⟨k10, gk10, hk10⟩ := wGt (cy := cy) X S h_o1.1 h_o1.2.1
      refine va_put (D := D) (ci := 14) (v := .long ((S.J o1 22) + (1000000 : Int64))) (ty := .long) (C := RX10) (T := TX10) (N := 23) hx hb hts hi_X10_runs_X10 tyX10 tyX10_ok nmX10 hown hK hP hD hS k10 hk10 rfl 22 (by decide) (hts (.fieldLink RX10 89 "HobhouseModel$Gear" "damage" "J") (by decide +kernel)) (fun _ h9 => h9) rfl (by decide +kernel) (rfl) (rfl) (Nat.le_of_ble_eq_true rfl) dX10_runs_45 (fun H locs hP2 hD2 hS => ?_)
      have e9 := wPuJ (cy := cy) (j := 22) (v := ((S.J o1 22) + (1000000 : Int64))) hD h_o1.1 h_o1.2.1 gk10 rfl
      obtain ⟨S11, hS11⟩ : ∃ z, S.sJ o1 22 ((S.J o1 22) + (1000000 : Int64)) = z := ⟨_, rfl⟩
      have hP : va_P D vwCl (X ++ PL cy S11) H := by rw [← hS11, ← e9]; exact hP2
      have hD : va_D A (X ++ PL cy S11) := by rw [← hS11, ← e9]; exact hD2
      have xe12 : ext S S11 := by rw [← hS11]; exact ext.sJ _ _ _ _
      have t13 : stp [(10, 22)] [] [] S S11 := by rw [← hS11]; exact t0.J 22 ((S.J o1 22) + (1000000 : Int64)) h_o1 (by decide)
      refine W.widen (k := 0) (n := 0) (Nat.le_of_ble_eq_true rfl) (Nat.le_of_ble_eq_true rfl) ?_
      exact W.vret hx hb hr (fun t ht hW9 => ⟨⟨S11, rfl, t13, wd_end hP hK hD ht hW9.alike⟩, hS.F ht⟩) hS.2.2 dX10_runs_48 hlocks
  · have c4i := lc_nge c4
    refine lv_lconst (v := 0) hx hb dX10_runs_19 (by decide) ?_
    refine lv_goto (tgt := 44) hx hb dX10_runs_20 (by decide) ?_
    refine lv_ladd hx hb dX10_runs_44 ?_
    obtain ⟨k14, gk14, hk14⟩ := wGt (cy := cy) X S h_o1.1 h_o1.2.1
    refine va_put (D := D) (ci := 14) (v := .long ((S.J o1 22) + (0 : Int64))) (ty := .long) (C := RX10) (T := TX10) (N := 23) hx hb hts hi_X10_runs_X10 tyX10 tyX10_ok nmX10 hown hK hP hD hS k14 hk14 rfl 22 (by decide) (hts (.fieldLink RX10 89 "HobhouseModel$Gear" "damage" "J") (by decide +kernel)) (fun _ h9 => h9) rfl (by decide +kernel) (rfl) (rfl) (Nat.le_of_ble_eq_true rfl) dX10_runs_45 (fun H locs hP2 hD2 hS => ?_)
    have e9 := wPuJ (cy := cy) (j := 22) (v := ((S.J o1 22) + (0 : Int64))) hD h_o1.1 h_o1.2.1 gk14 rfl
    obtain ⟨S15, hS15⟩ : ∃ z, S.sJ o1 22 ((S.J o1 22) + (0 : Int64)) = z := ⟨_, rfl⟩
    have hP : va_P D vwCl (X ++ PL cy S15) H := by rw [← hS15, ← e9]; exact hP2
    have hD : va_D A (X ++ PL cy S15) := by rw [← hS15, ← e9]; exact hD2
    have xe16 : ext S S15 := by rw [← hS15]; exact ext.sJ _ _ _ _
    have t17 : stp [(10, 22)] [] [] S S15 := by rw [← hS15]; exact t0.J 22 ((S.J o1 22) + (0 : Int64)) h_o1 (by decide)
    refine W.widen (k := 0) (n := 0) (Nat.le_of_ble_eq_true rfl) (Nat.le_of_ble_eq_true rfl) ?_
    exact W.vret hx hb hr (fun t ht hW9 => ⟨⟨S15, rfl, t17, wd_end hP hK hD ht hW9.alike⟩, hS.F ht⟩) hS.2.2 dX10_runs_48 hlocks
theorem hi_X10_places_X10 : ∀ w ∈ u_ws RX10 TX10 23, w ∈ wsX10_places := by decide +kernel
theorem hd_X10_places : yX10_places.cls = RX10 ∧ yX10_places.cls ≠ "java/lang/invoke/MethodHandle" ∧ yX10_places.cls ≠ "java/lang/invoke/VarHandle" ∧ (parseMethodDescriptor yX10_places.desc).map (fun d => d.parameters.length) = some 3 := by decide +kernel
set_option maxHeartbeats 4000000 in
set_option maxRecDepth 100000 in
theorem c_X10_places (l : Launch) {D : va_G} {cy : Nat → ClassId} {X : va_W} (S : wPS) (sz : Nat) (o1 : Nat) (h_o1 : isA S o1 10) (x1 : Int32) (o2 : Nat) (h_o2 : isA S o2 17) (o3 : Nat) (h_o3 : isA S o3 17) (hW : wtB S []) (h1 : 1 ≤ x1.toInt ∧ x1.toInt ≤ 200) (n2 : S.n o2 = 200) (n3 : S.n o3 = 200) : Met l yX10_places wsX10_places ({ frames := 1, cells := 0, slots := 0, locals := 22 }) (va_Pc [.ref o1, .int x1, .ref o2, .ref o3] (fun U => U.heap.size = sz ∧ WD D cy X (fun _ => True) S U ∧ NW U)) (va_Qv (fun (u : wPS) => stp [(17, 100)] [] [] S u) (fun u t => WD D cy X (va_A (X ++ PL cy S) sz) u t) (va_A (X ++ PL cy S) sz)) 0 0 (va_A (X ++ PL cy S) sz) := by
  refine Met.ofW (cc := cX10_places) (maxL := 8) (ret := none) (by decide) rfl ?_
  intro p e s m args below meth c s₁ B hml hv
  obtain ⟨rfl, hsz, ⟨hP, hK, hD0⟩, hN⟩ := hv
  have hx := B.exec
  have hb := B.bytes
  have hr := B.returns
  have hts := atoms_spec (ws := wsX10_places) B.pre
  have hown : s.vm.findClass RX10 = some m.cls := findClass_of_methodNamed (x := yX10_places) B.named
  have hlocks := B.notSynchronized
  subst hsz
  have hD := hD0.self (sz := s.heap.size)
  generalize hAe : va_A (X ++ PL cy S) s.heap.size = A at hD ⊢
  have hA : ∀ q : Nat, s.heap.size ≤ q → A q := fun q h => by rw [← hAe]; exact Or.inr h
  have hS : va_S A s.heap s.heap [] := va_S.rf
  have hl := lv_entry ([.ref o1, .int x1, .ref o2, .ref o3]) (n := 8) (Nat.le_of_ble_eq_true rfl)
  rw [lg_entry_eq]
  generalize (lg_sl ([.ref o1, .int x1, .ref o2, .ref o3]) ++ List.replicate (8 - (lg_sl ([.ref o1, .int x1, .ref o2, .ref o3])).length) Slot.unset).toArray = ls at hl ⊢
  have hl : lv_has ls 8 [(0, .ref o1), (1, .int x1), (2, .ref o2), (3, .ref o3)] := hl
  have t0 : stp [(17, 100)] [] [] S S := stp.rf hW
  have r1 := ((hW.at h_o1 List.not_mem_nil).to_10 h_o1.2.1).R1
  have r2 := ((hW.at h_o1 List.not_mem_nil).to_10 h_o1.2.1).R2
  refine lv_iconst (v := 0) hx hb dX10_places_0 (by decide) ?_
  refine lv_istore (lv' := [(4, .int (0 : Int32)), (0, .ref o1), (1, .int x1), (2, .ref o2), (3, .ref o3)]) hx hb dX10_places_1 hl (by decide) rfl (fun ls hl => ?_)
  refine lv_aload_n hx hb dX10_places_3 rfl (lv_at hl 1 rfl) ?_
  have hFc := free_all hD hS hA
  obtain ⟨k1, gk1, hk1⟩ := wGt (cy := cy) X S h_o1.1 h_o1.2.1
  refine va_calli (va_runV (As := []) (rest := []) ⟨hx, hb, hml, hown, hts⟩ (c_X10_all l (cy := cy) (X := X) (D := D) S _ o1 h_o1 (hW)) (cwV 0 hts gX10_places_X10_all rfl rfl rfl hd_X10_all ⟨Nat.le_of_ble_eq_true rfl, Nat.le_of_ble_eq_true rfl⟩) (pV (va_recv hK hP (q := (RX10, TX10, 23)) (ci := 14) (q0 := k1) rfl hk1) hP hK hD hN) rfl rfl hl.1 rfl (lv_room (Nat.le_of_ble_eq_true rfl)) dX10_places_4 ⟨(Nat.zero_le _), (Nat.zero_le _)⟩) hS (fun q _ h => hFc q h) hFc (fun r2 u t H1 locs ht hvm hw hB hz1 hk1 hS => ?_)
  clear hw
  obtain ⟨hP, hD⟩ := wd_post hFc ht hB
  generalize H1 = H at hP hS ⊢
  refine lv_istore (lv' := [(5, .int r2), (4, .int (0 : Int32)), (0, .ref o1), (1, .int x1), (2, .ref o2), (3, .ref o3)]) hx hb dX10_places_7 hl (by decide) rfl (fun ls hl => ?_)
  refine lv_iconst (v := 0) hx hb dX10_places_9 (by decide) ?_
  refine lv_istore (lv' := [(6, .int (0 : Int32)), (5, .int r2), (4, .int (0 : Int32)), (0, .ref o1), (1, .int x1), (2, .ref o2), (3, .ref o3)]) hx hb dX10_places_10 hl (by decide) rfl (fun ls hl => ?_)
  have l32_0 : (0 : Int32).toInt = 0 := rfl
  have loop12 : ∀ (n : Nat) (S12_ : wPS) (w12_4 : Int32) (w12_6 : Int32) (H : Heap) (locs : List Loc) (ls : Array Slot), (200 - w12_6.toInt).toNat < n → 0 ≤ w12_6.toInt ∧ w12_6.toInt ≤ 200 → stp [(17, 100)] [] [] S S12_ → va_P D vwCl (X ++ PL cy S12_) H → va_D A (X ++ PL cy S12_) → va_S A s.heap H locs → lv_has ls 8 [(6, .int w12_6), (5, .int r2), (4, .int w12_4), (0, .ref o1), (1, .int x1), (2, .ref o2), (3, .ref o3)] → (∀ (S12_x : wPS) (w12_4x : Int32) (w12_6x : Int32) (H : Heap) (locs : List Loc) (ls : Array Slot), 0 ≤ w12_6x.toInt ∧ w12_6x.toInt ≤ 200 → stp [(17, 100)] [] [] S S12_x → va_P D vwCl (X ++ PL cy S12_x) H → va_D A (X ++ PL cy S12_x) → va_S A s.heap H locs → lv_has ls 8 [(6, .int w12_6x), (5, .int r2), (4, .int w12_4x), (0, .ref o1), (1, .int x1), (2, .ref o2), (3, .ref o3)] → W p l e (headSpec wsX10_places ({ frames := 1, cells := 0, slots := 0, locals := 22 } : Room)).room s m [.ref o1, .int x1, .ref o2, .ref o3].toArray below meth c H locs 0 0 (MQ below (va_Qv (fun (u : wPS) => stp [(17, 100)] [] [] S u) (fun u t => WD D cy X A u t) A) [.ref o1, .int x1, .ref o2, .ref o3].toArray s 0 0 A) (F0 m 115 ls [])) → W p l e (headSpec wsX10_places ({ frames := 1, cells := 0, slots := 0, locals := 22 } : Room)).room s m [.ref o1, .int x1, .ref o2, .ref o3].toArray below meth c H locs 0 0 (MQ below (va_Qv (fun (u : wPS) => stp [(17, 100)] [] [] S u) (fun u t => WD D cy X A u t) A) [.ref o1, .int x1, .ref o2, .ref o3].toArray s 0 0 A) (F0 m 12 ls []) := by
    intro n12
    induction n12 with
    | zero => intro S12_ w12_4 w12_6 H locs ls hm; exact absurd hm (Nat.not_lt_zero _)
    | succ n12 ih12 =>
      intro S12_ w12_4 w12_6 H locs ls hm12 hi12 hsh12 hP hD hS hl ko12
      refine lv_iload hx hb dX10_places_12 (lv_at hl 0 rfl) ?_
      refine lv_aload_n hx hb dX10_places_14 rfl (lv_at hl 3 rfl) ?_
      obtain ⟨k3, gk3, hk3⟩ := wGt (cy := cy) X S12_ (hsh12.x.A h_o1).1 (hsh12.x.A h_o1).2.1
      have i4 := ((hsh12.w.at (hsh12.x.A h_o1) List.not_mem_nil).to_10 (hsh12.x.A h_o1).2.1).R1
      refine va_get (D := D) (ci := 14) (v := .int (S12_.I o1 1)) (C := RX10) (T := TX10) (N := 23) hx hb hts hi_X10_places_X10 hown hK hP k3 hk3 rfl 1 (by decide) (hts (.fieldLink RX10 29 "HobhouseModel$Gear" "teeth" "I") (by decide +kernel)) (fun _ h9 => h9) rfl dX10_places_15 ?_
      refine lv_icmp_ge (tgt := 115) hx hb dX10_places_18 (by decide) (fun c5 => ?_) (fun c5 => ?_)
      · have c5i : (S12_.I o1 1).toInt ≤ w12_6.toInt := le_v rfl rfl c5
        exact ko12 S12_ w12_4 w12_6 _ _ _ (by omega) hsh12 hP hD hS (lv_sub hl [0, 1, 2, 3, 4, 5, 6] rfl)
      · have c5i : w12_6.toInt < (S12_.I o1 1).toInt := nle_v rfl rfl c5
        refine lv_aload_n hx hb dX10_places_21 rfl (lv_at hl 3 rfl) ?_
        obtain ⟨k6, gk6, hk6⟩ := wGt (cy := cy) X S12_ (hsh12.x.A h_o1).1 (hsh12.x.A h_o1).2.1
        refine va_get (D := D) (ci := 14) (v := .int (S12_.I o1 1)) (C := RX10) (T := TX10) (N := 23) hx hb hts hi_X10_places_X10 hown hK hP k6 hk6 rfl 1 (by decide) (hts (.fieldLink RX10 29 "HobhouseModel$Gear" "teeth" "I") (by decide +kernel)) (fun _ h9 => h9) rfl dX10_places_22 ?_
        refine lv_iload hx hb dX10_places_25 (lv_at hl 2 rfl) ?_
        refine lv_imul hx hb dX10_places_27 ?_
        refine lv_iload hx hb dX10_places_28 (lv_at hl 0 rfl) ?_
        refine lv_iload hx hb dX10_places_30 (lv_at hl 1 rfl) ?_
        refine lv_imul hx hb dX10_places_32 ?_
        refine lv_isub hx hb dX10_places_33 ?_
        refine lv_aload_n hx hb dX10_places_34 rfl (lv_at hl 3 rfl) ?_
        obtain ⟨k7, gk7, hk7⟩ := wGt (cy := cy) X S12_ (hsh12.x.A h_o1).1 (hsh12.x.A h_o1).2.1
        refine va_get (D := D) (ci := 14) (v := .int (S12_.I o1 1)) (C := RX10) (T := TX10) (N := 23) hx hb hts hi_X10_places_X10 hown hK hP k7 hk7 rfl 1 (by decide) (hts (.fieldLink RX10 29 "HobhouseModel$Gear" "teeth" "I") (by decide +kernel)) (fun _ h9 => h9) rfl dX10_places_35 ?_
        refine lv_idiv hx hb dX10_places_38 (nz_i (by omega)) ?_
        refine lv_istore (lv' := [(7, .int ((((S12_.I o1 1) * w12_4) - (w12_6 * r2)) / (S12_.I o1 1))), (6, .int w12_6), (5, .int r2), (4, .int w12_4), (0, .ref o1), (1, .int x1), (2, .ref o2), (3, .ref o3)]) hx hb dX10_places_39 hl (by decide) rfl (fun ls hl => ?_)
        refine lv_iload hx hb dX10_places_41 (lv_at hl 3 rfl) ?_
        refine lv_aload_n hx hb dX10_places_43 rfl (lv_at hl 4 rfl) ?_
        have F8 := ((hW.at h_o1 List.not_mem_nil).to_10 h_o1.2.1).F5
        obtain ⟨k9, gk9, hk9⟩ := wGt (cy := cy) X S12_ (hsh12.x.A h_o1).1 (hsh12.x.A h_o1).2.1
        simp only [kE, (hsh12.x.F h_o1 (by decide) F8.1)] at hk9
        refine va_get (D := D) (ci := 14) (v := .ref (S.f o1 5)) (C := RX10) (T := TX10) (N := 23) hx hb hts hi_X10_places_X10 hown hK hP k9 hk9 rfl 5 (by decide) (hts (.fieldLink RX10 9 "HobhouseModel$Gear" "errors" "[I") (by decide +kernel)) (fun _ h9 => h9) rfl dX10_places_44 ?_
        refine lv_iload hx hb dX10_places_47 (lv_at hl 1 rfl) ?_
        obtain ⟨k10, gk10, hk10⟩ := wGt (cy := cy) X S12_ (hsh12.x.A F8.2.1).1 (hsh12.x.A F8.2.1).2.1
        refine va_iald hx hb hK hP k10 2 hk10 rfl (inb (m := 200) ((hsh12.x.n F8.2.1).trans F8.2.2) (by omega) (by omega)) dX10_places_49 ?_
        refine lv_iadd hx hb dX10_places_50 ?_
        refine lv_istore (lv' := [(4, .int (w12_4 + (S12_.i (S.f o1 5) w12_6.toNatClampNeg))), (7, .int ((((S12_.I o1 1) * w12_4) - (w12_6 * r2)) / (S12_.I o1 1))), (6, .int w12_6), (5, .int r2), (0, .ref o1), (1, .int x1), (2, .ref o2), (3, .ref o3)]) hx hb dX10_places_51 hl (by decide) rfl (fun ls hl => ?_)
        refine lv_aload_n hx hb dX10_places_53 rfl (lv_at hl 6 rfl) ?_
        refine lv_iload hx hb dX10_places_54 (lv_at hl 2 rfl) ?_
        refine lv_iload_n hx hb dX10_places_56 rfl (lv_at hl 5 rfl) ?_
        refine lv_irem hx hb dX10_places_57 (nz_i (by omega)) ?_
        refine lv_iload hx hb dX10_places_58 (lv_at hl 2 rfl) ?_
        refine lv_iload_n hx hb dX10_places_60 rfl (lv_at hl 5 rfl) ?_
        refine lv_icmp_ge (tgt := 69) hx hb dX10_places_61 (by decide) (fun c11 => ?_) (fun c11 => ?_)
        · have c11i : x1.toInt ≤ w12_6.toInt := le_v rfl rfl c11
          refine lv_aload_n hx hb dX10_places_69 rfl (lv_at hl 6 rfl) ?_
          refine lv_iload hx hb dX10_places_70 (lv_at hl 2 rfl) ?_
          refine lv_iload_n hx hb dX10_places_72 rfl (lv_at hl 5 rfl) ?_
          refine lv_irem hx hb dX10_places_73 (nz_i (by omega)) ?_
          have i12 := rem_rng (x := w12_6) (y := x1) (by omega) (by omega)
          obtain ⟨k13, gk13, hk13⟩ := wGt (cy := cy) X S12_ (hsh12.x.A h_o2).1 (hsh12.x.A h_o2).2.1
          refine va_iald hx hb hK hP k13 2 hk13 rfl (inb (m := 200) ((hsh12.x.n h_o2).trans n2) (by omega) (by omega)) dX10_places_74 ?_
          refine lv_iload hx hb dX10_places_75 (lv_at hl 1 rfl) ?_
          refine va_mmax hx hb (hml.trans hl.1.symm) hown (hts (.methodLink RX10 83 Lib.Math.max.name) (by decide +kernel)) (hts (.static Lib.Math.max.name) (by decide +kernel)) (hts (.initialized "java/lang/Math") (by decide +kernel)) (hts (.code Lib.Math.max.name Lib.Math.max.code 2 (some .int)) (by decide +kernel)) (Nat.le_of_ble_eq_true rfl) (Nat.le_of_ble_eq_true rfl) (Nat.zero_le _) (Nat.zero_le _) dX10_places_77 ?_
          obtain ⟨k14, gk14, hk14⟩ := wGt (cy := cy) X S12_ (hsh12.x.A h_o2).1 (hsh12.x.A h_o2).2.1
          refine va_iast hx hb hK hP hD hS k14 2 hk14 rfl (inb (m := 200) ((hsh12.x.n h_o2).trans n2) (by omega) (by omega)) dX10_places_80 (fun H locs hP2 hD2 hS => ?_)
          have e9 := wPui (cy := cy) (f := (upd (S12_.i o2) (w12_6 - w12_6 / x1 * x1).toNatClampNeg (if (S12_.i o2 (w12_6 - w12_6 / x1 * x1).toNatClampNeg) < ((((S12_.I o1 1) * w12_4) - (w12_6 * r2)) / (S12_.I o1 1)) then ((((S12_.I o1 1) * w12_4) - (w12_6 * r2)) / (S12_.I o1 1)) else (S12_.i o2 (w12_6 - w12_6 / x1 * x1).toNatClampNeg)))) hD (hsh12.x.A h_o2).1 (hsh12.x.A h_o2).2.1 gk14 rfl
          obtain ⟨S15, hS15⟩ : ∃ z, S12_.si o2 (upd (S12_.i o2) (w12_6 - w12_6 / x1 * x1).toNatClampNeg (if (S12_.i o2 (w12_6 - w12_6 / x1 * x1).toNatClampNeg) < ((((S12_.I o1 1) * w12_4) - (w12_6 * r2)) / (S12_.I o1 1)) then ((((S12_.I o1 1) * w12_4) - (w12_6 * r2)) / (S12_.I o1 1)) else (S12_.i o2 (w12_6 - w12_6 / x1 * x1).toNatClampNeg))) = z := ⟨_, rfl⟩
          have hP : va_P D vwCl (X ++ PL cy S15) H := by rw [← hS15, ← e9]; exact hP2
          have hD : va_D A (X ++ PL cy S15) := by rw [← hS15, ← e9]; exact hD2
          have xe16 : ext S12_ S15 := by rw [← hS15]; exact ext.si _ _ _
          have t17 : stp [(17, 100)] [] [] S S15 := by rw [← hS15]; exact hsh12.i (upd (S12_.i o2) (w12_6 - w12_6 / x1 * x1).toNatClampNeg (if (S12_.i o2 (w12_6 - w12_6 / x1 * x1).toNatClampNeg) < ((((S12_.I o1 1) * w12_4) - (w12_6 * r2)) / (S12_.I o1 1)) then ((((S12_.I o1 1) * w12_4) - (w12_6 * r2)) / (S12_.I o1 1)) else (S12_.i o2 (w12_6 - w12_6 / x1 * x1).toNatClampNeg))) (hsh12.x.A h_o2) (by decide)
          refine lv_aload_n hx hb dX10_places_81 rfl (lv_at hl 7 rfl) ?_
          refine lv_iload hx hb dX10_places_82 (lv_at hl 2 rfl) ?_
          refine lv_iload_n hx hb dX10_places_84 rfl (lv_at hl 5 rfl) ?_
          refine lv_irem hx hb dX10_places_85 (nz_i (by omega)) ?_
          refine lv_iload hx hb dX10_places_86 (lv_at hl 2 rfl) ?_
          refine lv_iload_n hx hb dX10_places_88 rfl (lv_at hl 5 rfl) ?_
          refine lv_icmp_ge (tgt := 97) hx hb dX10_places_89 (by decide) (fun c18 => ?_) (fun c18 => ?_)
          · have c18i : x1.toInt ≤ w12_6.toInt := le_v rfl rfl c18
            refine lv_aload_n hx hb dX10_places_97 rfl (lv_at hl 7 rfl) ?_
            refine lv_iload hx hb dX10_places_98 (lv_at hl 2 rfl) ?_
            refine lv_iload_n hx hb dX10_places_100 rfl (lv_at hl 5 rfl) ?_
            refine lv_irem hx hb dX10_places_101 (nz_i (by omega)) ?_
            obtain ⟨k19, gk19, hk19⟩ := wGt (cy := cy) X S15 ((hsh12.x.tr xe16).A h_o3).1 ((hsh12.x.tr xe16).A h_o3).2.1
            refine va_iald hx hb hK hP k19 2 hk19 rfl (inb (m := 200) (((hsh12.x.tr xe16).n h_o3).trans n3) (by omega) (by omega)) dX10_places_102 ?_
            refine lv_iload hx hb dX10_places_103 (lv_at hl 1 rfl) ?_
            refine va_mmin hx hb (hml.trans hl.1.symm) hown (hts (.methodLink RX10 113 Lib.Math.min.name) (by decide +kernel)) (hts (.static Lib.Math.min.name) (by decide +kernel)) (hts (.initialized "java/lang/Math") (by decide +kernel)) (hts (.code Lib.Math.min.name Lib.Math.min.code 2 (some .int)) (by decide +kernel)) (Nat.le_of_ble_eq_true rfl) (Nat.le_of_ble_eq_true rfl) (Nat.zero_le _) (Nat.zero_le _) dX10_places_105 ?_
            obtain ⟨k20, gk20, hk20⟩ := wGt (cy := cy) X S15 ((hsh12.x.tr xe16).A h_o3).1 ((hsh12.x.tr xe16).A h_o3).2.1
            refine va_iast hx hb hK hP hD hS k20 2 hk20 rfl (inb (m := 200) (((hsh12.x.tr xe16).n h_o3).trans n3) (by omega) (by omega)) dX10_places_108 (fun H locs hP2 hD2 hS => ?_)
            have e9 := wPui (cy := cy) (f := (upd (S15.i o3) (w12_6 - w12_6 / x1 * x1).toNatClampNeg (if ((((S12_.I o1 1) * w12_4) - (w12_6 * r2)) / (S12_.I o1 1)) < (S15.i o3 (w12_6 - w12_6 / x1 * x1).toNatClampNeg) then ((((S12_.I o1 1) * w12_4) - (w12_6 * r2)) / (S12_.I o1 1)) else (S15.i o3 (w12_6 - w12_6 / x1 * x1).toNatClampNeg)))) hD ((hsh12.x.tr xe16).A h_o3).1 ((hsh12.x.tr xe16).A h_o3).2.1 gk20 rfl
            obtain ⟨S21, hS21⟩ : ∃ z, S15.si o3 (upd (S15.i o3) (w12_6 - w12_6 / x1 * x1).toNatClampNeg (if ((((S12_.I o1 1) * w12_4) - (w12_6 * r2)) / (S12_.I o1 1)) < (S15.i o3 (w12_6 - w12_6 / x1 * x1).toNatClampNeg) then ((((S12_.I o1 1) * w12_4) - (w12_6 * r2)) / (S12_.I o1 1)) else (S15.i o3 (w12_6 - w12_6 / x1 * x1).toNatClampNeg))) = z := ⟨_, rfl⟩
            have hP : va_P D vwCl (X ++ PL cy S21) H := by rw [← hS21, ← e9]; exact hP2
            have hD : va_D A (X ++ PL cy S21) := by rw [← hS21, ← e9]; exact hD2
            have xe22 : ext S15 S21 := by rw [← hS21]; exact ext.si _ _ _
            have t23 : stp [(17, 100)] [] [] S S21 := by rw [← hS21]; exact t17.i (upd (S15.i o3) (w12_6 - w12_6 / x1 * x1).toNatClampNeg (if ((((S12_.I o1 1) * w12_4) - (w12_6 * r2)) / (S12_.I o1 1)) < (S15.i o3 (w12_6 - w12_6 / x1 * x1).toNatClampNeg) then ((((S12_.I o1 1) * w12_4) - (w12_6 * r2)) / (S12_.I o1 1)) else (S15.i o3 (w12_6 - w12_6 / x1 * x1).toNatClampNeg))) ((hsh12.x.tr xe16).A h_o3) (by decide)
            refine lv_iinc (v := w12_6 + (1 : Int32)) (lv' := [(6, .int (w12_6 + (1 : Int32))), (4, .int (w12_4 + (S12_.i (S.f o1 5) w12_6.toNatClampNeg))), (7, .int ((((S12_.I o1 1) * w12_4) - (w12_6 * r2)) / (S12_.I o1 1))), (5, .int r2), (0, .ref o1), (1, .int x1), (2, .ref o2), (3, .ref o3)]) hx hb dX10_places_109 hl (k := 2) rfl (by rfl) (by decide) rfl (fun ls hl => ?_)
            refine lv_goto (tgt := 12) hx hb dX10_places_112 (by decide) ?_
            have l32_1 : (1 : Int32).toInt = 1 := rfl
            have i24 : (w12_6 + (1 : Int32)).toInt = w12_6.toInt + 1 := t_addr (n := 1) rfl (by omega)
            exact ih12 S21 (w12_4 + (S12_.i (S.f o1 5) w12_6.toNatClampNeg)) (w12_6 + (1 : Int32)) _ _ _ (Nat.lt_of_lt_of_le (by omega) (Nat.le_of_lt_succ hm12)) (by omega) t23 hP hD hS (lv_sub hl [0, 3, 1, 4, 5, 6, 7] rfl) ko12
          · have c18i : w12_6.toInt < x1.toInt := nle_v rfl rfl c18
            refine lv_iload hx hb dX10_places_92 (lv_at hl 1 rfl) ?_
            refine lv_goto (tgt := 108) hx hb dX10_places_94 (by decide) ?_
            obtain ⟨k25, gk25, hk25⟩ := wGt (cy := cy) X S15 ((hsh12.x.tr xe16).A h_o3).1 ((hsh12.x.tr xe16).A h_o3).2.1
            refine va_iast hx hb hK hP hD hS k25 2 hk25 rfl (inb (m := 200) (((hsh12.x.tr xe16).n h_o3).trans n3) (by omega) (by omega)) dX10_places_108 (fun H locs hP2 hD2 hS => ?_)
            have e9 := wPui (cy := cy) (f := (upd (S15.i o3) (w12_6 - w12_6 / x1 * x1).toNatClampNeg ((((S12_.I o1 1) * w12_4) - (w12_6 * r2)) / (S12_.I o1 1)))) hD ((hsh12.x.tr xe16).A h_o3).1 ((hsh12.x.tr xe16).A h_o3).2.1 gk25 rfl
            obtain ⟨S26, hS26⟩ : ∃ z, S15.si o3 (upd (S15.i o3) (w12_6 - w12_6 / x1 * x1).toNatClampNeg ((((S12_.I o1 1) * w12_4) - (w12_6 * r2)) / (S12_.I o1 1))) = z := ⟨_, rfl⟩
            have hP : va_P D vwCl (X ++ PL cy S26) H := by rw [← hS26, ← e9]; exact hP2
            have hD : va_D A (X ++ PL cy S26) := by rw [← hS26, ← e9]; exact hD2
            have xe27 : ext S15 S26 := by rw [← hS26]; exact ext.si _ _ _
            have t28 : stp [(17, 100)] [] [] S S26 := by rw [← hS26]; exact t17.i (upd (S15.i o3) (w12_6 - w12_6 / x1 * x1).toNatClampNeg ((((S12_.I o1 1) * w12_4) - (w12_6 * r2)) / (S12_.I o1 1))) ((hsh12.x.tr xe16).A h_o3) (by decide)
            refine lv_iinc (v := w12_6 + (1 : Int32)) (lv' := [(6, .int (w12_6 + (1 : Int32))), (4, .int (w12_4 + (S12_.i (S.f o1 5) w12_6.toNatClampNeg))), (7, .int ((((S12_.I o1 1) * w12_4) - (w12_6 * r2)) / (S12_.I o1 1))), (5, .int r2), (0, .ref o1), (1, .int x1), (2, .ref o2), (3, .ref o3)]) hx hb dX10_places_109 hl (k := 2) rfl (by rfl) (by decide) rfl (fun ls hl => ?_)
            refine lv_goto (tgt := 12) hx hb dX10_places_112 (by decide) ?_
            have l32_1 : (1 : Int32).toInt = 1 := rfl
            have i29 : (w12_6 + (1 : Int32)).toInt = w12_6.toInt + 1 := t_addr (n := 1) rfl (by omega)
            exact ih12 S26 (w12_4 + (S12_.i (S.f o1 5) w12_6.toNatClampNeg)) (w12_6 + (1 : Int32)) _ _ _ (Nat.lt_of_lt_of_le (by omega) (Nat.le_of_lt_succ hm12)) (by omega) t28 hP hD hS (lv_sub hl [0, 3, 1, 4, 5, 6, 7] rfl) ko12
        · have c11i : w12_6.toInt < x1.toInt := nle_v rfl rfl c11
          refine lv_iload hx hb dX10_places_64 (lv_at hl 1 rfl) ?_
          refine lv_goto (tgt := 80) hx hb dX10_places_66 (by decide) ?_
          have i30 := rem_rng (x := w12_6) (y := x1) (by omega) (by omega)
          obtain ⟨k31, gk31, hk31⟩ := wGt (cy := cy) X S12_ (hsh12.x.A h_o2).1 (hsh12.x.A h_o2).2.1
          refine va_iast hx hb hK hP hD hS k31 2 hk31 rfl (inb (m := 200) ((hsh12.x.n h_o2).trans n2) (by omega) (by omega)) dX10_places_80 (fun H locs hP2 hD2 hS => ?_)
          have e9 := wPui (cy := cy) (f := (upd (S12_.i o2) (w12_6 - w12_6 / x1 * x1).toNatClampNeg ((((S12_.I o1 1) * w12_4) - (w12_6 * r2)) / (S12_.I o1 1)))) hD (hsh12.x.A h_o2).1 (hsh12.x.A h_o2).2.1 gk31 rfl
          obtain ⟨S32, hS32⟩ : ∃ z, S12_.si o2 (upd (S12_.i o2) (w12_6 - w12_6 / x1 * x1).toNatClampNeg ((((S12_.I o1 1) * w12_4) - (w12_6 * r2)) / (S12_.I o1 1))) = z := ⟨_, rfl⟩
          have hP : va_P D vwCl (X ++ PL cy S32) H := by rw [← hS32, ← e9]; exact hP2
          have hD : va_D A (X ++ PL cy S32) := by rw [← hS32, ← e9]; exact hD2
          have xe33 : ext S12_ S32 := by rw [← hS32]; exact ext.si _ _ _
          have t34 : stp [(17, 100)] [] [] S S32 := by rw [← hS32]; exact hsh12.i (upd (S12_.i o2) (w12_6 - w12_6 / x1 * x1).toNatClampNeg ((((S12_.I o1 1) * w12_4) - (w12_6 * r2)) / (S12_.I o1 1))) (hsh12.x.A h_o2) (by decide)
          refine lv_aload_n hx hb dX10_places_81 rfl (lv_at hl 7 rfl) ?_
          refine lv_iload hx hb dX10_places_82 (lv_at hl 2 rfl) ?_
          refine lv_iload_n hx hb dX10_places_84 rfl (lv_at hl 5 rfl) ?_
          refine lv_irem hx hb dX10_places_85 (nz_i (by omega)) ?_
          refine lv_iload hx hb dX10_places_86 (lv_at hl 2 rfl) ?_
          refine lv_iload_n hx hb dX10_places_88 rfl (lv_at hl 5 rfl) ?_
          refine lv_icmp_ge (tgt := 97) hx hb dX10_places_89 (by decide) (fun c35 => ?_) (fun c35 => ?_)
          · have c35i : x1.toInt ≤ w12_6.toInt := le_v rfl rfl c35
            refine lv_aload_n hx hb dX10_places_97 rfl (lv_at hl 7 rfl) ?_
            refine lv_iload hx hb dX10_places_98 (lv_at hl 2 rfl) ?_
            refine lv_iload_n hx hb dX10_places_100 rfl (lv_at hl 5 rfl) ?_
            refine lv_irem hx hb dX10_places_101 (nz_i (by omega)) ?_
            obtain ⟨k36, gk36, hk36⟩ := wGt (cy := cy) X S32 ((hsh12.x.tr xe33).A h_o3).1 ((hsh12.x.tr xe33).A h_o3).2.1
            refine va_iald hx hb hK hP k36 2 hk36 rfl (inb (m := 200) (((hsh12.x.tr xe33).n h_o3).trans n3) (by omega) (by omega)) dX10_places_102 ?_
            refine lv_iload hx hb dX10_places_103 (lv_at hl 1 rfl) ?_
            refine va_mmin hx hb (hml.trans hl.1.symm) hown (hts (.methodLink RX10 113 Lib.Math.min.name) (by decide +kernel)) (hts (.static Lib.Math.min.name) (by decide +kernel)) (hts (.initialized "java/lang/Math") (by decide +kernel)) (hts (.code Lib.Math.min.name Lib.Math.min.code 2 (some .int)) (by decide +kernel)) (Nat.le_of_ble_eq_true rfl) (Nat.le_of_ble_eq_true rfl) (Nat.zero_le _) (Nat.zero_le _) dX10_places_105 ?_
            obtain ⟨k37, gk37, hk37⟩ := wGt (cy := cy) X S32 ((hsh12.x.tr xe33).A h_o3).1 ((hsh12.x.tr xe33).A h_o3).2.1
            refine va_iast hx hb hK hP hD hS k37 2 hk37 rfl (inb (m := 200) (((hsh12.x.tr xe33).n h_o3).trans n3) (by omega) (by omega)) dX10_places_108 (fun H locs hP2 hD2 hS => ?_)
            have e9 := wPui (cy := cy) (f := (upd (S32.i o3) (w12_6 - w12_6 / x1 * x1).toNatClampNeg (if ((((S12_.I o1 1) * w12_4) - (w12_6 * r2)) / (S12_.I o1 1)) < (S32.i o3 (w12_6 - w12_6 / x1 * x1).toNatClampNeg) then ((((S12_.I o1 1) * w12_4) - (w12_6 * r2)) / (S12_.I o1 1)) else (S32.i o3 (w12_6 - w12_6 / x1 * x1).toNatClampNeg)))) hD ((hsh12.x.tr xe33).A h_o3).1 ((hsh12.x.tr xe33).A h_o3).2.1 gk37 rfl
            obtain ⟨S38, hS38⟩ : ∃ z, S32.si o3 (upd (S32.i o3) (w12_6 - w12_6 / x1 * x1).toNatClampNeg (if ((((S12_.I o1 1) * w12_4) - (w12_6 * r2)) / (S12_.I o1 1)) < (S32.i o3 (w12_6 - w12_6 / x1 * x1).toNatClampNeg) then ((((S12_.I o1 1) * w12_4) - (w12_6 * r2)) / (S12_.I o1 1)) else (S32.i o3 (w12_6 - w12_6 / x1 * x1).toNatClampNeg))) = z := ⟨_, rfl⟩
            have hP : va_P D vwCl (X ++ PL cy S38) H := by rw [← hS38, ← e9]; exact hP2
            have hD : va_D A (X ++ PL cy S38) := by rw [← hS38, ← e9]; exact hD2
            have xe39 : ext S32 S38 := by rw [← hS38]; exact ext.si _ _ _
            have t40 : stp [(17, 100)] [] [] S S38 := by rw [← hS38]; exact t34.i (upd (S32.i o3) (w12_6 - w12_6 / x1 * x1).toNatClampNeg (if ((((S12_.I o1 1) * w12_4) - (w12_6 * r2)) / (S12_.I o1 1)) < (S32.i o3 (w12_6 - w12_6 / x1 * x1).toNatClampNeg) then ((((S12_.I o1 1) * w12_4) - (w12_6 * r2)) / (S12_.I o1 1)) else (S32.i o3 (w12_6 - w12_6 / x1 * x1).toNatClampNeg))) ((hsh12.x.tr xe33).A h_o3) (by decide)
            refine lv_iinc (v := w12_6 + (1 : Int32)) (lv' := [(6, .int (w12_6 + (1 : Int32))), (4, .int (w12_4 + (S12_.i (S.f o1 5) w12_6.toNatClampNeg))), (7, .int ((((S12_.I o1 1) * w12_4) - (w12_6 * r2)) / (S12_.I o1 1))), (5, .int r2), (0, .ref o1), (1, .int x1), (2, .ref o2), (3, .ref o3)]) hx hb dX10_places_109 hl (k := 2) rfl (by rfl) (by decide) rfl (fun ls hl => ?_)
            refine lv_goto (tgt := 12) hx hb dX10_places_112 (by decide) ?_
            have l32_1 : (1 : Int32).toInt = 1 := rfl
            have i41 : (w12_6 + (1 : Int32)).toInt = w12_6.toInt + 1 := t_addr (n := 1) rfl (by omega)
            exact ih12 S38 (w12_4 + (S12_.i (S.f o1 5) w12_6.toNatClampNeg)) (w12_6 + (1 : Int32)) _ _ _ (Nat.lt_of_lt_of_le (by omega) (Nat.le_of_lt_succ hm12)) (by omega) t40 hP hD hS (lv_sub hl [0, 3, 1, 4, 5, 6, 7] rfl) ko12
          · have c35i : w12_6.toInt < x1.toInt := nle_v rfl rfl c35
            refine lv_iload hx hb dX10_places_92 (lv_at hl 1 rfl) ?_
            refine lv_goto (tgt := 108) hx hb dX10_places_94 (by decide) ?_
            obtain ⟨k42, gk42, hk42⟩ := wGt (cy := cy) X S32 ((hsh12.x.tr xe33).A h_o3).1 ((hsh12.x.tr xe33).A h_o3).2.1
            refine va_iast hx hb hK hP hD hS k42 2 hk42 rfl (inb (m := 200) (((hsh12.x.tr xe33).n h_o3).trans n3) (by omega) (by omega)) dX10_places_108 (fun H locs hP2 hD2 hS => ?_)
            have e9 := wPui (cy := cy) (f := (upd (S32.i o3) (w12_6 - w12_6 / x1 * x1).toNatClampNeg ((((S12_.I o1 1) * w12_4) - (w12_6 * r2)) / (S12_.I o1 1)))) hD ((hsh12.x.tr xe33).A h_o3).1 ((hsh12.x.tr xe33).A h_o3).2.1 gk42 rfl
            obtain ⟨S43, hS43⟩ : ∃ z, S32.si o3 (upd (S32.i o3) (w12_6 - w12_6 / x1 * x1).toNatClampNeg ((((S12_.I o1 1) * w12_4) - (w12_6 * r2)) / (S12_.I o1 1))) = z := ⟨_, rfl⟩
            have hP : va_P D vwCl (X ++ PL cy S43) H := by rw [← hS43, ← e9]; exact hP2
            have hD : va_D A (X ++ PL cy S43) := by rw [← hS43, ← e9]; exact hD2
            have xe44 : ext S32 S43 := by rw [← hS43]; exact ext.si _ _ _
            have t45 : stp [(17, 100)] [] [] S S43 := by rw [← hS43]; exact t34.i (upd (S32.i o3) (w12_6 - w12_6 / x1 * x1).toNatClampNeg ((((S12_.I o1 1) * w12_4) - (w12_6 * r2)) / (S12_.I o1 1))) ((hsh12.x.tr xe33).A h_o3) (by decide)
            refine lv_iinc (v := w12_6 + (1 : Int32)) (lv' := [(6, .int (w12_6 + (1 : Int32))), (4, .int (w12_4 + (S12_.i (S.f o1 5) w12_6.toNatClampNeg))), (7, .int ((((S12_.I o1 1) * w12_4) - (w12_6 * r2)) / (S12_.I o1 1))), (5, .int r2), (0, .ref o1), (1, .int x1), (2, .ref o2), (3, .ref o3)]) hx hb dX10_places_109 hl (k := 2) rfl (by rfl) (by decide) rfl (fun ls hl => ?_)
            refine lv_goto (tgt := 12) hx hb dX10_places_112 (by decide) ?_
            have l32_1 : (1 : Int32).toInt = 1 := rfl
            have i46 : (w12_6 + (1 : Int32)).toInt = w12_6.toInt + 1 := t_addr (n := 1) rfl (by omega)
            exact ih12 S43 (w12_4 + (S12_.i (S.f o1 5) w12_6.toNatClampNeg)) (w12_6 + (1 : Int32)) _ _ _ (Nat.lt_of_lt_of_le (by omega) (Nat.le_of_lt_succ hm12)) (by omega) t45 hP hD hS (lv_sub hl [0, 3, 1, 4, 5, 6, 7] rfl) ko12
  refine loop12 201 S (0 : Int32) (0 : Int32) _ _ _ (by omega) (by omega) (stp.rf hW) hP hD hS (lv_sub hl [0, 1, 2, 3, 4, 5, 6] rfl) (fun S48 z49 z50 H locs ls hi12 hsh12 hP hD hS hl => ?_)
  have t51 : stp [(17, 100)] [] [] S S48 := t0.tr hsh12 (fun _ q => q) (fun _ q => Or.inl q)
  have et51 := hsh12.x
  refine W.widen (k := 0) (n := 0) (Nat.le_of_ble_eq_true rfl) (Nat.le_of_ble_eq_true rfl) ?_
  exact W.vret hx hb hr (fun t ht hW9 => ⟨⟨S48, rfl, t51, wd_end hP hK hD ht hW9.alike⟩, hS.F ht⟩) hS.2.2 dX10_places_115 hlocks
theorem hi_X11_approach_X11 : ∀ w ∈ u_ws RX11 TX11 7, w ∈ wsX11_approach := by decide +kernel
theorem hd_X11_approach : yX11_approach.cls = RX11 ∧ yX11_approach.cls ≠ "java/lang/invoke/MethodHandle" ∧ yX11_approach.cls ≠ "java/lang/invoke/VarHandle" ∧ (parseMethodDescriptor yX11_approach.desc).map (fun d => d.parameters.length) = some 0 := by decide +kernel
set_option maxHeartbeats 4000000 in
set_option maxRecDepth 100000 in
theorem c_X11_approach (l : Launch) {D : va_G} {cy : Nat → ClassId} {X : va_W} (S : wPS) (sz : Nat) (o1 : Nat) (h_o1 : isA S o1 11)  : Met l yX11_approach wsX11_approach ({ frames := 1, cells := 0, slots := 0, locals := 27 }) (va_Pc [.ref o1] (fun U => U.heap.size = sz ∧ WD D cy X (fun _ => True) S U ∧ NW U)) (va_Qi (fun r (_ : Unit) => True) (fun _ t => WD D cy X (va_A (X ++ PL cy S) sz) S t) (va_A (X ++ PL cy S) sz)) 0 0 (va_A (X ++ PL cy S) sz) := by
  refine Met.ofW (cc := cX11_approach) (maxL := 3) (ret := (some .int)) (by decide) rfl ?_
  intro p e s m args below meth c s₁ B hml hv
  obtain ⟨rfl, hsz, ⟨hP, hK, hD0⟩, hN⟩ := hv
  have hx := B.exec
  have hb := B.bytes
  have hr := B.returns
  have hts := atoms_spec (ws := wsX11_approach) B.pre
  have hown : s.vm.findClass RX11 = some m.cls := findClass_of_methodNamed (x := yX11_approach) B.named
  have hlocks := B.notSynchronized
  subst hsz
  have hD := hD0.self (sz := s.heap.size)
  generalize hAe : va_A (X ++ PL cy S) s.heap.size = A at hD ⊢
  have hA : ∀ q : Nat, s.heap.size ≤ q → A q := fun q h => by rw [← hAe]; exact Or.inr h
  have hS : va_S A s.heap s.heap [] := va_S.rf
  have hl := lv_entry ([.ref o1]) (n := 3) (Nat.le_of_ble_eq_true rfl)
  rw [lg_entry_eq]
  generalize (lg_sl ([.ref o1]) ++ List.replicate (3 - (lg_sl ([.ref o1])).length) Slot.unset).toArray = ls at hl ⊢
  have hl : lv_has ls 3 [(0, .ref o1)] := hl
  refine lv_ldc2 (own := RX11) (v := 9) hx hb hown (hts (.constantLong RX11 28 (9)) (by decide +kernel)) dX11_approach_0 ?_
  refine lv_aload_n hx hb dX11_approach_3 rfl (lv_at hl 0 rfl) ?_
  obtain ⟨k1, gk1, hk1⟩ := wGt (cy := cy) X S h_o1.1 h_o1.2.1
  refine va_get (D := D) (ci := 15) (v := .int (S.I o1 0)) (C := RX11) (T := TX11) (N := 7) hx hb hts hi_X11_approach_X11 hown hK hP k1 hk1 rfl 0 (by decide) (hts (.fieldLink RX11 15 "HobhouseModel$Hob" "module" "I") (by decide +kernel)) (fun _ h9 => h9) rfl dX11_approach_4 ?_
  refine lv_i2l hx hb dX11_approach_7 rfl ?_
  refine lv_lmul hx hb dX11_approach_8 ?_
  refine lv_ldc2 (own := RX11) (v := 4) hx hb hown (hts (.constantLong RX11 30 (4)) (by decide +kernel)) dX11_approach_9 ?_
  refine lv_ldiv hx hb dX11_approach_12 (by decide) ?_
  refine lv_lstore_n (lv' := [(1, .long (((9 : Int64) * ((S.I o1 0).toInt64)) / (4 : Int64))), (0, .ref o1)]) hx hb dX11_approach_13 rfl hl (by decide) rfl (fun ls hl => ?_)
  refine lv_lload_n hx hb dX11_approach_14 rfl (lv_at hl 0 rfl) ?_
  refine lv_aload_n hx hb dX11_approach_15 rfl (lv_at hl 1 rfl) ?_
  obtain ⟨k2, gk2, hk2⟩ := wGt (cy := cy) X S h_o1.1 h_o1.2.1
  refine va_get (D := D) (ci := 15) (v := .int (S.I o1 4)) (C := RX11) (T := TX11) (N := 7) hx hb hts hi_X11_approach_X11 hown hK hP k2 hk2 rfl 4 (by decide) (hts (.fieldLink RX11 22 "HobhouseModel$Hob" "diameter" "I") (by decide +kernel)) (fun _ h9 => h9) rfl dX11_approach_16 ?_
  refine lv_i2l hx hb dX11_approach_19 rfl ?_
  refine lv_lload_n hx hb dX11_approach_20 rfl (lv_at hl 0 rfl) ?_
  refine lv_lsub hx hb dX11_approach_21 ?_
  refine lv_lmul hx hb dX11_approach_22 ?_
  have hFc := free_all hD hS hA
  refine va_calll (va_runSN (As := [.long ((((9 : Int64) * ((S.I o1 0).toInt64)) / (4 : Int64)) * (((S.I o1 4).toInt64) - (((9 : Int64) * ((S.I o1 0).toInt64)) / (4 : Int64))))]) (rest := []) ⟨hx, hb, hml, hown, hts⟩ (c_X12_root l (cy := cy) (X := X) (D := D) S _ ((((9 : Int64) * ((S.I o1 0).toInt64)) / (4 : Int64)) * (((S.I o1 4).toInt64) - (((9 : Int64) * ((S.I o1 0).toInt64)) / (4 : Int64))))) ⟨va_cnB 1 hts gX11_approach_X12_root_n32 rfl rfl rfl (hN (.methodLinkNest RX11 32 yX12_root RX12) (by decide +kernel)) (hts (.initialized RX12) (by decide +kernel)) (by decide +kernel) ⟨Nat.le_of_ble_eq_true rfl, Nat.le_of_ble_eq_true rfl⟩, hts (.static yX12_root) (by decide +kernel), trivial⟩ (pS hP hK hD hN) rfl rfl hl.1 rfl (lv_room (Nat.le_of_ble_eq_true rfl)) dX11_approach_23 ⟨(Nat.zero_le _), (Nat.zero_le _)⟩) hS (fun q _ h => hFc q h) hFc (fun r3 u t H1 locs ht hvm hw hB hz1 hk1 hS => ?_)
  obtain ⟨c4, y5⟩ := hw
  obtain ⟨hP, hD⟩ := wd_post hFc ht hB
  generalize H1 = H at hP hS ⊢
  obtain rfl : f_X12_root ((((9 : Int64) * ((S.I o1 0).toInt64)) / (4 : Int64)) * (((S.I o1 4).toInt64) - (((9 : Int64) * ((S.I o1 0).toInt64)) / (4 : Int64)))) = r3 := c4.symm
  refine lv_l2i hx hb dX11_approach_26 rfl ?_
  refine W.widen (k := 0) (n := 0) (Nat.le_of_ble_eq_true rfl) (Nat.le_of_ble_eq_true rfl) ?_
  exact W.iret (v := (f_X12_root ((((9 : Int64) * ((S.I o1 0).toInt64)) / (4 : Int64)) * (((S.I o1 4).toInt64) - (((9 : Int64) * ((S.I o1 0).toInt64)) / (4 : Int64))))).toInt32) hx hb hr (fun t ht hW9 => ⟨⟨(f_X12_root ((((9 : Int64) * ((S.I o1 0).toInt64)) / (4 : Int64)) * (((S.I o1 4).toInt64) - (((9 : Int64) * ((S.I o1 0).toInt64)) / (4 : Int64))))).toInt32, (), rfl, trivial, wd_end hP hK hD ht hW9.alike⟩, hS.F ht⟩) hS.2.2 dX11_approach_27 hlocks
theorem hi_X11_canCut_X10 : ∀ w ∈ u_ws RX10 TX10 23, w ∈ wsX11_canCut := by decide +kernel
theorem hi_X11_canCut_X11 : ∀ w ∈ u_ws RX11 TX11 7, w ∈ wsX11_canCut := by decide +kernel
theorem hd_X11_canCut : yX11_canCut.cls = RX11 ∧ yX11_canCut.cls ≠ "java/lang/invoke/MethodHandle" ∧ yX11_canCut.cls ≠ "java/lang/invoke/VarHandle" ∧ (parseMethodDescriptor yX11_canCut.desc).map (fun d => d.parameters.length) = some 1 := by decide +kernel
set_option maxHeartbeats 4000000 in
set_option maxRecDepth 100000 in
theorem c_X11_canCut (l : Launch) {D : va_G} {cy : Nat → ClassId} {X : va_W} (S : wPS) (sz : Nat) (o1 : Nat) (h_o1 : isA S o1 11) (o2 : Nat) (h_o2 : isA S o2 10) (hW : wtB S [])  : Met l yX11_canCut wsX11_canCut ({ frames := 2, cells := 0, slots := 0, locals := 49 }) (va_Pc [.ref o1, .ref o2] (fun U => U.heap.size = sz ∧ WD D cy X (fun _ => True) S U ∧ NW U)) (va_Qi (fun r (_ : Unit) => narrow .boolean (.int r) = .int r) (fun _ t => WD D cy X (va_A (X ++ PL cy S) sz) S t) (va_A (X ++ PL cy S) sz)) 0 0 (va_A (X ++ PL cy S) sz) := by
  refine Met.ofW (cc := cX11_canCut) (maxL := 2) (ret := (some .boolean)) (by decide) rfl ?_
  intro p e s m args below meth c s₁ B hml hv
  obtain ⟨rfl, hsz, ⟨hP, hK, hD0⟩, hN⟩ := hv
  have hx := B.exec
  have hb := B.bytes
  have hr := B.returns
  have hts := atoms_spec (ws := wsX11_canCut) B.pre
  have hown : s.vm.findClass RX11 = some m.cls := findClass_of_methodNamed (x := yX11_canCut) B.named
  have hlocks := B.notSynchronized
  subst hsz
  have hD := hD0.self (sz := s.heap.size)
  generalize hAe : va_A (X ++ PL cy S) s.heap.size = A at hD ⊢
  have hA : ∀ q : Nat, s.heap.size ≤ q → A q := fun q h => by rw [← hAe]; exact Or.inr h
  have hS : va_S A s.heap s.heap [] := va_S.rf
  have hl := lv_entry ([.ref o1, .ref o2]) (n := 2) (Nat.le_of_ble_eq_true rfl)
  rw [lg_entry_eq]
  generalize (lg_sl ([.ref o1, .ref o2]) ++ List.replicate (2 - (lg_sl ([.ref o1, .ref o2])).length) Slot.unset).toArray = ls at hl ⊢
  have hl : lv_has ls 2 [(0, .ref o1), (1, .ref o2)] := hl
  refine lv_aload_n hx hb dX11_canCut_0 rfl (lv_at hl 0 rfl) ?_
  obtain ⟨k1, gk1, hk1⟩ := wGt (cy := cy) X S h_o1.1 h_o1.2.1
  refine va_get (D := D) (ci := 15) (v := .int (S.I o1 0)) (C := RX11) (T := TX11) (N := 7) hx hb hts hi_X11_canCut_X11 hown hK hP k1 hk1 rfl 0 (by decide) (hts (.fieldLink RX11 15 "HobhouseModel$Hob" "module" "I") (by decide +kernel)) (fun _ h9 => h9) rfl dX11_canCut_1 ?_
  refine lv_aload_n hx hb dX11_canCut_4 rfl (lv_at hl 1 rfl) ?_
  obtain ⟨k2, gk2, hk2⟩ := wGt (cy := cy) X S h_o2.1 h_o2.2.1
  have i3 := ((hW.at h_o2 List.not_mem_nil).to_10 h_o2.2.1).R2
  refine va_getN (D := D) (ci := 14) (v := .int (S.I o2 2)) (C := RX10) (T := TX10) (N := 23) hx hb hts hi_X11_canCut_X10 hown hK hP k2 hk2 rfl 2 (by decide) (va_Nw.use rfl (hN (.fieldLinkNest RX11 36 "HobhouseModel$Gear" "module" "I" "HobhouseModel") (by decide +kernel))) (fun _ h9 => h9) rfl dX11_canCut_5 ?_
  refine lv_icmp_ne (tgt := 75) hx hb dX11_canCut_8 (by decide) (fun c4 => ?_) (fun c4 => ?_)
  · have c4i : ¬ (S.I o1 0).toInt = (S.I o2 2).toInt := neq_v rfl rfl c4
    refine lv_iconst (v := 0) hx hb dX11_canCut_75 (by decide) ?_
    refine W.widen (k := 0) (n := 0) (Nat.le_of_ble_eq_true rfl) (Nat.le_of_ble_eq_true rfl) ?_
    exact W.zret (v := (0 : Int32)) hx hb hr (by rfl) (fun t ht hW9 => ⟨⟨(0 : Int32), (), rfl, (by rfl), wd_end hP hK hD ht hW9.alike⟩, hS.F ht⟩) hS.2.2 dX11_canCut_76 hlocks
  · have c4i : (S.I o1 0).toInt = (S.I o2 2).toInt := eq_v rfl rfl c4
    refine lv_aload_n hx hb dX11_canCut_11 rfl (lv_at hl 1 rfl) ?_
    obtain ⟨k5, gk5, hk5⟩ := wGt (cy := cy) X S h_o2.1 h_o2.2.1
    have i6 := ((hW.at h_o2 List.not_mem_nil).to_10 h_o2.2.1).R1
    refine va_getN (D := D) (ci := 14) (v := .int (S.I o2 1)) (C := RX10) (T := TX10) (N := 23) hx hb hts hi_X11_canCut_X10 hown hK hP k5 hk5 rfl 1 (by decide) (va_Nw.use rfl (hN (.fieldLinkNest RX11 39 "HobhouseModel$Gear" "teeth" "I" "HobhouseModel") (by decide +kernel))) (fun _ h9 => h9) rfl dX11_canCut_12 ?_
    refine lv_aload_n hx hb dX11_canCut_15 rfl (lv_at hl 0 rfl) ?_
    obtain ⟨k7, gk7, hk7⟩ := wGt (cy := cy) X S h_o1.1 h_o1.2.1
    have i8 := ((hW.at h_o1 List.not_mem_nil).to_11 h_o1.2.1).R1
    refine va_get (D := D) (ci := 15) (v := .int (S.I o1 1)) (C := RX11) (T := TX11) (N := 7) hx hb hts hi_X11_canCut_X11 hown hK hP k7 hk7 rfl 1 (by decide) (hts (.fieldLink RX11 19 "HobhouseModel$Hob" "starts" "I") (by decide +kernel)) (fun _ h9 => h9) rfl dX11_canCut_16 ?_
    refine lv_icmp_lt (tgt := 75) hx hb dX11_canCut_19 (by decide) (fun c9 => ?_) (fun c9 => ?_)
    · have c9i : (S.I o2 1).toInt < (S.I o1 1).toInt := lt_v rfl rfl c9
      refine lv_iconst (v := 0) hx hb dX11_canCut_75 (by decide) ?_
      refine W.widen (k := 0) (n := 0) (Nat.le_of_ble_eq_true rfl) (Nat.le_of_ble_eq_true rfl) ?_
      exact W.zret (v := (0 : Int32)) hx hb hr (by rfl) (fun t ht hW9 => ⟨⟨(0 : Int32), (), rfl, (by rfl), wd_end hP hK hD ht hW9.alike⟩, hS.F ht⟩) hS.2.2 dX11_canCut_76 hlocks
    · have c9i : (S.I o1 1).toInt ≤ (S.I o2 1).toInt := nlt_v rfl rfl c9
      refine lv_aload_n hx hb dX11_canCut_22 rfl (lv_at hl 1 rfl) ?_
      obtain ⟨k10, gk10, hk10⟩ := wGt (cy := cy) X S h_o2.1 h_o2.2.1
      refine va_getN (D := D) (ci := 14) (v := .int (S.I o2 8)) (C := RX10) (T := TX10) (N := 23) hx hb hts hi_X11_canCut_X10 hown hK hP k10 hk10 rfl 8 (by decide) (va_Nw.use rfl (hN (.fieldLinkNest RX11 42 "HobhouseModel$Gear" "room" "I" "HobhouseModel") (by decide +kernel))) (fun _ h9 => h9) rfl dX11_canCut_23 ?_
      refine lv_iconst (v := -1) hx hb dX11_canCut_26 (by decide) ?_
      refine lv_icmp_eq (tgt := 41) hx hb dX11_canCut_27 (by decide) (fun c11 => ?_) (fun c11 => ?_)
      · have c11i : (S.I o2 8).toInt = -1 := eq_v rfl rfl c11
        refine lv_aload_n hx hb dX11_canCut_41 rfl (lv_at hl 0 rfl) ?_
        have F12 := ((hW.at h_o1 List.not_mem_nil).to_11 h_o1.2.1).F2
        obtain ⟨k13, gk13, hk13⟩ := wGt (cy := cy) X S h_o1.1 h_o1.2.1
        simp only [kE, F12.1] at hk13
        refine va_get (D := D) (ci := 15) (v := .ref (S.f o1 2)) (C := RX11) (T := TX11) (N := 7) hx hb hts hi_X11_canCut_X11 hown hK hP k13 hk13 rfl 2 (by decide) (hts (.fieldLink RX11 9 "HobhouseModel$Hob" "wear" "[I") (by decide +kernel)) (fun _ h9 => h9) rfl dX11_canCut_42 ?_
        refine lv_aload_n hx hb dX11_canCut_45 rfl (lv_at hl 0 rfl) ?_
        obtain ⟨k14, gk14, hk14⟩ := wGt (cy := cy) X S h_o1.1 h_o1.2.1
        have i15 := ((hW.at h_o1 List.not_mem_nil).to_11 h_o1.2.1).R5
        refine va_get (D := D) (ci := 15) (v := .int (S.I o1 5)) (C := RX11) (T := TX11) (N := 7) hx hb hts hi_X11_canCut_X11 hown hK hP k14 hk14 rfl 5 (by decide) (hts (.fieldLink RX11 49 "HobhouseModel$Hob" "next" "I") (by decide +kernel)) (fun _ h9 => h9) rfl dX11_canCut_46 ?_
        obtain ⟨k16, gk16, hk16⟩ := wGt (cy := cy) X S F12.2.1.1 F12.2.1.2.1
        refine va_iald hx hb hK hP k16 2 hk16 rfl (inb (m := 20) F12.2.2 (by omega) (by omega)) dX11_canCut_49 ?_
        refine lv_sipush (v := 200) hx hb dX11_canCut_50 (by decide +kernel) ?_
        refine lv_icmp_ge (tgt := 75) hx hb dX11_canCut_53 (by decide) (fun c17 => ?_) (fun c17 => ?_)
        · have c17i : 200 ≤ (S.i (S.f o1 2) (S.I o1 5).toNatClampNeg).toInt := le_v rfl rfl c17
          refine lv_iconst (v := 0) hx hb dX11_canCut_75 (by decide) ?_
          refine W.widen (k := 0) (n := 0) (Nat.le_of_ble_eq_true rfl) (Nat.le_of_ble_eq_true rfl) ?_
          exact W.zret (v := (0 : Int32)) hx hb hr (by rfl) (fun t ht hW9 => ⟨⟨(0 : Int32), (), rfl, (by rfl), wd_end hP hK hD ht hW9.alike⟩, hS.F ht⟩) hS.2.2 dX11_canCut_76 hlocks
        · have c17i : (S.i (S.f o1 2) (S.I o1 5).toNatClampNeg).toInt < 200 := nle_v rfl rfl c17
          refine lv_aload_n hx hb dX11_canCut_56 rfl (lv_at hl 0 rfl) ?_
          obtain ⟨k18, gk18, hk18⟩ := wGt (cy := cy) X S h_o1.1 h_o1.2.1
          refine va_get (D := D) (ci := 15) (v := .int (S.I o1 1)) (C := RX11) (T := TX11) (N := 7) hx hb hts hi_X11_canCut_X11 hown hK hP k18 hk18 rfl 1 (by decide) (hts (.fieldLink RX11 19 "HobhouseModel$Hob" "starts" "I") (by decide +kernel)) (fun _ h9 => h9) rfl dX11_canCut_57 ?_
          refine lv_iconst (v := 1) hx hb dX11_canCut_60 (by decide) ?_
          refine lv_icmp_eq (tgt := 71) hx hb dX11_canCut_61 (by decide) (fun c19 => ?_) (fun c19 => ?_)
          · have c19i : (S.I o1 1).toInt = 1 := eq_v rfl rfl c19
            refine lv_iconst (v := 1) hx hb dX11_canCut_71 (by decide) ?_
            refine lv_goto (tgt := 76) hx hb dX11_canCut_72 (by decide) ?_
            refine W.widen (k := 0) (n := 0) (Nat.le_of_ble_eq_true rfl) (Nat.le_of_ble_eq_true rfl) ?_
            exact W.zret (v := (1 : Int32)) hx hb hr (by rfl) (fun t ht hW9 => ⟨⟨(1 : Int32), (), rfl, (by rfl), wd_end hP hK hD ht hW9.alike⟩, hS.F ht⟩) hS.2.2 dX11_canCut_76 hlocks
          · have c19i : ¬ (S.I o1 1).toInt = 1 := neq_v rfl rfl c19
            refine lv_aload_n hx hb dX11_canCut_64 rfl (lv_at hl 1 rfl) ?_
            obtain ⟨k20, gk20, hk20⟩ := wGt (cy := cy) X S h_o2.1 h_o2.2.1
            have i21 := ((hW.at h_o2 List.not_mem_nil).to_10 h_o2.2.1).R3
            refine va_getN (D := D) (ci := 14) (v := .int (S.I o2 3)) (C := RX10) (T := TX10) (N := 23) hx hb hts hi_X11_canCut_X10 hown hK hP k20 hk20 rfl 3 (by decide) (va_Nw.use rfl (hN (.fieldLinkNest RX11 52 "HobhouseModel$Gear" "helix" "I" "HobhouseModel") (by decide +kernel))) (fun _ h9 => h9) rfl dX11_canCut_65 ?_
            refine lv_if_lt (tgt := 75) hx hb dX11_canCut_68 (by decide) (fun c22 => ?_) (fun c22 => ?_)
            · have c22i : (S.I o2 3).toInt < 0 := lt_v rfl rfl c22
              refine lv_iconst (v := 0) hx hb dX11_canCut_75 (by decide) ?_
              refine W.widen (k := 0) (n := 0) (Nat.le_of_ble_eq_true rfl) (Nat.le_of_ble_eq_true rfl) ?_
              exact W.zret (v := (0 : Int32)) hx hb hr (by rfl) (fun t ht hW9 => ⟨⟨(0 : Int32), (), rfl, (by rfl), wd_end hP hK hD ht hW9.alike⟩, hS.F ht⟩) hS.2.2 dX11_canCut_76 hlocks
            · have c22i : 0 ≤ (S.I o2 3).toInt := nlt_v rfl rfl c22
              refine lv_iconst (v := 1) hx hb dX11_canCut_71 (by decide) ?_
              refine lv_goto (tgt := 76) hx hb dX11_canCut_72 (by decide) ?_
              refine W.widen (k := 0) (n := 0) (Nat.le_of_ble_eq_true rfl) (Nat.le_of_ble_eq_true rfl) ?_
              exact W.zret (v := (1 : Int32)) hx hb hr (by rfl) (fun t ht hW9 => ⟨⟨(1 : Int32), (), rfl, (by rfl), wd_end hP hK hD ht hW9.alike⟩, hS.F ht⟩) hS.2.2 dX11_canCut_76 hlocks
      · have c11i : ¬ (S.I o2 8).toInt = -1 := neq_v rfl rfl c11
        refine lv_aload_n hx hb dX11_canCut_30 rfl (lv_at hl 0 rfl) ?_
        have hFc := free_all hD hS hA
        obtain ⟨k23, gk23, hk23⟩ := wGt (cy := cy) X S h_o1.1 h_o1.2.1
        refine va_calli (va_runV (As := []) (rest := []) ⟨hx, hb, hml, hown, hts⟩ (c_X11_approach l (cy := cy) (X := X) (D := D) S _ o1 h_o1) (cwV 0 hts gX11_canCut_X11_approach rfl rfl rfl hd_X11_approach ⟨Nat.le_of_ble_eq_true rfl, Nat.le_of_ble_eq_true rfl⟩) (pV (va_recv hK hP (q := (RX11, TX11, 7)) (ci := 15) (q0 := k23) rfl hk23) hP hK hD hN) rfl rfl hl.1 rfl (lv_room (Nat.le_of_ble_eq_true rfl)) dX11_canCut_31 ⟨(Nat.zero_le _), (Nat.zero_le _)⟩) hS (fun q _ h => hFc q h) hFc (fun r24 u t H1 locs ht hvm hw hB hz1 hk1 hS => ?_)
        clear hw
        obtain ⟨hP, hD⟩ := wd_post hFc ht hB
        generalize H1 = H at hP hS ⊢
        refine lv_aload_n hx hb dX11_canCut_34 rfl (lv_at hl 1 rfl) ?_
        obtain ⟨k25, gk25, hk25⟩ := wGt (cy := cy) X S h_o2.1 h_o2.2.1
        refine va_getN (D := D) (ci := 14) (v := .int (S.I o2 8)) (C := RX10) (T := TX10) (N := 23) hx hb hts hi_X11_canCut_X10 hown hK hP k25 hk25 rfl 8 (by decide) (va_Nw.use rfl (hN (.fieldLinkNest RX11 42 "HobhouseModel$Gear" "room" "I" "HobhouseModel") (by decide +kernel))) (fun _ h9 => h9) rfl dX11_canCut_35 ?_
        refine lv_icmp_gt (tgt := 75) hx hb dX11_canCut_38 (by decide) (fun c26 => ?_) (fun c26 => ?_)
        · have c26i : (S.I o2 8).toInt < r24.toInt := lt_v rfl rfl c26
          refine lv_iconst (v := 0) hx hb dX11_canCut_75 (by decide) ?_
          refine W.widen (k := 0) (n := 0) (Nat.le_of_ble_eq_true rfl) (Nat.le_of_ble_eq_true rfl) ?_
          exact W.zret (v := (0 : Int32)) hx hb hr (by rfl) (fun t ht hW9 => ⟨⟨(0 : Int32), (), rfl, (by rfl), wd_end hP hK hD ht hW9.alike⟩, hS.F ht⟩) hS.2.2 dX11_canCut_76 hlocks
        · have c26i : r24.toInt ≤ (S.I o2 8).toInt := nlt_v rfl rfl c26
          refine lv_aload_n hx hb dX11_canCut_41 rfl (lv_at hl 0 rfl) ?_
          have F27 := ((hW.at h_o1 List.not_mem_nil).to_11 h_o1.2.1).F2
          obtain ⟨k28, gk28, hk28⟩ := wGt (cy := cy) X S h_o1.1 h_o1.2.1
          simp only [kE, F27.1] at hk28
          refine va_get (D := D) (ci := 15) (v := .ref (S.f o1 2)) (C := RX11) (T := TX11) (N := 7) hx hb hts hi_X11_canCut_X11 hown hK hP k28 hk28 rfl 2 (by decide) (hts (.fieldLink RX11 9 "HobhouseModel$Hob" "wear" "[I") (by decide +kernel)) (fun _ h9 => h9) rfl dX11_canCut_42 ?_
          refine lv_aload_n hx hb dX11_canCut_45 rfl (lv_at hl 0 rfl) ?_
          obtain ⟨k29, gk29, hk29⟩ := wGt (cy := cy) X S h_o1.1 h_o1.2.1
          have i30 := ((hW.at h_o1 List.not_mem_nil).to_11 h_o1.2.1).R5
          refine va_get (D := D) (ci := 15) (v := .int (S.I o1 5)) (C := RX11) (T := TX11) (N := 7) hx hb hts hi_X11_canCut_X11 hown hK hP k29 hk29 rfl 5 (by decide) (hts (.fieldLink RX11 49 "HobhouseModel$Hob" "next" "I") (by decide +kernel)) (fun _ h9 => h9) rfl dX11_canCut_46 ?_
          obtain ⟨k31, gk31, hk31⟩ := wGt (cy := cy) X S F27.2.1.1 F27.2.1.2.1
          refine va_iald hx hb hK hP k31 2 hk31 rfl (inb (m := 20) F27.2.2 (by omega) (by omega)) dX11_canCut_49 ?_
          refine lv_sipush (v := 200) hx hb dX11_canCut_50 (by decide +kernel) ?_
          refine lv_icmp_ge (tgt := 75) hx hb dX11_canCut_53 (by decide) (fun c32 => ?_) (fun c32 => ?_)
          · have c32i : 200 ≤ (S.i (S.f o1 2) (S.I o1 5).toNatClampNeg).toInt := le_v rfl rfl c32
            refine lv_iconst (v := 0) hx hb dX11_canCut_75 (by decide) ?_
            refine W.widen (k := 0) (n := 0) (Nat.le_of_ble_eq_true rfl) (Nat.le_of_ble_eq_true rfl) ?_
            exact W.zret (v := (0 : Int32)) hx hb hr (by rfl) (fun t ht hW9 => ⟨⟨(0 : Int32), (), rfl, (by rfl), wd_end hP hK hD ht hW9.alike⟩, hS.F ht⟩) hS.2.2 dX11_canCut_76 hlocks
          · have c32i : (S.i (S.f o1 2) (S.I o1 5).toNatClampNeg).toInt < 200 := nle_v rfl rfl c32
            refine lv_aload_n hx hb dX11_canCut_56 rfl (lv_at hl 0 rfl) ?_
            obtain ⟨k33, gk33, hk33⟩ := wGt (cy := cy) X S h_o1.1 h_o1.2.1
            refine va_get (D := D) (ci := 15) (v := .int (S.I o1 1)) (C := RX11) (T := TX11) (N := 7) hx hb hts hi_X11_canCut_X11 hown hK hP k33 hk33 rfl 1 (by decide) (hts (.fieldLink RX11 19 "HobhouseModel$Hob" "starts" "I") (by decide +kernel)) (fun _ h9 => h9) rfl dX11_canCut_57 ?_
            refine lv_iconst (v := 1) hx hb dX11_canCut_60 (by decide) ?_
            refine lv_icmp_eq (tgt := 71) hx hb dX11_canCut_61 (by decide) (fun c34 => ?_) (fun c34 => ?_)
            · have c34i : (S.I o1 1).toInt = 1 := eq_v rfl rfl c34
              refine lv_iconst (v := 1) hx hb dX11_canCut_71 (by decide) ?_
              refine lv_goto (tgt := 76) hx hb dX11_canCut_72 (by decide) ?_
              refine W.widen (k := 0) (n := 0) (Nat.le_of_ble_eq_true rfl) (Nat.le_of_ble_eq_true rfl) ?_
              exact W.zret (v := (1 : Int32)) hx hb hr (by rfl) (fun t ht hW9 => ⟨⟨(1 : Int32), (), rfl, (by rfl), wd_end hP hK hD ht hW9.alike⟩, hS.F ht⟩) hS.2.2 dX11_canCut_76 hlocks
            · have c34i : ¬ (S.I o1 1).toInt = 1 := neq_v rfl rfl c34
              refine lv_aload_n hx hb dX11_canCut_64 rfl (lv_at hl 1 rfl) ?_
              obtain ⟨k35, gk35, hk35⟩ := wGt (cy := cy) X S h_o2.1 h_o2.2.1
              have i36 := ((hW.at h_o2 List.not_mem_nil).to_10 h_o2.2.1).R3
              refine va_getN (D := D) (ci := 14) (v := .int (S.I o2 3)) (C := RX10) (T := TX10) (N := 23) hx hb hts hi_X11_canCut_X10 hown hK hP k35 hk35 rfl 3 (by decide) (va_Nw.use rfl (hN (.fieldLinkNest RX11 52 "HobhouseModel$Gear" "helix" "I" "HobhouseModel") (by decide +kernel))) (fun _ h9 => h9) rfl dX11_canCut_65 ?_
              refine lv_if_lt (tgt := 75) hx hb dX11_canCut_68 (by decide) (fun c37 => ?_) (fun c37 => ?_)
              · have c37i : (S.I o2 3).toInt < 0 := lt_v rfl rfl c37
                refine lv_iconst (v := 0) hx hb dX11_canCut_75 (by decide) ?_
                refine W.widen (k := 0) (n := 0) (Nat.le_of_ble_eq_true rfl) (Nat.le_of_ble_eq_true rfl) ?_
                exact W.zret (v := (0 : Int32)) hx hb hr (by rfl) (fun t ht hW9 => ⟨⟨(0 : Int32), (), rfl, (by rfl), wd_end hP hK hD ht hW9.alike⟩, hS.F ht⟩) hS.2.2 dX11_canCut_76 hlocks
              · have c37i : 0 ≤ (S.I o2 3).toInt := nlt_v rfl rfl c37
                refine lv_iconst (v := 1) hx hb dX11_canCut_71 (by decide) ?_
                refine lv_goto (tgt := 76) hx hb dX11_canCut_72 (by decide) ?_
                refine W.widen (k := 0) (n := 0) (Nat.le_of_ble_eq_true rfl) (Nat.le_of_ble_eq_true rfl) ?_
                exact W.zret (v := (1 : Int32)) hx hb hr (by rfl) (fun t ht hW9 => ⟨⟨(1 : Int32), (), rfl, (by rfl), wd_end hP hK hD ht hW9.alike⟩, hS.F ht⟩) hS.2.2 dX11_canCut_76 hlocks
