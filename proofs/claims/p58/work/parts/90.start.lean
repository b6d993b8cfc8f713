/-! THE START: what the Statement gives, in the words of the rows -/
theorem sel_priv2 {y y0 x0 : MethodName} {C : String} {n : Nat} {s : State} {args : Array Value} (hy : y.cls ≠ "java/lang/invoke/MethodHandle" ∧ y.cls ≠ "java/lang/invoke/VarHandle") (hins : (Cond.instantiable C n).before args s = true) (hpriv : (Cond.privateMethod y).before args s = true) (hinst : (Cond.instanceMethod y).before args s = true) (h0 : (Cond.selects C x0 y0).before args s = true) (e : y0.cls = y.cls) : (Cond.selects C y y).before args s = true := by
  obtain ⟨c, k, hc, hk, -, hniab, -, -⟩ := Cond.instantiable_spec hins
  obtain ⟨mk, methM, hnamed, hmethM, -, -⟩ := Cond.instanceMethod_spec hinst
  have hfound : s.methodFound? y.cls y.name y.desc = some mk := State.methodFound?_of_named hnamed hy
  have hsel : selectMethod {} s.vm c mk = .method mk := selectMethod_private hmethM (Cond.privateMethod_at hpriv mk methM hnamed hmethM)
  have hI : (s.vm.classes[mk.cls]?).any (fun q => !q.isInterface) = true := by
    have h1 := h0
    simp only [Cond.before, Cond.holds, Cond.value, hc] at h1
    cases hf : s.methodFound? x0.cls x0.name x0.desc with
    | none => simp [hf] at h1
    | some r =>
      cases hn : s.methodNamed? y0 with
      | none => simp [hf, hn] at h1
      | some m0 =>
        have hcl : m0.cls = mk.cls := Option.some.inj ((findClass_of_methodNamed hn).symm.trans ((congrArg s.vm.findClass e).trans (findClass_of_methodNamed hnamed)))
        rw [← hcl]
        cases hsm : selectMethod {} s.vm c r <;> simp [hf, hn, hsm] at h1
        first | exact h1.2 | (simp; exact h1.2) | (obtain ⟨-, a, b, c⟩ := h1; simp [b, c])
  simp only [Cond.before, Cond.holds, Cond.value, hc, hfound, hnamed, hsel]
  simp only [Option.any] at hI
  first | (simp [hI]; done) | (simp; exact hI) | (simp at hI ⊢; exact hI)
theorem tables_1_1_i0 {w : Cond} {i : Nat} (h9 : tables_1_1[i]? = some w) : w ∈ lw_tbl := by
  have h := List.mem_of_getElem? h9
  exact List.mem_append_right _ (List.mem_append_left _ h)
theorem tables_1_2_i0 {w : Cond} {i : Nat} (h9 : tables_1_2[i]? = some w) : w ∈ lw_tbl := by
  have h := List.mem_of_getElem? h9
  exact List.mem_append_right _ (List.mem_append_right _ (List.mem_append_left _ h))
theorem tables_1_3_i0 {w : Cond} {i : Nat} (h9 : tables_1_3[i]? = some w) : w ∈ lw_tbl := by
  have h := List.mem_of_getElem? h9
  exact List.mem_append_right _ (List.mem_append_right _ (List.mem_append_right _ (List.mem_append_left _ h)))
theorem tables_1_4_i0 {w : Cond} {i : Nat} (h9 : tables_1_4[i]? = some w) : w ∈ lw_tbl := by
  have h := List.mem_of_getElem? h9
  exact List.mem_append_right _ (List.mem_append_right _ (List.mem_append_right _ (List.mem_append_right _ (List.mem_append_left _ h))))
theorem tables_1_5_i0 {w : Cond} {i : Nat} (h9 : tables_1_5[i]? = some w) : w ∈ lw_tbl := by
  have h := List.mem_of_getElem? h9
  exact List.mem_append_right _ (List.mem_append_right _ (List.mem_append_right _ (List.mem_append_right _ (List.mem_append_right _ (List.mem_append_left _ h)))))
theorem tables_1_6_i0 {w : Cond} {i : Nat} (h9 : tables_1_6[i]? = some w) : w ∈ lw_tbl := by
  have h := List.mem_of_getElem? h9
  exact List.mem_append_right _ (List.mem_append_right _ (List.mem_append_right _ (List.mem_append_right _ (List.mem_append_right _ (List.mem_append_right _ (List.mem_append_left _ h))))))
theorem tables_1_7_i0 {w : Cond} {i : Nat} (h9 : tables_1_7[i]? = some w) : w ∈ lw_tbl := by
  have h := List.mem_of_getElem? h9
  exact List.mem_append_right _ (List.mem_append_right _ (List.mem_append_right _ (List.mem_append_right _ (List.mem_append_right _ (List.mem_append_right _ (List.mem_append_right _ (List.mem_append_left _ h)))))))
theorem tables_1_8_i0 {w : Cond} {i : Nat} (h9 : tables_1_8[i]? = some w) : w ∈ lw_tbl := by
  have h := List.mem_of_getElem? h9
  exact List.mem_append_right _ (List.mem_append_right _ (List.mem_append_right _ (List.mem_append_right _ (List.mem_append_right _ (List.mem_append_right _ (List.mem_append_right _ (List.mem_append_right _ (List.mem_append_left _ h))))))))
theorem tables_1_9_i0 {w : Cond} {i : Nat} (h9 : tables_1_9[i]? = some w) : w ∈ lw_tbl := by
  have h := List.mem_of_getElem? h9
  exact List.mem_append_right _ (List.mem_append_right _ (List.mem_append_right _ (List.mem_append_right _ (List.mem_append_right _ (List.mem_append_right _ (List.mem_append_right _ (List.mem_append_right _ (List.mem_append_right _ (List.mem_append_left _ h)))))))))
theorem tables_1_10_i0 {w : Cond} {i : Nat} (h9 : tables_1_10[i]? = some w) : w ∈ lw_tbl := by
  have h := List.mem_of_getElem? h9
  exact List.mem_append_right _ (List.mem_append_right _ (List.mem_append_right _ (List.mem_append_right _ (List.mem_append_right _ (List.mem_append_right _ (List.mem_append_right _ (List.mem_append_right _ (List.mem_append_right _ (List.mem_append_right _ (List.mem_append_left _ h))))))))))
theorem tables_1_11_i0 {w : Cond} {i : Nat} (h9 : tables_1_11[i]? = some w) : w ∈ lw_tbl := by
  have h := List.mem_of_getElem? h9
  exact List.mem_append_right _ (List.mem_append_right _ (List.mem_append_right _ (List.mem_append_right _ (List.mem_append_right _ (List.mem_append_right _ (List.mem_append_right _ (List.mem_append_right _ (List.mem_append_right _ (List.mem_append_right _ (List.mem_append_right _ h))))))))))
set_option maxRecDepth 100000 in
theorem start_hts {args : Array Value} {s : State} (hts0 : ∀ w ∈ lw_tbl, w.before args s = true) : ∀ w ∈ lw_tb2, w.before args s = true := by
  intro w hw
  rcases List.mem_append.mp hw with h | h
  · exact hts0 w h
  · have hts : ∀ w ∈ lw_tbl, w.before args s = true := hts0
    have a0 := (sel_priv2 (y := yJ5_newCapacity_0f7a4) (y0 := ⟨"java/lang/AbstractStringBuilder", "isLatin1", "()Z"⟩) (x0 := ⟨"java/lang/AbstractStringBuilder", "isLatin1", "()Z"⟩) (C := RJ4) (n := 4) (by decide +kernel) (hts (.instantiable RJ4 4) (tables_1_2_i0 (i := 130) rfl)) (hts (.privateMethod yJ5_newCapacity_0f7a4) (tables_1_6_i0 (i := 155) rfl)) (hts (.instanceMethod yJ5_newCapacity_0f7a4) (tables_1_6_i0 (i := 156) rfl)) (hts (.selects RJ4 ⟨"java/lang/AbstractStringBuilder", "isLatin1", "()Z"⟩ ⟨"java/lang/AbstractStringBuilder", "isLatin1", "()Z"⟩) (tables_1_6_i0 (i := 182) rfl)) rfl)
    have a1 := (sel_priv2 (y := yJ5_ensureCapacityInternal_d00df) (y0 := ⟨"java/lang/AbstractStringBuilder", "isLatin1", "()Z"⟩) (x0 := ⟨"java/lang/AbstractStringBuilder", "isLatin1", "()Z"⟩) (C := RJ4) (n := 4) (by decide +kernel) (hts (.instantiable RJ4 4) (tables_1_2_i0 (i := 130) rfl)) (hts (.privateMethod yJ5_ensureCapacityInternal_d00df) (tables_1_6_i0 (i := 151) rfl)) (hts (.instanceMethod yJ5_ensureCapacityInternal_d00df) (tables_1_6_i0 (i := 152) rfl)) (hts (.selects RJ4 ⟨"java/lang/AbstractStringBuilder", "isLatin1", "()Z"⟩ ⟨"java/lang/AbstractStringBuilder", "isLatin1", "()Z"⟩) (tables_1_6_i0 (i := 182) rfl)) rfl)
    have a2 := (sel_priv2 (y := yJ5_inflate_da8c8) (y0 := ⟨"java/lang/AbstractStringBuilder", "isLatin1", "()Z"⟩) (x0 := ⟨"java/lang/AbstractStringBuilder", "isLatin1", "()Z"⟩) (C := RJ4) (n := 4) (by decide +kernel) (hts (.instantiable RJ4 4) (tables_1_2_i0 (i := 130) rfl)) (hts (.privateMethod yJ5_inflate_da8c8) (tables_1_6_i0 (i := 188) rfl)) (hts (.instanceMethod yJ5_inflate_da8c8) (tables_1_6_i0 (i := 189) rfl)) (hts (.selects RJ4 ⟨"java/lang/AbstractStringBuilder", "isLatin1", "()Z"⟩ ⟨"java/lang/AbstractStringBuilder", "isLatin1", "()Z"⟩) (tables_1_6_i0 (i := 182) rfl)) rfl)
    simp only [sel3, List.mem_cons, List.not_mem_nil, or_false] at h
    rcases h with rfl | rfl | rfl
    · exact a0
    · exact a1
    · exact a2
theorem e_int {args : Array Value} {s : State} {t : Term} {z : Int32} (h : (Cond.eq t (.int z)).before args s = true) : t.eval args s none [] s = some (.int z) := by
  cases hv : t.eval args s none [] s with
  | none => simp [Cond.before, Cond.holds, Cond.value, hv] at h
  | some w =>
    have hz : (Term.int z).eval args s none [] s = some (.int z) := rfl
    simp only [Cond.before, Cond.holds, Cond.value, hv, hz] at h
    cases w <;> simp_all
theorem len_small {args : Array Value} {s : State} {t : Term} {v : Value} (h : (Term.length t).eval args s none [] s = some v) : ∃ a cell, t.eval args s none [] s = some (.ref a) ∧ s.arrayAt? a = some cell ∧ cell.slots.size < 2147483648 ∧ v = .int cell.slots.size.toInt32 := by
  simp only [Term.eval, Option.bind_eq_bind] at h
  cases ht : t.eval args s none [] s with
  | none => simp [ht] at h
  | some x =>
    cases x <;> simp [ht] at h
    case ref a =>
      obtain ⟨cell, hcell, h⟩ := Option.bind_eq_some_iff.mp h
      by_cases hn : cell.slots.size < 2147483648
      · rw [if_pos hn] at h; cases h; exact ⟨a, cell, rfl, hcell, hn, rfl⟩
      · rw [if_neg hn] at h; cases h
theorem arr_at {args : Array Value} {s : State} {t : Term} {ty : FieldType} {z : Int32} (har : (Cond.arrayOf t ty).before args s = true) (hlen : (Cond.eq (.length t) (.int z)).before args s = true) : ∃ a cell, t.eval args s none [] s = some (.ref a) ∧ s.heap[a]? = some cell ∧ s.isArrayOf cell ty ∧ cell.vm ≠ .unknown ∧ (cell.slots.size : Int) = z.toInt := by
  obtain ⟨a, cell, h1, h2, h3, h4⟩ := len_small (e_int hlen)
  obtain ⟨c1, c2, -, -⟩ := State.arrayAt?_spec h2
  obtain ⟨d1, d2⟩ := Cond.arrayOf_spec har h1 c1
  cases h4
  exact ⟨a, cell, h1, c1, d1, d2, (nI_toInt h3).symm⟩
theorem el_at {args : Array Value} {s : State} {t : Term} {a : Nat} {cell : Cell} {j z : Int32} (ht : t.eval args s none [] s = some (.ref a)) (hc : s.heap[a]? = some cell) (h : (Cond.eq (.elem t (.int j)) (.int z)).before args s = true) : cell.slots[j.toNatClampNeg]? = some (.int z) := by
  obtain ⟨a2, j2, cell2, h1, h2, h3, -, h5⟩ := Term.elem_spec (e_int h)
  cases ht.symm.trans h1
  have hj : (Term.int j).eval args s none [] s = some (.int j) := rfl
  cases hj.symm.trans h2
  obtain ⟨c1, -, -, -⟩ := State.arrayAt?_spec h3
  cases hc.symm.trans c1
  exact h5
theorem st_of {args : Array Value} {s : State} {own tx : String} {k : Nat} (h1 : (Cond.stringRef own k tx).before args s = true) (h2 : (Cond.exactly (.string own k) "java/lang/String").before args s = true) : ∃ sa : Nat, vk_R own k tx sa s := by
  obtain ⟨a, c, cell, k9, q1, -⟩ := Cond.exactly_spec h2
  exact ⟨a, vk_R.of h1 q1⟩
theorem ar_p {args : Array Value} {s : State} {ty : FieldType} (h : (Cond.arrayClass ty).before args s = true) : ∃ c : ClassId, ArrOfT s c ty ∧ s.vm.findClass ("[" ++ ty.toString) = some c := by
  obtain ⟨c, k, comp, f1, f2, f3⟩ := Cond.arrayClass_spec h
  exact ⟨c, fun n z => ⟨fun k h => (by cases h), k, f2, comp, f3⟩, f1⟩
theorem ar_o {args : Array Value} {s : State} {C : String} (h : (Cond.arrayOver (.object C)).before args s = true) : ∃ c : ClassId, ArrOfT s c (.object C) ∧ va_RA s c (.object C) := by
  obtain ⟨comp, c, k, g1, g2, g3, g4, g5⟩ := Cond.arrayOver_spec h
  exact ⟨c, fun n z => ⟨fun k h => (by cases h), k, g3, comp, g4⟩, k, comp, g3, g4, g1, g5⟩
abbrev tyX (cy : Nat → ClassId) (c8 c9 : ClassId) : List (ClassId × FieldType) := tyL cy ++ [(c8, .long), (c9, .double)]
def ncW : List (String × String) := [("java/lang/IllegalArgumentException", "java/lang/IllegalStateException"), ("java/lang/IllegalArgumentException", "java/lang/IndexOutOfBoundsException"), ("java/lang/IllegalArgumentException", "java/lang/UnsupportedOperationException"), ("java/lang/IllegalArgumentException", "java/util/NoSuchElementException"), ("java/lang/IllegalArgumentException", "java/lang/ArithmeticException"), ("java/lang/IllegalStateException", "java/lang/IllegalArgumentException"), ("java/lang/IllegalStateException", "java/lang/IndexOutOfBoundsException"), ("java/lang/IllegalStateException", "java/lang/UnsupportedOperationException"), ("java/lang/IllegalStateException", "java/util/NoSuchElementException"), ("java/lang/IllegalStateException", "java/lang/ArithmeticException"), ("java/lang/IndexOutOfBoundsException", "java/lang/IllegalArgumentException"), ("java/lang/IndexOutOfBoundsException", "java/lang/IllegalStateException"), ("java/lang/IndexOutOfBoundsException", "java/lang/UnsupportedOperationException"), ("java/lang/IndexOutOfBoundsException", "java/util/NoSuchElementException"), ("java/lang/IndexOutOfBoundsException", "java/lang/ArithmeticException"), ("java/lang/UnsupportedOperationException", "java/lang/IllegalArgumentException"), ("java/lang/UnsupportedOperationException", "java/lang/IllegalStateException"), ("java/lang/UnsupportedOperationException", "java/lang/IndexOutOfBoundsException"), ("java/lang/UnsupportedOperationException", "java/util/NoSuchElementException"), ("java/lang/UnsupportedOperationException", "java/lang/ArithmeticException"), ("java/util/NoSuchElementException", "java/lang/IllegalArgumentException"), ("java/util/NoSuchElementException", "java/lang/IllegalStateException"), ("java/util/NoSuchElementException", "java/lang/IndexOutOfBoundsException"), ("java/util/NoSuchElementException", "java/lang/UnsupportedOperationException"), ("java/util/NoSuchElementException", "java/lang/ArithmeticException"), ("java/lang/ArithmeticException", "java/lang/IllegalArgumentException"), ("java/lang/ArithmeticException", "java/lang/IllegalStateException"), ("java/lang/ArithmeticException", "java/lang/IndexOutOfBoundsException"), ("java/lang/ArithmeticException", "java/lang/UnsupportedOperationException"), ("java/lang/ArithmeticException", "java/util/NoSuchElementException")]
def NC (U : State) : Prop := ∀ q ∈ ncW, va_Nc q.1 q.2 U
theorem NC.moved {u U : State} (hvm : u.vm.Alike U.vm) (h : NC u) : NC U := fun q hq => (h q hq).moved hvm
theorem NC.calling {U : State} {g : JFrame} {mk : MethodId} {a : Array Value} (h : NC U) : NC (U.calling g mk a) := NC.moved (u := U) (U := U.calling g mk a) (Vm.Alike.refl U.vm) h
abbrev XO (c8 c9 : ClassId) (qo qd : Nat) (fo : Nat → Int64) (fd : Nat → UInt64) : va_W := [(qo, .inl (c8, 1, .inr (.inl fo))), (qd, .inl (c9, 1, .inr (.inr (.inr (.inl fd)))))]
def WX (D : va_G) (cy : Nat → ClassId) (c8 c9 : ClassId) (X : va_W) (A : Nat → Prop) (S : wPS) (U : State) : Prop := va_P D vwCl (X ++ PL cy S) U.heap ∧ va_K D vwCl (tyX cy c8 c9) U ∧ va_D A (X ++ PL cy S)
theorem WX.calling {D : va_G} {cy : Nat → ClassId} {c8 c9 : ClassId} {X : va_W} {A : Nat → Prop} {S : wPS} {U : State} {g : JFrame} {mk : MethodId} {a : Array Value} (h : WX D cy c8 c9 X A S U) : WX D cy c8 c9 X A S (U.calling g mk a) := ⟨h.1, va_K.moved (u := U) (U := U.calling g mk a) (Vm.Alike.refl U.vm) h.2.1, h.2.2⟩
theorem wx_pre {D : va_G} {cy : Nat → ClassId} {c8 c9 : ClassId} {X : va_W} {A : Nat → Prop} {S : wPS} {s U : State} {H : Heap} (hP : va_P D vwCl (X ++ PL cy S) H) (hK : va_K D vwCl (tyX cy c8 c9) s) (hD : va_D A (X ++ PL cy S)) (hU : U.heap = H) (hW : s.WarmedH U.vm) : WX D cy c8 c9 X (fun _ => True) S U :=
  ⟨by rw [hU]; exact hP, va_K.moved hW.alike hK, hD.weaken (fun _ _ _ _ => trivial)⟩
theorem wx_end {D : va_G} {cy : Nat → ClassId} {c8 c9 : ClassId} {X : va_W} {A : Nat → Prop} {S : wPS} {s t : State} {H : Heap} (hP : va_P D vwCl (X ++ PL cy S) H) (hK : va_K D vwCl (tyX cy c8 c9) s) (hD : va_D A (X ++ PL cy S)) (ht : t.heap = H) (hA : s.vm.Alike t.vm) : WX D cy c8 c9 X A S t :=
  ⟨by rw [ht]; exact hP, va_K.moved hA hK, hD⟩
theorem wx_post {D : va_G} {cy : Nat → ClassId} {c8 c9 : ClassId} {X : va_W} {A A1 : Nat → Prop} {S : wPS} {t : State} {H1 : Heap} (hF : ∀ q, A1 q → A q) (ht : t.heap = H1) (hB : WX D cy c8 c9 X A1 S t) : va_P D vwCl (X ++ PL cy S) H1 ∧ va_D A (X ++ PL cy S) :=
  ⟨by rw [← ht]; exact hB.1, hB.2.2.weaken (fun _ q _ h => hF q.1 h)⟩
theorem kX {D : va_G} {cy : Nat → ClassId} {c8 c9 : ClassId} {s : State} (h : va_K D vwCl (tyX cy c8 c9) s) : va_K D vwCl (tyL cy) s := h.sub [0, 1, 2, 3, 4, 5, 6, 7] rfl
theorem Met.ofWH {l : Launch} {y : MethodName} {ws ws' : List Cond} {rm : Room} {Pc : Array Value → State → Prop} {Qc : Array Value → State → Outcome → State → Prop} {mc ms : Nat} {free : Addr → Prop} {cc : ByteArray} {maxL : Nat} {ret : Option FieldType} {hh : List (Nat × Nat × Nat × Nat)}
    (hy : plainName y.cls = true) (hw : ws = Cond.codeWith y cc maxL ret hh :: ws')
    (body : ∀ p e s m args below meth c s₁, BodyLoose p l y (headSpec ws rm) cc maxL ret e s m args below meth c s₁ → c.maxLocals = maxL → Pc args s →
      W p l e (headSpec ws rm).room s m args below meth c s.heap [] 0 0 (MQ below Qc args s mc ms free) (entryFrame m args maxL)) : Met l y ws rm Pc Qc mc ms free := by
  refine MetFree.of_bodyS (code := cc) (maxLocals := maxL) (ret := ret) hy ?_ ?_
  · intro args s m h hn
    obtain ⟨m9, meth, c, hn9, h1, h2, h3, h4, -, h5, h6, -⟩ := Cond.codeWith_spec (atoms_spec (ws := ws) h _ (by rw [hw]; exact List.mem_cons_self))
    cases hn.symm.trans hn9
    exact ⟨meth, c, h1, h2, h3, h4, h5, h6⟩
  · intro p e s m args below meth c s₁ B hml hP _
    have hh0 : s₁.heap = s.heap := by rw [B.state]; rfl
    obtain ⟨t, a1, o, b1, b2, b3⟩ := body p e s m args below meth c s₁ B hml hP s₁ hh0 (Stand.of_body B)
    exact ⟨t, o, a1, b1, b2, ⟨b3.1, b3.2⟩⟩
set_option maxRecDepth 100000 in
set_option maxHeartbeats 4000000 in
theorem start_K {args : Array Value} {s : State} (hts : ∀ w ∈ lw_tb2, w.before args s = true) : ∃ (D : va_G) (cy : Nat → ClassId) (c8 c9 : ClassId), va_K D vwCl (tyX cy c8 c9) s := by
  obtain ⟨c0, i0, k0⟩ := u_known (C := RJ0) (T := TJ0) (N := 2) (n := 4) hts inJ0 (hts (.instantiable RJ0 4) (tables_1_3_in (i := 28) rfl))
  obtain ⟨c1, i1, k1⟩ := u_known (C := RJ4) (T := TJ4) (N := 4) (n := 4) hts inJ4 (hts (.instantiable RJ4 4) (tables_1_2_in (i := 130) rfl))
  obtain ⟨c2, i2, k2⟩ := u_known (C := RJx00060) (T := TJx00060) (N := 6) (n := 6) hts inJx00060 (hts (.instantiable RJx00060 6) (tables_1_3_in (i := 10) rfl))
  obtain ⟨c3, i3, k3⟩ := u_known (C := RJx4a65c) (T := TJx4a65c) (N := 3) (n := 3) hts inJx4a65c (hts (.instantiable RJx4a65c 3) (tables_1_7_in (i := 132) rfl))
  obtain ⟨c4, i4, k4⟩ := u_known (C := RX0) (T := TX0) (N := 7) (n := 7) hts inX0 (hts (.instantiable RX0 7) (tables_1_1_in (i := 53) rfl))
  obtain ⟨c5, i5, k5⟩ := u_known (C := RX1) (T := TX1) (N := 3) (n := 3) hts inX1 (hts (.instantiable RX1 3) (tables_1_2_in (i := 110) rfl))
  obtain ⟨c6, i6, k6⟩ := u_known (C := RX2) (T := TX2) (N := 20) (n := 20) hts inX2 (hts (.instantiable RX2 20) (tables_1_2_in (i := 104) rfl))
  obtain ⟨c7, i7, k7⟩ := u_known (C := RX3) (T := TX3) (N := 6) (n := 6) hts inX3 (hts (.instantiable RX3 6) (tables_1_4_in (i := 171) rfl))
  obtain ⟨c8, i8, k8⟩ := u_known (C := RX4) (T := TX4) (N := 9) (n := 9) hts inX4 (hts (.instantiable RX4 9) (tables_1_1_in (i := 104) rfl))
  obtain ⟨c9, i9, k9⟩ := u_known (C := RX5) (T := TX5) (N := 6) (n := 6) hts inX5 (hts (.instantiable RX5 6) (tables_1_7_in (i := 41) rfl))
  obtain ⟨c10, i10, k10⟩ := u_known (C := RX6) (T := TX6) (N := 5) (n := 5) hts inX6 (hts (.instantiable RX6 5) (tables_1_1_in (i := 82) rfl))
  obtain ⟨c11, i11, k11⟩ := u_known (C := RX7) (T := TX7) (N := 4) (n := 4) hts inX7 (hts (.instantiable RX7 4) (tables_1_6_in (i := 100) rfl))
  obtain ⟨c12, i12, k12⟩ := u_known (C := RX8) (T := TX8) (N := 5) (n := 5) hts inX8 (hts (.instantiable RX8 5) (tables_1_4_in (i := 22) rfl))
  obtain ⟨c13, i13, k13⟩ := u_known (C := RX9) (T := TX9) (N := 11) (n := 11) hts inX9 (hts (.instantiable RX9 11) (tables_1_1_in (i := 39) rfl))
  obtain ⟨c14, i14, k14⟩ := u_known (C := RX10) (T := TX10) (N := 23) (n := 23) hts inX10 (hts (.instantiable RX10 23) (tables_1_8_in (i := 48) rfl))
  obtain ⟨c15, i15, k15⟩ := u_known (C := RX11) (T := TX11) (N := 7) (n := 7) hts inX11 (hts (.instantiable RX11 7) (tables_1_9_in (i := 204) rfl))
  obtain ⟨c16, i16, k16⟩ := u_known (C := RX12) (T := TX12) (N := 34) (n := 34) hts inX12 (hts (.instantiable RX12 34) (tables_1_7_in (i := 126) rfl))
  obtain ⟨a0, x0, y0⟩ := ar_p (hts (.arrayClass .byte) (tables_1_2_in (i := 86) rfl))
  obtain ⟨a1, x1, y1⟩ := ar_p (hts (.arrayClass .char) (tables_1_8_in (i := 20) rfl))
  obtain ⟨a2, x2, y2⟩ := ar_p (hts (.arrayClass .int) (tables_1_1_in (i := 80) rfl))
  obtain ⟨a3, x3, y3⟩ := ar_p (hts (.arrayClass .boolean) (tables_1_1_in (i := 139) rfl))
  obtain ⟨a4, x4, y4⟩ := ar_o (hts (.arrayOver (.object "Hobhouse$Gear")) (tables_1_1_in (i := 47) rfl))
  obtain ⟨a5, x5, y5⟩ := ar_o (hts (.arrayOver (.object "Hobhouse$Hob")) (tables_1_1_in (i := 49) rfl))
  obtain ⟨a6, x6, y6⟩ := ar_o (hts (.arrayOver (.object "Hobhouse$Station")) (tables_1_1_in (i := 51) rfl))
  obtain ⟨a7, x7, y7⟩ := ar_o (hts (.arrayOver (.object "java/lang/Object")) (tables_1_8_in (i := 192) rfl))
  obtain ⟨a8, x8, y8⟩ := ar_p (hts (.arrayClass .long) (tables_1_11_in (i := 70) rfl))
  obtain ⟨a9, x9, y9⟩ := ar_p (hts (.arrayClass .double) (tables_1_11_in (i := 71) rfl))
  refine ⟨(fun k => ([c0, c1, c2, c3, c4, c5, c6, c7, c8, c9, c10, c11, c12, c13, c14, c15, c16] : List ClassId).getD k 0, fun k => ([i0, i1, i2, i3, i4, i5, i6, i7, i8, i9, i10, i11, i12, i13, i14, i15, i16] : List (Nat → Nat)).getD k (fun _ => 0)), fun k => ([a0, a1, a2, a3, a4, a5, a6, a7] : List ClassId).getD k 0, a8, a9, ?_, ?_⟩
  · intro k q hq
    match k, hq with
    | 0, hq => cases hq; exact k0
    | 1, hq => cases hq; exact k1
    | 2, hq => cases hq; exact k2
    | 3, hq => cases hq; exact k3
    | 4, hq => cases hq; exact k4
    | 5, hq => cases hq; exact k5
    | 6, hq => cases hq; exact k6
    | 7, hq => cases hq; exact k7
    | 8, hq => cases hq; exact k8
    | 9, hq => cases hq; exact k9
    | 10, hq => cases hq; exact k10
    | 11, hq => cases hq; exact k11
    | 12, hq => cases hq; exact k12
    | 13, hq => cases hq; exact k13
    | 14, hq => cases hq; exact k14
    | 15, hq => cases hq; exact k15
    | 16, hq => cases hq; exact k16
    | k + 17, hq => simp [vwCl] at hq
  · intro k q hq
    match k, hq with
    | 0, hq => cases hq; exact ⟨x0, y0⟩
    | 1, hq => cases hq; exact ⟨x1, y1⟩
    | 2, hq => cases hq; exact ⟨x2, y2⟩
    | 3, hq => cases hq; exact ⟨x3, y3⟩
    | 4, hq => cases hq; exact ⟨x4, y4⟩
    | 5, hq => cases hq; exact ⟨x5, y5⟩
    | 6, hq => cases hq; exact ⟨x6, y6⟩
    | 7, hq => cases hq; exact ⟨x7, y7⟩
    | 8, hq => cases hq; exact ⟨x8, y8⟩
    | 9, hq => cases hq; exact ⟨x9, y9⟩
    | k + 10, hq => simp [tyX, tyL] at hq
set_option maxRecDepth 100000 in
set_option maxHeartbeats 4000000 in
theorem start_GRADES {args : Array Value} {s : State} (hts : ∀ w ∈ lw_tb2, w.before args s = true) (hs : ∀ c ∈ flatC (Jvm.Cond.and given_1 narrow_1), c.before args s = true) : OS "GRADES" 13 gradesF (fun q => s.heap.size ≤ q) s s.heap := by
  have hA : ∀ a : Nat, a < s.heap.size → ¬ (fun q => s.heap.size ≤ q) a := fun a h => Nat.not_le.mpr h
  obtain ⟨g, cell, h1, h2, h3, h4, h5⟩ := arr_at (t := .static "Hobhouse" "GRADES" "[I") (ty := .int) (z := 13) (hs _ (by decide +kernel)) (hs _ (by decide +kernel))
  have hg : g < s.heap.size := (Array.getElem?_eq_some_iff.mp h2).1
  have h5b : cell.slots.size = 13 := by have l9 : (13 : Int32).toInt = 13 := rfl; omega
  refine ⟨g, va_Zref (hts (.laysStatic "Hobhouse" "GRADES" "[I") (tables_1_5_in (i := 160) rfl)) (hts (.initialized "Hobhouse") (tables_1_1_in (i := 1) rfl)) h1 hA, ⟨cell, h2, h3, h4, h5b, fun j hj => ?_⟩, hg, hA g hg⟩
  have e0 := el_at (j := 0) (z := 2) h1 h2 (hs _ (by decide +kernel))
  have e1 := el_at (j := 1) (z := 3) h1 h2 (hs _ (by decide +kernel))
  have e2 := el_at (j := 2) (z := 4) h1 h2 (hs _ (by decide +kernel))
  have e3 := el_at (j := 3) (z := 6) h1 h2 (hs _ (by decide +kernel))
  have e4 := el_at (j := 4) (z := 8) h1 h2 (hs _ (by decide +kernel))
  have e5 := el_at (j := 5) (z := 11) h1 h2 (hs _ (by decide +kernel))
  have e6 := el_at (j := 6) (z := 16) h1 h2 (hs _ (by decide +kernel))
  have e7 := el_at (j := 7) (z := 22) h1 h2 (hs _ (by decide +kernel))
  have e8 := el_at (j := 8) (z := 32) h1 h2 (hs _ (by decide +kernel))
  have e9 := el_at (j := 9) (z := 45) h1 h2 (hs _ (by decide +kernel))
  have e10 := el_at (j := 10) (z := 64) h1 h2 (hs _ (by decide +kernel))
  have e11 := el_at (j := 11) (z := 90) h1 h2 (hs _ (by decide +kernel))
  have e12 := el_at (j := 12) (z := 128) h1 h2 (hs _ (by decide +kernel))
  rcases (show j = 0 ∨ j = 1 ∨ j = 2 ∨ j = 3 ∨ j = 4 ∨ j = 5 ∨ j = 6 ∨ j = 7 ∨ j = 8 ∨ j = 9 ∨ j = 10 ∨ j = 11 ∨ j = 12 by omega) with rfl | rfl | rfl | rfl | rfl | rfl | rfl | rfl | rfl | rfl | rfl | rfl | rfl
  · exact e0
  · exact e1
  · exact e2
  · exact e3
  · exact e4
  · exact e5
  · exact e6
  · exact e7
  · exact e8
  · exact e9
  · exact e10
  · exact e11
  · exact e12
set_option maxRecDepth 100000 in
set_option maxHeartbeats 4000000 in
theorem start_SINES {args : Array Value} {s : State} (hts : ∀ w ∈ lw_tb2, w.before args s = true) (hs : ∀ c ∈ flatC (Jvm.Cond.and given_1 narrow_1), c.before args s = true) : OS "SINES" 4 sinesF (fun q => s.heap.size ≤ q) s s.heap := by
  have hA : ∀ a : Nat, a < s.heap.size → ¬ (fun q => s.heap.size ≤ q) a := fun a h => Nat.not_le.mpr h
  obtain ⟨g, cell, h1, h2, h3, h4, h5⟩ := arr_at (t := .static "Hobhouse" "SINES" "[I") (ty := .int) (z := 4) (hs _ (by decide +kernel)) (hs _ (by decide +kernel))
  have hg : g < s.heap.size := (Array.getElem?_eq_some_iff.mp h2).1
  have h5b : cell.slots.size = 4 := by have l9 : (4 : Int32).toInt = 4 := rfl; omega
  refine ⟨g, va_Zref (hts (.laysStatic "Hobhouse" "SINES" "[I") (tables_1_4_in (i := 84) rfl)) (hts (.initialized "Hobhouse") (tables_1_1_in (i := 1) rfl)) h1 hA, ⟨cell, h2, h3, h4, h5b, fun j hj => ?_⟩, hg, hA g hg⟩
  have e0 := el_at (j := 0) (z := 866) h1 h2 (hs _ (by decide +kernel))
  have e1 := el_at (j := 1) (z := 707) h1 h2 (hs _ (by decide +kernel))
  have e2 := el_at (j := 2) (z := 588) h1 h2 (hs _ (by decide +kernel))
  have e3 := el_at (j := 3) (z := 500) h1 h2 (hs _ (by decide +kernel))
  rcases (show j = 0 ∨ j = 1 ∨ j = 2 ∨ j = 3 by omega) with rfl | rfl | rfl | rfl
  · exact e0
  · exact e1
  · exact e2
  · exact e3
set_option maxRecDepth 100000 in
set_option maxHeartbeats 4000000 in
theorem start_OU {args : Array Value} {s : State} (hts : ∀ w ∈ lw_tb2, w.before args s = true) (hs : ∀ c ∈ flatC (Jvm.Cond.and given_1 narrow_1), c.before args s = true) : ∃ e0 mi : Nat, OU e0 mi (fun q => s.heap.size ≤ q) s s.heap := by
  have hA : ∀ a : Nat, a < s.heap.size → ¬ (fun q => s.heap.size ≤ q) a := fun a h => Nat.not_le.mpr h
  obtain ⟨g, cell, h1, h2, h3, h4, h5⟩ := arr_at (t := .static "java/util/ArrayList" "DEFAULTCAPACITY_EMPTY_ELEMENTDATA" "[Ljava/lang/Object;") (ty := .object "java/lang/Object") (z := 0) (hs _ (by decide +kernel)) (hs _ (by decide +kernel))
  have hg : g < s.heap.size := (Array.getElem?_eq_some_iff.mp h2).1
  have h5b : cell.slots.size = 0 := by have l9 : (0 : Int32).toInt = 0 := rfl; omega
  obtain ⟨mi, hMi⟩ := va_Mi.of (C := "[Ljava/lang/Object;") (hs _ (by decide +kernel))
  obtain ⟨v, v1, v2⟩ := Cond.isRef_spec (t := .static "jdk/internal/util/Preconditions" "SIOOBE_FORMATTER" "Ljava/util/function/BiFunction;") (hs _ (by decide +kernel))
  have hZ := va_Zof (hts (.laysStatic "jdk/internal/util/Preconditions" "SIOOBE_FORMATTER" "Ljava/util/function/BiFunction;") (tables_1_6_in (i := 207) rfl)) (hts (.initialized "jdk/internal/util/Preconditions") (tables_1_1_in (i := 29) rfl)) v1 hA
  have hf : ∃ f : Option Nat, v = va_rf f := by
    cases v with
    | ref a => exact ⟨some a, rfl⟩
    | null => exact ⟨none, rfl⟩
    | _ => simp [Value.isRef] at v2
  obtain ⟨f, rfl⟩ := hf
  exact ⟨g, mi, start_GRADES hts hs, start_SINES hts hs, va_Zof (hts (.laysStatic "java/lang/String" "COMPACT_STRINGS" "Z") (tables_1_2_in (i := 139) rfl)) (hts (.initialized "java/lang/String") (tables_1_1_in (i := 18) rfl)) (va_eqi (hs _ (by decide +kernel))) hA, va_Zref (hts (.laysStatic "java/util/ArrayList" "DEFAULTCAPACITY_EMPTY_ELEMENTDATA" "[Ljava/lang/Object;") (tables_1_7_in (i := 144) rfl)) (hts (.initialized "java/util/ArrayList") (tables_1_1_in (i := 8) rfl)) h1 hA, ⟨cell, h2, h3, h4, h5b⟩, hg, hA g hg, hMi, va_Dc.of (hts _ (tables_1_11_in (i := 106) rfl)), f, hZ⟩
theorem tables_1_1_al1 : ∀ w ∈ tables_1_1, w ∈ tables_1 := fun w h => (List.mem_append_left _ h)
theorem tables_1_2_al1 : ∀ w ∈ tables_1_2, w ∈ tables_1 := fun w h => (List.mem_append_right _ (List.mem_append_left _ h))
theorem tables_1_3_al1 : ∀ w ∈ tables_1_3, w ∈ tables_1 := fun w h => (List.mem_append_right _ (List.mem_append_right _ (List.mem_append_left _ h)))
theorem tables_1_4_al1 : ∀ w ∈ tables_1_4, w ∈ tables_1 := fun w h => (List.mem_append_right _ (List.mem_append_right _ (List.mem_append_right _ (List.mem_append_left _ h))))
theorem tables_1_5_al1 : ∀ w ∈ tables_1_5, w ∈ tables_1 := fun w h => (List.mem_append_right _ (List.mem_append_right _ (List.mem_append_right _ (List.mem_append_right _ (List.mem_append_left _ h)))))
theorem tables_1_6_al1 : ∀ w ∈ tables_1_6, w ∈ tables_1 := fun w h => (List.mem_append_right _ (List.mem_append_right _ (List.mem_append_right _ (List.mem_append_right _ (List.mem_append_right _ (List.mem_append_left _ h))))))
theorem tables_1_7_al1 : ∀ w ∈ tables_1_7, w ∈ tables_1 := fun w h => (List.mem_append_right _ (List.mem_append_right _ (List.mem_append_right _ (List.mem_append_right _ (List.mem_append_right _ (List.mem_append_right _ (List.mem_append_left _ h)))))))
theorem tables_1_8_al1 : ∀ w ∈ tables_1_8, w ∈ tables_1 := fun w h => (List.mem_append_right _ (List.mem_append_right _ (List.mem_append_right _ (List.mem_append_right _ (List.mem_append_right _ (List.mem_append_right _ (List.mem_append_right _ (List.mem_append_left _ h))))))))
theorem tables_1_9_al1 : ∀ w ∈ tables_1_9, w ∈ tables_1 := fun w h => (List.mem_append_right _ (List.mem_append_right _ (List.mem_append_right _ (List.mem_append_right _ (List.mem_append_right _ (List.mem_append_right _ (List.mem_append_right _ (List.mem_append_right _ (List.mem_append_left _ h)))))))))
theorem tables_1_10_al1 : ∀ w ∈ tables_1_10, w ∈ tables_1 := fun w h => (List.mem_append_right _ (List.mem_append_right _ (List.mem_append_right _ (List.mem_append_right _ (List.mem_append_right _ (List.mem_append_right _ (List.mem_append_right _ (List.mem_append_right _ (List.mem_append_right _ (List.mem_append_left _ h))))))))))
theorem tables_1_11_al1 : ∀ w ∈ tables_1_11, w ∈ tables_1 := fun w h => (List.mem_append_right _ (List.mem_append_right _ (List.mem_append_right _ (List.mem_append_right _ (List.mem_append_right _ (List.mem_append_right _ (List.mem_append_right _ (List.mem_append_right _ (List.mem_append_right _ (List.mem_append_right _ h))))))))))
theorem tbT_al1 : ∀ t ∈ tbT, ∀ w ∈ t, w ∈ tables_1 := (List.forall_mem_cons.mpr ⟨tables_1_1_al1, (List.forall_mem_cons.mpr ⟨tables_1_2_al1, (List.forall_mem_cons.mpr ⟨tables_1_3_al1, (List.forall_mem_cons.mpr ⟨tables_1_4_al1, (List.forall_mem_cons.mpr ⟨tables_1_5_al1, (List.forall_mem_cons.mpr ⟨tables_1_6_al1, (List.forall_mem_cons.mpr ⟨tables_1_7_al1, (List.forall_mem_cons.mpr ⟨tables_1_8_al1, (List.forall_mem_cons.mpr ⟨tables_1_9_al1, (List.forall_mem_cons.mpr ⟨tables_1_10_al1, (List.forall_mem_cons.mpr ⟨tables_1_11_al1, (fun _ h => (List.not_mem_nil h).elim)⟩)⟩)⟩)⟩)⟩)⟩)⟩)⟩)⟩)⟩)⟩)
set_option maxRecDepth 100000 in
theorem exW_X9_IAE_in : ∀ w ∈ exW_X9_IAE, w ∈ tables_1 := chkF_n tbT_al1 (L := (Bundle.ownAtoms RX9 114 "java/lang/IllegalArgumentException" ["java/lang/RuntimeException", "java/lang/Exception"])) (ps := [(0, 9), (1, 37), (1, 46), (1, 54), (1, 57), (1, 59), (1, 38), (1, 39), (0, 44), (0, 45), (1, 40), (1, 45), (1, 55), (1, 75), (1, 27), (1, 76), (1, 29), (1, 77), (1, 31), (1, 41), (1, 42), (1, 43), (1, 44), (1, 33), (1, 71), (1, 72), (1, 74), (1, 33), (1, 62), (1, 63), (1, 64), (1, 65), (1, 19), (1, 65), (1, 66), (1, 67), (1, 68), (1, 21), (1, 68), (1, 69), (1, 70), (1, 71), (1, 23), (1, 61), (1, 16), (1, 17), (1, 24), (1, 25), (1, 26), (1, 28), (1, 30), (1, 32), (99, 0), (99, 0), (1, 36), (1, 35), (1, 34)]) (by decide +kernel)
set_option maxRecDepth 100000 in
theorem exW_X9_NSEE_in : ∀ w ∈ exW_X9_NSEE, w ∈ tables_1 := chkF_n tbT_al1 (L := (vx_ownI RX9 154 "java/util/NoSuchElementException" ["java/lang/RuntimeException", "java/lang/Exception"])) (ps := [(0, 9), (1, 37), (1, 46), (1, 54), (1, 57), (1, 59), (1, 38), (1, 39), (0, 44), (0, 45), (1, 40), (1, 45), (1, 55), (1, 75), (1, 27), (1, 76), (1, 29), (1, 77), (1, 31), (1, 41), (1, 42), (1, 43), (1, 44), (1, 33), (1, 71), (1, 72), (1, 74), (1, 33), (2, 234), (1, 65), (1, 19), (1, 65), (1, 66), (1, 67), (1, 68), (1, 21), (1, 68), (1, 69), (1, 70), (1, 71), (1, 23), (2, 233), (2, 224), (2, 225), (2, 226), (1, 53), (2, 227), (2, 228), (2, 229), (2, 230), (99, 0), (99, 0), (1, 36), (1, 35), (2, 231), (2, 235), (2, 236)]) (by decide +kernel)
set_option maxRecDepth 100000 in
theorem exW_X9_IOOBE_in : ∀ w ∈ exW_X9_IOOBE, w ∈ tables_1 := chkF_n tbT_al1 (L := (Bundle.ownAtoms RX9 297 "java/lang/IndexOutOfBoundsException" ["java/lang/RuntimeException", "java/lang/Exception"])) (ps := [(0, 9), (1, 37), (1, 46), (1, 54), (1, 57), (1, 59), (1, 38), (1, 39), (0, 44), (0, 45), (1, 40), (1, 45), (1, 55), (1, 75), (1, 27), (1, 76), (1, 29), (1, 77), (1, 31), (1, 41), (1, 42), (1, 43), (1, 44), (1, 33), (1, 71), (1, 72), (1, 74), (1, 33), (2, 14), (2, 15), (2, 16), (1, 65), (1, 19), (1, 65), (1, 66), (1, 67), (1, 68), (1, 21), (1, 68), (1, 69), (1, 70), (1, 71), (1, 23), (2, 52), (2, 43), (2, 44), (2, 45), (1, 51), (2, 46), (2, 47), (2, 48), (2, 49), (99, 0), (99, 0), (1, 36), (1, 35), (2, 50)]) (by decide +kernel)
set_option maxRecDepth 100000 in
theorem exW_X9_UOE_in : ∀ w ∈ exW_X9_UOE, w ∈ tables_1 := chkF_n tbT_al1 (L := (Bundle.ownAtoms RX9 533 "java/lang/UnsupportedOperationException" ["java/lang/RuntimeException", "java/lang/Exception"])) (ps := [(0, 9), (1, 37), (1, 46), (1, 54), (1, 57), (1, 59), (1, 38), (1, 39), (0, 44), (0, 45), (1, 40), (1, 45), (1, 55), (1, 75), (1, 27), (1, 76), (1, 29), (1, 77), (1, 31), (1, 41), (1, 42), (1, 43), (1, 44), (1, 33), (1, 71), (1, 72), (1, 74), (1, 33), (2, 69), (2, 70), (2, 71), (1, 65), (1, 19), (1, 65), (1, 66), (1, 67), (1, 68), (1, 21), (1, 68), (1, 69), (1, 70), (1, 71), (1, 23), (2, 68), (2, 59), (2, 60), (2, 61), (1, 52), (2, 62), (2, 63), (2, 64), (2, 65), (99, 0), (99, 0), (1, 36), (1, 35), (2, 66)]) (by decide +kernel)
set_option maxRecDepth 100000 in
theorem exW_X9_AE_in : ∀ w ∈ exW_X9_AE, w ∈ tables_1 := chkF_n tbT_al1 (L := (Bundle.ownAtoms RX9 543 "java/lang/ArithmeticException" ["java/lang/RuntimeException", "java/lang/Exception"])) (ps := [(0, 9), (1, 37), (1, 46), (1, 54), (1, 57), (1, 59), (1, 38), (1, 39), (0, 44), (0, 45), (1, 40), (1, 45), (1, 55), (1, 75), (1, 27), (1, 76), (1, 29), (1, 77), (1, 31), (1, 41), (1, 42), (1, 43), (1, 44), (1, 33), (1, 71), (1, 72), (1, 74), (1, 33), (6, 95), (6, 96), (6, 97), (1, 65), (1, 19), (1, 65), (1, 66), (1, 67), (1, 68), (1, 21), (1, 68), (1, 69), (1, 70), (1, 71), (1, 23), (6, 117), (6, 94), (6, 105), (6, 106), (1, 48), (6, 100), (6, 101), (6, 103), (6, 99), (99, 0), (99, 0), (1, 36), (1, 35), (6, 98)]) (by decide +kernel)
set_option maxRecDepth 100000 in
theorem exW_X9_ISE_in : ∀ w ∈ exW_X9_ISE, w ∈ tables_1 := chkF_n tbT_al1 (L := (Bundle.ownAtoms RX9 71 "java/lang/IllegalStateException" ["java/lang/RuntimeException", "java/lang/Exception"])) (ps := [(0, 9), (1, 37), (1, 46), (1, 54), (1, 57), (1, 59), (1, 38), (1, 39), (0, 44), (0, 45), (1, 40), (1, 45), (1, 55), (1, 75), (1, 27), (1, 76), (1, 29), (1, 77), (1, 31), (1, 41), (1, 42), (1, 43), (1, 44), (1, 33), (1, 71), (1, 72), (1, 74), (1, 33), (1, 99), (1, 100), (1, 101), (1, 65), (1, 19), (1, 65), (1, 66), (1, 67), (1, 68), (1, 21), (1, 68), (1, 69), (1, 70), (1, 71), (1, 23), (1, 98), (1, 89), (1, 90), (1, 91), (1, 50), (1, 92), (1, 93), (1, 94), (1, 95), (99, 0), (99, 0), (1, 36), (1, 35), (1, 96)]) (by decide +kernel)
set_option maxRecDepth 100000 in
theorem nest0_in : ∀ w ∈ nest0, w ∈ tables_1 := fun w h => chkF_ok (p := fun _ => true) tbT_al1 nest0 [(0, 119), (3, 30), (3, 32), (6, 51), (6, 53), (7, 55), (7, 56), (7, 58), (7, 59), (7, 61), (7, 62), (7, 64), (7, 66), (7, 68), (7, 69), (7, 71), (7, 72), (7, 73), (7, 75), (7, 76), (7, 78), (7, 80), (7, 81), (7, 82), (7, 84), (7, 85), (7, 87), (7, 89), (7, 91), (7, 92), (7, 94), (8, 211), (8, 213), (8, 215), (8, 217), (8, 219), (8, 220), (0, 54), (0, 83), (0, 105), (0, 198), (2, 96), (2, 155), (2, 189), (2, 190), (3, 64), (3, 238), (4, 156), (6, 80), (8, 60), (9, 23), (9, 112), (10, 93), (10, 99)] (by decide +kernel) w h rfl
set_option maxRecDepth 100000 in
theorem aoW_in : ∀ w ∈ aoW, w ∈ tables_1 := by decide +kernel
set_option maxRecDepth 100000 in
set_option maxHeartbeats 4000000 in
theorem start_ST {args : Array Value} {s : State} (hts : ∀ w ∈ lw_tb2, w.before args s = true) (hs : ∀ c ∈ flatC (Jvm.Cond.and given_1 narrow_1), c.before args s = true) : ST s := by
  have s0 : ∃ sa : Nat, vk_R "Hobhouse" 112 "both gears are the same" sa s := st_of (hts (.stringRef "Hobhouse" 112 "both gears are the same") (tables_1_3_in (i := 133) rfl)) (hs _ (by decide +kernel))
  have s1 : ∃ sa : Nat, vk_R "Hobhouse" 152 "there are no such shifts" sa s := st_of (hts (.stringRef "Hobhouse" 152 "there are no such shifts") (tables_1_3_in (i := 232) rfl)) (hs _ (by decide +kernel))
  have s2 : ∃ sa : Nat, vk_R "Hobhouse" 230 "the box has 16 wheels" sa s := st_of (hts (.stringRef "Hobhouse" 230 "the box has 16 wheels") (tables_1_4_in (i := 103) rfl)) (hs _ (by decide +kernel))
  have s3 : ∃ sa : Nat, vk_R "Hobhouse" 252 "there are 8 hobs" sa s := st_of (hts (.stringRef "Hobhouse" 252 "there are 8 hobs") (tables_1_4_in (i := 170) rfl)) (hs _ (by decide +kernel))
  have s4 : ∃ sa : Nat, vk_R "Hobhouse" 295 "there is no such place" sa s := st_of (hts (.stringRef "Hobhouse" 295 "there is no such place") (tables_1_5_in (i := 26) rfl)) (hs _ (by decide +kernel))
  have s5 : ∃ sa : Nat, vk_R "Hobhouse" 354 "there is no such period" sa s := st_of (hts (.stringRef "Hobhouse" 354 "there is no such period") (tables_1_5_in (i := 168) rfl)) (hs _ (by decide +kernel))
  have s6 : ∃ sa : Nat, vk_R "Hobhouse" 391 "the teeth are the same" sa s := st_of (hts (.stringRef "Hobhouse" 391 "the teeth are the same") (tables_1_6_in (i := 36) rfl)) (hs _ (by decide +kernel))
  have s7 : ∃ sa : Nat, vk_R "Hobhouse" 409 "there are not so many pairs" sa s := st_of (hts (.stringRef "Hobhouse" 409 "there are not so many pairs") (tables_1_6_in (i := 68) rfl)) (hs _ (by decide +kernel))
  have s8 : ∃ sa : Nat, vk_R "Hobhouse" 417 "the gear is in no set" sa s := st_of (hts (.stringRef "Hobhouse" 417 "the gear is in no set") (tables_1_6_in (i := 80) rfl)) (hs _ (by decide +kernel))
  have s9 : ∃ sa : Nat, vk_R "Hobhouse" 429 "there are 6 machines" sa s := st_of (hts (.stringRef "Hobhouse" 429 "there are 6 machines") (tables_1_6_in (i := 99) rfl)) (hs _ (by decide +kernel))
  have s10 : ∃ sa : Nat, vk_R "Hobhouse" 434 "there is no such machine" sa s := st_of (hts (.stringRef "Hobhouse" 434 "there is no such machine") (tables_1_6_in (i := 127) rfl)) (hs _ (by decide +kernel))
  have s11 : ∃ sa : Nat, vk_R "Hobhouse" 448 "the route has 8 kinds" sa s := st_of (hts (.stringRef "Hobhouse" 448 "the route has 8 kinds") (tables_1_6_in (i := 142) rfl)) (hs _ (by decide +kernel))
  have s12 : ∃ sa : Nat, vk_R "Hobhouse" 472 "there is no machine for a kind" sa s := st_of (hts (.stringRef "Hobhouse" 472 "there is no machine for a kind") (tables_1_7_in (i := 24) rfl)) (hs _ (by decide +kernel))
  have s13 : ∃ sa : Nat, vk_R "Hobhouse" 497 "no gear is meant" sa s := st_of (hts (.stringRef "Hobhouse" 497 "no gear is meant") (tables_1_7_in (i := 82) rfl)) (hs _ (by decide +kernel))
  have s14 : ∃ sa : Nat, vk_R "Hobhouse" 521 "there is no such gear" sa s := st_of (hts (.stringRef "Hobhouse" 521 "there is no such gear") (tables_1_3_in (i := 51) rfl)) (hs _ (by decide +kernel))
  have s15 : ∃ sa : Nat, vk_R "Hobhouse" 523 "there is no such hob" sa s := st_of (hts (.stringRef "Hobhouse" 523 "there is no such hob") (tables_1_4_in (i := 210) rfl)) (hs _ (by decide +kernel))
  have s16 : ∃ sa : Nat, vk_R "Hobhouse" 525 "a number is out of range" sa s := st_of (hts (.stringRef "Hobhouse" 525 "a number is out of range") (tables_1_2_in (i := 60) rfl)) (hs _ (by decide +kernel))
  have s17 : ∃ sa : Nat, vk_R "Hobhouse" 527 "there is no such kind" sa s := st_of (hts (.stringRef "Hobhouse" 527 "there is no such kind") (tables_1_6_in (i := 98) rfl)) (hs _ (by decide +kernel))
  have s18 : ∃ sa : Nat, vk_R "Hobhouse" 531 "this cannot be done" sa s := st_of (hts (.stringRef "Hobhouse" 531 "this cannot be done") (tables_1_3_in (i := 67) rfl)) (hs _ (by decide +kernel))
  have s19 : ∃ sa : Nat, vk_R "Hobhouse" 537 "the box has fewer than 4 wheels" sa s := st_of (hts (.stringRef "Hobhouse" 537 "the box has fewer than 4 wheels") (tables_1_4_in (i := 123) rfl)) (hs _ (by decide +kernel))
  have s20 : ∃ sa : Nat, vk_R "Hobhouse" 541 "there are no gears" sa s := st_of (hts (.stringRef "Hobhouse" 541 "there are no gears") (tables_1_7_in (i := 116) rfl)) (hs _ (by decide +kernel))
  have s21 : ∃ sa : Nat, vk_R "Hobhouse" 69 "there are 20 gears" sa s := st_of (hts (.stringRef "Hobhouse" 69 "there are 20 gears") (tables_1_2_in (i := 97) rfl)) (hs _ (by decide +kernel))
  intro q hq
  simp only [strW, List.mem_cons, List.not_mem_nil, or_false] at hq
  rcases hq with rfl | rfl | rfl | rfl | rfl | rfl | rfl | rfl | rfl | rfl | rfl | rfl | rfl | rfl | rfl | rfl | rfl | rfl | rfl | rfl | rfl | rfl
  · exact s0
  · exact s1
  · exact s2
  · exact s3
  · exact s4
  · exact s5
  · exact s6
  · exact s7
  · exact s8
  · exact s9
  · exact s10
  · exact s11
  · exact s12
  · exact s13
  · exact s14
  · exact s15
  · exact s16
  · exact s17
  · exact s18
  · exact s19
  · exact s20
  · exact s21
set_option maxRecDepth 100000 in
set_option maxHeartbeats 4000000 in
theorem start_TH {args : Array Value} {s : State} (hts : ∀ w ∈ lw_tb2, w.before args s = true) (hs : ∀ c ∈ flatC (Jvm.Cond.and given_1 narrow_1), c.before args s = true) : TH (fun q => s.heap.size ≤ q) s := by
  have hA : ∀ a : Nat, a < s.heap.size → ¬ (fun q => s.heap.size ≤ q) a := fun a h => Nat.not_le.mpr h
  have ht : ∀ w ∈ tables_1, w.before args s = true := fun w h => hts w (List.mem_append_left _ (List.mem_append_right _ h))
  refine ⟨⟨vx_Zqof (hts (.laysStatic "java/lang/Throwable" "UNASSIGNED_STACK" "[Ljava/lang/StackTraceElement;") (tables_1_2_in (i := 42) rfl)) (hts (.initialized "java/lang/Throwable") (tables_1_1_in (i := 9) rfl)) (hs _ (by decide +kernel)) hA, vx_Zqof (hts (.laysStatic "java/lang/Throwable" "SUPPRESSED_SENTINEL" "Ljava/util/List;") (tables_1_2_in (i := 44) rfl)) (hts (.initialized "java/lang/Throwable") (tables_1_1_in (i := 9) rfl)) (hs _ (by decide +kernel)) hA⟩, ?_, start_ST hts hs⟩
  intro w hw
  have h1 := exW_ok w hw
  have h2 : w ∈ tables_1 := by
    simp only [exW, List.mem_append] at hw
    rcases hw with ((((h | h) | h) | h) | h) | h
    · exact exW_X9_IAE_in w h
    · exact exW_X9_NSEE_in w h
    · exact exW_X9_IOOBE_in w h
    · exact exW_X9_UOE_in w h
    · exact exW_X9_AE_in w h
    · exact exW_X9_ISE_in w h
  have h3 := ht w h2
  cases w <;> first | exact va_Nw.of rfl h3 | (simp [exWk] at h1; done)
theorem nest0_tab : ∀ w ∈ nest0, w.onTables = true := nest_ok
theorem start_NW {args : Array Value} {s : State} (hts : ∀ w ∈ lw_tb2, w.before args s = true) : NW s := by
  have ht : ∀ w ∈ tables_1, w.before args s = true := fun w h => hts w (List.mem_append_left _ (List.mem_append_right _ h))
  intro w hw
  rcases List.mem_append.mp hw with h | h
  · exact va_Nw.of (nest_ok w h) (ht w (nest0_in w h))
  · have h3 := ht w (aoW_in w h)
    simp only [aoW, List.mem_cons, List.not_mem_nil, or_false] at h
    rcases h with rfl | rfl | rfl | rfl <;> exact h3
set_option maxRecDepth 100000 in
set_option maxHeartbeats 4000000 in
theorem start_NC {args : Array Value} {s : State} (hs : ∀ c ∈ flatC (Jvm.Cond.and given_1 narrow_1), c.before args s = true) : NC s := by
  have n0 : va_Nc "java/lang/IllegalArgumentException" "java/lang/IllegalStateException" s := va_Nc.of (hs _ (by decide +kernel))
  have n1 : va_Nc "java/lang/IllegalArgumentException" "java/lang/IndexOutOfBoundsException" s := va_Nc.of (hs _ (by decide +kernel))
  have n2 : va_Nc "java/lang/IllegalArgumentException" "java/lang/UnsupportedOperationException" s := va_Nc.of (hs _ (by decide +kernel))
  have n3 : va_Nc "java/lang/IllegalArgumentException" "java/util/NoSuchElementException" s := va_Nc.of (hs _ (by decide +kernel))
  have n4 : va_Nc "java/lang/IllegalArgumentException" "java/lang/ArithmeticException" s := va_Nc.of (hs _ (by decide +kernel))
  have n5 : va_Nc "java/lang/IllegalStateException" "java/lang/IllegalArgumentException" s := va_Nc.of (hs _ (by decide +kernel))
  have n6 : va_Nc "java/lang/IllegalStateException" "java/lang/IndexOutOfBoundsException" s := va_Nc.of (hs _ (by decide +kernel))
  have n7 : va_Nc "java/lang/IllegalStateException" "java/lang/UnsupportedOperationException" s := va_Nc.of (hs _ (by decide +kernel))
  have n8 : va_Nc "java/lang/IllegalStateException" "java/util/NoSuchElementException" s := va_Nc.of (hs _ (by decide +kernel))
  have n9 : va_Nc "java/lang/IllegalStateException" "java/lang/ArithmeticException" s := va_Nc.of (hs _ (by decide +kernel))
  have n10 : va_Nc "java/lang/IndexOutOfBoundsException" "java/lang/IllegalArgumentException" s := va_Nc.of (hs _ (by decide +kernel))
  have n11 : va_Nc "java/lang/IndexOutOfBoundsException" "java/lang/IllegalStateException" s := va_Nc.of (hs _ (by decide +kernel))
  have n12 : va_Nc "java/lang/IndexOutOfBoundsException" "java/lang/UnsupportedOperationException" s := va_Nc.of (hs _ (by decide +kernel))
  have n13 : va_Nc "java/lang/IndexOutOfBoundsException" "java/util/NoSuchElementException" s := va_Nc.of (hs _ (by decide +kernel))
  have n14 : va_Nc "java/lang/IndexOutOfBoundsException" "java/lang/ArithmeticException" s := va_Nc.of (hs _ (by decide +kernel))
  have n15 : va_Nc "java/lang/UnsupportedOperationException" "java/lang/IllegalArgumentException" s := va_Nc.of (hs _ (by decide +kernel))
  have n16 : va_Nc "java/lang/UnsupportedOperationException" "java/lang/IllegalStateException" s := va_Nc.of (hs _ (by decide +kernel))
  have n17 : va_Nc "java/lang/UnsupportedOperationException" "java/lang/IndexOutOfBoundsException" s := va_Nc.of (hs _ (by decide +kernel))
  have n18 : va_Nc "java/lang/UnsupportedOperationException" "java/util/NoSuchElementException" s := va_Nc.of (hs _ (by decide +kernel))
  have n19 : va_Nc "java/lang/UnsupportedOperationException" "java/lang/ArithmeticException" s := va_Nc.of (hs _ (by decide +kernel))
  have n20 : va_Nc "java/util/NoSuchElementException" "java/lang/IllegalArgumentException" s := va_Nc.of (hs _ (by decide +kernel))
  have n21 : va_Nc "java/util/NoSuchElementException" "java/lang/IllegalStateException" s := va_Nc.of (hs _ (by decide +kernel))
  have n22 : va_Nc "java/util/NoSuchElementException" "java/lang/IndexOutOfBoundsException" s := va_Nc.of (hs _ (by decide +kernel))
  have n23 : va_Nc "java/util/NoSuchElementException" "java/lang/UnsupportedOperationException" s := va_Nc.of (hs _ (by decide +kernel))
  have n24 : va_Nc "java/util/NoSuchElementException" "java/lang/ArithmeticException" s := va_Nc.of (hs _ (by decide +kernel))
  have n25 : va_Nc "java/lang/ArithmeticException" "java/lang/IllegalArgumentException" s := va_Nc.of (hs _ (by decide +kernel))
  have n26 : va_Nc "java/lang/ArithmeticException" "java/lang/IllegalStateException" s := va_Nc.of (hs _ (by decide +kernel))
  have n27 : va_Nc "java/lang/ArithmeticException" "java/lang/IndexOutOfBoundsException" s := va_Nc.of (hs _ (by decide +kernel))
  have n28 : va_Nc "java/lang/ArithmeticException" "java/lang/UnsupportedOperationException" s := va_Nc.of (hs _ (by decide +kernel))
  have n29 : va_Nc "java/lang/ArithmeticException" "java/util/NoSuchElementException" s := va_Nc.of (hs _ (by decide +kernel))
  intro q hq
  simp only [ncW, List.mem_cons, List.not_mem_nil, or_false] at hq
  rcases hq with rfl | rfl | rfl | rfl | rfl | rfl | rfl | rfl | rfl | rfl | rfl | rfl | rfl | rfl | rfl | rfl | rfl | rfl | rfl | rfl | rfl | rfl | rfl | rfl | rfl | rfl | rfl | rfl | rfl | rfl
  · exact n0
  · exact n1
  · exact n2
  · exact n3
  · exact n4
  · exact n5
  · exact n6
  · exact n7
  · exact n8
  · exact n9
  · exact n10
  · exact n11
  · exact n12
  · exact n13
  · exact n14
  · exact n15
  · exact n16
  · exact n17
  · exact n18
  · exact n19
  · exact n20
  · exact n21
  · exact n22
  · exact n23
  · exact n24
  · exact n25
  · exact n26
  · exact n27
  · exact n28
  · exact n29
