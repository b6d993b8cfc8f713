/-- every model gear's mate is none or a listed one; what the six rows of gear numbers hold: 0 or a listed one -/
def MV (S : wPS) (o : Nat) : Prop := ∀ g, isA S g 10 → -1 ≤ (S.I g 16).toInt ∧ (S.I g 16).toInt < (S.I (S.f o 0) 2).toInt
def IV (S : wPS) (o : Nat) : Prop := ∀ j, 9 ≤ j → j ≤ 14 → ∀ i : Nat, 0 ≤ (S.i (S.f o j) i).toInt ∧ ((S.i (S.f o j) i).toInt = 0 ∨ (S.i (S.f o j) i).toInt < (S.I (S.f o 0) 2).toInt)
/-- the gears that are new since S0 have no mate -/
def GN (S0 S : wPS) (_ : Nat) : Prop := ∀ g, isA S g 10 → g ∈ S0.L ∨ (S.I g 16).toInt = -1
def GR (S0 : wPS) (q : Nat) (S : wPS) (_ : Nat) : Prop := ∀ g, isA S g 10 → g ∈ S0.L ∨ (S.I g 16).toInt = -1 ∨ g = q
theorem sz_le {W : List (Nat × Nat)} {S U : wPS} {o : Nat} (h : stp W [] [] S U) (hW : wtB S []) (hA : isA S o 12) : U.f o 0 = S.f o 0 ∧ (S.I (S.f o 0) 2).toInt ≤ (U.I (S.f o 0) 2).toInt ∧ isA S (S.f o 0) 14 := by
  have ok := (hW.at hA List.not_mem_nil).to_12 hA.2.1
  have hl := ok.F0.2.1
  exact ⟨f_of (h.x.F hA (by decide) ok.F0.1), ((h.2.2.2.2.2 _ hl.1 List.not_mem_nil).1 hl.2.1).1, hl⟩
theorem old10 {W : List (Nat × Nat)} {E R : List Nat} {S U : wPS} (h : stp W E R S U) (h1 : (110, 10) ∉ W) {g : Nat} (hg : isA U g 10) : isA S g 10 := by
  have hS := h.2.2.2.2.1.resolve_left h1 g hg.1 hg.2.1
  obtain ⟨-, k, n, -⟩ := h.x g hS
  exact ⟨hS, k ▸ hg.2.1, n ▸ hg.2.2⟩
theorem MV.keep {W : List (Nat × Nat)} {S U : wPS} {o : Nat} (h : stp W [] [] S U) (hW : wtB S []) (hA : isA S o 12) (h1 : (110, 10) ∉ W) (h4 : (10, 16) ∉ W) (m : MV S o) : MV U o := by
  obtain ⟨e0, e1, -⟩ := sz_le h hW hA
  intro g hg
  have hS := old10 h h1 hg
  have ei : U.I g 16 = S.I g 16 := ((h.fR g hS.1 List.not_mem_nil).1 16 (by rw [hS.2.1]; exact h4)).1
  have h9 := m g hS
  rw [ei, e0]
  exact ⟨h9.1, Int.lt_of_lt_of_le h9.2 e1⟩
theorem MV.gear {W : List (Nat × Nat)} {S U : wPS} {o : Nat} (h : stp W [] [] S U) (hW : wtB S []) (hA : isA S o 12) (h4 : (10, 16) ∉ W) (n : GN S U o) (m : MV S o) : MV U o := by
  obtain ⟨e0, e1, hl⟩ := sz_le h hW hA
  have z := al_sz ((hW.at hl List.not_mem_nil).to_14 hl.2.1)
  intro g hg
  rw [e0]
  rcases n g hg with q | q
  · obtain ⟨-, kk, nn, -⟩ := h.x g q
    have hS : isA S g 10 := ⟨q, kk ▸ hg.2.1, nn ▸ hg.2.2⟩
    have ei : U.I g 16 = S.I g 16 := ((h.fR g hS.1 List.not_mem_nil).1 16 (by rw [hS.2.1]; exact h4)).1
    have h9 := m g hS
    rw [ei]
    exact ⟨h9.1, Int.lt_of_lt_of_le h9.2 e1⟩
  · omega
theorem GN.keep {W : List (Nat × Nat)} {S0 S U : wPS} {o : Nat} (h : stp W [] [] S U) (_ : wtB S []) (_ : isA S o 12) (h1 : (110, 10) ∉ W) (h4 : (10, 16) ∉ W) (m : GN S0 S o) : GN S0 U o := by
  intro g hg
  have hS := old10 h h1 hg
  have ei : U.I g 16 = S.I g 16 := ((h.fR g hS.1 List.not_mem_nil).1 16 (by rw [hS.2.1]; exact h4)).1
  rw [ei]; exact m g hS
theorem GN.nw {S0 S : wPS} {o q z : Nat} {f : Nat → Int32} {g : Nat → Option Nat} (m : GN S0 S o) (hq : q ∉ S.L) : GR S0 q (S.nw q 10 z f g) o := by
  intro a ha
  by_cases e : a = q
  · exact Or.inr (Or.inr e)
  · have hb : a ∈ S.L := (List.mem_append.mp ha.1).elim id (fun z => absurd (List.mem_singleton.mp z) e)
    have hS : isA S a 10 := ⟨hb, (up_nq (f := S.K) e) ▸ ha.2.1, (up_nq (f := S.n) e) ▸ ha.2.2⟩
    rw [nw_Io hq hb]
    exact (m a hS).imp id Or.inl
theorem GR.un {W : List (Nat × Nat)} {E R : List Nat} {S0 S U : wPS} {o q : Nat} (h : stp W E R S U) (hE : ∀ x ∈ E, x = q) (h1 : (110, 10) ∉ W) (h4 : (10, 16) ∉ W) (e : U.I q 16 = (-1 : Int32)) (m : GR S0 q S o) : GN S0 U o := by
  intro a ha
  by_cases e9 : a = q
  · subst e9; exact Or.inr (by rw [e]; rfl)
  · have hS := old10 h h1 ha
    have ei : U.I a 16 = S.I a 16 := ((h.fR a hS.1 (fun q9 => e9 (hE a q9))).1 16 (by rw [hS.2.1]; exact h4)).1
    rw [ei]
    rcases m a hS with q9 | q9 | q9
    · exact Or.inl q9
    · exact Or.inr q9
    · exact absurd q9 e9
theorem GN.rf {S : wPS} {o : Nat} : GN S S o := fun _ hg => Or.inl hg.1
theorem iv_row {S : wPS} {o j : Nat} (ok : ok_12 S o) (h1 : 9 ≤ j) (h2 : j ≤ 14) : S.F o j = some (S.f o j) ∧ isA S (S.f o j) 23 := by
  rcases (show j = 9 ∨ j = 10 ∨ j = 11 ∨ j = 12 ∨ j = 13 ∨ j = 14 by omega) with rfl | rfl | rfl | rfl | rfl | rfl
  · exact ⟨ok.F9.1, ok.F9.2.1⟩
  · exact ⟨ok.F10.1, ok.F10.2.1⟩
  · exact ⟨ok.F11.1, ok.F11.2.1⟩
  · exact ⟨ok.F12.1, ok.F12.2.1⟩
  · exact ⟨ok.F13.1, ok.F13.2.1⟩
  · exact ⟨ok.F14.1, ok.F14.2.1⟩
theorem IV.keep {W : List (Nat × Nat)} {S U : wPS} {o : Nat} (h : stp W [] [] S U) (hW : wtB S []) (hA : isA S o 12) (h3 : (23, 100) ∉ W) (_ : (23, 100) ∉ W) (m : IV S o) : IV U o := by
  obtain ⟨e0, e1, -⟩ := sz_le h hW hA
  have ok := (hW.at hA List.not_mem_nil).to_12 hA.2.1
  intro j j1 j2 i
  obtain ⟨r1, r2⟩ := iv_row ok j1 j2
  have ej : U.f o j = S.f o j := f_of (h.x.F hA (Or.inl (by decide)) r1)
  have ei : U.i (S.f o j) = S.i (S.f o j) := (h.fR _ r2.1 List.not_mem_nil).2.1 (by rw [r2.2.1]; exact h3)
  have h9 := m j j1 j2 i
  rw [ej, ei, e0]
  exact ⟨h9.1, h9.2.imp id (fun q => Int.lt_of_lt_of_le q e1)⟩
theorem iv_at {U : wPS} {o j a l : Nat} (m : IV U o) (h1 : 9 ≤ j) (h2 : j ≤ 14) (ha : U.f o j = a) (hl : U.f o 0 = l) (i : Nat) : 0 ≤ (U.i a i).toInt ∧ ((U.i a i).toInt = 0 ∨ (U.i a i).toInt < (U.I l 2).toInt) := by
  subst ha; subst hl; exact m j h1 h2 i
theorem IV.set {U : wPS} {o a k l : Nat} {v : Int32} (m : IV U o) (hl : U.f o 0 = l) (hv : 0 ≤ v.toInt ∧ (v.toInt = 0 ∨ v.toInt < (U.I l 2).toInt)) : IV (U.si a (upd (U.i a) k v)) o := by
  subst hl
  intro j h1 h2 i
  show 0 ≤ (va_up U.i a (upd (U.i a) k v) (U.f o j) i).toInt ∧ ((va_up U.i a (upd (U.i a) k v) (U.f o j) i).toInt = 0 ∨ (va_up U.i a (upd (U.i a) k v) (U.f o j) i).toInt < (U.I (U.f o 0) 2).toInt)
  by_cases e : U.f o j = a
  · rw [e, up_qq]
    unfold upd
    split
    · exact hv
    · have h9 := m j h1 h2 i
      rw [e] at h9; exact h9
  · rw [up_nq e]; exact m j h1 h2 i
theorem MV.set {U : wPS} {o a l : Nat} {v : Int32} (m : MV U o) (hA : isA U a 10) (hL : isA U l 14) (hl : U.f o 0 = l) (hv : -1 ≤ v.toInt ∧ v.toInt < (U.I l 2).toInt) : MV (U.sI a 16 v) o := by
  subst hl
  have hne : U.f o 0 ≠ a := fun e => by
    have h1 := hL.2.1; rw [e, hA.2.1] at h1; exact absurd h1 (by decide)
  intro g hg
  have hs : (U.sI a 16 v).I ((U.sI a 16 v).f o 0) 2 = U.I (U.f o 0) 2 := congrFun (sI_no hne) 2
  rw [hs]
  by_cases e : g = a
  · subst e; rw [sI_eq]; exact hv
  · rw [sI_I (fun q => e q.1)]; exact m g hg
def f_X12_isGear (S : wPS) (o1 : Nat) (x1 : Int32) : Int32 := f_X12_in x1.toInt64 (0 : Int64) (((f_Jx4a65c_size_8abf5 S (S.f o1 0)) - (1 : Int32)).toInt64)
theorem f_X12_isGear_b (S : wPS) (o1 : Nat) (x1 : Int32) : narrow .boolean (.int (f_X12_isGear S o1 x1)) = .int (f_X12_isGear S o1 x1) := by
  unfold f_X12_isGear; (repeat' split) <;> exact f_X12_in_b _ _ _
theorem hi_X12_isGear_X12 : ∀ w ∈ u_ws RX12 TX12 34, w ∈ wsX12_isGear := by decide +kernel
theorem hd_X12_isGear : yX12_isGear.cls = RX12 ∧ yX12_isGear.cls ≠ "java/lang/invoke/MethodHandle" ∧ yX12_isGear.cls ≠ "java/lang/invoke/VarHandle" ∧ (parseMethodDescriptor yX12_isGear.desc).map (fun d => d.parameters.length) = some 1 := by decide +kernel
set_option maxHeartbeats 4000000 in
set_option maxRecDepth 100000 in
theorem c_X12_isGear (l : Launch) {D : va_G} {cy : Nat → ClassId} {X : va_W} (S : wPS) (sz : Nat) (o1 : Nat) (h_o1 : isA S o1 12) (x1 : Int32) (hW : wtB S [])  : Met l yX12_isGear wsX12_isGear ({ frames := 1, cells := 0, slots := 0, locals := 25 }) (va_Pc [.ref o1, .int x1] (fun U => U.heap.size = sz ∧ WD D cy X (fun _ => True) S U ∧ NW U)) (va_Qi (fun r (_ : Unit) => r = f_X12_isGear S o1 x1) (fun _ t => WD D cy X (va_A (X ++ PL cy S) sz) S t) (va_A (X ++ PL cy S) sz)) 0 0 (va_A (X ++ PL cy S) sz) := by
  refine Met.ofW (cc := cX12_isGear) (maxL := 2) (ret := (some .boolean)) (by decide) rfl ?_
  intro p e s m args below meth c s₁ B hml hv
  obtain ⟨rfl, hsz, ⟨hP, hK, hD0⟩, hN⟩ := hv
  have hx := B.exec
  have hb := B.bytes
  have hr := B.returns
  have hts := atoms_spec (ws := wsX12_isGear) B.pre
  have hown : s.vm.findClass RX12 = some m.cls := findClass_of_methodNamed (x := yX12_isGear) B.named
  have hlocks := B.notSynchronized
  subst hsz
  have hD := hD0.self (sz := s.heap.size)
  generalize hAe : va_A (X ++ PL cy S) s.heap.size = A at hD ⊢
  have hA : ∀ q : Nat, s.heap.size ≤ q → A q := fun q h => by rw [← hAe]; exact Or.inr h
  have hS : va_S A s.heap s.heap [] := va_S.rf
  have hl := lv_entry ([.ref o1, .int x1]) (n := 2) (Nat.le_of_ble_eq_true rfl)
  rw [lg_entry_eq]
  generalize (lg_sl ([.ref o1, .int x1]) ++ List.replicate (2 - (lg_sl ([.ref o1, .int x1])).length) Slot.unset).toArray = ls at hl ⊢
  have hl : lv_has ls 2 [(0, .ref o1), (1, .int x1)] := hl
  refine lv_iload_n hx hb dX12_isGear_0 rfl (lv_at hl 1 rfl) ?_
  refine lv_i2l hx hb dX12_isGear_1 rfl ?_
  refine lv_lconst (v := 0) hx hb dX12_isGear_2 (by decide) ?_
  refine lv_aload_n hx hb dX12_isGear_3 rfl (lv_at hl 0 rfl) ?_
  have F1 := ((hW.at h_o1 List.not_mem_nil).to_12 h_o1.2.1).F0
  obtain ⟨k2, gk2, hk2⟩ := wGt (cy := cy) X S h_o1.1 h_o1.2.1
  simp only [kE, F1.1] at hk2
  refine va_get (D := D) (ci := 16) (v := .ref (S.f o1 0)) (C := RX12) (T := TX12) (N := 34) hx hb hts hi_X12_isGear_X12 hown hK hP k2 hk2 rfl 0 (by decide) (hts (.fieldLink RX12 24 "HobhouseModel" "gears" "Ljava/util/ArrayList;") (by decide +kernel)) (fun _ h9 => h9) rfl dX12_isGear_4 ?_
  have hFc := free_all hD hS hA
  obtain ⟨k3, gk3, hk3⟩ := wGt (cy := cy) X S F1.2.1.1 F1.2.1.2.1
  refine va_calli (va_runV (As := []) (rest := [.long (0 : Int64), .long x1.toInt64]) ⟨hx, hb, hml, hown, hts⟩ (c_Jx4a65c_size_8abf5 l (cy := cy) (X := X) (D := D) S _ (S.f o1 0) F1.2.1) (cwV 0 hts gX12_isGear_Jx4a65c_size_8abf5 rfl rfl rfl hd_Jx4a65c_size_8abf5 ⟨Nat.le_of_ble_eq_true rfl, Nat.le_of_ble_eq_true rfl⟩) (pV (va_recv hK hP (q := (RJx4a65c, TJx4a65c, 3)) (ci := 3) (q0 := k3) rfl hk3) hP hK hD hN) rfl rfl hl.1 rfl (lv_room (Nat.le_of_ble_eq_true rfl)) dX12_isGear_7 ⟨(Nat.zero_le _), (Nat.zero_le _)⟩) hS (fun q _ h => hFc q h) hFc (fun r4 u t H1 locs ht hvm hw hB hz1 hk1 hS => ?_)
  have c5 := hw
  obtain ⟨hP, hD⟩ := wd_post hFc ht hB
  generalize H1 = H at hP hS ⊢
  obtain rfl : f_Jx4a65c_size_8abf5 S (S.f o1 0) = r4 := c5.symm
  have i6 := al_sz ((hW.at F1.2.1 List.not_mem_nil).to_14 F1.2.1.2.1)
  have i7 : (f_Jx4a65c_size_8abf5 S (S.f o1 0)).toInt = (S.I (S.f o1 0) 2).toInt := rfl
  refine lv_iconst (v := 1) hx hb dX12_isGear_10 (by decide) ?_
  refine lv_isub hx hb dX12_isGear_11 ?_
  refine lv_i2l hx hb dX12_isGear_12 rfl ?_
  have hFc := free_all hD hS hA
  refine va_calli (va_runS (As := [.long x1.toInt64, .long (0 : Int64), .long (((f_Jx4a65c_size_8abf5 S (S.f o1 0)) - (1 : Int32)).toInt64)]) (rest := []) ⟨hx, hb, hml, hown, hts⟩ (c_X12_in l (cy := cy) (X := X) (D := D) S _ x1.toInt64 (0 : Int64) (((f_Jx4a65c_size_8abf5 S (S.f o1 0)) - (1 : Int32)).toInt64)) (cwS 3 hts gX12_isGear_X12_in rfl rfl rfl hd_X12_in ⟨Nat.le_of_ble_eq_true rfl, Nat.le_of_ble_eq_true rfl⟩) (pS hP hK hD hN) rfl rfl hl.1 rfl (lv_room (Nat.le_of_ble_eq_true rfl)) dX12_isGear_13 ⟨(Nat.zero_le _), (Nat.zero_le _)⟩) hS (fun q _ h => hFc q h) hFc (fun r8 u t H1 locs ht hvm hw hB hz1 hk1 hS => ?_)
  have c9 := hw
  obtain ⟨hP, hD⟩ := wd_post hFc ht hB
  generalize H1 = H at hP hS ⊢
  obtain rfl : f_X12_in x1.toInt64 (0 : Int64) (((f_Jx4a65c_size_8abf5 S (S.f o1 0)) - (1 : Int32)).toInt64) = r8 := c9.symm
  have i10 := i64_i x1
  have l64_0 : (0 : Int64).toInt = 0 := rfl
  have l32_1 : (1 : Int32).toInt = 1 := rfl
  have i11 : ((f_Jx4a65c_size_8abf5 S (S.f o1 0)) - (1 : Int32)).toInt = (f_Jx4a65c_size_8abf5 S (S.f o1 0)).toInt - 1 := t_subr (n := 1) rfl (by omega)
  have i12 := i64_i ((f_Jx4a65c_size_8abf5 S (S.f o1 0)) - (1 : Int32))
  have i13 := in_rng x1.toInt64 (0 : Int64) (((f_Jx4a65c_size_8abf5 S (S.f o1 0)) - (1 : Int32)).toInt64)
  refine W.widen (k := 0) (n := 0) (Nat.le_of_ble_eq_true rfl) (Nat.le_of_ble_eq_true rfl) ?_
  exact W.zret (v := f_X12_in x1.toInt64 (0 : Int64) (((f_Jx4a65c_size_8abf5 S (S.f o1 0)) - (1 : Int32)).toInt64)) hx hb hr (f_X12_in_b x1.toInt64 (0 : Int64) (((f_Jx4a65c_size_8abf5 S (S.f o1 0)) - (1 : Int32)).toInt64)) (fun t ht hW9 => ⟨⟨f_X12_in x1.toInt64 (0 : Int64) (((f_Jx4a65c_size_8abf5 S (S.f o1 0)) - (1 : Int32)).toInt64), (), rfl, (by show (f_X12_in x1.toInt64 (0 : Int64) (((f_Jx4a65c_size_8abf5 S (S.f o1 0)) - (1 : Int32)).toInt64)) = f_X12_isGear S o1 x1; unfold f_X12_isGear; rfl), wd_end hP hK hD ht hW9.alike⟩, hS.F ht⟩) hS.2.2 dX12_isGear_16 hlocks
def f_X12_isHob (S : wPS) (o1 : Nat) (x1 : Int32) : Int32 := f_X12_in x1.toInt64 (0 : Int64) (((f_Jx4a65c_size_8abf5 S (S.f o1 1)) - (1 : Int32)).toInt64)
theorem f_X12_isHob_b (S : wPS) (o1 : Nat) (x1 : Int32) : narrow .boolean (.int (f_X12_isHob S o1 x1)) = .int (f_X12_isHob S o1 x1) := by
  unfold f_X12_isHob; (repeat' split) <;> exact f_X12_in_b _ _ _
theorem hi_X12_isHob_X12 : ∀ w ∈ u_ws RX12 TX12 34, w ∈ wsX12_isHob := by decide +kernel
theorem hd_X12_isHob : yX12_isHob.cls = RX12 ∧ yX12_isHob.cls ≠ "java/lang/invoke/MethodHandle" ∧ yX12_isHob.cls ≠ "java/lang/invoke/VarHandle" ∧ (parseMethodDescriptor yX12_isHob.desc).map (fun d => d.parameters.length) = some 1 := by decide +kernel
set_option maxHeartbeats 4000000 in
set_option maxRecDepth 100000 in
theorem c_X12_isHob (l : Launch) {D : va_G} {cy : Nat → ClassId} {X : va_W} (S : wPS) (sz : Nat) (o1 : Nat) (h_o1 : isA S o1 12) (x1 : Int32) (hW : wtB S [])  : Met l yX12_isHob wsX12_isHob ({ frames := 1, cells := 0, slots := 0, locals := 25 }) (va_Pc [.ref o1, .int x1] (fun U => U.heap.size = sz ∧ WD D cy X (fun _ => True) S U ∧ NW U)) (va_Qi (fun r (_ : Unit) => r = f_X12_isHob S o1 x1) (fun _ t => WD D cy X (va_A (X ++ PL cy S) sz) S t) (va_A (X ++ PL cy S) sz)) 0 0 (va_A (X ++ PL cy S) sz) := by
  refine Met.ofW (cc := cX12_isHob) (maxL := 2) (ret := (some .boolean)) (by decide) rfl ?_
  intro p e s m args below meth c s₁ B hml hv
  obtain ⟨rfl, hsz, ⟨hP, hK, hD0⟩, hN⟩ := hv
  have hx := B.exec
  have hb := B.bytes
  have hr := B.returns
  have hts := atoms_spec (ws := wsX12_isHob) B.pre
  have hown : s.vm.findClass RX12 = some m.cls := findClass_of_methodNamed (x := yX12_isHob) B.named
  have hlocks := B.notSynchronized
  subst hsz
  have hD := hD0.self (sz := s.heap.size)
  generalize hAe : va_A (X ++ PL cy S) s.heap.size = A at hD ⊢
  have hA : ∀ q : Nat, s.heap.size ≤ q → A q := fun q h => by rw [← hAe]; exact Or.inr h
  have hS : va_S A s.heap s.heap [] := va_S.rf
  have hl := lv_entry ([.ref o1, .int x1]) (n := 2) (Nat.le_of_ble_eq_true rfl)
  rw [lg_entry_eq]
  generalize (lg_sl ([.ref o1, .int x1]) ++ List.replicate (2 - (lg_sl ([.ref o1, .int x1])).length) Slot.unset).toArray = ls at hl ⊢
  have hl : lv_has ls 2 [(0, .ref o1), (1, .int x1)] := hl
  refine lv_iload_n hx hb dX12_isHob_0 rfl (lv_at hl 1 rfl) ?_
  refine lv_i2l hx hb dX12_isHob_1 rfl ?_
  refine lv_lconst (v := 0) hx hb dX12_isHob_2 (by decide) ?_
  refine lv_aload_n hx hb dX12_isHob_3 rfl (lv_at hl 0 rfl) ?_
  have F1 := ((hW.at h_o1 List.not_mem_nil).to_12 h_o1.2.1).F1
  obtain ⟨k2, gk2, hk2⟩ := wGt (cy := cy) X S h_o1.1 h_o1.2.1
  simp only [kE, F1.1] at hk2
  refine va_get (D := D) (ci := 16) (v := .ref (S.f o1 1)) (C := RX12) (T := TX12) (N := 34) hx hb hts hi_X12_isHob_X12 hown hK hP k2 hk2 rfl 1 (by decide) (hts (.fieldLink RX12 28 "HobhouseModel" "hobs" "Ljava/util/ArrayList;") (by decide +kernel)) (fun _ h9 => h9) rfl dX12_isHob_4 ?_
  have hFc := free_all hD hS hA
  obtain ⟨k3, gk3, hk3⟩ := wGt (cy := cy) X S F1.2.1.1 F1.2.1.2.1
  refine va_calli (va_runV (As := []) (rest := [.long (0 : Int64), .long x1.toInt64]) ⟨hx, hb, hml, hown, hts⟩ (c_Jx4a65c_size_8abf5 l (cy := cy) (X := X) (D := D) S _ (S.f o1 1) F1.2.1) (cwV 0 hts gX12_isHob_Jx4a65c_size_8abf5 rfl rfl rfl hd_Jx4a65c_size_8abf5 ⟨Nat.le_of_ble_eq_true rfl, Nat.le_of_ble_eq_true rfl⟩) (pV (va_recv hK hP (q := (RJx4a65c, TJx4a65c, 3)) (ci := 3) (q0 := k3) rfl hk3) hP hK hD hN) rfl rfl hl.1 rfl (lv_room (Nat.le_of_ble_eq_true rfl)) dX12_isHob_7 ⟨(Nat.zero_le _), (Nat.zero_le _)⟩) hS (fun q _ h => hFc q h) hFc (fun r4 u t H1 locs ht hvm hw hB hz1 hk1 hS => ?_)
  have c5 := hw
  obtain ⟨hP, hD⟩ := wd_post hFc ht hB
  generalize H1 = H at hP hS ⊢
  obtain rfl : f_Jx4a65c_size_8abf5 S (S.f o1 1) = r4 := c5.symm
  have i6 := al_sz ((hW.at F1.2.1 List.not_mem_nil).to_14 F1.2.1.2.1)
  have i7 : (f_Jx4a65c_size_8abf5 S (S.f o1 1)).toInt = (S.I (S.f o1 1) 2).toInt := rfl
  refine lv_iconst (v := 1) hx hb dX12_isHob_10 (by decide) ?_
  refine lv_isub hx hb dX12_isHob_11 ?_
  refine lv_i2l hx hb dX12_isHob_12 rfl ?_
  have hFc := free_all hD hS hA
  refine va_calli (va_runS (As := [.long x1.toInt64, .long (0 : Int64), .long (((f_Jx4a65c_size_8abf5 S (S.f o1 1)) - (1 : Int32)).toInt64)]) (rest := []) ⟨hx, hb, hml, hown, hts⟩ (c_X12_in l (cy := cy) (X := X) (D := D) S _ x1.toInt64 (0 : Int64) (((f_Jx4a65c_size_8abf5 S (S.f o1 1)) - (1 : Int32)).toInt64)) (cwS 3 hts gX12_isHob_X12_in rfl rfl rfl hd_X12_in ⟨Nat.le_of_ble_eq_true rfl, Nat.le_of_ble_eq_true rfl⟩) (pS hP hK hD hN) rfl rfl hl.1 rfl (lv_room (Nat.le_of_ble_eq_true rfl)) dX12_isHob_13 ⟨(Nat.zero_le _), (Nat.zero_le _)⟩) hS (fun q _ h => hFc q h) hFc (fun r8 u t H1 locs ht hvm hw hB hz1 hk1 hS => ?_)
  have c9 := hw
  obtain ⟨hP, hD⟩ := wd_post hFc ht hB
  generalize H1 = H at hP hS ⊢
  obtain rfl : f_X12_in x1.toInt64 (0 : Int64) (((f_Jx4a65c_size_8abf5 S (S.f o1 1)) - (1 : Int32)).toInt64) = r8 := c9.symm
  have i10 := i64_i x1
  have l64_0 : (0 : Int64).toInt = 0 := rfl
  have l32_1 : (1 : Int32).toInt = 1 := rfl
  have i11 : ((f_Jx4a65c_size_8abf5 S (S.f o1 1)) - (1 : Int32)).toInt = (f_Jx4a65c_size_8abf5 S (S.f o1 1)).toInt - 1 := t_subr (n := 1) rfl (by omega)
  have i12 := i64_i ((f_Jx4a65c_size_8abf5 S (S.f o1 1)) - (1 : Int32))
  have i13 := in_rng x1.toInt64 (0 : Int64) (((f_Jx4a65c_size_8abf5 S (S.f o1 1)) - (1 : Int32)).toInt64)
  refine W.widen (k := 0) (n := 0) (Nat.le_of_ble_eq_true rfl) (Nat.le_of_ble_eq_true rfl) ?_
  exact W.zret (v := f_X12_in x1.toInt64 (0 : Int64) (((f_Jx4a65c_size_8abf5 S (S.f o1 1)) - (1 : Int32)).toInt64)) hx hb hr (f_X12_in_b x1.toInt64 (0 : Int64) (((f_Jx4a65c_size_8abf5 S (S.f o1 1)) - (1 : Int32)).toInt64)) (fun t ht hW9 => ⟨⟨f_X12_in x1.toInt64 (0 : Int64) (((f_Jx4a65c_size_8abf5 S (S.f o1 1)) - (1 : Int32)).toInt64), (), rfl, (by show (f_X12_in x1.toInt64 (0 : Int64) (((f_Jx4a65c_size_8abf5 S (S.f o1 1)) - (1 : Int32)).toInt64)) = f_X12_isHob S o1 x1; unfold f_X12_isHob; rfl), wd_end hP hK hD ht hW9.alike⟩, hS.F ht⟩) hS.2.2 dX12_isHob_16 hlocks
def f_X12_isRatio (x1 : Int32) (x2 : Int32) : Int32 := if (f_X12_in x1.toInt64 (1 : Int64) (9999 : Int64)) = (0 : Int32) then (0 : Int32) else if (f_X12_in x2.toInt64 (1 : Int64) (9999 : Int64)) = (0 : Int32) then (0 : Int32) else (1 : Int32)
theorem f_X12_isRatio_b (x1 : Int32) (x2 : Int32) : narrow .boolean (.int (f_X12_isRatio x1 x2)) = .int (f_X12_isRatio x1 x2) := by
  unfold f_X12_isRatio; (repeat' split) <;> rfl
theorem hd_X12_isRatio : yX12_isRatio.cls = RX12 ∧ yX12_isRatio.cls ≠ "java/lang/invoke/MethodHandle" ∧ yX12_isRatio.cls ≠ "java/lang/invoke/VarHandle" ∧ (parseMethodDescriptor yX12_isRatio.desc).map (fun d => d.parameters.length) = some 2 := by decide +kernel
set_option maxHeartbeats 4000000 in
set_option maxRecDepth 100000 in
theorem c_X12_isRatio (l : Launch) {D : va_G} {cy : Nat → ClassId} {X : va_W} (S : wPS) (sz : Nat) (x1 : Int32) (x2 : Int32)  : Met l yX12_isRatio wsX12_isRatio ({ frames := 1, cells := 0, slots := 0, locals := 25 }) (va_Pc [.int x1, .int x2] (fun U => U.heap.size = sz ∧ WD D cy X (fun _ => True) S U ∧ NW U)) (va_Qi (fun r (_ : Unit) => r = f_X12_isRatio x1 x2) (fun _ t => WD D cy X (va_A (X ++ PL cy S) sz) S t) (va_A (X ++ PL cy S) sz)) 0 0 (va_A (X ++ PL cy S) sz) := by
  refine Met.ofW (cc := cX12_isRatio) (maxL := 2) (ret := (some .boolean)) (by decide) rfl ?_
  intro p e s m args below meth c s₁ B hml hv
  obtain ⟨rfl, hsz, ⟨hP, hK, hD0⟩, hN⟩ := hv
  have hx := B.exec
  have hb := B.bytes
  have hr := B.returns
  have hts := atoms_spec (ws := wsX12_isRatio) B.pre
  have hown : s.vm.findClass RX12 = some m.cls := findClass_of_methodNamed (x := yX12_isRatio) B.named
  have hlocks := B.notSynchronized
  subst hsz
  have hD := hD0.self (sz := s.heap.size)
  generalize hAe : va_A (X ++ PL cy S) s.heap.size = A at hD ⊢
  have hA : ∀ q : Nat, s.heap.size ≤ q → A q := fun q h => by rw [← hAe]; exact Or.inr h
  have hS : va_S A s.heap s.heap [] := va_S.rf
  have hl := lv_entry ([.int x1, .int x2]) (n := 2) (Nat.le_of_ble_eq_true rfl)
  rw [lg_entry_eq]
  generalize (lg_sl ([.int x1, .int x2]) ++ List.replicate (2 - (lg_sl ([.int x1, .int x2])).length) Slot.unset).toArray = ls at hl ⊢
  have hl : lv_has ls 2 [(0, .int x1), (1, .int x2)] := hl
  refine lv_iload_n hx hb dX12_isRatio_0 rfl (lv_at hl 0 rfl) ?_
  refine lv_i2l hx hb dX12_isRatio_1 rfl ?_
  refine lv_lconst (v := 1) hx hb dX12_isRatio_2 (by decide) ?_
  refine lv_ldc2 (own := RX12) (v := 9999) hx hb hown (hts (.constantLong RX12 249 (9999)) (by decide +kernel)) dX12_isRatio_3 ?_
  have hFc := free_all hD hS hA
  refine va_calli (va_runS (As := [.long x1.toInt64, .long (1 : Int64), .long (9999 : Int64)]) (rest := []) ⟨hx, hb, hml, hown, hts⟩ (c_X12_in l (cy := cy) (X := X) (D := D) S _ x1.toInt64 (1 : Int64) (9999 : Int64)) (cwS 3 hts gX12_isRatio_X12_in rfl rfl rfl hd_X12_in ⟨Nat.le_of_ble_eq_true rfl, Nat.le_of_ble_eq_true rfl⟩) (pS hP hK hD hN) rfl rfl hl.1 rfl (lv_room (Nat.le_of_ble_eq_true rfl)) dX12_isRatio_6 ⟨(Nat.zero_le _), (Nat.zero_le _)⟩) hS (fun q _ h => hFc q h) hFc (fun r1 u t H1 locs ht hvm hw hB hz1 hk1 hS => ?_)
  have c2 := hw
  obtain ⟨hP, hD⟩ := wd_post hFc ht hB
  generalize H1 = H at hP hS ⊢
  obtain rfl : f_X12_in x1.toInt64 (1 : Int64) (9999 : Int64) = r1 := c2.symm
  have i3 := i64_i x1
  have l64_1 : (1 : Int64).toInt = 1 := rfl
  have l64_9999 : (9999 : Int64).toInt = 9999 := rfl
  have i4 := in_rng x1.toInt64 (1 : Int64) (9999 : Int64)
  refine lv_if_eq (tgt := 28) hx hb dX12_isRatio_9 (by decide) (fun c5 => ?_) (fun c5 => ?_)
  · have c5i : (f_X12_in x1.toInt64 (1 : Int64) (9999 : Int64)).toInt = 0 := eq_v rfl rfl c5
    refine lv_iconst (v := 0) hx hb dX12_isRatio_28 (by decide) ?_
    refine W.widen (k := 0) (n := 0) (Nat.le_of_ble_eq_true rfl) (Nat.le_of_ble_eq_true rfl) ?_
    exact W.zret (v := (0 : Int32)) hx hb hr (by rfl) (fun t ht hW9 => ⟨⟨(0 : Int32), (), rfl, (by show (0 : Int32) = f_X12_isRatio x1 x2; unfold f_X12_isRatio; rw [if_pos c5]), wd_end hP hK hD ht hW9.alike⟩, hS.F ht⟩) hS.2.2 dX12_isRatio_29 hlocks
  · have c5i : ¬ (f_X12_in x1.toInt64 (1 : Int64) (9999 : Int64)).toInt = 0 := neq_v rfl rfl c5
    refine lv_iload_n hx hb dX12_isRatio_12 rfl (lv_at hl 1 rfl) ?_
    refine lv_i2l hx hb dX12_isRatio_13 rfl ?_
    refine lv_lconst (v := 1) hx hb dX12_isRatio_14 (by decide) ?_
    refine lv_ldc2 (own := RX12) (v := 9999) hx hb hown (hts (.constantLong RX12 249 (9999)) (by decide +kernel)) dX12_isRatio_15 ?_
    have hFc := free_all hD hS hA
    refine va_calli (va_runS (As := [.long x2.toInt64, .long (1 : Int64), .long (9999 : Int64)]) (rest := []) ⟨hx, hb, hml, hown, hts⟩ (c_X12_in l (cy := cy) (X := X) (D := D) S _ x2.toInt64 (1 : Int64) (9999 : Int64)) (cwS 3 hts gX12_isRatio_X12_in rfl rfl rfl hd_X12_in ⟨Nat.le_of_ble_eq_true rfl, Nat.le_of_ble_eq_true rfl⟩) (pS hP hK hD hN) rfl rfl hl.1 rfl (lv_room (Nat.le_of_ble_eq_true rfl)) dX12_isRatio_18 ⟨(Nat.zero_le _), (Nat.zero_le _)⟩) hS (fun q _ h => hFc q h) hFc (fun r6 u t H1 locs ht hvm hw hB hz1 hk1 hS => ?_)
    have c7 := hw
    obtain ⟨hP, hD⟩ := wd_post hFc ht hB
    generalize H1 = H at hP hS ⊢
    obtain rfl : f_X12_in x2.toInt64 (1 : Int64) (9999 : Int64) = r6 := c7.symm
    have i8 := i64_i x2
    have i9 := in_rng x2.toInt64 (1 : Int64) (9999 : Int64)
    refine lv_if_eq (tgt := 28) hx hb dX12_isRatio_21 (by decide) (fun c10 => ?_) (fun c10 => ?_)
    · have c10i : (f_X12_in x2.toInt64 (1 : Int64) (9999 : Int64)).toInt = 0 := eq_v rfl rfl c10
      refine lv_iconst (v := 0) hx hb dX12_isRatio_28 (by decide) ?_
      refine W.widen (k := 0) (n := 0) (Nat.le_of_ble_eq_true rfl) (Nat.le_of_ble_eq_true rfl) ?_
      exact W.zret (v := (0 : Int32)) hx hb hr (by rfl) (fun t ht hW9 => ⟨⟨(0 : Int32), (), rfl, (by show (0 : Int32) = f_X12_isRatio x1 x2; unfold f_X12_isRatio; rw [if_neg c5, if_pos c10]), wd_end hP hK hD ht hW9.alike⟩, hS.F ht⟩) hS.2.2 dX12_isRatio_29 hlocks
    · have c10i : ¬ (f_X12_in x2.toInt64 (1 : Int64) (9999 : Int64)).toInt = 0 := neq_v rfl rfl c10
      refine lv_iconst (v := 1) hx hb dX12_isRatio_24 (by decide) ?_
      refine lv_goto (tgt := 29) hx hb dX12_isRatio_25 (by decide) ?_
      refine W.widen (k := 0) (n := 0) (Nat.le_of_ble_eq_true rfl) (Nat.le_of_ble_eq_true rfl) ?_
      exact W.zret (v := (1 : Int32)) hx hb hr (by rfl) (fun t ht hW9 => ⟨⟨(1 : Int32), (), rfl, (by show (1 : Int32) = f_X12_isRatio x1 x2; unfold f_X12_isRatio; rw [if_neg c5, if_neg c10]), wd_end hP hK hD ht hW9.alike⟩, hS.F ht⟩) hS.2.2 dX12_isRatio_29 hlocks
theorem ig_rng {S : wPS} {a : Nat} (x : Int32) (ok : ok_12 S a) (hW : wtB S []) : (f_X12_isGear S a x).toInt = 0 ∨ (0 ≤ x.toInt ∧ x.toInt < (S.I (S.f a 0) 2).toInt) := by
  have h1 := al_sz ((hW.at ok.F0.2.1 List.not_mem_nil).to_14 ok.F0.2.1.2.1)
  have h2 := in_rng x.toInt64 0 (S.I (S.f a 0) 2 - 1).toInt64
  rw [i64_i, i64_i, t_subr (n := 1) rfl (by omega)] at h2
  have h0 : (0 : Int64).toInt = 0 := rfl
  rw [h0] at h2
  have h3 : f_X12_isGear S a x = f_X12_in x.toInt64 0 (S.I (S.f a 0) 2 - 1).toInt64 := rfl
  rw [h3]; omega
theorem ih_rng {S : wPS} {a : Nat} (x : Int32) (ok : ok_12 S a) (hW : wtB S []) : (f_X12_isHob S a x).toInt = 0 ∨ (0 ≤ x.toInt ∧ x.toInt < (S.I (S.f a 1) 2).toInt) := by
  have h1 := al_sz ((hW.at ok.F1.2.1 List.not_mem_nil).to_14 ok.F1.2.1.2.1)
  have h2 := in_rng x.toInt64 0 (S.I (S.f a 1) 2 - 1).toInt64
  rw [i64_i, i64_i, t_subr (n := 1) rfl (by omega)] at h2
  have h0 : (0 : Int64).toInt = 0 := rfl
  rw [h0] at h2
  have h3 : f_X12_isHob S a x = f_X12_in x.toInt64 0 (S.I (S.f a 1) 2 - 1).toInt64 := rfl
  rw [h3]; omega
theorem ir_rng (x y : Int32) : (f_X12_isRatio x y).toInt = 0 ∨ ((1 ≤ x.toInt ∧ x.toInt ≤ 9999) ∧ 1 ≤ y.toInt ∧ y.toInt ≤ 9999) := by
  have h1 := in_rng x.toInt64 1 9999
  have h2 := in_rng y.toInt64 1 9999
  have l1 : (1 : Int64).toInt = 1 := rfl
  have l2 : (9999 : Int64).toInt = 9999 := rfl
  rw [i64_i, l1, l2] at h1 h2
  unfold f_X12_isRatio
  split
  · exact Or.inl rfl
  · rename_i c1
    split
    · exact Or.inl rfl
    · rename_i c2
      have := neq_i c1; have := neq_i c2
      have l0 : (0 : Int32).toInt = 0 := rfl
      omega
theorem half_rem {x y : Int32} {m : Int} (hy : 0 < y.toInt) (h1 : y.toInt < x.toInt) (h2 : x.toInt < 2 * m) : (x - x / y * y).toInt < m := by
  have h3 := (rem_rng (x := x) (y := y) (by omega) hy)
  have h4 := Int.emod_def x.toInt y.toInt
  have h5 : 1 ≤ x.toInt / y.toInt := (Int.le_ediv_iff_mul_le hy).mpr (by omega)
  have h6 : y.toInt * 1 ≤ y.toInt * (x.toInt / y.toInt) := Int.mul_le_mul_of_nonneg_left h5 (by omega)
  omega
theorem sq2 {a b : Int64} (ha : 3000 ≤ a.toInt ∧ a.toInt ≤ 2000000) (hb : 3000 ≤ b.toInt ∧ b.toInt ≤ 2000000) : 12769 ≤ (a * a + b * b).toInt := by
  have u1 : a.toInt * a.toInt ≤ 2000000 * 2000000 := Int.mul_le_mul ha.2 ha.2 (by omega) (by decide)
  have u2 : b.toInt * b.toInt ≤ 2000000 * 2000000 := Int.mul_le_mul hb.2 hb.2 (by omega) (by decide)
  have v1 : 3000 * 3000 ≤ a.toInt * a.toInt := Int.mul_le_mul ha.1 ha.1 (by decide) (by omega)
  have v2 : 3000 * 3000 ≤ b.toInt * b.toInt := Int.mul_le_mul hb.1 hb.1 (by decide) (by omega)
  have e1 := t64_mul (x := a) (y := a) ⟨by omega, by omega⟩
  have e2 := t64_mul (x := b) (y := b) ⟨by omega, by omega⟩
  rw [t64_add (by rw [e1, e2]; omega), e1, e2]; omega
theorem ac_i {S : wPS} {a : Nat} (ok : ok_10 S a) : 3000 ≤ (f_X10_across S a).toInt ∧ (f_X10_across S a).toInt ≤ 2000000 := by
  have hx := ok.R1; have hy := ok.R2
  have h1 : (S.I a 1).toInt * (S.I a 2).toInt ≤ 200 * 10000 := Int.mul_le_mul hx.2 hy.2 (by omega) (by decide)
  have h2 : 6 * 500 ≤ (S.I a 1).toInt * (S.I a 2).toInt := Int.mul_le_mul hx.1 hy.1 (by decide) (by omega)
  have h3 : (f_X10_across S a).toInt = (S.I a 1).toInt * (S.I a 2).toInt := by
    show ((S.I a 1).toInt64 * (S.I a 2).toInt64).toInt = _
    rw [t64_mul (by rw [i64_i, i64_i]; omega), i64_i, i64_i]
  rw [h3]; omega
theorem mod_sq {x : Int32} (hx : 500 ≤ x.toInt ∧ x.toInt ≤ 10000) : 12769 ≤ (7810 * x.toInt64 * 7810 * x.toInt64 / 137).toInt := by
  have l1 : (7810 : Int64).toInt = 7810 := rfl
  have e0 := i64_i x
  have e1 : ((7810 : Int64) * x.toInt64).toInt = 7810 * x.toInt := by rw [t64_mul (by rw [l1, e0]; omega), l1, e0]
  have e2 : ((7810 : Int64) * x.toInt64 * 7810).toInt = 7810 * x.toInt * 7810 := by rw [t64_mul (by rw [l1, e1]; omega), l1, e1]
  have u : 7810 * x.toInt * 7810 * x.toInt ≤ 7810 * 10000 * 7810 * 10000 := Int.mul_le_mul (by omega) hx.2 (by omega) (by decide)
  have v : 7810 * 500 * 7810 * 500 ≤ 7810 * x.toInt * 7810 * x.toInt := Int.mul_le_mul (by omega) hx.1 (by decide) (by omega)
  have e3 : ((7810 : Int64) * x.toInt64 * 7810 * x.toInt64).toInt = 7810 * x.toInt * 7810 * x.toInt := by rw [t64_mul (by rw [e2, e0]; omega), e2, e0]
  rw [t64_divl (n := 137) rfl (by omega) (by decide), e3]
  omega
theorem d113 {r : Int64} (h : 113 ≤ r.toInt) : ¬ r / 113 = 0 := fun e => by
  have h1 := t64_divl (x := r) (y := 113) (n := 113) rfl (by omega) (by decide)
  rw [e] at h1
  have h4 : (0 : Int64).toInt = 0 := rfl
  omega
theorem d2 {r : Int64} (h : 113 ≤ r.toInt) : ¬ r / 2 = 0 := fun e => by
  have h1 := t64_divl (x := r) (y := 2) (n := 2) rfl (by omega) (by decide)
  rw [e] at h1
  have h4 : (0 : Int64).toInt = 0 := rfl
  omega
def f_X12_gearAt (S : wPS) (o1 : Nat) (x1 : Int32) : Nat := l1 (f_Jx4a65c_get_915e3 S (S.f o1 0) x1) (fun r4 => r4)
theorem hi_X12_gearAt_X12 : ∀ w ∈ u_ws RX12 TX12 34, w ∈ wsX12_gearAt := by decide +kernel
theorem hd_X12_gearAt : yX12_gearAt.cls = RX12 ∧ yX12_gearAt.cls ≠ "java/lang/invoke/MethodHandle" ∧ yX12_gearAt.cls ≠ "java/lang/invoke/VarHandle" ∧ (parseMethodDescriptor yX12_gearAt.desc).map (fun d => d.parameters.length) = some 1 := by decide +kernel
set_option maxHeartbeats 4000000 in
set_option maxRecDepth 100000 in
theorem c_X12_gearAt (l : Launch) {D : va_G} {cy : Nat → ClassId} {X : va_W} (S : wPS) (sz : Nat) (o1 : Nat) (h_o1 : isA S o1 12) (x1 : Int32) (hW : wtB S []) (g1 : 0 ≤ x1.toInt ∧ x1.toInt < (S.I (S.f o1 0) 2).toInt) : Met l yX12_gearAt wsX12_gearAt ({ frames := 3, cells := 0, slots := 0, locals := 64 }) (va_Pc [.ref o1, .int x1] (fun U => U.heap.size = sz ∧ WD D cy X (fun _ => True) S U ∧ NW U)) (va_Qq (fun r (_ : Unit) => ∃ a : Nat, r = some a ∧ a = f_X12_gearAt S o1 x1 ∧ isA S a 10) (fun _ t => WD D cy X (va_A (X ++ PL cy S) sz) S t) (va_A (X ++ PL cy S) sz)) 0 0 (va_A (X ++ PL cy S) sz) := by
  refine Met.ofW (cc := cX12_gearAt) (maxL := 2) (ret := (some (.object "HobhouseModel$Gear"))) (by decide) rfl ?_
  intro p e s m args below meth c s₁ B hml hv
  obtain ⟨rfl, hsz, ⟨hP, hK, hD0⟩, hN⟩ := hv
  have hx := B.exec
  have hb := B.bytes
  have hr := B.returns
  have hts := atoms_spec (ws := wsX12_gearAt) B.pre
  have hown : s.vm.findClass RX12 = some m.cls := findClass_of_methodNamed (x := yX12_gearAt) B.named
  have hlocks := B.notSynchronized
  subst hsz
  have hD := hD0.self (sz := s.heap.size)
  generalize hAe : va_A (X ++ PL cy S) s.heap.size = A at hD ⊢
  have hA : ∀ q : Nat, s.heap.size ≤ q → A q := fun q h => by rw [← hAe]; exact Or.inr h
  have hS : va_S A s.heap s.heap [] := va_S.rf
  have hl := lv_entry ([.ref o1, .int x1]) (n := 2) (Nat.le_of_ble_eq_true rfl)
  rw [lg_entry_eq]
  generalize (lg_sl ([.ref o1, .int x1]) ++ List.replicate (2 - (lg_sl ([.ref o1, .int x1])).length) Slot.unset).toArray = ls at hl ⊢
  have hl : lv_has ls 2 [(0, .ref o1), (1, .int x1)] := hl
  refine lv_aload_n hx hb dX12_gearAt_0 rfl (lv_at hl 0 rfl) ?_
  have F1 := ((hW.at h_o1 List.not_mem_nil).to_12 h_o1.2.1).F0
  obtain ⟨k2, gk2, hk2⟩ := wGt (cy := cy) X S h_o1.1 h_o1.2.1
  simp only [kE, F1.1] at hk2
  refine va_get (D := D) (ci := 16) (v := .ref (S.f o1 0)) (C := RX12) (T := TX12) (N := 34) hx hb hts hi_X12_gearAt_X12 hown hK hP k2 hk2 rfl 0 (by decide) (hts (.fieldLink RX12 24 "HobhouseModel" "gears" "Ljava/util/ArrayList;") (by decide +kernel)) (fun _ h9 => h9) rfl dX12_gearAt_1 ?_
  refine lv_iload_n hx hb dX12_gearAt_4 rfl (lv_at hl 1 rfl) ?_
  have hFc := free_all hD hS hA
  obtain ⟨k3, gk3, hk3⟩ := wGt (cy := cy) X S F1.2.1.1 F1.2.1.2.1
  refine va_callq (va_runV (As := [.int x1]) (rest := []) ⟨hx, hb, hml, hown, hts⟩ (c_Jx4a65c_get_915e3 l (cy := cy) (X := X) (D := D) S _ (S.f o1 0) F1.2.1 x1 (hW) (by omega)) (cwV 1 hts gX12_gearAt_Jx4a65c_get_915e3 rfl rfl rfl hd_Jx4a65c_get_915e3 ⟨Nat.le_of_ble_eq_true rfl, Nat.le_of_ble_eq_true rfl⟩) (pV (va_recv hK hP (q := (RJx4a65c, TJx4a65c, 3)) (ci := 3) (q0 := k3) rfl hk3) hP hK hD hN) rfl rfl hl.1 rfl (lv_room (Nat.le_of_ble_eq_true rfl)) dX12_gearAt_5 ⟨(Nat.zero_le _), (Nat.zero_le _)⟩) hS (fun q _ h => hFc q h) hFc (fun r4 u t H1 locs ht hvm hw hB hz1 hk1 hS => ?_)
  obtain ⟨r4, rfl, c5, o6⟩ := hw
  obtain ⟨hP, hD⟩ := wd_post hFc ht hB
  generalize H1 = H at hP hS ⊢
  have o6k : isA S r4 10 := by rw [← show _ = 10 from F1.2.2]; exact o6
  refine W.eq (g2 := F0 m 8 ls [.ref r4]) rfl ?_
  obtain ⟨k7, gk7, hk7⟩ := wGt (cy := cy) X S o6k.1 o6k.2.1
  refine va_castS (nm := "HobhouseModel$Gear") hx hb hown (hts (.classLink RX12 109 "HobhouseModel$Gear") (by decide +kernel)) (hK.1 14 _ rfl).2 (va_recv hK hP (ci := 14) (q0 := k7) rfl hk7) dX12_gearAt_8 ?_
  refine W.widen (k := 0) (n := 0) (Nat.le_of_ble_eq_true rfl) (Nat.le_of_ble_eq_true rfl) ?_
  exact W.aret (v := .ref r4) hx hb hr (Or.inl ⟨_, rfl⟩) (Or.inr ⟨_, rfl⟩) (fun t ht hW9 => ⟨⟨some r4, (), rfl, ⟨r4, rfl, (by show r4 = f_X12_gearAt S o1 x1; unfold f_X12_gearAt; rw [l1_eq c5.symm]), o6k⟩, wd_end hP hK hD ht hW9.alike⟩, hS.F ht⟩) hS.2.2 dX12_gearAt_11 hlocks
def f_X12_thrown (S : wPS) (o1 : Nat) : Int32 := S.I o1 15
theorem hi_X12_thrown_X12 : ∀ w ∈ u_ws RX12 TX12 34, w ∈ wsX12_thrown := by decide +kernel
theorem hd_X12_thrown : yX12_thrown.cls = RX12 ∧ yX12_thrown.cls ≠ "java/lang/invoke/MethodHandle" ∧ yX12_thrown.cls ≠ "java/lang/invoke/VarHandle" ∧ (parseMethodDescriptor yX12_thrown.desc).map (fun d => d.parameters.length) = some 0 := by decide +kernel
set_option maxHeartbeats 4000000 in
set_option maxRecDepth 100000 in
theorem c_X12_thrown (l : Launch) {D : va_G} {cy : Nat → ClassId} {X : va_W} (S : wPS) (sz : Nat) (o1 : Nat) (h_o1 : isA S o1 12)  : Met l yX12_thrown wsX12_thrown ({ frames := 0, cells := 0, slots := 0, locals := 0 }) (va_Pc [.ref o1] (fun U => U.heap.size = sz ∧ WD D cy X (fun _ => True) S U ∧ NW U)) (va_Qi (fun r (_ : Unit) => r = f_X12_thrown S o1) (fun _ t => WD D cy X (va_A (X ++ PL cy S) sz) S t) (va_A (X ++ PL cy S) sz)) 0 0 (va_A (X ++ PL cy S) sz) := by
  refine Met.ofW (cc := cX12_thrown) (maxL := 1) (ret := (some .int)) (by decide) rfl ?_
  intro p e s m args below meth c s₁ B hml hv
  obtain ⟨rfl, hsz, ⟨hP, hK, hD0⟩, hN⟩ := hv
  have hx := B.exec
  have hb := B.bytes
  have hr := B.returns
  have hts := atoms_spec (ws := wsX12_thrown) B.pre
  have hown : s.vm.findClass RX12 = some m.cls := findClass_of_methodNamed (x := yX12_thrown) B.named
  have hlocks := B.notSynchronized
  subst hsz
  have hD := hD0.self (sz := s.heap.size)
  generalize hAe : va_A (X ++ PL cy S) s.heap.size = A at hD ⊢
  have hA : ∀ q : Nat, s.heap.size ≤ q → A q := fun q h => by rw [← hAe]; exact Or.inr h
  have hS : va_S A s.heap s.heap [] := va_S.rf
  have hl := lv_entry ([.ref o1]) (n := 1) (Nat.le_of_ble_eq_true rfl)
  rw [lg_entry_eq]
  generalize (lg_sl ([.ref o1]) ++ List.replicate (1 - (lg_sl ([.ref o1])).length) Slot.unset).toArray = ls at hl ⊢
  have hl : lv_has ls 1 [(0, .ref o1)] := hl
  refine lv_aload_n hx hb dX12_thrown_0 rfl (lv_at hl 0 rfl) ?_
  obtain ⟨k1, gk1, hk1⟩ := wGt (cy := cy) X S h_o1.1 h_o1.2.1
  refine va_get (D := D) (ci := 16) (v := .int (S.I o1 15)) (C := RX12) (T := TX12) (N := 34) hx hb hts hi_X12_thrown_X12 hown hK hP k1 hk1 rfl 15 (by decide) (hts (.fieldLink RX12 94 "HobhouseModel" "thrown" "I") (by decide +kernel)) (fun _ h9 => h9) rfl dX12_thrown_1 ?_
  refine W.widen (k := 0) (n := 0) (Nat.le_of_ble_eq_true rfl) (Nat.le_of_ble_eq_true rfl) ?_
  exact W.iret (v := S.I o1 15) hx hb hr (fun t ht hW9 => ⟨⟨S.I o1 15, (), rfl, (by show (S.I o1 15) = f_X12_thrown S o1; unfold f_X12_thrown; rfl), wd_end hP hK hD ht hW9.alike⟩, hS.F ht⟩) hS.2.2 dX12_thrown_4 hlocks
def f_X12_fails (S : wPS) (o1 : Nat) (x1 : Int32) : (Int32 × wPS) := l1 (S.sI o1 15 x1) (fun S2 => ((0 : Int32), S2))
theorem hi_X12_fails_X12 : ∀ w ∈ u_ws RX12 TX12 34, w ∈ wsX12_fails := by decide +kernel
theorem hd_X12_fails : yX12_fails.cls = RX12 ∧ yX12_fails.cls ≠ "java/lang/invoke/MethodHandle" ∧ yX12_fails.cls ≠ "java/lang/invoke/VarHandle" ∧ (parseMethodDescriptor yX12_fails.desc).map (fun d => d.parameters.length) = some 1 := by decide +kernel
set_option maxHeartbeats 4000000 in
set_option maxRecDepth 100000 in
theorem c_X12_fails (l : Launch) {D : va_G} {cy : Nat → ClassId} {X : va_W} (S : wPS) (sz : Nat) (o1 : Nat) (h_o1 : isA S o1 12) (x1 : Int32) (hW : wtB S [])  : Met l yX12_fails wsX12_fails ({ frames := 0, cells := 0, slots := 0, locals := 0 }) (va_Pc [.ref o1, .int x1] (fun U => U.heap.size = sz ∧ WD D cy X (fun _ => True) S U ∧ NW U)) (va_Qi (fun r (u : wPS) => (r, u) = f_X12_fails S o1 x1 ∧ stp [(12, 15)] [] [] S u) (fun u t => WD D cy X (va_A (X ++ PL cy S) sz) u t) (va_A (X ++ PL cy S) sz)) 0 0 (va_A (X ++ PL cy S) sz) := by
  refine Met.ofW (cc := cX12_fails) (maxL := 2) (ret := (some .int)) (by decide) rfl ?_
  intro p e s m args below meth c s₁ B hml hv
  obtain ⟨rfl, hsz, ⟨hP, hK, hD0⟩, hN⟩ := hv
  have hx := B.exec
  have hb := B.bytes
  have hr := B.returns
  have hts := atoms_spec (ws := wsX12_fails) B.pre
  have hown : s.vm.findClass RX12 = some m.cls := findClass_of_methodNamed (x := yX12_fails) B.named
  have hlocks := B.notSynchronized
  subst hsz
  have hD := hD0.self (sz := s.heap.size)
  generalize hAe : va_A (X ++ PL cy S) s.heap.size = A at hD ⊢
  have hA : ∀ q : Nat, s.heap.size ≤ q → A q := fun q h => by rw [← hAe]; exact Or.inr h
  have hS : va_S A s.heap s.heap [] := va_S.rf
  have hl := lv_entry ([.ref o1, .int x1]) (n := 2) (Nat.le_of_ble_eq_true rfl)
  rw [lg_entry_eq]
  generalize (lg_sl ([.ref o1, .int x1]) ++ List.replicate (2 - (lg_sl ([.ref o1, .int x1])).length) Slot.unset).toArray = ls at hl ⊢
  have hl : lv_has ls 2 [(0, .ref o1), (1, .int x1)] := hl
  have t0 : stp [(12, 15)] [] [] S S := stp.rf hW
  refine lv_aload_n hx hb dX12_fails_0 rfl (lv_at hl 0 rfl) ?_
  refine lv_iload_n hx hb dX12_fails_1 rfl (lv_at hl 1 rfl) ?_
  obtain ⟨k1, gk1, hk1⟩ := wGt (cy := cy) X S h_o1.1 h_o1.2.1
  refine va_put (D := D) (ci := 16) (v := .int x1) (ty := .int) (C := RX12) (T := TX12) (N := 34) hx hb hts hi_X12_fails_X12 tyX12 tyX12_ok nmX12 hown hK hP hD hS k1 hk1 rfl 15 (by decide) (hts (.fieldLink RX12 94 "HobhouseModel" "thrown" "I") (by decide +kernel)) (fun _ h9 => h9) rfl (by decide +kernel) (rfl) (rfl) (Nat.le_of_ble_eq_true rfl) dX12_fails_2 (fun H locs hP2 hD2 hS => ?_)
  have e9 := wPuI (cy := cy) (j := 15) (v := x1) hD h_o1.1 h_o1.2.1 gk1 rfl
  obtain ⟨S2, hS2⟩ : ∃ z, S.sI o1 15 x1 = z := ⟨_, rfl⟩
  have hP : va_P D vwCl (X ++ PL cy S2) H := by rw [← hS2, ← e9]; exact hP2
  have hD : va_D A (X ++ PL cy S2) := by rw [← hS2, ← e9]; exact hD2
  have xe3 : ext S S2 := by rw [← hS2]; exact ext.sI _ _ _ _
  have t4 : stp [(12, 15)] [] [] S S2 := by rw [← hS2]; exact t0.I 15 x1 h_o1 (by decide) (trivial) (Or.inl (by decide))
  refine lv_iconst (v := 0) hx hb dX12_fails_5 (by decide) ?_
  refine W.widen (k := 0) (n := 0) (Nat.le_of_ble_eq_true rfl) (Nat.le_of_ble_eq_true rfl) ?_
  exact W.iret (v := (0 : Int32)) hx hb hr (fun t ht hW9 => ⟨⟨(0 : Int32), S2, rfl, ⟨(by show ((0 : Int32), S2) = f_X12_fails S o1 x1; unfold f_X12_fails; rw [l1_eq hS2]), t4⟩, wd_end hP hK hD ht hW9.alike⟩, hS.F ht⟩) hS.2.2 dX12_fails_6 hlocks
def f_X12_answer (S : wPS) (o1 : Nat) (x1 : Int32) : (Int32 × wPS) := l1 (S.sI o1 15 (0 : Int32)) (fun S2 => (x1, S2))
theorem hi_X12_answer_X12 : ∀ w ∈ u_ws RX12 TX12 34, w ∈ wsX12_answer := by decide +kernel
theorem hd_X12_answer : yX12_answer.cls = RX12 ∧ yX12_answer.cls ≠ "java/lang/invoke/MethodHandle" ∧ yX12_answer.cls ≠ "java/lang/invoke/VarHandle" ∧ (parseMethodDescriptor yX12_answer.desc).map (fun d => d.parameters.length) = some 1 := by decide +kernel
set_option maxHeartbeats 4000000 in
set_option maxRecDepth 100000 in
theorem c_X12_answer (l : Launch) {D : va_G} {cy : Nat → ClassId} {X : va_W} (S : wPS) (sz : Nat) (o1 : Nat) (h_o1 : isA S o1 12) (x1 : Int32) (hW : wtB S [])  : Met l yX12_answer wsX12_answer ({ frames := 0, cells := 0, slots := 0, locals := 0 }) (va_Pc [.ref o1, .int x1] (fun U => U.heap.size = sz ∧ WD D cy X (fun _ => True) S U ∧ NW U)) (va_Qi (fun r (u : wPS) => (r, u) = f_X12_answer S o1 x1 ∧ stp [(12, 15)] [] [] S u) (fun u t => WD D cy X (va_A (X ++ PL cy S) sz) u t) (va_A (X ++ PL cy S) sz)) 0 0 (va_A (X ++ PL cy S) sz) := by
  refine Met.ofW (cc := cX12_answer) (maxL := 2) (ret := (some .int)) (by decide) rfl ?_
  intro p e s m args below meth c s₁ B hml hv
  obtain ⟨rfl, hsz, ⟨hP, hK, hD0⟩, hN⟩ := hv
  have hx := B.exec
  have hb := B.bytes
  have hr := B.returns
  have hts := atoms_spec (ws := wsX12_answer) B.pre
  have hown : s.vm.findClass RX12 = some m.cls := findClass_of_methodNamed (x := yX12_answer) B.named
  have hlocks := B.notSynchronized
  subst hsz
  have hD := hD0.self (sz := s.heap.size)
  generalize hAe : va_A (X ++ PL cy S) s.heap.size = A at hD ⊢
  have hA : ∀ q : Nat, s.heap.size ≤ q → A q := fun q h => by rw [← hAe]; exact Or.inr h
  have hS : va_S A s.heap s.heap [] := va_S.rf
  have hl := lv_entry ([.ref o1, .int x1]) (n := 2) (Nat.le_of_ble_eq_true rfl)
  rw [lg_entry_eq]
  generalize (lg_sl ([.ref o1, .int x1]) ++ List.replicate (2 - (lg_sl ([.ref o1, .int x1])).length) Slot.unset).toArray = ls at hl ⊢
  have hl : lv_has ls 2 [(0, .ref o1), (1, .int x1)] := hl
  have t0 : stp [(12, 15)] [] [] S S := stp.rf hW
  refine lv_aload_n hx hb dX12_answer_0 rfl (lv_at hl 0 rfl) ?_
  refine lv_iconst (v := 0) hx hb dX12_answer_1 (by decide) ?_
  obtain ⟨k1, gk1, hk1⟩ := wGt (cy := cy) X S h_o1.1 h_o1.2.1
  refine va_put (D := D) (ci := 16) (v := .int (0 : Int32)) (ty := .int) (C := RX12) (T := TX12) (N := 34) hx hb hts hi_X12_answer_X12 tyX12 tyX12_ok nmX12 hown hK hP hD hS k1 hk1 rfl 15 (by decide) (hts (.fieldLink RX12 94 "HobhouseModel" "thrown" "I") (by decide +kernel)) (fun _ h9 => h9) rfl (by decide +kernel) (rfl) (rfl) (Nat.le_of_ble_eq_true rfl) dX12_answer_2 (fun H locs hP2 hD2 hS => ?_)
  have e9 := wPuI (cy := cy) (j := 15) (v := (0 : Int32)) hD h_o1.1 h_o1.2.1 gk1 rfl
  obtain ⟨S2, hS2⟩ : ∃ z, S.sI o1 15 (0 : Int32) = z := ⟨_, rfl⟩
  have hP : va_P D vwCl (X ++ PL cy S2) H := by rw [← hS2, ← e9]; exact hP2
  have hD : va_D A (X ++ PL cy S2) := by rw [← hS2, ← e9]; exact hD2
  have xe3 : ext S S2 := by rw [← hS2]; exact ext.sI _ _ _ _
  have t4 : stp [(12, 15)] [] [] S S2 := by rw [← hS2]; exact t0.I 15 (0 : Int32) h_o1 (by decide) (trivial) (Or.inl (by decide))
  refine lv_iload_n hx hb dX12_answer_5 rfl (lv_at hl 1 rfl) ?_
  refine W.widen (k := 0) (n := 0) (Nat.le_of_ble_eq_true rfl) (Nat.le_of_ble_eq_true rfl) ?_
  exact W.iret (v := x1) hx hb hr (fun t ht hW9 => ⟨⟨x1, S2, rfl, ⟨(by show (x1, S2) = f_X12_answer S o1 x1; unfold f_X12_answer; rw [l1_eq hS2]), t4⟩, wd_end hP hK hD ht hW9.alike⟩, hS.F ht⟩) hS.2.2 dX12_answer_6 hlocks
def f_X12_answerLong (S : wPS) (o1 : Nat) (x1 : Int64) : (Int64 × wPS) := l1 (S.sI o1 15 (0 : Int32)) (fun S2 => (x1, S2))
theorem hi_X12_answerLong_X12 : ∀ w ∈ u_ws RX12 TX12 34, w ∈ wsX12_answerLong := by decide +kernel
theorem hd_X12_answerLong : yX12_answerLong.cls = RX12 ∧ yX12_answerLong.cls ≠ "java/lang/invoke/MethodHandle" ∧ yX12_answerLong.cls ≠ "java/lang/invoke/VarHandle" ∧ (parseMethodDescriptor yX12_answerLong.desc).map (fun d => d.parameters.length) = some 1 := by decide +kernel
set_option maxHeartbeats 4000000 in
set_option maxRecDepth 100000 in
theorem c_X12_answerLong (l : Launch) {D : va_G} {cy : Nat → ClassId} {X : va_W} (S : wPS) (sz : Nat) (o1 : Nat) (h_o1 : isA S o1 12) (x1 : Int64) (hW : wtB S [])  : Met l yX12_answerLong wsX12_answerLong ({ frames := 0, cells := 0, slots := 0, locals := 0 }) (va_Pc [.ref o1, .long x1] (fun U => U.heap.size = sz ∧ WD D cy X (fun _ => True) S U ∧ NW U)) (va_Ql (fun r (u : wPS) => (r, u) = f_X12_answerLong S o1 x1 ∧ stp [(12, 15)] [] [] S u) (fun u t => WD D cy X (va_A (X ++ PL cy S) sz) u t) (va_A (X ++ PL cy S) sz)) 0 0 (va_A (X ++ PL cy S) sz) := by
  refine Met.ofW (cc := cX12_answerLong) (maxL := 3) (ret := (some .long)) (by decide) rfl ?_
  intro p e s m args below meth c s₁ B hml hv
  obtain ⟨rfl, hsz, ⟨hP, hK, hD0⟩, hN⟩ := hv
  have hx := B.exec
  have hb := B.bytes
  have hr := B.returns
  have hts := atoms_spec (ws := wsX12_answerLong) B.pre
  have hown : s.vm.findClass RX12 = some m.cls := findClass_of_methodNamed (x := yX12_answerLong) B.named
  have hlocks := B.notSynchronized
  subst hsz
  have hD := hD0.self (sz := s.heap.size)
  generalize hAe : va_A (X ++ PL cy S) s.heap.size = A at hD ⊢
  have hA : ∀ q : Nat, s.heap.size ≤ q → A q := fun q h => by rw [← hAe]; exact Or.inr h
  have hS : va_S A s.heap s.heap [] := va_S.rf
  have hl := lv_entry ([.ref o1, .long x1]) (n := 3) (Nat.le_of_ble_eq_true rfl)
  rw [lg_entry_eq]
  generalize (lg_sl ([.ref o1, .long x1]) ++ List.replicate (3 - (lg_sl ([.ref o1, .long x1])).length) Slot.unset).toArray = ls at hl ⊢
  have hl : lv_has ls 3 [(0, .ref o1), (1, .long x1)] := hl
  have t0 : stp [(12, 15)] [] [] S S := stp.rf hW
  refine lv_aload_n hx hb dX12_answerLong_0 rfl (lv_at hl 0 rfl) ?_
  refine lv_iconst (v := 0) hx hb dX12_answerLong_1 (by decide) ?_
  obtain ⟨k1, gk1, hk1⟩ := wGt (cy := cy) X S h_o1.1 h_o1.2.1
  refine va_put (D := D) (ci := 16) (v := .int (0 : Int32)) (ty := .int) (C := RX12) (T := TX12) (N := 34) hx hb hts hi_X12_answerLong_X12 tyX12 tyX12_ok nmX12 hown hK hP hD hS k1 hk1 rfl 15 (by decide) (hts (.fieldLink RX12 94 "HobhouseModel" "thrown" "I") (by decide +kernel)) (fun _ h9 => h9) rfl (by decide +kernel) (rfl) (rfl) (Nat.le_of_ble_eq_true rfl) dX12_answerLong_2 (fun H locs hP2 hD2 hS => ?_)
  have e9 := wPuI (cy := cy) (j := 15) (v := (0 : Int32)) hD h_o1.1 h_o1.2.1 gk1 rfl
  obtain ⟨S2, hS2⟩ : ∃ z, S.sI o1 15 (0 : Int32) = z := ⟨_, rfl⟩
  have hP : va_P D vwCl (X ++ PL cy S2) H := by rw [← hS2, ← e9]; exact hP2
  have hD : va_D A (X ++ PL cy S2) := by rw [← hS2, ← e9]; exact hD2
  have xe3 : ext S S2 := by rw [← hS2]; exact ext.sI _ _ _ _
  have t4 : stp [(12, 15)] [] [] S S2 := by rw [← hS2]; exact t0.I 15 (0 : Int32) h_o1 (by decide) (trivial) (Or.inl (by decide))
  refine lv_lload_n hx hb dX12_answerLong_5 rfl (lv_at hl 1 rfl) ?_
  refine W.widen (k := 0) (n := 0) (Nat.le_of_ble_eq_true rfl) (Nat.le_of_ble_eq_true rfl) ?_
  exact W.lret (v := x1) hx hb hr (fun t ht hW9 => ⟨⟨x1, S2, rfl, ⟨(by show (x1, S2) = f_X12_answerLong S o1 x1; unfold f_X12_answerLong; rw [l1_eq hS2]), t4⟩, wd_end hP hK hD ht hW9.alike⟩, hS.F ht⟩) hS.2.2 dX12_answerLong_6 hlocks
def f_X12_refuses (S : wPS) (o1 : Nat) (x1 : Int32) : (Int32 × wPS) := l1 (S.sI o1 15 x1) (fun S2 => ((0 : Int32), S2))
theorem hi_X12_refuses_X12 : ∀ w ∈ u_ws RX12 TX12 34, w ∈ wsX12_refuses := by decide +kernel
theorem hd_X12_refuses : yX12_refuses.cls = RX12 ∧ yX12_refuses.cls ≠ "java/lang/invoke/MethodHandle" ∧ yX12_refuses.cls ≠ "java/lang/invoke/VarHandle" ∧ (parseMethodDescriptor yX12_refuses.desc).map (fun d => d.parameters.length) = some 1 := by decide +kernel
set_option maxHeartbeats 4000000 in
set_option maxRecDepth 100000 in
theorem c_X12_refuses (l : Launch) {D : va_G} {cy : Nat → ClassId} {X : va_W} (S : wPS) (sz : Nat) (o1 : Nat) (h_o1 : isA S o1 12) (x1 : Int32) (hW : wtB S [])  : Met l yX12_refuses wsX12_refuses ({ frames := 0, cells := 0, slots := 0, locals := 0 }) (va_Pc [.ref o1, .int x1] (fun U => U.heap.size = sz ∧ WD D cy X (fun _ => True) S U ∧ NW U)) (va_Qi (fun r (u : wPS) => (r, u) = f_X12_refuses S o1 x1 ∧ stp [(12, 15)] [] [] S u ∧ narrow .boolean (.int r) = .int r) (fun u t => WD D cy X (va_A (X ++ PL cy S) sz) u t) (va_A (X ++ PL cy S) sz)) 0 0 (va_A (X ++ PL cy S) sz) := by
  refine Met.ofW (cc := cX12_refuses) (maxL := 2) (ret := (some .boolean)) (by decide) rfl ?_
  intro p e s m args below meth c s₁ B hml hv
  obtain ⟨rfl, hsz, ⟨hP, hK, hD0⟩, hN⟩ := hv
  have hx := B.exec
  have hb := B.bytes
  have hr := B.returns
  have hts := atoms_spec (ws := wsX12_refuses) B.pre
  have hown : s.vm.findClass RX12 = some m.cls := findClass_of_methodNamed (x := yX12_refuses) B.named
  have hlocks := B.notSynchronized
  subst hsz
  have hD := hD0.self (sz := s.heap.size)
  generalize hAe : va_A (X ++ PL cy S) s.heap.size = A at hD ⊢
  have hA : ∀ q : Nat, s.heap.size ≤ q → A q := fun q h => by rw [← hAe]; exact Or.inr h
  have hS : va_S A s.heap s.heap [] := va_S.rf
  have hl := lv_entry ([.ref o1, .int x1]) (n := 2) (Nat.le_of_ble_eq_true rfl)
  rw [lg_entry_eq]
  generalize (lg_sl ([.ref o1, .int x1]) ++ List.replicate (2 - (lg_sl ([.ref o1, .int x1])).length) Slot.unset).toArray = ls at hl ⊢
  have hl : lv_has ls 2 [(0, .ref o1), (1, .int x1)] := hl
  have t0 : stp [(12, 15)] [] [] S S := stp.rf hW
  refine lv_aload_n hx hb dX12_refuses_0 rfl (lv_at hl 0 rfl) ?_
  refine lv_iload_n hx hb dX12_refuses_1 rfl (lv_at hl 1 rfl) ?_
  obtain ⟨k1, gk1, hk1⟩ := wGt (cy := cy) X S h_o1.1 h_o1.2.1
  refine va_put (D := D) (ci := 16) (v := .int x1) (ty := .int) (C := RX12) (T := TX12) (N := 34) hx hb hts hi_X12_refuses_X12 tyX12 tyX12_ok nmX12 hown hK hP hD hS k1 hk1 rfl 15 (by decide) (hts (.fieldLink RX12 94 "HobhouseModel" "thrown" "I") (by decide +kernel)) (fun _ h9 => h9) rfl (by decide +kernel) (rfl) (rfl) (Nat.le_of_ble_eq_true rfl) dX12_refuses_2 (fun H locs hP2 hD2 hS => ?_)
  have e9 := wPuI (cy := cy) (j := 15) (v := x1) hD h_o1.1 h_o1.2.1 gk1 rfl
  obtain ⟨S2, hS2⟩ : ∃ z, S.sI o1 15 x1 = z := ⟨_, rfl⟩
  have hP : va_P D vwCl (X ++ PL cy S2) H := by rw [← hS2, ← e9]; exact hP2
  have hD : va_D A (X ++ PL cy S2) := by rw [← hS2, ← e9]; exact hD2
  have xe3 : ext S S2 := by rw [← hS2]; exact ext.sI _ _ _ _
  have t4 : stp [(12, 15)] [] [] S S2 := by rw [← hS2]; exact t0.I 15 x1 h_o1 (by decide) (trivial) (Or.inl (by decide))
  refine lv_iconst (v := 0) hx hb dX12_refuses_5 (by decide) ?_
  refine W.widen (k := 0) (n := 0) (Nat.le_of_ble_eq_true rfl) (Nat.le_of_ble_eq_true rfl) ?_
  exact W.zret (v := (0 : Int32)) hx hb hr (by rfl) (fun t ht hW9 => ⟨⟨(0 : Int32), S2, rfl, ⟨(by show ((0 : Int32), S2) = f_X12_refuses S o1 x1; unfold f_X12_refuses; rw [l1_eq hS2]), t4, (by rfl)⟩, wd_end hP hK hD ht hW9.alike⟩, hS.F ht⟩) hS.2.2 dX12_refuses_6 hlocks
def f_X12_says (S : wPS) (o1 : Nat) (x1 : Int32) : (Int32 × wPS) := l1 (S.sI o1 15 (0 : Int32)) (fun S2 => (x1, S2))
theorem hi_X12_says_X12 : ∀ w ∈ u_ws RX12 TX12 34, w ∈ wsX12_says := by decide +kernel
theorem hd_X12_says : yX12_says.cls = RX12 ∧ yX12_says.cls ≠ "java/lang/invoke/MethodHandle" ∧ yX12_says.cls ≠ "java/lang/invoke/VarHandle" ∧ (parseMethodDescriptor yX12_says.desc).map (fun d => d.parameters.length) = some 1 := by decide +kernel
set_option maxHeartbeats 4000000 in
set_option maxRecDepth 100000 in
theorem c_X12_says (l : Launch) {D : va_G} {cy : Nat → ClassId} {X : va_W} (S : wPS) (sz : Nat) (o1 : Nat) (h_o1 : isA S o1 12) (x1 : Int32) (hW : wtB S []) (hb1 : narrow .boolean (.int x1) = .int x1) : Met l yX12_says wsX12_says ({ frames := 0, cells := 0, slots := 0, locals := 0 }) (va_Pc [.ref o1, .int x1] (fun U => U.heap.size = sz ∧ WD D cy X (fun _ => True) S U ∧ NW U)) (va_Qi (fun r (u : wPS) => (r, u) = f_X12_says S o1 x1 ∧ stp [(12, 15)] [] [] S u ∧ narrow .boolean (.int r) = .int r) (fun u t => WD D cy X (va_A (X ++ PL cy S) sz) u t) (va_A (X ++ PL cy S) sz)) 0 0 (va_A (X ++ PL cy S) sz) := by
  refine Met.ofW (cc := cX12_says) (maxL := 2) (ret := (some .boolean)) (by decide) rfl ?_
  intro p e s m args below meth c s₁ B hml hv
  obtain ⟨rfl, hsz, ⟨hP, hK, hD0⟩, hN⟩ := hv
  have hx := B.exec
  have hb := B.bytes
  have hr := B.returns
  have hts := atoms_spec (ws := wsX12_says) B.pre
  have hown : s.vm.findClass RX12 = some m.cls := findClass_of_methodNamed (x := yX12_says) B.named
  have hlocks := B.notSynchronized
  subst hsz
  have hD := hD0.self (sz := s.heap.size)
  generalize hAe : va_A (X ++ PL cy S) s.heap.size = A at hD ⊢
  have hA : ∀ q : Nat, s.heap.size ≤ q → A q := fun q h => by rw [← hAe]; exact Or.inr h
  have hS : va_S A s.heap s.heap [] := va_S.rf
  have hl := lv_entry ([.ref o1, .int x1]) (n := 2) (Nat.le_of_ble_eq_true rfl)
  rw [lg_entry_eq]
  generalize (lg_sl ([.ref o1, .int x1]) ++ List.replicate (2 - (lg_sl ([.ref o1, .int x1])).length) Slot.unset).toArray = ls at hl ⊢
  have hl : lv_has ls 2 [(0, .ref o1), (1, .int x1)] := hl
  have t0 : stp [(12, 15)] [] [] S S := stp.rf hW
  refine lv_aload_n hx hb dX12_says_0 rfl (lv_at hl 0 rfl) ?_
  refine lv_iconst (v := 0) hx hb dX12_says_1 (by decide) ?_
  obtain ⟨k1, gk1, hk1⟩ := wGt (cy := cy) X S h_o1.1 h_o1.2.1
  refine va_put (D := D) (ci := 16) (v := .int (0 : Int32)) (ty := .int) (C := RX12) (T := TX12) (N := 34) hx hb hts hi_X12_says_X12 tyX12 tyX12_ok nmX12 hown hK hP hD hS k1 hk1 rfl 15 (by decide) (hts (.fieldLink RX12 94 "HobhouseModel" "thrown" "I") (by decide +kernel)) (fun _ h9 => h9) rfl (by decide +kernel) (rfl) (rfl) (Nat.le_of_ble_eq_true rfl) dX12_says_2 (fun H locs hP2 hD2 hS => ?_)
  have e9 := wPuI (cy := cy) (j := 15) (v := (0 : Int32)) hD h_o1.1 h_o1.2.1 gk1 rfl
  obtain ⟨S2, hS2⟩ : ∃ z, S.sI o1 15 (0 : Int32) = z := ⟨_, rfl⟩
  have hP : va_P D vwCl (X ++ PL cy S2) H := by rw [← hS2, ← e9]; exact hP2
  have hD : va_D A (X ++ PL cy S2) := by rw [← hS2, ← e9]; exact hD2
  have xe3 : ext S S2 := by rw [← hS2]; exact ext.sI _ _ _ _
  have t4 : stp [(12, 15)] [] [] S S2 := by rw [← hS2]; exact t0.I 15 (0 : Int32) h_o1 (by decide) (trivial) (Or.inl (by decide))
  refine lv_iload_n hx hb dX12_says_5 rfl (lv_at hl 1 rfl) ?_
  refine W.widen (k := 0) (n := 0) (Nat.le_of_ble_eq_true rfl) (Nat.le_of_ble_eq_true rfl) ?_
  exact W.zret (v := x1) hx hb hr (hb1) (fun t ht hW9 => ⟨⟨x1, S2, rfl, ⟨(by show (x1, S2) = f_X12_says S o1 x1; unfold f_X12_says; rw [l1_eq hS2]), t4, (hb1)⟩, wd_end hP hK hD ht hW9.alike⟩, hS.F ht⟩) hS.2.2 dX12_says_6 hlocks
def f_X12_isPair (S : wPS) (o1 : Nat) (x1 : Int32) (x2 : Int32) : Int32 := l1 (f_X12_gearAt S o1 x1) (fun r3 => l1 (f_X12_gearAt S o1 x2) (fun r7 => if x1 = x2 then (0 : Int32) else if (S.I r3 2) = (S.I r7 2) then if ((S.I r3 3) + (S.I r7 3)) = (0 : Int32) then (1 : Int32) else (0 : Int32) else (0 : Int32)))
theorem hi_X12_isPair_X10 : ∀ w ∈ u_ws RX10 TX10 23, w ∈ wsX12_isPair := by decide +kernel
theorem hd_X12_isPair : yX12_isPair.cls = RX12 ∧ yX12_isPair.cls ≠ "java/lang/invoke/MethodHandle" ∧ yX12_isPair.cls ≠ "java/lang/invoke/VarHandle" ∧ (parseMethodDescriptor yX12_isPair.desc).map (fun d => d.parameters.length) = some 2 := by decide +kernel
set_option maxHeartbeats 4000000 in
set_option maxRecDepth 100000 in
theorem c_X12_isPair (l : Launch) {D : va_G} {cy : Nat → ClassId} {X : va_W} (S : wPS) (sz : Nat) (o1 : Nat) (h_o1 : isA S o1 12) (x1 : Int32) (x2 : Int32) (hW : wtB S []) (g1 : 0 ≤ x1.toInt ∧ x1.toInt < (S.I (S.f o1 0) 2).toInt) (g2 : 0 ≤ x2.toInt ∧ x2.toInt < (S.I (S.f o1 0) 2).toInt) : Met l yX12_isPair wsX12_isPair ({ frames := 4, cells := 0, slots := 0, locals := 85 }) (va_Pc [.ref o1, .int x1, .int x2] (fun U => U.heap.size = sz ∧ WD D cy X (fun _ => True) S U ∧ NW U)) (va_Qi (fun r (_ : Unit) => r = f_X12_isPair S o1 x1 x2 ∧ narrow .boolean (.int r) = .int r) (fun _ t => WD D cy X (va_A (X ++ PL cy S) sz) S t) (va_A (X ++ PL cy S) sz)) 0 0 (va_A (X ++ PL cy S) sz) := by
  refine Met.ofW (cc := cX12_isPair) (maxL := 5) (ret := (some .boolean)) (by decide) rfl ?_
  intro p e s m args below meth c s₁ B hml hv
  obtain ⟨rfl, hsz, ⟨hP, hK, hD0⟩, hN⟩ := hv
  have hx := B.exec
  have hb := B.bytes
  have hr := B.returns
  have hts := atoms_spec (ws := wsX12_isPair) B.pre
  have hown : s.vm.findClass RX12 = some m.cls := findClass_of_methodNamed (x := yX12_isPair) B.named
  have hlocks := B.notSynchronized
  subst hsz
  have hD := hD0.self (sz := s.heap.size)
  generalize hAe : va_A (X ++ PL cy S) s.heap.size = A at hD ⊢
  have hA : ∀ q : Nat, s.heap.size ≤ q → A q := fun q h => by rw [← hAe]; exact Or.inr h
  have hS : va_S A s.heap s.heap [] := va_S.rf
  have hl := lv_entry ([.ref o1, .int x1, .int x2]) (n := 5) (Nat.le_of_ble_eq_true rfl)
  rw [lg_entry_eq]
  generalize (lg_sl ([.ref o1, .int x1, .int x2]) ++ List.replicate (5 - (lg_sl ([.ref o1, .int x1, .int x2])).length) Slot.unset).toArray = ls at hl ⊢
  have hl : lv_has ls 5 [(0, .ref o1), (1, .int x1), (2, .int x2)] := hl
  refine lv_aload_n hx hb dX12_isPair_0 rfl (lv_at hl 0 rfl) ?_
  refine lv_iload_n hx hb dX12_isPair_1 rfl (lv_at hl 1 rfl) ?_
  have F1 := ((hW.at h_o1 List.not_mem_nil).to_12 h_o1.2.1).F0
  have hFc := free_all hD hS hA
  obtain ⟨k2, gk2, hk2⟩ := wGt (cy := cy) X S h_o1.1 h_o1.2.1
  refine va_callq (va_runV (As := [.int x1]) (rest := []) ⟨hx, hb, hml, hown, hts⟩ (c_X12_gearAt l (cy := cy) (X := X) (D := D) S _ o1 h_o1 x1 (hW) (by rw [f_of F1.1]; omega)) (cwV 1 hts gX12_isPair_X12_gearAt rfl rfl rfl hd_X12_gearAt ⟨Nat.le_of_ble_eq_true rfl, Nat.le_of_ble_eq_true rfl⟩) (pV (va_recv hK hP (q := (RX12, TX12, 34)) (ci := 16) (q0 := k2) rfl hk2) hP hK hD hN) rfl rfl hl.1 rfl (lv_room (Nat.le_of_ble_eq_true rfl)) dX12_isPair_2 ⟨(Nat.zero_le _), (Nat.zero_le _)⟩) hS (fun q _ h => hFc q h) hFc (fun r3 u t H1 locs ht hvm hw hB hz1 hk1 hS => ?_)
  obtain ⟨r3, rfl, c4, o5⟩ := hw
  obtain ⟨hP, hD⟩ := wd_post hFc ht hB
  generalize H1 = H at hP hS ⊢
  refine W.eq (g2 := F0 m 5 ls [.ref r3]) rfl ?_
  refine lv_astore_n (lv' := [(3, .ref r3), (0, .ref o1), (1, .int x1), (2, .int x2)]) hx hb dX12_isPair_5 rfl hl (by decide) rfl (fun ls hl => ?_)
  refine lv_aload_n hx hb dX12_isPair_6 rfl (lv_at hl 1 rfl) ?_
  refine lv_iload_n hx hb dX12_isPair_7 rfl (lv_at hl 3 rfl) ?_
  have hFc := free_all hD hS hA
  obtain ⟨k6, gk6, hk6⟩ := wGt (cy := cy) X S h_o1.1 h_o1.2.1
  refine va_callq (va_runV (As := [.int x2]) (rest := []) ⟨hx, hb, hml, hown, hts⟩ (c_X12_gearAt l (cy := cy) (X := X) (D := D) S _ o1 h_o1 x2 (hW) (by rw [f_of F1.1]; omega)) (cwV 1 hts gX12_isPair_X12_gearAt rfl rfl rfl hd_X12_gearAt ⟨Nat.le_of_ble_eq_true rfl, Nat.le_of_ble_eq_true rfl⟩) (pV (va_recv hK hP (q := (RX12, TX12, 34)) (ci := 16) (q0 := k6) rfl hk6) hP hK hD hN) rfl rfl hl.1 rfl (lv_room (Nat.le_of_ble_eq_true rfl)) dX12_isPair_8 ⟨(Nat.zero_le _), (Nat.zero_le _)⟩) hS (fun q _ h => hFc q h) hFc (fun r7 u t H1 locs ht hvm hw hB hz1 hk1 hS => ?_)
  obtain ⟨r7, rfl, c8, o9⟩ := hw
  obtain ⟨hP, hD⟩ := wd_post hFc ht hB
  generalize H1 = H at hP hS ⊢
  refine W.eq (g2 := F0 m 11 ls [.ref r7]) rfl ?_
  refine lv_astore (lv' := [(4, .ref r7), (3, .ref r3), (0, .ref o1), (1, .int x1), (2, .int x2)]) hx hb dX12_isPair_11 hl (by decide) rfl (fun ls hl => ?_)
  refine lv_iload_n hx hb dX12_isPair_13 rfl (lv_at hl 3 rfl) ?_
  refine lv_iload_n hx hb dX12_isPair_14 rfl (lv_at hl 4 rfl) ?_
  refine lv_icmp_eq (tgt := 47) hx hb dX12_isPair_15 (by decide) (fun c10 => ?_) (fun c10 => ?_)
  · have c10i : x1.toInt = x2.toInt := eq_v rfl rfl c10
    refine lv_iconst (v := 0) hx hb dX12_isPair_47 (by decide) ?_
    refine W.widen (k := 0) (n := 0) (Nat.le_of_ble_eq_true rfl) (Nat.le_of_ble_eq_true rfl) ?_
    exact W.zret (v := (0 : Int32)) hx hb hr (by rfl) (fun t ht hW9 => ⟨⟨(0 : Int32), (), rfl, ⟨(by show (0 : Int32) = f_X12_isPair S o1 x1 x2; unfold f_X12_isPair; rw [l1_eq c4.symm, l1_eq c8.symm, if_pos c10]), (by rfl)⟩, wd_end hP hK hD ht hW9.alike⟩, hS.F ht⟩) hS.2.2 dX12_isPair_48 hlocks
  · have c10i : ¬ x1.toInt = x2.toInt := neq_v rfl rfl c10
    refine lv_aload_n hx hb dX12_isPair_18 rfl (lv_at hl 1 rfl) ?_
    obtain ⟨k11, gk11, hk11⟩ := wGt (cy := cy) X S o5.1 o5.2.1
    have i12 := ((hW.at o5 List.not_mem_nil).to_10 o5.2.1).R2
    refine va_getN (D := D) (ci := 14) (v := .int (S.I r3 2)) (C := RX10) (T := TX10) (N := 23) hx hb hts hi_X12_isPair_X10 hown hK hP k11 hk11 rfl 2 (by decide) (va_Nw.use rfl (hN (.fieldLinkNest RX12 115 "HobhouseModel$Gear" "module" "I" "HobhouseModel") (by decide +kernel))) (fun _ h9 => h9) rfl dX12_isPair_19 ?_
    refine lv_aload hx hb dX12_isPair_22 (lv_at hl 0 rfl) ?_
    obtain ⟨k13, gk13, hk13⟩ := wGt (cy := cy) X S o9.1 o9.2.1
    have i14 := ((hW.at o9 List.not_mem_nil).to_10 o9.2.1).R2
    refine va_getN (D := D) (ci := 14) (v := .int (S.I r7 2)) (C := RX10) (T := TX10) (N := 23) hx hb hts hi_X12_isPair_X10 hown hK hP k13 hk13 rfl 2 (by decide) (va_Nw.use rfl (hN (.fieldLinkNest RX12 115 "HobhouseModel$Gear" "module" "I" "HobhouseModel") (by decide +kernel))) (fun _ h9 => h9) rfl dX12_isPair_24 ?_
    refine lv_icmp_ne (tgt := 47) hx hb dX12_isPair_27 (by decide) (fun c15 => ?_) (fun c15 => ?_)
    · have c15i : ¬ (S.I r3 2).toInt = (S.I r7 2).toInt := neq_v rfl rfl c15
      refine lv_iconst (v := 0) hx hb dX12_isPair_47 (by decide) ?_
      refine W.widen (k := 0) (n := 0) (Nat.le_of_ble_eq_true rfl) (Nat.le_of_ble_eq_true rfl) ?_
      exact W.zret (v := (0 : Int32)) hx hb hr (by rfl) (fun t ht hW9 => ⟨⟨(0 : Int32), (), rfl, ⟨(by show (0 : Int32) = f_X12_isPair S o1 x1 x2; unfold f_X12_isPair; rw [l1_eq c4.symm, l1_eq c8.symm, if_neg c10, if_neg c15]), (by rfl)⟩, wd_end hP hK hD ht hW9.alike⟩, hS.F ht⟩) hS.2.2 dX12_isPair_48 hlocks
    · have c15i : (S.I r3 2).toInt = (S.I r7 2).toInt := eq_v rfl rfl c15
      refine lv_aload_n hx hb dX12_isPair_30 rfl (lv_at hl 1 rfl) ?_
      obtain ⟨k16, gk16, hk16⟩ := wGt (cy := cy) X S o5.1 o5.2.1
      have i17 := ((hW.at o5 List.not_mem_nil).to_10 o5.2.1).R3
      refine va_getN (D := D) (ci := 14) (v := .int (S.I r3 3)) (C := RX10) (T := TX10) (N := 23) hx hb hts hi_X12_isPair_X10 hown hK hP k16 hk16 rfl 3 (by decide) (va_Nw.use rfl (hN (.fieldLinkNest RX12 118 "HobhouseModel$Gear" "helix" "I" "HobhouseModel") (by decide +kernel))) (fun _ h9 => h9) rfl dX12_isPair_31 ?_
      refine lv_aload hx hb dX12_isPair_34 (lv_at hl 0 rfl) ?_
      obtain ⟨k18, gk18, hk18⟩ := wGt (cy := cy) X S o9.1 o9.2.1
      have i19 := ((hW.at o9 List.not_mem_nil).to_10 o9.2.1).R3
      refine va_getN (D := D) (ci := 14) (v := .int (S.I r7 3)) (C := RX10) (T := TX10) (N := 23) hx hb hts hi_X12_isPair_X10 hown hK hP k18 hk18 rfl 3 (by decide) (va_Nw.use rfl (hN (.fieldLinkNest RX12 118 "HobhouseModel$Gear" "helix" "I" "HobhouseModel") (by decide +kernel))) (fun _ h9 => h9) rfl dX12_isPair_36 ?_
      refine lv_iadd hx hb dX12_isPair_39 ?_
      refine lv_if_ne (tgt := 47) hx hb dX12_isPair_40 (by decide) (fun c20 => ?_) (fun c20 => ?_)
      · have c20i : ¬ ((S.I r3 3) + (S.I r7 3)).toInt = 0 := neq_v rfl rfl c20
        refine lv_iconst (v := 0) hx hb dX12_isPair_47 (by decide) ?_
        refine W.widen (k := 0) (n := 0) (Nat.le_of_ble_eq_true rfl) (Nat.le_of_ble_eq_true rfl) ?_
        exact W.zret (v := (0 : Int32)) hx hb hr (by rfl) (fun t ht hW9 => ⟨⟨(0 : Int32), (), rfl, ⟨(by show (0 : Int32) = f_X12_isPair S o1 x1 x2; unfold f_X12_isPair; rw [l1_eq c4.symm, l1_eq c8.symm, if_neg c10, if_pos c15, if_neg c20]), (by rfl)⟩, wd_end hP hK hD ht hW9.alike⟩, hS.F ht⟩) hS.2.2 dX12_isPair_48 hlocks
      · have c20i : ((S.I r3 3) + (S.I r7 3)).toInt = 0 := eq_v rfl rfl c20
        refine lv_iconst (v := 1) hx hb dX12_isPair_43 (by decide) ?_
        refine lv_goto (tgt := 48) hx hb dX12_isPair_44 (by decide) ?_
        refine W.widen (k := 0) (n := 0) (Nat.le_of_ble_eq_true rfl) (Nat.le_of_ble_eq_true rfl) ?_
        exact W.zret (v := (1 : Int32)) hx hb hr (by rfl) (fun t ht hW9 => ⟨⟨(1 : Int32), (), rfl, ⟨(by show (1 : Int32) = f_X12_isPair S o1 x1 x2; unfold f_X12_isPair; rw [l1_eq c4.symm, l1_eq c8.symm, if_neg c10, if_pos c15, if_pos c20]), (by rfl)⟩, wd_end hP hK hD ht hW9.alike⟩, hS.F ht⟩) hS.2.2 dX12_isPair_48 hlocks
def f_X12_isAsked (S : wPS) (o1 : Nat) (x1 : Int32) (x2 : Int32) : (Int32 × wPS) := if (f_X12_isGear S o1 x1) = (0 : Int32) then l1 (S.sI o1 15 (1 : Int32)) (fun S8 => if (S8.I o1 15) = (0 : Int32) then ((1 : Int32), S8) else ((0 : Int32), S8)) else if (f_X12_isGear S o1 x2) = (0 : Int32) then l1 (S.sI o1 15 (1 : Int32)) (fun S42 => if (S42.I o1 15) = (0 : Int32) then ((1 : Int32), S42) else ((0 : Int32), S42)) else if (f_X12_isPair S o1 x1 x2) = (0 : Int32) then l1 (S.sI o1 15 (2 : Int32)) (fun S34 => if (S34.I o1 15) = (0 : Int32) then ((1 : Int32), S34) else ((0 : Int32), S34)) else l1 (S.sI o1 15 (0 : Int32)) (fun S26 => if (S26.I o1 15) = (0 : Int32) then ((1 : Int32), S26) else ((0 : Int32), S26))
theorem hi_X12_isAsked_X12 : ∀ w ∈ u_ws RX12 TX12 34, w ∈ wsX12_isAsked := by decide +kernel
theorem hd_X12_isAsked : yX12_isAsked.cls = RX12 ∧ yX12_isAsked.cls ≠ "java/lang/invoke/MethodHandle" ∧ yX12_isAsked.cls ≠ "java/lang/invoke/VarHandle" ∧ (parseMethodDescriptor yX12_isAsked.desc).map (fun d => d.parameters.length) = some 4 := by decide +kernel
set_option maxHeartbeats 4000000 in
set_option maxRecDepth 100000 in
theorem c_X12_isAsked (l : Launch) {D : va_G} {cy : Nat → ClassId} {X : va_W} (S : wPS) (sz : Nat) (o1 : Nat) (h_o1 : isA S o1 12) (x1 : Int32) (x2 : Int32) (hW : wtB S [])  : Met l yX12_isAsked wsX12_isAsked ({ frames := 5, cells := 0, slots := 0, locals := 109 }) (va_Pc [.ref o1, .int x1, .int x2, .int (1 : Int32), .int (2 : Int32)] (fun U => U.heap.size = sz ∧ WD D cy X (fun _ => True) S U ∧ NW U)) (va_Qi (fun r (u : wPS) => (r, u) = f_X12_isAsked S o1 x1 x2 ∧ stp [(12, 15)] [] [] S u ∧ (r.toInt = 0 ∨ ((0 ≤ x1.toInt ∧ x1.toInt < (S.I (S.f o1 0) 2).toInt) ∧ 0 ≤ x2.toInt ∧ x2.toInt < (S.I (S.f o1 0) 2).toInt)) ∧ narrow .boolean (.int r) = .int r) (fun u t => WD D cy X (va_A (X ++ PL cy S) sz) u t) (va_A (X ++ PL cy S) sz)) 0 0 (va_A (X ++ PL cy S) sz) := by
  refine Met.ofW (cc := cX12_isAsked) (maxL := 5) (ret := (some .boolean)) (by decide) rfl ?_
  intro p e s m args below meth c s₁ B hml hv
  obtain ⟨rfl, hsz, ⟨hP, hK, hD0⟩, hN⟩ := hv
  have hx := B.exec
  have hb := B.bytes
  have hr := B.returns
  have hts := atoms_spec (ws := wsX12_isAsked) B.pre
  have hown : s.vm.findClass RX12 = some m.cls := findClass_of_methodNamed (x := yX12_isAsked) B.named
  have hlocks := B.notSynchronized
  subst hsz
  have hD := hD0.self (sz := s.heap.size)
  generalize hAe : va_A (X ++ PL cy S) s.heap.size = A at hD ⊢
  have hA : ∀ q : Nat, s.heap.size ≤ q → A q := fun q h => by rw [← hAe]; exact Or.inr h
  have hS : va_S A s.heap s.heap [] := va_S.rf
  have hl := lv_entry ([.ref o1, .int x1, .int x2, .int (1 : Int32), .int (2 : Int32)]) (n := 5) (Nat.le_of_ble_eq_true rfl)
  rw [lg_entry_eq]
  generalize (lg_sl ([.ref o1, .int x1, .int x2, .int (1 : Int32), .int (2 : Int32)]) ++ List.replicate (5 - (lg_sl ([.ref o1, .int x1, .int x2, .int (1 : Int32), .int (2 : Int32)])).length) Slot.unset).toArray = ls at hl ⊢
  have hl : lv_has ls 5 [(0, .ref o1), (1, .int x1), (2, .int x2), (3, .int (1 : Int32)), (4, .int (2 : Int32))] := hl
  have t0 : stp [(12, 15)] [] [] S S := stp.rf hW
  have F1 := ((hW.at h_o1 List.not_mem_nil).to_12 h_o1.2.1).F0
  refine lv_aload_n hx hb dX12_isAsked_0 rfl (lv_at hl 0 rfl) ?_
  refine lv_aload_n hx hb dX12_isAsked_1 rfl (lv_at hl 0 rfl) ?_
  refine lv_iload_n hx hb dX12_isAsked_2 rfl (lv_at hl 1 rfl) ?_
  have hFc := free_all hD hS hA
  obtain ⟨k2, gk2, hk2⟩ := wGt (cy := cy) X S h_o1.1 h_o1.2.1
  refine va_calli (va_runV (As := [.int x1]) (rest := [.ref o1]) ⟨hx, hb, hml, hown, hts⟩ (c_X12_isGear l (cy := cy) (X := X) (D := D) S _ o1 h_o1 x1 (hW)) (cwV 1 hts gX12_isAsked_X12_isGear rfl rfl rfl hd_X12_isGear ⟨Nat.le_of_ble_eq_true rfl, Nat.le_of_ble_eq_true rfl⟩) (pV (va_recv hK hP (q := (RX12, TX12, 34)) (ci := 16) (q0 := k2) rfl hk2) hP hK hD hN) rfl rfl hl.1 rfl (lv_room (Nat.le_of_ble_eq_true rfl)) dX12_isAsked_3 ⟨(Nat.zero_le _), (Nat.zero_le _)⟩) hS (fun q _ h => hFc q h) hFc (fun r3 u t H1 locs ht hvm hw hB hz1 hk1 hS => ?_)
  have c4 := hw
  obtain ⟨hP, hD⟩ := wd_post hFc ht hB
  generalize H1 = H at hP hS ⊢
  obtain rfl : f_X12_isGear S o1 x1 = r3 := c4.symm
  have i5 : (f_X12_isGear S o1 x1).toInt = 0 ∨ (0 ≤ x1.toInt ∧ x1.toInt < (S.I (S.f o1 0) 2).toInt) := by have h9 := ig_rng x1 ((hW.at h_o1 List.not_mem_nil).to_12 h_o1.2.1) hW; rw [f_of F1.1] at h9; exact h9
  refine lv_if_eq (tgt := 17) hx hb dX12_isAsked_6 (by decide) (fun c6 => ?_) (fun c6 => ?_)
  · have c6i : (f_X12_isGear S o1 x1).toInt = 0 := eq_v rfl rfl c6
    refine lv_iload_n hx hb dX12_isAsked_17 rfl (lv_at hl 3 rfl) ?_
    refine lv_goto (tgt := 36) hx hb dX12_isAsked_18 (by decide) ?_
    obtain ⟨k7, gk7, hk7⟩ := wGt (cy := cy) X S h_o1.1 h_o1.2.1
    refine va_put (D := D) (ci := 16) (v := .int (1 : Int32)) (ty := .int) (C := RX12) (T := TX12) (N := 34) hx hb hts hi_X12_isAsked_X12 tyX12 tyX12_ok nmX12 hown hK hP hD hS k7 hk7 rfl 15 (by decide) (hts (.fieldLink RX12 94 "HobhouseModel" "thrown" "I") (by decide +kernel)) (fun _ h9 => h9) rfl (by decide +kernel) (rfl) (rfl) (Nat.le_of_ble_eq_true rfl) dX12_isAsked_36 (fun H locs hP2 hD2 hS => ?_)
    have e9 := wPuI (cy := cy) (j := 15) (v := (1 : Int32)) hD h_o1.1 h_o1.2.1 gk7 rfl
    obtain ⟨S8, hS8⟩ : ∃ z, S.sI o1 15 (1 : Int32) = z := ⟨_, rfl⟩
    have hP : va_P D vwCl (X ++ PL cy S8) H := by rw [← hS8, ← e9]; exact hP2
    have hD : va_D A (X ++ PL cy S8) := by rw [← hS8, ← e9]; exact hD2
    have xe9 : ext S S8 := by rw [← hS8]; exact ext.sI _ _ _ _
    have t10 : stp [(12, 15)] [] [] S S8 := by rw [← hS8]; exact t0.I 15 (1 : Int32) h_o1 (by decide) (trivial) (Or.inl (by decide))
    have k11 : (S8.I (S.f o1 0) 2).toInt = (S.I (S.f o1 0) 2).toInt := by rw [← hS8]; exact congrArg Int32.toInt (sI_I (by rintro ⟨e1, e2⟩; exact absurd e2 (by decide)))
    have k12 : (S8.I o1 15).toInt = (1 : Int32).toInt := by rw [← hS8, sI_eq]
    refine lv_aload_n hx hb dX12_isAsked_39 rfl (lv_at hl 0 rfl) ?_
    obtain ⟨k13, gk13, hk13⟩ := wGt (cy := cy) X S8 (xe9.A h_o1).1 (xe9.A h_o1).2.1
    refine va_get (D := D) (ci := 16) (v := .int (S8.I o1 15)) (C := RX12) (T := TX12) (N := 34) hx hb hts hi_X12_isAsked_X12 hown hK hP k13 hk13 rfl 15 (by decide) (hts (.fieldLink RX12 94 "HobhouseModel" "thrown" "I") (by decide +kernel)) (fun _ h9 => h9) rfl dX12_isAsked_40 ?_
    refine lv_if_ne (tgt := 50) hx hb dX12_isAsked_43 (by decide) (fun c14 => ?_) (fun c14 => ?_)
    · have c14i : ¬ (S8.I o1 15).toInt = 0 := neq_v rfl rfl c14
      refine lv_iconst (v := 0) hx hb dX12_isAsked_50 (by decide) ?_
      have l0 : (0 : Int32).toInt = 0 := rfl
      have l1 : (1 : Int32).toInt = 1 := rfl
      have l0 : (0 : Int32).toInt = 0 := rfl
      have l1 : (1 : Int32).toInt = 1 := rfl
      refine W.widen (k := 0) (n := 0) (Nat.le_of_ble_eq_true rfl) (Nat.le_of_ble_eq_true rfl) ?_
      exact W.zret (v := (0 : Int32)) hx hb hr (by rfl) (fun t ht hW9 => ⟨⟨(0 : Int32), S8, rfl, ⟨(by show ((0 : Int32), S8) = f_X12_isAsked S o1 x1 x2; unfold f_X12_isAsked; rw [if_pos c6, l1_eq hS8, if_neg c14]), t10, (by omega), (by rfl)⟩, wd_end hP hK hD ht hW9.alike⟩, hS.F ht⟩) hS.2.2 dX12_isAsked_51 hlocks
    · have c14i : (S8.I o1 15).toInt = 0 := eq_v rfl rfl c14
      refine lv_iconst (v := 1) hx hb dX12_isAsked_46 (by decide) ?_
      refine lv_goto (tgt := 51) hx hb dX12_isAsked_47 (by decide) ?_
      have l0 : (0 : Int32).toInt = 0 := rfl
      have l1 : (1 : Int32).toInt = 1 := rfl
      have l0 : (0 : Int32).toInt = 0 := rfl
      have l1 : (1 : Int32).toInt = 1 := rfl
      refine W.widen (k := 0) (n := 0) (Nat.le_of_ble_eq_true rfl) (Nat.le_of_ble_eq_true rfl) ?_
      exact W.zret (v := (1 : Int32)) hx hb hr (by rfl) (fun t ht hW9 => ⟨⟨(1 : Int32), S8, rfl, ⟨(by show ((1 : Int32), S8) = f_X12_isAsked S o1 x1 x2; unfold f_X12_isAsked; rw [if_pos c6, l1_eq hS8, if_pos c14]), t10, (by omega), (by rfl)⟩, wd_end hP hK hD ht hW9.alike⟩, hS.F ht⟩) hS.2.2 dX12_isAsked_51 hlocks
  · have c6i : ¬ (f_X12_isGear S o1 x1).toInt = 0 := neq_v rfl rfl c6
    refine lv_aload_n hx hb dX12_isAsked_9 rfl (lv_at hl 0 rfl) ?_
    refine lv_iload_n hx hb dX12_isAsked_10 rfl (lv_at hl 2 rfl) ?_
    have hFc := free_all hD hS hA
    obtain ⟨k15, gk15, hk15⟩ := wGt (cy := cy) X S h_o1.1 h_o1.2.1
    refine va_calli (va_runV (As := [.int x2]) (rest := [.ref o1]) ⟨hx, hb, hml, hown, hts⟩ (c_X12_isGear l (cy := cy) (X := X) (D := D) S _ o1 h_o1 x2 (hW)) (cwV 1 hts gX12_isAsked_X12_isGear rfl rfl rfl hd_X12_isGear ⟨Nat.le_of_ble_eq_true rfl, Nat.le_of_ble_eq_true rfl⟩) (pV (va_recv hK hP (q := (RX12, TX12, 34)) (ci := 16) (q0 := k15) rfl hk15) hP hK hD hN) rfl rfl hl.1 rfl (lv_room (Nat.le_of_ble_eq_true rfl)) dX12_isAsked_11 ⟨(Nat.zero_le _), (Nat.zero_le _)⟩) hS (fun q _ h => hFc q h) hFc (fun r16 u t H1 locs ht hvm hw hB hz1 hk1 hS => ?_)
    have c17 := hw
    obtain ⟨hP, hD⟩ := wd_post hFc ht hB
    generalize H1 = H at hP hS ⊢
    obtain rfl : f_X12_isGear S o1 x2 = r16 := c17.symm
    have i18 : (f_X12_isGear S o1 x2).toInt = 0 ∨ (0 ≤ x2.toInt ∧ x2.toInt < (S.I (S.f o1 0) 2).toInt) := by have h9 := ig_rng x2 ((hW.at h_o1 List.not_mem_nil).to_12 h_o1.2.1) hW; rw [f_of F1.1] at h9; exact h9
    refine lv_if_ne (tgt := 21) hx hb dX12_isAsked_14 (by decide) (fun c19 => ?_) (fun c19 => ?_)
    · have c19i : ¬ (f_X12_isGear S o1 x2).toInt = 0 := neq_v rfl rfl c19
      refine lv_aload_n hx hb dX12_isAsked_21 rfl (lv_at hl 0 rfl) ?_
      refine lv_iload_n hx hb dX12_isAsked_22 rfl (lv_at hl 1 rfl) ?_
      refine lv_iload_n hx hb dX12_isAsked_23 rfl (lv_at hl 2 rfl) ?_
      have hFc := free_all hD hS hA
      obtain ⟨k20, gk20, hk20⟩ := wGt (cy := cy) X S h_o1.1 h_o1.2.1
      refine va_calli (va_runV (As := [.int x1, .int x2]) (rest := [.ref o1]) ⟨hx, hb, hml, hown, hts⟩ (c_X12_isPair l (cy := cy) (X := X) (D := D) S _ o1 h_o1 x1 x2 (hW) (by rw [f_of F1.1]; omega) (by rw [f_of F1.1]; omega)) (cwV 2 hts gX12_isAsked_X12_isPair rfl rfl rfl hd_X12_isPair ⟨Nat.le_of_ble_eq_true rfl, Nat.le_of_ble_eq_true rfl⟩) (pV (va_recv hK hP (q := (RX12, TX12, 34)) (ci := 16) (q0 := k20) rfl hk20) hP hK hD hN) rfl rfl hl.1 rfl (lv_room (Nat.le_of_ble_eq_true rfl)) dX12_isAsked_24 ⟨(Nat.zero_le _), (Nat.zero_le _)⟩) hS (fun q _ h => hFc q h) hFc (fun r21 u t H1 locs ht hvm hw hB hz1 hk1 hS => ?_)
      obtain ⟨c22, y23⟩ := hw
      obtain ⟨hP, hD⟩ := wd_post hFc ht hB
      generalize H1 = H at hP hS ⊢
      obtain rfl : f_X12_isPair S o1 x1 x2 = r21 := c22.symm
      refine lv_if_ne (tgt := 35) hx hb dX12_isAsked_27 (by decide) (fun c24 => ?_) (fun c24 => ?_)
      · have c24i : ¬ (f_X12_isPair S o1 x1 x2).toInt = 0 := neq_v rfl rfl c24
        refine lv_iconst (v := 0) hx hb dX12_isAsked_35 (by decide) ?_
        obtain ⟨k25, gk25, hk25⟩ := wGt (cy := cy) X S h_o1.1 h_o1.2.1
        refine va_put (D := D) (ci := 16) (v := .int (0 : Int32)) (ty := .int) (C := RX12) (T := TX12) (N := 34) hx hb hts hi_X12_isAsked_X12 tyX12 tyX12_ok nmX12 hown hK hP hD hS k25 hk25 rfl 15 (by decide) (hts (.fieldLink RX12 94 "HobhouseModel" "thrown" "I") (by decide +kernel)) (fun _ h9 => h9) rfl (by decide +kernel) (rfl) (rfl) (Nat.le_of_ble_eq_true rfl) dX12_isAsked_36 (fun H locs hP2 hD2 hS => ?_)
        have e9 := wPuI (cy := cy) (j := 15) (v := (0 : Int32)) hD h_o1.1 h_o1.2.1 gk25 rfl
        obtain ⟨S26, hS26⟩ : ∃ z, S.sI o1 15 (0 : Int32) = z := ⟨_, rfl⟩
        have hP : va_P D vwCl (X ++ PL cy S26) H := by rw [← hS26, ← e9]; exact hP2
        have hD : va_D A (X ++ PL cy S26) := by rw [← hS26, ← e9]; exact hD2
        have xe27 : ext S S26 := by rw [← hS26]; exact ext.sI _ _ _ _
        have t28 : stp [(12, 15)] [] [] S S26 := by rw [← hS26]; exact t0.I 15 (0 : Int32) h_o1 (by decide) (trivial) (Or.inl (by decide))
        have k29 : (S26.I (S.f o1 0) 2).toInt = (S.I (S.f o1 0) 2).toInt := by rw [← hS26]; exact congrArg Int32.toInt (sI_I (by rintro ⟨e1, e2⟩; exact absurd e2 (by decide)))
        have k30 : (S26.I o1 15).toInt = (0 : Int32).toInt := by rw [← hS26, sI_eq]
        refine lv_aload_n hx hb dX12_isAsked_39 rfl (lv_at hl 0 rfl) ?_
        obtain ⟨k31, gk31, hk31⟩ := wGt (cy := cy) X S26 (xe27.A h_o1).1 (xe27.A h_o1).2.1
        refine va_get (D := D) (ci := 16) (v := .int (S26.I o1 15)) (C := RX12) (T := TX12) (N := 34) hx hb hts hi_X12_isAsked_X12 hown hK hP k31 hk31 rfl 15 (by decide) (hts (.fieldLink RX12 94 "HobhouseModel" "thrown" "I") (by decide +kernel)) (fun _ h9 => h9) rfl dX12_isAsked_40 ?_
        refine lv_if_ne (tgt := 50) hx hb dX12_isAsked_43 (by decide) (fun c32 => ?_) (fun c32 => ?_)
        · have c32i : ¬ (S26.I o1 15).toInt = 0 := neq_v rfl rfl c32
          refine lv_iconst (v := 0) hx hb dX12_isAsked_50 (by decide) ?_
          have l0 : (0 : Int32).toInt = 0 := rfl
          have l1 : (1 : Int32).toInt = 1 := rfl
          have l0 : (0 : Int32).toInt = 0 := rfl
          have l1 : (1 : Int32).toInt = 1 := rfl
          refine W.widen (k := 0) (n := 0) (Nat.le_of_ble_eq_true rfl) (Nat.le_of_ble_eq_true rfl) ?_
          exact W.zret (v := (0 : Int32)) hx hb hr (by rfl) (fun t ht hW9 => ⟨⟨(0 : Int32), S26, rfl, ⟨(by show ((0 : Int32), S26) = f_X12_isAsked S o1 x1 x2; unfold f_X12_isAsked; rw [if_neg c6, if_neg c19, if_neg c24, l1_eq hS26, if_neg c32]), t28, (by omega), (by rfl)⟩, wd_end hP hK hD ht hW9.alike⟩, hS.F ht⟩) hS.2.2 dX12_isAsked_51 hlocks
        · have c32i : (S26.I o1 15).toInt = 0 := eq_v rfl rfl c32
          refine lv_iconst (v := 1) hx hb dX12_isAsked_46 (by decide) ?_
          refine lv_goto (tgt := 51) hx hb dX12_isAsked_47 (by decide) ?_
          have l0 : (0 : Int32).toInt = 0 := rfl
          have l1 : (1 : Int32).toInt = 1 := rfl
          have l0 : (0 : Int32).toInt = 0 := rfl
          have l1 : (1 : Int32).toInt = 1 := rfl
          refine W.widen (k := 0) (n := 0) (Nat.le_of_ble_eq_true rfl) (Nat.le_of_ble_eq_true rfl) ?_
          exact W.zret (v := (1 : Int32)) hx hb hr (by rfl) (fun t ht hW9 => ⟨⟨(1 : Int32), S26, rfl, ⟨(by show ((1 : Int32), S26) = f_X12_isAsked S o1 x1 x2; unfold f_X12_isAsked; rw [if_neg c6, if_neg c19, if_neg c24, l1_eq hS26, if_pos c32]), t28, (by omega), (by rfl)⟩, wd_end hP hK hD ht hW9.alike⟩, hS.F ht⟩) hS.2.2 dX12_isAsked_51 hlocks
      · have c24i : (f_X12_isPair S o1 x1 x2).toInt = 0 := eq_v rfl rfl c24
        refine lv_iload hx hb dX12_isAsked_30 (lv_at hl 4 rfl) ?_
        refine lv_goto (tgt := 36) hx hb dX12_isAsked_32 (by decide) ?_
        obtain ⟨k33, gk33, hk33⟩ := wGt (cy := cy) X S h_o1.1 h_o1.2.1
        refine va_put (D := D) (ci := 16) (v := .int (2 : Int32)) (ty := .int) (C := RX12) (T := TX12) (N := 34) hx hb hts hi_X12_isAsked_X12 tyX12 tyX12_ok nmX12 hown hK hP hD hS k33 hk33 rfl 15 (by decide) (hts (.fieldLink RX12 94 "HobhouseModel" "thrown" "I") (by decide +kernel)) (fun _ h9 => h9) rfl (by decide +kernel) (rfl) (rfl) (Nat.le_of_ble_eq_true rfl) dX12_isAsked_36 (fun H locs hP2 hD2 hS => ?_)
        have e9 := wPuI (cy := cy) (j := 15) (v := (2 : Int32)) hD h_o1.1 h_o1.2.1 gk33 rfl
        obtain ⟨S34, hS34⟩ : ∃ z, S.sI o1 15 (2 : Int32) = z := ⟨_, rfl⟩
        have hP : va_P D vwCl (X ++ PL cy S34) H := by rw [← hS34, ← e9]; exact hP2
        have hD : va_D A (X ++ PL cy S34) := by rw [← hS34, ← e9]; exact hD2
        have xe35 : ext S S34 := by rw [← hS34]; exact ext.sI _ _ _ _
        have t36 : stp [(12, 15)] [] [] S S34 := by rw [← hS34]; exact t0.I 15 (2 : Int32) h_o1 (by decide) (trivial) (Or.inl (by decide))
        have k37 : (S34.I (S.f o1 0) 2).toInt = (S.I (S.f o1 0) 2).toInt := by rw [← hS34]; exact congrArg Int32.toInt (sI_I (by rintro ⟨e1, e2⟩; exact absurd e2 (by decide)))
        have k38 : (S34.I o1 15).toInt = (2 : Int32).toInt := by rw [← hS34, sI_eq]
        refine lv_aload_n hx hb dX12_isAsked_39 rfl (lv_at hl 0 rfl) ?_
        obtain ⟨k39, gk39, hk39⟩ := wGt (cy := cy) X S34 (xe35.A h_o1).1 (xe35.A h_o1).2.1
        refine va_get (D := D) (ci := 16) (v := .int (S34.I o1 15)) (C := RX12) (T := TX12) (N := 34) hx hb hts hi_X12_isAsked_X12 hown hK hP k39 hk39 rfl 15 (by decide) (hts (.fieldLink RX12 94 "HobhouseModel" "thrown" "I") (by decide +kernel)) (fun _ h9 => h9) rfl dX12_isAsked_40 ?_
        refine lv_if_ne (tgt := 50) hx hb dX12_isAsked_43 (by decide) (fun c40 => ?_) (fun c40 => ?_)
        · have c40i : ¬ (S34.I o1 15).toInt = 0 := neq_v rfl rfl c40
          refine lv_iconst (v := 0) hx hb dX12_isAsked_50 (by decide) ?_
          have l0 : (0 : Int32).toInt = 0 := rfl
          have l1 : (1 : Int32).toInt = 1 := rfl
          have l0 : (0 : Int32).toInt = 0 := rfl
          have l1 : (1 : Int32).toInt = 1 := rfl
          refine W.widen (k := 0) (n := 0) (Nat.le_of_ble_eq_true rfl) (Nat.le_of_ble_eq_true rfl) ?_
          exact W.zret (v := (0 : Int32)) hx hb hr (by rfl) (fun t ht hW9 => ⟨⟨(0 : Int32), S34, rfl, ⟨(by show ((0 : Int32), S34) = f_X12_isAsked S o1 x1 x2; unfold f_X12_isAsked; rw [if_neg c6, if_neg c19, if_pos c24, l1_eq hS34, if_neg c40]), t36, (by omega), (by rfl)⟩, wd_end hP hK hD ht hW9.alike⟩, hS.F ht⟩) hS.2.2 dX12_isAsked_51 hlocks
        · have c40i : (S34.I o1 15).toInt = 0 := eq_v rfl rfl c40
          refine lv_iconst (v := 1) hx hb dX12_isAsked_46 (by decide) ?_
          refine lv_goto (tgt := 51) hx hb dX12_isAsked_47 (by decide) ?_
          have l0 : (0 : Int32).toInt = 0 := rfl
          have l1 : (1 : Int32).toInt = 1 := rfl
          have l0 : (0 : Int32).toInt = 0 := rfl
          have l1 : (1 : Int32).toInt = 1 := rfl
          refine W.widen (k := 0) (n := 0) (Nat.le_of_ble_eq_true rfl) (Nat.le_of_ble_eq_true rfl) ?_
          exact W.zret (v := (1 : Int32)) hx hb hr (by rfl) (fun t ht hW9 => ⟨⟨(1 : Int32), S34, rfl, ⟨(by show ((1 : Int32), S34) = f_X12_isAsked S o1 x1 x2; unfold f_X12_isAsked; rw [if_neg c6, if_neg c19, if_pos c24, l1_eq hS34, if_pos c40]), t36, (by omega), (by rfl)⟩, wd_end hP hK hD ht hW9.alike⟩, hS.F ht⟩) hS.2.2 dX12_isAsked_51 hlocks
    · have c19i : (f_X12_isGear S o1 x2).toInt = 0 := eq_v rfl rfl c19
      refine lv_iload_n hx hb dX12_isAsked_17 rfl (lv_at hl 3 rfl) ?_
      refine lv_goto (tgt := 36) hx hb dX12_isAsked_18 (by decide) ?_
      obtain ⟨k41, gk41, hk41⟩ := wGt (cy := cy) X S h_o1.1 h_o1.2.1
      refine va_put (D := D) (ci := 16) (v := .int (1 : Int32)) (ty := .int) (C := RX12) (T := TX12) (N := 34) hx hb hts hi_X12_isAsked_X12 tyX12 tyX12_ok nmX12 hown hK hP hD hS k41 hk41 rfl 15 (by decide) (hts (.fieldLink RX12 94 "HobhouseModel" "thrown" "I") (by decide +kernel)) (fun _ h9 => h9) rfl (by decide +kernel) (rfl) (rfl) (Nat.le_of_ble_eq_true rfl) dX12_isAsked_36 (fun H locs hP2 hD2 hS => ?_)
      have e9 := wPuI (cy := cy) (j := 15) (v := (1 : Int32)) hD h_o1.1 h_o1.2.1 gk41 rfl
      obtain ⟨S42, hS42⟩ : ∃ z, S.sI o1 15 (1 : Int32) = z := ⟨_, rfl⟩
      have hP : va_P D vwCl (X ++ PL cy S42) H := by rw [← hS42, ← e9]; exact hP2
      have hD : va_D A (X ++ PL cy S42) := by rw [← hS42, ← e9]; exact hD2
      have xe43 : ext S S42 := by rw [← hS42]; exact ext.sI _ _ _ _
      have t44 : stp [(12, 15)] [] [] S S42 := by rw [← hS42]; exact t0.I 15 (1 : Int32) h_o1 (by decide) (trivial) (Or.inl (by decide))
      have k45 : (S42.I (S.f o1 0) 2).toInt = (S.I (S.f o1 0) 2).toInt := by rw [← hS42]; exact congrArg Int32.toInt (sI_I (by rintro ⟨e1, e2⟩; exact absurd e2 (by decide)))
      have k46 : (S42.I o1 15).toInt = (1 : Int32).toInt := by rw [← hS42, sI_eq]
      refine lv_aload_n hx hb dX12_isAsked_39 rfl (lv_at hl 0 rfl) ?_
      obtain ⟨k47, gk47, hk47⟩ := wGt (cy := cy) X S42 (xe43.A h_o1).1 (xe43.A h_o1).2.1
      refine va_get (D := D) (ci := 16) (v := .int (S42.I o1 15)) (C := RX12) (T := TX12) (N := 34) hx hb hts hi_X12_isAsked_X12 hown hK hP k47 hk47 rfl 15 (by decide) (hts (.fieldLink RX12 94 "HobhouseModel" "thrown" "I") (by decide +kernel)) (fun _ h9 => h9) rfl dX12_isAsked_40 ?_
      refine lv_if_ne (tgt := 50) hx hb dX12_isAsked_43 (by decide) (fun c48 => ?_) (fun c48 => ?_)
      · have c48i : ¬ (S42.I o1 15).toInt = 0 := neq_v rfl rfl c48
        refine lv_iconst (v := 0) hx hb dX12_isAsked_50 (by decide) ?_
        have l0 : (0 : Int32).toInt = 0 := rfl
        have l1 : (1 : Int32).toInt = 1 := rfl
        have l0 : (0 : Int32).toInt = 0 := rfl
        have l1 : (1 : Int32).toInt = 1 := rfl
        refine W.widen (k := 0) (n := 0) (Nat.le_of_ble_eq_true rfl) (Nat.le_of_ble_eq_true rfl) ?_
        exact W.zret (v := (0 : Int32)) hx hb hr (by rfl) (fun t ht hW9 => ⟨⟨(0 : Int32), S42, rfl, ⟨(by show ((0 : Int32), S42) = f_X12_isAsked S o1 x1 x2; unfold f_X12_isAsked; rw [if_neg c6, if_pos c19, l1_eq hS42, if_neg c48]), t44, (by omega), (by rfl)⟩, wd_end hP hK hD ht hW9.alike⟩, hS.F ht⟩) hS.2.2 dX12_isAsked_51 hlocks
      · have c48i : (S42.I o1 15).toInt = 0 := eq_v rfl rfl c48
        refine lv_iconst (v := 1) hx hb dX12_isAsked_46 (by decide) ?_
        refine lv_goto (tgt := 51) hx hb dX12_isAsked_47 (by decide) ?_
        have l0 : (0 : Int32).toInt = 0 := rfl
        have l1 : (1 : Int32).toInt = 1 := rfl
        have l0 : (0 : Int32).toInt = 0 := rfl
        have l1 : (1 : Int32).toInt = 1 := rfl
        refine W.widen (k := 0) (n := 0) (Nat.le_of_ble_eq_true rfl) (Nat.le_of_ble_eq_true rfl) ?_
        exact W.zret (v := (1 : Int32)) hx hb hr (by rfl) (fun t ht hW9 => ⟨⟨(1 : Int32), S42, rfl, ⟨(by show ((1 : Int32), S42) = f_X12_isAsked S o1 x1 x2; unfold f_X12_isAsked; rw [if_neg c6, if_pos c19, l1_eq hS42, if_pos c48]), t44, (by omega), (by rfl)⟩, wd_end hP hK hD ht hW9.alike⟩, hS.F ht⟩) hS.2.2 dX12_isAsked_51 hlocks
def f_X12_setShift (S : wPS) (o1 : Nat) (x1 : Int32) (x2 : Int32) : (Int32 × wPS) := if (f_X12_isGear S o1 x1) = (0 : Int32) then l2 (f_X12_fails S o1 (1 : Int32)) (fun r59 S62 => (r59, S62)) else if (f_X12_in x2.toInt64 (-100 : Int64) (100 : Int64)) = (0 : Int32) then l2 (f_X12_fails S o1 (2 : Int32)) (fun r51 S54 => (r51, S54)) else l1 (f_X12_gearAt S o1 x1) (fun r14 => if (S.I r14 18) = (0 : Int32) then l1 (f_X12_gearAt S o1 x1) (fun r21 => l1 (f_X12_gearAt S o1 x1) (fun r26 => l1 (S.sI r26 7 x2) (fun S30 => l2 (f_X12_answer S30 o1 (S.I r21 7)) (fun r35 S38 => (r35, S38))))) else l2 (f_X12_fails S o1 (3 : Int32)) (fun r43 S46 => (r43, S46)))
theorem hi_X12_setShift_X10 : ∀ w ∈ u_ws RX10 TX10 23, w ∈ wsX12_setShift := by decide +kernel
theorem hd_X12_setShift : yX12_setShift.cls = RX12 ∧ yX12_setShift.cls ≠ "java/lang/invoke/MethodHandle" ∧ yX12_setShift.cls ≠ "java/lang/invoke/VarHandle" ∧ (parseMethodDescriptor yX12_setShift.desc).map (fun d => d.parameters.length) = some 2 := by decide +kernel
set_option maxHeartbeats 4000000 in
set_option maxRecDepth 100000 in
theorem c_X12_setShift (l : Launch) {D : va_G} {cy : Nat → ClassId} {X : va_W} (S : wPS) (sz : Nat) (o1 : Nat) (h_o1 : isA S o1 12) (x1 : Int32) (x2 : Int32) (hW : wtB S [])  : Met l yX12_setShift wsX12_setShift ({ frames := 4, cells := 0, slots := 0, locals := 85 }) (va_Pc [.ref o1, .int x1, .int x2] (fun U => U.heap.size = sz ∧ WD D cy X (fun _ => True) S U ∧ NW U)) (va_Qi (fun r (u : wPS) => (r, u) = f_X12_setShift S o1 x1 x2 ∧ stp [(10, 7), (12, 15)] [] [] S u) (fun u t => WD D cy X (va_A (X ++ PL cy S) sz) u t) (va_A (X ++ PL cy S) sz)) 0 0 (va_A (X ++ PL cy S) sz) := by
  refine Met.ofW (cc := cX12_setShift) (maxL := 4) (ret := (some .int)) (by decide) rfl ?_
  intro p e s m args below meth c s₁ B hml hv
  obtain ⟨rfl, hsz, ⟨hP, hK, hD0⟩, hN⟩ := hv
  have hx := B.exec
  have hb := B.bytes
  have hr := B.returns
  have hts := atoms_spec (ws := wsX12_setShift) B.pre
  have hown : s.vm.findClass RX12 = some m.cls := findClass_of_methodNamed (x := yX12_setShift) B.named
  have hlocks := B.notSynchronized
  subst hsz
  have hD := hD0.self (sz := s.heap.size)
  generalize hAe : va_A (X ++ PL cy S) s.heap.size = A at hD ⊢
  have hA : ∀ q : Nat, s.heap.size ≤ q → A q := fun q h => by rw [← hAe]; exact Or.inr h
  have hS : va_S A s.heap s.heap [] := va_S.rf
  have hl := lv_entry ([.ref o1, .int x1, .int x2]) (n := 4) (Nat.le_of_ble_eq_true rfl)
  rw [lg_entry_eq]
  generalize (lg_sl ([.ref o1, .int x1, .int x2]) ++ List.replicate (4 - (lg_sl ([.ref o1, .int x1, .int x2])).length) Slot.unset).toArray = ls at hl ⊢
  have hl : lv_has ls 4 [(0, .ref o1), (1, .int x1), (2, .int x2)] := hl
  have t0 : stp [(10, 7), (12, 15)] [] [] S S := stp.rf hW
  have F1 := ((hW.at h_o1 List.not_mem_nil).to_12 h_o1.2.1).F0
  refine lv_aload_n hx hb dX12_setShift_0 rfl (lv_at hl 0 rfl) ?_
  refine lv_iload_n hx hb dX12_setShift_1 rfl (lv_at hl 1 rfl) ?_
  have hFc := free_all hD hS hA
  obtain ⟨k2, gk2, hk2⟩ := wGt (cy := cy) X S h_o1.1 h_o1.2.1
  refine va_calli (va_runV (As := [.int x1]) (rest := []) ⟨hx, hb, hml, hown, hts⟩ (c_X12_isGear l (cy := cy) (X := X) (D := D) S _ o1 h_o1 x1 (hW)) (cwV 1 hts gX12_setShift_X12_isGear rfl rfl rfl hd_X12_isGear ⟨Nat.le_of_ble_eq_true rfl, Nat.le_of_ble_eq_true rfl⟩) (pV (va_recv hK hP (q := (RX12, TX12, 34)) (ci := 16) (q0 := k2) rfl hk2) hP hK hD hN) rfl rfl hl.1 rfl (lv_room (Nat.le_of_ble_eq_true rfl)) dX12_setShift_2 ⟨(Nat.zero_le _), (Nat.zero_le _)⟩) hS (fun q _ h => hFc q h) hFc (fun r3 u t H1 locs ht hvm hw hB hz1 hk1 hS => ?_)
  have c4 := hw
  obtain ⟨hP, hD⟩ := wd_post hFc ht hB
  generalize H1 = H at hP hS ⊢
  obtain rfl : f_X12_isGear S o1 x1 = r3 := c4.symm
  have i5 : (f_X12_isGear S o1 x1).toInt = 0 ∨ (0 ≤ x1.toInt ∧ x1.toInt < (S.I (S.f o1 0) 2).toInt) := by have h9 := ig_rng x1 ((hW.at h_o1 List.not_mem_nil).to_12 h_o1.2.1) hW; rw [f_of F1.1] at h9; exact h9
  refine lv_if_ne (tgt := 14) hx hb dX12_setShift_5 (by decide) (fun c6 => ?_) (fun c6 => ?_)
  · have c6i : ¬ (f_X12_isGear S o1 x1).toInt = 0 := neq_v rfl rfl c6
    refine lv_iload_n hx hb dX12_setShift_14 rfl (lv_at hl 2 rfl) ?_
    refine lv_i2l hx hb dX12_setShift_15 rfl ?_
    refine lv_ldc2 (own := RX12) (v := -100) hx hb hown (hts (.constantLong RX12 156 (-100)) (by decide +kernel)) dX12_setShift_16 ?_
    refine lv_ldc2 (own := RX12) (v := 100) hx hb hown (hts (.constantLong RX12 158 (100)) (by decide +kernel)) dX12_setShift_19 ?_
    have hFc := free_all hD hS hA
    refine va_calli (va_runS (As := [.long x2.toInt64, .long (-100 : Int64), .long (100 : Int64)]) (rest := []) ⟨hx, hb, hml, hown, hts⟩ (c_X12_in l (cy := cy) (X := X) (D := D) S _ x2.toInt64 (-100 : Int64) (100 : Int64)) (cwS 3 hts gX12_setShift_X12_in rfl rfl rfl hd_X12_in ⟨Nat.le_of_ble_eq_true rfl, Nat.le_of_ble_eq_true rfl⟩) (pS hP hK hD hN) rfl rfl hl.1 rfl (lv_room (Nat.le_of_ble_eq_true rfl)) dX12_setShift_22 ⟨(Nat.zero_le _), (Nat.zero_le _)⟩) hS (fun q _ h => hFc q h) hFc (fun r7 u t H1 locs ht hvm hw hB hz1 hk1 hS => ?_)
    have c8 := hw
    obtain ⟨hP, hD⟩ := wd_post hFc ht hB
    generalize H1 = H at hP hS ⊢
    obtain rfl : f_X12_in x2.toInt64 (-100 : Int64) (100 : Int64) = r7 := c8.symm
    have i9 := i64_i x2
    have i10 : (-100 : Int64).toInt = -100 := rfl
    have l64_100 : (100 : Int64).toInt = 100 := rfl
    have i11 := in_rng x2.toInt64 (-100 : Int64) (100 : Int64)
    refine lv_if_ne (tgt := 34) hx hb dX12_setShift_25 (by decide) (fun c12 => ?_) (fun c12 => ?_)
    · have c12i : ¬ (f_X12_in x2.toInt64 (-100 : Int64) (100 : Int64)).toInt = 0 := neq_v rfl rfl c12
      refine lv_aload_n hx hb dX12_setShift_34 rfl (lv_at hl 0 rfl) ?_
      refine lv_iload_n hx hb dX12_setShift_35 rfl (lv_at hl 1 rfl) ?_
      have hFc := free_all hD hS hA
      obtain ⟨k13, gk13, hk13⟩ := wGt (cy := cy) X S h_o1.1 h_o1.2.1
      refine va_callq (va_runV (As := [.int x1]) (rest := []) ⟨hx, hb, hml, hown, hts⟩ (c_X12_gearAt l (cy := cy) (X := X) (D := D) S _ o1 h_o1 x1 (hW) (by rw [f_of F1.1]; omega)) (cwV 1 hts gX12_setShift_X12_gearAt rfl rfl rfl hd_X12_gearAt ⟨Nat.le_of_ble_eq_true rfl, Nat.le_of_ble_eq_true rfl⟩) (pV (va_recv hK hP (q := (RX12, TX12, 34)) (ci := 16) (q0 := k13) rfl hk13) hP hK hD hN) rfl rfl hl.1 rfl (lv_room (Nat.le_of_ble_eq_true rfl)) dX12_setShift_36 ⟨(Nat.zero_le _), (Nat.zero_le _)⟩) hS (fun q _ h => hFc q h) hFc (fun r14 u t H1 locs ht hvm hw hB hz1 hk1 hS => ?_)
      obtain ⟨r14, rfl, c15, o16⟩ := hw
      obtain ⟨hP, hD⟩ := wd_post hFc ht hB
      generalize H1 = H at hP hS ⊢
      refine W.eq (g2 := F0 m 39 ls [.ref r14]) rfl ?_
      obtain ⟨k17, gk17, hk17⟩ := wGt (cy := cy) X S o16.1 o16.2.1
      have i18 := ((hW.at o16 List.not_mem_nil).to_10 o16.2.1).R18
      refine va_getN (D := D) (ci := 14) (v := .int (S.I r14 18)) (C := RX10) (T := TX10) (N := 23) hx hb hts hi_X12_setShift_X10 hown hK hP k17 hk17 rfl 18 (by decide) (va_Nw.use rfl (hN (.fieldLinkNest RX12 160 "HobhouseModel$Gear" "isCut" "Z" "HobhouseModel") (by decide +kernel))) (fun _ h9 => h9) rfl dX12_setShift_39 ?_
      refine lv_if_eq (tgt := 51) hx hb dX12_setShift_42 (by decide) (fun c19 => ?_) (fun c19 => ?_)
      · have c19i : (S.I r14 18).toInt = 0 := eq_v rfl rfl c19
        refine lv_aload_n hx hb dX12_setShift_51 rfl (lv_at hl 0 rfl) ?_
        refine lv_iload_n hx hb dX12_setShift_52 rfl (lv_at hl 1 rfl) ?_
        have hFc := free_all hD hS hA
        obtain ⟨k20, gk20, hk20⟩ := wGt (cy := cy) X S h_o1.1 h_o1.2.1
        refine va_callq (va_runV (As := [.int x1]) (rest := []) ⟨hx, hb, hml, hown, hts⟩ (c_X12_gearAt l (cy := cy) (X := X) (D := D) S _ o1 h_o1 x1 (hW) (by rw [f_of F1.1]; omega)) (cwV 1 hts gX12_setShift_X12_gearAt rfl rfl rfl hd_X12_gearAt ⟨Nat.le_of_ble_eq_true rfl, Nat.le_of_ble_eq_true rfl⟩) (pV (va_recv hK hP (q := (RX12, TX12, 34)) (ci := 16) (q0 := k20) rfl hk20) hP hK hD hN) rfl rfl hl.1 rfl (lv_room (Nat.le_of_ble_eq_true rfl)) dX12_setShift_53 ⟨(Nat.zero_le _), (Nat.zero_le _)⟩) hS (fun q _ h => hFc q h) hFc (fun r21 u t H1 locs ht hvm hw hB hz1 hk1 hS => ?_)
        obtain ⟨r21, rfl, c22, o23⟩ := hw
        obtain ⟨hP, hD⟩ := wd_post hFc ht hB
        generalize H1 = H at hP hS ⊢
        refine W.eq (g2 := F0 m 56 ls [.ref r21]) rfl ?_
        obtain ⟨k24, gk24, hk24⟩ := wGt (cy := cy) X S o23.1 o23.2.1
        refine va_getN (D := D) (ci := 14) (v := .int (S.I r21 7)) (C := RX10) (T := TX10) (N := 23) hx hb hts hi_X12_setShift_X10 hown hK hP k24 hk24 rfl 7 (by decide) (va_Nw.use rfl (hN (.fieldLinkNest RX12 164 "HobhouseModel$Gear" "shift" "I" "HobhouseModel") (by decide +kernel))) (fun _ h9 => h9) rfl dX12_setShift_56 ?_
        refine lv_istore_n (lv' := [(3, .int (S.I r21 7)), (0, .ref o1), (1, .int x1), (2, .int x2)]) hx hb dX12_setShift_59 rfl hl (by decide) rfl (fun ls hl => ?_)
        refine lv_aload_n hx hb dX12_setShift_60 rfl (lv_at hl 1 rfl) ?_
        refine lv_iload_n hx hb dX12_setShift_61 rfl (lv_at hl 2 rfl) ?_
        have hFc := free_all hD hS hA
        obtain ⟨k25, gk25, hk25⟩ := wGt (cy := cy) X S h_o1.1 h_o1.2.1
        refine va_callq (va_runV (As := [.int x1]) (rest := []) ⟨hx, hb, hml, hown, hts⟩ (c_X12_gearAt l (cy := cy) (X := X) (D := D) S _ o1 h_o1 x1 (hW) (by rw [f_of F1.1]; omega)) (cwV 1 hts gX12_setShift_X12_gearAt rfl rfl rfl hd_X12_gearAt ⟨Nat.le_of_ble_eq_true rfl, Nat.le_of_ble_eq_true rfl⟩) (pV (va_recv hK hP (q := (RX12, TX12, 34)) (ci := 16) (q0 := k25) rfl hk25) hP hK hD hN) rfl rfl hl.1 rfl (lv_room (Nat.le_of_ble_eq_true rfl)) dX12_setShift_62 ⟨(Nat.zero_le _), (Nat.zero_le _)⟩) hS (fun q _ h => hFc q h) hFc (fun r26 u t H1 locs ht hvm hw hB hz1 hk1 hS => ?_)
        obtain ⟨r26, rfl, c27, o28⟩ := hw
        obtain ⟨hP, hD⟩ := wd_post hFc ht hB
        generalize H1 = H at hP hS ⊢
        refine W.eq (g2 := F0 m 65 ls [.ref r26]) rfl ?_
        refine lv_iload_n hx hb dX12_setShift_65 rfl (lv_at hl 3 rfl) ?_
        obtain ⟨k29, gk29, hk29⟩ := wGt (cy := cy) X S o28.1 o28.2.1
        refine va_putN (D := D) (ci := 14) (v := .int x2) (ty := .int) (C := RX10) (T := TX10) (N := 23) hx hb hts hi_X12_setShift_X10 tyX10 tyX10_ok nmX10 hown hK hP hD hS k29 hk29 rfl 7 (by decide) (va_Nw.use rfl (hN (.fieldLinkNest RX12 164 "HobhouseModel$Gear" "shift" "I" "HobhouseModel") (by decide +kernel))) (fun _ h9 => h9) rfl (by decide +kernel) (rfl) (rfl) (Nat.le_of_ble_eq_true rfl) dX12_setShift_66 (fun H locs hP2 hD2 hS => ?_)
        have e9 := wPuI (cy := cy) (j := 7) (v := x2) hD o28.1 o28.2.1 gk29 rfl
        obtain ⟨S30, hS30⟩ : ∃ z, S.sI r26 7 x2 = z := ⟨_, rfl⟩
        have hP : va_P D vwCl (X ++ PL cy S30) H := by rw [← hS30, ← e9]; exact hP2
        have hD : va_D A (X ++ PL cy S30) := by rw [← hS30, ← e9]; exact hD2
        have xe31 : ext S S30 := by rw [← hS30]; exact ext.sI _ _ _ _
        have t32 : stp [(10, 7), (12, 15)] [] [] S S30 := by rw [← hS30]; exact t0.I 7 x2 o28 (by decide) (trivial) (Or.inl (by decide))
        have k33 : (S30.I (S.f o1 0) 2).toInt = (S.I (S.f o1 0) 2).toInt := by rw [← hS30]; exact congrArg Int32.toInt (sI_I (by rintro ⟨e1, e2⟩; exact absurd e2 (by decide)))
        refine lv_aload_n hx hb dX12_setShift_69 rfl (lv_at hl 1 rfl) ?_
        refine lv_iload_n hx hb dX12_setShift_70 rfl (lv_at hl 0 rfl) ?_
        have hFc := free_all hD hS hA
        obtain ⟨k34, gk34, hk34⟩ := wGt (cy := cy) X S30 (xe31.A h_o1).1 (xe31.A h_o1).2.1
        refine va_calli (va_runV (As := [.int (S.I r21 7)]) (rest := []) ⟨hx, hb, hml, hown, hts⟩ (c_X12_answer l (cy := cy) (X := X) (D := D) S30 _ o1 (xe31.A h_o1) (S.I r21 7) (t32.w)) (cwV 1 hts gX12_setShift_X12_answer rfl rfl rfl hd_X12_answer ⟨Nat.le_of_ble_eq_true rfl, Nat.le_of_ble_eq_true rfl⟩) (pV (va_recv hK hP (q := (RX12, TX12, 34)) (ci := 16) (q0 := k34) rfl hk34) hP hK hD hN) rfl rfl hl.1 rfl (lv_room (Nat.le_of_ble_eq_true rfl)) dX12_setShift_71 ⟨(Nat.zero_le _), (Nat.zero_le _)⟩) hS (fun q _ h => hFc q h) hFc (fun r35 u t H1 locs ht hvm hw hB hz1 hk1 hS => ?_)
        obtain ⟨c36, w37⟩ := hw
        obtain ⟨hP, hD⟩ := wd_post hFc ht hB
        generalize H1 = H at hP hS ⊢
        obtain ⟨S38, rfl⟩ : ∃ z, z = u := ⟨_, rfl⟩
        have t39 : stp [(10, 7), (12, 15)] [] [] S S38 := t32.tr w37 (by decide) (fun _ q => absurd q List.not_mem_nil)
        have xe40 : ext S30 S38 := w37.x
        have k41 : (S38.I (S.f o1 0) 2).toInt = (S30.I (S.f o1 0) 2).toInt := by rw [(w37.fR (S.f o1 0) (xe31.A F1.2.1).1 List.not_mem_nil).1 2 (by rw [(xe31.A F1.2.1).2.1]; decide) |>.1]
        refine W.widen (k := 0) (n := 0) (Nat.le_of_ble_eq_true rfl) (Nat.le_of_ble_eq_true rfl) ?_
        exact W.iret (v := r35) hx hb hr (fun t ht hW9 => ⟨⟨r35, S38, rfl, ⟨(by show (r35, S38) = f_X12_setShift S o1 x1 x2; unfold f_X12_setShift; rw [if_neg c6, if_neg c12, l1_eq c15.symm, if_pos c19, l1_eq c22.symm, l1_eq c27.symm, l1_eq hS30, l2_eq c36.symm]), t39⟩, wd_end hP hK hD ht hW9.alike⟩, hS.F ht⟩) hS.2.2 dX12_setShift_74 hlocks
      · have c19i : ¬ (S.I r14 18).toInt = 0 := neq_v rfl rfl c19
        refine lv_aload_n hx hb dX12_setShift_45 rfl (lv_at hl 0 rfl) ?_
        refine lv_iconst (v := 3) hx hb dX12_setShift_46 (by decide) ?_
        have l32_3 : (3 : Int32).toInt = 3 := rfl
        have hFc := free_all hD hS hA
        obtain ⟨k42, gk42, hk42⟩ := wGt (cy := cy) X S h_o1.1 h_o1.2.1
        refine va_calli (va_runV (As := [.int (3 : Int32)]) (rest := []) ⟨hx, hb, hml, hown, hts⟩ (c_X12_fails l (cy := cy) (X := X) (D := D) S _ o1 h_o1 (3 : Int32) (hW)) (cwV 1 hts gX12_setShift_X12_fails rfl rfl rfl hd_X12_fails ⟨Nat.le_of_ble_eq_true rfl, Nat.le_of_ble_eq_true rfl⟩) (pV (va_recv hK hP (q := (RX12, TX12, 34)) (ci := 16) (q0 := k42) rfl hk42) hP hK hD hN) rfl rfl hl.1 rfl (lv_room (Nat.le_of_ble_eq_true rfl)) dX12_setShift_47 ⟨(Nat.zero_le _), (Nat.zero_le _)⟩) hS (fun q _ h => hFc q h) hFc (fun r43 u t H1 locs ht hvm hw hB hz1 hk1 hS => ?_)
        obtain ⟨c44, w45⟩ := hw
        obtain ⟨hP, hD⟩ := wd_post hFc ht hB
        generalize H1 = H at hP hS ⊢
        obtain ⟨S46, rfl⟩ : ∃ z, z = u := ⟨_, rfl⟩
        have t47 : stp [(10, 7), (12, 15)] [] [] S S46 := t0.tr w45 (by decide) (fun _ q => absurd q List.not_mem_nil)
        have xe48 : ext S S46 := w45.x
        have k49 : (S46.I (S.f o1 0) 2).toInt = (S.I (S.f o1 0) 2).toInt := by rw [(w45.fR (S.f o1 0) F1.2.1.1 List.not_mem_nil).1 2 (by rw [F1.2.1.2.1]; decide) |>.1]
        refine W.widen (k := 0) (n := 0) (Nat.le_of_ble_eq_true rfl) (Nat.le_of_ble_eq_true rfl) ?_
        exact W.iret (v := r43) hx hb hr (fun t ht hW9 => ⟨⟨r43, S46, rfl, ⟨(by show (r43, S46) = f_X12_setShift S o1 x1 x2; unfold f_X12_setShift; rw [if_neg c6, if_neg c12, l1_eq c15.symm, if_neg c19, l2_eq c44.symm]), t47⟩, wd_end hP hK hD ht hW9.alike⟩, hS.F ht⟩) hS.2.2 dX12_setShift_50 hlocks
    · have c12i : (f_X12_in x2.toInt64 (-100 : Int64) (100 : Int64)).toInt = 0 := eq_v rfl rfl c12
      refine lv_aload_n hx hb dX12_setShift_28 rfl (lv_at hl 0 rfl) ?_
      refine lv_iconst (v := 2) hx hb dX12_setShift_29 (by decide) ?_
      have l32_2 : (2 : Int32).toInt = 2 := rfl
      have hFc := free_all hD hS hA
      obtain ⟨k50, gk50, hk50⟩ := wGt (cy := cy) X S h_o1.1 h_o1.2.1
      refine va_calli (va_runV (As := [.int (2 : Int32)]) (rest := []) ⟨hx, hb, hml, hown, hts⟩ (c_X12_fails l (cy := cy) (X := X) (D := D) S _ o1 h_o1 (2 : Int32) (hW)) (cwV 1 hts gX12_setShift_X12_fails rfl rfl rfl hd_X12_fails ⟨Nat.le_of_ble_eq_true rfl, Nat.le_of_ble_eq_true rfl⟩) (pV (va_recv hK hP (q := (RX12, TX12, 34)) (ci := 16) (q0 := k50) rfl hk50) hP hK hD hN) rfl rfl hl.1 rfl (lv_room (Nat.le_of_ble_eq_true rfl)) dX12_setShift_30 ⟨(Nat.zero_le _), (Nat.zero_le _)⟩) hS (fun q _ h => hFc q h) hFc (fun r51 u t H1 locs ht hvm hw hB hz1 hk1 hS => ?_)
      obtain ⟨c52, w53⟩ := hw
      obtain ⟨hP, hD⟩ := wd_post hFc ht hB
      generalize H1 = H at hP hS ⊢
      obtain ⟨S54, rfl⟩ : ∃ z, z = u := ⟨_, rfl⟩
      have t55 : stp [(10, 7), (12, 15)] [] [] S S54 := t0.tr w53 (by decide) (fun _ q => absurd q List.not_mem_nil)
      have xe56 : ext S S54 := w53.x
      have k57 : (S54.I (S.f o1 0) 2).toInt = (S.I (S.f o1 0) 2).toInt := by rw [(w53.fR (S.f o1 0) F1.2.1.1 List.not_mem_nil).1 2 (by rw [F1.2.1.2.1]; decide) |>.1]
      refine W.widen (k := 0) (n := 0) (Nat.le_of_ble_eq_true rfl) (Nat.le_of_ble_eq_true rfl) ?_
      exact W.iret (v := r51) hx hb hr (fun t ht hW9 => ⟨⟨r51, S54, rfl, ⟨(by show (r51, S54) = f_X12_setShift S o1 x1 x2; unfold f_X12_setShift; rw [if_neg c6, if_pos c12, l2_eq c52.symm]), t55⟩, wd_end hP hK hD ht hW9.alike⟩, hS.F ht⟩) hS.2.2 dX12_setShift_33 hlocks
  · have c6i : (f_X12_isGear S o1 x1).toInt = 0 := eq_v rfl rfl c6
    refine lv_aload_n hx hb dX12_setShift_8 rfl (lv_at hl 0 rfl) ?_
    refine lv_iconst (v := 1) hx hb dX12_setShift_9 (by decide) ?_
    have l32_1 : (1 : Int32).toInt = 1 := rfl
    have hFc := free_all hD hS hA
    obtain ⟨k58, gk58, hk58⟩ := wGt (cy := cy) X S h_o1.1 h_o1.2.1
    refine va_calli (va_runV (As := [.int (1 : Int32)]) (rest := []) ⟨hx, hb, hml, hown, hts⟩ (c_X12_fails l (cy := cy) (X := X) (D := D) S _ o1 h_o1 (1 : Int32) (hW)) (cwV 1 hts gX12_setShift_X12_fails rfl rfl rfl hd_X12_fails ⟨Nat.le_of_ble_eq_true rfl, Nat.le_of_ble_eq_true rfl⟩) (pV (va_recv hK hP (q := (RX12, TX12, 34)) (ci := 16) (q0 := k58) rfl hk58) hP hK hD hN) rfl rfl hl.1 rfl (lv_room (Nat.le_of_ble_eq_true rfl)) dX12_setShift_10 ⟨(Nat.zero_le _), (Nat.zero_le _)⟩) hS (fun q _ h => hFc q h) hFc (fun r59 u t H1 locs ht hvm hw hB hz1 hk1 hS => ?_)
    obtain ⟨c60, w61⟩ := hw
    obtain ⟨hP, hD⟩ := wd_post hFc ht hB
    generalize H1 = H at hP hS ⊢
    obtain ⟨S62, rfl⟩ : ∃ z, z = u := ⟨_, rfl⟩
    have t63 : stp [(10, 7), (12, 15)] [] [] S S62 := t0.tr w61 (by decide) (fun _ q => absurd q List.not_mem_nil)
    have xe64 : ext S S62 := w61.x
    have k65 : (S62.I (S.f o1 0) 2).toInt = (S.I (S.f o1 0) 2).toInt := by rw [(w61.fR (S.f o1 0) F1.2.1.1 List.not_mem_nil).1 2 (by rw [F1.2.1.2.1]; decide) |>.1]
    refine W.widen (k := 0) (n := 0) (Nat.le_of_ble_eq_true rfl) (Nat.le_of_ble_eq_true rfl) ?_
    exact W.iret (v := r59) hx hb hr (fun t ht hW9 => ⟨⟨r59, S62, rfl, ⟨(by show (r59, S62) = f_X12_setShift S o1 x1 x2; unfold f_X12_setShift; rw [if_pos c6, l2_eq c60.symm]), t63⟩, wd_end hP hK hD ht hW9.alike⟩, hS.F ht⟩) hS.2.2 dX12_setShift_13 hlocks
def f_X12_diameter (S : wPS) (o1 : Nat) (x1 : Int32) : (Int32 × wPS) := if (f_X12_isGear S o1 x1) = (0 : Int32) then l2 (f_X12_fails S o1 (1 : Int32)) (fun r8 S11 => (r8, S11)) else l1 (f_X12_gearAt S o1 x1) (fun r15 => l2 (f_X12_answer S o1 ((f_X10_across S r15).toInt32)) (fun r22 S25 => (r22, S25)))
theorem hd_X12_diameter : yX12_diameter.cls = RX12 ∧ yX12_diameter.cls ≠ "java/lang/invoke/MethodHandle" ∧ yX12_diameter.cls ≠ "java/lang/invoke/VarHandle" ∧ (parseMethodDescriptor yX12_diameter.desc).map (fun d => d.parameters.length) = some 1 := by decide +kernel
set_option maxHeartbeats 4000000 in
set_option maxRecDepth 100000 in
theorem c_X12_diameter (l : Launch) {D : va_G} {cy : Nat → ClassId} {X : va_W} (S : wPS) (sz : Nat) (o1 : Nat) (h_o1 : isA S o1 12) (x1 : Int32) (hW : wtB S [])  : Met l yX12_diameter wsX12_diameter ({ frames := 4, cells := 0, slots := 0, locals := 85 }) (va_Pc [.ref o1, .int x1] (fun U => U.heap.size = sz ∧ WD D cy X (fun _ => True) S U ∧ NW U)) (va_Qi (fun r (u : wPS) => (r, u) = f_X12_diameter S o1 x1 ∧ stp [(12, 15)] [] [] S u) (fun u t => WD D cy X (va_A (X ++ PL cy S) sz) u t) (va_A (X ++ PL cy S) sz)) 0 0 (va_A (X ++ PL cy S) sz) := by
  refine Met.ofW (cc := cX12_diameter) (maxL := 2) (ret := (some .int)) (by decide) rfl ?_
  intro p e s m args below meth c s₁ B hml hv
  obtain ⟨rfl, hsz, ⟨hP, hK, hD0⟩, hN⟩ := hv
  have hx := B.exec
  have hb := B.bytes
  have hr := B.returns
  have hts := atoms_spec (ws := wsX12_diameter) B.pre
  have hown : s.vm.findClass RX12 = some m.cls := findClass_of_methodNamed (x := yX12_diameter) B.named
  have hlocks := B.notSynchronized
  subst hsz
  have hD := hD0.self (sz := s.heap.size)
  generalize hAe : va_A (X ++ PL cy S) s.heap.size = A at hD ⊢
  have hA : ∀ q : Nat, s.heap.size ≤ q → A q := fun q h => by rw [← hAe]; exact Or.inr h
  have hS : va_S A s.heap s.heap [] := va_S.rf
  have hl := lv_entry ([.ref o1, .int x1]) (n := 2) (Nat.le_of_ble_eq_true rfl)
  rw [lg_entry_eq]
  generalize (lg_sl ([.ref o1, .int x1]) ++ List.replicate (2 - (lg_sl ([.ref o1, .int x1])).length) Slot.unset).toArray = ls at hl ⊢
  have hl : lv_has ls 2 [(0, .ref o1), (1, .int x1)] := hl
  have t0 : stp [(12, 15)] [] [] S S := stp.rf hW
  refine lv_aload_n hx hb dX12_diameter_0 rfl (lv_at hl 0 rfl) ?_
  refine lv_iload_n hx hb dX12_diameter_1 rfl (lv_at hl 1 rfl) ?_
  have hFc := free_all hD hS hA
  obtain ⟨k1, gk1, hk1⟩ := wGt (cy := cy) X S h_o1.1 h_o1.2.1
  refine va_calli (va_runV (As := [.int x1]) (rest := []) ⟨hx, hb, hml, hown, hts⟩ (c_X12_isGear l (cy := cy) (X := X) (D := D) S _ o1 h_o1 x1 (hW)) (cwV 1 hts gX12_diameter_X12_isGear rfl rfl rfl hd_X12_isGear ⟨Nat.le_of_ble_eq_true rfl, Nat.le_of_ble_eq_true rfl⟩) (pV (va_recv hK hP (q := (RX12, TX12, 34)) (ci := 16) (q0 := k1) rfl hk1) hP hK hD hN) rfl rfl hl.1 rfl (lv_room (Nat.le_of_ble_eq_true rfl)) dX12_diameter_2 ⟨(Nat.zero_le _), (Nat.zero_le _)⟩) hS (fun q _ h => hFc q h) hFc (fun r2 u t H1 locs ht hvm hw hB hz1 hk1 hS => ?_)
  have c3 := hw
  obtain ⟨hP, hD⟩ := wd_post hFc ht hB
  generalize H1 = H at hP hS ⊢
  obtain rfl : f_X12_isGear S o1 x1 = r2 := c3.symm
  have F4 := ((hW.at h_o1 List.not_mem_nil).to_12 h_o1.2.1).F0
  have i5 : (f_X12_isGear S o1 x1).toInt = 0 ∨ (0 ≤ x1.toInt ∧ x1.toInt < (S.I (S.f o1 0) 2).toInt) := by have h9 := ig_rng x1 ((hW.at h_o1 List.not_mem_nil).to_12 h_o1.2.1) hW; rw [f_of F4.1] at h9; exact h9
  refine lv_if_eq (tgt := 24) hx hb dX12_diameter_5 (by decide) (fun c6 => ?_) (fun c6 => ?_)
  · have c6i : (f_X12_isGear S o1 x1).toInt = 0 := eq_v rfl rfl c6
    refine lv_aload_n hx hb dX12_diameter_24 rfl (lv_at hl 0 rfl) ?_
    refine lv_iconst (v := 1) hx hb dX12_diameter_25 (by decide) ?_
    have l32_1 : (1 : Int32).toInt = 1 := rfl
    have hFc := free_all hD hS hA
    obtain ⟨k7, gk7, hk7⟩ := wGt (cy := cy) X S h_o1.1 h_o1.2.1
    refine va_calli (va_runV (As := [.int (1 : Int32)]) (rest := []) ⟨hx, hb, hml, hown, hts⟩ (c_X12_fails l (cy := cy) (X := X) (D := D) S _ o1 h_o1 (1 : Int32) (hW)) (cwV 1 hts gX12_diameter_X12_fails rfl rfl rfl hd_X12_fails ⟨Nat.le_of_ble_eq_true rfl, Nat.le_of_ble_eq_true rfl⟩) (pV (va_recv hK hP (q := (RX12, TX12, 34)) (ci := 16) (q0 := k7) rfl hk7) hP hK hD hN) rfl rfl hl.1 rfl (lv_room (Nat.le_of_ble_eq_true rfl)) dX12_diameter_26 ⟨(Nat.zero_le _), (Nat.zero_le _)⟩) hS (fun q _ h => hFc q h) hFc (fun r8 u t H1 locs ht hvm hw hB hz1 hk1 hS => ?_)
    obtain ⟨c9, w10⟩ := hw
    obtain ⟨hP, hD⟩ := wd_post hFc ht hB
    generalize H1 = H at hP hS ⊢
    obtain ⟨S11, rfl⟩ : ∃ z, z = u := ⟨_, rfl⟩
    have t12 : stp [(12, 15)] [] [] S S11 := t0.tr w10 (by decide) (fun _ q => absurd q List.not_mem_nil)
    have xe13 : ext S S11 := w10.x
    refine W.widen (k := 0) (n := 0) (Nat.le_of_ble_eq_true rfl) (Nat.le_of_ble_eq_true rfl) ?_
    exact W.iret (v := r8) hx hb hr (fun t ht hW9 => ⟨⟨r8, S11, rfl, ⟨(by show (r8, S11) = f_X12_diameter S o1 x1; unfold f_X12_diameter; rw [if_pos c6, l2_eq c9.symm]), t12⟩, wd_end hP hK hD ht hW9.alike⟩, hS.F ht⟩) hS.2.2 dX12_diameter_29 hlocks
  · have c6i : ¬ (f_X12_isGear S o1 x1).toInt = 0 := neq_v rfl rfl c6
    refine lv_aload_n hx hb dX12_diameter_8 rfl (lv_at hl 0 rfl) ?_
    refine lv_aload_n hx hb dX12_diameter_9 rfl (lv_at hl 0 rfl) ?_
    refine lv_iload_n hx hb dX12_diameter_10 rfl (lv_at hl 1 rfl) ?_
    have hFc := free_all hD hS hA
    obtain ⟨k14, gk14, hk14⟩ := wGt (cy := cy) X S h_o1.1 h_o1.2.1
    refine va_callq (va_runV (As := [.int x1]) (rest := [.ref o1]) ⟨hx, hb, hml, hown, hts⟩ (c_X12_gearAt l (cy := cy) (X := X) (D := D) S _ o1 h_o1 x1 (hW) (by rw [f_of F4.1]; omega)) (cwV 1 hts gX12_diameter_X12_gearAt rfl rfl rfl hd_X12_gearAt ⟨Nat.le_of_ble_eq_true rfl, Nat.le_of_ble_eq_true rfl⟩) (pV (va_recv hK hP (q := (RX12, TX12, 34)) (ci := 16) (q0 := k14) rfl hk14) hP hK hD hN) rfl rfl hl.1 rfl (lv_room (Nat.le_of_ble_eq_true rfl)) dX12_diameter_11 ⟨(Nat.zero_le _), (Nat.zero_le _)⟩) hS (fun q _ h => hFc q h) hFc (fun r15 u t H1 locs ht hvm hw hB hz1 hk1 hS => ?_)
    obtain ⟨r15, rfl, c16, o17⟩ := hw
    obtain ⟨hP, hD⟩ := wd_post hFc ht hB
    generalize H1 = H at hP hS ⊢
    refine W.eq (g2 := F0 m 14 ls [.ref r15, .ref o1]) rfl ?_
    have hFc := free_all hD hS hA
    obtain ⟨k18, gk18, hk18⟩ := wGt (cy := cy) X S o17.1 o17.2.1
    refine va_calll (va_runV (As := []) (rest := [.ref o1]) ⟨hx, hb, hml, hown, hts⟩ (c_X10_across l (cy := cy) (X := X) (D := D) S _ r15 o17) (cwV 0 hts gX12_diameter_X10_across rfl rfl rfl hd_X10_across ⟨Nat.le_of_ble_eq_true rfl, Nat.le_of_ble_eq_true rfl⟩) (pV (va_recv hK hP (q := (RX10, TX10, 23)) (ci := 14) (q0 := k18) rfl hk18) hP hK hD hN) rfl rfl hl.1 rfl (lv_room (Nat.le_of_ble_eq_true rfl)) dX12_diameter_14 ⟨(Nat.zero_le _), (Nat.zero_le _)⟩) hS (fun q _ h => hFc q h) hFc (fun r19 u t H1 locs ht hvm hw hB hz1 hk1 hS => ?_)
    have c20 := hw
    obtain ⟨hP, hD⟩ := wd_post hFc ht hB
    generalize H1 = H at hP hS ⊢
    obtain rfl : f_X10_across S r15 = r19 := c20.symm
    refine lv_l2i hx hb dX12_diameter_17 rfl ?_
    have hFc := free_all hD hS hA
    obtain ⟨k21, gk21, hk21⟩ := wGt (cy := cy) X S h_o1.1 h_o1.2.1
    refine va_calli (va_runV (As := [.int ((f_X10_across S r15).toInt32)]) (rest := []) ⟨hx, hb, hml, hown, hts⟩ (c_X12_answer l (cy := cy) (X := X) (D := D) S _ o1 h_o1 ((f_X10_across S r15).toInt32) (hW)) (cwV 1 hts gX12_diameter_X12_answer rfl rfl rfl hd_X12_answer ⟨Nat.le_of_ble_eq_true rfl, Nat.le_of_ble_eq_true rfl⟩) (pV (va_recv hK hP (q := (RX12, TX12, 34)) (ci := 16) (q0 := k21) rfl hk21) hP hK hD hN) rfl rfl hl.1 rfl (lv_room (Nat.le_of_ble_eq_true rfl)) dX12_diameter_18 ⟨(Nat.zero_le _), (Nat.zero_le _)⟩) hS (fun q _ h => hFc q h) hFc (fun r22 u t H1 locs ht hvm hw hB hz1 hk1 hS => ?_)
    obtain ⟨c23, w24⟩ := hw
    obtain ⟨hP, hD⟩ := wd_post hFc ht hB
    generalize H1 = H at hP hS ⊢
    obtain ⟨S25, rfl⟩ : ∃ z, z = u := ⟨_, rfl⟩
    have t26 : stp [(12, 15)] [] [] S S25 := t0.tr w24 (by decide) (fun _ q => absurd q List.not_mem_nil)
    have xe27 : ext S S25 := w24.x
    refine lv_goto (tgt := 29) hx hb dX12_diameter_21 (by decide) ?_
    refine W.widen (k := 0) (n := 0) (Nat.le_of_ble_eq_true rfl) (Nat.le_of_ble_eq_true rfl) ?_
    exact W.iret (v := r22) hx hb hr (fun t ht hW9 => ⟨⟨r22, S25, rfl, ⟨(by show (r22, S25) = f_X12_diameter S o1 x1; unfold f_X12_diameter; rw [if_neg c6, l1_eq c16.symm, l2_eq c23.symm]), t26⟩, wd_end hP hK hD ht hW9.alike⟩, hS.F ht⟩) hS.2.2 dX12_diameter_29 hlocks
def f_X12_tip (S : wPS) (o1 : Nat) (x1 : Int32) : (Int32 × wPS) := if (f_X12_isGear S o1 x1) = (0 : Int32) then l2 (f_X12_fails S o1 (1 : Int32)) (fun r8 S11 => (r8, S11)) else l1 (f_X12_gearAt S o1 x1) (fun r15 => l1 (f_X12_gearAt S o1 x1) (fun r19 => l2 (f_X12_answer S o1 ((f_X10_tip S r15 (S.I r19 7)).toInt32)) (fun r27 S30 => (r27, S30))))
theorem hi_X12_tip_X10 : ∀ w ∈ u_ws RX10 TX10 23, w ∈ wsX12_tip := by decide +kernel
theorem hd_X12_tip : yX12_tip.cls = RX12 ∧ yX12_tip.cls ≠ "java/lang/invoke/MethodHandle" ∧ yX12_tip.cls ≠ "java/lang/invoke/VarHandle" ∧ (parseMethodDescriptor yX12_tip.desc).map (fun d => d.parameters.length) = some 1 := by decide +kernel
set_option maxHeartbeats 4000000 in
set_option maxRecDepth 100000 in
theorem c_X12_tip (l : Launch) {D : va_G} {cy : Nat → ClassId} {X : va_W} (S : wPS) (sz : Nat) (o1 : Nat) (h_o1 : isA S o1 12) (x1 : Int32) (hW : wtB S [])  : Met l yX12_tip wsX12_tip ({ frames := 4, cells := 0, slots := 0, locals := 85 }) (va_Pc [.ref o1, .int x1] (fun U => U.heap.size = sz ∧ WD D cy X (fun _ => True) S U ∧ NW U)) (va_Qi (fun r (u : wPS) => (r, u) = f_X12_tip S o1 x1 ∧ stp [(12, 15)] [] [] S u) (fun u t => WD D cy X (va_A (X ++ PL cy S) sz) u t) (va_A (X ++ PL cy S) sz)) 0 0 (va_A (X ++ PL cy S) sz) := by
  refine Met.ofW (cc := cX12_tip) (maxL := 2) (ret := (some .int)) (by decide) rfl ?_
  intro p e s m args below meth c s₁ B hml hv
  obtain ⟨rfl, hsz, ⟨hP, hK, hD0⟩, hN⟩ := hv
  have hx := B.exec
  have hb := B.bytes
  have hr := B.returns
  have hts := atoms_spec (ws := wsX12_tip) B.pre
  have hown : s.vm.findClass RX12 = some m.cls := findClass_of_methodNamed (x := yX12_tip) B.named
  have hlocks := B.notSynchronized
  subst hsz
  have hD := hD0.self (sz := s.heap.size)
  generalize hAe : va_A (X ++ PL cy S) s.heap.size = A at hD ⊢
  have hA : ∀ q : Nat, s.heap.size ≤ q → A q := fun q h => by rw [← hAe]; exact Or.inr h
  have hS : va_S A s.heap s.heap [] := va_S.rf
  have hl := lv_entry ([.ref o1, .int x1]) (n := 2) (Nat.le_of_ble_eq_true rfl)
  rw [lg_entry_eq]
  generalize (lg_sl ([.ref o1, .int x1]) ++ List.replicate (2 - (lg_sl ([.ref o1, .int x1])).length) Slot.unset).toArray = ls at hl ⊢
  have hl : lv_has ls 2 [(0, .ref o1), (1, .int x1)] := hl
  have t0 : stp [(12, 15)] [] [] S S := stp.rf hW
  refine lv_aload_n hx hb dX12_tip_0 rfl (lv_at hl 0 rfl) ?_
  refine lv_iload_n hx hb dX12_tip_1 rfl (lv_at hl 1 rfl) ?_
  have hFc := free_all hD hS hA
  obtain ⟨k1, gk1, hk1⟩ := wGt (cy := cy) X S h_o1.1 h_o1.2.1
  refine va_calli (va_runV (As := [.int x1]) (rest := []) ⟨hx, hb, hml, hown, hts⟩ (c_X12_isGear l (cy := cy) (X := X) (D := D) S _ o1 h_o1 x1 (hW)) (cwV 1 hts gX12_tip_X12_isGear rfl rfl rfl hd_X12_isGear ⟨Nat.le_of_ble_eq_true rfl, Nat.le_of_ble_eq_true rfl⟩) (pV (va_recv hK hP (q := (RX12, TX12, 34)) (ci := 16) (q0 := k1) rfl hk1) hP hK hD hN) rfl rfl hl.1 rfl (lv_room (Nat.le_of_ble_eq_true rfl)) dX12_tip_2 ⟨(Nat.zero_le _), (Nat.zero_le _)⟩) hS (fun q _ h => hFc q h) hFc (fun r2 u t H1 locs ht hvm hw hB hz1 hk1 hS => ?_)
  have c3 := hw
  obtain ⟨hP, hD⟩ := wd_post hFc ht hB
  generalize H1 = H at hP hS ⊢
  obtain rfl : f_X12_isGear S o1 x1 = r2 := c3.symm
  have F4 := ((hW.at h_o1 List.not_mem_nil).to_12 h_o1.2.1).F0
  have i5 : (f_X12_isGear S o1 x1).toInt = 0 ∨ (0 ≤ x1.toInt ∧ x1.toInt < (S.I (S.f o1 0) 2).toInt) := by have h9 := ig_rng x1 ((hW.at h_o1 List.not_mem_nil).to_12 h_o1.2.1) hW; rw [f_of F4.1] at h9; exact h9
  refine lv_if_eq (tgt := 32) hx hb dX12_tip_5 (by decide) (fun c6 => ?_) (fun c6 => ?_)
  · have c6i : (f_X12_isGear S o1 x1).toInt = 0 := eq_v rfl rfl c6
    refine lv_aload_n hx hb dX12_tip_32 rfl (lv_at hl 0 rfl) ?_
    refine lv_iconst (v := 1) hx hb dX12_tip_33 (by decide) ?_
    have l32_1 : (1 : Int32).toInt = 1 := rfl
    have hFc := free_all hD hS hA
    obtain ⟨k7, gk7, hk7⟩ := wGt (cy := cy) X S h_o1.1 h_o1.2.1
    refine va_calli (va_runV (As := [.int (1 : Int32)]) (rest := []) ⟨hx, hb, hml, hown, hts⟩ (c_X12_fails l (cy := cy) (X := X) (D := D) S _ o1 h_o1 (1 : Int32) (hW)) (cwV 1 hts gX12_tip_X12_fails rfl rfl rfl hd_X12_fails ⟨Nat.le_of_ble_eq_true rfl, Nat.le_of_ble_eq_true rfl⟩) (pV (va_recv hK hP (q := (RX12, TX12, 34)) (ci := 16) (q0 := k7) rfl hk7) hP hK hD hN) rfl rfl hl.1 rfl (lv_room (Nat.le_of_ble_eq_true rfl)) dX12_tip_34 ⟨(Nat.zero_le _), (Nat.zero_le _)⟩) hS (fun q _ h => hFc q h) hFc (fun r8 u t H1 locs ht hvm hw hB hz1 hk1 hS => ?_)
    obtain ⟨c9, w10⟩ := hw
    obtain ⟨hP, hD⟩ := wd_post hFc ht hB
    generalize H1 = H at hP hS ⊢
    obtain ⟨S11, rfl⟩ : ∃ z, z = u := ⟨_, rfl⟩
    have t12 : stp [(12, 15)] [] [] S S11 := t0.tr w10 (by decide) (fun _ q => absurd q List.not_mem_nil)
    have xe13 : ext S S11 := w10.x
    refine W.widen (k := 0) (n := 0) (Nat.le_of_ble_eq_true rfl) (Nat.le_of_ble_eq_true rfl) ?_
    exact W.iret (v := r8) hx hb hr (fun t ht hW9 => ⟨⟨r8, S11, rfl, ⟨(by show (r8, S11) = f_X12_tip S o1 x1; unfold f_X12_tip; rw [if_pos c6, l2_eq c9.symm]), t12⟩, wd_end hP hK hD ht hW9.alike⟩, hS.F ht⟩) hS.2.2 dX12_tip_37 hlocks
  · have c6i : ¬ (f_X12_isGear S o1 x1).toInt = 0 := neq_v rfl rfl c6
    refine lv_aload_n hx hb dX12_tip_8 rfl (lv_at hl 0 rfl) ?_
    refine lv_aload_n hx hb dX12_tip_9 rfl (lv_at hl 0 rfl) ?_
    refine lv_iload_n hx hb dX12_tip_10 rfl (lv_at hl 1 rfl) ?_
    have hFc := free_all hD hS hA
    obtain ⟨k14, gk14, hk14⟩ := wGt (cy := cy) X S h_o1.1 h_o1.2.1
    refine va_callq (va_runV (As := [.int x1]) (rest := [.ref o1]) ⟨hx, hb, hml, hown, hts⟩ (c_X12_gearAt l (cy := cy) (X := X) (D := D) S _ o1 h_o1 x1 (hW) (by rw [f_of F4.1]; omega)) (cwV 1 hts gX12_tip_X12_gearAt rfl rfl rfl hd_X12_gearAt ⟨Nat.le_of_ble_eq_true rfl, Nat.le_of_ble_eq_true rfl⟩) (pV (va_recv hK hP (q := (RX12, TX12, 34)) (ci := 16) (q0 := k14) rfl hk14) hP hK hD hN) rfl rfl hl.1 rfl (lv_room (Nat.le_of_ble_eq_true rfl)) dX12_tip_11 ⟨(Nat.zero_le _), (Nat.zero_le _)⟩) hS (fun q _ h => hFc q h) hFc (fun r15 u t H1 locs ht hvm hw hB hz1 hk1 hS => ?_)
    obtain ⟨r15, rfl, c16, o17⟩ := hw
    obtain ⟨hP, hD⟩ := wd_post hFc ht hB
    generalize H1 = H at hP hS ⊢
    refine W.eq (g2 := F0 m 14 ls [.ref r15, .ref o1]) rfl ?_
    refine lv_aload_n hx hb dX12_tip_14 rfl (lv_at hl 0 rfl) ?_
    refine lv_iload_n hx hb dX12_tip_15 rfl (lv_at hl 1 rfl) ?_
    have hFc := free_all hD hS hA
    obtain ⟨k18, gk18, hk18⟩ := wGt (cy := cy) X S h_o1.1 h_o1.2.1
    refine va_callq (va_runV (As := [.int x1]) (rest := [.ref r15, .ref o1]) ⟨hx, hb, hml, hown, hts⟩ (c_X12_gearAt l (cy := cy) (X := X) (D := D) S _ o1 h_o1 x1 (hW) (by rw [f_of F4.1]; omega)) (cwV 1 hts gX12_tip_X12_gearAt rfl rfl rfl hd_X12_gearAt ⟨Nat.le_of_ble_eq_true rfl, Nat.le_of_ble_eq_true rfl⟩) (pV (va_recv hK hP (q := (RX12, TX12, 34)) (ci := 16) (q0 := k18) rfl hk18) hP hK hD hN) rfl rfl hl.1 rfl (lv_room (Nat.le_of_ble_eq_true rfl)) dX12_tip_16 ⟨(Nat.zero_le _), (Nat.zero_le _)⟩) hS (fun q _ h => hFc q h) hFc (fun r19 u t H1 locs ht hvm hw hB hz1 hk1 hS => ?_)
    obtain ⟨r19, rfl, c20, o21⟩ := hw
    obtain ⟨hP, hD⟩ := wd_post hFc ht hB
    generalize H1 = H at hP hS ⊢
    refine W.eq (g2 := F0 m 19 ls [.ref r19, .ref r15, .ref o1]) rfl ?_
    obtain ⟨k22, gk22, hk22⟩ := wGt (cy := cy) X S o21.1 o21.2.1
    refine va_getN (D := D) (ci := 14) (v := .int (S.I r19 7)) (C := RX10) (T := TX10) (N := 23) hx hb hts hi_X12_tip_X10 hown hK hP k22 hk22 rfl 7 (by decide) (va_Nw.use rfl (hN (.fieldLinkNest RX12 164 "HobhouseModel$Gear" "shift" "I" "HobhouseModel") (by decide +kernel))) (fun _ h9 => h9) rfl dX12_tip_19 ?_
    have hFc := free_all hD hS hA
    obtain ⟨k23, gk23, hk23⟩ := wGt (cy := cy) X S o17.1 o17.2.1
    refine va_calll (va_runV (As := [.int (S.I r19 7)]) (rest := [.ref o1]) ⟨hx, hb, hml, hown, hts⟩ (c_X10_tip l (cy := cy) (X := X) (D := D) S _ r15 o17 (S.I r19 7)) (cwV 1 hts gX12_tip_X10_tip rfl rfl rfl hd_X10_tip ⟨Nat.le_of_ble_eq_true rfl, Nat.le_of_ble_eq_true rfl⟩) (pV (va_recv hK hP (q := (RX10, TX10, 23)) (ci := 14) (q0 := k23) rfl hk23) hP hK hD hN) rfl rfl hl.1 rfl (lv_room (Nat.le_of_ble_eq_true rfl)) dX12_tip_22 ⟨(Nat.zero_le _), (Nat.zero_le _)⟩) hS (fun q _ h => hFc q h) hFc (fun r24 u t H1 locs ht hvm hw hB hz1 hk1 hS => ?_)
    have c25 := hw
    obtain ⟨hP, hD⟩ := wd_post hFc ht hB
    generalize H1 = H at hP hS ⊢
    obtain rfl : f_X10_tip S r15 (S.I r19 7) = r24 := c25.symm
    refine lv_l2i hx hb dX12_tip_25 rfl ?_
    have hFc := free_all hD hS hA
    obtain ⟨k26, gk26, hk26⟩ := wGt (cy := cy) X S h_o1.1 h_o1.2.1
    refine va_calli (va_runV (As := [.int ((f_X10_tip S r15 (S.I r19 7)).toInt32)]) (rest := []) ⟨hx, hb, hml, hown, hts⟩ (c_X12_answer l (cy := cy) (X := X) (D := D) S _ o1 h_o1 ((f_X10_tip S r15 (S.I r19 7)).toInt32) (hW)) (cwV 1 hts gX12_tip_X12_answer rfl rfl rfl hd_X12_answer ⟨Nat.le_of_ble_eq_true rfl, Nat.le_of_ble_eq_true rfl⟩) (pV (va_recv hK hP (q := (RX12, TX12, 34)) (ci := 16) (q0 := k26) rfl hk26) hP hK hD hN) rfl rfl hl.1 rfl (lv_room (Nat.le_of_ble_eq_true rfl)) dX12_tip_26 ⟨(Nat.zero_le _), (Nat.zero_le _)⟩) hS (fun q _ h => hFc q h) hFc (fun r27 u t H1 locs ht hvm hw hB hz1 hk1 hS => ?_)
    obtain ⟨c28, w29⟩ := hw
    obtain ⟨hP, hD⟩ := wd_post hFc ht hB
    generalize H1 = H at hP hS ⊢
    obtain ⟨S30, rfl⟩ : ∃ z, z = u := ⟨_, rfl⟩
    have t31 : stp [(12, 15)] [] [] S S30 := t0.tr w29 (by decide) (fun _ q => absurd q List.not_mem_nil)
    have xe32 : ext S S30 := w29.x
    refine lv_goto (tgt := 37) hx hb dX12_tip_29 (by decide) ?_
    refine W.widen (k := 0) (n := 0) (Nat.le_of_ble_eq_true rfl) (Nat.le_of_ble_eq_true rfl) ?_
    exact W.iret (v := r27) hx hb hr (fun t ht hW9 => ⟨⟨r27, S30, rfl, ⟨(by show (r27, S30) = f_X12_tip S o1 x1; unfold f_X12_tip; rw [if_neg c6, l1_eq c16.symm, l1_eq c20.symm, l2_eq c28.symm]), t31⟩, wd_end hP hK hD ht hW9.alike⟩, hS.F ht⟩) hS.2.2 dX12_tip_37 hlocks
def f_X12_isUndercut (S : wPS) (o1 : Nat) (x1 : Int32) : (Int32 × wPS) := if (f_X12_isGear S o1 x1) = (0 : Int32) then l2 (f_X12_refuses S o1 (1 : Int32)) (fun r8 S12 => (r8, S12)) else l1 (f_X12_gearAt S o1 x1) (fun r16 => l1 (f_X12_gearAt S o1 x1) (fun r20 => l2 (f_X12_says S o1 (f_X10_isUndercut S r16 (S.I r20 7))) (fun r28 S32 => (r28, S32))))
theorem hi_X12_isUndercut_X10 : ∀ w ∈ u_ws RX10 TX10 23, w ∈ wsX12_isUndercut := by decide +kernel
theorem hd_X12_isUndercut : yX12_isUndercut.cls = RX12 ∧ yX12_isUndercut.cls ≠ "java/lang/invoke/MethodHandle" ∧ yX12_isUndercut.cls ≠ "java/lang/invoke/VarHandle" ∧ (parseMethodDescriptor yX12_isUndercut.desc).map (fun d => d.parameters.length) = some 1 := by decide +kernel
set_option maxHeartbeats 4000000 in
set_option maxRecDepth 100000 in
theorem c_X12_isUndercut (l : Launch) {D : va_G} {cy : Nat → ClassId} {X : va_W} (S : wPS) (sz : Nat) (o1 : Nat) (h_o1 : isA S o1 12) (x1 : Int32) (hW : wtB S [])  : Met l yX12_isUndercut wsX12_isUndercut ({ frames := 4, cells := 0, slots := 0, locals := 85 }) (va_Pc [.ref o1, .int x1] (fun U => U.heap.size = sz ∧ WD D cy X (fun _ => True) S U ∧ NW U)) (va_Qi (fun r (u : wPS) => (r, u) = f_X12_isUndercut S o1 x1 ∧ stp [(12, 15)] [] [] S u ∧ narrow .boolean (.int r) = .int r) (fun u t => WD D cy X (va_A (X ++ PL cy S) sz) u t) (va_A (X ++ PL cy S) sz)) 0 0 (va_A (X ++ PL cy S) sz) := by
  refine Met.ofW (cc := cX12_isUndercut) (maxL := 2) (ret := (some .boolean)) (by decide) rfl ?_
  intro p e s m args below meth c s₁ B hml hv
  obtain ⟨rfl, hsz, ⟨hP, hK, hD0⟩, hN⟩ := hv
  have hx := B.exec
  have hb := B.bytes
  have hr := B.returns
  have hts := atoms_spec (ws := wsX12_isUndercut) B.pre
  have hown : s.vm.findClass RX12 = some m.cls := findClass_of_methodNamed (x := yX12_isUndercut) B.named
  have hlocks := B.notSynchronized
  subst hsz
  have hD := hD0.self (sz := s.heap.size)
  generalize hAe : va_A (X ++ PL cy S) s.heap.size = A at hD ⊢
  have hA : ∀ q : Nat, s.heap.size ≤ q → A q := fun q h => by rw [← hAe]; exact Or.inr h
  have hS : va_S A s.heap s.heap [] := va_S.rf
  have hl := lv_entry ([.ref o1, .int x1]) (n := 2) (Nat.le_of_ble_eq_true rfl)
  rw [lg_entry_eq]
  generalize (lg_sl ([.ref o1, .int x1]) ++ List.replicate (2 - (lg_sl ([.ref o1, .int x1])).length) Slot.unset).toArray = ls at hl ⊢
  have hl : lv_has ls 2 [(0, .ref o1), (1, .int x1)] := hl
  have t0 : stp [(12, 15)] [] [] S S := stp.rf hW
  refine lv_aload_n hx hb dX12_isUndercut_0 rfl (lv_at hl 0 rfl) ?_
  refine lv_iload_n hx hb dX12_isUndercut_1 rfl (lv_at hl 1 rfl) ?_
  have hFc := free_all hD hS hA
  obtain ⟨k1, gk1, hk1⟩ := wGt (cy := cy) X S h_o1.1 h_o1.2.1
  refine va_calli (va_runV (As := [.int x1]) (rest := []) ⟨hx, hb, hml, hown, hts⟩ (c_X12_isGear l (cy := cy) (X := X) (D := D) S _ o1 h_o1 x1 (hW)) (cwV 1 hts gX12_isUndercut_X12_isGear rfl rfl rfl hd_X12_isGear ⟨Nat.le_of_ble_eq_true rfl, Nat.le_of_ble_eq_true rfl⟩) (pV (va_recv hK hP (q := (RX12, TX12, 34)) (ci := 16) (q0 := k1) rfl hk1) hP hK hD hN) rfl rfl hl.1 rfl (lv_room (Nat.le_of_ble_eq_true rfl)) dX12_isUndercut_2 ⟨(Nat.zero_le _), (Nat.zero_le _)⟩) hS (fun q _ h => hFc q h) hFc (fun r2 u t H1 locs ht hvm hw hB hz1 hk1 hS => ?_)
  have c3 := hw
  obtain ⟨hP, hD⟩ := wd_post hFc ht hB
  generalize H1 = H at hP hS ⊢
  obtain rfl : f_X12_isGear S o1 x1 = r2 := c3.symm
  have F4 := ((hW.at h_o1 List.not_mem_nil).to_12 h_o1.2.1).F0
  have i5 : (f_X12_isGear S o1 x1).toInt = 0 ∨ (0 ≤ x1.toInt ∧ x1.toInt < (S.I (S.f o1 0) 2).toInt) := by have h9 := ig_rng x1 ((hW.at h_o1 List.not_mem_nil).to_12 h_o1.2.1) hW; rw [f_of F4.1] at h9; exact h9
  refine lv_if_eq (tgt := 31) hx hb dX12_isUndercut_5 (by decide) (fun c6 => ?_) (fun c6 => ?_)
  · have c6i : (f_X12_isGear S o1 x1).toInt = 0 := eq_v rfl rfl c6
    refine lv_aload_n hx hb dX12_isUndercut_31 rfl (lv_at hl 0 rfl) ?_
    refine lv_iconst (v := 1) hx hb dX12_isUndercut_32 (by decide) ?_
    have l32_1 : (1 : Int32).toInt = 1 := rfl
    have hFc := free_all hD hS hA
    obtain ⟨k7, gk7, hk7⟩ := wGt (cy := cy) X S h_o1.1 h_o1.2.1
    refine va_calli (va_runV (As := [.int (1 : Int32)]) (rest := []) ⟨hx, hb, hml, hown, hts⟩ (c_X12_refuses l (cy := cy) (X := X) (D := D) S _ o1 h_o1 (1 : Int32) (hW)) (cwV 1 hts gX12_isUndercut_X12_refuses rfl rfl rfl hd_X12_refuses ⟨Nat.le_of_ble_eq_true rfl, Nat.le_of_ble_eq_true rfl⟩) (pV (va_recv hK hP (q := (RX12, TX12, 34)) (ci := 16) (q0 := k7) rfl hk7) hP hK hD hN) rfl rfl hl.1 rfl (lv_room (Nat.le_of_ble_eq_true rfl)) dX12_isUndercut_33 ⟨(Nat.zero_le _), (Nat.zero_le _)⟩) hS (fun q _ h => hFc q h) hFc (fun r8 u t H1 locs ht hvm hw hB hz1 hk1 hS => ?_)
    obtain ⟨c9, w10, y11⟩ := hw
    obtain ⟨hP, hD⟩ := wd_post hFc ht hB
    generalize H1 = H at hP hS ⊢
    obtain ⟨S12, rfl⟩ : ∃ z, z = u := ⟨_, rfl⟩
    have t13 : stp [(12, 15)] [] [] S S12 := t0.tr w10 (by decide) (fun _ q => absurd q List.not_mem_nil)
    have xe14 : ext S S12 := w10.x
    refine W.widen (k := 0) (n := 0) (Nat.le_of_ble_eq_true rfl) (Nat.le_of_ble_eq_true rfl) ?_
    exact W.zret (v := r8) hx hb hr (y11) (fun t ht hW9 => ⟨⟨r8, S12, rfl, ⟨(by show (r8, S12) = f_X12_isUndercut S o1 x1; unfold f_X12_isUndercut; rw [if_pos c6, l2_eq c9.symm]), t13, (y11)⟩, wd_end hP hK hD ht hW9.alike⟩, hS.F ht⟩) hS.2.2 dX12_isUndercut_36 hlocks
  · have c6i : ¬ (f_X12_isGear S o1 x1).toInt = 0 := neq_v rfl rfl c6
    refine lv_aload_n hx hb dX12_isUndercut_8 rfl (lv_at hl 0 rfl) ?_
    refine lv_aload_n hx hb dX12_isUndercut_9 rfl (lv_at hl 0 rfl) ?_
    refine lv_iload_n hx hb dX12_isUndercut_10 rfl (lv_at hl 1 rfl) ?_
    have hFc := free_all hD hS hA
    obtain ⟨k15, gk15, hk15⟩ := wGt (cy := cy) X S h_o1.1 h_o1.2.1
    refine va_callq (va_runV (As := [.int x1]) (rest := [.ref o1]) ⟨hx, hb, hml, hown, hts⟩ (c_X12_gearAt l (cy := cy) (X := X) (D := D) S _ o1 h_o1 x1 (hW) (by rw [f_of F4.1]; omega)) (cwV 1 hts gX12_isUndercut_X12_gearAt rfl rfl rfl hd_X12_gearAt ⟨Nat.le_of_ble_eq_true rfl, Nat.le_of_ble_eq_true rfl⟩) (pV (va_recv hK hP (q := (RX12, TX12, 34)) (ci := 16) (q0 := k15) rfl hk15) hP hK hD hN) rfl rfl hl.1 rfl (lv_room (Nat.le_of_ble_eq_true rfl)) dX12_isUndercut_11 ⟨(Nat.zero_le _), (Nat.zero_le _)⟩) hS (fun q _ h => hFc q h) hFc (fun r16 u t H1 locs ht hvm hw hB hz1 hk1 hS => ?_)
    obtain ⟨r16, rfl, c17, o18⟩ := hw
    obtain ⟨hP, hD⟩ := wd_post hFc ht hB
    generalize H1 = H at hP hS ⊢
    refine W.eq (g2 := F0 m 14 ls [.ref r16, .ref o1]) rfl ?_
    refine lv_aload_n hx hb dX12_isUndercut_14 rfl (lv_at hl 0 rfl) ?_
    refine lv_iload_n hx hb dX12_isUndercut_15 rfl (lv_at hl 1 rfl) ?_
    have hFc := free_all hD hS hA
    obtain ⟨k19, gk19, hk19⟩ := wGt (cy := cy) X S h_o1.1 h_o1.2.1
    refine va_callq (va_runV (As := [.int x1]) (rest := [.ref r16, .ref o1]) ⟨hx, hb, hml, hown, hts⟩ (c_X12_gearAt l (cy := cy) (X := X) (D := D) S _ o1 h_o1 x1 (hW) (by rw [f_of F4.1]; omega)) (cwV 1 hts gX12_isUndercut_X12_gearAt rfl rfl rfl hd_X12_gearAt ⟨Nat.le_of_ble_eq_true rfl, Nat.le_of_ble_eq_true rfl⟩) (pV (va_recv hK hP (q := (RX12, TX12, 34)) (ci := 16) (q0 := k19) rfl hk19) hP hK hD hN) rfl rfl hl.1 rfl (lv_room (Nat.le_of_ble_eq_true rfl)) dX12_isUndercut_16 ⟨(Nat.zero_le _), (Nat.zero_le _)⟩) hS (fun q _ h => hFc q h) hFc (fun r20 u t H1 locs ht hvm hw hB hz1 hk1 hS => ?_)
    obtain ⟨r20, rfl, c21, o22⟩ := hw
    obtain ⟨hP, hD⟩ := wd_post hFc ht hB
    generalize H1 = H at hP hS ⊢
    refine W.eq (g2 := F0 m 19 ls [.ref r20, .ref r16, .ref o1]) rfl ?_
    obtain ⟨k23, gk23, hk23⟩ := wGt (cy := cy) X S o22.1 o22.2.1
    refine va_getN (D := D) (ci := 14) (v := .int (S.I r20 7)) (C := RX10) (T := TX10) (N := 23) hx hb hts hi_X12_isUndercut_X10 hown hK hP k23 hk23 rfl 7 (by decide) (va_Nw.use rfl (hN (.fieldLinkNest RX12 164 "HobhouseModel$Gear" "shift" "I" "HobhouseModel") (by decide +kernel))) (fun _ h9 => h9) rfl dX12_isUndercut_19 ?_
    have hFc := free_all hD hS hA
    obtain ⟨k24, gk24, hk24⟩ := wGt (cy := cy) X S o18.1 o18.2.1
    refine va_calli (va_runV (As := [.int (S.I r20 7)]) (rest := [.ref o1]) ⟨hx, hb, hml, hown, hts⟩ (c_X10_isUndercut l (cy := cy) (X := X) (D := D) S _ r16 o18 (S.I r20 7)) (cwV 1 hts gX12_isUndercut_X10_isUndercut rfl rfl rfl hd_X10_isUndercut ⟨Nat.le_of_ble_eq_true rfl, Nat.le_of_ble_eq_true rfl⟩) (pV (va_recv hK hP (q := (RX10, TX10, 23)) (ci := 14) (q0 := k24) rfl hk24) hP hK hD hN) rfl rfl hl.1 rfl (lv_room (Nat.le_of_ble_eq_true rfl)) dX12_isUndercut_22 ⟨(Nat.zero_le _), (Nat.zero_le _)⟩) hS (fun q _ h => hFc q h) hFc (fun r25 u t H1 locs ht hvm hw hB hz1 hk1 hS => ?_)
    have c26 := hw
    obtain ⟨hP, hD⟩ := wd_post hFc ht hB
    generalize H1 = H at hP hS ⊢
    obtain rfl : f_X10_isUndercut S r16 (S.I r20 7) = r25 := c26.symm
    have hFc := free_all hD hS hA
    obtain ⟨k27, gk27, hk27⟩ := wGt (cy := cy) X S h_o1.1 h_o1.2.1
    refine va_calli (va_runV (As := [.int (f_X10_isUndercut S r16 (S.I r20 7))]) (rest := []) ⟨hx, hb, hml, hown, hts⟩ (c_X12_says l (cy := cy) (X := X) (D := D) S _ o1 h_o1 (f_X10_isUndercut S r16 (S.I r20 7)) (hW) (f_X10_isUndercut_b S r16 (S.I r20 7))) (cwV 1 hts gX12_isUndercut_X12_says rfl rfl rfl hd_X12_says ⟨Nat.le_of_ble_eq_true rfl, Nat.le_of_ble_eq_true rfl⟩) (pV (va_recv hK hP (q := (RX12, TX12, 34)) (ci := 16) (q0 := k27) rfl hk27) hP hK hD hN) rfl rfl hl.1 rfl (lv_room (Nat.le_of_ble_eq_true rfl)) dX12_isUndercut_25 ⟨(Nat.zero_le _), (Nat.zero_le _)⟩) hS (fun q _ h => hFc q h) hFc (fun r28 u t H1 locs ht hvm hw hB hz1 hk1 hS => ?_)
    obtain ⟨c29, w30, y31⟩ := hw
    obtain ⟨hP, hD⟩ := wd_post hFc ht hB
    generalize H1 = H at hP hS ⊢
    obtain ⟨S32, rfl⟩ : ∃ z, z = u := ⟨_, rfl⟩
    have t33 : stp [(12, 15)] [] [] S S32 := t0.tr w30 (by decide) (fun _ q => absurd q List.not_mem_nil)
    have xe34 : ext S S32 := w30.x
    refine lv_goto (tgt := 36) hx hb dX12_isUndercut_28 (by decide) ?_
    refine W.widen (k := 0) (n := 0) (Nat.le_of_ble_eq_true rfl) (Nat.le_of_ble_eq_true rfl) ?_
    exact W.zret (v := r28) hx hb hr (y31) (fun t ht hW9 => ⟨⟨r28, S32, rfl, ⟨(by show (r28, S32) = f_X12_isUndercut S o1 x1; unfold f_X12_isUndercut; rw [if_neg c6, l1_eq c17.symm, l1_eq c21.symm, l2_eq c29.symm]), t33, (y31)⟩, wd_end hP hK hD ht hW9.alike⟩, hS.F ht⟩) hS.2.2 dX12_isUndercut_36 hlocks
def f_X12_isSharp (S : wPS) (o1 : Nat) (x1 : Int32) : (Int32 × wPS) := if (f_X12_isGear S o1 x1) = (0 : Int32) then l2 (f_X12_refuses S o1 (1 : Int32)) (fun r8 S12 => (r8, S12)) else l1 (f_X12_gearAt S o1 x1) (fun r16 => l1 (f_X12_gearAt S o1 x1) (fun r20 => l2 (f_X12_says S o1 (f_X10_isSharp S r16 (S.I r20 7))) (fun r28 S32 => (r28, S32))))
theorem hi_X12_isSharp_X10 : ∀ w ∈ u_ws RX10 TX10 23, w ∈ wsX12_isSharp := by decide +kernel
theorem hd_X12_isSharp : yX12_isSharp.cls = RX12 ∧ yX12_isSharp.cls ≠ "java/lang/invoke/MethodHandle" ∧ yX12_isSharp.cls ≠ "java/lang/invoke/VarHandle" ∧ (parseMethodDescriptor yX12_isSharp.desc).map (fun d => d.parameters.length) = some 1 := by decide +kernel
set_option maxHeartbeats 4000000 in
set_option maxRecDepth 100000 in
theorem c_X12_isSharp (l : Launch) {D : va_G} {cy : Nat → ClassId} {X : va_W} (S : wPS) (sz : Nat) (o1 : Nat) (h_o1 : isA S o1 12) (x1 : Int32) (hW : wtB S [])  : Met l yX12_isSharp wsX12_isSharp ({ frames := 4, cells := 0, slots := 0, locals := 85 }) (va_Pc [.ref o1, .int x1] (fun U => U.heap.size = sz ∧ WD D cy X (fun _ => True) S U ∧ NW U)) (va_Qi (fun r (u : wPS) => (r, u) = f_X12_isSharp S o1 x1 ∧ stp [(12, 15)] [] [] S u ∧ narrow .boolean (.int r) = .int r) (fun u t => WD D cy X (va_A (X ++ PL cy S) sz) u t) (va_A (X ++ PL cy S) sz)) 0 0 (va_A (X ++ PL cy S) sz) := by
  refine Met.ofW (cc := cX12_isSharp) (maxL := 2) (ret := (some .boolean)) (by decide) rfl ?_
  intro p e s m args below meth c s₁ B hml hv
  obtain ⟨rfl, hsz, ⟨hP, hK, hD0⟩, hN⟩ := hv
  have hx := B.exec
  have hb := B.bytes
  have hr := B.returns
  have hts := atoms_spec (ws := wsX12_isSharp) B.pre
  have hown : s.vm.findClass RX12 = some m.cls := findClass_of_methodNamed (x := yX12_isSharp) B.named
  have hlocks := B.notSynchronized
  subst hsz
  have hD := hD0.self (sz := s.heap.size)
  generalize hAe : va_A (X ++ PL cy S) s.heap.size = A at hD ⊢
  have hA : ∀ q : Nat, s.heap.size ≤ q → A q := fun q h => by rw [← hAe]; exact Or.inr h
  have hS : va_S A s.heap s.heap [] := va_S.rf
  have hl := lv_entry ([.ref o1, .int x1]) (n := 2) (Nat.le_of_ble_eq_true rfl)
  rw [lg_entry_eq]
  generalize (lg_sl ([.ref o1, .int x1]) ++ List.replicate (2 - (lg_sl ([.ref o1, .int x1])).length) Slot.unset).toArray = ls at hl ⊢
  have hl : lv_has ls 2 [(0, .ref o1), (1, .int x1)] := hl
  have t0 : stp [(12, 15)] [] [] S S := stp.rf hW
  refine lv_aload_n hx hb dX12_isSharp_0 rfl (lv_at hl 0 rfl) ?_
  refine lv_iload_n hx hb dX12_isSharp_1 rfl (lv_at hl 1 rfl) ?_
  have hFc := free_all hD hS hA
  obtain ⟨k1, gk1, hk1⟩ := wGt (cy := cy) X S h_o1.1 h_o1.2.1
  refine va_calli (va_runV (As := [.int x1]) (rest := []) ⟨hx, hb, hml, hown, hts⟩ (c_X12_isGear l (cy := cy) (X := X) (D := D) S _ o1 h_o1 x1 (hW)) (cwV 1 hts gX12_isSharp_X12_isGear rfl rfl rfl hd_X12_isGear ⟨Nat.le_of_ble_eq_true rfl, Nat.le_of_ble_eq_true rfl⟩) (pV (va_recv hK hP (q := (RX12, TX12, 34)) (ci := 16) (q0 := k1) rfl hk1) hP hK hD hN) rfl rfl hl.1 rfl (lv_room (Nat.le_of_ble_eq_true rfl)) dX12_isSharp_2 ⟨(Nat.zero_le _), (Nat.zero_le _)⟩) hS (fun q _ h => hFc q h) hFc (fun r2 u t H1 locs ht hvm hw hB hz1 hk1 hS => ?_)
  have c3 := hw
  obtain ⟨hP, hD⟩ := wd_post hFc ht hB
  generalize H1 = H at hP hS ⊢
  obtain rfl : f_X12_isGear S o1 x1 = r2 := c3.symm
  have F4 := ((hW.at h_o1 List.not_mem_nil).to_12 h_o1.2.1).F0
  have i5 : (f_X12_isGear S o1 x1).toInt = 0 ∨ (0 ≤ x1.toInt ∧ x1.toInt < (S.I (S.f o1 0) 2).toInt) := by have h9 := ig_rng x1 ((hW.at h_o1 List.not_mem_nil).to_12 h_o1.2.1) hW; rw [f_of F4.1] at h9; exact h9
  refine lv_if_eq (tgt := 31) hx hb dX12_isSharp_5 (by decide) (fun c6 => ?_) (fun c6 => ?_)
  · have c6i : (f_X12_isGear S o1 x1).toInt = 0 := eq_v rfl rfl c6
    refine lv_aload_n hx hb dX12_isSharp_31 rfl (lv_at hl 0 rfl) ?_
    refine lv_iconst (v := 1) hx hb dX12_isSharp_32 (by decide) ?_
    have l32_1 : (1 : Int32).toInt = 1 := rfl
    have hFc := free_all hD hS hA
    obtain ⟨k7, gk7, hk7⟩ := wGt (cy := cy) X S h_o1.1 h_o1.2.1
    refine va_calli (va_runV (As := [.int (1 : Int32)]) (rest := []) ⟨hx, hb, hml, hown, hts⟩ (c_X12_refuses l (cy := cy) (X := X) (D := D) S _ o1 h_o1 (1 : Int32) (hW)) (cwV 1 hts gX12_isSharp_X12_refuses rfl rfl rfl hd_X12_refuses ⟨Nat.le_of_ble_eq_true rfl, Nat.le_of_ble_eq_true rfl⟩) (pV (va_recv hK hP (q := (RX12, TX12, 34)) (ci := 16) (q0 := k7) rfl hk7) hP hK hD hN) rfl rfl hl.1 rfl (lv_room (Nat.le_of_ble_eq_true rfl)) dX12_isSharp_33 ⟨(Nat.zero_le _), (Nat.zero_le _)⟩) hS (fun q _ h => hFc q h) hFc (fun r8 u t H1 locs ht hvm hw hB hz1 hk1 hS => ?_)
    obtain ⟨c9, w10, y11⟩ := hw
    obtain ⟨hP, hD⟩ := wd_post hFc ht hB
    generalize H1 = H at hP hS ⊢
    obtain ⟨S12, rfl⟩ : ∃ z, z = u := ⟨_, rfl⟩
    have t13 : stp [(12, 15)] [] [] S S12 := t0.tr w10 (by decide) (fun _ q => absurd q List.not_mem_nil)
    have xe14 : ext S S12 := w10.x
    refine W.widen (k := 0) (n := 0) (Nat.le_of_ble_eq_true rfl) (Nat.le_of_ble_eq_true rfl) ?_
    exact W.zret (v := r8) hx hb hr (y11) (fun t ht hW9 => ⟨⟨r8, S12, rfl, ⟨(by show (r8, S12) = f_X12_isSharp S o1 x1; unfold f_X12_isSharp; rw [if_pos c6, l2_eq c9.symm]), t13, (y11)⟩, wd_end hP hK hD ht hW9.alike⟩, hS.F ht⟩) hS.2.2 dX12_isSharp_36 hlocks
  · have c6i : ¬ (f_X12_isGear S o1 x1).toInt = 0 := neq_v rfl rfl c6
    refine lv_aload_n hx hb dX12_isSharp_8 rfl (lv_at hl 0 rfl) ?_
    refine lv_aload_n hx hb dX12_isSharp_9 rfl (lv_at hl 0 rfl) ?_
    refine lv_iload_n hx hb dX12_isSharp_10 rfl (lv_at hl 1 rfl) ?_
    have hFc := free_all hD hS hA
    obtain ⟨k15, gk15, hk15⟩ := wGt (cy := cy) X S h_o1.1 h_o1.2.1
    refine va_callq (va_runV (As := [.int x1]) (rest := [.ref o1]) ⟨hx, hb, hml, hown, hts⟩ (c_X12_gearAt l (cy := cy) (X := X) (D := D) S _ o1 h_o1 x1 (hW) (by rw [f_of F4.1]; omega)) (cwV 1 hts gX12_isSharp_X12_gearAt rfl rfl rfl hd_X12_gearAt ⟨Nat.le_of_ble_eq_true rfl, Nat.le_of_ble_eq_true rfl⟩) (pV (va_recv hK hP (q := (RX12, TX12, 34)) (ci := 16) (q0 := k15) rfl hk15) hP hK hD hN) rfl rfl hl.1 rfl (lv_room (Nat.le_of_ble_eq_true rfl)) dX12_isSharp_11 ⟨(Nat.zero_le _), (Nat.zero_le _)⟩) hS (fun q _ h => hFc q h) hFc (fun r16 u t H1 locs ht hvm hw hB hz1 hk1 hS => ?_)
    obtain ⟨r16, rfl, c17, o18⟩ := hw
    obtain ⟨hP, hD⟩ := wd_post hFc ht hB
    generalize H1 = H at hP hS ⊢
    refine W.eq (g2 := F0 m 14 ls [.ref r16, .ref o1]) rfl ?_
    refine lv_aload_n hx hb dX12_isSharp_14 rfl (lv_at hl 0 rfl) ?_
    refine lv_iload_n hx hb dX12_isSharp_15 rfl (lv_at hl 1 rfl) ?_
    have hFc := free_all hD hS hA
    obtain ⟨k19, gk19, hk19⟩ := wGt (cy := cy) X S h_o1.1 h_o1.2.1
    refine va_callq (va_runV (As := [.int x1]) (rest := [.ref r16, .ref o1]) ⟨hx, hb, hml, hown, hts⟩ (c_X12_gearAt l (cy := cy) (X := X) (D := D) S _ o1 h_o1 x1 (hW) (by rw [f_of F4.1]; omega)) (cwV 1 hts gX12_isSharp_X12_gearAt rfl rfl rfl hd_X12_gearAt ⟨Nat.le_of_ble_eq_true rfl, Nat.le_of_ble_eq_true rfl⟩) (pV (va_recv hK hP (q := (RX12, TX12, 34)) (ci := 16) (q0 := k19) rfl hk19) hP hK hD hN) rfl rfl hl.1 rfl (lv_room (Nat.le_of_ble_eq_true rfl)) dX12_isSharp_16 ⟨(Nat.zero_le _), (Nat.zero_le _)⟩) hS (fun q _ h => hFc q h) hFc (fun r20 u t H1 locs ht hvm hw hB hz1 hk1 hS => ?_)
    obtain ⟨r20, rfl, c21, o22⟩ := hw
    obtain ⟨hP, hD⟩ := wd_post hFc ht hB
    generalize H1 = H at hP hS ⊢
    refine W.eq (g2 := F0 m 19 ls [.ref r20, .ref r16, .ref o1]) rfl ?_
    obtain ⟨k23, gk23, hk23⟩ := wGt (cy := cy) X S o22.1 o22.2.1
    refine va_getN (D := D) (ci := 14) (v := .int (S.I r20 7)) (C := RX10) (T := TX10) (N := 23) hx hb hts hi_X12_isSharp_X10 hown hK hP k23 hk23 rfl 7 (by decide) (va_Nw.use rfl (hN (.fieldLinkNest RX12 164 "HobhouseModel$Gear" "shift" "I" "HobhouseModel") (by decide +kernel))) (fun _ h9 => h9) rfl dX12_isSharp_19 ?_
    have hFc := free_all hD hS hA
    obtain ⟨k24, gk24, hk24⟩ := wGt (cy := cy) X S o18.1 o18.2.1
    refine va_calli (va_runV (As := [.int (S.I r20 7)]) (rest := [.ref o1]) ⟨hx, hb, hml, hown, hts⟩ (c_X10_isSharp l (cy := cy) (X := X) (D := D) S _ r16 o18 (S.I r20 7)) (cwV 1 hts gX12_isSharp_X10_isSharp rfl rfl rfl hd_X10_isSharp ⟨Nat.le_of_ble_eq_true rfl, Nat.le_of_ble_eq_true rfl⟩) (pV (va_recv hK hP (q := (RX10, TX10, 23)) (ci := 14) (q0 := k24) rfl hk24) hP hK hD hN) rfl rfl hl.1 rfl (lv_room (Nat.le_of_ble_eq_true rfl)) dX12_isSharp_22 ⟨(Nat.zero_le _), (Nat.zero_le _)⟩) hS (fun q _ h => hFc q h) hFc (fun r25 u t H1 locs ht hvm hw hB hz1 hk1 hS => ?_)
    have c26 := hw
    obtain ⟨hP, hD⟩ := wd_post hFc ht hB
    generalize H1 = H at hP hS ⊢
    obtain rfl : f_X10_isSharp S r16 (S.I r20 7) = r25 := c26.symm
    have hFc := free_all hD hS hA
    obtain ⟨k27, gk27, hk27⟩ := wGt (cy := cy) X S h_o1.1 h_o1.2.1
    refine va_calli (va_runV (As := [.int (f_X10_isSharp S r16 (S.I r20 7))]) (rest := []) ⟨hx, hb, hml, hown, hts⟩ (c_X12_says l (cy := cy) (X := X) (D := D) S _ o1 h_o1 (f_X10_isSharp S r16 (S.I r20 7)) (hW) (f_X10_isSharp_b S r16 (S.I r20 7))) (cwV 1 hts gX12_isSharp_X12_says rfl rfl rfl hd_X12_says ⟨Nat.le_of_ble_eq_true rfl, Nat.le_of_ble_eq_true rfl⟩) (pV (va_recv hK hP (q := (RX12, TX12, 34)) (ci := 16) (q0 := k27) rfl hk27) hP hK hD hN) rfl rfl hl.1 rfl (lv_room (Nat.le_of_ble_eq_true rfl)) dX12_isSharp_25 ⟨(Nat.zero_le _), (Nat.zero_le _)⟩) hS (fun q _ h => hFc q h) hFc (fun r28 u t H1 locs ht hvm hw hB hz1 hk1 hS => ?_)
    obtain ⟨c29, w30, y31⟩ := hw
    obtain ⟨hP, hD⟩ := wd_post hFc ht hB
    generalize H1 = H at hP hS ⊢
    obtain ⟨S32, rfl⟩ : ∃ z, z = u := ⟨_, rfl⟩
    have t33 : stp [(12, 15)] [] [] S S32 := t0.tr w30 (by decide) (fun _ q => absurd q List.not_mem_nil)
    have xe34 : ext S S32 := w30.x
    refine lv_goto (tgt := 36) hx hb dX12_isSharp_28 (by decide) ?_
    refine W.widen (k := 0) (n := 0) (Nat.le_of_ble_eq_true rfl) (Nat.le_of_ble_eq_true rfl) ?_
    exact W.zret (v := r28) hx hb hr (y31) (fun t ht hW9 => ⟨⟨r28, S32, rfl, ⟨(by show (r28, S32) = f_X12_isSharp S o1 x1; unfold f_X12_isSharp; rw [if_neg c6, l1_eq c17.symm, l1_eq c21.symm, l2_eq c29.symm]), t33, (y31)⟩, wd_end hP hK hD ht hW9.alike⟩, hS.F ht⟩) hS.2.2 dX12_isSharp_36 hlocks
def f_X12_fewest_L22 (S : wPS) (o1 : Nat) (x1 : Int32) : Nat → Int32 → Int32
  | 0, w22_2 => w22_2
  | n + 1, w22_2 => if ((100 : Int32) * ((137 : Int32) - ((8 : Int32) * w22_2))) ≤ ((137 : Int32) * x1) then w22_2 else f_X12_fewest_L22 S o1 x1 n (w22_2 + (1 : Int32))
theorem f_X12_fewest_L22_s (S : wPS) (o1 : Nat) (x1 : Int32) (n : Nat) (w22_2 : Int32) : f_X12_fewest_L22 S o1 x1 (n + 1) w22_2 = if ((100 : Int32) * ((137 : Int32) - ((8 : Int32) * w22_2))) ≤ ((137 : Int32) * x1) then w22_2 else f_X12_fewest_L22 S o1 x1 n (w22_2 + (1 : Int32)) := rfl
def f_X12_fewest (S : wPS) (o1 : Nat) (x1 : Int32) : (Int32 × wPS) := if (f_X12_in x1.toInt64 (-100 : Int64) (100 : Int64)) = (0 : Int32) then l2 (f_X12_fails S o1 (1 : Int32)) (fun r23 S26 => (r23, S26)) else l1 (f_X12_fewest_L22 S o1 x1 41 (1 : Int32)) (fun z14 => l2 (f_X12_answer S o1 z14) (fun r16 S19 => (r16, S19)))
theorem hd_X12_fewest : yX12_fewest.cls = RX12 ∧ yX12_fewest.cls ≠ "java/lang/invoke/MethodHandle" ∧ yX12_fewest.cls ≠ "java/lang/invoke/VarHandle" ∧ (parseMethodDescriptor yX12_fewest.desc).map (fun d => d.parameters.length) = some 1 := by decide +kernel
set_option maxHeartbeats 4000000 in
set_option maxRecDepth 100000 in
theorem c_X12_fewest (l : Launch) {D : va_G} {cy : Nat → ClassId} {X : va_W} (S : wPS) (sz : Nat) (o1 : Nat) (h_o1 : isA S o1 12) (x1 : Int32) (hW : wtB S [])  : Met l yX12_fewest wsX12_fewest ({ frames := 1, cells := 0, slots := 0, locals := 25 }) (va_Pc [.ref o1, .int x1] (fun U => U.heap.size = sz ∧ WD D cy X (fun _ => True) S U ∧ NW U)) (va_Qi (fun r (u : wPS) => (r, u) = f_X12_fewest S o1 x1 ∧ stp [(12, 15)] [] [] S u) (fun u t => WD D cy X (va_A (X ++ PL cy S) sz) u t) (va_A (X ++ PL cy S) sz)) 0 0 (va_A (X ++ PL cy S) sz) := by
  refine Met.ofW (cc := cX12_fewest) (maxL := 3) (ret := (some .int)) (by decide) rfl ?_
  intro p e s m args below meth c s₁ B hml hv
  obtain ⟨rfl, hsz, ⟨hP, hK, hD0⟩, hN⟩ := hv
  have hx := B.exec
  have hb := B.bytes
  have hr := B.returns
  have hts := atoms_spec (ws := wsX12_fewest) B.pre
  have hown : s.vm.findClass RX12 = some m.cls := findClass_of_methodNamed (x := yX12_fewest) B.named
  have hlocks := B.notSynchronized
  subst hsz
  have hD := hD0.self (sz := s.heap.size)
  generalize hAe : va_A (X ++ PL cy S) s.heap.size = A at hD ⊢
  have hA : ∀ q : Nat, s.heap.size ≤ q → A q := fun q h => by rw [← hAe]; exact Or.inr h
  have hS : va_S A s.heap s.heap [] := va_S.rf
  have hl := lv_entry ([.ref o1, .int x1]) (n := 3) (Nat.le_of_ble_eq_true rfl)
  rw [lg_entry_eq]
  generalize (lg_sl ([.ref o1, .int x1]) ++ List.replicate (3 - (lg_sl ([.ref o1, .int x1])).length) Slot.unset).toArray = ls at hl ⊢
  have hl : lv_has ls 3 [(0, .ref o1), (1, .int x1)] := hl
  have t0 : stp [(12, 15)] [] [] S S := stp.rf hW
  refine lv_iload_n hx hb dX12_fewest_0 rfl (lv_at hl 1 rfl) ?_
  refine lv_i2l hx hb dX12_fewest_1 rfl ?_
  refine lv_ldc2 (own := RX12) (v := -100) hx hb hown (hts (.constantLong RX12 156 (-100)) (by decide +kernel)) dX12_fewest_2 ?_
  refine lv_ldc2 (own := RX12) (v := 100) hx hb hown (hts (.constantLong RX12 158 (100)) (by decide +kernel)) dX12_fewest_5 ?_
  have hFc := free_all hD hS hA
  refine va_calli (va_runS (As := [.long x1.toInt64, .long (-100 : Int64), .long (100 : Int64)]) (rest := []) ⟨hx, hb, hml, hown, hts⟩ (c_X12_in l (cy := cy) (X := X) (D := D) S _ x1.toInt64 (-100 : Int64) (100 : Int64)) (cwS 3 hts gX12_fewest_X12_in rfl rfl rfl hd_X12_in ⟨Nat.le_of_ble_eq_true rfl, Nat.le_of_ble_eq_true rfl⟩) (pS hP hK hD hN) rfl rfl hl.1 rfl (lv_room (Nat.le_of_ble_eq_true rfl)) dX12_fewest_8 ⟨(Nat.zero_le _), (Nat.zero_le _)⟩) hS (fun q _ h => hFc q h) hFc (fun r1 u t H1 locs ht hvm hw hB hz1 hk1 hS => ?_)
  have c2 := hw
  obtain ⟨hP, hD⟩ := wd_post hFc ht hB
  generalize H1 = H at hP hS ⊢
  obtain rfl : f_X12_in x1.toInt64 (-100 : Int64) (100 : Int64) = r1 := c2.symm
  have i3 := i64_i x1
  have i4 : (-100 : Int64).toInt = -100 := rfl
  have l64_100 : (100 : Int64).toInt = 100 := rfl
  have i5 := in_rng x1.toInt64 (-100 : Int64) (100 : Int64)
  refine lv_if_ne (tgt := 20) hx hb dX12_fewest_11 (by decide) (fun c6 => ?_) (fun c6 => ?_)
  · have c6i : ¬ (f_X12_in x1.toInt64 (-100 : Int64) (100 : Int64)).toInt = 0 := neq_v rfl rfl c6
    refine lv_iconst (v := 1) hx hb dX12_fewest_20 (by decide) ?_
    refine lv_istore_n (lv' := [(2, .int (1 : Int32)), (0, .ref o1), (1, .int x1)]) hx hb dX12_fewest_21 rfl hl (by decide) rfl (fun ls hl => ?_)
    have l32_1 : (1 : Int32).toInt = 1 := rfl
    have loop22 : ∀ (n : Nat) (w22_2 : Int32) (H : Heap) (locs : List Loc) (ls : Array Slot), (40 - w22_2.toInt).toNat < n → 1 ≤ w22_2.toInt ∧ w22_2.toInt ≤ 40 → va_P D vwCl (X ++ PL cy S) H → va_S A s.heap H locs → lv_has ls 3 [(2, .int w22_2), (0, .ref o1), (1, .int x1)] → (∀ (w22_2x : Int32) (H : Heap) (locs : List Loc) (ls : Array Slot), 1 ≤ w22_2x.toInt ∧ w22_2x.toInt ≤ 40 → va_P D vwCl (X ++ PL cy S) H → va_S A s.heap H locs → lv_has ls 3 [(2, .int w22_2x), (0, .ref o1), (1, .int x1)] → f_X12_fewest_L22 S o1 x1 n w22_2 = w22_2x → W p l e (headSpec wsX12_fewest ({ frames := 1, cells := 0, slots := 0, locals := 25 } : Room)).room s m [.ref o1, .int x1].toArray below meth c H locs 0 0 (MQ below (va_Qi (fun r (u : wPS) => (r, u) = f_X12_fewest S o1 x1 ∧ stp [(12, 15)] [] [] S u) (fun u t => WD D cy X A u t) A) [.ref o1, .int x1].toArray s 0 0 A) (F0 m 47 ls [])) → W p l e (headSpec wsX12_fewest ({ frames := 1, cells := 0, slots := 0, locals := 25 } : Room)).room s m [.ref o1, .int x1].toArray below meth c H locs 0 0 (MQ below (va_Qi (fun r (u : wPS) => (r, u) = f_X12_fewest S o1 x1 ∧ stp [(12, 15)] [] [] S u) (fun u t => WD D cy X A u t) A) [.ref o1, .int x1].toArray s 0 0 A) (F0 m 22 ls []) := by
      intro n22
      induction n22 with
      | zero => intro w22_2 H locs ls hm; exact absurd hm (Nat.not_lt_zero _)
      | succ n22 ih22 =>
        intro w22_2 H locs ls hm22 hi22 hP hS hl ko22
        refine lv_sipush (v := 137) hx hb dX12_fewest_22 (by decide +kernel) ?_
        refine lv_iload_n hx hb dX12_fewest_25 rfl (lv_at hl 2 rfl) ?_
        refine lv_imul hx hb dX12_fewest_26 ?_
        refine lv_bipush (v := 100) hx hb dX12_fewest_27 (by decide +kernel) ?_
        refine lv_sipush (v := 137) hx hb dX12_fewest_29 (by decide +kernel) ?_
        refine lv_bipush (v := 8) hx hb dX12_fewest_32 (by decide +kernel) ?_
        refine lv_iload_n hx hb dX12_fewest_34 rfl (lv_at hl 0 rfl) ?_
        refine lv_imul hx hb dX12_fewest_35 ?_
        refine lv_isub hx hb dX12_fewest_36 ?_
        refine lv_imul hx hb dX12_fewest_37 ?_
        have l32_137 : (137 : Int32).toInt = 137 := rfl
        have i7 : ((137 : Int32) * x1).toInt = 137 * x1.toInt := t_mull rfl (by omega)
        have l32_100 : (100 : Int32).toInt = 100 := rfl
        have l32_8 : (8 : Int32).toInt = 8 := rfl
        have i8 : ((8 : Int32) * w22_2).toInt = 8 * w22_2.toInt := t_mull rfl (by omega)
        have i9 : ((137 : Int32) - ((8 : Int32) * w22_2)).toInt = (137 : Int32).toInt - ((8 : Int32) * w22_2).toInt := t_sub (by omega)
        have i10 : ((100 : Int32) * ((137 : Int32) - ((8 : Int32) * w22_2))).toInt = 100 * ((137 : Int32) - ((8 : Int32) * w22_2)).toInt := t_mull rfl (by omega)
        refine lv_icmp_ge (tgt := 47) hx hb dX12_fewest_38 (by decide) (fun c11 => ?_) (fun c11 => ?_)
        · have c11i : ((100 : Int32) * ((137 : Int32) - ((8 : Int32) * w22_2))).toInt ≤ ((137 : Int32) * x1).toInt := le_v rfl rfl c11
          exact ko22 w22_2 _ _ _ (by omega) hP hS (lv_sub hl [0, 1, 2] rfl) (by rw [f_X12_fewest_L22_s, if_pos c11])
        · have c11i : ((137 : Int32) * x1).toInt < ((100 : Int32) * ((137 : Int32) - ((8 : Int32) * w22_2))).toInt := nle_v rfl rfl c11
          refine lv_iinc (v := w22_2 + (1 : Int32)) (lv' := [(2, .int (w22_2 + (1 : Int32))), (0, .ref o1), (1, .int x1)]) hx hb dX12_fewest_41 hl (k := 0) rfl (by rfl) (by decide) rfl (fun ls hl => ?_)
          refine lv_goto (tgt := 22) hx hb dX12_fewest_44 (by decide) ?_
          have i12 : (w22_2 + (1 : Int32)).toInt = w22_2.toInt + 1 := t_addr (n := 1) rfl (by omega)
          exact ih22 (w22_2 + (1 : Int32)) _ _ _ (Nat.lt_of_lt_of_le (by omega) (Nat.le_of_lt_succ hm22)) (by omega) hP hS (lv_sub hl [0, 1, 2] rfl) (fun w22_2y H9 locs9 ls9 i9 P9 S9 l9 hfe => ko22 w22_2y H9 locs9 ls9 i9 P9 S9 l9 (Eq.trans (by rw [f_X12_fewest_L22_s, if_neg c11]) hfe))
    refine loop22 41 (1 : Int32) _ _ _ (by omega) (by omega) hP hS (lv_sub hl [0, 1, 2] rfl) (fun z14 H locs ls hi22 hP hS hl c13 => ?_)
    refine lv_aload_n hx hb dX12_fewest_47 rfl (lv_at hl 1 rfl) ?_
    refine lv_iload_n hx hb dX12_fewest_48 rfl (lv_at hl 0 rfl) ?_
    have hFc := free_all hD hS hA
    obtain ⟨k15, gk15, hk15⟩ := wGt (cy := cy) X S h_o1.1 h_o1.2.1
    refine va_calli (va_runV (As := [.int z14]) (rest := []) ⟨hx, hb, hml, hown, hts⟩ (c_X12_answer l (cy := cy) (X := X) (D := D) S _ o1 h_o1 z14 (hW)) (cwV 1 hts gX12_fewest_X12_answer rfl rfl rfl hd_X12_answer ⟨Nat.le_of_ble_eq_true rfl, Nat.le_of_ble_eq_true rfl⟩) (pV (va_recv hK hP (q := (RX12, TX12, 34)) (ci := 16) (q0 := k15) rfl hk15) hP hK hD hN) rfl rfl hl.1 rfl (lv_room (Nat.le_of_ble_eq_true rfl)) dX12_fewest_49 ⟨(Nat.zero_le _), (Nat.zero_le _)⟩) hS (fun q _ h => hFc q h) hFc (fun r16 u t H1 locs ht hvm hw hB hz1 hk1 hS => ?_)
    obtain ⟨c17, w18⟩ := hw
    obtain ⟨hP, hD⟩ := wd_post hFc ht hB
    generalize H1 = H at hP hS ⊢
    obtain ⟨S19, rfl⟩ : ∃ z, z = u := ⟨_, rfl⟩
    have t20 : stp [(12, 15)] [] [] S S19 := t0.tr w18 (by decide) (fun _ q => absurd q List.not_mem_nil)
    have xe21 : ext S S19 := w18.x
    refine W.widen (k := 0) (n := 0) (Nat.le_of_ble_eq_true rfl) (Nat.le_of_ble_eq_true rfl) ?_
    exact W.iret (v := r16) hx hb hr (fun t ht hW9 => ⟨⟨r16, S19, rfl, ⟨(by show (r16, S19) = f_X12_fewest S o1 x1; unfold f_X12_fewest; rw [if_neg c6, l1_eq c13, l2_eq c17.symm]), t20⟩, wd_end hP hK hD ht hW9.alike⟩, hS.F ht⟩) hS.2.2 dX12_fewest_52 hlocks
  · have c6i : (f_X12_in x1.toInt64 (-100 : Int64) (100 : Int64)).toInt = 0 := eq_v rfl rfl c6
    refine lv_aload_n hx hb dX12_fewest_14 rfl (lv_at hl 0 rfl) ?_
    refine lv_iconst (v := 1) hx hb dX12_fewest_15 (by decide) ?_
    have l32_1 : (1 : Int32).toInt = 1 := rfl
    have hFc := free_all hD hS hA
    obtain ⟨k22, gk22, hk22⟩ := wGt (cy := cy) X S h_o1.1 h_o1.2.1
    refine va_calli (va_runV (As := [.int (1 : Int32)]) (rest := []) ⟨hx, hb, hml, hown, hts⟩ (c_X12_fails l (cy := cy) (X := X) (D := D) S _ o1 h_o1 (1 : Int32) (hW)) (cwV 1 hts gX12_fewest_X12_fails rfl rfl rfl hd_X12_fails ⟨Nat.le_of_ble_eq_true rfl, Nat.le_of_ble_eq_true rfl⟩) (pV (va_recv hK hP (q := (RX12, TX12, 34)) (ci := 16) (q0 := k22) rfl hk22) hP hK hD hN) rfl rfl hl.1 rfl (lv_room (Nat.le_of_ble_eq_true rfl)) dX12_fewest_16 ⟨(Nat.zero_le _), (Nat.zero_le _)⟩) hS (fun q _ h => hFc q h) hFc (fun r23 u t H1 locs ht hvm hw hB hz1 hk1 hS => ?_)
    obtain ⟨c24, w25⟩ := hw
    obtain ⟨hP, hD⟩ := wd_post hFc ht hB
    generalize H1 = H at hP hS ⊢
    obtain ⟨S26, rfl⟩ : ∃ z, z = u := ⟨_, rfl⟩
    have t27 : stp [(12, 15)] [] [] S S26 := t0.tr w25 (by decide) (fun _ q => absurd q List.not_mem_nil)
    have xe28 : ext S S26 := w25.x
    refine W.widen (k := 0) (n := 0) (Nat.le_of_ble_eq_true rfl) (Nat.le_of_ble_eq_true rfl) ?_
    exact W.iret (v := r23) hx hb hr (fun t ht hW9 => ⟨⟨r23, S26, rfl, ⟨(by show (r23, S26) = f_X12_fewest S o1 x1; unfold f_X12_fewest; rw [if_pos c6, l2_eq c24.symm]), t27⟩, wd_end hP hK hD ht hW9.alike⟩, hS.F ht⟩) hS.2.2 dX12_fewest_19 hlocks
def f_X12_doPair (S : wPS) (o1 : Nat) (x1 : Int32) (x2 : Int32) : (Int32 × wPS) := if (f_X12_isGear S o1 x1) = (0 : Int32) then l2 (f_X12_refuses S o1 (1 : Int32)) (fun r8 S12 => (r8, S12)) else if (f_X12_isGear S o1 x2) = (0 : Int32) then l2 (f_X12_refuses S o1 (1 : Int32)) (fun r42 S46 => (r42, S46)) else if x1 = x2 then l2 (f_X12_refuses S o1 (2 : Int32)) (fun r34 S38 => (r34, S38)) else l2 (f_X12_says S o1 (f_X12_isPair S o1 x1 x2)) (fun r26 S30 => (r26, S30))
theorem hd_X12_doPair : yX12_doPair.cls = RX12 ∧ yX12_doPair.cls ≠ "java/lang/invoke/MethodHandle" ∧ yX12_doPair.cls ≠ "java/lang/invoke/VarHandle" ∧ (parseMethodDescriptor yX12_doPair.desc).map (fun d => d.parameters.length) = some 2 := by decide +kernel
set_option maxHeartbeats 4000000 in
set_option maxRecDepth 100000 in
theorem c_X12_doPair (l : Launch) {D : va_G} {cy : Nat → ClassId} {X : va_W} (S : wPS) (sz : Nat) (o1 : Nat) (h_o1 : isA S o1 12) (x1 : Int32) (x2 : Int32) (hW : wtB S [])  : Met l yX12_doPair wsX12_doPair ({ frames := 5, cells := 0, slots := 0, locals := 109 }) (va_Pc [.ref o1, .int x1, .int x2] (fun U => U.heap.size = sz ∧ WD D cy X (fun _ => True) S U ∧ NW U)) (va_Qi (fun r (u : wPS) => (r, u) = f_X12_doPair S o1 x1 x2 ∧ stp [(12, 15)] [] [] S u ∧ narrow .boolean (.int r) = .int r) (fun u t => WD D cy X (va_A (X ++ PL cy S) sz) u t) (va_A (X ++ PL cy S) sz)) 0 0 (va_A (X ++ PL cy S) sz) := by
  refine Met.ofW (cc := cX12_doPair) (maxL := 3) (ret := (some .boolean)) (by decide) rfl ?_
  intro p e s m args below meth c s₁ B hml hv
  obtain ⟨rfl, hsz, ⟨hP, hK, hD0⟩, hN⟩ := hv
  have hx := B.exec
  have hb := B.bytes
  have hr := B.returns
  have hts := atoms_spec (ws := wsX12_doPair) B.pre
  have hown : s.vm.findClass RX12 = some m.cls := findClass_of_methodNamed (x := yX12_doPair) B.named
  have hlocks := B.notSynchronized
  subst hsz
  have hD := hD0.self (sz := s.heap.size)
  generalize hAe : va_A (X ++ PL cy S) s.heap.size = A at hD ⊢
  have hA : ∀ q : Nat, s.heap.size ≤ q → A q := fun q h => by rw [← hAe]; exact Or.inr h
  have hS : va_S A s.heap s.heap [] := va_S.rf
  have hl := lv_entry ([.ref o1, .int x1, .int x2]) (n := 3) (Nat.le_of_ble_eq_true rfl)
  rw [lg_entry_eq]
  generalize (lg_sl ([.ref o1, .int x1, .int x2]) ++ List.replicate (3 - (lg_sl ([.ref o1, .int x1, .int x2])).length) Slot.unset).toArray = ls at hl ⊢
  have hl : lv_has ls 3 [(0, .ref o1), (1, .int x1), (2, .int x2)] := hl
  have t0 : stp [(12, 15)] [] [] S S := stp.rf hW
  refine lv_aload_n hx hb dX12_doPair_0 rfl (lv_at hl 0 rfl) ?_
  refine lv_iload_n hx hb dX12_doPair_1 rfl (lv_at hl 1 rfl) ?_
  have hFc := free_all hD hS hA
  obtain ⟨k1, gk1, hk1⟩ := wGt (cy := cy) X S h_o1.1 h_o1.2.1
  refine va_calli (va_runV (As := [.int x1]) (rest := []) ⟨hx, hb, hml, hown, hts⟩ (c_X12_isGear l (cy := cy) (X := X) (D := D) S _ o1 h_o1 x1 (hW)) (cwV 1 hts gX12_doPair_X12_isGear rfl rfl rfl hd_X12_isGear ⟨Nat.le_of_ble_eq_true rfl, Nat.le_of_ble_eq_true rfl⟩) (pV (va_recv hK hP (q := (RX12, TX12, 34)) (ci := 16) (q0 := k1) rfl hk1) hP hK hD hN) rfl rfl hl.1 rfl (lv_room (Nat.le_of_ble_eq_true rfl)) dX12_doPair_2 ⟨(Nat.zero_le _), (Nat.zero_le _)⟩) hS (fun q _ h => hFc q h) hFc (fun r2 u t H1 locs ht hvm hw hB hz1 hk1 hS => ?_)
  have c3 := hw
  obtain ⟨hP, hD⟩ := wd_post hFc ht hB
  generalize H1 = H at hP hS ⊢
  obtain rfl : f_X12_isGear S o1 x1 = r2 := c3.symm
  have F4 := ((hW.at h_o1 List.not_mem_nil).to_12 h_o1.2.1).F0
  have i5 : (f_X12_isGear S o1 x1).toInt = 0 ∨ (0 ≤ x1.toInt ∧ x1.toInt < (S.I (S.f o1 0) 2).toInt) := by have h9 := ig_rng x1 ((hW.at h_o1 List.not_mem_nil).to_12 h_o1.2.1) hW; rw [f_of F4.1] at h9; exact h9
  refine lv_if_eq (tgt := 16) hx hb dX12_doPair_5 (by decide) (fun c6 => ?_) (fun c6 => ?_)
  · have c6i : (f_X12_isGear S o1 x1).toInt = 0 := eq_v rfl rfl c6
    refine lv_aload_n hx hb dX12_doPair_16 rfl (lv_at hl 0 rfl) ?_
    refine lv_iconst (v := 1) hx hb dX12_doPair_17 (by decide) ?_
    have l32_1 : (1 : Int32).toInt = 1 := rfl
    have hFc := free_all hD hS hA
    obtain ⟨k7, gk7, hk7⟩ := wGt (cy := cy) X S h_o1.1 h_o1.2.1
    refine va_calli (va_runV (As := [.int (1 : Int32)]) (rest := []) ⟨hx, hb, hml, hown, hts⟩ (c_X12_refuses l (cy := cy) (X := X) (D := D) S _ o1 h_o1 (1 : Int32) (hW)) (cwV 1 hts gX12_doPair_X12_refuses rfl rfl rfl hd_X12_refuses ⟨Nat.le_of_ble_eq_true rfl, Nat.le_of_ble_eq_true rfl⟩) (pV (va_recv hK hP (q := (RX12, TX12, 34)) (ci := 16) (q0 := k7) rfl hk7) hP hK hD hN) rfl rfl hl.1 rfl (lv_room (Nat.le_of_ble_eq_true rfl)) dX12_doPair_18 ⟨(Nat.zero_le _), (Nat.zero_le _)⟩) hS (fun q _ h => hFc q h) hFc (fun r8 u t H1 locs ht hvm hw hB hz1 hk1 hS => ?_)
    obtain ⟨c9, w10, y11⟩ := hw
    obtain ⟨hP, hD⟩ := wd_post hFc ht hB
    generalize H1 = H at hP hS ⊢
    obtain ⟨S12, rfl⟩ : ∃ z, z = u := ⟨_, rfl⟩
    have t13 : stp [(12, 15)] [] [] S S12 := t0.tr w10 (by decide) (fun _ q => absurd q List.not_mem_nil)
    have xe14 : ext S S12 := w10.x
    refine W.widen (k := 0) (n := 0) (Nat.le_of_ble_eq_true rfl) (Nat.le_of_ble_eq_true rfl) ?_
    exact W.zret (v := r8) hx hb hr (y11) (fun t ht hW9 => ⟨⟨r8, S12, rfl, ⟨(by show (r8, S12) = f_X12_doPair S o1 x1 x2; unfold f_X12_doPair; rw [if_pos c6, l2_eq c9.symm]), t13, (y11)⟩, wd_end hP hK hD ht hW9.alike⟩, hS.F ht⟩) hS.2.2 dX12_doPair_21 hlocks
  · have c6i : ¬ (f_X12_isGear S o1 x1).toInt = 0 := neq_v rfl rfl c6
    refine lv_aload_n hx hb dX12_doPair_8 rfl (lv_at hl 0 rfl) ?_
    refine lv_iload_n hx hb dX12_doPair_9 rfl (lv_at hl 2 rfl) ?_
    have hFc := free_all hD hS hA
    obtain ⟨k15, gk15, hk15⟩ := wGt (cy := cy) X S h_o1.1 h_o1.2.1
    refine va_calli (va_runV (As := [.int x2]) (rest := []) ⟨hx, hb, hml, hown, hts⟩ (c_X12_isGear l (cy := cy) (X := X) (D := D) S _ o1 h_o1 x2 (hW)) (cwV 1 hts gX12_doPair_X12_isGear rfl rfl rfl hd_X12_isGear ⟨Nat.le_of_ble_eq_true rfl, Nat.le_of_ble_eq_true rfl⟩) (pV (va_recv hK hP (q := (RX12, TX12, 34)) (ci := 16) (q0 := k15) rfl hk15) hP hK hD hN) rfl rfl hl.1 rfl (lv_room (Nat.le_of_ble_eq_true rfl)) dX12_doPair_10 ⟨(Nat.zero_le _), (Nat.zero_le _)⟩) hS (fun q _ h => hFc q h) hFc (fun r16 u t H1 locs ht hvm hw hB hz1 hk1 hS => ?_)
    have c17 := hw
    obtain ⟨hP, hD⟩ := wd_post hFc ht hB
    generalize H1 = H at hP hS ⊢
    obtain rfl : f_X12_isGear S o1 x2 = r16 := c17.symm
    have i18 : (f_X12_isGear S o1 x2).toInt = 0 ∨ (0 ≤ x2.toInt ∧ x2.toInt < (S.I (S.f o1 0) 2).toInt) := by have h9 := ig_rng x2 ((hW.at h_o1 List.not_mem_nil).to_12 h_o1.2.1) hW; rw [f_of F4.1] at h9; exact h9
    refine lv_if_ne (tgt := 22) hx hb dX12_doPair_13 (by decide) (fun c19 => ?_) (fun c19 => ?_)
    · have c19i : ¬ (f_X12_isGear S o1 x2).toInt = 0 := neq_v rfl rfl c19
      refine lv_iload_n hx hb dX12_doPair_22 rfl (lv_at hl 1 rfl) ?_
      refine lv_iload_n hx hb dX12_doPair_23 rfl (lv_at hl 2 rfl) ?_
      refine lv_icmp_ne (tgt := 35) hx hb dX12_doPair_24 (by decide) (fun c20 => ?_) (fun c20 => ?_)
      · have c20i : ¬ x1.toInt = x2.toInt := neq_v rfl rfl c20
        refine lv_aload_n hx hb dX12_doPair_35 rfl (lv_at hl 0 rfl) ?_
        refine lv_aload_n hx hb dX12_doPair_36 rfl (lv_at hl 0 rfl) ?_
        refine lv_iload_n hx hb dX12_doPair_37 rfl (lv_at hl 1 rfl) ?_
        refine lv_iload_n hx hb dX12_doPair_38 rfl (lv_at hl 2 rfl) ?_
        have hFc := free_all hD hS hA
        obtain ⟨k21, gk21, hk21⟩ := wGt (cy := cy) X S h_o1.1 h_o1.2.1
        refine va_calli (va_runV (As := [.int x1, .int x2]) (rest := [.ref o1]) ⟨hx, hb, hml, hown, hts⟩ (c_X12_isPair l (cy := cy) (X := X) (D := D) S _ o1 h_o1 x1 x2 (hW) (by rw [f_of F4.1]; omega) (by rw [f_of F4.1]; omega)) (cwV 2 hts gX12_doPair_X12_isPair rfl rfl rfl hd_X12_isPair ⟨Nat.le_of_ble_eq_true rfl, Nat.le_of_ble_eq_true rfl⟩) (pV (va_recv hK hP (q := (RX12, TX12, 34)) (ci := 16) (q0 := k21) rfl hk21) hP hK hD hN) rfl rfl hl.1 rfl (lv_room (Nat.le_of_ble_eq_true rfl)) dX12_doPair_39 ⟨(Nat.zero_le _), (Nat.zero_le _)⟩) hS (fun q _ h => hFc q h) hFc (fun r22 u t H1 locs ht hvm hw hB hz1 hk1 hS => ?_)
        obtain ⟨c23, y24⟩ := hw
        obtain ⟨hP, hD⟩ := wd_post hFc ht hB
        generalize H1 = H at hP hS ⊢
        obtain rfl : f_X12_isPair S o1 x1 x2 = r22 := c23.symm
        have hFc := free_all hD hS hA
        obtain ⟨k25, gk25, hk25⟩ := wGt (cy := cy) X S h_o1.1 h_o1.2.1
        refine va_calli (va_runV (As := [.int (f_X12_isPair S o1 x1 x2)]) (rest := []) ⟨hx, hb, hml, hown, hts⟩ (c_X12_says l (cy := cy) (X := X) (D := D) S _ o1 h_o1 (f_X12_isPair S o1 x1 x2) (hW) (y24)) (cwV 1 hts gX12_doPair_X12_says rfl rfl rfl hd_X12_says ⟨Nat.le_of_ble_eq_true rfl, Nat.le_of_ble_eq_true rfl⟩) (pV (va_recv hK hP (q := (RX12, TX12, 34)) (ci := 16) (q0 := k25) rfl hk25) hP hK hD hN) rfl rfl hl.1 rfl (lv_room (Nat.le_of_ble_eq_true rfl)) dX12_doPair_42 ⟨(Nat.zero_le _), (Nat.zero_le _)⟩) hS (fun q _ h => hFc q h) hFc (fun r26 u t H1 locs ht hvm hw hB hz1 hk1 hS => ?_)
        obtain ⟨c27, w28, y29⟩ := hw
        obtain ⟨hP, hD⟩ := wd_post hFc ht hB
        generalize H1 = H at hP hS ⊢
        obtain ⟨S30, rfl⟩ : ∃ z, z = u := ⟨_, rfl⟩
        have t31 : stp [(12, 15)] [] [] S S30 := t0.tr w28 (by decide) (fun _ q => absurd q List.not_mem_nil)
        have xe32 : ext S S30 := w28.x
        refine W.widen (k := 0) (n := 0) (Nat.le_of_ble_eq_true rfl) (Nat.le_of_ble_eq_true rfl) ?_
        exact W.zret (v := r26) hx hb hr (y29) (fun t ht hW9 => ⟨⟨r26, S30, rfl, ⟨(by show (r26, S30) = f_X12_doPair S o1 x1 x2; unfold f_X12_doPair; rw [if_neg c6, if_neg c19, if_neg c20, l2_eq c27.symm]), t31, (y29)⟩, wd_end hP hK hD ht hW9.alike⟩, hS.F ht⟩) hS.2.2 dX12_doPair_45 hlocks
      · have c20i : x1.toInt = x2.toInt := eq_v rfl rfl c20
        refine lv_aload_n hx hb dX12_doPair_27 rfl (lv_at hl 0 rfl) ?_
        refine lv_iconst (v := 2) hx hb dX12_doPair_28 (by decide) ?_
        have l32_2 : (2 : Int32).toInt = 2 := rfl
        have hFc := free_all hD hS hA
        obtain ⟨k33, gk33, hk33⟩ := wGt (cy := cy) X S h_o1.1 h_o1.2.1
        refine va_calli (va_runV (As := [.int (2 : Int32)]) (rest := []) ⟨hx, hb, hml, hown, hts⟩ (c_X12_refuses l (cy := cy) (X := X) (D := D) S _ o1 h_o1 (2 : Int32) (hW)) (cwV 1 hts gX12_doPair_X12_refuses rfl rfl rfl hd_X12_refuses ⟨Nat.le_of_ble_eq_true rfl, Nat.le_of_ble_eq_true rfl⟩) (pV (va_recv hK hP (q := (RX12, TX12, 34)) (ci := 16) (q0 := k33) rfl hk33) hP hK hD hN) rfl rfl hl.1 rfl (lv_room (Nat.le_of_ble_eq_true rfl)) dX12_doPair_29 ⟨(Nat.zero_le _), (Nat.zero_le _)⟩) hS (fun q _ h => hFc q h) hFc (fun r34 u t H1 locs ht hvm hw hB hz1 hk1 hS => ?_)
        obtain ⟨c35, w36, y37⟩ := hw
        obtain ⟨hP, hD⟩ := wd_post hFc ht hB
        generalize H1 = H at hP hS ⊢
        obtain ⟨S38, rfl⟩ : ∃ z, z = u := ⟨_, rfl⟩
        have t39 : stp [(12, 15)] [] [] S S38 := t0.tr w36 (by decide) (fun _ q => absurd q List.not_mem_nil)
        have xe40 : ext S S38 := w36.x
        refine lv_goto (tgt := 45) hx hb dX12_doPair_32 (by decide) ?_
        refine W.widen (k := 0) (n := 0) (Nat.le_of_ble_eq_true rfl) (Nat.le_of_ble_eq_true rfl) ?_
        exact W.zret (v := r34) hx hb hr (y37) (fun t ht hW9 => ⟨⟨r34, S38, rfl, ⟨(by show (r34, S38) = f_X12_doPair S o1 x1 x2; unfold f_X12_doPair; rw [if_neg c6, if_neg c19, if_pos c20, l2_eq c35.symm]), t39, (y37)⟩, wd_end hP hK hD ht hW9.alike⟩, hS.F ht⟩) hS.2.2 dX12_doPair_45 hlocks
    · have c19i : (f_X12_isGear S o1 x2).toInt = 0 := eq_v rfl rfl c19
      refine lv_aload_n hx hb dX12_doPair_16 rfl (lv_at hl 0 rfl) ?_
      refine lv_iconst (v := 1) hx hb dX12_doPair_17 (by decide) ?_
      have l32_1 : (1 : Int32).toInt = 1 := rfl
      have hFc := free_all hD hS hA
      obtain ⟨k41, gk41, hk41⟩ := wGt (cy := cy) X S h_o1.1 h_o1.2.1
      refine va_calli (va_runV (As := [.int (1 : Int32)]) (rest := []) ⟨hx, hb, hml, hown, hts⟩ (c_X12_refuses l (cy := cy) (X := X) (D := D) S _ o1 h_o1 (1 : Int32) (hW)) (cwV 1 hts gX12_doPair_X12_refuses rfl rfl rfl hd_X12_refuses ⟨Nat.le_of_ble_eq_true rfl, Nat.le_of_ble_eq_true rfl⟩) (pV (va_recv hK hP (q := (RX12, TX12, 34)) (ci := 16) (q0 := k41) rfl hk41) hP hK hD hN) rfl rfl hl.1 rfl (lv_room (Nat.le_of_ble_eq_true rfl)) dX12_doPair_18 ⟨(Nat.zero_le _), (Nat.zero_le _)⟩) hS (fun q _ h => hFc q h) hFc (fun r42 u t H1 locs ht hvm hw hB hz1 hk1 hS => ?_)
      obtain ⟨c43, w44, y45⟩ := hw
      obtain ⟨hP, hD⟩ := wd_post hFc ht hB
      generalize H1 = H at hP hS ⊢
      obtain ⟨S46, rfl⟩ : ∃ z, z = u := ⟨_, rfl⟩
      have t47 : stp [(12, 15)] [] [] S S46 := t0.tr w44 (by decide) (fun _ q => absurd q List.not_mem_nil)
      have xe48 : ext S S46 := w44.x
      refine W.widen (k := 0) (n := 0) (Nat.le_of_ble_eq_true rfl) (Nat.le_of_ble_eq_true rfl) ?_
      exact W.zret (v := r42) hx hb hr (y45) (fun t ht hW9 => ⟨⟨r42, S46, rfl, ⟨(by show (r42, S46) = f_X12_doPair S o1 x1 x2; unfold f_X12_doPair; rw [if_neg c6, if_pos c19, l2_eq c43.symm]), t47, (y45)⟩, wd_end hP hK hD ht hW9.alike⟩, hS.F ht⟩) hS.2.2 dX12_doPair_21 hlocks
