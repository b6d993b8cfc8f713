set_option maxHeartbeats 4000000 in
set_option maxRecDepth 100000 in
theorem road_32 {p : Program} {l : Launch} {e : Env} {s : State} {m : MethodId} {below : List Frame} {meth : Method} {c : Code} {b L : Nat} {xs : Nat → Int32} {D : va_G} {cy : Nat → ClassId} {c8 c9 : ClassId} {e0 mi : Nat} {Q : State → Prop} {qo qd o1 o2 : Nat} (C0 : LC p l s m c b L xs D cy c8 c9 e0 mi) (hL9 : L ≤ 2560) {S : wPS} {fo : Nat → Int64} {fd : Nat → UInt64} {H : Heap} {locs : List Loc} {ls : Array Slot} {cells slots : Nat} {i : Int32} (hi : 0 ≤ i.toInt ∧ i.toInt + 5 ≤ L) (hI : LI D cy c8 c9 e0 (fun q => s.heap.size ≤ q) o1 o2 qo qd fo fd S H) (hS : va_S (fun q => s.heap.size ≤ q) s.heap H locs) (hc : cells + 40 ≤ room_1.cells) (hs : slots + 1200 ≤ room_1.slots) (hl : lv_has ls 9 [(5, .int i), (4, .ref qd), (3, .ref qo), (2, .ref o1), (1, .ref o2), (0, .ref b)]) (kk : ∀ (S2 : wPS) (fo2 : Nat → Int64) (fd2 : Nat → UInt64) (H2 : Heap) (locs2 : List Loc) (ls2 : Array Slot), LI D cy c8 c9 e0 (fun q => s.heap.size ≤ q) o1 o2 qo qd fo2 fd2 S2 H2 → va_S (fun q => s.heap.size ≤ q) s.heap H2 locs2 → lv_has ls2 9 [(5, .int i), (4, .ref qd), (3, .ref qo), (2, .ref o1), (1, .ref o2), (0, .ref b)] → W p l e room_1 s m #[Value.ref b] below meth c H2 locs2 (cells + 40) (slots + 1200) Q (F0 m 2924 ls2 [])) : W p l e room_1 s m #[Value.ref b] below meth c H locs cells slots Q (F0 m 1748 ls []) := by
  obtain ⟨hx, hb, hml, hown, hts, hX, hbl, hN, hTH, hOU, hKX, hst, hNC⟩ := id C0
  obtain ⟨hP, hD, hW, h_o2, h_o1, h77, hMV, hIV, hR_R55, hR_R58, hR_RLT⟩ := hI
  have hK := kX hKX
  have hA : ∀ q : Nat, s.heap.size ≤ q → (fun q : Nat => s.heap.size ≤ q) q := fun _ h => h
  have hbA : ¬ (fun q : Nat => s.heap.size ≤ q) b := Nat.not_le.mpr hbl
  refine lv_aload_n hx hb dL_law_1748 rfl (lv_at hl 4 rfl) ?_
  refine lv_aload_n hx hb dL_law_1749 rfl (lv_at hl 5 rfl) ?_
  refine lv_iload hx hb dL_law_1750 (lv_at hl 0 rfl) ?_
  refine lv_iconst (v := 1) hx hb dL_law_1752 (by decide) ?_
  refine lv_iadd hx hb dL_law_1753 ?_
  have l32_1 : (1 : Int32).toInt = 1 := rfl
  have i1 : (i + (1 : Int32)).toInt = i.toInt + 1 := t_addr (n := 1) rfl (by omega)
  refine va_sld hx hb hX hbl hbA hS (inb (m := L) rfl (by omega) (by omega)) dL_law_1754 ?_
  obtain ⟨y2, ey2⟩ : ∃ z : Int32, xs (i + (1 : Int32)).toNatClampNeg = z := ⟨_, rfl⟩
  rw [ey2]
  refine lv_aload_n hx hb dL_law_1755 rfl (lv_at hl 5 rfl) ?_
  refine lv_iload hx hb dL_law_1756 (lv_at hl 0 rfl) ?_
  refine lv_iconst (v := 2) hx hb dL_law_1758 (by decide) ?_
  refine lv_iadd hx hb dL_law_1759 ?_
  have l32_2 : (2 : Int32).toInt = 2 := rfl
  have i3 : (i + (2 : Int32)).toInt = i.toInt + 2 := t_addr (n := 2) rfl (by omega)
  refine va_sld hx hb hX hbl hbA hS (inb (m := L) rfl (by omega) (by omega)) dL_law_1760 ?_
  obtain ⟨y4, ey4⟩ : ∃ z : Int32, xs (i + (2 : Int32)).toNatClampNeg = z := ⟨_, rfl⟩
  rw [ey4]
  refine lv_aload_n hx hb dL_law_1761 rfl (lv_at hl 5 rfl) ?_
  refine lv_iload hx hb dL_law_1762 (lv_at hl 0 rfl) ?_
  refine lv_iconst (v := 3) hx hb dL_law_1764 (by decide) ?_
  refine lv_iadd hx hb dL_law_1765 ?_
  have l32_3 : (3 : Int32).toInt = 3 := rfl
  have i5 : (i + (3 : Int32)).toInt = i.toInt + 3 := t_addr (n := 3) rfl (by omega)
  refine va_sld hx hb hX hbl hbA hS (inb (m := L) rfl (by omega) (by omega)) dL_law_1766 ?_
  obtain ⟨y6, ey6⟩ : ∃ z : Int32, xs (i + (3 : Int32)).toNatClampNeg = z := ⟨_, rfl⟩
  rw [ey6]
  refine lv_if_eq (tgt := 1774) hx hb dL_law_1767 (by decide) (fun c7 => ?_) (fun c7 => ?_)
  · have c7i : y6.toInt = 0 := eq_v rfl rfl c7
    refine lv_iconst (v := 0) hx hb dL_law_1774 (by decide) ?_
    refine lv_aload_n hx hb dL_law_1775 rfl (lv_at hl 2 rfl) ?_
    have hFc := free_all hD hS hA
    refine va_calli (vx_runSW (As := [.ref o2, .int y2, .int y4, .int (0 : Int32), .ref qo]) (rest := []) ⟨hx, hb, hml, hown, hts⟩ (c_L_harden l hst (e0 := e0) (mi := mi) (D := D) (cy := cy) (c8 := c8) (c9 := c9) qo qd fo fd S _ o2 h_o2 y2 y4 (0 : Int32) (hW)) (vx_cwSW 5 hts gL_law_L_harden rfl rfl rfl (by decide +kernel) ⟨Nat.le_of_ble_eq_true rfl, Nat.le_of_ble_eq_true rfl⟩) ⟨fun a U g mk q => ⟨q.1, q.2.1, q.2.2.1.calling, NW.same (u := U) (U := U.calling g mk a) rfl q.2.2.2.1, q.2.2.2.2.1.calling, q.2.2.2.2.2.1.calling, q.2.2.2.2.2.2.calling⟩, fun U hU hW => ⟨rfl, by rw [hU], wx_pre hP hKX hD hU hW, hN.warm hW, th_pre hTH hS hFc hU hW, ou_pre hOU hS hFc hU hW, hNC.moved hW.alike⟩⟩ rfl rfl hl.1 rfl (lv_room (Nat.le_of_ble_eq_true rfl)) dL_law_1776 ⟨by omega, by omega⟩) hS (fun q _ h => hFc q h) hFc (fun r8 u t H1 locs ht hvm hw hB hz1 hk1 hS => ?_)
    obtain ⟨S9, f10⟩ := u
    have w11 := hw
    obtain ⟨hP, hD⟩ := wx_post hFc ht hB
    generalize H1 = H at hP hS ⊢
    have w11 : stp [(2, 13), (2, 14), (2, 15)] [] [] S S9 := w11
    have v12 : IV S9 o1 := IV.keep w11 hW h_o1 (by decide) (by decide) hIV
    have v13 : MV S9 o1 := MV.keep w11 hW h_o1 (by decide) (by decide) hMV
    have v14 : (R55 o2) S9 o1 := R55.keep w11 hW h_o1 (by decide) (by decide) hR_R55
    have v15 : (R58 o2) S9 o1 := R58.keep w11 hW h_o1 (by decide) (by decide) hR_R58
    have v16 : (RLT o2) S9 o1 := RLT.keep w11 hW h_o1 (by decide) (by decide) hR_RLT
    have xe17 : ext S S9 := w11.x
    refine lv_istore (lv' := [(6, .int r8), (5, .int i), (4, .ref qd), (3, .ref qo), (2, .ref o1), (1, .ref o2), (0, .ref b)]) hx hb dL_law_1779 hl (by decide) rfl (fun ls hl => ?_)
    refine lv_aload_n hx hb dL_law_1781 rfl (lv_at hl 4 rfl) ?_
    refine lv_aload_n hx hb dL_law_1782 rfl (lv_at hl 6 rfl) ?_
    refine lv_iload hx hb dL_law_1783 (lv_at hl 1 rfl) ?_
    refine lv_iconst (v := 1) hx hb dL_law_1785 (by decide) ?_
    refine lv_iadd hx hb dL_law_1786 ?_
    refine va_sld hx hb hX hbl hbA hS (inb (m := L) rfl (by omega) (by omega)) dL_law_1787 ?_
    rw [ey2]
    refine lv_aload_n hx hb dL_law_1788 rfl (lv_at hl 6 rfl) ?_
    refine lv_iload hx hb dL_law_1789 (lv_at hl 1 rfl) ?_
    refine lv_iconst (v := 2) hx hb dL_law_1791 (by decide) ?_
    refine lv_iadd hx hb dL_law_1792 ?_
    refine va_sld hx hb hX hbl hbA hS (inb (m := L) rfl (by omega) (by omega)) dL_law_1793 ?_
    rw [ey4]
    refine lv_aload_n hx hb dL_law_1794 rfl (lv_at hl 6 rfl) ?_
    refine lv_iload hx hb dL_law_1795 (lv_at hl 1 rfl) ?_
    refine lv_iconst (v := 3) hx hb dL_law_1797 (by decide) ?_
    refine lv_iadd hx hb dL_law_1798 ?_
    refine va_sld hx hb hX hbl hbA hS (inb (m := L) rfl (by omega) (by omega)) dL_law_1799 ?_
    rw [ey6]
    refine lv_if_eq (tgt := 1807) hx hb dL_law_1800 (by decide) (fun c18 => ?_) (fun c18 => ?_)
    · have c18i : y6.toInt = 0 := eq_v rfl rfl c18
      refine lv_iconst (v := 0) hx hb dL_law_1807 (by decide) ?_
      have hFc := free_all hD hS hA
      obtain ⟨k20, gk20, hk20⟩ := wGt (cy := cy) (XO c8 c9 qo qd f10 fd) S9 (xe17.A h_o1).1 (xe17.A h_o1).2.1
      refine va_calli (va_runV (As := [.int y2, .int y4, .int (0 : Int32)]) (rest := []) ⟨hx, hb, hml, hown, hts⟩ (c_X12_harden l (cy := cy) (X := (XO c8 c9 qo qd f10 fd)) (D := D) S9 _ o1 (xe17.A h_o1) y2 y4 (0 : Int32) (w11.w)) (cwV 3 hts gL_law_X12_harden rfl rfl rfl hd_X12_harden ⟨Nat.le_of_ble_eq_true rfl, Nat.le_of_ble_eq_true rfl⟩) ⟨fun a U g mk q => ⟨q.1, q.2.1, q.2.2.1.calling, NW.same (u := U) (U := U.calling g mk a) rfl q.2.2.2⟩, va_recv hK hP (q := (RX12, TX12, 34)) (ci := 16) (q0 := k20) rfl hk20, fun U hU hW => ⟨rfl, by rw [hU], wd_pre hP hK hD hU hW, hN.warm hW⟩⟩ rfl rfl hl.1 rfl (lv_room (Nat.le_of_ble_eq_true rfl)) dL_law_1808 ⟨by omega, by omega⟩) hS (fun q _ h => hFc q h) hFc (fun r19 u t H1 locs ht hvm hw hB hz1 hk1 hS => ?_)
      have w21 := hw
      obtain ⟨hP, hD⟩ := wd_post hFc ht hB
      generalize H1 = H at hP hS ⊢
      obtain ⟨S22, rfl⟩ : ∃ z, z = u := ⟨_, rfl⟩
      have v23 : IV S22 o1 := IV.keep w21 w11.w (xe17.A h_o1) (by decide) (by decide) v12
      have v24 : MV S22 o1 := MV.keep w21 w11.w (xe17.A h_o1) (by decide) (by decide) v13
      have v25 : (R55 o2) S22 o1 := R55.keep w21 w11.w (xe17.A h_o1) (by decide) (by decide) v14
      have v26 : (R58 o2) S22 o1 := R58.keep w21 w11.w (xe17.A h_o1) (by decide) (by decide) v15
      have v27 : (RLT o2) S22 o1 := RLT.keep w21 w11.w (xe17.A h_o1) (by decide) (by decide) v16
      have xe28 : ext S9 S22 := w21.x
      refine lv_istore (lv' := [(7, .int r19), (6, .int r8), (5, .int i), (4, .ref qd), (3, .ref qo), (2, .ref o1), (1, .ref o2), (0, .ref b)]) hx hb dL_law_1811 hl (by decide) rfl (fun ls hl => ?_)
      refine lv_goto (tgt := 2924) hx hb dL_law_1813 (by decide) ?_
      refine W.widen (k := cells + 40) (n := slots + 1200) (by omega) (by omega) ?_
      exact kk S22 f10 fd H _ ls ⟨hP, hD, w21.w, ((xe17.tr xe28).A h_o2), (xe28.A (xe17.A h_o1)), ((xe17.tr xe28).F h_o1 (by decide) h77), v24, v23, v25, v26, v27⟩ hS (lv_sub hl [2, 3, 4, 5, 6, 7] rfl)
    · have c18i : ¬ y6.toInt = 0 := neq_v rfl rfl c18
      refine lv_iconst (v := 1) hx hb dL_law_1803 (by decide) ?_
      refine lv_goto (tgt := 1808) hx hb dL_law_1804 (by decide) ?_
      have hFc := free_all hD hS hA
      obtain ⟨k30, gk30, hk30⟩ := wGt (cy := cy) (XO c8 c9 qo qd f10 fd) S9 (xe17.A h_o1).1 (xe17.A h_o1).2.1
      refine va_calli (va_runV (As := [.int y2, .int y4, .int (1 : Int32)]) (rest := []) ⟨hx, hb, hml, hown, hts⟩ (c_X12_harden l (cy := cy) (X := (XO c8 c9 qo qd f10 fd)) (D := D) S9 _ o1 (xe17.A h_o1) y2 y4 (1 : Int32) (w11.w)) (cwV 3 hts gL_law_X12_harden rfl rfl rfl hd_X12_harden ⟨Nat.le_of_ble_eq_true rfl, Nat.le_of_ble_eq_true rfl⟩) ⟨fun a U g mk q => ⟨q.1, q.2.1, q.2.2.1.calling, NW.same (u := U) (U := U.calling g mk a) rfl q.2.2.2⟩, va_recv hK hP (q := (RX12, TX12, 34)) (ci := 16) (q0 := k30) rfl hk30, fun U hU hW => ⟨rfl, by rw [hU], wd_pre hP hK hD hU hW, hN.warm hW⟩⟩ rfl rfl hl.1 rfl (lv_room (Nat.le_of_ble_eq_true rfl)) dL_law_1808 ⟨by omega, by omega⟩) hS (fun q _ h => hFc q h) hFc (fun r29 u t H1 locs ht hvm hw hB hz1 hk1 hS => ?_)
      have w31 := hw
      obtain ⟨hP, hD⟩ := wd_post hFc ht hB
      generalize H1 = H at hP hS ⊢
      obtain ⟨S32, rfl⟩ : ∃ z, z = u := ⟨_, rfl⟩
      have v33 : IV S32 o1 := IV.keep w31 w11.w (xe17.A h_o1) (by decide) (by decide) v12
      have v34 : MV S32 o1 := MV.keep w31 w11.w (xe17.A h_o1) (by decide) (by decide) v13
      have v35 : (R55 o2) S32 o1 := R55.keep w31 w11.w (xe17.A h_o1) (by decide) (by decide) v14
      have v36 : (R58 o2) S32 o1 := R58.keep w31 w11.w (xe17.A h_o1) (by decide) (by decide) v15
      have v37 : (RLT o2) S32 o1 := RLT.keep w31 w11.w (xe17.A h_o1) (by decide) (by decide) v16
      have xe38 : ext S9 S32 := w31.x
      refine lv_istore (lv' := [(7, .int r29), (6, .int r8), (5, .int i), (4, .ref qd), (3, .ref qo), (2, .ref o1), (1, .ref o2), (0, .ref b)]) hx hb dL_law_1811 hl (by decide) rfl (fun ls hl => ?_)
      refine lv_goto (tgt := 2924) hx hb dL_law_1813 (by decide) ?_
      refine W.widen (k := cells + 40) (n := slots + 1200) (by omega) (by omega) ?_
      exact kk S32 f10 fd H _ ls ⟨hP, hD, w31.w, ((xe17.tr xe38).A h_o2), (xe38.A (xe17.A h_o1)), ((xe17.tr xe38).F h_o1 (by decide) h77), v34, v33, v35, v36, v37⟩ hS (lv_sub hl [2, 3, 4, 5, 6, 7] rfl)
  · have c7i : ¬ y6.toInt = 0 := neq_v rfl rfl c7
    refine lv_iconst (v := 1) hx hb dL_law_1770 (by decide) ?_
    refine lv_goto (tgt := 1775) hx hb dL_law_1771 (by decide) ?_
    refine lv_aload_n hx hb dL_law_1775 rfl (lv_at hl 2 rfl) ?_
    have hFc := free_all hD hS hA
    refine va_calli (vx_runSW (As := [.ref o2, .int y2, .int y4, .int (1 : Int32), .ref qo]) (rest := []) ⟨hx, hb, hml, hown, hts⟩ (c_L_harden l hst (e0 := e0) (mi := mi) (D := D) (cy := cy) (c8 := c8) (c9 := c9) qo qd fo fd S _ o2 h_o2 y2 y4 (1 : Int32) (hW)) (vx_cwSW 5 hts gL_law_L_harden rfl rfl rfl (by decide +kernel) ⟨Nat.le_of_ble_eq_true rfl, Nat.le_of_ble_eq_true rfl⟩) ⟨fun a U g mk q => ⟨q.1, q.2.1, q.2.2.1.calling, NW.same (u := U) (U := U.calling g mk a) rfl q.2.2.2.1, q.2.2.2.2.1.calling, q.2.2.2.2.2.1.calling, q.2.2.2.2.2.2.calling⟩, fun U hU hW => ⟨rfl, by rw [hU], wx_pre hP hKX hD hU hW, hN.warm hW, th_pre hTH hS hFc hU hW, ou_pre hOU hS hFc hU hW, hNC.moved hW.alike⟩⟩ rfl rfl hl.1 rfl (lv_room (Nat.le_of_ble_eq_true rfl)) dL_law_1776 ⟨by omega, by omega⟩) hS (fun q _ h => hFc q h) hFc (fun r39 u t H1 locs ht hvm hw hB hz1 hk1 hS => ?_)
    obtain ⟨S40, f41⟩ := u
    have w42 := hw
    obtain ⟨hP, hD⟩ := wx_post hFc ht hB
    generalize H1 = H at hP hS ⊢
    have w42 : stp [(2, 13), (2, 14), (2, 15)] [] [] S S40 := w42
    have v43 : IV S40 o1 := IV.keep w42 hW h_o1 (by decide) (by decide) hIV
    have v44 : MV S40 o1 := MV.keep w42 hW h_o1 (by decide) (by decide) hMV
    have v45 : (R55 o2) S40 o1 := R55.keep w42 hW h_o1 (by decide) (by decide) hR_R55
    have v46 : (R58 o2) S40 o1 := R58.keep w42 hW h_o1 (by decide) (by decide) hR_R58
    have v47 : (RLT o2) S40 o1 := RLT.keep w42 hW h_o1 (by decide) (by decide) hR_RLT
    have xe48 : ext S S40 := w42.x
    refine lv_istore (lv' := [(6, .int r39), (5, .int i), (4, .ref qd), (3, .ref qo), (2, .ref o1), (1, .ref o2), (0, .ref b)]) hx hb dL_law_1779 hl (by decide) rfl (fun ls hl => ?_)
    refine lv_aload_n hx hb dL_law_1781 rfl (lv_at hl 4 rfl) ?_
    refine lv_aload_n hx hb dL_law_1782 rfl (lv_at hl 6 rfl) ?_
    refine lv_iload hx hb dL_law_1783 (lv_at hl 1 rfl) ?_
    refine lv_iconst (v := 1) hx hb dL_law_1785 (by decide) ?_
    refine lv_iadd hx hb dL_law_1786 ?_
    refine va_sld hx hb hX hbl hbA hS (inb (m := L) rfl (by omega) (by omega)) dL_law_1787 ?_
    rw [ey2]
    refine lv_aload_n hx hb dL_law_1788 rfl (lv_at hl 6 rfl) ?_
    refine lv_iload hx hb dL_law_1789 (lv_at hl 1 rfl) ?_
    refine lv_iconst (v := 2) hx hb dL_law_1791 (by decide) ?_
    refine lv_iadd hx hb dL_law_1792 ?_
    refine va_sld hx hb hX hbl hbA hS (inb (m := L) rfl (by omega) (by omega)) dL_law_1793 ?_
    rw [ey4]
    refine lv_aload_n hx hb dL_law_1794 rfl (lv_at hl 6 rfl) ?_
    refine lv_iload hx hb dL_law_1795 (lv_at hl 1 rfl) ?_
    refine lv_iconst (v := 3) hx hb dL_law_1797 (by decide) ?_
    refine lv_iadd hx hb dL_law_1798 ?_
    refine va_sld hx hb hX hbl hbA hS (inb (m := L) rfl (by omega) (by omega)) dL_law_1799 ?_
    rw [ey6]
    refine lv_if_eq (tgt := 1807) hx hb dL_law_1800 (by decide) (fun c49 => ?_) (fun c49 => ?_)
    · have c49i : y6.toInt = 0 := eq_v rfl rfl c49
      refine lv_iconst (v := 0) hx hb dL_law_1807 (by decide) ?_
      have hFc := free_all hD hS hA
      obtain ⟨k51, gk51, hk51⟩ := wGt (cy := cy) (XO c8 c9 qo qd f41 fd) S40 (xe48.A h_o1).1 (xe48.A h_o1).2.1
      refine va_calli (va_runV (As := [.int y2, .int y4, .int (0 : Int32)]) (rest := []) ⟨hx, hb, hml, hown, hts⟩ (c_X12_harden l (cy := cy) (X := (XO c8 c9 qo qd f41 fd)) (D := D) S40 _ o1 (xe48.A h_o1) y2 y4 (0 : Int32) (w42.w)) (cwV 3 hts gL_law_X12_harden rfl rfl rfl hd_X12_harden ⟨Nat.le_of_ble_eq_true rfl, Nat.le_of_ble_eq_true rfl⟩) ⟨fun a U g mk q => ⟨q.1, q.2.1, q.2.2.1.calling, NW.same (u := U) (U := U.calling g mk a) rfl q.2.2.2⟩, va_recv hK hP (q := (RX12, TX12, 34)) (ci := 16) (q0 := k51) rfl hk51, fun U hU hW => ⟨rfl, by rw [hU], wd_pre hP hK hD hU hW, hN.warm hW⟩⟩ rfl rfl hl.1 rfl (lv_room (Nat.le_of_ble_eq_true rfl)) dL_law_1808 ⟨by omega, by omega⟩) hS (fun q _ h => hFc q h) hFc (fun r50 u t H1 locs ht hvm hw hB hz1 hk1 hS => ?_)
      have w52 := hw
      obtain ⟨hP, hD⟩ := wd_post hFc ht hB
      generalize H1 = H at hP hS ⊢
      obtain ⟨S53, rfl⟩ : ∃ z, z = u := ⟨_, rfl⟩
      have v54 : IV S53 o1 := IV.keep w52 w42.w (xe48.A h_o1) (by decide) (by decide) v43
      have v55 : MV S53 o1 := MV.keep w52 w42.w (xe48.A h_o1) (by decide) (by decide) v44
      have v56 : (R55 o2) S53 o1 := R55.keep w52 w42.w (xe48.A h_o1) (by decide) (by decide) v45
      have v57 : (R58 o2) S53 o1 := R58.keep w52 w42.w (xe48.A h_o1) (by decide) (by decide) v46
      have v58 : (RLT o2) S53 o1 := RLT.keep w52 w42.w (xe48.A h_o1) (by decide) (by decide) v47
      have xe59 : ext S40 S53 := w52.x
      refine lv_istore (lv' := [(7, .int r50), (6, .int r39), (5, .int i), (4, .ref qd), (3, .ref qo), (2, .ref o1), (1, .ref o2), (0, .ref b)]) hx hb dL_law_1811 hl (by decide) rfl (fun ls hl => ?_)
      refine lv_goto (tgt := 2924) hx hb dL_law_1813 (by decide) ?_
      refine W.widen (k := cells + 40) (n := slots + 1200) (by omega) (by omega) ?_
      exact kk S53 f41 fd H _ ls ⟨hP, hD, w52.w, ((xe48.tr xe59).A h_o2), (xe59.A (xe48.A h_o1)), ((xe48.tr xe59).F h_o1 (by decide) h77), v55, v54, v56, v57, v58⟩ hS (lv_sub hl [2, 3, 4, 5, 6, 7] rfl)
    · have c49i : ¬ y6.toInt = 0 := neq_v rfl rfl c49
      refine lv_iconst (v := 1) hx hb dL_law_1803 (by decide) ?_
      refine lv_goto (tgt := 1808) hx hb dL_law_1804 (by decide) ?_
      have hFc := free_all hD hS hA
      obtain ⟨k61, gk61, hk61⟩ := wGt (cy := cy) (XO c8 c9 qo qd f41 fd) S40 (xe48.A h_o1).1 (xe48.A h_o1).2.1
      refine va_calli (va_runV (As := [.int y2, .int y4, .int (1 : Int32)]) (rest := []) ⟨hx, hb, hml, hown, hts⟩ (c_X12_harden l (cy := cy) (X := (XO c8 c9 qo qd f41 fd)) (D := D) S40 _ o1 (xe48.A h_o1) y2 y4 (1 : Int32) (w42.w)) (cwV 3 hts gL_law_X12_harden rfl rfl rfl hd_X12_harden ⟨Nat.le_of_ble_eq_true rfl, Nat.le_of_ble_eq_true rfl⟩) ⟨fun a U g mk q => ⟨q.1, q.2.1, q.2.2.1.calling, NW.same (u := U) (U := U.calling g mk a) rfl q.2.2.2⟩, va_recv hK hP (q := (RX12, TX12, 34)) (ci := 16) (q0 := k61) rfl hk61, fun U hU hW => ⟨rfl, by rw [hU], wd_pre hP hK hD hU hW, hN.warm hW⟩⟩ rfl rfl hl.1 rfl (lv_room (Nat.le_of_ble_eq_true rfl)) dL_law_1808 ⟨by omega, by omega⟩) hS (fun q _ h => hFc q h) hFc (fun r60 u t H1 locs ht hvm hw hB hz1 hk1 hS => ?_)
      have w62 := hw
      obtain ⟨hP, hD⟩ := wd_post hFc ht hB
      generalize H1 = H at hP hS ⊢
      obtain ⟨S63, rfl⟩ : ∃ z, z = u := ⟨_, rfl⟩
      have v64 : IV S63 o1 := IV.keep w62 w42.w (xe48.A h_o1) (by decide) (by decide) v43
      have v65 : MV S63 o1 := MV.keep w62 w42.w (xe48.A h_o1) (by decide) (by decide) v44
      have v66 : (R55 o2) S63 o1 := R55.keep w62 w42.w (xe48.A h_o1) (by decide) (by decide) v45
      have v67 : (R58 o2) S63 o1 := R58.keep w62 w42.w (xe48.A h_o1) (by decide) (by decide) v46
      have v68 : (RLT o2) S63 o1 := RLT.keep w62 w42.w (xe48.A h_o1) (by decide) (by decide) v47
      have xe69 : ext S40 S63 := w62.x
      refine lv_istore (lv' := [(7, .int r60), (6, .int r39), (5, .int i), (4, .ref qd), (3, .ref qo), (2, .ref o1), (1, .ref o2), (0, .ref b)]) hx hb dL_law_1811 hl (by decide) rfl (fun ls hl => ?_)
      refine lv_goto (tgt := 2924) hx hb dL_law_1813 (by decide) ?_
      refine W.widen (k := cells + 40) (n := slots + 1200) (by omega) (by omega) ?_
      exact kk S63 f41 fd H _ ls ⟨hP, hD, w62.w, ((xe48.tr xe69).A h_o2), (xe69.A (xe48.A h_o1)), ((xe48.tr xe69).F h_o1 (by decide) h77), v65, v64, v66, v67, v68⟩ hS (lv_sub hl [2, 3, 4, 5, 6, 7] rfl)
set_option maxHeartbeats 4000000 in
set_option maxRecDepth 100000 in
theorem road_33 {p : Program} {l : Launch} {e : Env} {s : State} {m : MethodId} {below : List Frame} {meth : Method} {c : Code} {b L : Nat} {xs : Nat → Int32} {D : va_G} {cy : Nat → ClassId} {c8 c9 : ClassId} {e0 mi : Nat} {Q : State → Prop} {qo qd o1 o2 : Nat} (C0 : LC p l s m c b L xs D cy c8 c9 e0 mi) (hL9 : L ≤ 2560) {S : wPS} {fo : Nat → Int64} {fd : Nat → UInt64} {H : Heap} {locs : List Loc} {ls : Array Slot} {cells slots : Nat} {i : Int32} (hi : 0 ≤ i.toInt ∧ i.toInt + 5 ≤ L) (hI : LI D cy c8 c9 e0 (fun q => s.heap.size ≤ q) o1 o2 qo qd fo fd S H) (hS : va_S (fun q => s.heap.size ≤ q) s.heap H locs) (hc : cells + 40 ≤ room_1.cells) (hs : slots + 1200 ≤ room_1.slots) (hl : lv_has ls 9 [(5, .int i), (4, .ref qd), (3, .ref qo), (2, .ref o1), (1, .ref o2), (0, .ref b)]) (kk : ∀ (S2 : wPS) (fo2 : Nat → Int64) (fd2 : Nat → UInt64) (H2 : Heap) (locs2 : List Loc) (ls2 : Array Slot), LI D cy c8 c9 e0 (fun q => s.heap.size ≤ q) o1 o2 qo qd fo2 fd2 S2 H2 → va_S (fun q => s.heap.size ≤ q) s.heap H2 locs2 → lv_has ls2 9 [(5, .int i), (4, .ref qd), (3, .ref qo), (2, .ref o1), (1, .ref o2), (0, .ref b)] → W p l e room_1 s m #[Value.ref b] below meth c H2 locs2 (cells + 40) (slots + 1200) Q (F0 m 2924 ls2 [])) : W p l e room_1 s m #[Value.ref b] below meth c H locs cells slots Q (F0 m 1816 ls []) := by
  obtain ⟨hx, hb, hml, hown, hts, hX, hbl, hN, hTH, hOU, hKX, hst, hNC⟩ := id C0
  obtain ⟨hP, hD, hW, h_o2, h_o1, h77, hMV, hIV, hR_R55, hR_R58, hR_RLT⟩ := hI
  have hK := kX hKX
  have hA : ∀ q : Nat, s.heap.size ≤ q → (fun q : Nat => s.heap.size ≤ q) q := fun _ h => h
  have hbA : ¬ (fun q : Nat => s.heap.size ≤ q) b := Nat.not_le.mpr hbl
  refine lv_aload_n hx hb dL_law_1816 rfl (lv_at hl 4 rfl) ?_
  refine lv_aload_n hx hb dL_law_1817 rfl (lv_at hl 5 rfl) ?_
  refine lv_iload hx hb dL_law_1818 (lv_at hl 0 rfl) ?_
  refine lv_iconst (v := 1) hx hb dL_law_1820 (by decide) ?_
  refine lv_iadd hx hb dL_law_1821 ?_
  have l32_1 : (1 : Int32).toInt = 1 := rfl
  have i1 : (i + (1 : Int32)).toInt = i.toInt + 1 := t_addr (n := 1) rfl (by omega)
  refine va_sld hx hb hX hbl hbA hS (inb (m := L) rfl (by omega) (by omega)) dL_law_1822 ?_
  obtain ⟨y2, ey2⟩ : ∃ z : Int32, xs (i + (1 : Int32)).toNatClampNeg = z := ⟨_, rfl⟩
  rw [ey2]
  refine lv_aload_n hx hb dL_law_1823 rfl (lv_at hl 2 rfl) ?_
  have hFc := free_all hD hS hA
  refine va_calli (vx_runSW (As := [.ref o2, .int y2, .ref qo]) (rest := []) ⟨hx, hb, hml, hown, hts⟩ (c_L_caseOf l hst (e0 := e0) (mi := mi) (D := D) (cy := cy) (c8 := c8) (c9 := c9) qo qd fo fd S _ o2 h_o2 y2 (hW)) (vx_cwSW 3 hts gL_law_L_caseOf rfl rfl rfl (by decide +kernel) ⟨Nat.le_of_ble_eq_true rfl, Nat.le_of_ble_eq_true rfl⟩) ⟨fun a U g mk q => ⟨q.1, q.2.1, q.2.2.1.calling, NW.same (u := U) (U := U.calling g mk a) rfl q.2.2.2.1, q.2.2.2.2.1.calling, q.2.2.2.2.2.1.calling, q.2.2.2.2.2.2.calling⟩, fun U hU hW => ⟨rfl, by rw [hU], wx_pre hP hKX hD hU hW, hN.warm hW, th_pre hTH hS hFc hU hW, ou_pre hOU hS hFc hU hW, hNC.moved hW.alike⟩⟩ rfl rfl hl.1 rfl (lv_room (Nat.le_of_ble_eq_true rfl)) dL_law_1824 ⟨by omega, by omega⟩) hS (fun q _ h => hFc q h) hFc (fun r3 u t H1 locs ht hvm hw hB hz1 hk1 hS => ?_)
  obtain ⟨S4, f5⟩ := u
  have w6 := hw
  obtain ⟨hP, hD⟩ := wx_post hFc ht hB
  generalize H1 = H at hP hS ⊢
  have w6 : stp ([] : List (Nat × Nat)) [] [] S S4 := w6
  have v7 : IV S4 o1 := IV.keep w6 hW h_o1 (by decide) (by decide) hIV
  have v8 : MV S4 o1 := MV.keep w6 hW h_o1 (by decide) (by decide) hMV
  have v9 : (R55 o2) S4 o1 := R55.keep w6 hW h_o1 (by decide) (by decide) hR_R55
  have v10 : (R58 o2) S4 o1 := R58.keep w6 hW h_o1 (by decide) (by decide) hR_R58
  have v11 : (RLT o2) S4 o1 := RLT.keep w6 hW h_o1 (by decide) (by decide) hR_RLT
  have xe12 : ext S S4 := w6.x
  refine lv_istore (lv' := [(6, .int r3), (5, .int i), (4, .ref qd), (3, .ref qo), (2, .ref o1), (1, .ref o2), (0, .ref b)]) hx hb dL_law_1827 hl (by decide) rfl (fun ls hl => ?_)
  refine lv_aload_n hx hb dL_law_1829 rfl (lv_at hl 4 rfl) ?_
  refine lv_aload_n hx hb dL_law_1830 rfl (lv_at hl 6 rfl) ?_
  refine lv_iload hx hb dL_law_1831 (lv_at hl 1 rfl) ?_
  refine lv_iconst (v := 1) hx hb dL_law_1833 (by decide) ?_
  refine lv_iadd hx hb dL_law_1834 ?_
  refine va_sld hx hb hX hbl hbA hS (inb (m := L) rfl (by omega) (by omega)) dL_law_1835 ?_
  rw [ey2]
  have hFc := free_all hD hS hA
  obtain ⟨k14, gk14, hk14⟩ := wGt (cy := cy) (XO c8 c9 qo qd f5 fd) S4 (xe12.A h_o1).1 (xe12.A h_o1).2.1
  refine va_calli (va_runV (As := [.int y2]) (rest := []) ⟨hx, hb, hml, hown, hts⟩ (c_X12_caseOf l (cy := cy) (X := (XO c8 c9 qo qd f5 fd)) (D := D) S4 _ o1 (xe12.A h_o1) y2 (w6.w)) (cwV 1 hts gL_law_X12_caseOf rfl rfl rfl hd_X12_caseOf ⟨Nat.le_of_ble_eq_true rfl, Nat.le_of_ble_eq_true rfl⟩) ⟨fun a U g mk q => ⟨q.1, q.2.1, q.2.2.1.calling, NW.same (u := U) (U := U.calling g mk a) rfl q.2.2.2⟩, va_recv hK hP (q := (RX12, TX12, 34)) (ci := 16) (q0 := k14) rfl hk14, fun U hU hW => ⟨rfl, by rw [hU], wd_pre hP hK hD hU hW, hN.warm hW⟩⟩ rfl rfl hl.1 rfl (lv_room (Nat.le_of_ble_eq_true rfl)) dL_law_1836 ⟨by omega, by omega⟩) hS (fun q _ h => hFc q h) hFc (fun r13 u t H1 locs ht hvm hw hB hz1 hk1 hS => ?_)
  have w15 := hw
  obtain ⟨hP, hD⟩ := wd_post hFc ht hB
  generalize H1 = H at hP hS ⊢
  obtain ⟨S16, rfl⟩ : ∃ z, z = u := ⟨_, rfl⟩
  have v17 : IV S16 o1 := IV.keep w15 w6.w (xe12.A h_o1) (by decide) (by decide) v7
  have v18 : MV S16 o1 := MV.keep w15 w6.w (xe12.A h_o1) (by decide) (by decide) v8
  have v19 : (R55 o2) S16 o1 := R55.keep w15 w6.w (xe12.A h_o1) (by decide) (by decide) v9
  have v20 : (R58 o2) S16 o1 := R58.keep w15 w6.w (xe12.A h_o1) (by decide) (by decide) v10
  have v21 : (RLT o2) S16 o1 := RLT.keep w15 w6.w (xe12.A h_o1) (by decide) (by decide) v11
  have xe22 : ext S4 S16 := w15.x
  refine lv_istore (lv' := [(7, .int r13), (6, .int r3), (5, .int i), (4, .ref qd), (3, .ref qo), (2, .ref o1), (1, .ref o2), (0, .ref b)]) hx hb dL_law_1839 hl (by decide) rfl (fun ls hl => ?_)
  refine lv_goto (tgt := 2924) hx hb dL_law_1841 (by decide) ?_
  refine W.widen (k := cells + 40) (n := slots + 1200) (by omega) (by omega) ?_
  exact kk S16 f5 fd H _ ls ⟨hP, hD, w15.w, ((xe12.tr xe22).A h_o2), (xe22.A (xe12.A h_o1)), ((xe12.tr xe22).F h_o1 (by decide) h77), v18, v17, v19, v20, v21⟩ hS (lv_sub hl [2, 3, 4, 5, 6, 7] rfl)
set_option maxHeartbeats 4000000 in
set_option maxRecDepth 100000 in
theorem road_34 {p : Program} {l : Launch} {e : Env} {s : State} {m : MethodId} {below : List Frame} {meth : Method} {c : Code} {b L : Nat} {xs : Nat → Int32} {D : va_G} {cy : Nat → ClassId} {c8 c9 : ClassId} {e0 mi : Nat} {Q : State → Prop} {qo qd o1 o2 : Nat} (C0 : LC p l s m c b L xs D cy c8 c9 e0 mi) (hL9 : L ≤ 2560) {S : wPS} {fo : Nat → Int64} {fd : Nat → UInt64} {H : Heap} {locs : List Loc} {ls : Array Slot} {cells slots : Nat} {i : Int32} (hi : 0 ≤ i.toInt ∧ i.toInt + 5 ≤ L) (hI : LI D cy c8 c9 e0 (fun q => s.heap.size ≤ q) o1 o2 qo qd fo fd S H) (hS : va_S (fun q => s.heap.size ≤ q) s.heap H locs) (hc : cells + 40 ≤ room_1.cells) (hs : slots + 1200 ≤ room_1.slots) (hl : lv_has ls 9 [(5, .int i), (4, .ref qd), (3, .ref qo), (2, .ref o1), (1, .ref o2), (0, .ref b)]) (kk : ∀ (S2 : wPS) (fo2 : Nat → Int64) (fd2 : Nat → UInt64) (H2 : Heap) (locs2 : List Loc) (ls2 : Array Slot), LI D cy c8 c9 e0 (fun q => s.heap.size ≤ q) o1 o2 qo qd fo2 fd2 S2 H2 → va_S (fun q => s.heap.size ≤ q) s.heap H2 locs2 → lv_has ls2 9 [(5, .int i), (4, .ref qd), (3, .ref qo), (2, .ref o1), (1, .ref o2), (0, .ref b)] → W p l e room_1 s m #[Value.ref b] below meth c H2 locs2 (cells + 40) (slots + 1200) Q (F0 m 2924 ls2 [])) : W p l e room_1 s m #[Value.ref b] below meth c H locs cells slots Q (F0 m 1844 ls []) := by
  obtain ⟨hx, hb, hml, hown, hts, hX, hbl, hN, hTH, hOU, hKX, hst, hNC⟩ := id C0
  obtain ⟨hP, hD, hW, h_o2, h_o1, h77, hMV, hIV, hR_R55, hR_R58, hR_RLT⟩ := hI
  have hK := kX hKX
  have hA : ∀ q : Nat, s.heap.size ≤ q → (fun q : Nat => s.heap.size ≤ q) q := fun _ h => h
  have hbA : ¬ (fun q : Nat => s.heap.size ≤ q) b := Nat.not_le.mpr hbl
  refine lv_aload_n hx hb dL_law_1844 rfl (lv_at hl 4 rfl) ?_
  refine lv_aload_n hx hb dL_law_1845 rfl (lv_at hl 5 rfl) ?_
  refine lv_iload hx hb dL_law_1846 (lv_at hl 0 rfl) ?_
  refine lv_iconst (v := 1) hx hb dL_law_1848 (by decide) ?_
  refine lv_iadd hx hb dL_law_1849 ?_
  have l32_1 : (1 : Int32).toInt = 1 := rfl
  have i1 : (i + (1 : Int32)).toInt = i.toInt + 1 := t_addr (n := 1) rfl (by omega)
  refine va_sld hx hb hX hbl hbA hS (inb (m := L) rfl (by omega) (by omega)) dL_law_1850 ?_
  obtain ⟨y2, ey2⟩ : ∃ z : Int32, xs (i + (1 : Int32)).toNatClampNeg = z := ⟨_, rfl⟩
  rw [ey2]
  refine lv_aload_n hx hb dL_law_1851 rfl (lv_at hl 2 rfl) ?_
  have hFc := free_all hD hS hA
  refine va_calli (vx_runSW (As := [.ref o2, .int y2, .ref qo]) (rest := []) ⟨hx, hb, hml, hown, hts⟩ (c_L_isClean l hst (e0 := e0) (mi := mi) (D := D) (cy := cy) (c8 := c8) (c9 := c9) qo qd fo fd S _ o2 h_o2 y2 (hW)) (vx_cwSW 3 hts gL_law_L_isClean rfl rfl rfl (by decide +kernel) ⟨Nat.le_of_ble_eq_true rfl, Nat.le_of_ble_eq_true rfl⟩) ⟨fun a U g mk q => ⟨q.1, q.2.1, q.2.2.1.calling, NW.same (u := U) (U := U.calling g mk a) rfl q.2.2.2.1, q.2.2.2.2.1.calling, q.2.2.2.2.2.1.calling, q.2.2.2.2.2.2.calling⟩, fun U hU hW => ⟨rfl, by rw [hU], wx_pre hP hKX hD hU hW, hN.warm hW, th_pre hTH hS hFc hU hW, ou_pre hOU hS hFc hU hW, hNC.moved hW.alike⟩⟩ rfl rfl hl.1 rfl (lv_room (Nat.le_of_ble_eq_true rfl)) dL_law_1852 ⟨by omega, by omega⟩) hS (fun q _ h => hFc q h) hFc (fun r3 u t H1 locs ht hvm hw hB hz1 hk1 hS => ?_)
  obtain ⟨S4, f5⟩ := u
  have w6 := hw
  obtain ⟨hP, hD⟩ := wx_post hFc ht hB
  generalize H1 = H at hP hS ⊢
  have w6 : stp ([] : List (Nat × Nat)) [] [] S S4 := w6
  have v7 : IV S4 o1 := IV.keep w6 hW h_o1 (by decide) (by decide) hIV
  have v8 : MV S4 o1 := MV.keep w6 hW h_o1 (by decide) (by decide) hMV
  have v9 : (R55 o2) S4 o1 := R55.keep w6 hW h_o1 (by decide) (by decide) hR_R55
  have v10 : (R58 o2) S4 o1 := R58.keep w6 hW h_o1 (by decide) (by decide) hR_R58
  have v11 : (RLT o2) S4 o1 := RLT.keep w6 hW h_o1 (by decide) (by decide) hR_RLT
  have xe12 : ext S S4 := w6.x
  refine lv_istore (lv' := [(6, .int r3), (5, .int i), (4, .ref qd), (3, .ref qo), (2, .ref o1), (1, .ref o2), (0, .ref b)]) hx hb dL_law_1855 hl (by decide) rfl (fun ls hl => ?_)
  refine lv_aload_n hx hb dL_law_1857 rfl (lv_at hl 4 rfl) ?_
  refine lv_aload_n hx hb dL_law_1858 rfl (lv_at hl 6 rfl) ?_
  refine lv_iload hx hb dL_law_1859 (lv_at hl 1 rfl) ?_
  refine lv_iconst (v := 1) hx hb dL_law_1861 (by decide) ?_
  refine lv_iadd hx hb dL_law_1862 ?_
  refine va_sld hx hb hX hbl hbA hS (inb (m := L) rfl (by omega) (by omega)) dL_law_1863 ?_
  rw [ey2]
  have hFc := free_all hD hS hA
  obtain ⟨k14, gk14, hk14⟩ := wGt (cy := cy) (XO c8 c9 qo qd f5 fd) S4 (xe12.A h_o1).1 (xe12.A h_o1).2.1
  refine va_calli (va_runV (As := [.int y2]) (rest := []) ⟨hx, hb, hml, hown, hts⟩ (c_X12_isClean l (cy := cy) (X := (XO c8 c9 qo qd f5 fd)) (D := D) S4 _ o1 (xe12.A h_o1) y2 (w6.w)) (cwV 1 hts gL_law_X12_isClean rfl rfl rfl hd_X12_isClean ⟨Nat.le_of_ble_eq_true rfl, Nat.le_of_ble_eq_true rfl⟩) ⟨fun a U g mk q => ⟨q.1, q.2.1, q.2.2.1.calling, NW.same (u := U) (U := U.calling g mk a) rfl q.2.2.2⟩, va_recv hK hP (q := (RX12, TX12, 34)) (ci := 16) (q0 := k14) rfl hk14, fun U hU hW => ⟨rfl, by rw [hU], wd_pre hP hK hD hU hW, hN.warm hW⟩⟩ rfl rfl hl.1 rfl (lv_room (Nat.le_of_ble_eq_true rfl)) dL_law_1864 ⟨by omega, by omega⟩) hS (fun q _ h => hFc q h) hFc (fun r13 u t H1 locs ht hvm hw hB hz1 hk1 hS => ?_)
  obtain ⟨w15, y16⟩ := hw
  obtain ⟨hP, hD⟩ := wd_post hFc ht hB
  generalize H1 = H at hP hS ⊢
  obtain ⟨S17, rfl⟩ : ∃ z, z = u := ⟨_, rfl⟩
  have v18 : IV S17 o1 := IV.keep w15 w6.w (xe12.A h_o1) (by decide) (by decide) v7
  have v19 : MV S17 o1 := MV.keep w15 w6.w (xe12.A h_o1) (by decide) (by decide) v8
  have v20 : (R55 o2) S17 o1 := R55.keep w15 w6.w (xe12.A h_o1) (by decide) (by decide) v9
  have v21 : (R58 o2) S17 o1 := R58.keep w15 w6.w (xe12.A h_o1) (by decide) (by decide) v10
  have v22 : (RLT o2) S17 o1 := RLT.keep w15 w6.w (xe12.A h_o1) (by decide) (by decide) v11
  have xe23 : ext S4 S17 := w15.x
  refine lv_istore (lv' := [(7, .int r13), (6, .int r3), (5, .int i), (4, .ref qd), (3, .ref qo), (2, .ref o1), (1, .ref o2), (0, .ref b)]) hx hb dL_law_1867 hl (by decide) rfl (fun ls hl => ?_)
  refine lv_goto (tgt := 2924) hx hb dL_law_1869 (by decide) ?_
  refine W.widen (k := cells + 40) (n := slots + 1200) (by omega) (by omega) ?_
  exact kk S17 f5 fd H _ ls ⟨hP, hD, w15.w, ((xe12.tr xe23).A h_o2), (xe23.A (xe12.A h_o1)), ((xe12.tr xe23).F h_o1 (by decide) h77), v19, v18, v20, v21, v22⟩ hS (lv_sub hl [2, 3, 4, 5, 6, 7] rfl)
set_option maxHeartbeats 4000000 in
set_option maxRecDepth 100000 in
theorem road_35 {p : Program} {l : Launch} {e : Env} {s : State} {m : MethodId} {below : List Frame} {meth : Method} {c : Code} {b L : Nat} {xs : Nat → Int32} {D : va_G} {cy : Nat → ClassId} {c8 c9 : ClassId} {e0 mi : Nat} {Q : State → Prop} {qo qd o1 o2 : Nat} (C0 : LC p l s m c b L xs D cy c8 c9 e0 mi) (hL9 : L ≤ 2560) {S : wPS} {fo : Nat → Int64} {fd : Nat → UInt64} {H : Heap} {locs : List Loc} {ls : Array Slot} {cells slots : Nat} {i : Int32} (hi : 0 ≤ i.toInt ∧ i.toInt + 5 ≤ L) (hI : LI D cy c8 c9 e0 (fun q => s.heap.size ≤ q) o1 o2 qo qd fo fd S H) (hS : va_S (fun q => s.heap.size ≤ q) s.heap H locs) (hc : cells + 40 ≤ room_1.cells) (hs : slots + 1200 ≤ room_1.slots) (hl : lv_has ls 9 [(5, .int i), (4, .ref qd), (3, .ref qo), (2, .ref o1), (1, .ref o2), (0, .ref b)]) (kk : ∀ (S2 : wPS) (fo2 : Nat → Int64) (fd2 : Nat → UInt64) (H2 : Heap) (locs2 : List Loc) (ls2 : Array Slot), LI D cy c8 c9 e0 (fun q => s.heap.size ≤ q) o1 o2 qo qd fo2 fd2 S2 H2 → va_S (fun q => s.heap.size ≤ q) s.heap H2 locs2 → lv_has ls2 9 [(5, .int i), (4, .ref qd), (3, .ref qo), (2, .ref o1), (1, .ref o2), (0, .ref b)] → W p l e room_1 s m #[Value.ref b] below meth c H2 locs2 (cells + 40) (slots + 1200) Q (F0 m 2924 ls2 [])) : W p l e room_1 s m #[Value.ref b] below meth c H locs cells slots Q (F0 m 1872 ls []) := by
  obtain ⟨hx, hb, hml, hown, hts, hX, hbl, hN, hTH, hOU, hKX, hst, hNC⟩ := id C0
  obtain ⟨hP, hD, hW, h_o2, h_o1, h77, hMV, hIV, hR_R55, hR_R58, hR_RLT⟩ := hI
  have hK := kX hKX
  have hA : ∀ q : Nat, s.heap.size ≤ q → (fun q : Nat => s.heap.size ≤ q) q := fun _ h => h
  have hbA : ¬ (fun q : Nat => s.heap.size ≤ q) b := Nat.not_le.mpr hbl
  refine lv_aload_n hx hb dL_law_1872 rfl (lv_at hl 4 rfl) ?_
  refine lv_aload_n hx hb dL_law_1873 rfl (lv_at hl 5 rfl) ?_
  refine lv_iload hx hb dL_law_1874 (lv_at hl 0 rfl) ?_
  refine lv_iconst (v := 1) hx hb dL_law_1876 (by decide) ?_
  refine lv_iadd hx hb dL_law_1877 ?_
  have l32_1 : (1 : Int32).toInt = 1 := rfl
  have i1 : (i + (1 : Int32)).toInt = i.toInt + 1 := t_addr (n := 1) rfl (by omega)
  refine va_sld hx hb hX hbl hbA hS (inb (m := L) rfl (by omega) (by omega)) dL_law_1878 ?_
  obtain ⟨y2, ey2⟩ : ∃ z : Int32, xs (i + (1 : Int32)).toNatClampNeg = z := ⟨_, rfl⟩
  rw [ey2]
  refine lv_aload_n hx hb dL_law_1879 rfl (lv_at hl 5 rfl) ?_
  refine lv_iload hx hb dL_law_1880 (lv_at hl 0 rfl) ?_
  refine lv_iconst (v := 2) hx hb dL_law_1882 (by decide) ?_
  refine lv_iadd hx hb dL_law_1883 ?_
  have l32_2 : (2 : Int32).toInt = 2 := rfl
  have i3 : (i + (2 : Int32)).toInt = i.toInt + 2 := t_addr (n := 2) rfl (by omega)
  refine va_sld hx hb hX hbl hbA hS (inb (m := L) rfl (by omega) (by omega)) dL_law_1884 ?_
  obtain ⟨y4, ey4⟩ : ∃ z : Int32, xs (i + (2 : Int32)).toNatClampNeg = z := ⟨_, rfl⟩
  rw [ey4]
  refine lv_aload_n hx hb dL_law_1885 rfl (lv_at hl 5 rfl) ?_
  refine lv_iload hx hb dL_law_1886 (lv_at hl 0 rfl) ?_
  refine lv_iconst (v := 3) hx hb dL_law_1888 (by decide) ?_
  refine lv_iadd hx hb dL_law_1889 ?_
  have l32_3 : (3 : Int32).toInt = 3 := rfl
  have i5 : (i + (3 : Int32)).toInt = i.toInt + 3 := t_addr (n := 3) rfl (by omega)
  refine va_sld hx hb hX hbl hbA hS (inb (m := L) rfl (by omega) (by omega)) dL_law_1890 ?_
  obtain ⟨y6, ey6⟩ : ∃ z : Int32, xs (i + (3 : Int32)).toNatClampNeg = z := ⟨_, rfl⟩
  rw [ey6]
  refine lv_aload_n hx hb dL_law_1891 rfl (lv_at hl 2 rfl) ?_
  have hFc := free_all hD hS hA
  refine va_calli (vx_runSW (As := [.ref o2, .int y2, .int y4, .int y6, .ref qo]) (rest := []) ⟨hx, hb, hml, hown, hts⟩ (c_L_grind l hst (e0 := e0) (mi := mi) (D := D) (cy := cy) (c8 := c8) (c9 := c9) qo qd fo fd S _ o2 h_o2 y2 y4 y6 (hW)) (vx_cwSW 5 hts gL_law_L_grind rfl rfl rfl (by decide +kernel) ⟨Nat.le_of_ble_eq_true rfl, Nat.le_of_ble_eq_true rfl⟩) ⟨fun a U g mk q => ⟨q.1, q.2.1, q.2.2.1.calling, NW.same (u := U) (U := U.calling g mk a) rfl q.2.2.2.1, q.2.2.2.2.1.calling, q.2.2.2.2.2.1.calling, q.2.2.2.2.2.2.calling⟩, fun U hU hW => ⟨rfl, by rw [hU], wx_pre hP hKX hD hU hW, hN.warm hW, th_pre hTH hS hFc hU hW, ou_pre hOU hS hFc hU hW, hNC.moved hW.alike⟩⟩ rfl rfl hl.1 rfl (lv_room (Nat.le_of_ble_eq_true rfl)) dL_law_1892 ⟨by omega, by omega⟩) hS (fun q _ h => hFc q h) hFc (fun r7 u t H1 locs ht hvm hw hB hz1 hk1 hS => ?_)
  obtain ⟨S8, f9⟩ := u
  have w10 := hw
  obtain ⟨hP, hD⟩ := wx_post hFc ht hB
  generalize H1 = H at hP hS ⊢
  have w10 : stp [(2, 12), (2, 15), (2, 16), (2, 17)] [] [] S S8 := w10
  have v11 : IV S8 o1 := IV.keep w10 hW h_o1 (by decide) (by decide) hIV
  have v12 : MV S8 o1 := MV.keep w10 hW h_o1 (by decide) (by decide) hMV
  have v13 : (R55 o2) S8 o1 := R55.keep w10 hW h_o1 (by decide) (by decide) hR_R55
  have v14 : (R58 o2) S8 o1 := R58.keep w10 hW h_o1 (by decide) (by decide) hR_R58
  have v15 : (RLT o2) S8 o1 := RLT.keep w10 hW h_o1 (by decide) (by decide) hR_RLT
  have xe16 : ext S S8 := w10.x
  refine lv_istore (lv' := [(6, .int r7), (5, .int i), (4, .ref qd), (3, .ref qo), (2, .ref o1), (1, .ref o2), (0, .ref b)]) hx hb dL_law_1895 hl (by decide) rfl (fun ls hl => ?_)
  refine lv_aload_n hx hb dL_law_1897 rfl (lv_at hl 4 rfl) ?_
  refine lv_aload_n hx hb dL_law_1898 rfl (lv_at hl 6 rfl) ?_
  refine lv_iload hx hb dL_law_1899 (lv_at hl 1 rfl) ?_
  refine lv_iconst (v := 1) hx hb dL_law_1901 (by decide) ?_
  refine lv_iadd hx hb dL_law_1902 ?_
  refine va_sld hx hb hX hbl hbA hS (inb (m := L) rfl (by omega) (by omega)) dL_law_1903 ?_
  rw [ey2]
  refine lv_aload_n hx hb dL_law_1904 rfl (lv_at hl 6 rfl) ?_
  refine lv_iload hx hb dL_law_1905 (lv_at hl 1 rfl) ?_
  refine lv_iconst (v := 2) hx hb dL_law_1907 (by decide) ?_
  refine lv_iadd hx hb dL_law_1908 ?_
  refine va_sld hx hb hX hbl hbA hS (inb (m := L) rfl (by omega) (by omega)) dL_law_1909 ?_
  rw [ey4]
  refine lv_aload_n hx hb dL_law_1910 rfl (lv_at hl 6 rfl) ?_
  refine lv_iload hx hb dL_law_1911 (lv_at hl 1 rfl) ?_
  refine lv_iconst (v := 3) hx hb dL_law_1913 (by decide) ?_
  refine lv_iadd hx hb dL_law_1914 ?_
  refine va_sld hx hb hX hbl hbA hS (inb (m := L) rfl (by omega) (by omega)) dL_law_1915 ?_
  rw [ey6]
  have hFc := free_all hD hS hA
  obtain ⟨k18, gk18, hk18⟩ := wGt (cy := cy) (XO c8 c9 qo qd f9 fd) S8 (xe16.A h_o1).1 (xe16.A h_o1).2.1
  refine va_calli (va_runV (As := [.int y2, .int y4, .int y6]) (rest := []) ⟨hx, hb, hml, hown, hts⟩ (c_X12_grind l (cy := cy) (X := (XO c8 c9 qo qd f9 fd)) (D := D) S8 _ o1 (xe16.A h_o1) y2 y4 y6 (w10.w)) (cwV 3 hts gL_law_X12_grind rfl rfl rfl hd_X12_grind ⟨Nat.le_of_ble_eq_true rfl, Nat.le_of_ble_eq_true rfl⟩) ⟨fun a U g mk q => ⟨q.1, q.2.1, q.2.2.1.calling, NW.same (u := U) (U := U.calling g mk a) rfl q.2.2.2⟩, va_recv hK hP (q := (RX12, TX12, 34)) (ci := 16) (q0 := k18) rfl hk18, fun U hU hW => ⟨rfl, by rw [hU], wd_pre hP hK hD hU hW, hN.warm hW⟩⟩ rfl rfl hl.1 rfl (lv_room (Nat.le_of_ble_eq_true rfl)) dL_law_1916 ⟨by omega, by omega⟩) hS (fun q _ h => hFc q h) hFc (fun r17 u t H1 locs ht hvm hw hB hz1 hk1 hS => ?_)
  have w19 := hw
  obtain ⟨hP, hD⟩ := wd_post hFc ht hB
  generalize H1 = H at hP hS ⊢
  obtain ⟨S20, rfl⟩ : ∃ z, z = u := ⟨_, rfl⟩
  have v21 : IV S20 o1 := IV.keep w19 w10.w (xe16.A h_o1) (by decide) (by decide) v11
  have v22 : MV S20 o1 := MV.keep w19 w10.w (xe16.A h_o1) (by decide) (by decide) v12
  have v23 : (R55 o2) S20 o1 := R55.keep w19 w10.w (xe16.A h_o1) (by decide) (by decide) v13
  have v24 : (R58 o2) S20 o1 := R58.keep w19 w10.w (xe16.A h_o1) (by decide) (by decide) v14
  have v25 : (RLT o2) S20 o1 := RLT.keep w19 w10.w (xe16.A h_o1) (by decide) (by decide) v15
  have xe26 : ext S8 S20 := w19.x
  refine lv_istore (lv' := [(7, .int r17), (6, .int r7), (5, .int i), (4, .ref qd), (3, .ref qo), (2, .ref o1), (1, .ref o2), (0, .ref b)]) hx hb dL_law_1919 hl (by decide) rfl (fun ls hl => ?_)
  refine lv_goto (tgt := 2924) hx hb dL_law_1921 (by decide) ?_
  refine W.widen (k := cells + 40) (n := slots + 1200) (by omega) (by omega) ?_
  exact kk S20 f9 fd H _ ls ⟨hP, hD, w19.w, ((xe16.tr xe26).A h_o2), (xe26.A (xe16.A h_o1)), ((xe16.tr xe26).F h_o1 (by decide) h77), v22, v21, v23, v24, v25⟩ hS (lv_sub hl [2, 3, 4, 5, 6, 7] rfl)
set_option maxHeartbeats 4000000 in
set_option maxRecDepth 100000 in
theorem road_36 {p : Program} {l : Launch} {e : Env} {s : State} {m : MethodId} {below : List Frame} {meth : Method} {c : Code} {b L : Nat} {xs : Nat → Int32} {D : va_G} {cy : Nat → ClassId} {c8 c9 : ClassId} {e0 mi : Nat} {Q : State → Prop} {qo qd o1 o2 : Nat} (C0 : LC p l s m c b L xs D cy c8 c9 e0 mi) (hL9 : L ≤ 2560) {S : wPS} {fo : Nat → Int64} {fd : Nat → UInt64} {H : Heap} {locs : List Loc} {ls : Array Slot} {cells slots : Nat} {i : Int32} (hi : 0 ≤ i.toInt ∧ i.toInt + 5 ≤ L) (hI : LI D cy c8 c9 e0 (fun q => s.heap.size ≤ q) o1 o2 qo qd fo fd S H) (hS : va_S (fun q => s.heap.size ≤ q) s.heap H locs) (hc : cells + 40 ≤ room_1.cells) (hs : slots + 1200 ≤ room_1.slots) (hl : lv_has ls 9 [(5, .int i), (4, .ref qd), (3, .ref qo), (2, .ref o1), (1, .ref o2), (0, .ref b)]) (kk : ∀ (S2 : wPS) (fo2 : Nat → Int64) (fd2 : Nat → UInt64) (H2 : Heap) (locs2 : List Loc) (ls2 : Array Slot), LI D cy c8 c9 e0 (fun q => s.heap.size ≤ q) o1 o2 qo qd fo2 fd2 S2 H2 → va_S (fun q => s.heap.size ≤ q) s.heap H2 locs2 → lv_has ls2 9 [(5, .int i), (4, .ref qd), (3, .ref qo), (2, .ref o1), (1, .ref o2), (0, .ref b)] → W p l e room_1 s m #[Value.ref b] below meth c H2 locs2 (cells + 40) (slots + 1200) Q (F0 m 2924 ls2 [])) : W p l e room_1 s m #[Value.ref b] below meth c H locs cells slots Q (F0 m 1924 ls []) := by
  obtain ⟨hx, hb, hml, hown, hts, hX, hbl, hN, hTH, hOU, hKX, hst, hNC⟩ := id C0
  obtain ⟨hP, hD, hW, h_o2, h_o1, h77, hMV, hIV, hR_R55, hR_R58, hR_RLT⟩ := hI
  have hK := kX hKX
  have hA : ∀ q : Nat, s.heap.size ≤ q → (fun q : Nat => s.heap.size ≤ q) q := fun _ h => h
  have hbA : ¬ (fun q : Nat => s.heap.size ≤ q) b := Nat.not_le.mpr hbl
  refine lv_aload_n hx hb dL_law_1924 rfl (lv_at hl 4 rfl) ?_
  refine lv_aload_n hx hb dL_law_1925 rfl (lv_at hl 5 rfl) ?_
  refine lv_iload hx hb dL_law_1926 (lv_at hl 0 rfl) ?_
  refine lv_iconst (v := 1) hx hb dL_law_1928 (by decide) ?_
  refine lv_iadd hx hb dL_law_1929 ?_
  have l32_1 : (1 : Int32).toInt = 1 := rfl
  have i1 : (i + (1 : Int32)).toInt = i.toInt + 1 := t_addr (n := 1) rfl (by omega)
  refine va_sld hx hb hX hbl hbA hS (inb (m := L) rfl (by omega) (by omega)) dL_law_1930 ?_
  obtain ⟨y2, ey2⟩ : ∃ z : Int32, xs (i + (1 : Int32)).toNatClampNeg = z := ⟨_, rfl⟩
  rw [ey2]
  refine lv_aload_n hx hb dL_law_1931 rfl (lv_at hl 2 rfl) ?_
  have hFc := free_all hD hS hA
  refine va_calli (vx_runSW (As := [.ref o2, .int y2, .ref qo]) (rest := []) ⟨hx, hb, hml, hown, hts⟩ (c_L_stateOf l hst (e0 := e0) (mi := mi) (D := D) (cy := cy) (c8 := c8) (c9 := c9) qo qd fo fd S _ o2 h_o2 y2 (hW)) (vx_cwSW 3 hts gL_law_L_stateOf rfl rfl rfl (by decide +kernel) ⟨Nat.le_of_ble_eq_true rfl, Nat.le_of_ble_eq_true rfl⟩) ⟨fun a U g mk q => ⟨q.1, q.2.1, q.2.2.1.calling, NW.same (u := U) (U := U.calling g mk a) rfl q.2.2.2.1, q.2.2.2.2.1.calling, q.2.2.2.2.2.1.calling, q.2.2.2.2.2.2.calling⟩, fun U hU hW => ⟨rfl, by rw [hU], wx_pre hP hKX hD hU hW, hN.warm hW, th_pre hTH hS hFc hU hW, ou_pre hOU hS hFc hU hW, hNC.moved hW.alike⟩⟩ rfl rfl hl.1 rfl (lv_room (Nat.le_of_ble_eq_true rfl)) dL_law_1932 ⟨by omega, by omega⟩) hS (fun q _ h => hFc q h) hFc (fun r3 u t H1 locs ht hvm hw hB hz1 hk1 hS => ?_)
  obtain ⟨S4, f5⟩ := u
  have w6 := hw
  obtain ⟨hP, hD⟩ := wx_post hFc ht hB
  generalize H1 = H at hP hS ⊢
  have w6 : stp ([] : List (Nat × Nat)) [] [] S S4 := w6
  have v7 : IV S4 o1 := IV.keep w6 hW h_o1 (by decide) (by decide) hIV
  have v8 : MV S4 o1 := MV.keep w6 hW h_o1 (by decide) (by decide) hMV
  have v9 : (R55 o2) S4 o1 := R55.keep w6 hW h_o1 (by decide) (by decide) hR_R55
  have v10 : (R58 o2) S4 o1 := R58.keep w6 hW h_o1 (by decide) (by decide) hR_R58
  have v11 : (RLT o2) S4 o1 := RLT.keep w6 hW h_o1 (by decide) (by decide) hR_RLT
  have xe12 : ext S S4 := w6.x
  refine lv_istore (lv' := [(6, .int r3), (5, .int i), (4, .ref qd), (3, .ref qo), (2, .ref o1), (1, .ref o2), (0, .ref b)]) hx hb dL_law_1935 hl (by decide) rfl (fun ls hl => ?_)
  refine lv_aload_n hx hb dL_law_1937 rfl (lv_at hl 4 rfl) ?_
  refine lv_aload_n hx hb dL_law_1938 rfl (lv_at hl 6 rfl) ?_
  refine lv_iload hx hb dL_law_1939 (lv_at hl 1 rfl) ?_
  refine lv_iconst (v := 1) hx hb dL_law_1941 (by decide) ?_
  refine lv_iadd hx hb dL_law_1942 ?_
  refine va_sld hx hb hX hbl hbA hS (inb (m := L) rfl (by omega) (by omega)) dL_law_1943 ?_
  rw [ey2]
  have hFc := free_all hD hS hA
  obtain ⟨k14, gk14, hk14⟩ := wGt (cy := cy) (XO c8 c9 qo qd f5 fd) S4 (xe12.A h_o1).1 (xe12.A h_o1).2.1
  refine va_calli (va_runV (As := [.int y2]) (rest := []) ⟨hx, hb, hml, hown, hts⟩ (c_X12_stateOf l (cy := cy) (X := (XO c8 c9 qo qd f5 fd)) (D := D) S4 _ o1 (xe12.A h_o1) y2 (w6.w)) (cwV 1 hts gL_law_X12_stateOf rfl rfl rfl hd_X12_stateOf ⟨Nat.le_of_ble_eq_true rfl, Nat.le_of_ble_eq_true rfl⟩) ⟨fun a U g mk q => ⟨q.1, q.2.1, q.2.2.1.calling, NW.same (u := U) (U := U.calling g mk a) rfl q.2.2.2⟩, va_recv hK hP (q := (RX12, TX12, 34)) (ci := 16) (q0 := k14) rfl hk14, fun U hU hW => ⟨rfl, by rw [hU], wd_pre hP hK hD hU hW, hN.warm hW⟩⟩ rfl rfl hl.1 rfl (lv_room (Nat.le_of_ble_eq_true rfl)) dL_law_1944 ⟨by omega, by omega⟩) hS (fun q _ h => hFc q h) hFc (fun r13 u t H1 locs ht hvm hw hB hz1 hk1 hS => ?_)
  obtain ⟨w15, y16⟩ := hw
  obtain ⟨hP, hD⟩ := wd_post hFc ht hB
  generalize H1 = H at hP hS ⊢
  obtain ⟨S17, rfl⟩ : ∃ z, z = u := ⟨_, rfl⟩
  have v18 : IV S17 o1 := IV.keep w15 w6.w (xe12.A h_o1) (by decide) (by decide) v7
  have v19 : MV S17 o1 := MV.keep w15 w6.w (xe12.A h_o1) (by decide) (by decide) v8
  have v20 : (R55 o2) S17 o1 := R55.keep w15 w6.w (xe12.A h_o1) (by decide) (by decide) v9
  have v21 : (R58 o2) S17 o1 := R58.keep w15 w6.w (xe12.A h_o1) (by decide) (by decide) v10
  have v22 : (RLT o2) S17 o1 := RLT.keep w15 w6.w (xe12.A h_o1) (by decide) (by decide) v11
  have xe23 : ext S4 S17 := w15.x
  refine lv_istore (lv' := [(7, .int r13), (6, .int r3), (5, .int i), (4, .ref qd), (3, .ref qo), (2, .ref o1), (1, .ref o2), (0, .ref b)]) hx hb dL_law_1947 hl (by decide) rfl (fun ls hl => ?_)
  refine lv_goto (tgt := 2924) hx hb dL_law_1949 (by decide) ?_
  refine W.widen (k := cells + 40) (n := slots + 1200) (by omega) (by omega) ?_
  exact kk S17 f5 fd H _ ls ⟨hP, hD, w15.w, ((xe12.tr xe23).A h_o2), (xe23.A (xe12.A h_o1)), ((xe12.tr xe23).F h_o1 (by decide) h77), v19, v18, v20, v21, v22⟩ hS (lv_sub hl [2, 3, 4, 5, 6, 7] rfl)
set_option maxHeartbeats 4000000 in
set_option maxRecDepth 100000 in
theorem road_37 {p : Program} {l : Launch} {e : Env} {s : State} {m : MethodId} {below : List Frame} {meth : Method} {c : Code} {b L : Nat} {xs : Nat → Int32} {D : va_G} {cy : Nat → ClassId} {c8 c9 : ClassId} {e0 mi : Nat} {Q : State → Prop} {qo qd o1 o2 : Nat} (C0 : LC p l s m c b L xs D cy c8 c9 e0 mi) (hL9 : L ≤ 2560) {S : wPS} {fo : Nat → Int64} {fd : Nat → UInt64} {H : Heap} {locs : List Loc} {ls : Array Slot} {cells slots : Nat} {i : Int32} (hi : 0 ≤ i.toInt ∧ i.toInt + 5 ≤ L) (hI : LI D cy c8 c9 e0 (fun q => s.heap.size ≤ q) o1 o2 qo qd fo fd S H) (hS : va_S (fun q => s.heap.size ≤ q) s.heap H locs) (hc : cells + 40 ≤ room_1.cells) (hs : slots + 1200 ≤ room_1.slots) (hl : lv_has ls 9 [(5, .int i), (4, .ref qd), (3, .ref qo), (2, .ref o1), (1, .ref o2), (0, .ref b)]) (kk : ∀ (S2 : wPS) (fo2 : Nat → Int64) (fd2 : Nat → UInt64) (H2 : Heap) (locs2 : List Loc) (ls2 : Array Slot), LI D cy c8 c9 e0 (fun q => s.heap.size ≤ q) o1 o2 qo qd fo2 fd2 S2 H2 → va_S (fun q => s.heap.size ≤ q) s.heap H2 locs2 → lv_has ls2 9 [(5, .int i), (4, .ref qd), (3, .ref qo), (2, .ref o1), (1, .ref o2), (0, .ref b)] → W p l e room_1 s m #[Value.ref b] below meth c H2 locs2 (cells + 40) (slots + 1200) Q (F0 m 2924 ls2 [])) : W p l e room_1 s m #[Value.ref b] below meth c H locs cells slots Q (F0 m 1952 ls []) := by
  obtain ⟨hx, hb, hml, hown, hts, hX, hbl, hN, hTH, hOU, hKX, hst, hNC⟩ := id C0
  obtain ⟨hP, hD, hW, h_o2, h_o1, h77, hMV, hIV, hR_R55, hR_R58, hR_RLT⟩ := hI
  have hK := kX hKX
  have hA : ∀ q : Nat, s.heap.size ≤ q → (fun q : Nat => s.heap.size ≤ q) q := fun _ h => h
  have hbA : ¬ (fun q : Nat => s.heap.size ≤ q) b := Nat.not_le.mpr hbl
  refine lv_aload_n hx hb dL_law_1952 rfl (lv_at hl 4 rfl) ?_
  refine lv_aload_n hx hb dL_law_1953 rfl (lv_at hl 5 rfl) ?_
  refine lv_iload hx hb dL_law_1954 (lv_at hl 0 rfl) ?_
  refine lv_iconst (v := 1) hx hb dL_law_1956 (by decide) ?_
  refine lv_iadd hx hb dL_law_1957 ?_
  have l32_1 : (1 : Int32).toInt = 1 := rfl
  have i1 : (i + (1 : Int32)).toInt = i.toInt + 1 := t_addr (n := 1) rfl (by omega)
  refine va_sld hx hb hX hbl hbA hS (inb (m := L) rfl (by omega) (by omega)) dL_law_1958 ?_
  obtain ⟨y2, ey2⟩ : ∃ z : Int32, xs (i + (1 : Int32)).toNatClampNeg = z := ⟨_, rfl⟩
  rw [ey2]
  refine lv_aload_n hx hb dL_law_1959 rfl (lv_at hl 5 rfl) ?_
  refine lv_iload hx hb dL_law_1960 (lv_at hl 0 rfl) ?_
  refine lv_iconst (v := 2) hx hb dL_law_1962 (by decide) ?_
  refine lv_iadd hx hb dL_law_1963 ?_
  have l32_2 : (2 : Int32).toInt = 2 := rfl
  have i3 : (i + (2 : Int32)).toInt = i.toInt + 2 := t_addr (n := 2) rfl (by omega)
  refine va_sld hx hb hX hbl hbA hS (inb (m := L) rfl (by omega) (by omega)) dL_law_1964 ?_
  obtain ⟨y4, ey4⟩ : ∃ z : Int32, xs (i + (2 : Int32)).toNatClampNeg = z := ⟨_, rfl⟩
  rw [ey4]
  refine lv_aload_n hx hb dL_law_1965 rfl (lv_at hl 5 rfl) ?_
  refine lv_iload hx hb dL_law_1966 (lv_at hl 0 rfl) ?_
  refine lv_iconst (v := 3) hx hb dL_law_1968 (by decide) ?_
  refine lv_iadd hx hb dL_law_1969 ?_
  have l32_3 : (3 : Int32).toInt = 3 := rfl
  have i5 : (i + (3 : Int32)).toInt = i.toInt + 3 := t_addr (n := 3) rfl (by omega)
  refine va_sld hx hb hX hbl hbA hS (inb (m := L) rfl (by omega) (by omega)) dL_law_1970 ?_
  obtain ⟨y6, ey6⟩ : ∃ z : Int32, xs (i + (3 : Int32)).toNatClampNeg = z := ⟨_, rfl⟩
  rw [ey6]
  refine lv_aload_n hx hb dL_law_1971 rfl (lv_at hl 2 rfl) ?_
  have hFc := free_all hD hS hA
  refine va_calli (vx_runSW (As := [.ref o2, .int y2, .int y4, .int y6, .ref qo]) (rest := []) ⟨hx, hb, hml, hown, hts⟩ (c_L_chart l hst (e0 := e0) (mi := mi) (D := D) (cy := cy) (c8 := c8) (c9 := c9) qo qd fo fd S _ o2 h_o2 y2 y4 y6 (hW)) (vx_cwSW 5 hts gL_law_L_chart rfl rfl rfl (by decide +kernel) ⟨Nat.le_of_ble_eq_true rfl, Nat.le_of_ble_eq_true rfl⟩) ⟨fun a U g mk q => ⟨q.1, q.2.1, q.2.2.1.calling, NW.same (u := U) (U := U.calling g mk a) rfl q.2.2.2.1, q.2.2.2.2.1.calling, q.2.2.2.2.2.1.calling, q.2.2.2.2.2.2.calling⟩, fun U hU hW => ⟨rfl, by rw [hU], wx_pre hP hKX hD hU hW, hN.warm hW, th_pre hTH hS hFc hU hW, ou_pre hOU hS hFc hU hW, hNC.moved hW.alike⟩⟩ rfl rfl hl.1 rfl (lv_room (Nat.le_of_ble_eq_true rfl)) dL_law_1972 ⟨by omega, by omega⟩) hS (fun q _ h => hFc q h) hFc (fun r7 u t H1 locs ht hvm hw hB hz1 hk1 hS => ?_)
  obtain ⟨S8, f9⟩ := u
  have w10 := hw
  obtain ⟨hP, hD⟩ := wx_post hFc ht hB
  generalize H1 = H at hP hS ⊢
  have w10 : stp [(1, 2), (25, 100), (26, 100)] [] [] S S8 := w10
  have v11 : IV S8 o1 := IV.keep w10 hW h_o1 (by decide) (by decide) hIV
  have v12 : MV S8 o1 := MV.keep w10 hW h_o1 (by decide) (by decide) hMV
  have v13 : (R55 o2) S8 o1 := R55.keep w10 hW h_o1 (by decide) (by decide) hR_R55
  have v14 : (R58 o2) S8 o1 := R58.keep w10 hW h_o1 (by decide) (by decide) hR_R58
  have v15 : (RLT o2) S8 o1 := RLT.keep w10 hW h_o1 (by decide) (by decide) hR_RLT
  have xe16 : ext S S8 := w10.x
  refine lv_istore (lv' := [(6, .int r7), (5, .int i), (4, .ref qd), (3, .ref qo), (2, .ref o1), (1, .ref o2), (0, .ref b)]) hx hb dL_law_1975 hl (by decide) rfl (fun ls hl => ?_)
  refine lv_aload_n hx hb dL_law_1977 rfl (lv_at hl 4 rfl) ?_
  refine lv_aload_n hx hb dL_law_1978 rfl (lv_at hl 6 rfl) ?_
  refine lv_iload hx hb dL_law_1979 (lv_at hl 1 rfl) ?_
  refine lv_iconst (v := 1) hx hb dL_law_1981 (by decide) ?_
  refine lv_iadd hx hb dL_law_1982 ?_
  refine va_sld hx hb hX hbl hbA hS (inb (m := L) rfl (by omega) (by omega)) dL_law_1983 ?_
  rw [ey2]
  refine lv_aload_n hx hb dL_law_1984 rfl (lv_at hl 6 rfl) ?_
  refine lv_iload hx hb dL_law_1985 (lv_at hl 1 rfl) ?_
  refine lv_iconst (v := 2) hx hb dL_law_1987 (by decide) ?_
  refine lv_iadd hx hb dL_law_1988 ?_
  refine va_sld hx hb hX hbl hbA hS (inb (m := L) rfl (by omega) (by omega)) dL_law_1989 ?_
  rw [ey4]
  refine lv_aload_n hx hb dL_law_1990 rfl (lv_at hl 6 rfl) ?_
  refine lv_iload hx hb dL_law_1991 (lv_at hl 1 rfl) ?_
  refine lv_iconst (v := 3) hx hb dL_law_1993 (by decide) ?_
  refine lv_iadd hx hb dL_law_1994 ?_
  refine va_sld hx hb hX hbl hbA hS (inb (m := L) rfl (by omega) (by omega)) dL_law_1995 ?_
  rw [ey6]
  have hFc := free_all hD hS hA
  obtain ⟨k18, gk18, hk18⟩ := wGt (cy := cy) (XO c8 c9 qo qd f9 fd) S8 (xe16.A h_o1).1 (xe16.A h_o1).2.1
  refine va_calli (va_runV (As := [.int y2, .int y4, .int y6]) (rest := []) ⟨hx, hb, hml, hown, hts⟩ (c_X12_chart l (cy := cy) (X := (XO c8 c9 qo qd f9 fd)) (D := D) S8 _ o1 (xe16.A h_o1) y2 y4 y6 (w10.w)) (cwV 3 hts gL_law_X12_chart rfl rfl rfl hd_X12_chart ⟨Nat.le_of_ble_eq_true rfl, Nat.le_of_ble_eq_true rfl⟩) ⟨fun a U g mk q => ⟨q.1, q.2.1, q.2.2.1.calling, NW.same (u := U) (U := U.calling g mk a) rfl q.2.2.2⟩, va_recv hK hP (q := (RX12, TX12, 34)) (ci := 16) (q0 := k18) rfl hk18, fun U hU hW => ⟨rfl, by rw [hU], wd_pre hP hK hD hU hW, hN.warm hW⟩⟩ rfl rfl hl.1 rfl (lv_room (Nat.le_of_ble_eq_true rfl)) dL_law_1996 ⟨by omega, by omega⟩) hS (fun q _ h => hFc q h) hFc (fun r17 u t H1 locs ht hvm hw hB hz1 hk1 hS => ?_)
  have w19 := hw
  obtain ⟨hP, hD⟩ := wd_post hFc ht hB
  generalize H1 = H at hP hS ⊢
  obtain ⟨S20, rfl⟩ : ∃ z, z = u := ⟨_, rfl⟩
  have v21 : IV S20 o1 := IV.keep w19 w10.w (xe16.A h_o1) (by decide) (by decide) v11
  have v22 : MV S20 o1 := MV.keep w19 w10.w (xe16.A h_o1) (by decide) (by decide) v12
  have v23 : (R55 o2) S20 o1 := R55.keep w19 w10.w (xe16.A h_o1) (by decide) (by decide) v13
  have v24 : (R58 o2) S20 o1 := R58.keep w19 w10.w (xe16.A h_o1) (by decide) (by decide) v14
  have v25 : (RLT o2) S20 o1 := RLT.keep w19 w10.w (xe16.A h_o1) (by decide) (by decide) v15
  have xe26 : ext S8 S20 := w19.x
  refine lv_istore (lv' := [(7, .int r17), (6, .int r7), (5, .int i), (4, .ref qd), (3, .ref qo), (2, .ref o1), (1, .ref o2), (0, .ref b)]) hx hb dL_law_1999 hl (by decide) rfl (fun ls hl => ?_)
  refine lv_goto (tgt := 2924) hx hb dL_law_2001 (by decide) ?_
  refine W.widen (k := cells + 40) (n := slots + 1200) (by omega) (by omega) ?_
  exact kk S20 f9 fd H _ ls ⟨hP, hD, w19.w, ((xe16.tr xe26).A h_o2), (xe26.A (xe16.A h_o1)), ((xe16.tr xe26).F h_o1 (by decide) h77), v22, v21, v23, v24, v25⟩ hS (lv_sub hl [2, 3, 4, 5, 6, 7] rfl)
set_option maxHeartbeats 4000000 in
set_option maxRecDepth 100000 in
theorem road_38 {p : Program} {l : Launch} {e : Env} {s : State} {m : MethodId} {below : List Frame} {meth : Method} {c : Code} {b L : Nat} {xs : Nat → Int32} {D : va_G} {cy : Nat → ClassId} {c8 c9 : ClassId} {e0 mi : Nat} {Q : State → Prop} {qo qd o1 o2 : Nat} (C0 : LC p l s m c b L xs D cy c8 c9 e0 mi) (hL9 : L ≤ 2560) {S : wPS} {fo : Nat → Int64} {fd : Nat → UInt64} {H : Heap} {locs : List Loc} {ls : Array Slot} {cells slots : Nat} {i : Int32} (hi : 0 ≤ i.toInt ∧ i.toInt + 5 ≤ L) (hI : LI D cy c8 c9 e0 (fun q => s.heap.size ≤ q) o1 o2 qo qd fo fd S H) (hS : va_S (fun q => s.heap.size ≤ q) s.heap H locs) (hc : cells + 40 ≤ room_1.cells) (hs : slots + 1200 ≤ room_1.slots) (hl : lv_has ls 9 [(5, .int i), (4, .ref qd), (3, .ref qo), (2, .ref o1), (1, .ref o2), (0, .ref b)]) (kk : ∀ (S2 : wPS) (fo2 : Nat → Int64) (fd2 : Nat → UInt64) (H2 : Heap) (locs2 : List Loc) (ls2 : Array Slot), LI D cy c8 c9 e0 (fun q => s.heap.size ≤ q) o1 o2 qo qd fo2 fd2 S2 H2 → va_S (fun q => s.heap.size ≤ q) s.heap H2 locs2 → lv_has ls2 9 [(5, .int i), (4, .ref qd), (3, .ref qo), (2, .ref o1), (1, .ref o2), (0, .ref b)] → W p l e room_1 s m #[Value.ref b] below meth c H2 locs2 (cells + 40) (slots + 1200) Q (F0 m 2924 ls2 [])) : W p l e room_1 s m #[Value.ref b] below meth c H locs cells slots Q (F0 m 2004 ls []) := by
  obtain ⟨hx, hb, hml, hown, hts, hX, hbl, hN, hTH, hOU, hKX, hst, hNC⟩ := id C0
  obtain ⟨hP, hD, hW, h_o2, h_o1, h77, hMV, hIV, hR_R55, hR_R58, hR_RLT⟩ := hI
  have hK := kX hKX
  have hA : ∀ q : Nat, s.heap.size ≤ q → (fun q : Nat => s.heap.size ≤ q) q := fun _ h => h
  have hbA : ¬ (fun q : Nat => s.heap.size ≤ q) b := Nat.not_le.mpr hbl
  refine lv_aload_n hx hb dL_law_2004 rfl (lv_at hl 4 rfl) ?_
  refine lv_aload_n hx hb dL_law_2005 rfl (lv_at hl 5 rfl) ?_
  refine lv_iload hx hb dL_law_2006 (lv_at hl 0 rfl) ?_
  refine lv_iconst (v := 1) hx hb dL_law_2008 (by decide) ?_
  refine lv_iadd hx hb dL_law_2009 ?_
  have l32_1 : (1 : Int32).toInt = 1 := rfl
  have i1 : (i + (1 : Int32)).toInt = i.toInt + 1 := t_addr (n := 1) rfl (by omega)
  refine va_sld hx hb hX hbl hbA hS (inb (m := L) rfl (by omega) (by omega)) dL_law_2010 ?_
  obtain ⟨y2, ey2⟩ : ∃ z : Int32, xs (i + (1 : Int32)).toNatClampNeg = z := ⟨_, rfl⟩
  rw [ey2]
  refine lv_aload_n hx hb dL_law_2011 rfl (lv_at hl 2 rfl) ?_
  have hFc := free_all hD hS hA
  refine va_calli (vx_runSW (As := [.ref o2, .int y2, .ref qo]) (rest := []) ⟨hx, hb, hml, hown, hts⟩ (c_L_total l hst (e0 := e0) (mi := mi) (D := D) (cy := cy) (c8 := c8) (c9 := c9) qo qd fo fd S _ o2 h_o2 y2 (hW)) (vx_cwSW 3 hts gL_law_L_total rfl rfl rfl (by decide +kernel) ⟨Nat.le_of_ble_eq_true rfl, Nat.le_of_ble_eq_true rfl⟩) ⟨fun a U g mk q => ⟨q.1, q.2.1, q.2.2.1.calling, NW.same (u := U) (U := U.calling g mk a) rfl q.2.2.2.1, q.2.2.2.2.1.calling, q.2.2.2.2.2.1.calling, q.2.2.2.2.2.2.calling⟩, fun U hU hW => ⟨rfl, by rw [hU], wx_pre hP hKX hD hU hW, hN.warm hW, th_pre hTH hS hFc hU hW, ou_pre hOU hS hFc hU hW, hNC.moved hW.alike⟩⟩ rfl rfl hl.1 rfl (lv_room (Nat.le_of_ble_eq_true rfl)) dL_law_2012 ⟨by omega, by omega⟩) hS (fun q _ h => hFc q h) hFc (fun r3 u t H1 locs ht hvm hw hB hz1 hk1 hS => ?_)
  obtain ⟨S4, f5⟩ := u
  have w6 := hw
  obtain ⟨hP, hD⟩ := wx_post hFc ht hB
  generalize H1 = H at hP hS ⊢
  have w6 : stp ([] : List (Nat × Nat)) [] [] S S4 := w6
  have v7 : IV S4 o1 := IV.keep w6 hW h_o1 (by decide) (by decide) hIV
  have v8 : MV S4 o1 := MV.keep w6 hW h_o1 (by decide) (by decide) hMV
  have v9 : (R55 o2) S4 o1 := R55.keep w6 hW h_o1 (by decide) (by decide) hR_R55
  have v10 : (R58 o2) S4 o1 := R58.keep w6 hW h_o1 (by decide) (by decide) hR_R58
  have v11 : (RLT o2) S4 o1 := RLT.keep w6 hW h_o1 (by decide) (by decide) hR_RLT
  have xe12 : ext S S4 := w6.x
  refine lv_istore (lv' := [(6, .int r3), (5, .int i), (4, .ref qd), (3, .ref qo), (2, .ref o1), (1, .ref o2), (0, .ref b)]) hx hb dL_law_2015 hl (by decide) rfl (fun ls hl => ?_)
  refine lv_aload_n hx hb dL_law_2017 rfl (lv_at hl 4 rfl) ?_
  refine lv_aload_n hx hb dL_law_2018 rfl (lv_at hl 6 rfl) ?_
  refine lv_iload hx hb dL_law_2019 (lv_at hl 1 rfl) ?_
  refine lv_iconst (v := 1) hx hb dL_law_2021 (by decide) ?_
  refine lv_iadd hx hb dL_law_2022 ?_
  refine va_sld hx hb hX hbl hbA hS (inb (m := L) rfl (by omega) (by omega)) dL_law_2023 ?_
  rw [ey2]
  have hFc := free_all hD hS hA
  obtain ⟨k14, gk14, hk14⟩ := wGt (cy := cy) (XO c8 c9 qo qd f5 fd) S4 (xe12.A h_o1).1 (xe12.A h_o1).2.1
  refine va_calli (va_runV (As := [.int y2]) (rest := []) ⟨hx, hb, hml, hown, hts⟩ (c_X12_total l (cy := cy) (X := (XO c8 c9 qo qd f5 fd)) (D := D) S4 _ o1 (xe12.A h_o1) y2 (w6.w)) (cwV 1 hts gL_law_X12_total rfl rfl rfl hd_X12_total ⟨Nat.le_of_ble_eq_true rfl, Nat.le_of_ble_eq_true rfl⟩) ⟨fun a U g mk q => ⟨q.1, q.2.1, q.2.2.1.calling, NW.same (u := U) (U := U.calling g mk a) rfl q.2.2.2⟩, va_recv hK hP (q := (RX12, TX12, 34)) (ci := 16) (q0 := k14) rfl hk14, fun U hU hW => ⟨rfl, by rw [hU], wd_pre hP hK hD hU hW, hN.warm hW⟩⟩ rfl rfl hl.1 rfl (lv_room (Nat.le_of_ble_eq_true rfl)) dL_law_2024 ⟨by omega, by omega⟩) hS (fun q _ h => hFc q h) hFc (fun r13 u t H1 locs ht hvm hw hB hz1 hk1 hS => ?_)
  have w15 := hw
  obtain ⟨hP, hD⟩ := wd_post hFc ht hB
  generalize H1 = H at hP hS ⊢
  obtain ⟨S16, rfl⟩ : ∃ z, z = u := ⟨_, rfl⟩
  have v17 : IV S16 o1 := IV.keep w15 w6.w (xe12.A h_o1) (by decide) (by decide) v7
  have v18 : MV S16 o1 := MV.keep w15 w6.w (xe12.A h_o1) (by decide) (by decide) v8
  have v19 : (R55 o2) S16 o1 := R55.keep w15 w6.w (xe12.A h_o1) (by decide) (by decide) v9
  have v20 : (R58 o2) S16 o1 := R58.keep w15 w6.w (xe12.A h_o1) (by decide) (by decide) v10
  have v21 : (RLT o2) S16 o1 := RLT.keep w15 w6.w (xe12.A h_o1) (by decide) (by decide) v11
  have xe22 : ext S4 S16 := w15.x
  refine lv_istore (lv' := [(7, .int r13), (6, .int r3), (5, .int i), (4, .ref qd), (3, .ref qo), (2, .ref o1), (1, .ref o2), (0, .ref b)]) hx hb dL_law_2027 hl (by decide) rfl (fun ls hl => ?_)
  refine lv_goto (tgt := 2924) hx hb dL_law_2029 (by decide) ?_
  refine W.widen (k := cells + 40) (n := slots + 1200) (by omega) (by omega) ?_
  exact kk S16 f5 fd H _ ls ⟨hP, hD, w15.w, ((xe12.tr xe22).A h_o2), (xe22.A (xe12.A h_o1)), ((xe12.tr xe22).F h_o1 (by decide) h77), v18, v17, v19, v20, v21⟩ hS (lv_sub hl [2, 3, 4, 5, 6, 7] rfl)
set_option maxHeartbeats 4000000 in
set_option maxRecDepth 100000 in
theorem road_39 {p : Program} {l : Launch} {e : Env} {s : State} {m : MethodId} {below : List Frame} {meth : Method} {c : Code} {b L : Nat} {xs : Nat → Int32} {D : va_G} {cy : Nat → ClassId} {c8 c9 : ClassId} {e0 mi : Nat} {Q : State → Prop} {qo qd o1 o2 : Nat} (C0 : LC p l s m c b L xs D cy c8 c9 e0 mi) (hL9 : L ≤ 2560) {S : wPS} {fo : Nat → Int64} {fd : Nat → UInt64} {H : Heap} {locs : List Loc} {ls : Array Slot} {cells slots : Nat} {i : Int32} (hi : 0 ≤ i.toInt ∧ i.toInt + 5 ≤ L) (hI : LI D cy c8 c9 e0 (fun q => s.heap.size ≤ q) o1 o2 qo qd fo fd S H) (hS : va_S (fun q => s.heap.size ≤ q) s.heap H locs) (hc : cells + 40 ≤ room_1.cells) (hs : slots + 1200 ≤ room_1.slots) (hl : lv_has ls 9 [(5, .int i), (4, .ref qd), (3, .ref qo), (2, .ref o1), (1, .ref o2), (0, .ref b)]) (kk : ∀ (S2 : wPS) (fo2 : Nat → Int64) (fd2 : Nat → UInt64) (H2 : Heap) (locs2 : List Loc) (ls2 : Array Slot), LI D cy c8 c9 e0 (fun q => s.heap.size ≤ q) o1 o2 qo qd fo2 fd2 S2 H2 → va_S (fun q => s.heap.size ≤ q) s.heap H2 locs2 → lv_has ls2 9 [(5, .int i), (4, .ref qd), (3, .ref qo), (2, .ref o1), (1, .ref o2), (0, .ref b)] → W p l e room_1 s m #[Value.ref b] below meth c H2 locs2 (cells + 40) (slots + 1200) Q (F0 m 2924 ls2 [])) : W p l e room_1 s m #[Value.ref b] below meth c H locs cells slots Q (F0 m 2032 ls []) := by
  obtain ⟨hx, hb, hml, hown, hts, hX, hbl, hN, hTH, hOU, hKX, hst, hNC⟩ := id C0
  obtain ⟨hP, hD, hW, h_o2, h_o1, h77, hMV, hIV, hR_R55, hR_R58, hR_RLT⟩ := hI
  have hK := kX hKX
  have hA : ∀ q : Nat, s.heap.size ≤ q → (fun q : Nat => s.heap.size ≤ q) q := fun _ h => h
  have hbA : ¬ (fun q : Nat => s.heap.size ≤ q) b := Nat.not_le.mpr hbl
  refine lv_aload_n hx hb dL_law_2032 rfl (lv_at hl 4 rfl) ?_
  refine lv_aload_n hx hb dL_law_2033 rfl (lv_at hl 5 rfl) ?_
  refine lv_iload hx hb dL_law_2034 (lv_at hl 0 rfl) ?_
  refine lv_iconst (v := 1) hx hb dL_law_2036 (by decide) ?_
  refine lv_iadd hx hb dL_law_2037 ?_
  have l32_1 : (1 : Int32).toInt = 1 := rfl
  have i1 : (i + (1 : Int32)).toInt = i.toInt + 1 := t_addr (n := 1) rfl (by omega)
  refine va_sld hx hb hX hbl hbA hS (inb (m := L) rfl (by omega) (by omega)) dL_law_2038 ?_
  obtain ⟨y2, ey2⟩ : ∃ z : Int32, xs (i + (1 : Int32)).toNatClampNeg = z := ⟨_, rfl⟩
  rw [ey2]
  refine lv_aload_n hx hb dL_law_2039 rfl (lv_at hl 2 rfl) ?_
  have hFc := free_all hD hS hA
  refine va_calli (vx_runSW (As := [.ref o2, .int y2, .ref qo]) (rest := []) ⟨hx, hb, hml, hown, hts⟩ (c_L_grade l hst (e0 := e0) (mi := mi) (D := D) (cy := cy) (c8 := c8) (c9 := c9) qo qd fo fd S _ o2 h_o2 y2 (hW)) (vx_cwSW 3 hts gL_law_L_grade rfl rfl rfl (by decide +kernel) ⟨Nat.le_of_ble_eq_true rfl, Nat.le_of_ble_eq_true rfl⟩) ⟨fun a U g mk q => ⟨q.1, q.2.1, q.2.2.1.calling, NW.same (u := U) (U := U.calling g mk a) rfl q.2.2.2.1, q.2.2.2.2.1.calling, q.2.2.2.2.2.1.calling, q.2.2.2.2.2.2.calling⟩, fun U hU hW => ⟨rfl, by rw [hU], wx_pre hP hKX hD hU hW, hN.warm hW, th_pre hTH hS hFc hU hW, ou_pre hOU hS hFc hU hW, hNC.moved hW.alike⟩⟩ rfl rfl hl.1 rfl (lv_room (Nat.le_of_ble_eq_true rfl)) dL_law_2040 ⟨by omega, by omega⟩) hS (fun q _ h => hFc q h) hFc (fun r3 u t H1 locs ht hvm hw hB hz1 hk1 hS => ?_)
  obtain ⟨S4, f5⟩ := u
  have w6 := hw
  obtain ⟨hP, hD⟩ := wx_post hFc ht hB
  generalize H1 = H at hP hS ⊢
  have w6 : stp ([] : List (Nat × Nat)) [] [] S S4 := w6
  have v7 : IV S4 o1 := IV.keep w6 hW h_o1 (by decide) (by decide) hIV
  have v8 : MV S4 o1 := MV.keep w6 hW h_o1 (by decide) (by decide) hMV
  have v9 : (R55 o2) S4 o1 := R55.keep w6 hW h_o1 (by decide) (by decide) hR_R55
  have v10 : (R58 o2) S4 o1 := R58.keep w6 hW h_o1 (by decide) (by decide) hR_R58
  have v11 : (RLT o2) S4 o1 := RLT.keep w6 hW h_o1 (by decide) (by decide) hR_RLT
  have xe12 : ext S S4 := w6.x
  refine lv_istore (lv' := [(6, .int r3), (5, .int i), (4, .ref qd), (3, .ref qo), (2, .ref o1), (1, .ref o2), (0, .ref b)]) hx hb dL_law_2043 hl (by decide) rfl (fun ls hl => ?_)
  refine lv_aload_n hx hb dL_law_2045 rfl (lv_at hl 4 rfl) ?_
  refine lv_aload_n hx hb dL_law_2046 rfl (lv_at hl 6 rfl) ?_
  refine lv_iload hx hb dL_law_2047 (lv_at hl 1 rfl) ?_
  refine lv_iconst (v := 1) hx hb dL_law_2049 (by decide) ?_
  refine lv_iadd hx hb dL_law_2050 ?_
  refine va_sld hx hb hX hbl hbA hS (inb (m := L) rfl (by omega) (by omega)) dL_law_2051 ?_
  rw [ey2]
  have hFc := free_all hD hS hA
  obtain ⟨k14, gk14, hk14⟩ := wGt (cy := cy) (XO c8 c9 qo qd f5 fd) S4 (xe12.A h_o1).1 (xe12.A h_o1).2.1
  refine va_calli (va_runV (As := [.int y2]) (rest := []) ⟨hx, hb, hml, hown, hts⟩ (c_X12_grade l (cy := cy) (X := (XO c8 c9 qo qd f5 fd)) (D := D) S4 _ o1 (xe12.A h_o1) y2 (w6.w)) (cwV 1 hts gL_law_X12_grade rfl rfl rfl hd_X12_grade ⟨Nat.le_of_ble_eq_true rfl, Nat.le_of_ble_eq_true rfl⟩) ⟨fun a U g mk q => ⟨q.1, q.2.1, q.2.2.1.calling, NW.same (u := U) (U := U.calling g mk a) rfl q.2.2.2⟩, va_recv hK hP (q := (RX12, TX12, 34)) (ci := 16) (q0 := k14) rfl hk14, fun U hU hW => ⟨rfl, by rw [hU], wd_pre hP hK hD hU hW, hN.warm hW⟩⟩ rfl rfl hl.1 rfl (lv_room (Nat.le_of_ble_eq_true rfl)) dL_law_2052 ⟨by omega, by omega⟩) hS (fun q _ h => hFc q h) hFc (fun r13 u t H1 locs ht hvm hw hB hz1 hk1 hS => ?_)
  have w15 := hw
  obtain ⟨hP, hD⟩ := wd_post hFc ht hB
  generalize H1 = H at hP hS ⊢
  obtain ⟨S16, rfl⟩ : ∃ z, z = u := ⟨_, rfl⟩
  have v17 : IV S16 o1 := IV.keep w15 w6.w (xe12.A h_o1) (by decide) (by decide) v7
  have v18 : MV S16 o1 := MV.keep w15 w6.w (xe12.A h_o1) (by decide) (by decide) v8
  have v19 : (R55 o2) S16 o1 := R55.keep w15 w6.w (xe12.A h_o1) (by decide) (by decide) v9
  have v20 : (R58 o2) S16 o1 := R58.keep w15 w6.w (xe12.A h_o1) (by decide) (by decide) v10
  have v21 : (RLT o2) S16 o1 := RLT.keep w15 w6.w (xe12.A h_o1) (by decide) (by decide) v11
  have xe22 : ext S4 S16 := w15.x
  refine lv_istore (lv' := [(7, .int r13), (6, .int r3), (5, .int i), (4, .ref qd), (3, .ref qo), (2, .ref o1), (1, .ref o2), (0, .ref b)]) hx hb dL_law_2055 hl (by decide) rfl (fun ls hl => ?_)
  refine lv_goto (tgt := 2924) hx hb dL_law_2057 (by decide) ?_
  refine W.widen (k := cells + 40) (n := slots + 1200) (by omega) (by omega) ?_
  exact kk S16 f5 fd H _ ls ⟨hP, hD, w15.w, ((xe12.tr xe22).A h_o2), (xe22.A (xe12.A h_o1)), ((xe12.tr xe22).F h_o1 (by decide) h77), v18, v17, v19, v20, v21⟩ hS (lv_sub hl [2, 3, 4, 5, 6, 7] rfl)
set_option maxHeartbeats 4000000 in
set_option maxRecDepth 100000 in
theorem road_40 {p : Program} {l : Launch} {e : Env} {s : State} {m : MethodId} {below : List Frame} {meth : Method} {c : Code} {b L : Nat} {xs : Nat → Int32} {D : va_G} {cy : Nat → ClassId} {c8 c9 : ClassId} {e0 mi : Nat} {Q : State → Prop} {qo qd o1 o2 : Nat} (C0 : LC p l s m c b L xs D cy c8 c9 e0 mi) (hL9 : L ≤ 2560) {S : wPS} {fo : Nat → Int64} {fd : Nat → UInt64} {H : Heap} {locs : List Loc} {ls : Array Slot} {cells slots : Nat} {i : Int32} (hi : 0 ≤ i.toInt ∧ i.toInt + 5 ≤ L) (hI : LI D cy c8 c9 e0 (fun q => s.heap.size ≤ q) o1 o2 qo qd fo fd S H) (hS : va_S (fun q => s.heap.size ≤ q) s.heap H locs) (hc : cells + 40 ≤ room_1.cells) (hs : slots + 1200 ≤ room_1.slots) (hl : lv_has ls 9 [(5, .int i), (4, .ref qd), (3, .ref qo), (2, .ref o1), (1, .ref o2), (0, .ref b)]) (kk : ∀ (S2 : wPS) (fo2 : Nat → Int64) (fd2 : Nat → UInt64) (H2 : Heap) (locs2 : List Loc) (ls2 : Array Slot), LI D cy c8 c9 e0 (fun q => s.heap.size ≤ q) o1 o2 qo qd fo2 fd2 S2 H2 → va_S (fun q => s.heap.size ≤ q) s.heap H2 locs2 → lv_has ls2 9 [(5, .int i), (4, .ref qd), (3, .ref qo), (2, .ref o1), (1, .ref o2), (0, .ref b)] → W p l e room_1 s m #[Value.ref b] below meth c H2 locs2 (cells + 40) (slots + 1200) Q (F0 m 2924 ls2 [])) : W p l e room_1 s m #[Value.ref b] below meth c H locs cells slots Q (F0 m 2060 ls []) := by
  obtain ⟨hx, hb, hml, hown, hts, hX, hbl, hN, hTH, hOU, hKX, hst, hNC⟩ := id C0
  obtain ⟨hP, hD, hW, h_o2, h_o1, h77, hMV, hIV, hR_R55, hR_R58, hR_RLT⟩ := hI
  have hK := kX hKX
  have hA : ∀ q : Nat, s.heap.size ≤ q → (fun q : Nat => s.heap.size ≤ q) q := fun _ h => h
  have hbA : ¬ (fun q : Nat => s.heap.size ≤ q) b := Nat.not_le.mpr hbl
  refine lv_aload_n hx hb dL_law_2060 rfl (lv_at hl 4 rfl) ?_
  refine lv_aload_n hx hb dL_law_2061 rfl (lv_at hl 5 rfl) ?_
  refine lv_iload hx hb dL_law_2062 (lv_at hl 0 rfl) ?_
  refine lv_iconst (v := 1) hx hb dL_law_2064 (by decide) ?_
  refine lv_iadd hx hb dL_law_2065 ?_
  have l32_1 : (1 : Int32).toInt = 1 := rfl
  have i1 : (i + (1 : Int32)).toInt = i.toInt + 1 := t_addr (n := 1) rfl (by omega)
  refine va_sld hx hb hX hbl hbA hS (inb (m := L) rfl (by omega) (by omega)) dL_law_2066 ?_
  obtain ⟨y2, ey2⟩ : ∃ z : Int32, xs (i + (1 : Int32)).toNatClampNeg = z := ⟨_, rfl⟩
  rw [ey2]
  refine lv_aload_n hx hb dL_law_2067 rfl (lv_at hl 5 rfl) ?_
  refine lv_iload hx hb dL_law_2068 (lv_at hl 0 rfl) ?_
  refine lv_iconst (v := 2) hx hb dL_law_2070 (by decide) ?_
  refine lv_iadd hx hb dL_law_2071 ?_
  have l32_2 : (2 : Int32).toInt = 2 := rfl
  have i3 : (i + (2 : Int32)).toInt = i.toInt + 2 := t_addr (n := 2) rfl (by omega)
  refine va_sld hx hb hX hbl hbA hS (inb (m := L) rfl (by omega) (by omega)) dL_law_2072 ?_
  obtain ⟨y4, ey4⟩ : ∃ z : Int32, xs (i + (2 : Int32)).toNatClampNeg = z := ⟨_, rfl⟩
  rw [ey4]
  refine lv_aload_n hx hb dL_law_2073 rfl (lv_at hl 2 rfl) ?_
  have hFc := free_all hD hS hA
  refine va_calli (vx_runSW (As := [.ref o2, .int y2, .int y4, .ref qo]) (rest := []) ⟨hx, hb, hml, hown, hts⟩ (c_L_part l hst (e0 := e0) (mi := mi) (D := D) (cy := cy) (c8 := c8) (c9 := c9) qo qd fo fd S _ o2 h_o2 y2 y4 (hW)) (vx_cwSW 4 hts gL_law_L_part rfl rfl rfl (by decide +kernel) ⟨Nat.le_of_ble_eq_true rfl, Nat.le_of_ble_eq_true rfl⟩) ⟨fun a U g mk q => ⟨q.1, q.2.1, q.2.2.1.calling, NW.same (u := U) (U := U.calling g mk a) rfl q.2.2.2.1, q.2.2.2.2.1.calling, q.2.2.2.2.2.1.calling, q.2.2.2.2.2.2.calling⟩, fun U hU hW => ⟨rfl, by rw [hU], wx_pre hP hKX hD hU hW, hN.warm hW, th_pre hTH hS hFc hU hW, ou_pre hOU hS hFc hU hW, hNC.moved hW.alike⟩⟩ rfl rfl hl.1 rfl (lv_room (Nat.le_of_ble_eq_true rfl)) dL_law_2074 ⟨by omega, by omega⟩) hS (fun q _ h => hFc q h) hFc (fun r5 u t H1 locs ht hvm hw hB hz1 hk1 hS => ?_)
  obtain ⟨S6, f7⟩ := u
  have w8 := hw
  obtain ⟨hP, hD⟩ := wx_post hFc ht hB
  generalize H1 = H at hP hS ⊢
  have w8 : stp ([] : List (Nat × Nat)) [] [] S S6 := w8
  have v9 : IV S6 o1 := IV.keep w8 hW h_o1 (by decide) (by decide) hIV
  have v10 : MV S6 o1 := MV.keep w8 hW h_o1 (by decide) (by decide) hMV
  have v11 : (R55 o2) S6 o1 := R55.keep w8 hW h_o1 (by decide) (by decide) hR_R55
  have v12 : (R58 o2) S6 o1 := R58.keep w8 hW h_o1 (by decide) (by decide) hR_R58
  have v13 : (RLT o2) S6 o1 := RLT.keep w8 hW h_o1 (by decide) (by decide) hR_RLT
  have xe14 : ext S S6 := w8.x
  refine lv_istore (lv' := [(6, .int r5), (5, .int i), (4, .ref qd), (3, .ref qo), (2, .ref o1), (1, .ref o2), (0, .ref b)]) hx hb dL_law_2077 hl (by decide) rfl (fun ls hl => ?_)
  refine lv_aload_n hx hb dL_law_2079 rfl (lv_at hl 4 rfl) ?_
  refine lv_aload_n hx hb dL_law_2080 rfl (lv_at hl 6 rfl) ?_
  refine lv_iload hx hb dL_law_2081 (lv_at hl 1 rfl) ?_
  refine lv_iconst (v := 1) hx hb dL_law_2083 (by decide) ?_
  refine lv_iadd hx hb dL_law_2084 ?_
  refine va_sld hx hb hX hbl hbA hS (inb (m := L) rfl (by omega) (by omega)) dL_law_2085 ?_
  rw [ey2]
  refine lv_aload_n hx hb dL_law_2086 rfl (lv_at hl 6 rfl) ?_
  refine lv_iload hx hb dL_law_2087 (lv_at hl 1 rfl) ?_
  refine lv_iconst (v := 2) hx hb dL_law_2089 (by decide) ?_
  refine lv_iadd hx hb dL_law_2090 ?_
  refine va_sld hx hb hX hbl hbA hS (inb (m := L) rfl (by omega) (by omega)) dL_law_2091 ?_
  rw [ey4]
  have hFc := free_all hD hS hA
  obtain ⟨k16, gk16, hk16⟩ := wGt (cy := cy) (XO c8 c9 qo qd f7 fd) S6 (xe14.A h_o1).1 (xe14.A h_o1).2.1
  refine va_calli (va_runV (As := [.int y2, .int y4]) (rest := []) ⟨hx, hb, hml, hown, hts⟩ (c_X12_part l (cy := cy) (X := (XO c8 c9 qo qd f7 fd)) (D := D) S6 _ o1 (xe14.A h_o1) y2 y4 (w8.w)) (cwV 2 hts gL_law_X12_part rfl rfl rfl hd_X12_part ⟨Nat.le_of_ble_eq_true rfl, Nat.le_of_ble_eq_true rfl⟩) ⟨fun a U g mk q => ⟨q.1, q.2.1, q.2.2.1.calling, NW.same (u := U) (U := U.calling g mk a) rfl q.2.2.2⟩, va_recv hK hP (q := (RX12, TX12, 34)) (ci := 16) (q0 := k16) rfl hk16, fun U hU hW => ⟨rfl, by rw [hU], wd_pre hP hK hD hU hW, hN.warm hW⟩⟩ rfl rfl hl.1 rfl (lv_room (Nat.le_of_ble_eq_true rfl)) dL_law_2092 ⟨by omega, by omega⟩) hS (fun q _ h => hFc q h) hFc (fun r15 u t H1 locs ht hvm hw hB hz1 hk1 hS => ?_)
  have w17 := hw
  obtain ⟨hP, hD⟩ := wd_post hFc ht hB
  generalize H1 = H at hP hS ⊢
  obtain ⟨S18, rfl⟩ : ∃ z, z = u := ⟨_, rfl⟩
  have v19 : IV S18 o1 := IV.keep w17 w8.w (xe14.A h_o1) (by decide) (by decide) v9
  have v20 : MV S18 o1 := MV.keep w17 w8.w (xe14.A h_o1) (by decide) (by decide) v10
  have v21 : (R55 o2) S18 o1 := R55.keep w17 w8.w (xe14.A h_o1) (by decide) (by decide) v11
  have v22 : (R58 o2) S18 o1 := R58.keep w17 w8.w (xe14.A h_o1) (by decide) (by decide) v12
  have v23 : (RLT o2) S18 o1 := RLT.keep w17 w8.w (xe14.A h_o1) (by decide) (by decide) v13
  have xe24 : ext S6 S18 := w17.x
  refine lv_istore (lv' := [(7, .int r15), (6, .int r5), (5, .int i), (4, .ref qd), (3, .ref qo), (2, .ref o1), (1, .ref o2), (0, .ref b)]) hx hb dL_law_2095 hl (by decide) rfl (fun ls hl => ?_)
  refine lv_goto (tgt := 2924) hx hb dL_law_2097 (by decide) ?_
  refine W.widen (k := cells + 40) (n := slots + 1200) (by omega) (by omega) ?_
  exact kk S18 f7 fd H _ ls ⟨hP, hD, w17.w, ((xe14.tr xe24).A h_o2), (xe24.A (xe14.A h_o1)), ((xe14.tr xe24).F h_o1 (by decide) h77), v20, v19, v21, v22, v23⟩ hS (lv_sub hl [2, 3, 4, 5, 6, 7] rfl)
set_option maxHeartbeats 4000000 in
set_option maxRecDepth 100000 in
theorem road_41 {p : Program} {l : Launch} {e : Env} {s : State} {m : MethodId} {below : List Frame} {meth : Method} {c : Code} {b L : Nat} {xs : Nat → Int32} {D : va_G} {cy : Nat → ClassId} {c8 c9 : ClassId} {e0 mi : Nat} {Q : State → Prop} {qo qd o1 o2 : Nat} (C0 : LC p l s m c b L xs D cy c8 c9 e0 mi) (hL9 : L ≤ 2560) {S : wPS} {fo : Nat → Int64} {fd : Nat → UInt64} {H : Heap} {locs : List Loc} {ls : Array Slot} {cells slots : Nat} {i : Int32} (hi : 0 ≤ i.toInt ∧ i.toInt + 5 ≤ L) (hI : LI D cy c8 c9 e0 (fun q => s.heap.size ≤ q) o1 o2 qo qd fo fd S H) (hS : va_S (fun q => s.heap.size ≤ q) s.heap H locs) (hc : cells + 40 ≤ room_1.cells) (hs : slots + 1200 ≤ room_1.slots) (hl : lv_has ls 9 [(5, .int i), (4, .ref qd), (3, .ref qo), (2, .ref o1), (1, .ref o2), (0, .ref b)]) (kk : ∀ (S2 : wPS) (fo2 : Nat → Int64) (fd2 : Nat → UInt64) (H2 : Heap) (locs2 : List Loc) (ls2 : Array Slot), LI D cy c8 c9 e0 (fun q => s.heap.size ≤ q) o1 o2 qo qd fo2 fd2 S2 H2 → va_S (fun q => s.heap.size ≤ q) s.heap H2 locs2 → lv_has ls2 9 [(5, .int i), (4, .ref qd), (3, .ref qo), (2, .ref o1), (1, .ref o2), (0, .ref b)] → W p l e room_1 s m #[Value.ref b] below meth c H2 locs2 (cells + 40) (slots + 1200) Q (F0 m 2924 ls2 [])) : W p l e room_1 s m #[Value.ref b] below meth c H locs cells slots Q (F0 m 2100 ls []) := by
  obtain ⟨hx, hb, hml, hown, hts, hX, hbl, hN, hTH, hOU, hKX, hst, hNC⟩ := id C0
  obtain ⟨hP, hD, hW, h_o2, h_o1, h77, hMV, hIV, hR_R55, hR_R58, hR_RLT⟩ := hI
  have hK := kX hKX
  have hA : ∀ q : Nat, s.heap.size ≤ q → (fun q : Nat => s.heap.size ≤ q) q := fun _ h => h
  have hbA : ¬ (fun q : Nat => s.heap.size ≤ q) b := Nat.not_le.mpr hbl
  refine lv_aload_n hx hb dL_law_2100 rfl (lv_at hl 4 rfl) ?_
  refine lv_aload_n hx hb dL_law_2101 rfl (lv_at hl 5 rfl) ?_
  refine lv_iload hx hb dL_law_2102 (lv_at hl 0 rfl) ?_
  refine lv_iconst (v := 1) hx hb dL_law_2104 (by decide) ?_
  refine lv_iadd hx hb dL_law_2105 ?_
  have l32_1 : (1 : Int32).toInt = 1 := rfl
  have i1 : (i + (1 : Int32)).toInt = i.toInt + 1 := t_addr (n := 1) rfl (by omega)
  refine va_sld hx hb hX hbl hbA hS (inb (m := L) rfl (by omega) (by omega)) dL_law_2106 ?_
  obtain ⟨y2, ey2⟩ : ∃ z : Int32, xs (i + (1 : Int32)).toNatClampNeg = z := ⟨_, rfl⟩
  rw [ey2]
  refine lv_aload_n hx hb dL_law_2107 rfl (lv_at hl 2 rfl) ?_
  have hFc := free_all hD hS hA
  refine va_calli (vx_runSW (As := [.ref o2, .int y2, .ref qo]) (rest := []) ⟨hx, hb, hml, hown, hts⟩ (c_L_cause l hst (e0 := e0) (mi := mi) (D := D) (cy := cy) (c8 := c8) (c9 := c9) qo qd fo fd S _ o2 h_o2 y2 (hW)) (vx_cwSW 3 hts gL_law_L_cause rfl rfl rfl (by decide +kernel) ⟨Nat.le_of_ble_eq_true rfl, Nat.le_of_ble_eq_true rfl⟩) ⟨fun a U g mk q => ⟨q.1, q.2.1, q.2.2.1.calling, NW.same (u := U) (U := U.calling g mk a) rfl q.2.2.2.1, q.2.2.2.2.1.calling, q.2.2.2.2.2.1.calling, q.2.2.2.2.2.2.calling⟩, fun U hU hW => ⟨rfl, by rw [hU], wx_pre hP hKX hD hU hW, hN.warm hW, th_pre hTH hS hFc hU hW, ou_pre hOU hS hFc hU hW, hNC.moved hW.alike⟩⟩ rfl rfl hl.1 rfl (lv_room (Nat.le_of_ble_eq_true rfl)) dL_law_2108 ⟨by omega, by omega⟩) hS (fun q _ h => hFc q h) hFc (fun r3 u t H1 locs ht hvm hw hB hz1 hk1 hS => ?_)
  obtain ⟨S4, f5⟩ := u
  have w6 := hw
  obtain ⟨hP, hD⟩ := wx_post hFc ht hB
  generalize H1 = H at hP hS ⊢
  have w6 : stp ([] : List (Nat × Nat)) [] [] S S4 := w6
  have v7 : IV S4 o1 := IV.keep w6 hW h_o1 (by decide) (by decide) hIV
  have v8 : MV S4 o1 := MV.keep w6 hW h_o1 (by decide) (by decide) hMV
  have v9 : (R55 o2) S4 o1 := R55.keep w6 hW h_o1 (by decide) (by decide) hR_R55
  have v10 : (R58 o2) S4 o1 := R58.keep w6 hW h_o1 (by decide) (by decide) hR_R58
  have v11 : (RLT o2) S4 o1 := RLT.keep w6 hW h_o1 (by decide) (by decide) hR_RLT
  have xe12 : ext S S4 := w6.x
  refine lv_istore (lv' := [(6, .int r3), (5, .int i), (4, .ref qd), (3, .ref qo), (2, .ref o1), (1, .ref o2), (0, .ref b)]) hx hb dL_law_2111 hl (by decide) rfl (fun ls hl => ?_)
  refine lv_aload_n hx hb dL_law_2113 rfl (lv_at hl 4 rfl) ?_
  refine lv_aload_n hx hb dL_law_2114 rfl (lv_at hl 6 rfl) ?_
  refine lv_iload hx hb dL_law_2115 (lv_at hl 1 rfl) ?_
  refine lv_iconst (v := 1) hx hb dL_law_2117 (by decide) ?_
  refine lv_iadd hx hb dL_law_2118 ?_
  refine va_sld hx hb hX hbl hbA hS (inb (m := L) rfl (by omega) (by omega)) dL_law_2119 ?_
  rw [ey2]
  have hFc := free_all hD hS hA
  obtain ⟨k14, gk14, hk14⟩ := wGt (cy := cy) (XO c8 c9 qo qd f5 fd) S4 (xe12.A h_o1).1 (xe12.A h_o1).2.1
  refine va_calli (va_runV (As := [.int y2]) (rest := []) ⟨hx, hb, hml, hown, hts⟩ (c_X12_cause l (cy := cy) (X := (XO c8 c9 qo qd f5 fd)) (D := D) S4 _ o1 (xe12.A h_o1) y2 (w6.w)) (cwV 1 hts gL_law_X12_cause rfl rfl rfl hd_X12_cause ⟨Nat.le_of_ble_eq_true rfl, Nat.le_of_ble_eq_true rfl⟩) ⟨fun a U g mk q => ⟨q.1, q.2.1, q.2.2.1.calling, NW.same (u := U) (U := U.calling g mk a) rfl q.2.2.2⟩, va_recv hK hP (q := (RX12, TX12, 34)) (ci := 16) (q0 := k14) rfl hk14, fun U hU hW => ⟨rfl, by rw [hU], wd_pre hP hK hD hU hW, hN.warm hW⟩⟩ rfl rfl hl.1 rfl (lv_room (Nat.le_of_ble_eq_true rfl)) dL_law_2120 ⟨by omega, by omega⟩) hS (fun q _ h => hFc q h) hFc (fun r13 u t H1 locs ht hvm hw hB hz1 hk1 hS => ?_)
  obtain ⟨w15, y16⟩ := hw
  obtain ⟨hP, hD⟩ := wd_post hFc ht hB
  generalize H1 = H at hP hS ⊢
  obtain ⟨S17, rfl⟩ : ∃ z, z = u := ⟨_, rfl⟩
  have v18 : IV S17 o1 := IV.keep w15 w6.w (xe12.A h_o1) (by decide) (by decide) v7
  have v19 : MV S17 o1 := MV.keep w15 w6.w (xe12.A h_o1) (by decide) (by decide) v8
  have v20 : (R55 o2) S17 o1 := R55.keep w15 w6.w (xe12.A h_o1) (by decide) (by decide) v9
  have v21 : (R58 o2) S17 o1 := R58.keep w15 w6.w (xe12.A h_o1) (by decide) (by decide) v10
  have v22 : (RLT o2) S17 o1 := RLT.keep w15 w6.w (xe12.A h_o1) (by decide) (by decide) v11
  have xe23 : ext S4 S17 := w15.x
  refine lv_istore (lv' := [(7, .int r13), (6, .int r3), (5, .int i), (4, .ref qd), (3, .ref qo), (2, .ref o1), (1, .ref o2), (0, .ref b)]) hx hb dL_law_2123 hl (by decide) rfl (fun ls hl => ?_)
  refine lv_goto (tgt := 2924) hx hb dL_law_2125 (by decide) ?_
  refine W.widen (k := cells + 40) (n := slots + 1200) (by omega) (by omega) ?_
  exact kk S17 f5 fd H _ ls ⟨hP, hD, w15.w, ((xe12.tr xe23).A h_o2), (xe23.A (xe12.A h_o1)), ((xe12.tr xe23).F h_o1 (by decide) h77), v19, v18, v20, v21, v22⟩ hS (lv_sub hl [2, 3, 4, 5, 6, 7] rfl)
set_option maxHeartbeats 4000000 in
set_option maxRecDepth 100000 in
theorem road_42 {p : Program} {l : Launch} {e : Env} {s : State} {m : MethodId} {below : List Frame} {meth : Method} {c : Code} {b L : Nat} {xs : Nat → Int32} {D : va_G} {cy : Nat → ClassId} {c8 c9 : ClassId} {e0 mi : Nat} {Q : State → Prop} {qo qd o1 o2 : Nat} (C0 : LC p l s m c b L xs D cy c8 c9 e0 mi) (hL9 : L ≤ 2560) {S : wPS} {fo : Nat → Int64} {fd : Nat → UInt64} {H : Heap} {locs : List Loc} {ls : Array Slot} {cells slots : Nat} {i : Int32} (hi : 0 ≤ i.toInt ∧ i.toInt + 5 ≤ L) (hI : LI D cy c8 c9 e0 (fun q => s.heap.size ≤ q) o1 o2 qo qd fo fd S H) (hS : va_S (fun q => s.heap.size ≤ q) s.heap H locs) (hc : cells + 40 ≤ room_1.cells) (hs : slots + 1200 ≤ room_1.slots) (hl : lv_has ls 9 [(5, .int i), (4, .ref qd), (3, .ref qo), (2, .ref o1), (1, .ref o2), (0, .ref b)]) (kk : ∀ (S2 : wPS) (fo2 : Nat → Int64) (fd2 : Nat → UInt64) (H2 : Heap) (locs2 : List Loc) (ls2 : Array Slot), LI D cy c8 c9 e0 (fun q => s.heap.size ≤ q) o1 o2 qo qd fo2 fd2 S2 H2 → va_S (fun q => s.heap.size ≤ q) s.heap H2 locs2 → lv_has ls2 9 [(5, .int i), (4, .ref qd), (3, .ref qo), (2, .ref o1), (1, .ref o2), (0, .ref b)] → W p l e room_1 s m #[Value.ref b] below meth c H2 locs2 (cells + 40) (slots + 1200) Q (F0 m 2924 ls2 [])) : W p l e room_1 s m #[Value.ref b] below meth c H locs cells slots Q (F0 m 2128 ls []) := by
  obtain ⟨hx, hb, hml, hown, hts, hX, hbl, hN, hTH, hOU, hKX, hst, hNC⟩ := id C0
  obtain ⟨hP, hD, hW, h_o2, h_o1, h77, hMV, hIV, hR_R55, hR_R58, hR_RLT⟩ := hI
  have hK := kX hKX
  have hA : ∀ q : Nat, s.heap.size ≤ q → (fun q : Nat => s.heap.size ≤ q) q := fun _ h => h
  have hbA : ¬ (fun q : Nat => s.heap.size ≤ q) b := Nat.not_le.mpr hbl
  refine lv_aload_n hx hb dL_law_2128 rfl (lv_at hl 4 rfl) ?_
  refine lv_aload_n hx hb dL_law_2129 rfl (lv_at hl 5 rfl) ?_
  refine lv_iload hx hb dL_law_2130 (lv_at hl 0 rfl) ?_
  refine lv_iconst (v := 1) hx hb dL_law_2132 (by decide) ?_
  refine lv_iadd hx hb dL_law_2133 ?_
  have l32_1 : (1 : Int32).toInt = 1 := rfl
  have i1 : (i + (1 : Int32)).toInt = i.toInt + 1 := t_addr (n := 1) rfl (by omega)
  refine va_sld hx hb hX hbl hbA hS (inb (m := L) rfl (by omega) (by omega)) dL_law_2134 ?_
  obtain ⟨y2, ey2⟩ : ∃ z : Int32, xs (i + (1 : Int32)).toNatClampNeg = z := ⟨_, rfl⟩
  rw [ey2]
  refine lv_aload_n hx hb dL_law_2135 rfl (lv_at hl 5 rfl) ?_
  refine lv_iload hx hb dL_law_2136 (lv_at hl 0 rfl) ?_
  refine lv_iconst (v := 2) hx hb dL_law_2138 (by decide) ?_
  refine lv_iadd hx hb dL_law_2139 ?_
  have l32_2 : (2 : Int32).toInt = 2 := rfl
  have i3 : (i + (2 : Int32)).toInt = i.toInt + 2 := t_addr (n := 2) rfl (by omega)
  refine va_sld hx hb hX hbl hbA hS (inb (m := L) rfl (by omega) (by omega)) dL_law_2140 ?_
  obtain ⟨y4, ey4⟩ : ∃ z : Int32, xs (i + (2 : Int32)).toNatClampNeg = z := ⟨_, rfl⟩
  rw [ey4]
  refine lv_aload_n hx hb dL_law_2141 rfl (lv_at hl 5 rfl) ?_
  refine lv_iload hx hb dL_law_2142 (lv_at hl 0 rfl) ?_
  refine lv_iconst (v := 3) hx hb dL_law_2144 (by decide) ?_
  refine lv_iadd hx hb dL_law_2145 ?_
  have l32_3 : (3 : Int32).toInt = 3 := rfl
  have i5 : (i + (3 : Int32)).toInt = i.toInt + 3 := t_addr (n := 3) rfl (by omega)
  refine va_sld hx hb hX hbl hbA hS (inb (m := L) rfl (by omega) (by omega)) dL_law_2146 ?_
  obtain ⟨y6, ey6⟩ : ∃ z : Int32, xs (i + (3 : Int32)).toNatClampNeg = z := ⟨_, rfl⟩
  rw [ey6]
  refine lv_aload_n hx hb dL_law_2147 rfl (lv_at hl 2 rfl) ?_
  have hFc := free_all hD hS hA
  refine va_calli (vx_runSW (As := [.ref o2, .int y2, .int y4, .int y6, .ref qo]) (rest := []) ⟨hx, hb, hml, hown, hts⟩ (c_L_peak l hst (e0 := e0) (mi := mi) (D := D) (cy := cy) (c8 := c8) (c9 := c9) qo qd fo fd S _ o2 h_o2 y2 y4 y6 (hW)) (vx_cwSW 5 hts gL_law_L_peak rfl rfl rfl (by decide +kernel) ⟨Nat.le_of_ble_eq_true rfl, Nat.le_of_ble_eq_true rfl⟩) ⟨fun a U g mk q => ⟨q.1, q.2.1, q.2.2.1.calling, NW.same (u := U) (U := U.calling g mk a) rfl q.2.2.2.1, q.2.2.2.2.1.calling, q.2.2.2.2.2.1.calling, q.2.2.2.2.2.2.calling⟩, fun U hU hW => ⟨rfl, by rw [hU], wx_pre hP hKX hD hU hW, hN.warm hW, th_pre hTH hS hFc hU hW, ou_pre hOU hS hFc hU hW, hNC.moved hW.alike⟩⟩ rfl rfl hl.1 rfl (lv_room (Nat.le_of_ble_eq_true rfl)) dL_law_2148 ⟨by omega, by omega⟩) hS (fun q _ h => hFc q h) hFc (fun r7 u t H1 locs ht hvm hw hB hz1 hk1 hS => ?_)
  obtain ⟨S8, f9⟩ := u
  have w10 := hw
  obtain ⟨hP, hD⟩ := wx_post hFc ht hB
  generalize H1 = H at hP hS ⊢
  have w10 : stp [(6, 4), (17, 100)] [] [] S S8 := w10
  have v11 : IV S8 o1 := IV.keep w10 hW h_o1 (by decide) (by decide) hIV
  have v12 : MV S8 o1 := MV.keep w10 hW h_o1 (by decide) (by decide) hMV
  have v13 : (R55 o2) S8 o1 := R55.keep w10 hW h_o1 (by decide) (by decide) hR_R55
  have v14 : (R58 o2) S8 o1 := R58.keep w10 hW h_o1 (by decide) (by decide) hR_R58
  have v15 : (RLT o2) S8 o1 := RLT.keep w10 hW h_o1 (by decide) (by decide) hR_RLT
  have xe16 : ext S S8 := w10.x
  refine lv_istore (lv' := [(6, .int r7), (5, .int i), (4, .ref qd), (3, .ref qo), (2, .ref o1), (1, .ref o2), (0, .ref b)]) hx hb dL_law_2151 hl (by decide) rfl (fun ls hl => ?_)
  refine lv_aload_n hx hb dL_law_2153 rfl (lv_at hl 4 rfl) ?_
  refine lv_aload_n hx hb dL_law_2154 rfl (lv_at hl 6 rfl) ?_
  refine lv_iload hx hb dL_law_2155 (lv_at hl 1 rfl) ?_
  refine lv_iconst (v := 1) hx hb dL_law_2157 (by decide) ?_
  refine lv_iadd hx hb dL_law_2158 ?_
  refine va_sld hx hb hX hbl hbA hS (inb (m := L) rfl (by omega) (by omega)) dL_law_2159 ?_
  rw [ey2]
  refine lv_aload_n hx hb dL_law_2160 rfl (lv_at hl 6 rfl) ?_
  refine lv_iload hx hb dL_law_2161 (lv_at hl 1 rfl) ?_
  refine lv_iconst (v := 2) hx hb dL_law_2163 (by decide) ?_
  refine lv_iadd hx hb dL_law_2164 ?_
  refine va_sld hx hb hX hbl hbA hS (inb (m := L) rfl (by omega) (by omega)) dL_law_2165 ?_
  rw [ey4]
  refine lv_aload_n hx hb dL_law_2166 rfl (lv_at hl 6 rfl) ?_
  refine lv_iload hx hb dL_law_2167 (lv_at hl 1 rfl) ?_
  refine lv_iconst (v := 3) hx hb dL_law_2169 (by decide) ?_
  refine lv_iadd hx hb dL_law_2170 ?_
  refine va_sld hx hb hX hbl hbA hS (inb (m := L) rfl (by omega) (by omega)) dL_law_2171 ?_
  rw [ey6]
  have hFc := free_all hD hS hA
  obtain ⟨k18, gk18, hk18⟩ := wGt (cy := cy) (XO c8 c9 qo qd f9 fd) S8 (xe16.A h_o1).1 (xe16.A h_o1).2.1
  refine va_calli (va_runV (As := [.int y2, .int y4, .int y6]) (rest := []) ⟨hx, hb, hml, hown, hts⟩ (c_X12_peak l (cy := cy) (X := (XO c8 c9 qo qd f9 fd)) (D := D) S8 _ o1 (xe16.A h_o1) y2 y4 y6 (w10.w)) (cwV 3 hts gL_law_X12_peak rfl rfl rfl hd_X12_peak ⟨Nat.le_of_ble_eq_true rfl, Nat.le_of_ble_eq_true rfl⟩) ⟨fun a U g mk q => ⟨q.1, q.2.1, q.2.2.1.calling, NW.same (u := U) (U := U.calling g mk a) rfl q.2.2.2⟩, va_recv hK hP (q := (RX12, TX12, 34)) (ci := 16) (q0 := k18) rfl hk18, fun U hU hW => ⟨rfl, by rw [hU], wd_pre hP hK hD hU hW, hN.warm hW⟩⟩ rfl rfl hl.1 rfl (lv_room (Nat.le_of_ble_eq_true rfl)) dL_law_2172 ⟨by omega, by omega⟩) hS (fun q _ h => hFc q h) hFc (fun r17 u t H1 locs ht hvm hw hB hz1 hk1 hS => ?_)
  have w19 := hw
  obtain ⟨hP, hD⟩ := wd_post hFc ht hB
  generalize H1 = H at hP hS ⊢
  obtain ⟨S20, rfl⟩ : ∃ z, z = u := ⟨_, rfl⟩
  have v21 : IV S20 o1 := IV.keep w19 w10.w (xe16.A h_o1) (by decide) (by decide) v11
  have v22 : MV S20 o1 := MV.keep w19 w10.w (xe16.A h_o1) (by decide) (by decide) v12
  have v23 : (R55 o2) S20 o1 := R55.keep w19 w10.w (xe16.A h_o1) (by decide) (by decide) v13
  have v24 : (R58 o2) S20 o1 := R58.keep w19 w10.w (xe16.A h_o1) (by decide) (by decide) v14
  have v25 : (RLT o2) S20 o1 := RLT.keep w19 w10.w (xe16.A h_o1) (by decide) (by decide) v15
  have xe26 : ext S8 S20 := w19.x
  refine lv_istore (lv' := [(7, .int r17), (6, .int r7), (5, .int i), (4, .ref qd), (3, .ref qo), (2, .ref o1), (1, .ref o2), (0, .ref b)]) hx hb dL_law_2175 hl (by decide) rfl (fun ls hl => ?_)
  refine lv_goto (tgt := 2924) hx hb dL_law_2177 (by decide) ?_
  refine W.widen (k := cells + 40) (n := slots + 1200) (by omega) (by omega) ?_
  exact kk S20 f9 fd H _ ls ⟨hP, hD, w19.w, ((xe16.tr xe26).A h_o2), (xe26.A (xe16.A h_o1)), ((xe16.tr xe26).F h_o1 (by decide) h77), v22, v21, v23, v24, v25⟩ hS (lv_sub hl [2, 3, 4, 5, 6, 7] rfl)
set_option maxHeartbeats 4000000 in
set_option maxRecDepth 100000 in
theorem road_43 {p : Program} {l : Launch} {e : Env} {s : State} {m : MethodId} {below : List Frame} {meth : Method} {c : Code} {b L : Nat} {xs : Nat → Int32} {D : va_G} {cy : Nat → ClassId} {c8 c9 : ClassId} {e0 mi : Nat} {Q : State → Prop} {qo qd o1 o2 : Nat} (C0 : LC p l s m c b L xs D cy c8 c9 e0 mi) (hL9 : L ≤ 2560) {S : wPS} {fo : Nat → Int64} {fd : Nat → UInt64} {H : Heap} {locs : List Loc} {ls : Array Slot} {cells slots : Nat} {i : Int32} (hi : 0 ≤ i.toInt ∧ i.toInt + 5 ≤ L) (hI : LI D cy c8 c9 e0 (fun q => s.heap.size ≤ q) o1 o2 qo qd fo fd S H) (hS : va_S (fun q => s.heap.size ≤ q) s.heap H locs) (hc : cells + 40 ≤ room_1.cells) (hs : slots + 1200 ≤ room_1.slots) (hl : lv_has ls 9 [(5, .int i), (4, .ref qd), (3, .ref qo), (2, .ref o1), (1, .ref o2), (0, .ref b)]) (kk : ∀ (S2 : wPS) (fo2 : Nat → Int64) (fd2 : Nat → UInt64) (H2 : Heap) (locs2 : List Loc) (ls2 : Array Slot), LI D cy c8 c9 e0 (fun q => s.heap.size ≤ q) o1 o2 qo qd fo2 fd2 S2 H2 → va_S (fun q => s.heap.size ≤ q) s.heap H2 locs2 → lv_has ls2 9 [(5, .int i), (4, .ref qd), (3, .ref qo), (2, .ref o1), (1, .ref o2), (0, .ref b)] → W p l e room_1 s m #[Value.ref b] below meth c H2 locs2 (cells + 40) (slots + 1200) Q (F0 m 2924 ls2 [])) : W p l e room_1 s m #[Value.ref b] below meth c H locs cells slots Q (F0 m 2180 ls []) := by
  obtain ⟨hx, hb, hml, hown, hts, hX, hbl, hN, hTH, hOU, hKX, hst, hNC⟩ := id C0
  obtain ⟨hP, hD, hW, h_o2, h_o1, h77, hMV, hIV, hR_R55, hR_R58, hR_RLT⟩ := hI
  have hK := kX hKX
  have hA : ∀ q : Nat, s.heap.size ≤ q → (fun q : Nat => s.heap.size ≤ q) q := fun _ h => h
  have hbA : ¬ (fun q : Nat => s.heap.size ≤ q) b := Nat.not_le.mpr hbl
  refine lv_aload_n hx hb dL_law_2180 rfl (lv_at hl 4 rfl) ?_
  refine lv_aload_n hx hb dL_law_2181 rfl (lv_at hl 5 rfl) ?_
  refine lv_iload hx hb dL_law_2182 (lv_at hl 0 rfl) ?_
  refine lv_iconst (v := 1) hx hb dL_law_2184 (by decide) ?_
  refine lv_iadd hx hb dL_law_2185 ?_
  have l32_1 : (1 : Int32).toInt = 1 := rfl
  have i1 : (i + (1 : Int32)).toInt = i.toInt + 1 := t_addr (n := 1) rfl (by omega)
  refine va_sld hx hb hX hbl hbA hS (inb (m := L) rfl (by omega) (by omega)) dL_law_2186 ?_
  obtain ⟨y2, ey2⟩ : ∃ z : Int32, xs (i + (1 : Int32)).toNatClampNeg = z := ⟨_, rfl⟩
  rw [ey2]
  refine lv_aload_n hx hb dL_law_2187 rfl (lv_at hl 5 rfl) ?_
  refine lv_iload hx hb dL_law_2188 (lv_at hl 0 rfl) ?_
  refine lv_iconst (v := 2) hx hb dL_law_2190 (by decide) ?_
  refine lv_iadd hx hb dL_law_2191 ?_
  have l32_2 : (2 : Int32).toInt = 2 := rfl
  have i3 : (i + (2 : Int32)).toInt = i.toInt + 2 := t_addr (n := 2) rfl (by omega)
  refine va_sld hx hb hX hbl hbA hS (inb (m := L) rfl (by omega) (by omega)) dL_law_2192 ?_
  obtain ⟨y4, ey4⟩ : ∃ z : Int32, xs (i + (2 : Int32)).toNatClampNeg = z := ⟨_, rfl⟩
  rw [ey4]
  refine lv_aload_n hx hb dL_law_2193 rfl (lv_at hl 2 rfl) ?_
  have hFc := free_all hD hS hA
  refine va_calli (vx_runSW (As := [.ref o2, .int y2, .int y4, .ref qo]) (rest := []) ⟨hx, hb, hml, hown, hts⟩ (c_L_quietest l hst (e0 := e0) (mi := mi) (D := D) (cy := cy) (c8 := c8) (c9 := c9) qo qd fo fd S _ o2 h_o2 y2 y4 (hW)) (vx_cwSW 4 hts gL_law_L_quietest rfl rfl rfl (by decide +kernel) ⟨Nat.le_of_ble_eq_true rfl, Nat.le_of_ble_eq_true rfl⟩) ⟨fun a U g mk q => ⟨q.1, q.2.1, q.2.2.1.calling, NW.same (u := U) (U := U.calling g mk a) rfl q.2.2.2.1, q.2.2.2.2.1.calling, q.2.2.2.2.2.1.calling, q.2.2.2.2.2.2.calling⟩, fun U hU hW => ⟨rfl, by rw [hU], wx_pre hP hKX hD hU hW, hN.warm hW, th_pre hTH hS hFc hU hW, ou_pre hOU hS hFc hU hW, hNC.moved hW.alike⟩⟩ rfl rfl hl.1 rfl (lv_room (Nat.le_of_ble_eq_true rfl)) dL_law_2194 ⟨by omega, by omega⟩) hS (fun q _ h => hFc q h) hFc (fun r5 u t H1 locs ht hvm hw hB hz1 hk1 hS => ?_)
  obtain ⟨S6, f7⟩ := u
  have w8 := hw
  obtain ⟨hP, hD⟩ := wx_post hFc ht hB
  generalize H1 = H at hP hS ⊢
  have w8 : stp [(6, 4), (17, 100)] [] [] S S6 := w8
  have v9 : IV S6 o1 := IV.keep w8 hW h_o1 (by decide) (by decide) hIV
  have v10 : MV S6 o1 := MV.keep w8 hW h_o1 (by decide) (by decide) hMV
  have v11 : (R55 o2) S6 o1 := R55.keep w8 hW h_o1 (by decide) (by decide) hR_R55
  have v12 : (R58 o2) S6 o1 := R58.keep w8 hW h_o1 (by decide) (by decide) hR_R58
  have v13 : (RLT o2) S6 o1 := RLT.keep w8 hW h_o1 (by decide) (by decide) hR_RLT
  have xe14 : ext S S6 := w8.x
  refine lv_istore (lv' := [(6, .int r5), (5, .int i), (4, .ref qd), (3, .ref qo), (2, .ref o1), (1, .ref o2), (0, .ref b)]) hx hb dL_law_2197 hl (by decide) rfl (fun ls hl => ?_)
  refine lv_aload_n hx hb dL_law_2199 rfl (lv_at hl 4 rfl) ?_
  refine lv_aload_n hx hb dL_law_2200 rfl (lv_at hl 6 rfl) ?_
  refine lv_iload hx hb dL_law_2201 (lv_at hl 1 rfl) ?_
  refine lv_iconst (v := 1) hx hb dL_law_2203 (by decide) ?_
  refine lv_iadd hx hb dL_law_2204 ?_
  refine va_sld hx hb hX hbl hbA hS (inb (m := L) rfl (by omega) (by omega)) dL_law_2205 ?_
  rw [ey2]
  refine lv_aload_n hx hb dL_law_2206 rfl (lv_at hl 6 rfl) ?_
  refine lv_iload hx hb dL_law_2207 (lv_at hl 1 rfl) ?_
  refine lv_iconst (v := 2) hx hb dL_law_2209 (by decide) ?_
  refine lv_iadd hx hb dL_law_2210 ?_
  refine va_sld hx hb hX hbl hbA hS (inb (m := L) rfl (by omega) (by omega)) dL_law_2211 ?_
  rw [ey4]
  have hFc := free_all hD hS hA
  obtain ⟨k16, gk16, hk16⟩ := wGt (cy := cy) (XO c8 c9 qo qd f7 fd) S6 (xe14.A h_o1).1 (xe14.A h_o1).2.1
  refine va_calli (va_runV (As := [.int y2, .int y4]) (rest := []) ⟨hx, hb, hml, hown, hts⟩ (c_X12_quietest l (cy := cy) (X := (XO c8 c9 qo qd f7 fd)) (D := D) S6 _ o1 (xe14.A h_o1) y2 y4 (w8.w)) (cwV 2 hts gL_law_X12_quietest rfl rfl rfl hd_X12_quietest ⟨Nat.le_of_ble_eq_true rfl, Nat.le_of_ble_eq_true rfl⟩) ⟨fun a U g mk q => ⟨q.1, q.2.1, q.2.2.1.calling, NW.same (u := U) (U := U.calling g mk a) rfl q.2.2.2⟩, va_recv hK hP (q := (RX12, TX12, 34)) (ci := 16) (q0 := k16) rfl hk16, fun U hU hW => ⟨rfl, by rw [hU], wd_pre hP hK hD hU hW, hN.warm hW⟩⟩ rfl rfl hl.1 rfl (lv_room (Nat.le_of_ble_eq_true rfl)) dL_law_2212 ⟨by omega, by omega⟩) hS (fun q _ h => hFc q h) hFc (fun r15 u t H1 locs ht hvm hw hB hz1 hk1 hS => ?_)
  have w17 := hw
  obtain ⟨hP, hD⟩ := wd_post hFc ht hB
  generalize H1 = H at hP hS ⊢
  obtain ⟨S18, rfl⟩ : ∃ z, z = u := ⟨_, rfl⟩
  have v19 : IV S18 o1 := IV.keep w17 w8.w (xe14.A h_o1) (by decide) (by decide) v9
  have v20 : MV S18 o1 := MV.keep w17 w8.w (xe14.A h_o1) (by decide) (by decide) v10
  have v21 : (R55 o2) S18 o1 := R55.keep w17 w8.w (xe14.A h_o1) (by decide) (by decide) v11
  have v22 : (R58 o2) S18 o1 := R58.keep w17 w8.w (xe14.A h_o1) (by decide) (by decide) v12
  have v23 : (RLT o2) S18 o1 := RLT.keep w17 w8.w (xe14.A h_o1) (by decide) (by decide) v13
  have xe24 : ext S6 S18 := w17.x
  refine lv_istore (lv' := [(7, .int r15), (6, .int r5), (5, .int i), (4, .ref qd), (3, .ref qo), (2, .ref o1), (1, .ref o2), (0, .ref b)]) hx hb dL_law_2215 hl (by decide) rfl (fun ls hl => ?_)
  refine lv_goto (tgt := 2924) hx hb dL_law_2217 (by decide) ?_
  refine W.widen (k := cells + 40) (n := slots + 1200) (by omega) (by omega) ?_
  exact kk S18 f7 fd H _ ls ⟨hP, hD, w17.w, ((xe14.tr xe24).A h_o2), (xe24.A (xe14.A h_o1)), ((xe14.tr xe24).F h_o1 (by decide) h77), v20, v19, v21, v22, v23⟩ hS (lv_sub hl [2, 3, 4, 5, 6, 7] rfl)
set_option maxHeartbeats 4000000 in
set_option maxRecDepth 100000 in
theorem road_44 {p : Program} {l : Launch} {e : Env} {s : State} {m : MethodId} {below : List Frame} {meth : Method} {c : Code} {b L : Nat} {xs : Nat → Int32} {D : va_G} {cy : Nat → ClassId} {c8 c9 : ClassId} {e0 mi : Nat} {Q : State → Prop} {qo qd o1 o2 : Nat} (C0 : LC p l s m c b L xs D cy c8 c9 e0 mi) (hL9 : L ≤ 2560) {S : wPS} {fo : Nat → Int64} {fd : Nat → UInt64} {H : Heap} {locs : List Loc} {ls : Array Slot} {cells slots : Nat} {i : Int32} (hi : 0 ≤ i.toInt ∧ i.toInt + 5 ≤ L) (hI : LI D cy c8 c9 e0 (fun q => s.heap.size ≤ q) o1 o2 qo qd fo fd S H) (hS : va_S (fun q => s.heap.size ≤ q) s.heap H locs) (hc : cells + 40 ≤ room_1.cells) (hs : slots + 1200 ≤ room_1.slots) (hl : lv_has ls 9 [(5, .int i), (4, .ref qd), (3, .ref qo), (2, .ref o1), (1, .ref o2), (0, .ref b)]) (kk : ∀ (S2 : wPS) (fo2 : Nat → Int64) (fd2 : Nat → UInt64) (H2 : Heap) (locs2 : List Loc) (ls2 : Array Slot), LI D cy c8 c9 e0 (fun q => s.heap.size ≤ q) o1 o2 qo qd fo2 fd2 S2 H2 → va_S (fun q => s.heap.size ≤ q) s.heap H2 locs2 → lv_has ls2 9 [(5, .int i), (4, .ref qd), (3, .ref qo), (2, .ref o1), (1, .ref o2), (0, .ref b)] → W p l e room_1 s m #[Value.ref b] below meth c H2 locs2 (cells + 40) (slots + 1200) Q (F0 m 2924 ls2 [])) : W p l e room_1 s m #[Value.ref b] below meth c H locs cells slots Q (F0 m 2220 ls []) := by
  obtain ⟨hx, hb, hml, hown, hts, hX, hbl, hN, hTH, hOU, hKX, hst, hNC⟩ := id C0
  obtain ⟨hP, hD, hW, h_o2, h_o1, h77, hMV, hIV, hR_R55, hR_R58, hR_RLT⟩ := hI
  have hK := kX hKX
  have hA : ∀ q : Nat, s.heap.size ≤ q → (fun q : Nat => s.heap.size ≤ q) q := fun _ h => h
  have hbA : ¬ (fun q : Nat => s.heap.size ≤ q) b := Nat.not_le.mpr hbl
  refine lv_aload_n hx hb dL_law_2220 rfl (lv_at hl 4 rfl) ?_
  refine lv_aload_n hx hb dL_law_2221 rfl (lv_at hl 5 rfl) ?_
  refine lv_iload hx hb dL_law_2222 (lv_at hl 0 rfl) ?_
  refine lv_iconst (v := 1) hx hb dL_law_2224 (by decide) ?_
  refine lv_iadd hx hb dL_law_2225 ?_
  have l32_1 : (1 : Int32).toInt = 1 := rfl
  have i1 : (i + (1 : Int32)).toInt = i.toInt + 1 := t_addr (n := 1) rfl (by omega)
  refine va_sld hx hb hX hbl hbA hS (inb (m := L) rfl (by omega) (by omega)) dL_law_2226 ?_
  obtain ⟨y2, ey2⟩ : ∃ z : Int32, xs (i + (1 : Int32)).toNatClampNeg = z := ⟨_, rfl⟩
  rw [ey2]
  refine lv_aload_n hx hb dL_law_2227 rfl (lv_at hl 5 rfl) ?_
  refine lv_iload hx hb dL_law_2228 (lv_at hl 0 rfl) ?_
  refine lv_iconst (v := 2) hx hb dL_law_2230 (by decide) ?_
  refine lv_iadd hx hb dL_law_2231 ?_
  have l32_2 : (2 : Int32).toInt = 2 := rfl
  have i3 : (i + (2 : Int32)).toInt = i.toInt + 2 := t_addr (n := 2) rfl (by omega)
  refine va_sld hx hb hX hbl hbA hS (inb (m := L) rfl (by omega) (by omega)) dL_law_2232 ?_
  obtain ⟨y4, ey4⟩ : ∃ z : Int32, xs (i + (2 : Int32)).toNatClampNeg = z := ⟨_, rfl⟩
  rw [ey4]
  refine lv_aload_n hx hb dL_law_2233 rfl (lv_at hl 5 rfl) ?_
  refine lv_iload hx hb dL_law_2234 (lv_at hl 0 rfl) ?_
  refine lv_iconst (v := 3) hx hb dL_law_2236 (by decide) ?_
  refine lv_iadd hx hb dL_law_2237 ?_
  have l32_3 : (3 : Int32).toInt = 3 := rfl
  have i5 : (i + (3 : Int32)).toInt = i.toInt + 3 := t_addr (n := 3) rfl (by omega)
  refine va_sld hx hb hX hbl hbA hS (inb (m := L) rfl (by omega) (by omega)) dL_law_2238 ?_
  obtain ⟨y6, ey6⟩ : ∃ z : Int32, xs (i + (3 : Int32)).toNatClampNeg = z := ⟨_, rfl⟩
  rw [ey6]
  refine lv_aload_n hx hb dL_law_2239 rfl (lv_at hl 2 rfl) ?_
  have hFc := free_all hD hS hA
  refine va_calli (vx_runSW (As := [.ref o2, .int y2, .int y4, .int y6, .ref qo]) (rest := []) ⟨hx, hb, hml, hown, hts⟩ (c_L_note l hst (e0 := e0) (mi := mi) (D := D) (cy := cy) (c8 := c8) (c9 := c9) qo qd fo fd S _ o2 h_o2 y2 y4 y6 (hW)) (vx_cwSW 5 hts gL_law_L_note rfl rfl rfl (by decide +kernel) ⟨Nat.le_of_ble_eq_true rfl, Nat.le_of_ble_eq_true rfl⟩) ⟨fun a U g mk q => ⟨q.1, q.2.1, q.2.2.1.calling, NW.same (u := U) (U := U.calling g mk a) rfl q.2.2.2.1, q.2.2.2.2.1.calling, q.2.2.2.2.2.1.calling, q.2.2.2.2.2.2.calling⟩, fun U hU hW => ⟨rfl, by rw [hU], wx_pre hP hKX hD hU hW, hN.warm hW, th_pre hTH hS hFc hU hW, ou_pre hOU hS hFc hU hW, hNC.moved hW.alike⟩⟩ rfl rfl hl.1 rfl (lv_room (Nat.le_of_ble_eq_true rfl)) dL_law_2240 ⟨by omega, by omega⟩) hS (fun q _ h => hFc q h) hFc (fun r7 u t H1 locs ht hvm hw hB hz1 hk1 hS => ?_)
  obtain ⟨S8, f9⟩ := u
  have w10 := hw
  obtain ⟨hP, hD⟩ := wx_post hFc ht hB
  generalize H1 = H at hP hS ⊢
  have w10 : stp ([] : List (Nat × Nat)) [] [] S S8 := w10
  have v11 : IV S8 o1 := IV.keep w10 hW h_o1 (by decide) (by decide) hIV
  have v12 : MV S8 o1 := MV.keep w10 hW h_o1 (by decide) (by decide) hMV
  have v13 : (R55 o2) S8 o1 := R55.keep w10 hW h_o1 (by decide) (by decide) hR_R55
  have v14 : (R58 o2) S8 o1 := R58.keep w10 hW h_o1 (by decide) (by decide) hR_R58
  have v15 : (RLT o2) S8 o1 := RLT.keep w10 hW h_o1 (by decide) (by decide) hR_RLT
  have xe16 : ext S S8 := w10.x
  refine lv_istore (lv' := [(6, .int r7), (5, .int i), (4, .ref qd), (3, .ref qo), (2, .ref o1), (1, .ref o2), (0, .ref b)]) hx hb dL_law_2243 hl (by decide) rfl (fun ls hl => ?_)
  refine lv_aload_n hx hb dL_law_2245 rfl (lv_at hl 4 rfl) ?_
  refine lv_aload_n hx hb dL_law_2246 rfl (lv_at hl 6 rfl) ?_
  refine lv_iload hx hb dL_law_2247 (lv_at hl 1 rfl) ?_
  refine lv_iconst (v := 1) hx hb dL_law_2249 (by decide) ?_
  refine lv_iadd hx hb dL_law_2250 ?_
  refine va_sld hx hb hX hbl hbA hS (inb (m := L) rfl (by omega) (by omega)) dL_law_2251 ?_
  rw [ey2]
  refine lv_aload_n hx hb dL_law_2252 rfl (lv_at hl 6 rfl) ?_
  refine lv_iload hx hb dL_law_2253 (lv_at hl 1 rfl) ?_
  refine lv_iconst (v := 2) hx hb dL_law_2255 (by decide) ?_
  refine lv_iadd hx hb dL_law_2256 ?_
  refine va_sld hx hb hX hbl hbA hS (inb (m := L) rfl (by omega) (by omega)) dL_law_2257 ?_
  rw [ey4]
  refine lv_aload_n hx hb dL_law_2258 rfl (lv_at hl 6 rfl) ?_
  refine lv_iload hx hb dL_law_2259 (lv_at hl 1 rfl) ?_
  refine lv_iconst (v := 3) hx hb dL_law_2261 (by decide) ?_
  refine lv_iadd hx hb dL_law_2262 ?_
  refine va_sld hx hb hX hbl hbA hS (inb (m := L) rfl (by omega) (by omega)) dL_law_2263 ?_
  rw [ey6]
  have hFc := free_all hD hS hA
  obtain ⟨k18, gk18, hk18⟩ := wGt (cy := cy) (XO c8 c9 qo qd f9 fd) S8 (xe16.A h_o1).1 (xe16.A h_o1).2.1
  refine va_calli (va_runV (As := [.int y2, .int y4, .int y6]) (rest := []) ⟨hx, hb, hml, hown, hts⟩ (c_X12_note l (cy := cy) (X := (XO c8 c9 qo qd f9 fd)) (D := D) S8 _ o1 (xe16.A h_o1) y2 y4 y6 (w10.w)) (cwV 3 hts gL_law_X12_note rfl rfl rfl hd_X12_note ⟨Nat.le_of_ble_eq_true rfl, Nat.le_of_ble_eq_true rfl⟩) ⟨fun a U g mk q => ⟨q.1, q.2.1, q.2.2.1.calling, NW.same (u := U) (U := U.calling g mk a) rfl q.2.2.2⟩, va_recv hK hP (q := (RX12, TX12, 34)) (ci := 16) (q0 := k18) rfl hk18, fun U hU hW => ⟨rfl, by rw [hU], wd_pre hP hK hD hU hW, hN.warm hW⟩⟩ rfl rfl hl.1 rfl (lv_room (Nat.le_of_ble_eq_true rfl)) dL_law_2264 ⟨by omega, by omega⟩) hS (fun q _ h => hFc q h) hFc (fun r17 u t H1 locs ht hvm hw hB hz1 hk1 hS => ?_)
  have w19 := hw
  obtain ⟨hP, hD⟩ := wd_post hFc ht hB
  generalize H1 = H at hP hS ⊢
  obtain ⟨S20, rfl⟩ : ∃ z, z = u := ⟨_, rfl⟩
  have v21 : IV S20 o1 := IV.keep w19 w10.w (xe16.A h_o1) (by decide) (by decide) v11
  have v22 : MV S20 o1 := MV.keep w19 w10.w (xe16.A h_o1) (by decide) (by decide) v12
  have v23 : (R55 o2) S20 o1 := R55.keep w19 w10.w (xe16.A h_o1) (by decide) (by decide) v13
  have v24 : (R58 o2) S20 o1 := R58.keep w19 w10.w (xe16.A h_o1) (by decide) (by decide) v14
  have v25 : (RLT o2) S20 o1 := RLT.keep w19 w10.w (xe16.A h_o1) (by decide) (by decide) v15
  have xe26 : ext S8 S20 := w19.x
  refine lv_istore (lv' := [(7, .int r17), (6, .int r7), (5, .int i), (4, .ref qd), (3, .ref qo), (2, .ref o1), (1, .ref o2), (0, .ref b)]) hx hb dL_law_2267 hl (by decide) rfl (fun ls hl => ?_)
  refine lv_goto (tgt := 2924) hx hb dL_law_2269 (by decide) ?_
  refine W.widen (k := cells + 40) (n := slots + 1200) (by omega) (by omega) ?_
  exact kk S20 f9 fd H _ ls ⟨hP, hD, w19.w, ((xe16.tr xe26).A h_o2), (xe26.A (xe16.A h_o1)), ((xe16.tr xe26).F h_o1 (by decide) h77), v22, v21, v23, v24, v25⟩ hS (lv_sub hl [2, 3, 4, 5, 6, 7] rfl)
set_option maxHeartbeats 4000000 in
set_option maxRecDepth 100000 in
theorem road_45 {p : Program} {l : Launch} {e : Env} {s : State} {m : MethodId} {below : List Frame} {meth : Method} {c : Code} {b L : Nat} {xs : Nat → Int32} {D : va_G} {cy : Nat → ClassId} {c8 c9 : ClassId} {e0 mi : Nat} {Q : State → Prop} {qo qd o1 o2 : Nat} (C0 : LC p l s m c b L xs D cy c8 c9 e0 mi) (hL9 : L ≤ 2560) {S : wPS} {fo : Nat → Int64} {fd : Nat → UInt64} {H : Heap} {locs : List Loc} {ls : Array Slot} {cells slots : Nat} {i : Int32} (hi : 0 ≤ i.toInt ∧ i.toInt + 5 ≤ L) (hI : LI D cy c8 c9 e0 (fun q => s.heap.size ≤ q) o1 o2 qo qd fo fd S H) (hS : va_S (fun q => s.heap.size ≤ q) s.heap H locs) (hc : cells + 40 ≤ room_1.cells) (hs : slots + 1200 ≤ room_1.slots) (hl : lv_has ls 9 [(5, .int i), (4, .ref qd), (3, .ref qo), (2, .ref o1), (1, .ref o2), (0, .ref b)]) (kk : ∀ (S2 : wPS) (fo2 : Nat → Int64) (fd2 : Nat → UInt64) (H2 : Heap) (locs2 : List Loc) (ls2 : Array Slot), LI D cy c8 c9 e0 (fun q => s.heap.size ≤ q) o1 o2 qo qd fo2 fd2 S2 H2 → va_S (fun q => s.heap.size ≤ q) s.heap H2 locs2 → lv_has ls2 9 [(5, .int i), (4, .ref qd), (3, .ref qo), (2, .ref o1), (1, .ref o2), (0, .ref b)] → W p l e room_1 s m #[Value.ref b] below meth c H2 locs2 (cells + 40) (slots + 1200) Q (F0 m 2924 ls2 [])) : W p l e room_1 s m #[Value.ref b] below meth c H locs cells slots Q (F0 m 2272 ls []) := by
  obtain ⟨hx, hb, hml, hown, hts, hX, hbl, hN, hTH, hOU, hKX, hst, hNC⟩ := id C0
  obtain ⟨hP, hD, hW, h_o2, h_o1, h77, hMV, hIV, hR_R55, hR_R58, hR_RLT⟩ := hI
  have hK := kX hKX
  have hA : ∀ q : Nat, s.heap.size ≤ q → (fun q : Nat => s.heap.size ≤ q) q := fun _ h => h
  have hbA : ¬ (fun q : Nat => s.heap.size ≤ q) b := Nat.not_le.mpr hbl
  refine lv_aload_n hx hb dL_law_2272 rfl (lv_at hl 4 rfl) ?_
  refine lv_aload_n hx hb dL_law_2273 rfl (lv_at hl 5 rfl) ?_
  refine lv_iload hx hb dL_law_2274 (lv_at hl 0 rfl) ?_
  refine lv_iconst (v := 1) hx hb dL_law_2276 (by decide) ?_
  refine lv_iadd hx hb dL_law_2277 ?_
  have l32_1 : (1 : Int32).toInt = 1 := rfl
  have i1 : (i + (1 : Int32)).toInt = i.toInt + 1 := t_addr (n := 1) rfl (by omega)
  refine va_sld hx hb hX hbl hbA hS (inb (m := L) rfl (by omega) (by omega)) dL_law_2278 ?_
  obtain ⟨y2, ey2⟩ : ∃ z : Int32, xs (i + (1 : Int32)).toNatClampNeg = z := ⟨_, rfl⟩
  rw [ey2]
  refine lv_aload_n hx hb dL_law_2279 rfl (lv_at hl 5 rfl) ?_
  refine lv_iload hx hb dL_law_2280 (lv_at hl 0 rfl) ?_
  refine lv_iconst (v := 2) hx hb dL_law_2282 (by decide) ?_
  refine lv_iadd hx hb dL_law_2283 ?_
  have l32_2 : (2 : Int32).toInt = 2 := rfl
  have i3 : (i + (2 : Int32)).toInt = i.toInt + 2 := t_addr (n := 2) rfl (by omega)
  refine va_sld hx hb hX hbl hbA hS (inb (m := L) rfl (by omega) (by omega)) dL_law_2284 ?_
  obtain ⟨y4, ey4⟩ : ∃ z : Int32, xs (i + (2 : Int32)).toNatClampNeg = z := ⟨_, rfl⟩
  rw [ey4]
  refine lv_aload_n hx hb dL_law_2285 rfl (lv_at hl 2 rfl) ?_
  have hFc := free_all hD hS hA
  refine va_calli (vx_runSW (As := [.ref o2, .int y2, .int y4, .ref qo]) (rest := []) ⟨hx, hb, hml, hown, hts⟩ (c_L_hunts l hst (e0 := e0) (mi := mi) (D := D) (cy := cy) (c8 := c8) (c9 := c9) qo qd fo fd S _ o2 h_o2 y2 y4 (hW)) (vx_cwSW 4 hts gL_law_L_hunts rfl rfl rfl (by decide +kernel) ⟨Nat.le_of_ble_eq_true rfl, Nat.le_of_ble_eq_true rfl⟩) ⟨fun a U g mk q => ⟨q.1, q.2.1, q.2.2.1.calling, NW.same (u := U) (U := U.calling g mk a) rfl q.2.2.2.1, q.2.2.2.2.1.calling, q.2.2.2.2.2.1.calling, q.2.2.2.2.2.2.calling⟩, fun U hU hW => ⟨rfl, by rw [hU], wx_pre hP hKX hD hU hW, hN.warm hW, th_pre hTH hS hFc hU hW, ou_pre hOU hS hFc hU hW, hNC.moved hW.alike⟩⟩ rfl rfl hl.1 rfl (lv_room (Nat.le_of_ble_eq_true rfl)) dL_law_2286 ⟨by omega, by omega⟩) hS (fun q _ h => hFc q h) hFc (fun r5 u t H1 locs ht hvm hw hB hz1 hk1 hS => ?_)
  obtain ⟨S6, f7⟩ := u
  have w8 := hw
  obtain ⟨hP, hD⟩ := wx_post hFc ht hB
  generalize H1 = H at hP hS ⊢
  have w8 : stp ([] : List (Nat × Nat)) [] [] S S6 := w8
  have v9 : IV S6 o1 := IV.keep w8 hW h_o1 (by decide) (by decide) hIV
  have v10 : MV S6 o1 := MV.keep w8 hW h_o1 (by decide) (by decide) hMV
  have v11 : (R55 o2) S6 o1 := R55.keep w8 hW h_o1 (by decide) (by decide) hR_R55
  have v12 : (R58 o2) S6 o1 := R58.keep w8 hW h_o1 (by decide) (by decide) hR_R58
  have v13 : (RLT o2) S6 o1 := RLT.keep w8 hW h_o1 (by decide) (by decide) hR_RLT
  have xe14 : ext S S6 := w8.x
  refine lv_istore (lv' := [(6, .int r5), (5, .int i), (4, .ref qd), (3, .ref qo), (2, .ref o1), (1, .ref o2), (0, .ref b)]) hx hb dL_law_2289 hl (by decide) rfl (fun ls hl => ?_)
  refine lv_aload_n hx hb dL_law_2291 rfl (lv_at hl 4 rfl) ?_
  refine lv_aload_n hx hb dL_law_2292 rfl (lv_at hl 6 rfl) ?_
  refine lv_iload hx hb dL_law_2293 (lv_at hl 1 rfl) ?_
  refine lv_iconst (v := 1) hx hb dL_law_2295 (by decide) ?_
  refine lv_iadd hx hb dL_law_2296 ?_
  refine va_sld hx hb hX hbl hbA hS (inb (m := L) rfl (by omega) (by omega)) dL_law_2297 ?_
  rw [ey2]
  refine lv_aload_n hx hb dL_law_2298 rfl (lv_at hl 6 rfl) ?_
  refine lv_iload hx hb dL_law_2299 (lv_at hl 1 rfl) ?_
  refine lv_iconst (v := 2) hx hb dL_law_2301 (by decide) ?_
  refine lv_iadd hx hb dL_law_2302 ?_
  refine va_sld hx hb hX hbl hbA hS (inb (m := L) rfl (by omega) (by omega)) dL_law_2303 ?_
  rw [ey4]
  have hFc := free_all hD hS hA
  obtain ⟨k16, gk16, hk16⟩ := wGt (cy := cy) (XO c8 c9 qo qd f7 fd) S6 (xe14.A h_o1).1 (xe14.A h_o1).2.1
  refine va_calli (va_runV (As := [.int y2, .int y4]) (rest := []) ⟨hx, hb, hml, hown, hts⟩ (c_X12_hunts l (cy := cy) (X := (XO c8 c9 qo qd f7 fd)) (D := D) S6 _ o1 (xe14.A h_o1) y2 y4 (w8.w)) (cwV 2 hts gL_law_X12_hunts rfl rfl rfl hd_X12_hunts ⟨Nat.le_of_ble_eq_true rfl, Nat.le_of_ble_eq_true rfl⟩) ⟨fun a U g mk q => ⟨q.1, q.2.1, q.2.2.1.calling, NW.same (u := U) (U := U.calling g mk a) rfl q.2.2.2⟩, va_recv hK hP (q := (RX12, TX12, 34)) (ci := 16) (q0 := k16) rfl hk16, fun U hU hW => ⟨rfl, by rw [hU], wd_pre hP hK hD hU hW, hN.warm hW⟩⟩ rfl rfl hl.1 rfl (lv_room (Nat.le_of_ble_eq_true rfl)) dL_law_2304 ⟨by omega, by omega⟩) hS (fun q _ h => hFc q h) hFc (fun r15 u t H1 locs ht hvm hw hB hz1 hk1 hS => ?_)
  obtain ⟨c17, w18, y19⟩ := hw
  obtain ⟨hP, hD⟩ := wd_post hFc ht hB
  generalize H1 = H at hP hS ⊢
  obtain ⟨S20, rfl⟩ : ∃ z, z = u := ⟨_, rfl⟩
  have v21 : IV S20 o1 := IV.keep w18 w8.w (xe14.A h_o1) (by decide) (by decide) v9
  have v22 : MV S20 o1 := MV.keep w18 w8.w (xe14.A h_o1) (by decide) (by decide) v10
  have v23 : (R55 o2) S20 o1 := R55.keep w18 w8.w (xe14.A h_o1) (by decide) (by decide) v11
  have v24 : (R58 o2) S20 o1 := R58.keep w18 w8.w (xe14.A h_o1) (by decide) (by decide) v12
  have v25 : (RLT o2) S20 o1 := RLT.keep w18 w8.w (xe14.A h_o1) (by decide) (by decide) v13
  have xe26 : ext S6 S20 := w18.x
  refine lv_istore (lv' := [(7, .int r15), (6, .int r5), (5, .int i), (4, .ref qd), (3, .ref qo), (2, .ref o1), (1, .ref o2), (0, .ref b)]) hx hb dL_law_2307 hl (by decide) rfl (fun ls hl => ?_)
  refine lv_goto (tgt := 2924) hx hb dL_law_2309 (by decide) ?_
  refine W.widen (k := cells + 40) (n := slots + 1200) (by omega) (by omega) ?_
  exact kk S20 f7 fd H _ ls ⟨hP, hD, w18.w, ((xe14.tr xe26).A h_o2), (xe26.A (xe14.A h_o1)), ((xe14.tr xe26).F h_o1 (by decide) h77), v22, v21, v23, v24, v25⟩ hS (lv_sub hl [2, 3, 4, 5, 6, 7] rfl)
set_option maxHeartbeats 4000000 in
set_option maxRecDepth 100000 in
theorem road_46 {p : Program} {l : Launch} {e : Env} {s : State} {m : MethodId} {below : List Frame} {meth : Method} {c : Code} {b L : Nat} {xs : Nat → Int32} {D : va_G} {cy : Nat → ClassId} {c8 c9 : ClassId} {e0 mi : Nat} {Q : State → Prop} {qo qd o1 o2 : Nat} (C0 : LC p l s m c b L xs D cy c8 c9 e0 mi) (hL9 : L ≤ 2560) {S : wPS} {fo : Nat → Int64} {fd : Nat → UInt64} {H : Heap} {locs : List Loc} {ls : Array Slot} {cells slots : Nat} {i : Int32} (hi : 0 ≤ i.toInt ∧ i.toInt + 5 ≤ L) (hI : LI D cy c8 c9 e0 (fun q => s.heap.size ≤ q) o1 o2 qo qd fo fd S H) (hS : va_S (fun q => s.heap.size ≤ q) s.heap H locs) (hc : cells + 40 ≤ room_1.cells) (hs : slots + 1200 ≤ room_1.slots) (hl : lv_has ls 9 [(5, .int i), (4, .ref qd), (3, .ref qo), (2, .ref o1), (1, .ref o2), (0, .ref b)]) (kk : ∀ (S2 : wPS) (fo2 : Nat → Int64) (fd2 : Nat → UInt64) (H2 : Heap) (locs2 : List Loc) (ls2 : Array Slot), LI D cy c8 c9 e0 (fun q => s.heap.size ≤ q) o1 o2 qo qd fo2 fd2 S2 H2 → va_S (fun q => s.heap.size ≤ q) s.heap H2 locs2 → lv_has ls2 9 [(5, .int i), (4, .ref qd), (3, .ref qo), (2, .ref o1), (1, .ref o2), (0, .ref b)] → W p l e room_1 s m #[Value.ref b] below meth c H2 locs2 (cells + 40) (slots + 1200) Q (F0 m 2924 ls2 [])) : W p l e room_1 s m #[Value.ref b] below meth c H locs cells slots Q (F0 m 2312 ls []) := by
  obtain ⟨hx, hb, hml, hown, hts, hX, hbl, hN, hTH, hOU, hKX, hst, hNC⟩ := id C0
  obtain ⟨hP, hD, hW, h_o2, h_o1, h77, hMV, hIV, hR_R55, hR_R58, hR_RLT⟩ := hI
  have hK := kX hKX
  have hA : ∀ q : Nat, s.heap.size ≤ q → (fun q : Nat => s.heap.size ≤ q) q := fun _ h => h
  have hbA : ¬ (fun q : Nat => s.heap.size ≤ q) b := Nat.not_le.mpr hbl
  refine lv_aload_n hx hb dL_law_2312 rfl (lv_at hl 4 rfl) ?_
  refine lv_aload_n hx hb dL_law_2313 rfl (lv_at hl 5 rfl) ?_
  refine lv_iload hx hb dL_law_2314 (lv_at hl 0 rfl) ?_
  refine lv_iconst (v := 1) hx hb dL_law_2316 (by decide) ?_
  refine lv_iadd hx hb dL_law_2317 ?_
  have l32_1 : (1 : Int32).toInt = 1 := rfl
  have i1 : (i + (1 : Int32)).toInt = i.toInt + 1 := t_addr (n := 1) rfl (by omega)
  refine va_sld hx hb hX hbl hbA hS (inb (m := L) rfl (by omega) (by omega)) dL_law_2318 ?_
  obtain ⟨y2, ey2⟩ : ∃ z : Int32, xs (i + (1 : Int32)).toNatClampNeg = z := ⟨_, rfl⟩
  rw [ey2]
  refine lv_aload_n hx hb dL_law_2319 rfl (lv_at hl 2 rfl) ?_
  have hFc := free_all hD hS hA
  refine va_calli (vx_runSW (As := [.ref o2, .int y2, .ref qo]) (rest := []) ⟨hx, hb, hml, hown, hts⟩ (c_L_bears l hst (e0 := e0) (mi := mi) (D := D) (cy := cy) (c8 := c8) (c9 := c9) qo qd fo fd S _ o2 h_o2 y2 (hW)) (vx_cwSW 3 hts gL_law_L_bears rfl rfl rfl (by decide +kernel) ⟨Nat.le_of_ble_eq_true rfl, Nat.le_of_ble_eq_true rfl⟩) ⟨fun a U g mk q => ⟨q.1, q.2.1, q.2.2.1.calling, NW.same (u := U) (U := U.calling g mk a) rfl q.2.2.2.1, q.2.2.2.2.1.calling, q.2.2.2.2.2.1.calling, q.2.2.2.2.2.2.calling⟩, fun U hU hW => ⟨rfl, by rw [hU], wx_pre hP hKX hD hU hW, hN.warm hW, th_pre hTH hS hFc hU hW, ou_pre hOU hS hFc hU hW, hNC.moved hW.alike⟩⟩ rfl rfl hl.1 rfl (lv_room (Nat.le_of_ble_eq_true rfl)) dL_law_2320 ⟨by omega, by omega⟩) hS (fun q _ h => hFc q h) hFc (fun r3 u t H1 locs ht hvm hw hB hz1 hk1 hS => ?_)
  obtain ⟨S4, f5⟩ := u
  have w6 := hw
  obtain ⟨hP, hD⟩ := wx_post hFc ht hB
  generalize H1 = H at hP hS ⊢
  have w6 : stp ([] : List (Nat × Nat)) [] [] S S4 := w6
  have v7 : IV S4 o1 := IV.keep w6 hW h_o1 (by decide) (by decide) hIV
  have v8 : MV S4 o1 := MV.keep w6 hW h_o1 (by decide) (by decide) hMV
  have v9 : (R55 o2) S4 o1 := R55.keep w6 hW h_o1 (by decide) (by decide) hR_R55
  have v10 : (R58 o2) S4 o1 := R58.keep w6 hW h_o1 (by decide) (by decide) hR_R58
  have v11 : (RLT o2) S4 o1 := RLT.keep w6 hW h_o1 (by decide) (by decide) hR_RLT
  have xe12 : ext S S4 := w6.x
  refine lv_istore (lv' := [(6, .int r3), (5, .int i), (4, .ref qd), (3, .ref qo), (2, .ref o1), (1, .ref o2), (0, .ref b)]) hx hb dL_law_2323 hl (by decide) rfl (fun ls hl => ?_)
  refine lv_aload_n hx hb dL_law_2325 rfl (lv_at hl 4 rfl) ?_
  refine lv_aload_n hx hb dL_law_2326 rfl (lv_at hl 6 rfl) ?_
  refine lv_iload hx hb dL_law_2327 (lv_at hl 1 rfl) ?_
  refine lv_iconst (v := 1) hx hb dL_law_2329 (by decide) ?_
  refine lv_iadd hx hb dL_law_2330 ?_
  refine va_sld hx hb hX hbl hbA hS (inb (m := L) rfl (by omega) (by omega)) dL_law_2331 ?_
  rw [ey2]
  have hFc := free_all hD hS hA
  obtain ⟨k14, gk14, hk14⟩ := wGt (cy := cy) (XO c8 c9 qo qd f5 fd) S4 (xe12.A h_o1).1 (xe12.A h_o1).2.1
  refine va_calli (va_runV (As := [.int y2]) (rest := []) ⟨hx, hb, hml, hown, hts⟩ (c_X12_bears l (cy := cy) (X := (XO c8 c9 qo qd f5 fd)) (D := D) S4 _ o1 (xe12.A h_o1) y2 (w6.w)) (cwV 1 hts gL_law_X12_bears rfl rfl rfl hd_X12_bears ⟨Nat.le_of_ble_eq_true rfl, Nat.le_of_ble_eq_true rfl⟩) ⟨fun a U g mk q => ⟨q.1, q.2.1, q.2.2.1.calling, NW.same (u := U) (U := U.calling g mk a) rfl q.2.2.2⟩, va_recv hK hP (q := (RX12, TX12, 34)) (ci := 16) (q0 := k14) rfl hk14, fun U hU hW => ⟨rfl, by rw [hU], wd_pre hP hK hD hU hW, hN.warm hW⟩⟩ rfl rfl hl.1 rfl (lv_room (Nat.le_of_ble_eq_true rfl)) dL_law_2332 ⟨by omega, by omega⟩) hS (fun q _ h => hFc q h) hFc (fun r13 u t H1 locs ht hvm hw hB hz1 hk1 hS => ?_)
  have w15 := hw
  obtain ⟨hP, hD⟩ := wd_post hFc ht hB
  generalize H1 = H at hP hS ⊢
  obtain ⟨S16, rfl⟩ : ∃ z, z = u := ⟨_, rfl⟩
  have v17 : IV S16 o1 := IV.keep w15 w6.w (xe12.A h_o1) (by decide) (by decide) v7
  have v18 : MV S16 o1 := MV.keep w15 w6.w (xe12.A h_o1) (by decide) (by decide) v8
  have v19 : (R55 o2) S16 o1 := R55.keep w15 w6.w (xe12.A h_o1) (by decide) (by decide) v9
  have v20 : (R58 o2) S16 o1 := R58.keep w15 w6.w (xe12.A h_o1) (by decide) (by decide) v10
  have v21 : (RLT o2) S16 o1 := RLT.keep w15 w6.w (xe12.A h_o1) (by decide) (by decide) v11
  have xe22 : ext S4 S16 := w15.x
  refine lv_istore (lv' := [(7, .int r13), (6, .int r3), (5, .int i), (4, .ref qd), (3, .ref qo), (2, .ref o1), (1, .ref o2), (0, .ref b)]) hx hb dL_law_2335 hl (by decide) rfl (fun ls hl => ?_)
  refine lv_goto (tgt := 2924) hx hb dL_law_2337 (by decide) ?_
  refine W.widen (k := cells + 40) (n := slots + 1200) (by omega) (by omega) ?_
  exact kk S16 f5 fd H _ ls ⟨hP, hD, w15.w, ((xe12.tr xe22).A h_o2), (xe22.A (xe12.A h_o1)), ((xe12.tr xe22).F h_o1 (by decide) h77), v18, v17, v19, v20, v21⟩ hS (lv_sub hl [2, 3, 4, 5, 6, 7] rfl)
set_option maxHeartbeats 4000000 in
set_option maxRecDepth 100000 in
theorem road_47 {p : Program} {l : Launch} {e : Env} {s : State} {m : MethodId} {below : List Frame} {meth : Method} {c : Code} {b L : Nat} {xs : Nat → Int32} {D : va_G} {cy : Nat → ClassId} {c8 c9 : ClassId} {e0 mi : Nat} {Q : State → Prop} {qo qd o1 o2 : Nat} (C0 : LC p l s m c b L xs D cy c8 c9 e0 mi) (hL9 : L ≤ 2560) {S : wPS} {fo : Nat → Int64} {fd : Nat → UInt64} {H : Heap} {locs : List Loc} {ls : Array Slot} {cells slots : Nat} {i : Int32} (hi : 0 ≤ i.toInt ∧ i.toInt + 5 ≤ L) (hI : LI D cy c8 c9 e0 (fun q => s.heap.size ≤ q) o1 o2 qo qd fo fd S H) (hS : va_S (fun q => s.heap.size ≤ q) s.heap H locs) (hc : cells + 40 ≤ room_1.cells) (hs : slots + 1200 ≤ room_1.slots) (hl : lv_has ls 9 [(5, .int i), (4, .ref qd), (3, .ref qo), (2, .ref o1), (1, .ref o2), (0, .ref b)]) (kk : ∀ (S2 : wPS) (fo2 : Nat → Int64) (fd2 : Nat → UInt64) (H2 : Heap) (locs2 : List Loc) (ls2 : Array Slot), LI D cy c8 c9 e0 (fun q => s.heap.size ≤ q) o1 o2 qo qd fo2 fd2 S2 H2 → va_S (fun q => s.heap.size ≤ q) s.heap H2 locs2 → lv_has ls2 9 [(5, .int i), (4, .ref qd), (3, .ref qo), (2, .ref o1), (1, .ref o2), (0, .ref b)] → W p l e room_1 s m #[Value.ref b] below meth c H2 locs2 (cells + 40) (slots + 1200) Q (F0 m 2924 ls2 [])) : W p l e room_1 s m #[Value.ref b] below meth c H locs cells slots Q (F0 m 2340 ls []) := by
  obtain ⟨hx, hb, hml, hown, hts, hX, hbl, hN, hTH, hOU, hKX, hst, hNC⟩ := id C0
  obtain ⟨hP, hD, hW, h_o2, h_o1, h77, hMV, hIV, hR_R55, hR_R58, hR_RLT⟩ := hI
  have hK := kX hKX
  have hA : ∀ q : Nat, s.heap.size ≤ q → (fun q : Nat => s.heap.size ≤ q) q := fun _ h => h
  have hbA : ¬ (fun q : Nat => s.heap.size ≤ q) b := Nat.not_le.mpr hbl
  refine lv_aload_n hx hb dL_law_2340 rfl (lv_at hl 4 rfl) ?_
  refine lv_aload_n hx hb dL_law_2341 rfl (lv_at hl 5 rfl) ?_
  refine lv_iload hx hb dL_law_2342 (lv_at hl 0 rfl) ?_
  refine lv_iconst (v := 1) hx hb dL_law_2344 (by decide) ?_
  refine lv_iadd hx hb dL_law_2345 ?_
  have l32_1 : (1 : Int32).toInt = 1 := rfl
  have i1 : (i + (1 : Int32)).toInt = i.toInt + 1 := t_addr (n := 1) rfl (by omega)
  refine va_sld hx hb hX hbl hbA hS (inb (m := L) rfl (by omega) (by omega)) dL_law_2346 ?_
  obtain ⟨y2, ey2⟩ : ∃ z : Int32, xs (i + (1 : Int32)).toNatClampNeg = z := ⟨_, rfl⟩
  rw [ey2]
  refine lv_aload_n hx hb dL_law_2347 rfl (lv_at hl 5 rfl) ?_
  refine lv_iload hx hb dL_law_2348 (lv_at hl 0 rfl) ?_
  refine lv_iconst (v := 2) hx hb dL_law_2350 (by decide) ?_
  refine lv_iadd hx hb dL_law_2351 ?_
  have l32_2 : (2 : Int32).toInt = 2 := rfl
  have i3 : (i + (2 : Int32)).toInt = i.toInt + 2 := t_addr (n := 2) rfl (by omega)
  refine va_sld hx hb hX hbl hbA hS (inb (m := L) rfl (by omega) (by omega)) dL_law_2352 ?_
  obtain ⟨y4, ey4⟩ : ∃ z : Int32, xs (i + (2 : Int32)).toNatClampNeg = z := ⟨_, rfl⟩
  rw [ey4]
  refine lv_aload_n hx hb dL_law_2353 rfl (lv_at hl 2 rfl) ?_
  have hFc := free_all hD hS hA
  refine va_calli (vx_runSW (As := [.ref o2, .int y2, .int y4, .ref qo]) (rest := []) ⟨hx, hb, hml, hown, hts⟩ (c_L_life l hst (e0 := e0) (mi := mi) (D := D) (cy := cy) (c8 := c8) (c9 := c9) qo qd fo fd S _ o2 h_o2 y2 y4 (hW)) (vx_cwSW 4 hts gL_law_L_life rfl rfl rfl (by decide +kernel) ⟨Nat.le_of_ble_eq_true rfl, Nat.le_of_ble_eq_true rfl⟩) ⟨fun a U g mk q => ⟨q.1, q.2.1, q.2.2.1.calling, NW.same (u := U) (U := U.calling g mk a) rfl q.2.2.2.1, q.2.2.2.2.1.calling, q.2.2.2.2.2.1.calling, q.2.2.2.2.2.2.calling⟩, fun U hU hW => ⟨rfl, by rw [hU], wx_pre hP hKX hD hU hW, hN.warm hW, th_pre hTH hS hFc hU hW, ou_pre hOU hS hFc hU hW, hNC.moved hW.alike⟩⟩ rfl rfl hl.1 rfl (lv_room (Nat.le_of_ble_eq_true rfl)) dL_law_2354 ⟨by omega, by omega⟩) hS (fun q _ h => hFc q h) hFc (fun r5 u t H1 locs ht hvm hw hB hz1 hk1 hS => ?_)
  obtain ⟨S6, f7⟩ := u
  have w8 := hw
  obtain ⟨hP, hD⟩ := wx_post hFc ht hB
  generalize H1 = H at hP hS ⊢
  have w8 : stp ([] : List (Nat × Nat)) [] [] S S6 := w8
  have v9 : IV S6 o1 := IV.keep w8 hW h_o1 (by decide) (by decide) hIV
  have v10 : MV S6 o1 := MV.keep w8 hW h_o1 (by decide) (by decide) hMV
  have v11 : (R55 o2) S6 o1 := R55.keep w8 hW h_o1 (by decide) (by decide) hR_R55
  have v12 : (R58 o2) S6 o1 := R58.keep w8 hW h_o1 (by decide) (by decide) hR_R58
  have v13 : (RLT o2) S6 o1 := RLT.keep w8 hW h_o1 (by decide) (by decide) hR_RLT
  have xe14 : ext S S6 := w8.x
  refine lv_istore (lv' := [(6, .int r5), (5, .int i), (4, .ref qd), (3, .ref qo), (2, .ref o1), (1, .ref o2), (0, .ref b)]) hx hb dL_law_2357 hl (by decide) rfl (fun ls hl => ?_)
  refine lv_aload_n hx hb dL_law_2359 rfl (lv_at hl 4 rfl) ?_
  refine lv_aload_n hx hb dL_law_2360 rfl (lv_at hl 6 rfl) ?_
  refine lv_iload hx hb dL_law_2361 (lv_at hl 1 rfl) ?_
  refine lv_iconst (v := 1) hx hb dL_law_2363 (by decide) ?_
  refine lv_iadd hx hb dL_law_2364 ?_
  refine va_sld hx hb hX hbl hbA hS (inb (m := L) rfl (by omega) (by omega)) dL_law_2365 ?_
  rw [ey2]
  refine lv_aload_n hx hb dL_law_2366 rfl (lv_at hl 6 rfl) ?_
  refine lv_iload hx hb dL_law_2367 (lv_at hl 1 rfl) ?_
  refine lv_iconst (v := 2) hx hb dL_law_2369 (by decide) ?_
  refine lv_iadd hx hb dL_law_2370 ?_
  refine va_sld hx hb hX hbl hbA hS (inb (m := L) rfl (by omega) (by omega)) dL_law_2371 ?_
  rw [ey4]
  have hFc := free_all hD hS hA
  obtain ⟨k16, gk16, hk16⟩ := wGt (cy := cy) (XO c8 c9 qo qd f7 fd) S6 (xe14.A h_o1).1 (xe14.A h_o1).2.1
  refine va_calll (va_runV (As := [.int y2, .int y4]) (rest := []) ⟨hx, hb, hml, hown, hts⟩ (c_X12_life l (cy := cy) (X := (XO c8 c9 qo qd f7 fd)) (D := D) S6 _ o1 (xe14.A h_o1) y2 y4 (w8.w)) (cwV 2 hts gL_law_X12_life rfl rfl rfl hd_X12_life ⟨Nat.le_of_ble_eq_true rfl, Nat.le_of_ble_eq_true rfl⟩) ⟨fun a U g mk q => ⟨q.1, q.2.1, q.2.2.1.calling, NW.same (u := U) (U := U.calling g mk a) rfl q.2.2.2⟩, va_recv hK hP (q := (RX12, TX12, 34)) (ci := 16) (q0 := k16) rfl hk16, fun U hU hW => ⟨rfl, by rw [hU], wd_pre hP hK hD hU hW, hN.warm hW⟩⟩ rfl rfl hl.1 rfl (lv_room (Nat.le_of_ble_eq_true rfl)) dL_law_2372 ⟨by omega, by omega⟩) hS (fun q _ h => hFc q h) hFc (fun r15 u t H1 locs ht hvm hw hB hz1 hk1 hS => ?_)
  have w17 := hw
  obtain ⟨hP, hD⟩ := wd_post hFc ht hB
  generalize H1 = H at hP hS ⊢
  obtain ⟨S18, rfl⟩ : ∃ z, z = u := ⟨_, rfl⟩
  have v19 : IV S18 o1 := IV.keep w17 w8.w (xe14.A h_o1) (by decide) (by decide) v9
  have v20 : MV S18 o1 := MV.keep w17 w8.w (xe14.A h_o1) (by decide) (by decide) v10
  have v21 : (R55 o2) S18 o1 := R55.keep w17 w8.w (xe14.A h_o1) (by decide) (by decide) v11
  have v22 : (R58 o2) S18 o1 := R58.keep w17 w8.w (xe14.A h_o1) (by decide) (by decide) v12
  have v23 : (RLT o2) S18 o1 := RLT.keep w17 w8.w (xe14.A h_o1) (by decide) (by decide) v13
  have xe24 : ext S6 S18 := w17.x
  refine lv_lstore (lv' := [(7, .long r15), (6, .int r5), (5, .int i), (4, .ref qd), (3, .ref qo), (2, .ref o1), (1, .ref o2), (0, .ref b)]) hx hb dL_law_2375 hl (by decide) rfl (fun ls hl => ?_)
  refine lv_goto (tgt := 2924) hx hb dL_law_2377 (by decide) ?_
  refine W.widen (k := cells + 40) (n := slots + 1200) (by omega) (by omega) ?_
  exact kk S18 f7 fd H _ ls ⟨hP, hD, w17.w, ((xe14.tr xe24).A h_o2), (xe24.A (xe14.A h_o1)), ((xe14.tr xe24).F h_o1 (by decide) h77), v20, v19, v21, v22, v23⟩ hS (lv_sub hl [2, 3, 4, 5, 6, 7] rfl)
