theorem wsL_law_mem (w : Cond) (h : w ∈ wsL_law0_r1) : w ∈ wsL_law := by
  rw [lwT_eq]
  exact List.mem_flatten.mpr ⟨_, List.mem_cons_self, h⟩
set_option maxHeartbeats 40000000 in
set_option maxRecDepth 100000 in
/-- THE LAW'S LOOP: n rounds at most are left -/
theorem law_loop {p : Program} {l : Launch} {e : Env} {s : State} {m : MethodId} {below : List Frame} {meth : Method} {c : Code} {b L : Nat} {xs : Nat → Int32} {D : va_G} {cy : Nat → ClassId} {c8 c9 : ClassId} {e0 mi : Nat} {Q : State → Prop} {qo qd o1 o2 : Nat} (C0 : LC p l s m c b L xs D cy c8 c9 e0 mi) (hL9 : L ≤ 2560) (hend : ∀ (H : Heap) (locs : List Loc) (ls : Array Slot), va_S (fun q => s.heap.size ≤ q) s.heap H locs → W p l e room_1 s m #[Value.ref b] below meth c H locs 603072 7215210 Q (F0 m 2930 ls [])) : ∀ (n : Nat) (i : Int32) (cells slots : Nat) (S : wPS) (fo : Nat → Int64) (fd : Nat → UInt64) (H : Heap) (locs : List Loc) (ls : Array Slot), 0 ≤ i.toInt → i.toInt ≤ 3000 → (L : Int) < i.toInt + 5 + 5 * n → cells + 40 * n ≤ room_1.cells → slots + 1200 * n ≤ room_1.slots → LI D cy c8 c9 e0 (fun q => s.heap.size ≤ q) o1 o2 qo qd fo fd S H → va_S (fun q => s.heap.size ≤ q) s.heap H locs → lv_has ls 9 [(5, .int i), (4, .ref qd), (3, .ref qo), (2, .ref o1), (1, .ref o2), (0, .ref b)] → W p l e room_1 s m #[Value.ref b] below meth c H locs cells slots Q (F0 m 28 ls []) := by
  obtain ⟨hx, hb, hml, hown, hts, hX, hbl, hN, hTH, hOU, hKX, hst, hNC⟩ := id C0
  have hbA : ¬ (fun q : Nat => s.heap.size ≤ q) b := Nat.not_le.mpr hbl
  have hrc : room_1.cells = 603072 := rfl
  have hrs : room_1.slots = 7215210 := rfl
  have l5 : (5 : Int32).toInt = 5 := rfl
  have hLi : (nI L).toInt = (L : Int) := nI_toInt (by omega)
  have hL5 : (Int32.ofNat L - (5 : Int32)).toInt = (L : Int) - 5 := by
    show (nI L - (5 : Int32)).toInt = (L : Int) - 5
    rw [t_sub (by omega), hLi, l5]
  obtain ⟨v5, hv5⟩ : ∃ v : Int32, Int32.ofNat L - (5 : Int32) = v := ⟨_, rfl⟩
  rw [hv5] at hL5
  intro n
  induction n with
  | zero =>
    intro i cells slots S fo fd H locs ls h0 h3 hn hc hs hI hS hl
    refine lv_iload hx hb dL_law_28 (lv_at hl 0 rfl) ?_
    refine lv_aload_n hx hb dL_law_30 rfl (lv_at hl 5 rfl) ?_
    refine va_slen hx hb hX hbl hbA hS dL_law_31 ?_
    refine lv_iconst (v := 5) hx hb dL_law_32 (by decide) ?_
    refine lv_isub hx hb dL_law_33 ?_
    rw [hv5]
    refine lv_icmp_gt (tgt := 2930) hx hb dL_law_34 (by decide) (fun h1 => ?_) (fun h1 => ?_)
    · refine W.widen (k := 603072) (n := 7215210) (by omega) (by omega) ?_
      exact hend H locs ls hS
    · have h2 := nlt_i h1
      omega
  | succ n ih =>
    intro i cells slots S fo fd H locs ls h0 h3 hn hc hs hI hS hl
    refine lv_iload hx hb dL_law_28 (lv_at hl 0 rfl) ?_
    refine lv_aload_n hx hb dL_law_30 rfl (lv_at hl 5 rfl) ?_
    refine va_slen hx hb hX hbl hbA hS dL_law_31 ?_
    refine lv_iconst (v := 5) hx hb dL_law_32 (by decide) ?_
    refine lv_isub hx hb dL_law_33 ?_
    rw [hv5]
    refine lv_icmp_gt (tgt := 2930) hx hb dL_law_34 (by decide) (fun h1 => ?_) (fun h1 => ?_)
    · refine W.widen (k := 603072) (n := 7215210) (by omega) (by omega) ?_
      exact hend H locs ls hS
    · have h2 := nlt_i h1
      have hi : 0 ≤ i.toInt ∧ i.toInt + 5 ≤ L := ⟨h0, by omega⟩
      have hc1 : cells + 40 ≤ room_1.cells := by omega
      have hs1 : slots + 1200 ≤ room_1.slots := by omega
      have kk : ∀ (S2 : wPS) (fo2 : Nat → Int64) (fd2 : Nat → UInt64) (H2 : Heap) (locs2 : List Loc) (ls2 : Array Slot), LI D cy c8 c9 e0 (fun q => s.heap.size ≤ q) o1 o2 qo qd fo2 fd2 S2 H2 → va_S (fun q => s.heap.size ≤ q) s.heap H2 locs2 → lv_has ls2 9 [(5, .int i), (4, .ref qd), (3, .ref qo), (2, .ref o1), (1, .ref o2), (0, .ref b)] → W p l e room_1 s m #[Value.ref b] below meth c H2 locs2 (cells + 40) (slots + 1200) Q (F0 m 2924 ls2 []) := by
        intro S2 fo2 fd2 H2 locs2 ls2 hI2 hS2 hl2
        have h5 : (i + (5 : Int32)).toInt = i.toInt + 5 := t_addr (n := 5) rfl (by omega)
        obtain ⟨j, hj⟩ : ∃ j : Int32, i + (5 : Int32) = j := ⟨_, rfl⟩
        rw [hj] at h5
        refine lv_iinc (v := j) (lv' := [(5, .int j), (4, .ref qd), (3, .ref qo), (2, .ref o1), (1, .ref o2), (0, .ref b)]) hx hb dL_law_2924 hl2 (k := 0) rfl (by rw [← hj]; rfl) (by decide) rfl (fun ls3 hl3 => ?_)
        refine lv_goto (tgt := 28) hx hb dL_law_2927 (by decide) ?_
        exact ih j _ _ S2 fo2 fd2 H2 locs2 ls3 (by omega) (by omega) (by omega) (by omega) (by omega) hI2 hS2 hl3
      refine lv_aload_n hx hb dL_law_37 rfl (lv_at hl 5 rfl) ?_
      refine lv_iload hx hb dL_law_38 (lv_at hl 0 rfl) ?_
      refine va_sld hx hb hX hbl hbA hS (inb (m := L) rfl (by omega) (by omega)) dL_law_40 ?_
      refine lv_bipush (v := 63) hx hb dL_law_41 (by decide +kernel) ?_
      refine lv_iand hx hb dL_law_43 ?_
      obtain ⟨y, hy⟩ : ∃ y : Int32, xs i.toNatClampNeg &&& (63 : Int32) = y := ⟨_, rfl⟩
      rw [hy]
      clear hy hend ih h1
      by_cases g0 : y = 0
      · rw [g0]
        refine lv_tableIn (x := 0) (tgt := 312) hx hb dL_law_44 (by decide) (by decide) rfl (by decide) ?_
        exact road_0 C0 hL9 hi hI hS hc1 hs1 hl kk
      have i0 : ¬ y.toInt = 0 := neq_v rfl rfl g0
      clear g0
      by_cases g1 : y = 1
      · rw [g1]
        refine lv_tableIn (x := 1) (tgt := 404) hx hb dL_law_44 (by decide) (by decide) rfl (by decide) ?_
        exact road_1 C0 hL9 hi hI hS hc1 hs1 hl kk
      have i1 : ¬ y.toInt = 1 := neq_v rfl rfl g1
      clear g1
      by_cases g2 : y = 2
      · rw [g2]
        refine lv_tableIn (x := 2) (tgt := 444) hx hb dL_law_44 (by decide) (by decide) rfl (by decide) ?_
        exact road_2 C0 hL9 hi hI hS hc1 hs1 hl kk
      have i2 : ¬ y.toInt = 2 := neq_v rfl rfl g2
      clear g2
      by_cases g3 : y = 3
      · rw [g3]
        refine lv_tableIn (x := 3) (tgt := 472) hx hb dL_law_44 (by decide) (by decide) rfl (by decide) ?_
        exact road_3 C0 hL9 hi hI hS hc1 hs1 hl kk
      have i3 : ¬ y.toInt = 3 := neq_v rfl rfl g3
      clear g3
      by_cases g4 : y = 4
      · rw [g4]
        refine lv_tableIn (x := 4) (tgt := 500) hx hb dL_law_44 (by decide) (by decide) rfl (by decide) ?_
        exact road_4 C0 hL9 hi hI hS hc1 hs1 hl kk
      have i4 : ¬ y.toInt = 4 := neq_v rfl rfl g4
      clear g4
      by_cases g5 : y = 5
      · rw [g5]
        refine lv_tableIn (x := 5) (tgt := 528) hx hb dL_law_44 (by decide) (by decide) rfl (by decide) ?_
        exact road_5 C0 hL9 hi hI hS hc1 hs1 hl kk
      have i5 : ¬ y.toInt = 5 := neq_v rfl rfl g5
      clear g5
      by_cases g6 : y = 6
      · rw [g6]
        refine lv_tableIn (x := 6) (tgt := 556) hx hb dL_law_44 (by decide) (by decide) rfl (by decide) ?_
        exact road_6 C0 hL9 hi hI hS hc1 hs1 hl kk
      have i6 : ¬ y.toInt = 6 := neq_v rfl rfl g6
      clear g6
      by_cases g7 : y = 7
      · rw [g7]
        refine lv_tableIn (x := 7) (tgt := 584) hx hb dL_law_44 (by decide) (by decide) rfl (by decide) ?_
        exact road_7 C0 hL9 hi hI hS hc1 hs1 hl kk
      have i7 : ¬ y.toInt = 7 := neq_v rfl rfl g7
      clear g7
      by_cases g8 : y = 8
      · rw [g8]
        refine lv_tableIn (x := 8) (tgt := 624) hx hb dL_law_44 (by decide) (by decide) rfl (by decide) ?_
        exact road_8 C0 hL9 hi hI hS hc1 hs1 hl kk
      have i8 : ¬ y.toInt = 8 := neq_v rfl rfl g8
      clear g8
      by_cases g9 : y = 9
      · rw [g9]
        refine lv_tableIn (x := 9) (tgt := 664) hx hb dL_law_44 (by decide) (by decide) rfl (by decide) ?_
        exact road_9 C0 hL9 hi hI hS hc1 hs1 hl kk
      have i9 : ¬ y.toInt = 9 := neq_v rfl rfl g9
      clear g9
      by_cases g10 : y = 10
      · rw [g10]
        refine lv_tableIn (x := 10) (tgt := 704) hx hb dL_law_44 (by decide) (by decide) rfl (by decide) ?_
        exact road_10 C0 hL9 hi hI hS hc1 hs1 hl kk
      have i10 : ¬ y.toInt = 10 := neq_v rfl rfl g10
      clear g10
      by_cases g11 : y = 11
      · rw [g11]
        refine lv_tableIn (x := 11) (tgt := 744) hx hb dL_law_44 (by decide) (by decide) rfl (by decide) ?_
        exact road_11 C0 hL9 hi hI hS hc1 hs1 hl kk
      have i11 : ¬ y.toInt = 11 := neq_v rfl rfl g11
      clear g11
      by_cases g12 : y = 12
      · rw [g12]
        refine lv_tableIn (x := 12) (tgt := 784) hx hb dL_law_44 (by decide) (by decide) rfl (by decide) ?_
        exact road_12 C0 hL9 hi hI hS hc1 hs1 hl kk
      have i12 : ¬ y.toInt = 12 := neq_v rfl rfl g12
      clear g12
      by_cases g13 : y = 13
      · rw [g13]
        refine lv_tableIn (x := 13) (tgt := 824) hx hb dL_law_44 (by decide) (by decide) rfl (by decide) ?_
        exact road_13 C0 hL9 hi hI hS hc1 hs1 hl kk
      have i13 : ¬ y.toInt = 13 := neq_v rfl rfl g13
      clear g13
      by_cases g14 : y = 14
      · rw [g14]
        refine lv_tableIn (x := 14) (tgt := 888) hx hb dL_law_44 (by decide) (by decide) rfl (by decide) ?_
        exact road_14 C0 hL9 hi hI hS hc1 hs1 hl kk
      have i14 : ¬ y.toInt = 14 := neq_v rfl rfl g14
      clear g14
      by_cases g15 : y = 15
      · rw [g15]
        refine lv_tableIn (x := 15) (tgt := 952) hx hb dL_law_44 (by decide) (by decide) rfl (by decide) ?_
        exact road_15 C0 hL9 hi hI hS hc1 hs1 hl kk
      have i15 : ¬ y.toInt = 15 := neq_v rfl rfl g15
      clear g15
      by_cases g16 : y = 16
      · rw [g16]
        refine lv_tableIn (x := 16) (tgt := 1016) hx hb dL_law_44 (by decide) (by decide) rfl (by decide) ?_
        exact road_16 C0 hL9 hi hI hS hc1 hs1 hl kk
      have i16 : ¬ y.toInt = 16 := neq_v rfl rfl g16
      clear g16
      by_cases g17 : y = 17
      · rw [g17]
        refine lv_tableIn (x := 17) (tgt := 1068) hx hb dL_law_44 (by decide) (by decide) rfl (by decide) ?_
        exact road_17 C0 hL9 hi hI hS hc1 hs1 hl kk
      have i17 : ¬ y.toInt = 17 := neq_v rfl rfl g17
      clear g17
      by_cases g18 : y = 18
      · rw [g18]
        refine lv_tableIn (x := 18) (tgt := 1132) hx hb dL_law_44 (by decide) (by decide) rfl (by decide) ?_
        exact road_18 C0 hL9 hi hI hS hc1 hs1 hl kk
      have i18 : ¬ y.toInt = 18 := neq_v rfl rfl g18
      clear g18
      by_cases g19 : y = 19
      · rw [g19]
        refine lv_tableIn (x := 19) (tgt := 1160) hx hb dL_law_44 (by decide) (by decide) rfl (by decide) ?_
        exact road_19 C0 hL9 hi hI hS hc1 hs1 hl kk
      have i19 : ¬ y.toInt = 19 := neq_v rfl rfl g19
      clear g19
      by_cases g20 : y = 20
      · rw [g20]
        refine lv_tableIn (x := 20) (tgt := 1212) hx hb dL_law_44 (by decide) (by decide) rfl (by decide) ?_
        exact road_20 C0 hL9 hi hI hS hc1 hs1 hl kk
      have i20 : ¬ y.toInt = 20 := neq_v rfl rfl g20
      clear g20
      by_cases g21 : y = 21
      · rw [g21]
        refine lv_tableIn (x := 21) (tgt := 1264) hx hb dL_law_44 (by decide) (by decide) rfl (by decide) ?_
        exact road_21 C0 hL9 hi hI hS hc1 hs1 hl kk
      have i21 : ¬ y.toInt = 21 := neq_v rfl rfl g21
      clear g21
      by_cases g22 : y = 22
      · rw [g22]
        refine lv_tableIn (x := 22) (tgt := 1304) hx hb dL_law_44 (by decide) (by decide) rfl (by decide) ?_
        exact road_22 C0 hL9 hi hI hS hc1 hs1 hl kk
      have i22 : ¬ y.toInt = 22 := neq_v rfl rfl g22
      clear g22
      by_cases g23 : y = 23
      · rw [g23]
        refine lv_tableIn (x := 23) (tgt := 1368) hx hb dL_law_44 (by decide) (by decide) rfl (by decide) ?_
        exact road_23 C0 hL9 hi hI hS hc1 hs1 hl kk
      have i23 : ¬ y.toInt = 23 := neq_v rfl rfl g23
      clear g23
      by_cases g24 : y = 24
      · rw [g24]
        refine lv_tableIn (x := 24) (tgt := 1420) hx hb dL_law_44 (by decide) (by decide) rfl (by decide) ?_
        exact road_24 C0 hL9 hi hI hS hc1 hs1 hl kk
      have i24 : ¬ y.toInt = 24 := neq_v rfl rfl g24
      clear g24
      by_cases g25 : y = 25
      · rw [g25]
        refine lv_tableIn (x := 25) (tgt := 1472) hx hb dL_law_44 (by decide) (by decide) rfl (by decide) ?_
        exact road_25 C0 hL9 hi hI hS hc1 hs1 hl kk
      have i25 : ¬ y.toInt = 25 := neq_v rfl rfl g25
      clear g25
      by_cases g26 : y = 26
      · rw [g26]
        refine lv_tableIn (x := 26) (tgt := 1512) hx hb dL_law_44 (by decide) (by decide) rfl (by decide) ?_
        exact road_26 C0 hL9 hi hI hS hc1 hs1 hl kk
      have i26 : ¬ y.toInt = 26 := neq_v rfl rfl g26
      clear g26
      by_cases g27 : y = 27
      · rw [g27]
        refine lv_tableIn (x := 27) (tgt := 1540) hx hb dL_law_44 (by decide) (by decide) rfl (by decide) ?_
        exact road_27 C0 hL9 hi hI hS hc1 hs1 hl kk
      have i27 : ¬ y.toInt = 27 := neq_v rfl rfl g27
      clear g27
      by_cases g28 : y = 28
      · rw [g28]
        refine lv_tableIn (x := 28) (tgt := 1592) hx hb dL_law_44 (by decide) (by decide) rfl (by decide) ?_
        exact road_28 C0 hL9 hi hI hS hc1 hs1 hl kk
      have i28 : ¬ y.toInt = 28 := neq_v rfl rfl g28
      clear g28
      by_cases g29 : y = 29
      · rw [g29]
        refine lv_tableIn (x := 29) (tgt := 1632) hx hb dL_law_44 (by decide) (by decide) rfl (by decide) ?_
        exact road_29 C0 hL9 hi hI hS hc1 hs1 hl kk
      have i29 : ¬ y.toInt = 29 := neq_v rfl rfl g29
      clear g29
      by_cases g30 : y = 30
      · rw [g30]
        refine lv_tableIn (x := 30) (tgt := 1660) hx hb dL_law_44 (by decide) (by decide) rfl (by decide) ?_
        exact road_30 C0 hL9 hi hI hS hc1 hs1 hl kk
      have i30 : ¬ y.toInt = 30 := neq_v rfl rfl g30
      clear g30
      by_cases g31 : y = 31
      · rw [g31]
        refine lv_tableIn (x := 31) (tgt := 1724) hx hb dL_law_44 (by decide) (by decide) rfl (by decide) ?_
        exact road_31 C0 hL9 hi hI hS hc1 hs1 hl kk
      have i31 : ¬ y.toInt = 31 := neq_v rfl rfl g31
      clear g31
      by_cases g32 : y = 32
      · rw [g32]
        refine lv_tableIn (x := 32) (tgt := 1776) hx hb dL_law_44 (by decide) (by decide) rfl (by decide) ?_
        exact road_32 C0 hL9 hi hI hS hc1 hs1 hl kk
      have i32 : ¬ y.toInt = 32 := neq_v rfl rfl g32
      clear g32
      by_cases g33 : y = 33
      · rw [g33]
        refine lv_tableIn (x := 33) (tgt := 1844) hx hb dL_law_44 (by decide) (by decide) rfl (by decide) ?_
        exact road_33 C0 hL9 hi hI hS hc1 hs1 hl kk
      have i33 : ¬ y.toInt = 33 := neq_v rfl rfl g33
      clear g33
      by_cases g34 : y = 34
      · rw [g34]
        refine lv_tableIn (x := 34) (tgt := 1872) hx hb dL_law_44 (by decide) (by decide) rfl (by decide) ?_
        exact road_34 C0 hL9 hi hI hS hc1 hs1 hl kk
      have i34 : ¬ y.toInt = 34 := neq_v rfl rfl g34
      clear g34
      by_cases g35 : y = 35
      · rw [g35]
        refine lv_tableIn (x := 35) (tgt := 1900) hx hb dL_law_44 (by decide) (by decide) rfl (by decide) ?_
        exact road_35 C0 hL9 hi hI hS hc1 hs1 hl kk
      have i35 : ¬ y.toInt = 35 := neq_v rfl rfl g35
      clear g35
      by_cases g36 : y = 36
      · rw [g36]
        refine lv_tableIn (x := 36) (tgt := 1952) hx hb dL_law_44 (by decide) (by decide) rfl (by decide) ?_
        exact road_36 C0 hL9 hi hI hS hc1 hs1 hl kk
      have i36 : ¬ y.toInt = 36 := neq_v rfl rfl g36
      clear g36
      by_cases g37 : y = 37
      · rw [g37]
        refine lv_tableIn (x := 37) (tgt := 1980) hx hb dL_law_44 (by decide) (by decide) rfl (by decide) ?_
        exact road_37 C0 hL9 hi hI hS hc1 hs1 hl kk
      have i37 : ¬ y.toInt = 37 := neq_v rfl rfl g37
      clear g37
      by_cases g38 : y = 38
      · rw [g38]
        refine lv_tableIn (x := 38) (tgt := 2032) hx hb dL_law_44 (by decide) (by decide) rfl (by decide) ?_
        exact road_38 C0 hL9 hi hI hS hc1 hs1 hl kk
      have i38 : ¬ y.toInt = 38 := neq_v rfl rfl g38
      clear g38
      by_cases g39 : y = 39
      · rw [g39]
        refine lv_tableIn (x := 39) (tgt := 2060) hx hb dL_law_44 (by decide) (by decide) rfl (by decide) ?_
        exact road_39 C0 hL9 hi hI hS hc1 hs1 hl kk
      have i39 : ¬ y.toInt = 39 := neq_v rfl rfl g39
      clear g39
      by_cases g40 : y = 40
      · rw [g40]
        refine lv_tableIn (x := 40) (tgt := 2088) hx hb dL_law_44 (by decide) (by decide) rfl (by decide) ?_
        exact road_40 C0 hL9 hi hI hS hc1 hs1 hl kk
      have i40 : ¬ y.toInt = 40 := neq_v rfl rfl g40
      clear g40
      by_cases g41 : y = 41
      · rw [g41]
        refine lv_tableIn (x := 41) (tgt := 2128) hx hb dL_law_44 (by decide) (by decide) rfl (by decide) ?_
        exact road_41 C0 hL9 hi hI hS hc1 hs1 hl kk
      have i41 : ¬ y.toInt = 41 := neq_v rfl rfl g41
      clear g41
      by_cases g42 : y = 42
      · rw [g42]
        refine lv_tableIn (x := 42) (tgt := 2156) hx hb dL_law_44 (by decide) (by decide) rfl (by decide) ?_
        exact road_42 C0 hL9 hi hI hS hc1 hs1 hl kk
      have i42 : ¬ y.toInt = 42 := neq_v rfl rfl g42
      clear g42
      by_cases g43 : y = 43
      · rw [g43]
        refine lv_tableIn (x := 43) (tgt := 2208) hx hb dL_law_44 (by decide) (by decide) rfl (by decide) ?_
        exact road_43 C0 hL9 hi hI hS hc1 hs1 hl kk
      have i43 : ¬ y.toInt = 43 := neq_v rfl rfl g43
      clear g43
      by_cases g44 : y = 44
      · rw [g44]
        refine lv_tableIn (x := 44) (tgt := 2248) hx hb dL_law_44 (by decide) (by decide) rfl (by decide) ?_
        exact road_44 C0 hL9 hi hI hS hc1 hs1 hl kk
      have i44 : ¬ y.toInt = 44 := neq_v rfl rfl g44
      clear g44
      by_cases g45 : y = 45
      · rw [g45]
        refine lv_tableIn (x := 45) (tgt := 2300) hx hb dL_law_44 (by decide) (by decide) rfl (by decide) ?_
        exact road_45 C0 hL9 hi hI hS hc1 hs1 hl kk
      have i45 : ¬ y.toInt = 45 := neq_v rfl rfl g45
      clear g45
      by_cases g46 : y = 46
      · rw [g46]
        refine lv_tableIn (x := 46) (tgt := 2340) hx hb dL_law_44 (by decide) (by decide) rfl (by decide) ?_
        exact road_46 C0 hL9 hi hI hS hc1 hs1 hl kk
      have i46 : ¬ y.toInt = 46 := neq_v rfl rfl g46
      clear g46
      by_cases g47 : y = 47
      · rw [g47]
        refine lv_tableIn (x := 47) (tgt := 2368) hx hb dL_law_44 (by decide) (by decide) rfl (by decide) ?_
        exact road_47 C0 hL9 hi hI hS hc1 hs1 hl kk
      have i47 : ¬ y.toInt = 47 := neq_v rfl rfl g47
      clear g47
      by_cases g48 : y = 48
      · rw [g48]
        refine lv_tableIn (x := 48) (tgt := 2408) hx hb dL_law_44 (by decide) (by decide) rfl (by decide) ?_
        exact road_48 C0 hL9 hi hI hS hc1 hs1 hl kk
      have i48 : ¬ y.toInt = 48 := neq_v rfl rfl g48
      clear g48
      by_cases g49 : y = 49
      · rw [g49]
        refine lv_tableIn (x := 49) (tgt := 2472) hx hb dL_law_44 (by decide) (by decide) rfl (by decide) ?_
        exact road_49 C0 hL9 hi hI hS hc1 hs1 hl kk
      have i49 : ¬ y.toInt = 49 := neq_v rfl rfl g49
      clear g49
      by_cases g50 : y = 50
      · rw [g50]
        refine lv_tableIn (x := 50) (tgt := 2500) hx hb dL_law_44 (by decide) (by decide) rfl (by decide) ?_
        exact road_50 C0 hL9 hi hI hS hc1 hs1 hl kk
      have i50 : ¬ y.toInt = 50 := neq_v rfl rfl g50
      clear g50
      by_cases g51 : y = 51
      · rw [g51]
        refine lv_tableIn (x := 51) (tgt := 2552) hx hb dL_law_44 (by decide) (by decide) rfl (by decide) ?_
        exact road_51 C0 hL9 hi hI hS hc1 hs1 hl kk
      have i51 : ¬ y.toInt = 51 := neq_v rfl rfl g51
      clear g51
      by_cases g52 : y = 52
      · rw [g52]
        refine lv_tableIn (x := 52) (tgt := 2580) hx hb dL_law_44 (by decide) (by decide) rfl (by decide) ?_
        exact road_52 C0 hL9 hi hI hS hc1 hs1 hl kk
      have i52 : ¬ y.toInt = 52 := neq_v rfl rfl g52
      clear g52
      by_cases g53 : y = 53
      · rw [g53]
        refine lv_tableIn (x := 53) (tgt := 2608) hx hb dL_law_44 (by decide) (by decide) rfl (by decide) ?_
        exact road_53 C0 hL9 hi hI hS hc1 hs1 hl kk
      have i53 : ¬ y.toInt = 53 := neq_v rfl rfl g53
      clear g53
      by_cases g54 : y = 54
      · rw [g54]
        refine lv_tableIn (x := 54) (tgt := 2650) hx hb dL_law_44 (by decide) (by decide) rfl (by decide) ?_
        exact road_54 C0 hL9 hi hI hS hc1 hs1 hl kk
      have i54 : ¬ y.toInt = 54 := neq_v rfl rfl g54
      clear g54
      by_cases g55 : y = 55
      · rw [g55]
        refine lv_tableIn (x := 55) (tgt := 2690) hx hb dL_law_44 (by decide) (by decide) rfl (by decide) ?_
        exact road_55 C0 hL9 hi hI hS hc1 hs1 hl kk
      have i55 : ¬ y.toInt = 55 := neq_v rfl rfl g55
      clear g55
      by_cases g56 : y = 56
      · rw [g56]
        refine lv_tableIn (x := 56) (tgt := 2732) hx hb dL_law_44 (by decide) (by decide) rfl (by decide) ?_
        exact road_56 C0 hL9 hi hI hS hc1 hs1 hl kk
      have i56 : ¬ y.toInt = 56 := neq_v rfl rfl g56
      clear g56
      by_cases g57 : y = 57
      · rw [g57]
        refine lv_tableIn (x := 57) (tgt := 2760) hx hb dL_law_44 (by decide) (by decide) rfl (by decide) ?_
        exact road_57 C0 hL9 hi hI hS hc1 hs1 hl kk
      have i57 : ¬ y.toInt = 57 := neq_v rfl rfl g57
      clear g57
      by_cases g58 : y = 58
      · rw [g58]
        refine lv_tableIn (x := 58) (tgt := 2812) hx hb dL_law_44 (by decide) (by decide) rfl (by decide) ?_
        exact road_58 C0 hL9 hi hI hS hc1 hs1 hl kk
      have i58 : ¬ y.toInt = 58 := neq_v rfl rfl g58
      clear g58
      by_cases g59 : y = 59
      · rw [g59]
        refine lv_tableIn (x := 59) (tgt := 2864) hx hb dL_law_44 (by decide) (by decide) rfl (by decide) ?_
        exact road_59 C0 hL9 hi hI hS hc1 hs1 hl kk
      have i59 : ¬ y.toInt = 59 := neq_v rfl rfl g59
      clear g59
      by_cases g60 : y = 60
      · rw [g60]
        refine lv_tableIn (x := 60) (tgt := 2877) hx hb dL_law_44 (by decide) (by decide) rfl (by decide) ?_
        exact road_60 C0 hL9 hi hI hS hc1 hs1 hl kk
      have i60 : ¬ y.toInt = 60 := neq_v rfl rfl g60
      clear g60
      by_cases g61 : y = 61
      · rw [g61]
        refine lv_tableIn (x := 61) (tgt := 2894) hx hb dL_law_44 (by decide) (by decide) rfl (by decide) ?_
        exact road_61 C0 hL9 hi hI hS hc1 hs1 hl kk
      have i61 : ¬ y.toInt = 61 := neq_v rfl rfl g61
      clear g61
      by_cases g62 : y = 62
      · rw [g62]
        refine lv_tableIn (x := 62) (tgt := 2911) hx hb dL_law_44 (by decide) (by decide) rfl (by decide) ?_
        exact road_62 C0 hL9 hi hI hS hc1 hs1 hl kk
      have i62 : ¬ y.toInt = 62 := neq_v rfl rfl g62
      clear g62
      refine lv_tableOut (tgt := 2924) hx hb dL_law_44 (by omega) (by decide) ?_
      refine W.widen (k := cells + 40) (n := slots + 1200) (by omega) (by omega) ?_
      exact kk S fo fd H locs ls hI hS hl
