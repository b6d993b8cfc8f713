/-! words of a list, each by its place in the tables: those that p asks for -/
def chkF (p : Cond → Bool) (T : List (List Cond)) : List Cond → List (Nat × Nat) → Bool
  | [], _ => true
  | _ :: _, [] => false
  | w :: L, q :: ps => (!(p w) || decide ((T[q.1]?).bind (fun t => t[q.2]?) = some w)) && chkF p T L ps
theorem chkF_ok {p : Cond → Bool} {T : List (List Cond)} {big : List Cond} (hT : ∀ t ∈ T, ∀ w ∈ t, w ∈ big) : ∀ (L : List Cond) (ps : List (Nat × Nat)), chkF p T L ps = true → ∀ w ∈ L, p w = true → w ∈ big
  | [], _, _, w, hw, _ => by cases hw
  | _ :: _, [], h, _, _, _ => by cases h
  | a :: L, q :: ps, h, w, hw, hp => by
    unfold chkF at h
    rw [Bool.and_eq_true, Bool.or_eq_true] at h
    rcases List.mem_cons.mp hw with e | e
    · subst e
      rcases h.1 with z | z
      · rw [hp] at z; cases z
      · obtain ⟨t, e1, e2⟩ := Option.bind_eq_some_iff.mp (of_decide_eq_true z)
        exact hT t (List.mem_of_getElem? e1) w (List.mem_of_getElem? e2)
    · exact chkF_ok hT L ps h.2 w e hp
theorem chkF_g {T : List (List Cond)} {big : List Cond} (hT : ∀ t ∈ T, ∀ w ∈ t, w ∈ big) {L : List Cond} {ps : List (Nat × Nat)} (h : chkF (fun w => vx_no w && goodWord w) T L ps = true) : ∀ w ∈ (L.filter vx_no).filter goodWord, w ∈ big := fun w hw => by
  obtain ⟨h1, h2⟩ := List.mem_filter.mp hw
  obtain ⟨h3, h4⟩ := List.mem_filter.mp h1
  exact chkF_ok hT L ps h w h3 (by rw [h2, h4]; rfl)
theorem chkF_n {T : List (List Cond)} {big : List Cond} (hT : ∀ t ∈ T, ∀ w ∈ t, w ∈ big) {L : List Cond} {ps : List (Nat × Nat)} (h : chkF (fun w => vx_no w && !goodWord w) T L ps = true) : ∀ w ∈ (L.filter vx_no).filter (fun w => !goodWord w), w ∈ big := fun w hw => by
  obtain ⟨h1, h2⟩ := List.mem_filter.mp hw
  obtain ⟨h3, h4⟩ := List.mem_filter.mp h1
  exact chkF_ok hT L ps h w h3 (by rw [h2, h4]; rfl)
theorem tables_1_1_all : ∀ w ∈ tables_1_1, w ∈ lw_tb2 := fun w h => by
  obtain ⟨i, hi⟩ := List.getElem?_of_mem h
  exact tables_1_1_in hi
theorem tables_1_2_all : ∀ w ∈ tables_1_2, w ∈ lw_tb2 := fun w h => by
  obtain ⟨i, hi⟩ := List.getElem?_of_mem h
  exact tables_1_2_in hi
theorem tables_1_3_all : ∀ w ∈ tables_1_3, w ∈ lw_tb2 := fun w h => by
  obtain ⟨i, hi⟩ := List.getElem?_of_mem h
  exact tables_1_3_in hi
theorem tables_1_4_all : ∀ w ∈ tables_1_4, w ∈ lw_tb2 := fun w h => by
  obtain ⟨i, hi⟩ := List.getElem?_of_mem h
  exact tables_1_4_in hi
theorem tables_1_5_all : ∀ w ∈ tables_1_5, w ∈ lw_tb2 := fun w h => by
  obtain ⟨i, hi⟩ := List.getElem?_of_mem h
  exact tables_1_5_in hi
theorem tables_1_6_all : ∀ w ∈ tables_1_6, w ∈ lw_tb2 := fun w h => by
  obtain ⟨i, hi⟩ := List.getElem?_of_mem h
  exact tables_1_6_in hi
theorem tables_1_7_all : ∀ w ∈ tables_1_7, w ∈ lw_tb2 := fun w h => by
  obtain ⟨i, hi⟩ := List.getElem?_of_mem h
  exact tables_1_7_in hi
theorem tables_1_8_all : ∀ w ∈ tables_1_8, w ∈ lw_tb2 := fun w h => by
  obtain ⟨i, hi⟩ := List.getElem?_of_mem h
  exact tables_1_8_in hi
theorem tables_1_9_all : ∀ w ∈ tables_1_9, w ∈ lw_tb2 := fun w h => by
  obtain ⟨i, hi⟩ := List.getElem?_of_mem h
  exact tables_1_9_in hi
theorem tables_1_10_all : ∀ w ∈ tables_1_10, w ∈ lw_tb2 := fun w h => by
  obtain ⟨i, hi⟩ := List.getElem?_of_mem h
  exact tables_1_10_in hi
theorem tables_1_11_all : ∀ w ∈ tables_1_11, w ∈ lw_tb2 := fun w h => by
  obtain ⟨i, hi⟩ := List.getElem?_of_mem h
  exact tables_1_11_in hi
noncomputable def tbT : List (List Cond) := [tables_1_1, tables_1_2, tables_1_3, tables_1_4, tables_1_5, tables_1_6, tables_1_7, tables_1_8, tables_1_9, tables_1_10, tables_1_11]
theorem tbT_all : ∀ t ∈ tbT, ∀ w ∈ t, w ∈ lw_tb2 := (List.forall_mem_cons.mpr ⟨tables_1_1_all, (List.forall_mem_cons.mpr ⟨tables_1_2_all, (List.forall_mem_cons.mpr ⟨tables_1_3_all, (List.forall_mem_cons.mpr ⟨tables_1_4_all, (List.forall_mem_cons.mpr ⟨tables_1_5_all, (List.forall_mem_cons.mpr ⟨tables_1_6_all, (List.forall_mem_cons.mpr ⟨tables_1_7_all, (List.forall_mem_cons.mpr ⟨tables_1_8_all, (List.forall_mem_cons.mpr ⟨tables_1_9_all, (List.forall_mem_cons.mpr ⟨tables_1_10_all, (List.forall_mem_cons.mpr ⟨tables_1_11_all, (fun _ h => (List.not_mem_nil h).elim)⟩)⟩)⟩)⟩)⟩)⟩)⟩)⟩)⟩)⟩)⟩)
set_option maxRecDepth 20000 in
theorem wsL_law_x0 : ∀ w ∈ (vx_atM "java/lang/ArrayIndexOutOfBoundsException" ["java/lang/IndexOutOfBoundsException", "java/lang/RuntimeException", "java/lang/Exception"]).filter goodWord, w ∈ lw_tb2 := chkF_g tbT_all (L := (Bundle.messageArmAtoms "java/lang/ArrayIndexOutOfBoundsException" ["java/lang/IndexOutOfBoundsException", "java/lang/RuntimeException", "java/lang/Exception"])) (ps := [(0, 9), (1, 37), (1, 46), (1, 54), (1, 57), (1, 59), (1, 38), (1, 39), (0, 44), (0, 45), (1, 40), (1, 45), (1, 55), (1, 75), (1, 27), (1, 76), (1, 29), (1, 77), (1, 31), (1, 41), (1, 42), (1, 43), (1, 44), (1, 33), (1, 71), (1, 72), (1, 74), (1, 33), (2, 11), (2, 12), (2, 13), (2, 14), (2, 26), (2, 14), (2, 15), (2, 16), (1, 65), (1, 19), (1, 65), (1, 66), (1, 67), (1, 68), (1, 21), (1, 68), (1, 69), (1, 70), (1, 71), (1, 23), (0, 18), (2, 28), (1, 86), (2, 29), (2, 31), (2, 30), (2, 32), (0, 26), (2, 10), (2, 24), (2, 27), (1, 49), (2, 19), (2, 20), (2, 22), (2, 18), (99, 0), (99, 0), (1, 36), (1, 35), (2, 17)]) (by decide +kernel)
set_option maxRecDepth 20000 in
theorem wsL_law_x1 : ∀ w ∈ (vx_atS RX9 71 "java/lang/IllegalStateException" ["java/lang/RuntimeException", "java/lang/Exception"]).filter goodWord, w ∈ lw_tb2 := chkF_g tbT_all (L := (Bundle.ownAtoms RX9 71 "java/lang/IllegalStateException" ["java/lang/RuntimeException", "java/lang/Exception"])) (ps := [(0, 9), (1, 37), (1, 46), (1, 54), (1, 57), (1, 59), (1, 38), (1, 39), (0, 44), (0, 45), (1, 40), (1, 45), (1, 55), (1, 75), (1, 27), (1, 76), (1, 29), (1, 77), (1, 31), (1, 41), (1, 42), (1, 43), (1, 44), (1, 33), (1, 71), (1, 72), (1, 74), (1, 33), (1, 99), (1, 100), (1, 101), (1, 65), (1, 19), (1, 65), (1, 66), (1, 67), (1, 68), (1, 21), (1, 68), (1, 69), (1, 70), (1, 71), (1, 23), (1, 98), (1, 89), (1, 90), (1, 91), (1, 50), (1, 92), (1, 93), (1, 94), (1, 95), (99, 0), (99, 0), (1, 36), (1, 35), (1, 96)]) (by decide +kernel)
set_option maxRecDepth 20000 in
theorem wsL_law_x2 : ∀ w ∈ (vx_atS RX9 114 "java/lang/IllegalArgumentException" ["java/lang/RuntimeException", "java/lang/Exception"]).filter goodWord, w ∈ lw_tb2 := chkF_g tbT_all (L := (Bundle.ownAtoms RX9 114 "java/lang/IllegalArgumentException" ["java/lang/RuntimeException", "java/lang/Exception"])) (ps := [(0, 9), (1, 37), (1, 46), (1, 54), (1, 57), (1, 59), (1, 38), (1, 39), (0, 44), (0, 45), (1, 40), (1, 45), (1, 55), (1, 75), (1, 27), (1, 76), (1, 29), (1, 77), (1, 31), (1, 41), (1, 42), (1, 43), (1, 44), (1, 33), (1, 71), (1, 72), (1, 74), (1, 33), (1, 62), (1, 63), (1, 64), (1, 65), (1, 19), (1, 65), (1, 66), (1, 67), (1, 68), (1, 21), (1, 68), (1, 69), (1, 70), (1, 71), (1, 23), (1, 61), (1, 16), (1, 17), (1, 24), (1, 25), (1, 26), (1, 28), (1, 30), (1, 32), (99, 0), (99, 0), (1, 36), (1, 35), (1, 34)]) (by decide +kernel)
set_option maxRecDepth 20000 in
theorem wsL_law_x3 : ∀ w ∈ (vx_atS RX9 297 "java/lang/IndexOutOfBoundsException" ["java/lang/RuntimeException", "java/lang/Exception"]).filter goodWord, w ∈ lw_tb2 := chkF_g tbT_all (L := (Bundle.ownAtoms RX9 297 "java/lang/IndexOutOfBoundsException" ["java/lang/RuntimeException", "java/lang/Exception"])) (ps := [(0, 9), (1, 37), (1, 46), (1, 54), (1, 57), (1, 59), (1, 38), (1, 39), (0, 44), (0, 45), (1, 40), (1, 45), (1, 55), (1, 75), (1, 27), (1, 76), (1, 29), (1, 77), (1, 31), (1, 41), (1, 42), (1, 43), (1, 44), (1, 33), (1, 71), (1, 72), (1, 74), (1, 33), (2, 14), (2, 15), (2, 16), (1, 65), (1, 19), (1, 65), (1, 66), (1, 67), (1, 68), (1, 21), (1, 68), (1, 69), (1, 70), (1, 71), (1, 23), (2, 52), (2, 43), (2, 44), (2, 45), (1, 51), (2, 46), (2, 47), (2, 48), (2, 49), (99, 0), (99, 0), (1, 36), (1, 35), (2, 50)]) (by decide +kernel)
set_option maxRecDepth 20000 in
theorem wsL_law_x4 : ∀ w ∈ (vx_atS RX9 533 "java/lang/UnsupportedOperationException" ["java/lang/RuntimeException", "java/lang/Exception"]).filter goodWord, w ∈ lw_tb2 := chkF_g tbT_all (L := (Bundle.ownAtoms RX9 533 "java/lang/UnsupportedOperationException" ["java/lang/RuntimeException", "java/lang/Exception"])) (ps := [(0, 9), (1, 37), (1, 46), (1, 54), (1, 57), (1, 59), (1, 38), (1, 39), (0, 44), (0, 45), (1, 40), (1, 45), (1, 55), (1, 75), (1, 27), (1, 76), (1, 29), (1, 77), (1, 31), (1, 41), (1, 42), (1, 43), (1, 44), (1, 33), (1, 71), (1, 72), (1, 74), (1, 33), (2, 69), (2, 70), (2, 71), (1, 65), (1, 19), (1, 65), (1, 66), (1, 67), (1, 68), (1, 21), (1, 68), (1, 69), (1, 70), (1, 71), (1, 23), (2, 68), (2, 59), (2, 60), (2, 61), (1, 52), (2, 62), (2, 63), (2, 64), (2, 65), (99, 0), (99, 0), (1, 36), (1, 35), (2, 66)]) (by decide +kernel)
set_option maxRecDepth 20000 in
theorem wsL_law_x5 : ∀ w ∈ (vx_atM "java/lang/ArithmeticException" ["java/lang/RuntimeException", "java/lang/Exception"]).filter goodWord, w ∈ lw_tb2 := chkF_g tbT_all (L := (Bundle.messageArmAtoms "java/lang/ArithmeticException" ["java/lang/RuntimeException", "java/lang/Exception"])) (ps := [(0, 9), (1, 37), (1, 46), (1, 54), (1, 57), (1, 59), (1, 38), (1, 39), (0, 44), (0, 45), (1, 40), (1, 45), (1, 55), (1, 75), (1, 27), (1, 76), (1, 29), (1, 77), (1, 31), (1, 41), (1, 42), (1, 43), (1, 44), (1, 33), (1, 71), (1, 72), (1, 74), (1, 33), (6, 95), (6, 96), (6, 97), (1, 65), (1, 19), (1, 65), (1, 66), (1, 67), (1, 68), (1, 21), (1, 68), (1, 69), (1, 70), (1, 71), (1, 23), (0, 18), (2, 28), (1, 86), (2, 29), (2, 31), (2, 30), (2, 32), (0, 37), (6, 94), (6, 105), (6, 106), (1, 48), (6, 100), (6, 101), (6, 103), (6, 99), (99, 0), (99, 0), (1, 36), (1, 35), (6, 98)]) (by decide +kernel)
set_option maxRecDepth 20000 in
theorem wsL_law_x6 : ∀ w ∈ (vx_atI RX9 154 "java/util/NoSuchElementException" ["java/lang/RuntimeException", "java/lang/Exception"]).filter goodWord, w ∈ lw_tb2 := chkF_g tbT_all (L := (vx_ownI RX9 154 "java/util/NoSuchElementException" ["java/lang/RuntimeException", "java/lang/Exception"])) (ps := [(0, 9), (1, 37), (1, 46), (1, 54), (1, 57), (1, 59), (1, 38), (1, 39), (0, 44), (0, 45), (1, 40), (1, 45), (1, 55), (1, 75), (1, 27), (1, 76), (1, 29), (1, 77), (1, 31), (1, 41), (1, 42), (1, 43), (1, 44), (1, 33), (1, 71), (1, 72), (1, 74), (1, 33), (2, 234), (1, 65), (1, 19), (1, 65), (1, 66), (1, 67), (1, 68), (1, 21), (1, 68), (1, 69), (1, 70), (1, 71), (1, 23), (2, 233), (2, 224), (2, 225), (2, 226), (1, 53), (2, 227), (2, 228), (2, 229), (2, 230), (99, 0), (99, 0), (1, 36), (1, 35), (2, 231), (2, 235), (2, 236)]) (by decide +kernel)
set_option maxRecDepth 20000 in
theorem wsL_law_x7 : ∀ w ∈ (vx_atS RX9 543 "java/lang/ArithmeticException" ["java/lang/RuntimeException", "java/lang/Exception"]).filter goodWord, w ∈ lw_tb2 := chkF_g tbT_all (L := (Bundle.ownAtoms RX9 543 "java/lang/ArithmeticException" ["java/lang/RuntimeException", "java/lang/Exception"])) (ps := [(0, 9), (1, 37), (1, 46), (1, 54), (1, 57), (1, 59), (1, 38), (1, 39), (0, 44), (0, 45), (1, 40), (1, 45), (1, 55), (1, 75), (1, 27), (1, 76), (1, 29), (1, 77), (1, 31), (1, 41), (1, 42), (1, 43), (1, 44), (1, 33), (1, 71), (1, 72), (1, 74), (1, 33), (6, 95), (6, 96), (6, 97), (1, 65), (1, 19), (1, 65), (1, 66), (1, 67), (1, 68), (1, 21), (1, 68), (1, 69), (1, 70), (1, 71), (1, 23), (6, 117), (6, 94), (6, 105), (6, 106), (1, 48), (6, 100), (6, 101), (6, 103), (6, 99), (99, 0), (99, 0), (1, 36), (1, 35), (6, 98)]) (by decide +kernel)
