theorem dX10_init_8 : decode cX10_init 8 = .ok (.newarray .int, 2) := by decide +kernel
theorem dX10_init_16 : decode cX10_init 16 = .ok (.newarray .char, 2) := by decide +kernel
def dsX10_init_0 : ByteArray := ⟨#[42, 183, 0, 3, 42, 17, 0, 200, 188, 10, 181, 0, 9, 42, 16, 8, 188, 5, 181, 0, 15, 42, 2]⟩
theorem daX10_init_0 : agB cX10_init dsX10_init_0 0 := agB_of (n := 23) (by decide +kernel)
theorem dbX10_init_0 : (decode dsX10_init_0 0 = .ok (.aload_n 0, 1) ∧ okop dsX10_init_0 0 = true) ∧ (decode dsX10_init_0 1 = .ok (.invokespecial 3, 3) ∧ okop dsX10_init_0 1 = true) ∧ (decode dsX10_init_0 4 = .ok (.aload_n 0, 1) ∧ okop dsX10_init_0 4 = true) ∧ (decode dsX10_init_0 5 = .ok (.sipush 200, 3) ∧ okop dsX10_init_0 5 = true) ∧ (decode dsX10_init_0 10 = .ok (.putfield 9, 3) ∧ okop dsX10_init_0 10 = true) ∧ (decode dsX10_init_0 13 = .ok (.aload_n 0, 1) ∧ okop dsX10_init_0 13 = true) ∧ (decode dsX10_init_0 14 = .ok (.bipush 8, 2) ∧ okop dsX10_init_0 14 = true) ∧ (decode dsX10_init_0 18 = .ok (.putfield 15, 3) ∧ okop dsX10_init_0 18 = true) ∧ (decode dsX10_init_0 21 = .ok (.aload_n 0, 1) ∧ okop dsX10_init_0 21 = true) ∧ (decode dsX10_init_0 22 = .ok (.iconst (-1), 1) ∧ okop dsX10_init_0 22 = true) := by decide +kernel
theorem dX10_init_0 : decode cX10_init 0 = .ok (.aload_n 0, 1) := dgq (p := 0) daX10_init_0 dbX10_init_0.1
theorem dX10_init_1 : decode cX10_init 1 = .ok (.invokespecial 3, 3) := dgq (p := 1) daX10_init_0 dbX10_init_0.2.1
theorem dX10_init_4 : decode cX10_init 4 = .ok (.aload_n 0, 1) := dgq (p := 4) daX10_init_0 dbX10_init_0.2.2.1
theorem dX10_init_5 : decode cX10_init 5 = .ok (.sipush 200, 3) := dgq (p := 5) daX10_init_0 dbX10_init_0.2.2.2.1
theorem dX10_init_10 : decode cX10_init 10 = .ok (.putfield 9, 3) := dgq (p := 10) daX10_init_0 dbX10_init_0.2.2.2.2.1
theorem dX10_init_13 : decode cX10_init 13 = .ok (.aload_n 0, 1) := dgq (p := 13) daX10_init_0 dbX10_init_0.2.2.2.2.2.1
theorem dX10_init_14 : decode cX10_init 14 = .ok (.bipush 8, 2) := dgq (p := 14) daX10_init_0 dbX10_init_0.2.2.2.2.2.2.1
theorem dX10_init_18 : decode cX10_init 18 = .ok (.putfield 15, 3) := dgq (p := 18) daX10_init_0 dbX10_init_0.2.2.2.2.2.2.2.1
theorem dX10_init_21 : decode cX10_init 21 = .ok (.aload_n 0, 1) := dgq (p := 21) daX10_init_0 dbX10_init_0.2.2.2.2.2.2.2.2.1
theorem dX10_init_22 : decode cX10_init 22 = .ok (.iconst (-1), 1) := dgq (p := 22) daX10_init_0 dbX10_init_0.2.2.2.2.2.2.2.2.2
def dsX10_init_23 : ByteArray := ⟨#[181, 0, 19, 42, 2, 181, 0, 23, 42, 27, 181, 0, 26, 42, 28, 181, 0, 29]⟩
theorem daX10_init_23 : agB cX10_init dsX10_init_23 23 := agB_of (n := 18) (by decide +kernel)
theorem dbX10_init_23 : (decode dsX10_init_23 0 = .ok (.putfield 19, 3) ∧ okop dsX10_init_23 0 = true) ∧ (decode dsX10_init_23 3 = .ok (.aload_n 0, 1) ∧ okop dsX10_init_23 3 = true) ∧ (decode dsX10_init_23 4 = .ok (.iconst (-1), 1) ∧ okop dsX10_init_23 4 = true) ∧ (decode dsX10_init_23 5 = .ok (.putfield 23, 3) ∧ okop dsX10_init_23 5 = true) ∧ (decode dsX10_init_23 8 = .ok (.aload_n 0, 1) ∧ okop dsX10_init_23 8 = true) ∧ (decode dsX10_init_23 9 = .ok (.iload_n 1, 1) ∧ okop dsX10_init_23 9 = true) ∧ (decode dsX10_init_23 10 = .ok (.putfield 26, 3) ∧ okop dsX10_init_23 10 = true) ∧ (decode dsX10_init_23 13 = .ok (.aload_n 0, 1) ∧ okop dsX10_init_23 13 = true) ∧ (decode dsX10_init_23 14 = .ok (.iload_n 2, 1) ∧ okop dsX10_init_23 14 = true) ∧ (decode dsX10_init_23 15 = .ok (.putfield 29, 3) ∧ okop dsX10_init_23 15 = true) := by decide +kernel
theorem dX10_init_23 : decode cX10_init 23 = .ok (.putfield 19, 3) := dgq (p := 0) daX10_init_23 dbX10_init_23.1
theorem dX10_init_26 : decode cX10_init 26 = .ok (.aload_n 0, 1) := dgq (p := 3) daX10_init_23 dbX10_init_23.2.1
theorem dX10_init_27 : decode cX10_init 27 = .ok (.iconst (-1), 1) := dgq (p := 4) daX10_init_23 dbX10_init_23.2.2.1
theorem dX10_init_28 : decode cX10_init 28 = .ok (.putfield 23, 3) := dgq (p := 5) daX10_init_23 dbX10_init_23.2.2.2.1
theorem dX10_init_31 : decode cX10_init 31 = .ok (.aload_n 0, 1) := dgq (p := 8) daX10_init_23 dbX10_init_23.2.2.2.2.1
theorem dX10_init_32 : decode cX10_init 32 = .ok (.iload_n 1, 1) := dgq (p := 9) daX10_init_23 dbX10_init_23.2.2.2.2.2.1
theorem dX10_init_33 : decode cX10_init 33 = .ok (.putfield 26, 3) := dgq (p := 10) daX10_init_23 dbX10_init_23.2.2.2.2.2.2.1
theorem dX10_init_36 : decode cX10_init 36 = .ok (.aload_n 0, 1) := dgq (p := 13) daX10_init_23 dbX10_init_23.2.2.2.2.2.2.2.1
theorem dX10_init_37 : decode cX10_init 37 = .ok (.iload_n 2, 1) := dgq (p := 14) daX10_init_23 dbX10_init_23.2.2.2.2.2.2.2.2.1
theorem dX10_init_38 : decode cX10_init 38 = .ok (.putfield 29, 3) := dgq (p := 15) daX10_init_23 dbX10_init_23.2.2.2.2.2.2.2.2.2
def dsX10_init_41 : ByteArray := ⟨#[42, 29, 181, 0, 32, 42, 21, 4, 181, 0, 35, 42, 21, 5, 181, 0, 38, 177]⟩
theorem daX10_init_41 : agB cX10_init dsX10_init_41 41 := agB_of (n := 18) (by decide +kernel)
theorem dbX10_init_41 : (decode dsX10_init_41 0 = .ok (.aload_n 0, 1) ∧ okop dsX10_init_41 0 = true) ∧ (decode dsX10_init_41 1 = .ok (.iload_n 3, 1) ∧ okop dsX10_init_41 1 = true) ∧ (decode dsX10_init_41 2 = .ok (.putfield 32, 3) ∧ okop dsX10_init_41 2 = true) ∧ (decode dsX10_init_41 5 = .ok (.aload_n 0, 1) ∧ okop dsX10_init_41 5 = true) ∧ (decode dsX10_init_41 6 = .ok (.iload 4, 2) ∧ okop dsX10_init_41 6 = true) ∧ (decode dsX10_init_41 8 = .ok (.putfield 35, 3) ∧ okop dsX10_init_41 8 = true) ∧ (decode dsX10_init_41 11 = .ok (.aload_n 0, 1) ∧ okop dsX10_init_41 11 = true) ∧ (decode dsX10_init_41 12 = .ok (.iload 5, 2) ∧ okop dsX10_init_41 12 = true) ∧ (decode dsX10_init_41 14 = .ok (.putfield 38, 3) ∧ okop dsX10_init_41 14 = true) ∧ (decode dsX10_init_41 17 = .ok (.return_, 1) ∧ okop dsX10_init_41 17 = true) := by decide +kernel
theorem dX10_init_41 : decode cX10_init 41 = .ok (.aload_n 0, 1) := dgq (p := 0) daX10_init_41 dbX10_init_41.1
theorem dX10_init_42 : decode cX10_init 42 = .ok (.iload_n 3, 1) := dgq (p := 1) daX10_init_41 dbX10_init_41.2.1
theorem dX10_init_43 : decode cX10_init 43 = .ok (.putfield 32, 3) := dgq (p := 2) daX10_init_41 dbX10_init_41.2.2.1
theorem dX10_init_46 : decode cX10_init 46 = .ok (.aload_n 0, 1) := dgq (p := 5) daX10_init_41 dbX10_init_41.2.2.2.1
theorem dX10_init_47 : decode cX10_init 47 = .ok (.iload 4, 2) := dgq (p := 6) daX10_init_41 dbX10_init_41.2.2.2.2.1
theorem dX10_init_49 : decode cX10_init 49 = .ok (.putfield 35, 3) := dgq (p := 8) daX10_init_41 dbX10_init_41.2.2.2.2.2.1
theorem dX10_init_52 : decode cX10_init 52 = .ok (.aload_n 0, 1) := dgq (p := 11) daX10_init_41 dbX10_init_41.2.2.2.2.2.2.1
theorem dX10_init_53 : decode cX10_init 53 = .ok (.iload 5, 2) := dgq (p := 12) daX10_init_41 dbX10_init_41.2.2.2.2.2.2.2.1
theorem dX10_init_55 : decode cX10_init 55 = .ok (.putfield 38, 3) := dgq (p := 14) daX10_init_41 dbX10_init_41.2.2.2.2.2.2.2.2.1
theorem dX10_init_58 : decode cX10_init 58 = .ok (.return_, 1) := dgq (p := 17) daX10_init_41 dbX10_init_41.2.2.2.2.2.2.2.2.2
def dsX10_across_0 : ByteArray := ⟨#[42, 180, 0, 29, 133, 42, 180, 0, 32, 133, 105, 173]⟩
theorem daX10_across_0 : agB cX10_across dsX10_across_0 0 := agB_of (n := 12) (by decide +kernel)
theorem dbX10_across_0 : (decode dsX10_across_0 0 = .ok (.aload_n 0, 1) ∧ okop dsX10_across_0 0 = true) ∧ (decode dsX10_across_0 1 = .ok (.getfield 29, 3) ∧ okop dsX10_across_0 1 = true) ∧ (decode dsX10_across_0 4 = .ok (.i2l, 1) ∧ okop dsX10_across_0 4 = true) ∧ (decode dsX10_across_0 5 = .ok (.aload_n 0, 1) ∧ okop dsX10_across_0 5 = true) ∧ (decode dsX10_across_0 6 = .ok (.getfield 32, 3) ∧ okop dsX10_across_0 6 = true) ∧ (decode dsX10_across_0 9 = .ok (.i2l, 1) ∧ okop dsX10_across_0 9 = true) ∧ (decode dsX10_across_0 10 = .ok (.lmul, 1) ∧ okop dsX10_across_0 10 = true) ∧ (decode dsX10_across_0 11 = .ok (.lreturn, 1) ∧ okop dsX10_across_0 11 = true) := by decide +kernel
theorem dX10_across_0 : decode cX10_across 0 = .ok (.aload_n 0, 1) := dgq (p := 0) daX10_across_0 dbX10_across_0.1
theorem dX10_across_1 : decode cX10_across 1 = .ok (.getfield 29, 3) := dgq (p := 1) daX10_across_0 dbX10_across_0.2.1
theorem dX10_across_4 : decode cX10_across 4 = .ok (.i2l, 1) := dgq (p := 4) daX10_across_0 dbX10_across_0.2.2.1
theorem dX10_across_5 : decode cX10_across 5 = .ok (.aload_n 0, 1) := dgq (p := 5) daX10_across_0 dbX10_across_0.2.2.2.1
theorem dX10_across_6 : decode cX10_across 6 = .ok (.getfield 32, 3) := dgq (p := 6) daX10_across_0 dbX10_across_0.2.2.2.2.1
theorem dX10_across_9 : decode cX10_across 9 = .ok (.i2l, 1) := dgq (p := 9) daX10_across_0 dbX10_across_0.2.2.2.2.2.1
theorem dX10_across_10 : decode cX10_across 10 = .ok (.lmul, 1) := dgq (p := 10) daX10_across_0 dbX10_across_0.2.2.2.2.2.2.1
theorem dX10_across_11 : decode cX10_across 11 = .ok (.lreturn, 1) := dgq (p := 11) daX10_across_0 dbX10_across_0.2.2.2.2.2.2.2
set_option maxRecDepth 20000 in
theorem ggX10_tip_X10_across : GoodIn wsX10_tip wsX10_across := goodIn_ca (goodIn_q _ [8, 9, 2] rfl (by decide +kernel)) (goodIn_sub (fun _ h => (List.mem_cons_of_mem _ (List.mem_append_right _ h))) tg_wsX100)
set_option maxRecDepth 20000 in
theorem gX10_tip_X10_across : GoodIn wsX10_tip (wsV RX10 41 RX10 yX10_across wsX10_across) := goodIn_app (goodIn_q _ [4, 5, 6, 7] rfl (by decide +kernel)) ggX10_tip_X10_across
def dsX10_tip_0 : ByteArray := ⟨#[42, 182, 0, 41, 20, 0, 45, 42, 180, 0, 32, 133, 105, 97, 20, 0, 45, 27]⟩
theorem daX10_tip_0 : agB cX10_tip dsX10_tip_0 0 := agB_of (n := 18) (by decide +kernel)
theorem dbX10_tip_0 : (decode dsX10_tip_0 0 = .ok (.aload_n 0, 1) ∧ okop dsX10_tip_0 0 = true) ∧ (decode dsX10_tip_0 1 = .ok (.invokevirtual 41, 3) ∧ okop dsX10_tip_0 1 = true) ∧ (decode dsX10_tip_0 4 = .ok (.ldc2_w 45, 3) ∧ okop dsX10_tip_0 4 = true) ∧ (decode dsX10_tip_0 7 = .ok (.aload_n 0, 1) ∧ okop dsX10_tip_0 7 = true) ∧ (decode dsX10_tip_0 8 = .ok (.getfield 32, 3) ∧ okop dsX10_tip_0 8 = true) ∧ (decode dsX10_tip_0 11 = .ok (.i2l, 1) ∧ okop dsX10_tip_0 11 = true) ∧ (decode dsX10_tip_0 12 = .ok (.lmul, 1) ∧ okop dsX10_tip_0 12 = true) ∧ (decode dsX10_tip_0 13 = .ok (.ladd, 1) ∧ okop dsX10_tip_0 13 = true) ∧ (decode dsX10_tip_0 14 = .ok (.ldc2_w 45, 3) ∧ okop dsX10_tip_0 14 = true) ∧ (decode dsX10_tip_0 17 = .ok (.iload_n 1, 1) ∧ okop dsX10_tip_0 17 = true) := by decide +kernel
theorem dX10_tip_0 : decode cX10_tip 0 = .ok (.aload_n 0, 1) := dgq (p := 0) daX10_tip_0 dbX10_tip_0.1
theorem dX10_tip_1 : decode cX10_tip 1 = .ok (.invokevirtual 41, 3) := dgq (p := 1) daX10_tip_0 dbX10_tip_0.2.1
theorem dX10_tip_4 : decode cX10_tip 4 = .ok (.ldc2_w 45, 3) := dgq (p := 4) daX10_tip_0 dbX10_tip_0.2.2.1
theorem dX10_tip_7 : decode cX10_tip 7 = .ok (.aload_n 0, 1) := dgq (p := 7) daX10_tip_0 dbX10_tip_0.2.2.2.1
theorem dX10_tip_8 : decode cX10_tip 8 = .ok (.getfield 32, 3) := dgq (p := 8) daX10_tip_0 dbX10_tip_0.2.2.2.2.1
theorem dX10_tip_11 : decode cX10_tip 11 = .ok (.i2l, 1) := dgq (p := 11) daX10_tip_0 dbX10_tip_0.2.2.2.2.2.1
theorem dX10_tip_12 : decode cX10_tip 12 = .ok (.lmul, 1) := dgq (p := 12) daX10_tip_0 dbX10_tip_0.2.2.2.2.2.2.1
theorem dX10_tip_13 : decode cX10_tip 13 = .ok (.ladd, 1) := dgq (p := 13) daX10_tip_0 dbX10_tip_0.2.2.2.2.2.2.2.1
theorem dX10_tip_14 : decode cX10_tip 14 = .ok (.ldc2_w 45, 3) := dgq (p := 14) daX10_tip_0 dbX10_tip_0.2.2.2.2.2.2.2.2.1
theorem dX10_tip_17 : decode cX10_tip 17 = .ok (.iload_n 1, 1) := dgq (p := 17) daX10_tip_0 dbX10_tip_0.2.2.2.2.2.2.2.2.2
def dsX10_tip_18 : ByteArray := ⟨#[133, 105, 42, 180, 0, 32, 133, 105, 20, 0, 47, 109, 97, 173]⟩
theorem daX10_tip_18 : agB cX10_tip dsX10_tip_18 18 := agB_of (n := 14) (by decide +kernel)
theorem dbX10_tip_18 : (decode dsX10_tip_18 0 = .ok (.i2l, 1) ∧ okop dsX10_tip_18 0 = true) ∧ (decode dsX10_tip_18 1 = .ok (.lmul, 1) ∧ okop dsX10_tip_18 1 = true) ∧ (decode dsX10_tip_18 2 = .ok (.aload_n 0, 1) ∧ okop dsX10_tip_18 2 = true) ∧ (decode dsX10_tip_18 3 = .ok (.getfield 32, 3) ∧ okop dsX10_tip_18 3 = true) ∧ (decode dsX10_tip_18 6 = .ok (.i2l, 1) ∧ okop dsX10_tip_18 6 = true) ∧ (decode dsX10_tip_18 7 = .ok (.lmul, 1) ∧ okop dsX10_tip_18 7 = true) ∧ (decode dsX10_tip_18 8 = .ok (.ldc2_w 47, 3) ∧ okop dsX10_tip_18 8 = true) ∧ (decode dsX10_tip_18 11 = .ok (.ldiv, 1) ∧ okop dsX10_tip_18 11 = true) ∧ (decode dsX10_tip_18 12 = .ok (.ladd, 1) ∧ okop dsX10_tip_18 12 = true) ∧ (decode dsX10_tip_18 13 = .ok (.lreturn, 1) ∧ okop dsX10_tip_18 13 = true) := by decide +kernel
theorem dX10_tip_18 : decode cX10_tip 18 = .ok (.i2l, 1) := dgq (p := 0) daX10_tip_18 dbX10_tip_18.1
theorem dX10_tip_19 : decode cX10_tip 19 = .ok (.lmul, 1) := dgq (p := 1) daX10_tip_18 dbX10_tip_18.2.1
theorem dX10_tip_20 : decode cX10_tip 20 = .ok (.aload_n 0, 1) := dgq (p := 2) daX10_tip_18 dbX10_tip_18.2.2.1
theorem dX10_tip_21 : decode cX10_tip 21 = .ok (.getfield 32, 3) := dgq (p := 3) daX10_tip_18 dbX10_tip_18.2.2.2.1
theorem dX10_tip_24 : decode cX10_tip 24 = .ok (.i2l, 1) := dgq (p := 6) daX10_tip_18 dbX10_tip_18.2.2.2.2.1
theorem dX10_tip_25 : decode cX10_tip 25 = .ok (.lmul, 1) := dgq (p := 7) daX10_tip_18 dbX10_tip_18.2.2.2.2.2.1
theorem dX10_tip_26 : decode cX10_tip 26 = .ok (.ldc2_w 47, 3) := dgq (p := 8) daX10_tip_18 dbX10_tip_18.2.2.2.2.2.2.1
theorem dX10_tip_29 : decode cX10_tip 29 = .ok (.ldiv, 1) := dgq (p := 11) daX10_tip_18 dbX10_tip_18.2.2.2.2.2.2.2.1
theorem dX10_tip_30 : decode cX10_tip 30 = .ok (.ladd, 1) := dgq (p := 12) daX10_tip_18 dbX10_tip_18.2.2.2.2.2.2.2.2.1
theorem dX10_tip_31 : decode cX10_tip 31 = .ok (.lreturn, 1) := dgq (p := 13) daX10_tip_18 dbX10_tip_18.2.2.2.2.2.2.2.2.2
def dsX10_isUndercut_0 : ByteArray := ⟨#[17, 0, 137, 27, 104, 16, 100, 17, 0, 137, 16, 8, 42, 180, 0, 29, 104, 100]⟩
theorem daX10_isUndercut_0 : agB cX10_isUndercut dsX10_isUndercut_0 0 := agB_of (n := 18) (by decide +kernel)
theorem dbX10_isUndercut_0 : (decode dsX10_isUndercut_0 0 = .ok (.sipush 137, 3) ∧ okop dsX10_isUndercut_0 0 = true) ∧ (decode dsX10_isUndercut_0 3 = .ok (.iload_n 1, 1) ∧ okop dsX10_isUndercut_0 3 = true) ∧ (decode dsX10_isUndercut_0 4 = .ok (.imul, 1) ∧ okop dsX10_isUndercut_0 4 = true) ∧ (decode dsX10_isUndercut_0 5 = .ok (.bipush 100, 2) ∧ okop dsX10_isUndercut_0 5 = true) ∧ (decode dsX10_isUndercut_0 7 = .ok (.sipush 137, 3) ∧ okop dsX10_isUndercut_0 7 = true) ∧ (decode dsX10_isUndercut_0 10 = .ok (.bipush 8, 2) ∧ okop dsX10_isUndercut_0 10 = true) ∧ (decode dsX10_isUndercut_0 12 = .ok (.aload_n 0, 1) ∧ okop dsX10_isUndercut_0 12 = true) ∧ (decode dsX10_isUndercut_0 13 = .ok (.getfield 29, 3) ∧ okop dsX10_isUndercut_0 13 = true) ∧ (decode dsX10_isUndercut_0 16 = .ok (.imul, 1) ∧ okop dsX10_isUndercut_0 16 = true) ∧ (decode dsX10_isUndercut_0 17 = .ok (.isub, 1) ∧ okop dsX10_isUndercut_0 17 = true) := by decide +kernel
theorem dX10_isUndercut_0 : decode cX10_isUndercut 0 = .ok (.sipush 137, 3) := dgq (p := 0) daX10_isUndercut_0 dbX10_isUndercut_0.1
theorem dX10_isUndercut_3 : decode cX10_isUndercut 3 = .ok (.iload_n 1, 1) := dgq (p := 3) daX10_isUndercut_0 dbX10_isUndercut_0.2.1
theorem dX10_isUndercut_4 : decode cX10_isUndercut 4 = .ok (.imul, 1) := dgq (p := 4) daX10_isUndercut_0 dbX10_isUndercut_0.2.2.1
theorem dX10_isUndercut_5 : decode cX10_isUndercut 5 = .ok (.bipush 100, 2) := dgq (p := 5) daX10_isUndercut_0 dbX10_isUndercut_0.2.2.2.1
theorem dX10_isUndercut_7 : decode cX10_isUndercut 7 = .ok (.sipush 137, 3) := dgq (p := 7) daX10_isUndercut_0 dbX10_isUndercut_0.2.2.2.2.1
theorem dX10_isUndercut_10 : decode cX10_isUndercut 10 = .ok (.bipush 8, 2) := dgq (p := 10) daX10_isUndercut_0 dbX10_isUndercut_0.2.2.2.2.2.1
theorem dX10_isUndercut_12 : decode cX10_isUndercut 12 = .ok (.aload_n 0, 1) := dgq (p := 12) daX10_isUndercut_0 dbX10_isUndercut_0.2.2.2.2.2.2.1
theorem dX10_isUndercut_13 : decode cX10_isUndercut 13 = .ok (.getfield 29, 3) := dgq (p := 13) daX10_isUndercut_0 dbX10_isUndercut_0.2.2.2.2.2.2.2.1
theorem dX10_isUndercut_16 : decode cX10_isUndercut 16 = .ok (.imul, 1) := dgq (p := 16) daX10_isUndercut_0 dbX10_isUndercut_0.2.2.2.2.2.2.2.2.1
theorem dX10_isUndercut_17 : decode cX10_isUndercut 17 = .ok (.isub, 1) := dgq (p := 17) daX10_isUndercut_0 dbX10_isUndercut_0.2.2.2.2.2.2.2.2.2
def dsX10_isUndercut_18 : ByteArray := ⟨#[104, 162, 0, 7, 4, 167, 0, 4, 3, 172]⟩
theorem daX10_isUndercut_18 : agB cX10_isUndercut dsX10_isUndercut_18 18 := agB_of (n := 10) (by decide +kernel)
theorem dbX10_isUndercut_18 : (decode dsX10_isUndercut_18 0 = .ok (.imul, 1) ∧ okop dsX10_isUndercut_18 0 = true) ∧ (decode dsX10_isUndercut_18 1 = .ok (.if_icmp .ge 7, 3) ∧ okop dsX10_isUndercut_18 1 = true) ∧ (decode dsX10_isUndercut_18 4 = .ok (.iconst 1, 1) ∧ okop dsX10_isUndercut_18 4 = true) ∧ (decode dsX10_isUndercut_18 5 = .ok (.goto 4, 3) ∧ okop dsX10_isUndercut_18 5 = true) ∧ (decode dsX10_isUndercut_18 8 = .ok (.iconst 0, 1) ∧ okop dsX10_isUndercut_18 8 = true) ∧ (decode dsX10_isUndercut_18 9 = .ok (.ireturn, 1) ∧ okop dsX10_isUndercut_18 9 = true) := by decide +kernel
theorem dX10_isUndercut_18 : decode cX10_isUndercut 18 = .ok (.imul, 1) := dgq (p := 0) daX10_isUndercut_18 dbX10_isUndercut_18.1
theorem dX10_isUndercut_19 : decode cX10_isUndercut 19 = .ok (.if_icmp .ge 7, 3) := dgq (p := 1) daX10_isUndercut_18 dbX10_isUndercut_18.2.1
theorem dX10_isUndercut_22 : decode cX10_isUndercut 22 = .ok (.iconst 1, 1) := dgq (p := 4) daX10_isUndercut_18 dbX10_isUndercut_18.2.2.1
theorem dX10_isUndercut_23 : decode cX10_isUndercut 23 = .ok (.goto 4, 3) := dgq (p := 5) daX10_isUndercut_18 dbX10_isUndercut_18.2.2.2.1
theorem dX10_isUndercut_26 : decode cX10_isUndercut 26 = .ok (.iconst 0, 1) := dgq (p := 8) daX10_isUndercut_18 dbX10_isUndercut_18.2.2.2.2.1
theorem dX10_isUndercut_27 : decode cX10_isUndercut 27 = .ok (.ireturn, 1) := dgq (p := 9) daX10_isUndercut_18 dbX10_isUndercut_18.2.2.2.2.2
def dsX10_isSharp_0 : ByteArray := ⟨#[16, 40, 27, 104, 16, 100, 42, 180, 0, 29, 16, 10, 96, 104, 164, 0, 7]⟩
theorem daX10_isSharp_0 : agB cX10_isSharp dsX10_isSharp_0 0 := agB_of (n := 17) (by decide +kernel)
theorem dbX10_isSharp_0 : (decode dsX10_isSharp_0 0 = .ok (.bipush 40, 2) ∧ okop dsX10_isSharp_0 0 = true) ∧ (decode dsX10_isSharp_0 2 = .ok (.iload_n 1, 1) ∧ okop dsX10_isSharp_0 2 = true) ∧ (decode dsX10_isSharp_0 3 = .ok (.imul, 1) ∧ okop dsX10_isSharp_0 3 = true) ∧ (decode dsX10_isSharp_0 4 = .ok (.bipush 100, 2) ∧ okop dsX10_isSharp_0 4 = true) ∧ (decode dsX10_isSharp_0 6 = .ok (.aload_n 0, 1) ∧ okop dsX10_isSharp_0 6 = true) ∧ (decode dsX10_isSharp_0 7 = .ok (.getfield 29, 3) ∧ okop dsX10_isSharp_0 7 = true) ∧ (decode dsX10_isSharp_0 10 = .ok (.bipush 10, 2) ∧ okop dsX10_isSharp_0 10 = true) ∧ (decode dsX10_isSharp_0 12 = .ok (.iadd, 1) ∧ okop dsX10_isSharp_0 12 = true) ∧ (decode dsX10_isSharp_0 13 = .ok (.imul, 1) ∧ okop dsX10_isSharp_0 13 = true) ∧ (decode dsX10_isSharp_0 14 = .ok (.if_icmp .le 7, 3) ∧ okop dsX10_isSharp_0 14 = true) := by decide +kernel
theorem dX10_isSharp_0 : decode cX10_isSharp 0 = .ok (.bipush 40, 2) := dgq (p := 0) daX10_isSharp_0 dbX10_isSharp_0.1
theorem dX10_isSharp_2 : decode cX10_isSharp 2 = .ok (.iload_n 1, 1) := dgq (p := 2) daX10_isSharp_0 dbX10_isSharp_0.2.1
theorem dX10_isSharp_3 : decode cX10_isSharp 3 = .ok (.imul, 1) := dgq (p := 3) daX10_isSharp_0 dbX10_isSharp_0.2.2.1
theorem dX10_isSharp_4 : decode cX10_isSharp 4 = .ok (.bipush 100, 2) := dgq (p := 4) daX10_isSharp_0 dbX10_isSharp_0.2.2.2.1
theorem dX10_isSharp_6 : decode cX10_isSharp 6 = .ok (.aload_n 0, 1) := dgq (p := 6) daX10_isSharp_0 dbX10_isSharp_0.2.2.2.2.1
theorem dX10_isSharp_7 : decode cX10_isSharp 7 = .ok (.getfield 29, 3) := dgq (p := 7) daX10_isSharp_0 dbX10_isSharp_0.2.2.2.2.2.1
theorem dX10_isSharp_10 : decode cX10_isSharp 10 = .ok (.bipush 10, 2) := dgq (p := 10) daX10_isSharp_0 dbX10_isSharp_0.2.2.2.2.2.2.1
theorem dX10_isSharp_12 : decode cX10_isSharp 12 = .ok (.iadd, 1) := dgq (p := 12) daX10_isSharp_0 dbX10_isSharp_0.2.2.2.2.2.2.2.1
theorem dX10_isSharp_13 : decode cX10_isSharp 13 = .ok (.imul, 1) := dgq (p := 13) daX10_isSharp_0 dbX10_isSharp_0.2.2.2.2.2.2.2.2.1
theorem dX10_isSharp_14 : decode cX10_isSharp 14 = .ok (.if_icmp .le 7, 3) := dgq (p := 14) daX10_isSharp_0 dbX10_isSharp_0.2.2.2.2.2.2.2.2.2
def dsX10_isSharp_17 : ByteArray := ⟨#[4, 167, 0, 4, 3, 172]⟩
theorem daX10_isSharp_17 : agB cX10_isSharp dsX10_isSharp_17 17 := agB_of (n := 6) (by decide +kernel)
theorem dbX10_isSharp_17 : (decode dsX10_isSharp_17 0 = .ok (.iconst 1, 1) ∧ okop dsX10_isSharp_17 0 = true) ∧ (decode dsX10_isSharp_17 1 = .ok (.goto 4, 3) ∧ okop dsX10_isSharp_17 1 = true) ∧ (decode dsX10_isSharp_17 4 = .ok (.iconst 0, 1) ∧ okop dsX10_isSharp_17 4 = true) ∧ (decode dsX10_isSharp_17 5 = .ok (.ireturn, 1) ∧ okop dsX10_isSharp_17 5 = true) := by decide +kernel
theorem dX10_isSharp_17 : decode cX10_isSharp 17 = .ok (.iconst 1, 1) := dgq (p := 0) daX10_isSharp_17 dbX10_isSharp_17.1
theorem dX10_isSharp_18 : decode cX10_isSharp 18 = .ok (.goto 4, 3) := dgq (p := 1) daX10_isSharp_17 dbX10_isSharp_17.2.1
theorem dX10_isSharp_21 : decode cX10_isSharp 21 = .ok (.iconst 0, 1) := dgq (p := 4) daX10_isSharp_17 dbX10_isSharp_17.2.2.1
theorem dX10_isSharp_22 : decode cX10_isSharp 22 = .ok (.ireturn, 1) := dgq (p := 5) daX10_isSharp_17 dbX10_isSharp_17.2.2.2
set_option maxRecDepth 20000 in
theorem ggX10_line_X10_tip : GoodIn wsX10_line wsX10_tip := goodIn_ca (goodIn_q _ [7, 8, 9, 10, 11, 12, 13, 6, 14, 15] rfl (by decide +kernel)) (goodIn_sub (fun _ h => (List.mem_cons_of_mem _ (List.mem_append_right _ h))) tg_wsX100)
set_option maxRecDepth 20000 in
theorem gX10_line_X10_tip : GoodIn wsX10_line (wsV RX10 51 RX10 yX10_tip wsX10_tip) := goodIn_app (goodIn_q _ [3, 4, 5, 6] rfl (by decide +kernel)) ggX10_line_X10_tip
set_option maxRecDepth 20000 in
theorem ggX10_line_X10_across : GoodIn wsX10_line wsX10_across := goodIn_ca (goodIn_q _ [14, 15, 9] rfl (by decide +kernel)) (goodIn_sub (fun _ h => (List.mem_cons_of_mem _ (List.mem_append_right _ h))) tg_wsX100)
set_option maxRecDepth 20000 in
theorem gX10_line_X10_across : GoodIn wsX10_line (wsV RX10 41 RX10 yX10_across wsX10_across) := goodIn_app (goodIn_q _ [11, 12, 13, 6] rfl (by decide +kernel)) ggX10_line_X10_across
set_option maxRecDepth 20000 in
theorem ggX10_line_X12_root : GoodIn wsX10_line wsX12_root := goodIn_q _ [18, 19, 20] rfl (by decide +kernel)
set_option maxRecDepth 20000 in
theorem gX10_line_X12_root_n57 : GoodIn wsX10_line (wsX12_root) := ggX10_line_X12_root
def dsX10_line_0 : ByteArray := ⟨#[20, 0, 49, 42, 27, 182, 0, 51, 105, 42, 27, 182, 0, 51, 105, 20, 0, 55]⟩
theorem daX10_line_0 : agB cX10_line dsX10_line_0 0 := agB_of (n := 18) (by decide +kernel)
theorem dbX10_line_0 : (decode dsX10_line_0 0 = .ok (.ldc2_w 49, 3) ∧ okop dsX10_line_0 0 = true) ∧ (decode dsX10_line_0 3 = .ok (.aload_n 0, 1) ∧ okop dsX10_line_0 3 = true) ∧ (decode dsX10_line_0 4 = .ok (.iload_n 1, 1) ∧ okop dsX10_line_0 4 = true) ∧ (decode dsX10_line_0 5 = .ok (.invokevirtual 51, 3) ∧ okop dsX10_line_0 5 = true) ∧ (decode dsX10_line_0 8 = .ok (.lmul, 1) ∧ okop dsX10_line_0 8 = true) ∧ (decode dsX10_line_0 9 = .ok (.aload_n 0, 1) ∧ okop dsX10_line_0 9 = true) ∧ (decode dsX10_line_0 10 = .ok (.iload_n 1, 1) ∧ okop dsX10_line_0 10 = true) ∧ (decode dsX10_line_0 11 = .ok (.invokevirtual 51, 3) ∧ okop dsX10_line_0 11 = true) ∧ (decode dsX10_line_0 14 = .ok (.lmul, 1) ∧ okop dsX10_line_0 14 = true) ∧ (decode dsX10_line_0 15 = .ok (.ldc2_w 55, 3) ∧ okop dsX10_line_0 15 = true) := by decide +kernel
theorem dX10_line_0 : decode cX10_line 0 = .ok (.ldc2_w 49, 3) := dgq (p := 0) daX10_line_0 dbX10_line_0.1
theorem dX10_line_3 : decode cX10_line 3 = .ok (.aload_n 0, 1) := dgq (p := 3) daX10_line_0 dbX10_line_0.2.1
theorem dX10_line_4 : decode cX10_line 4 = .ok (.iload_n 1, 1) := dgq (p := 4) daX10_line_0 dbX10_line_0.2.2.1
theorem dX10_line_5 : decode cX10_line 5 = .ok (.invokevirtual 51, 3) := dgq (p := 5) daX10_line_0 dbX10_line_0.2.2.2.1
theorem dX10_line_8 : decode cX10_line 8 = .ok (.lmul, 1) := dgq (p := 8) daX10_line_0 dbX10_line_0.2.2.2.2.1
theorem dX10_line_9 : decode cX10_line 9 = .ok (.aload_n 0, 1) := dgq (p := 9) daX10_line_0 dbX10_line_0.2.2.2.2.2.1
theorem dX10_line_10 : decode cX10_line 10 = .ok (.iload_n 1, 1) := dgq (p := 10) daX10_line_0 dbX10_line_0.2.2.2.2.2.2.1
theorem dX10_line_11 : decode cX10_line 11 = .ok (.invokevirtual 51, 3) := dgq (p := 11) daX10_line_0 dbX10_line_0.2.2.2.2.2.2.2.1
theorem dX10_line_14 : decode cX10_line 14 = .ok (.lmul, 1) := dgq (p := 14) daX10_line_0 dbX10_line_0.2.2.2.2.2.2.2.2.1
theorem dX10_line_15 : decode cX10_line 15 = .ok (.ldc2_w 55, 3) := dgq (p := 15) daX10_line_0 dbX10_line_0.2.2.2.2.2.2.2.2.2
def dsX10_line_18 : ByteArray := ⟨#[42, 182, 0, 41, 105, 42, 182, 0, 41, 105, 101, 20, 0, 49, 109, 184, 0, 57]⟩
theorem daX10_line_18 : agB cX10_line dsX10_line_18 18 := agB_of (n := 18) (by decide +kernel)
theorem dbX10_line_18 : (decode dsX10_line_18 0 = .ok (.aload_n 0, 1) ∧ okop dsX10_line_18 0 = true) ∧ (decode dsX10_line_18 1 = .ok (.invokevirtual 41, 3) ∧ okop dsX10_line_18 1 = true) ∧ (decode dsX10_line_18 4 = .ok (.lmul, 1) ∧ okop dsX10_line_18 4 = true) ∧ (decode dsX10_line_18 5 = .ok (.aload_n 0, 1) ∧ okop dsX10_line_18 5 = true) ∧ (decode dsX10_line_18 6 = .ok (.invokevirtual 41, 3) ∧ okop dsX10_line_18 6 = true) ∧ (decode dsX10_line_18 9 = .ok (.lmul, 1) ∧ okop dsX10_line_18 9 = true) ∧ (decode dsX10_line_18 10 = .ok (.lsub, 1) ∧ okop dsX10_line_18 10 = true) ∧ (decode dsX10_line_18 11 = .ok (.ldc2_w 49, 3) ∧ okop dsX10_line_18 11 = true) ∧ (decode dsX10_line_18 14 = .ok (.ldiv, 1) ∧ okop dsX10_line_18 14 = true) ∧ (decode dsX10_line_18 15 = .ok (.invokestatic 57, 3) ∧ okop dsX10_line_18 15 = true) := by decide +kernel
theorem dX10_line_18 : decode cX10_line 18 = .ok (.aload_n 0, 1) := dgq (p := 0) daX10_line_18 dbX10_line_18.1
theorem dX10_line_19 : decode cX10_line 19 = .ok (.invokevirtual 41, 3) := dgq (p := 1) daX10_line_18 dbX10_line_18.2.1
theorem dX10_line_22 : decode cX10_line 22 = .ok (.lmul, 1) := dgq (p := 4) daX10_line_18 dbX10_line_18.2.2.1
theorem dX10_line_23 : decode cX10_line 23 = .ok (.aload_n 0, 1) := dgq (p := 5) daX10_line_18 dbX10_line_18.2.2.2.1
theorem dX10_line_24 : decode cX10_line 24 = .ok (.invokevirtual 41, 3) := dgq (p := 6) daX10_line_18 dbX10_line_18.2.2.2.2.1
theorem dX10_line_27 : decode cX10_line 27 = .ok (.lmul, 1) := dgq (p := 9) daX10_line_18 dbX10_line_18.2.2.2.2.2.1
theorem dX10_line_28 : decode cX10_line 28 = .ok (.lsub, 1) := dgq (p := 10) daX10_line_18 dbX10_line_18.2.2.2.2.2.2.1
theorem dX10_line_29 : decode cX10_line 29 = .ok (.ldc2_w 49, 3) := dgq (p := 11) daX10_line_18 dbX10_line_18.2.2.2.2.2.2.2.1
theorem dX10_line_32 : decode cX10_line 32 = .ok (.ldiv, 1) := dgq (p := 14) daX10_line_18 dbX10_line_18.2.2.2.2.2.2.2.2.1
theorem dX10_line_33 : decode cX10_line 33 = .ok (.invokestatic 57, 3) := dgq (p := 15) daX10_line_18 dbX10_line_18.2.2.2.2.2.2.2.2.2
theorem dX10_line_36 : decode cX10_line 36 = .ok (.lreturn, 1) := by decide +kernel
set_option maxRecDepth 20000 in
theorem ggX10_way_X10_line : GoodIn wsX10_way wsX10_line := goodIn_ca (goodIn_q _ [7, 2, 8, 9, 10, 11, 6, 12, 13, 14, 15, 16, 17, 18, 19, 20, 21, 22, 23, 24, 25] rfl (by decide +kernel)) (goodIn_sub (fun _ h => (List.mem_cons_of_mem _ (List.mem_append_right _ h))) tg_wsX100)
set_option maxRecDepth 20000 in
theorem gX10_way_X10_line : GoodIn wsX10_way (wsV RX10 61 RX10 yX10_line wsX10_line) := goodIn_app (goodIn_q _ [3, 4, 5, 6] rfl (by decide +kernel)) ggX10_way_X10_line
set_option maxRecDepth 20000 in
theorem ggX10_way_X10_across : GoodIn wsX10_way wsX10_across := goodIn_ca (goodIn_q _ [19, 20, 14] rfl (by decide +kernel)) (goodIn_sub (fun _ h => (List.mem_cons_of_mem _ (List.mem_append_right _ h))) tg_wsX100)
set_option maxRecDepth 20000 in
theorem gX10_way_X10_across : GoodIn wsX10_way (wsV RX10 41 RX10 yX10_across wsX10_across) := goodIn_app (goodIn_q _ [16, 17, 18, 6] rfl (by decide +kernel)) ggX10_way_X10_across
set_option maxRecDepth 20000 in
theorem ggX10_way_X12_root : GoodIn wsX10_way wsX12_root := goodIn_q _ [23, 24, 25] rfl (by decide +kernel)
set_option maxRecDepth 20000 in
theorem gX10_way_X12_root_n57 : GoodIn wsX10_way (wsX12_root) := ggX10_way_X12_root
def dsX10_way_0 : ByteArray := ⟨#[42, 27, 182, 0, 61, 20, 0, 64, 42, 182, 0, 41, 105, 42, 182, 0, 41, 105]⟩
theorem daX10_way_0 : agB cX10_way dsX10_way_0 0 := agB_of (n := 18) (by decide +kernel)
theorem dbX10_way_0 : (decode dsX10_way_0 0 = .ok (.aload_n 0, 1) ∧ okop dsX10_way_0 0 = true) ∧ (decode dsX10_way_0 1 = .ok (.iload_n 1, 1) ∧ okop dsX10_way_0 1 = true) ∧ (decode dsX10_way_0 2 = .ok (.invokevirtual 61, 3) ∧ okop dsX10_way_0 2 = true) ∧ (decode dsX10_way_0 5 = .ok (.ldc2_w 64, 3) ∧ okop dsX10_way_0 5 = true) ∧ (decode dsX10_way_0 8 = .ok (.aload_n 0, 1) ∧ okop dsX10_way_0 8 = true) ∧ (decode dsX10_way_0 9 = .ok (.invokevirtual 41, 3) ∧ okop dsX10_way_0 9 = true) ∧ (decode dsX10_way_0 12 = .ok (.lmul, 1) ∧ okop dsX10_way_0 12 = true) ∧ (decode dsX10_way_0 13 = .ok (.aload_n 0, 1) ∧ okop dsX10_way_0 13 = true) ∧ (decode dsX10_way_0 14 = .ok (.invokevirtual 41, 3) ∧ okop dsX10_way_0 14 = true) ∧ (decode dsX10_way_0 17 = .ok (.lmul, 1) ∧ okop dsX10_way_0 17 = true) := by decide +kernel
theorem dX10_way_0 : decode cX10_way 0 = .ok (.aload_n 0, 1) := dgq (p := 0) daX10_way_0 dbX10_way_0.1
theorem dX10_way_1 : decode cX10_way 1 = .ok (.iload_n 1, 1) := dgq (p := 1) daX10_way_0 dbX10_way_0.2.1
theorem dX10_way_2 : decode cX10_way 2 = .ok (.invokevirtual 61, 3) := dgq (p := 2) daX10_way_0 dbX10_way_0.2.2.1
theorem dX10_way_5 : decode cX10_way 5 = .ok (.ldc2_w 64, 3) := dgq (p := 5) daX10_way_0 dbX10_way_0.2.2.2.1
theorem dX10_way_8 : decode cX10_way 8 = .ok (.aload_n 0, 1) := dgq (p := 8) daX10_way_0 dbX10_way_0.2.2.2.2.1
theorem dX10_way_9 : decode cX10_way 9 = .ok (.invokevirtual 41, 3) := dgq (p := 9) daX10_way_0 dbX10_way_0.2.2.2.2.2.1
theorem dX10_way_12 : decode cX10_way 12 = .ok (.lmul, 1) := dgq (p := 12) daX10_way_0 dbX10_way_0.2.2.2.2.2.2.1
theorem dX10_way_13 : decode cX10_way 13 = .ok (.aload_n 0, 1) := dgq (p := 13) daX10_way_0 dbX10_way_0.2.2.2.2.2.2.2.1
theorem dX10_way_14 : decode cX10_way 14 = .ok (.invokevirtual 41, 3) := dgq (p := 14) daX10_way_0 dbX10_way_0.2.2.2.2.2.2.2.2.1
theorem dX10_way_17 : decode cX10_way 17 = .ok (.lmul, 1) := dgq (p := 17) daX10_way_0 dbX10_way_0.2.2.2.2.2.2.2.2.2
def dsX10_way_18 : ByteArray := ⟨#[20, 0, 49, 109, 184, 0, 57, 101, 173]⟩
theorem daX10_way_18 : agB cX10_way dsX10_way_18 18 := agB_of (n := 9) (by decide +kernel)
theorem dbX10_way_18 : (decode dsX10_way_18 0 = .ok (.ldc2_w 49, 3) ∧ okop dsX10_way_18 0 = true) ∧ (decode dsX10_way_18 3 = .ok (.ldiv, 1) ∧ okop dsX10_way_18 3 = true) ∧ (decode dsX10_way_18 4 = .ok (.invokestatic 57, 3) ∧ okop dsX10_way_18 4 = true) ∧ (decode dsX10_way_18 7 = .ok (.lsub, 1) ∧ okop dsX10_way_18 7 = true) ∧ (decode dsX10_way_18 8 = .ok (.lreturn, 1) ∧ okop dsX10_way_18 8 = true) := by decide +kernel
theorem dX10_way_18 : decode cX10_way 18 = .ok (.ldc2_w 49, 3) := dgq (p := 0) daX10_way_18 dbX10_way_18.1
theorem dX10_way_21 : decode cX10_way 21 = .ok (.ldiv, 1) := dgq (p := 3) daX10_way_18 dbX10_way_18.2.1
theorem dX10_way_22 : decode cX10_way 22 = .ok (.invokestatic 57, 3) := dgq (p := 4) daX10_way_18 dbX10_way_18.2.2.1
theorem dX10_way_25 : decode cX10_way 25 = .ok (.lsub, 1) := dgq (p := 7) daX10_way_18 dbX10_way_18.2.2.2.1
theorem dX10_way_26 : decode cX10_way 26 = .ok (.lreturn, 1) := dgq (p := 8) daX10_way_18 dbX10_way_18.2.2.2.2
set_option maxRecDepth 20000 in
theorem ggX10_isFine_X10_isUndercut : GoodIn wsX10_isFine wsX10_isUndercut := goodIn_ca (goodIn_q _ [5, 6] rfl (by decide +kernel)) (goodIn_sub (fun _ h => (List.mem_cons_of_mem _ (List.mem_append_right _ h))) tg_wsX100)
set_option maxRecDepth 20000 in
theorem gX10_isFine_X10_isUndercut : GoodIn wsX10_isFine (wsV RX10 66 RX10 yX10_isUndercut wsX10_isUndercut) := goodIn_app (goodIn_q _ [1, 2, 3, 4] rfl (by decide +kernel)) ggX10_isFine_X10_isUndercut
set_option maxRecDepth 20000 in
theorem ggX10_isFine_X10_isSharp : GoodIn wsX10_isFine wsX10_isSharp := goodIn_ca (goodIn_q _ [10, 6] rfl (by decide +kernel)) (goodIn_sub (fun _ h => (List.mem_cons_of_mem _ (List.mem_append_right _ h))) tg_wsX100)
set_option maxRecDepth 20000 in
theorem gX10_isFine_X10_isSharp : GoodIn wsX10_isFine (wsV RX10 70 RX10 yX10_isSharp wsX10_isSharp) := goodIn_app (goodIn_q _ [7, 8, 9, 4] rfl (by decide +kernel)) ggX10_isFine_X10_isSharp
def dsX10_isFine_0 : ByteArray := ⟨#[42, 27, 182, 0, 66, 154, 0, 15, 42, 27, 182, 0, 70, 154, 0, 7, 4, 167, 0, 4]⟩
theorem daX10_isFine_0 : agB cX10_isFine dsX10_isFine_0 0 := agB_of (n := 20) (by decide +kernel)
theorem dbX10_isFine_0 : (decode dsX10_isFine_0 0 = .ok (.aload_n 0, 1) ∧ okop dsX10_isFine_0 0 = true) ∧ (decode dsX10_isFine_0 1 = .ok (.iload_n 1, 1) ∧ okop dsX10_isFine_0 1 = true) ∧ (decode dsX10_isFine_0 2 = .ok (.invokevirtual 66, 3) ∧ okop dsX10_isFine_0 2 = true) ∧ (decode dsX10_isFine_0 5 = .ok (.ifCond .ne 15, 3) ∧ okop dsX10_isFine_0 5 = true) ∧ (decode dsX10_isFine_0 8 = .ok (.aload_n 0, 1) ∧ okop dsX10_isFine_0 8 = true) ∧ (decode dsX10_isFine_0 9 = .ok (.iload_n 1, 1) ∧ okop dsX10_isFine_0 9 = true) ∧ (decode dsX10_isFine_0 10 = .ok (.invokevirtual 70, 3) ∧ okop dsX10_isFine_0 10 = true) ∧ (decode dsX10_isFine_0 13 = .ok (.ifCond .ne 7, 3) ∧ okop dsX10_isFine_0 13 = true) ∧ (decode dsX10_isFine_0 16 = .ok (.iconst 1, 1) ∧ okop dsX10_isFine_0 16 = true) ∧ (decode dsX10_isFine_0 17 = .ok (.goto 4, 3) ∧ okop dsX10_isFine_0 17 = true) := by decide +kernel
theorem dX10_isFine_0 : decode cX10_isFine 0 = .ok (.aload_n 0, 1) := dgq (p := 0) daX10_isFine_0 dbX10_isFine_0.1
theorem dX10_isFine_1 : decode cX10_isFine 1 = .ok (.iload_n 1, 1) := dgq (p := 1) daX10_isFine_0 dbX10_isFine_0.2.1
theorem dX10_isFine_2 : decode cX10_isFine 2 = .ok (.invokevirtual 66, 3) := dgq (p := 2) daX10_isFine_0 dbX10_isFine_0.2.2.1
theorem dX10_isFine_5 : decode cX10_isFine 5 = .ok (.ifCond .ne 15, 3) := dgq (p := 5) daX10_isFine_0 dbX10_isFine_0.2.2.2.1
theorem dX10_isFine_8 : decode cX10_isFine 8 = .ok (.aload_n 0, 1) := dgq (p := 8) daX10_isFine_0 dbX10_isFine_0.2.2.2.2.1
theorem dX10_isFine_9 : decode cX10_isFine 9 = .ok (.iload_n 1, 1) := dgq (p := 9) daX10_isFine_0 dbX10_isFine_0.2.2.2.2.2.1
theorem dX10_isFine_10 : decode cX10_isFine 10 = .ok (.invokevirtual 70, 3) := dgq (p := 10) daX10_isFine_0 dbX10_isFine_0.2.2.2.2.2.2.1
theorem dX10_isFine_13 : decode cX10_isFine 13 = .ok (.ifCond .ne 7, 3) := dgq (p := 13) daX10_isFine_0 dbX10_isFine_0.2.2.2.2.2.2.2.1
theorem dX10_isFine_16 : decode cX10_isFine 16 = .ok (.iconst 1, 1) := dgq (p := 16) daX10_isFine_0 dbX10_isFine_0.2.2.2.2.2.2.2.2.1
theorem dX10_isFine_17 : decode cX10_isFine 17 = .ok (.goto 4, 3) := dgq (p := 17) daX10_isFine_0 dbX10_isFine_0.2.2.2.2.2.2.2.2.2
theorem dX10_isFine_20 : decode cX10_isFine 20 = .ok (.iconst 0, 1) := by decide +kernel
theorem dX10_isFine_21 : decode cX10_isFine 21 = .ok (.ireturn, 1) := by decide +kernel
def dsX10_caseLeft_0 : ByteArray := ⟨#[42, 180, 0, 73, 153, 0, 19, 3, 42, 180, 0, 77, 42, 180, 0, 80, 100, 184, 0, 83]⟩
theorem daX10_caseLeft_0 : agB cX10_caseLeft dsX10_caseLeft_0 0 := agB_of (n := 20) (by decide +kernel)
theorem dbX10_caseLeft_0 : (decode dsX10_caseLeft_0 0 = .ok (.aload_n 0, 1) ∧ okop dsX10_caseLeft_0 0 = true) ∧ (decode dsX10_caseLeft_0 1 = .ok (.getfield 73, 3) ∧ okop dsX10_caseLeft_0 1 = true) ∧ (decode dsX10_caseLeft_0 4 = .ok (.ifCond .eq 19, 3) ∧ okop dsX10_caseLeft_0 4 = true) ∧ (decode dsX10_caseLeft_0 7 = .ok (.iconst 0, 1) ∧ okop dsX10_caseLeft_0 7 = true) ∧ (decode dsX10_caseLeft_0 8 = .ok (.aload_n 0, 1) ∧ okop dsX10_caseLeft_0 8 = true) ∧ (decode dsX10_caseLeft_0 9 = .ok (.getfield 77, 3) ∧ okop dsX10_caseLeft_0 9 = true) ∧ (decode dsX10_caseLeft_0 12 = .ok (.aload_n 0, 1) ∧ okop dsX10_caseLeft_0 12 = true) ∧ (decode dsX10_caseLeft_0 13 = .ok (.getfield 80, 3) ∧ okop dsX10_caseLeft_0 13 = true) ∧ (decode dsX10_caseLeft_0 16 = .ok (.isub, 1) ∧ okop dsX10_caseLeft_0 16 = true) ∧ (decode dsX10_caseLeft_0 17 = .ok (.invokestatic 83, 3) ∧ okop dsX10_caseLeft_0 17 = true) := by decide +kernel
theorem dX10_caseLeft_0 : decode cX10_caseLeft 0 = .ok (.aload_n 0, 1) := dgq (p := 0) daX10_caseLeft_0 dbX10_caseLeft_0.1
theorem dX10_caseLeft_1 : decode cX10_caseLeft 1 = .ok (.getfield 73, 3) := dgq (p := 1) daX10_caseLeft_0 dbX10_caseLeft_0.2.1
theorem dX10_caseLeft_4 : decode cX10_caseLeft 4 = .ok (.ifCond .eq 19, 3) := dgq (p := 4) daX10_caseLeft_0 dbX10_caseLeft_0.2.2.1
theorem dX10_caseLeft_7 : decode cX10_caseLeft 7 = .ok (.iconst 0, 1) := dgq (p := 7) daX10_caseLeft_0 dbX10_caseLeft_0.2.2.2.1
theorem dX10_caseLeft_8 : decode cX10_caseLeft 8 = .ok (.aload_n 0, 1) := dgq (p := 8) daX10_caseLeft_0 dbX10_caseLeft_0.2.2.2.2.1
theorem dX10_caseLeft_9 : decode cX10_caseLeft 9 = .ok (.getfield 77, 3) := dgq (p := 9) daX10_caseLeft_0 dbX10_caseLeft_0.2.2.2.2.2.1
theorem dX10_caseLeft_12 : decode cX10_caseLeft 12 = .ok (.aload_n 0, 1) := dgq (p := 12) daX10_caseLeft_0 dbX10_caseLeft_0.2.2.2.2.2.2.1
theorem dX10_caseLeft_13 : decode cX10_caseLeft 13 = .ok (.getfield 80, 3) := dgq (p := 13) daX10_caseLeft_0 dbX10_caseLeft_0.2.2.2.2.2.2.2.1
theorem dX10_caseLeft_16 : decode cX10_caseLeft 16 = .ok (.isub, 1) := dgq (p := 16) daX10_caseLeft_0 dbX10_caseLeft_0.2.2.2.2.2.2.2.2.1
theorem dX10_caseLeft_17 : decode cX10_caseLeft 17 = .ok (.invokestatic 83, 3) := dgq (p := 17) daX10_caseLeft_0 dbX10_caseLeft_0.2.2.2.2.2.2.2.2.2
def dsX10_caseLeft_20 : ByteArray := ⟨#[167, 0, 4, 3, 172]⟩
theorem daX10_caseLeft_20 : agB cX10_caseLeft dsX10_caseLeft_20 20 := agB_of (n := 5) (by decide +kernel)
theorem dbX10_caseLeft_20 : (decode dsX10_caseLeft_20 0 = .ok (.goto 4, 3) ∧ okop dsX10_caseLeft_20 0 = true) ∧ (decode dsX10_caseLeft_20 3 = .ok (.iconst 0, 1) ∧ okop dsX10_caseLeft_20 3 = true) ∧ (decode dsX10_caseLeft_20 4 = .ok (.ireturn, 1) ∧ okop dsX10_caseLeft_20 4 = true) := by decide +kernel
theorem dX10_caseLeft_20 : decode cX10_caseLeft 20 = .ok (.goto 4, 3) := dgq (p := 0) daX10_caseLeft_20 dbX10_caseLeft_20.1
theorem dX10_caseLeft_23 : decode cX10_caseLeft 23 = .ok (.iconst 0, 1) := dgq (p := 3) daX10_caseLeft_20 dbX10_caseLeft_20.2.1
theorem dX10_caseLeft_24 : decode cX10_caseLeft 24 = .ok (.ireturn, 1) := dgq (p := 4) daX10_caseLeft_20 dbX10_caseLeft_20.2.2
def dsX10_isBroken_0 : ByteArray := ⟨#[42, 180, 0, 89, 20, 0, 93, 148, 155, 0, 7, 4, 167, 0, 4, 3, 172]⟩
theorem daX10_isBroken_0 : agB cX10_isBroken dsX10_isBroken_0 0 := agB_of (n := 17) (by decide +kernel)
theorem dbX10_isBroken_0 : (decode dsX10_isBroken_0 0 = .ok (.aload_n 0, 1) ∧ okop dsX10_isBroken_0 0 = true) ∧ (decode dsX10_isBroken_0 1 = .ok (.getfield 89, 3) ∧ okop dsX10_isBroken_0 1 = true) ∧ (decode dsX10_isBroken_0 4 = .ok (.ldc2_w 93, 3) ∧ okop dsX10_isBroken_0 4 = true) ∧ (decode dsX10_isBroken_0 7 = .ok (.lcmp, 1) ∧ okop dsX10_isBroken_0 7 = true) ∧ (decode dsX10_isBroken_0 8 = .ok (.ifCond .lt 7, 3) ∧ okop dsX10_isBroken_0 8 = true) ∧ (decode dsX10_isBroken_0 11 = .ok (.iconst 1, 1) ∧ okop dsX10_isBroken_0 11 = true) ∧ (decode dsX10_isBroken_0 12 = .ok (.goto 4, 3) ∧ okop dsX10_isBroken_0 12 = true) ∧ (decode dsX10_isBroken_0 15 = .ok (.iconst 0, 1) ∧ okop dsX10_isBroken_0 15 = true) ∧ (decode dsX10_isBroken_0 16 = .ok (.ireturn, 1) ∧ okop dsX10_isBroken_0 16 = true) := by decide +kernel
theorem dX10_isBroken_0 : decode cX10_isBroken 0 = .ok (.aload_n 0, 1) := dgq (p := 0) daX10_isBroken_0 dbX10_isBroken_0.1
theorem dX10_isBroken_1 : decode cX10_isBroken 1 = .ok (.getfield 89, 3) := dgq (p := 1) daX10_isBroken_0 dbX10_isBroken_0.2.1
theorem dX10_isBroken_4 : decode cX10_isBroken 4 = .ok (.ldc2_w 93, 3) := dgq (p := 4) daX10_isBroken_0 dbX10_isBroken_0.2.2.1
theorem dX10_isBroken_7 : decode cX10_isBroken 7 = .ok (.lcmp, 1) := dgq (p := 7) daX10_isBroken_0 dbX10_isBroken_0.2.2.2.1
theorem dX10_isBroken_8 : decode cX10_isBroken 8 = .ok (.ifCond .lt 7, 3) := dgq (p := 8) daX10_isBroken_0 dbX10_isBroken_0.2.2.2.2.1
theorem dX10_isBroken_11 : decode cX10_isBroken 11 = .ok (.iconst 1, 1) := dgq (p := 11) daX10_isBroken_0 dbX10_isBroken_0.2.2.2.2.2.1
theorem dX10_isBroken_12 : decode cX10_isBroken 12 = .ok (.goto 4, 3) := dgq (p := 12) daX10_isBroken_0 dbX10_isBroken_0.2.2.2.2.2.2.1
theorem dX10_isBroken_15 : decode cX10_isBroken 15 = .ok (.iconst 0, 1) := dgq (p := 15) daX10_isBroken_0 dbX10_isBroken_0.2.2.2.2.2.2.2.1
theorem dX10_isBroken_16 : decode cX10_isBroken 16 = .ok (.ireturn, 1) := dgq (p := 16) daX10_isBroken_0 dbX10_isBroken_0.2.2.2.2.2.2.2.2
set_option maxRecDepth 20000 in
theorem ggX10_isFree_X10_isBroken : GoodIn wsX10_isFree wsX10_isBroken := goodIn_ca (goodIn_q _ [8, 9, 10] rfl (by decide +kernel)) (goodIn_sub (fun _ h => (List.mem_cons_of_mem _ (List.mem_append_right _ h))) tg_wsX100)
set_option maxRecDepth 20000 in
theorem gX10_isFree_X10_isBroken : GoodIn wsX10_isFree (wsV RX10 101 RX10 yX10_isBroken wsX10_isBroken) := goodIn_app (goodIn_q _ [4, 5, 6, 7] rfl (by decide +kernel)) ggX10_isFree_X10_isBroken
def dsX10_isFree_0 : ByteArray := ⟨#[42, 180, 0, 95, 153, 0, 29, 42, 180, 0, 98, 154, 0, 22, 42, 182, 0, 101, 154, 0, 15, 42]⟩
theorem daX10_isFree_0 : agB cX10_isFree dsX10_isFree_0 0 := agB_of (n := 22) (by decide +kernel)
theorem dbX10_isFree_0 : (decode dsX10_isFree_0 0 = .ok (.aload_n 0, 1) ∧ okop dsX10_isFree_0 0 = true) ∧ (decode dsX10_isFree_0 1 = .ok (.getfield 95, 3) ∧ okop dsX10_isFree_0 1 = true) ∧ (decode dsX10_isFree_0 4 = .ok (.ifCond .eq 29, 3) ∧ okop dsX10_isFree_0 4 = true) ∧ (decode dsX10_isFree_0 7 = .ok (.aload_n 0, 1) ∧ okop dsX10_isFree_0 7 = true) ∧ (decode dsX10_isFree_0 8 = .ok (.getfield 98, 3) ∧ okop dsX10_isFree_0 8 = true) ∧ (decode dsX10_isFree_0 11 = .ok (.ifCond .ne 22, 3) ∧ okop dsX10_isFree_0 11 = true) ∧ (decode dsX10_isFree_0 14 = .ok (.aload_n 0, 1) ∧ okop dsX10_isFree_0 14 = true) ∧ (decode dsX10_isFree_0 15 = .ok (.invokevirtual 101, 3) ∧ okop dsX10_isFree_0 15 = true) ∧ (decode dsX10_isFree_0 18 = .ok (.ifCond .ne 15, 3) ∧ okop dsX10_isFree_0 18 = true) ∧ (decode dsX10_isFree_0 21 = .ok (.aload_n 0, 1) ∧ okop dsX10_isFree_0 21 = true) := by decide +kernel
theorem dX10_isFree_0 : decode cX10_isFree 0 = .ok (.aload_n 0, 1) := dgq (p := 0) daX10_isFree_0 dbX10_isFree_0.1
theorem dX10_isFree_1 : decode cX10_isFree 1 = .ok (.getfield 95, 3) := dgq (p := 1) daX10_isFree_0 dbX10_isFree_0.2.1
theorem dX10_isFree_4 : decode cX10_isFree 4 = .ok (.ifCond .eq 29, 3) := dgq (p := 4) daX10_isFree_0 dbX10_isFree_0.2.2.1
theorem dX10_isFree_7 : decode cX10_isFree 7 = .ok (.aload_n 0, 1) := dgq (p := 7) daX10_isFree_0 dbX10_isFree_0.2.2.2.1
theorem dX10_isFree_8 : decode cX10_isFree 8 = .ok (.getfield 98, 3) := dgq (p := 8) daX10_isFree_0 dbX10_isFree_0.2.2.2.2.1
theorem dX10_isFree_11 : decode cX10_isFree 11 = .ok (.ifCond .ne 22, 3) := dgq (p := 11) daX10_isFree_0 dbX10_isFree_0.2.2.2.2.2.1
theorem dX10_isFree_14 : decode cX10_isFree 14 = .ok (.aload_n 0, 1) := dgq (p := 14) daX10_isFree_0 dbX10_isFree_0.2.2.2.2.2.2.1
theorem dX10_isFree_15 : decode cX10_isFree 15 = .ok (.invokevirtual 101, 3) := dgq (p := 15) daX10_isFree_0 dbX10_isFree_0.2.2.2.2.2.2.2.1
theorem dX10_isFree_18 : decode cX10_isFree 18 = .ok (.ifCond .ne 15, 3) := dgq (p := 18) daX10_isFree_0 dbX10_isFree_0.2.2.2.2.2.2.2.2.1
theorem dX10_isFree_21 : decode cX10_isFree 21 = .ok (.aload_n 0, 1) := dgq (p := 21) daX10_isFree_0 dbX10_isFree_0.2.2.2.2.2.2.2.2.2
def dsX10_isFree_22 : ByteArray := ⟨#[180, 0, 23, 2, 160, 0, 7, 4, 167, 0, 4, 3, 172]⟩
theorem daX10_isFree_22 : agB cX10_isFree dsX10_isFree_22 22 := agB_of (n := 13) (by decide +kernel)
theorem dbX10_isFree_22 : (decode dsX10_isFree_22 0 = .ok (.getfield 23, 3) ∧ okop dsX10_isFree_22 0 = true) ∧ (decode dsX10_isFree_22 3 = .ok (.iconst (-1), 1) ∧ okop dsX10_isFree_22 3 = true) ∧ (decode dsX10_isFree_22 4 = .ok (.if_icmp .ne 7, 3) ∧ okop dsX10_isFree_22 4 = true) ∧ (decode dsX10_isFree_22 7 = .ok (.iconst 1, 1) ∧ okop dsX10_isFree_22 7 = true) ∧ (decode dsX10_isFree_22 8 = .ok (.goto 4, 3) ∧ okop dsX10_isFree_22 8 = true) ∧ (decode dsX10_isFree_22 11 = .ok (.iconst 0, 1) ∧ okop dsX10_isFree_22 11 = true) ∧ (decode dsX10_isFree_22 12 = .ok (.ireturn, 1) ∧ okop dsX10_isFree_22 12 = true) := by decide +kernel
theorem dX10_isFree_22 : decode cX10_isFree 22 = .ok (.getfield 23, 3) := dgq (p := 0) daX10_isFree_22 dbX10_isFree_22.1
theorem dX10_isFree_25 : decode cX10_isFree 25 = .ok (.iconst (-1), 1) := dgq (p := 3) daX10_isFree_22 dbX10_isFree_22.2.1
theorem dX10_isFree_26 : decode cX10_isFree 26 = .ok (.if_icmp .ne 7, 3) := dgq (p := 4) daX10_isFree_22 dbX10_isFree_22.2.2.1
theorem dX10_isFree_29 : decode cX10_isFree 29 = .ok (.iconst 1, 1) := dgq (p := 7) daX10_isFree_22 dbX10_isFree_22.2.2.2.1
theorem dX10_isFree_30 : decode cX10_isFree 30 = .ok (.goto 4, 3) := dgq (p := 8) daX10_isFree_22 dbX10_isFree_22.2.2.2.2.1
theorem dX10_isFree_33 : decode cX10_isFree 33 = .ok (.iconst 0, 1) := dgq (p := 11) daX10_isFree_22 dbX10_isFree_22.2.2.2.2.2.1
theorem dX10_isFree_34 : decode cX10_isFree 34 = .ok (.ireturn, 1) := dgq (p := 12) daX10_isFree_22 dbX10_isFree_22.2.2.2.2.2.2
def dsX10_greatest_0 : ByteArray := ⟨#[3, 60, 3, 61, 28, 42, 180, 0, 29, 162, 0, 23, 27, 42]⟩
theorem daX10_greatest_0 : agB cX10_greatest dsX10_greatest_0 0 := agB_of (n := 14) (by decide +kernel)
theorem dbX10_greatest_0 : (decode dsX10_greatest_0 0 = .ok (.iconst 0, 1) ∧ okop dsX10_greatest_0 0 = true) ∧ (decode dsX10_greatest_0 1 = .ok (.istore_n 1, 1) ∧ okop dsX10_greatest_0 1 = true) ∧ (decode dsX10_greatest_0 2 = .ok (.iconst 0, 1) ∧ okop dsX10_greatest_0 2 = true) ∧ (decode dsX10_greatest_0 3 = .ok (.istore_n 2, 1) ∧ okop dsX10_greatest_0 3 = true) ∧ (decode dsX10_greatest_0 4 = .ok (.iload_n 2, 1) ∧ okop dsX10_greatest_0 4 = true) ∧ (decode dsX10_greatest_0 5 = .ok (.aload_n 0, 1) ∧ okop dsX10_greatest_0 5 = true) ∧ (decode dsX10_greatest_0 6 = .ok (.getfield 29, 3) ∧ okop dsX10_greatest_0 6 = true) ∧ (decode dsX10_greatest_0 9 = .ok (.if_icmp .ge 23, 3) ∧ okop dsX10_greatest_0 9 = true) ∧ (decode dsX10_greatest_0 12 = .ok (.iload_n 1, 1) ∧ okop dsX10_greatest_0 12 = true) ∧ (decode dsX10_greatest_0 13 = .ok (.aload_n 0, 1) ∧ okop dsX10_greatest_0 13 = true) := by decide +kernel
theorem dX10_greatest_0 : decode cX10_greatest 0 = .ok (.iconst 0, 1) := dgq (p := 0) daX10_greatest_0 dbX10_greatest_0.1
theorem dX10_greatest_1 : decode cX10_greatest 1 = .ok (.istore_n 1, 1) := dgq (p := 1) daX10_greatest_0 dbX10_greatest_0.2.1
theorem dX10_greatest_2 : decode cX10_greatest 2 = .ok (.iconst 0, 1) := dgq (p := 2) daX10_greatest_0 dbX10_greatest_0.2.2.1
theorem dX10_greatest_3 : decode cX10_greatest 3 = .ok (.istore_n 2, 1) := dgq (p := 3) daX10_greatest_0 dbX10_greatest_0.2.2.2.1
theorem dX10_greatest_4 : decode cX10_greatest 4 = .ok (.iload_n 2, 1) := dgq (p := 4) daX10_greatest_0 dbX10_greatest_0.2.2.2.2.1
theorem dX10_greatest_5 : decode cX10_greatest 5 = .ok (.aload_n 0, 1) := dgq (p := 5) daX10_greatest_0 dbX10_greatest_0.2.2.2.2.2.1
theorem dX10_greatest_6 : decode cX10_greatest 6 = .ok (.getfield 29, 3) := dgq (p := 6) daX10_greatest_0 dbX10_greatest_0.2.2.2.2.2.2.1
theorem dX10_greatest_9 : decode cX10_greatest 9 = .ok (.if_icmp .ge 23, 3) := dgq (p := 9) daX10_greatest_0 dbX10_greatest_0.2.2.2.2.2.2.2.1
theorem dX10_greatest_12 : decode cX10_greatest 12 = .ok (.iload_n 1, 1) := dgq (p := 12) daX10_greatest_0 dbX10_greatest_0.2.2.2.2.2.2.2.2.1
theorem dX10_greatest_13 : decode cX10_greatest 13 = .ok (.aload_n 0, 1) := dgq (p := 13) daX10_greatest_0 dbX10_greatest_0.2.2.2.2.2.2.2.2.2
def dsX10_greatest_14 : ByteArray := ⟨#[180, 0, 9, 28, 46, 184, 0, 105, 184, 0, 83, 60, 132, 2, 1, 167, 255, 231, 27, 172]⟩
theorem daX10_greatest_14 : agB cX10_greatest dsX10_greatest_14 14 := agB_of (n := 20) (by decide +kernel)
theorem dbX10_greatest_14 : (decode dsX10_greatest_14 0 = .ok (.getfield 9, 3) ∧ okop dsX10_greatest_14 0 = true) ∧ (decode dsX10_greatest_14 3 = .ok (.iload_n 2, 1) ∧ okop dsX10_greatest_14 3 = true) ∧ (decode dsX10_greatest_14 4 = .ok (.iaload, 1) ∧ okop dsX10_greatest_14 4 = true) ∧ (decode dsX10_greatest_14 5 = .ok (.invokestatic 105, 3) ∧ okop dsX10_greatest_14 5 = true) ∧ (decode dsX10_greatest_14 8 = .ok (.invokestatic 83, 3) ∧ okop dsX10_greatest_14 8 = true) ∧ (decode dsX10_greatest_14 11 = .ok (.istore_n 1, 1) ∧ okop dsX10_greatest_14 11 = true) ∧ (decode dsX10_greatest_14 12 = .ok (.iinc 2 1, 3) ∧ okop dsX10_greatest_14 12 = true) ∧ (decode dsX10_greatest_14 15 = .ok (.goto (-25), 3) ∧ okop dsX10_greatest_14 15 = true) ∧ (decode dsX10_greatest_14 18 = .ok (.iload_n 1, 1) ∧ okop dsX10_greatest_14 18 = true) ∧ (decode dsX10_greatest_14 19 = .ok (.ireturn, 1) ∧ okop dsX10_greatest_14 19 = true) := by decide +kernel
theorem dX10_greatest_14 : decode cX10_greatest 14 = .ok (.getfield 9, 3) := dgq (p := 0) daX10_greatest_14 dbX10_greatest_14.1
theorem dX10_greatest_17 : decode cX10_greatest 17 = .ok (.iload_n 2, 1) := dgq (p := 3) daX10_greatest_14 dbX10_greatest_14.2.1
theorem dX10_greatest_18 : decode cX10_greatest 18 = .ok (.iaload, 1) := dgq (p := 4) daX10_greatest_14 dbX10_greatest_14.2.2.1
theorem dX10_greatest_19 : decode cX10_greatest 19 = .ok (.invokestatic 105, 3) := dgq (p := 5) daX10_greatest_14 dbX10_greatest_14.2.2.2.1
theorem dX10_greatest_22 : decode cX10_greatest 22 = .ok (.invokestatic 83, 3) := dgq (p := 8) daX10_greatest_14 dbX10_greatest_14.2.2.2.2.1
theorem dX10_greatest_25 : decode cX10_greatest 25 = .ok (.istore_n 1, 1) := dgq (p := 11) daX10_greatest_14 dbX10_greatest_14.2.2.2.2.2.1
theorem dX10_greatest_26 : decode cX10_greatest 26 = .ok (.iinc 2 1, 3) := dgq (p := 12) daX10_greatest_14 dbX10_greatest_14.2.2.2.2.2.2.1
theorem dX10_greatest_29 : decode cX10_greatest 29 = .ok (.goto (-25), 3) := dgq (p := 15) daX10_greatest_14 dbX10_greatest_14.2.2.2.2.2.2.2.1
theorem dX10_greatest_32 : decode cX10_greatest 32 = .ok (.iload_n 1, 1) := dgq (p := 18) daX10_greatest_14 dbX10_greatest_14.2.2.2.2.2.2.2.2.1
theorem dX10_greatest_33 : decode cX10_greatest 33 = .ok (.ireturn, 1) := dgq (p := 19) daX10_greatest_14 dbX10_greatest_14.2.2.2.2.2.2.2.2.2
def dsX10_all_0 : ByteArray := ⟨#[3, 60, 3, 61, 28, 42, 180, 0, 29, 162, 0, 18, 27, 42]⟩
theorem daX10_all_0 : agB cX10_all dsX10_all_0 0 := agB_of (n := 14) (by decide +kernel)
theorem dbX10_all_0 : (decode dsX10_all_0 0 = .ok (.iconst 0, 1) ∧ okop dsX10_all_0 0 = true) ∧ (decode dsX10_all_0 1 = .ok (.istore_n 1, 1) ∧ okop dsX10_all_0 1 = true) ∧ (decode dsX10_all_0 2 = .ok (.iconst 0, 1) ∧ okop dsX10_all_0 2 = true) ∧ (decode dsX10_all_0 3 = .ok (.istore_n 2, 1) ∧ okop dsX10_all_0 3 = true) ∧ (decode dsX10_all_0 4 = .ok (.iload_n 2, 1) ∧ okop dsX10_all_0 4 = true) ∧ (decode dsX10_all_0 5 = .ok (.aload_n 0, 1) ∧ okop dsX10_all_0 5 = true) ∧ (decode dsX10_all_0 6 = .ok (.getfield 29, 3) ∧ okop dsX10_all_0 6 = true) ∧ (decode dsX10_all_0 9 = .ok (.if_icmp .ge 18, 3) ∧ okop dsX10_all_0 9 = true) ∧ (decode dsX10_all_0 12 = .ok (.iload_n 1, 1) ∧ okop dsX10_all_0 12 = true) ∧ (decode dsX10_all_0 13 = .ok (.aload_n 0, 1) ∧ okop dsX10_all_0 13 = true) := by decide +kernel
theorem dX10_all_0 : decode cX10_all 0 = .ok (.iconst 0, 1) := dgq (p := 0) daX10_all_0 dbX10_all_0.1
theorem dX10_all_1 : decode cX10_all 1 = .ok (.istore_n 1, 1) := dgq (p := 1) daX10_all_0 dbX10_all_0.2.1
theorem dX10_all_2 : decode cX10_all 2 = .ok (.iconst 0, 1) := dgq (p := 2) daX10_all_0 dbX10_all_0.2.2.1
theorem dX10_all_3 : decode cX10_all 3 = .ok (.istore_n 2, 1) := dgq (p := 3) daX10_all_0 dbX10_all_0.2.2.2.1
theorem dX10_all_4 : decode cX10_all 4 = .ok (.iload_n 2, 1) := dgq (p := 4) daX10_all_0 dbX10_all_0.2.2.2.2.1
theorem dX10_all_5 : decode cX10_all 5 = .ok (.aload_n 0, 1) := dgq (p := 5) daX10_all_0 dbX10_all_0.2.2.2.2.2.1
theorem dX10_all_6 : decode cX10_all 6 = .ok (.getfield 29, 3) := dgq (p := 6) daX10_all_0 dbX10_all_0.2.2.2.2.2.2.1
theorem dX10_all_9 : decode cX10_all 9 = .ok (.if_icmp .ge 18, 3) := dgq (p := 9) daX10_all_0 dbX10_all_0.2.2.2.2.2.2.2.1
theorem dX10_all_12 : decode cX10_all 12 = .ok (.iload_n 1, 1) := dgq (p := 12) daX10_all_0 dbX10_all_0.2.2.2.2.2.2.2.2.1
theorem dX10_all_13 : decode cX10_all 13 = .ok (.aload_n 0, 1) := dgq (p := 13) daX10_all_0 dbX10_all_0.2.2.2.2.2.2.2.2.2
def dsX10_all_14 : ByteArray := ⟨#[180, 0, 9, 28, 46, 96, 60, 132, 2, 1, 167, 255, 236, 27, 172]⟩
theorem daX10_all_14 : agB cX10_all dsX10_all_14 14 := agB_of (n := 15) (by decide +kernel)
theorem dbX10_all_14 : (decode dsX10_all_14 0 = .ok (.getfield 9, 3) ∧ okop dsX10_all_14 0 = true) ∧ (decode dsX10_all_14 3 = .ok (.iload_n 2, 1) ∧ okop dsX10_all_14 3 = true) ∧ (decode dsX10_all_14 4 = .ok (.iaload, 1) ∧ okop dsX10_all_14 4 = true) ∧ (decode dsX10_all_14 5 = .ok (.iadd, 1) ∧ okop dsX10_all_14 5 = true) ∧ (decode dsX10_all_14 6 = .ok (.istore_n 1, 1) ∧ okop dsX10_all_14 6 = true) ∧ (decode dsX10_all_14 7 = .ok (.iinc 2 1, 3) ∧ okop dsX10_all_14 7 = true) ∧ (decode dsX10_all_14 10 = .ok (.goto (-20), 3) ∧ okop dsX10_all_14 10 = true) ∧ (decode dsX10_all_14 13 = .ok (.iload_n 1, 1) ∧ okop dsX10_all_14 13 = true) ∧ (decode dsX10_all_14 14 = .ok (.ireturn, 1) ∧ okop dsX10_all_14 14 = true) := by decide +kernel
theorem dX10_all_14 : decode cX10_all 14 = .ok (.getfield 9, 3) := dgq (p := 0) daX10_all_14 dbX10_all_14.1
theorem dX10_all_17 : decode cX10_all 17 = .ok (.iload_n 2, 1) := dgq (p := 3) daX10_all_14 dbX10_all_14.2.1
theorem dX10_all_18 : decode cX10_all 18 = .ok (.iaload, 1) := dgq (p := 4) daX10_all_14 dbX10_all_14.2.2.1
theorem dX10_all_19 : decode cX10_all 19 = .ok (.iadd, 1) := dgq (p := 5) daX10_all_14 dbX10_all_14.2.2.2.1
theorem dX10_all_20 : decode cX10_all 20 = .ok (.istore_n 1, 1) := dgq (p := 6) daX10_all_14 dbX10_all_14.2.2.2.2.1
theorem dX10_all_21 : decode cX10_all 21 = .ok (.iinc 2 1, 3) := dgq (p := 7) daX10_all_14 dbX10_all_14.2.2.2.2.2.1
theorem dX10_all_24 : decode cX10_all 24 = .ok (.goto (-20), 3) := dgq (p := 10) daX10_all_14 dbX10_all_14.2.2.2.2.2.2.1
theorem dX10_all_27 : decode cX10_all 27 = .ok (.iload_n 1, 1) := dgq (p := 13) daX10_all_14 dbX10_all_14.2.2.2.2.2.2.2.1
theorem dX10_all_28 : decode cX10_all 28 = .ok (.ireturn, 1) := dgq (p := 14) daX10_all_14 dbX10_all_14.2.2.2.2.2.2.2.2
set_option maxRecDepth 20000 in
theorem ggX10_total_X10_all : GoodIn wsX10_total wsX10_all := goodIn_ca (goodIn_ca (goodIn_q _ [14, 1, 9] rfl (by decide +kernel)) (goodIn_sub (fun _ h => (List.mem_cons_of_mem _ (List.mem_append_left _ (List.mem_append_left _ (List.mem_append_right _ h))))) tg_wsX100)) (goodIn_sub (fun _ h => List.mem_cons_of_mem _ (List.mem_append_left _ (List.mem_append_right _ h))) (by decide +kernel))
set_option maxRecDepth 20000 in
theorem gX10_total_X10_all : GoodIn wsX10_total (wsV RX10 109 RX10 yX10_all wsX10_all) := goodIn_app (goodIn_q _ [10, 11, 12, 13] rfl (by decide +kernel)) ggX10_total_X10_all
def dsX10_total_0 : ByteArray := ⟨#[3, 60, 3, 61, 3, 62, 42, 182, 0, 109, 54, 4, 3]⟩
theorem daX10_total_0 : agB cX10_total dsX10_total_0 0 := agB_of (n := 13) (by decide +kernel)
theorem dbX10_total_0 : (decode dsX10_total_0 0 = .ok (.iconst 0, 1) ∧ okop dsX10_total_0 0 = true) ∧ (decode dsX10_total_0 1 = .ok (.istore_n 1, 1) ∧ okop dsX10_total_0 1 = true) ∧ (decode dsX10_total_0 2 = .ok (.iconst 0, 1) ∧ okop dsX10_total_0 2 = true) ∧ (decode dsX10_total_0 3 = .ok (.istore_n 2, 1) ∧ okop dsX10_total_0 3 = true) ∧ (decode dsX10_total_0 4 = .ok (.iconst 0, 1) ∧ okop dsX10_total_0 4 = true) ∧ (decode dsX10_total_0 5 = .ok (.istore_n 3, 1) ∧ okop dsX10_total_0 5 = true) ∧ (decode dsX10_total_0 6 = .ok (.aload_n 0, 1) ∧ okop dsX10_total_0 6 = true) ∧ (decode dsX10_total_0 7 = .ok (.invokevirtual 109, 3) ∧ okop dsX10_total_0 7 = true) ∧ (decode dsX10_total_0 10 = .ok (.istore 4, 2) ∧ okop dsX10_total_0 10 = true) ∧ (decode dsX10_total_0 12 = .ok (.iconst 0, 1) ∧ okop dsX10_total_0 12 = true) := by decide +kernel
theorem dX10_total_0 : decode cX10_total 0 = .ok (.iconst 0, 1) := dgq (p := 0) daX10_total_0 dbX10_total_0.1
theorem dX10_total_1 : decode cX10_total 1 = .ok (.istore_n 1, 1) := dgq (p := 1) daX10_total_0 dbX10_total_0.2.1
theorem dX10_total_2 : decode cX10_total 2 = .ok (.iconst 0, 1) := dgq (p := 2) daX10_total_0 dbX10_total_0.2.2.1
theorem dX10_total_3 : decode cX10_total 3 = .ok (.istore_n 2, 1) := dgq (p := 3) daX10_total_0 dbX10_total_0.2.2.2.1
theorem dX10_total_4 : decode cX10_total 4 = .ok (.iconst 0, 1) := dgq (p := 4) daX10_total_0 dbX10_total_0.2.2.2.2.1
theorem dX10_total_5 : decode cX10_total 5 = .ok (.istore_n 3, 1) := dgq (p := 5) daX10_total_0 dbX10_total_0.2.2.2.2.2.1
theorem dX10_total_6 : decode cX10_total 6 = .ok (.aload_n 0, 1) := dgq (p := 6) daX10_total_0 dbX10_total_0.2.2.2.2.2.2.1
theorem dX10_total_7 : decode cX10_total 7 = .ok (.invokevirtual 109, 3) := dgq (p := 7) daX10_total_0 dbX10_total_0.2.2.2.2.2.2.2.1
theorem dX10_total_10 : decode cX10_total 10 = .ok (.istore 4, 2) := dgq (p := 10) daX10_total_0 dbX10_total_0.2.2.2.2.2.2.2.2.1
theorem dX10_total_12 : decode cX10_total 12 = .ok (.iconst 0, 1) := dgq (p := 12) daX10_total_0 dbX10_total_0.2.2.2.2.2.2.2.2.2
def dsX10_total_13 : ByteArray := ⟨#[54, 5, 21, 5, 42, 180, 0, 29, 162, 0, 47, 42, 180, 0, 29, 27, 104, 21, 5]⟩
theorem daX10_total_13 : agB cX10_total dsX10_total_13 13 := agB_of (n := 19) (by decide +kernel)
theorem dbX10_total_13 : (decode dsX10_total_13 0 = .ok (.istore 5, 2) ∧ okop dsX10_total_13 0 = true) ∧ (decode dsX10_total_13 2 = .ok (.iload 5, 2) ∧ okop dsX10_total_13 2 = true) ∧ (decode dsX10_total_13 4 = .ok (.aload_n 0, 1) ∧ okop dsX10_total_13 4 = true) ∧ (decode dsX10_total_13 5 = .ok (.getfield 29, 3) ∧ okop dsX10_total_13 5 = true) ∧ (decode dsX10_total_13 8 = .ok (.if_icmp .ge 47, 3) ∧ okop dsX10_total_13 8 = true) ∧ (decode dsX10_total_13 11 = .ok (.aload_n 0, 1) ∧ okop dsX10_total_13 11 = true) ∧ (decode dsX10_total_13 12 = .ok (.getfield 29, 3) ∧ okop dsX10_total_13 12 = true) ∧ (decode dsX10_total_13 15 = .ok (.iload_n 1, 1) ∧ okop dsX10_total_13 15 = true) ∧ (decode dsX10_total_13 16 = .ok (.imul, 1) ∧ okop dsX10_total_13 16 = true) ∧ (decode dsX10_total_13 17 = .ok (.iload 5, 2) ∧ okop dsX10_total_13 17 = true) := by decide +kernel
theorem dX10_total_13 : decode cX10_total 13 = .ok (.istore 5, 2) := dgq (p := 0) daX10_total_13 dbX10_total_13.1
theorem dX10_total_15 : decode cX10_total 15 = .ok (.iload 5, 2) := dgq (p := 2) daX10_total_13 dbX10_total_13.2.1
theorem dX10_total_17 : decode cX10_total 17 = .ok (.aload_n 0, 1) := dgq (p := 4) daX10_total_13 dbX10_total_13.2.2.1
theorem dX10_total_18 : decode cX10_total 18 = .ok (.getfield 29, 3) := dgq (p := 5) daX10_total_13 dbX10_total_13.2.2.2.1
theorem dX10_total_21 : decode cX10_total 21 = .ok (.if_icmp .ge 47, 3) := dgq (p := 8) daX10_total_13 dbX10_total_13.2.2.2.2.1
theorem dX10_total_24 : decode cX10_total 24 = .ok (.aload_n 0, 1) := dgq (p := 11) daX10_total_13 dbX10_total_13.2.2.2.2.2.1
theorem dX10_total_25 : decode cX10_total 25 = .ok (.getfield 29, 3) := dgq (p := 12) daX10_total_13 dbX10_total_13.2.2.2.2.2.2.1
theorem dX10_total_28 : decode cX10_total 28 = .ok (.iload_n 1, 1) := dgq (p := 15) daX10_total_13 dbX10_total_13.2.2.2.2.2.2.2.1
theorem dX10_total_29 : decode cX10_total 29 = .ok (.imul, 1) := dgq (p := 16) daX10_total_13 dbX10_total_13.2.2.2.2.2.2.2.2.1
theorem dX10_total_30 : decode cX10_total 30 = .ok (.iload 5, 2) := dgq (p := 17) daX10_total_13 dbX10_total_13.2.2.2.2.2.2.2.2.2
def dsX10_total_32 : ByteArray := ⟨#[21, 4, 104, 100, 54, 6, 28, 21, 6, 184, 0, 83, 61, 29, 21, 6]⟩
theorem daX10_total_32 : agB cX10_total dsX10_total_32 32 := agB_of (n := 16) (by decide +kernel)
theorem dbX10_total_32 : (decode dsX10_total_32 0 = .ok (.iload 4, 2) ∧ okop dsX10_total_32 0 = true) ∧ (decode dsX10_total_32 2 = .ok (.imul, 1) ∧ okop dsX10_total_32 2 = true) ∧ (decode dsX10_total_32 3 = .ok (.isub, 1) ∧ okop dsX10_total_32 3 = true) ∧ (decode dsX10_total_32 4 = .ok (.istore 6, 2) ∧ okop dsX10_total_32 4 = true) ∧ (decode dsX10_total_32 6 = .ok (.iload_n 2, 1) ∧ okop dsX10_total_32 6 = true) ∧ (decode dsX10_total_32 7 = .ok (.iload 6, 2) ∧ okop dsX10_total_32 7 = true) ∧ (decode dsX10_total_32 9 = .ok (.invokestatic 83, 3) ∧ okop dsX10_total_32 9 = true) ∧ (decode dsX10_total_32 12 = .ok (.istore_n 2, 1) ∧ okop dsX10_total_32 12 = true) ∧ (decode dsX10_total_32 13 = .ok (.iload_n 3, 1) ∧ okop dsX10_total_32 13 = true) ∧ (decode dsX10_total_32 14 = .ok (.iload 6, 2) ∧ okop dsX10_total_32 14 = true) := by decide +kernel
theorem dX10_total_32 : decode cX10_total 32 = .ok (.iload 4, 2) := dgq (p := 0) daX10_total_32 dbX10_total_32.1
theorem dX10_total_34 : decode cX10_total 34 = .ok (.imul, 1) := dgq (p := 2) daX10_total_32 dbX10_total_32.2.1
theorem dX10_total_35 : decode cX10_total 35 = .ok (.isub, 1) := dgq (p := 3) daX10_total_32 dbX10_total_32.2.2.1
theorem dX10_total_36 : decode cX10_total 36 = .ok (.istore 6, 2) := dgq (p := 4) daX10_total_32 dbX10_total_32.2.2.2.1
theorem dX10_total_38 : decode cX10_total 38 = .ok (.iload_n 2, 1) := dgq (p := 6) daX10_total_32 dbX10_total_32.2.2.2.2.1
theorem dX10_total_39 : decode cX10_total 39 = .ok (.iload 6, 2) := dgq (p := 7) daX10_total_32 dbX10_total_32.2.2.2.2.2.1
theorem dX10_total_41 : decode cX10_total 41 = .ok (.invokestatic 83, 3) := dgq (p := 9) daX10_total_32 dbX10_total_32.2.2.2.2.2.2.1
theorem dX10_total_44 : decode cX10_total 44 = .ok (.istore_n 2, 1) := dgq (p := 12) daX10_total_32 dbX10_total_32.2.2.2.2.2.2.2.1
theorem dX10_total_45 : decode cX10_total 45 = .ok (.iload_n 3, 1) := dgq (p := 13) daX10_total_32 dbX10_total_32.2.2.2.2.2.2.2.2.1
theorem dX10_total_46 : decode cX10_total 46 = .ok (.iload 6, 2) := dgq (p := 14) daX10_total_32 dbX10_total_32.2.2.2.2.2.2.2.2.2
def dsX10_total_48 : ByteArray := ⟨#[184, 0, 113, 62, 27, 42, 180, 0, 9, 21, 5, 46, 96, 60, 132, 5, 1]⟩
theorem daX10_total_48 : agB cX10_total dsX10_total_48 48 := agB_of (n := 17) (by decide +kernel)
theorem dbX10_total_48 : (decode dsX10_total_48 0 = .ok (.invokestatic 113, 3) ∧ okop dsX10_total_48 0 = true) ∧ (decode dsX10_total_48 3 = .ok (.istore_n 3, 1) ∧ okop dsX10_total_48 3 = true) ∧ (decode dsX10_total_48 4 = .ok (.iload_n 1, 1) ∧ okop dsX10_total_48 4 = true) ∧ (decode dsX10_total_48 5 = .ok (.aload_n 0, 1) ∧ okop dsX10_total_48 5 = true) ∧ (decode dsX10_total_48 6 = .ok (.getfield 9, 3) ∧ okop dsX10_total_48 6 = true) ∧ (decode dsX10_total_48 9 = .ok (.iload 5, 2) ∧ okop dsX10_total_48 9 = true) ∧ (decode dsX10_total_48 11 = .ok (.iaload, 1) ∧ okop dsX10_total_48 11 = true) ∧ (decode dsX10_total_48 12 = .ok (.iadd, 1) ∧ okop dsX10_total_48 12 = true) ∧ (decode dsX10_total_48 13 = .ok (.istore_n 1, 1) ∧ okop dsX10_total_48 13 = true) ∧ (decode dsX10_total_48 14 = .ok (.iinc 5 1, 3) ∧ okop dsX10_total_48 14 = true) := by decide +kernel
theorem dX10_total_48 : decode cX10_total 48 = .ok (.invokestatic 113, 3) := dgq (p := 0) daX10_total_48 dbX10_total_48.1
theorem dX10_total_51 : decode cX10_total 51 = .ok (.istore_n 3, 1) := dgq (p := 3) daX10_total_48 dbX10_total_48.2.1
theorem dX10_total_52 : decode cX10_total 52 = .ok (.iload_n 1, 1) := dgq (p := 4) daX10_total_48 dbX10_total_48.2.2.1
theorem dX10_total_53 : decode cX10_total 53 = .ok (.aload_n 0, 1) := dgq (p := 5) daX10_total_48 dbX10_total_48.2.2.2.1
theorem dX10_total_54 : decode cX10_total 54 = .ok (.getfield 9, 3) := dgq (p := 6) daX10_total_48 dbX10_total_48.2.2.2.2.1
theorem dX10_total_57 : decode cX10_total 57 = .ok (.iload 5, 2) := dgq (p := 9) daX10_total_48 dbX10_total_48.2.2.2.2.2.1
theorem dX10_total_59 : decode cX10_total 59 = .ok (.iaload, 1) := dgq (p := 11) daX10_total_48 dbX10_total_48.2.2.2.2.2.2.1
theorem dX10_total_60 : decode cX10_total 60 = .ok (.iadd, 1) := dgq (p := 12) daX10_total_48 dbX10_total_48.2.2.2.2.2.2.2.1
theorem dX10_total_61 : decode cX10_total 61 = .ok (.istore_n 1, 1) := dgq (p := 13) daX10_total_48 dbX10_total_48.2.2.2.2.2.2.2.2.1
theorem dX10_total_62 : decode cX10_total 62 = .ok (.iinc 5 1, 3) := dgq (p := 14) daX10_total_48 dbX10_total_48.2.2.2.2.2.2.2.2.2
def dsX10_total_65 : ByteArray := ⟨#[167, 255, 206, 28, 29, 100, 42, 180, 0, 29, 108, 172]⟩
theorem daX10_total_65 : agB cX10_total dsX10_total_65 65 := agB_of (n := 12) (by decide +kernel)
theorem dbX10_total_65 : (decode dsX10_total_65 0 = .ok (.goto (-50), 3) ∧ okop dsX10_total_65 0 = true) ∧ (decode dsX10_total_65 3 = .ok (.iload_n 2, 1) ∧ okop dsX10_total_65 3 = true) ∧ (decode dsX10_total_65 4 = .ok (.iload_n 3, 1) ∧ okop dsX10_total_65 4 = true) ∧ (decode dsX10_total_65 5 = .ok (.isub, 1) ∧ okop dsX10_total_65 5 = true) ∧ (decode dsX10_total_65 6 = .ok (.aload_n 0, 1) ∧ okop dsX10_total_65 6 = true) ∧ (decode dsX10_total_65 7 = .ok (.getfield 29, 3) ∧ okop dsX10_total_65 7 = true) ∧ (decode dsX10_total_65 10 = .ok (.idiv, 1) ∧ okop dsX10_total_65 10 = true) ∧ (decode dsX10_total_65 11 = .ok (.ireturn, 1) ∧ okop dsX10_total_65 11 = true) := by decide +kernel
theorem dX10_total_65 : decode cX10_total 65 = .ok (.goto (-50), 3) := dgq (p := 0) daX10_total_65 dbX10_total_65.1
theorem dX10_total_68 : decode cX10_total 68 = .ok (.iload_n 2, 1) := dgq (p := 3) daX10_total_65 dbX10_total_65.2.1
theorem dX10_total_69 : decode cX10_total 69 = .ok (.iload_n 3, 1) := dgq (p := 4) daX10_total_65 dbX10_total_65.2.2.1
theorem dX10_total_70 : decode cX10_total 70 = .ok (.isub, 1) := dgq (p := 5) daX10_total_65 dbX10_total_65.2.2.2.1
theorem dX10_total_71 : decode cX10_total 71 = .ok (.aload_n 0, 1) := dgq (p := 6) daX10_total_65 dbX10_total_65.2.2.2.2.1
theorem dX10_total_72 : decode cX10_total 72 = .ok (.getfield 29, 3) := dgq (p := 7) daX10_total_65 dbX10_total_65.2.2.2.2.2.1
theorem dX10_total_75 : decode cX10_total 75 = .ok (.idiv, 1) := dgq (p := 10) daX10_total_65 dbX10_total_65.2.2.2.2.2.2.1
theorem dX10_total_76 : decode cX10_total 76 = .ok (.ireturn, 1) := dgq (p := 11) daX10_total_65 dbX10_total_65.2.2.2.2.2.2.2
set_option maxRecDepth 20000 in
theorem ggX10_places_X10_all : GoodIn wsX10_places wsX10_all := goodIn_ca (goodIn_ca (goodIn_q _ [14, 1, 2] rfl (by decide +kernel)) (goodIn_sub (fun _ h => (List.mem_cons_of_mem _ (List.mem_append_left _ (List.mem_append_left _ (List.mem_append_right _ h))))) tg_wsX100)) (goodIn_sub (fun _ h => List.mem_cons_of_mem _ (List.mem_append_right _ h)) (by decide +kernel))
set_option maxRecDepth 20000 in
theorem gX10_places_X10_all : GoodIn wsX10_places (wsV RX10 109 RX10 yX10_all wsX10_all) := goodIn_app (goodIn_q _ [10, 11, 12, 13] rfl (by decide +kernel)) ggX10_places_X10_all
def dsX10_places_0 : ByteArray := ⟨#[3, 54, 4, 42, 182, 0, 109, 54, 5, 3, 54, 6, 21, 6, 42, 180, 0, 29]⟩
theorem daX10_places_0 : agB cX10_places dsX10_places_0 0 := agB_of (n := 18) (by decide +kernel)
theorem dbX10_places_0 : (decode dsX10_places_0 0 = .ok (.iconst 0, 1) ∧ okop dsX10_places_0 0 = true) ∧ (decode dsX10_places_0 1 = .ok (.istore 4, 2) ∧ okop dsX10_places_0 1 = true) ∧ (decode dsX10_places_0 3 = .ok (.aload_n 0, 1) ∧ okop dsX10_places_0 3 = true) ∧ (decode dsX10_places_0 4 = .ok (.invokevirtual 109, 3) ∧ okop dsX10_places_0 4 = true) ∧ (decode dsX10_places_0 7 = .ok (.istore 5, 2) ∧ okop dsX10_places_0 7 = true) ∧ (decode dsX10_places_0 9 = .ok (.iconst 0, 1) ∧ okop dsX10_places_0 9 = true) ∧ (decode dsX10_places_0 10 = .ok (.istore 6, 2) ∧ okop dsX10_places_0 10 = true) ∧ (decode dsX10_places_0 12 = .ok (.iload 6, 2) ∧ okop dsX10_places_0 12 = true) ∧ (decode dsX10_places_0 14 = .ok (.aload_n 0, 1) ∧ okop dsX10_places_0 14 = true) ∧ (decode dsX10_places_0 15 = .ok (.getfield 29, 3) ∧ okop dsX10_places_0 15 = true) := by decide +kernel
theorem dX10_places_0 : decode cX10_places 0 = .ok (.iconst 0, 1) := dgq (p := 0) daX10_places_0 dbX10_places_0.1
theorem dX10_places_1 : decode cX10_places 1 = .ok (.istore 4, 2) := dgq (p := 1) daX10_places_0 dbX10_places_0.2.1
theorem dX10_places_3 : decode cX10_places 3 = .ok (.aload_n 0, 1) := dgq (p := 3) daX10_places_0 dbX10_places_0.2.2.1
theorem dX10_places_4 : decode cX10_places 4 = .ok (.invokevirtual 109, 3) := dgq (p := 4) daX10_places_0 dbX10_places_0.2.2.2.1
theorem dX10_places_7 : decode cX10_places 7 = .ok (.istore 5, 2) := dgq (p := 7) daX10_places_0 dbX10_places_0.2.2.2.2.1
theorem dX10_places_9 : decode cX10_places 9 = .ok (.iconst 0, 1) := dgq (p := 9) daX10_places_0 dbX10_places_0.2.2.2.2.2.1
theorem dX10_places_10 : decode cX10_places 10 = .ok (.istore 6, 2) := dgq (p := 10) daX10_places_0 dbX10_places_0.2.2.2.2.2.2.1
theorem dX10_places_12 : decode cX10_places 12 = .ok (.iload 6, 2) := dgq (p := 12) daX10_places_0 dbX10_places_0.2.2.2.2.2.2.2.1
theorem dX10_places_14 : decode cX10_places 14 = .ok (.aload_n 0, 1) := dgq (p := 14) daX10_places_0 dbX10_places_0.2.2.2.2.2.2.2.2.1
theorem dX10_places_15 : decode cX10_places 15 = .ok (.getfield 29, 3) := dgq (p := 15) daX10_places_0 dbX10_places_0.2.2.2.2.2.2.2.2.2
def dsX10_places_18 : ByteArray := ⟨#[162, 0, 97, 42, 180, 0, 29, 21, 4, 104, 21, 6, 21, 5, 104, 100, 42]⟩
theorem daX10_places_18 : agB cX10_places dsX10_places_18 18 := agB_of (n := 17) (by decide +kernel)
theorem dbX10_places_18 : (decode dsX10_places_18 0 = .ok (.if_icmp .ge 97, 3) ∧ okop dsX10_places_18 0 = true) ∧ (decode dsX10_places_18 3 = .ok (.aload_n 0, 1) ∧ okop dsX10_places_18 3 = true) ∧ (decode dsX10_places_18 4 = .ok (.getfield 29, 3) ∧ okop dsX10_places_18 4 = true) ∧ (decode dsX10_places_18 7 = .ok (.iload 4, 2) ∧ okop dsX10_places_18 7 = true) ∧ (decode dsX10_places_18 9 = .ok (.imul, 1) ∧ okop dsX10_places_18 9 = true) ∧ (decode dsX10_places_18 10 = .ok (.iload 6, 2) ∧ okop dsX10_places_18 10 = true) ∧ (decode dsX10_places_18 12 = .ok (.iload 5, 2) ∧ okop dsX10_places_18 12 = true) ∧ (decode dsX10_places_18 14 = .ok (.imul, 1) ∧ okop dsX10_places_18 14 = true) ∧ (decode dsX10_places_18 15 = .ok (.isub, 1) ∧ okop dsX10_places_18 15 = true) ∧ (decode dsX10_places_18 16 = .ok (.aload_n 0, 1) ∧ okop dsX10_places_18 16 = true) := by decide +kernel
theorem dX10_places_18 : decode cX10_places 18 = .ok (.if_icmp .ge 97, 3) := dgq (p := 0) daX10_places_18 dbX10_places_18.1
theorem dX10_places_21 : decode cX10_places 21 = .ok (.aload_n 0, 1) := dgq (p := 3) daX10_places_18 dbX10_places_18.2.1
theorem dX10_places_22 : decode cX10_places 22 = .ok (.getfield 29, 3) := dgq (p := 4) daX10_places_18 dbX10_places_18.2.2.1
theorem dX10_places_25 : decode cX10_places 25 = .ok (.iload 4, 2) := dgq (p := 7) daX10_places_18 dbX10_places_18.2.2.2.1
theorem dX10_places_27 : decode cX10_places 27 = .ok (.imul, 1) := dgq (p := 9) daX10_places_18 dbX10_places_18.2.2.2.2.1
theorem dX10_places_28 : decode cX10_places 28 = .ok (.iload 6, 2) := dgq (p := 10) daX10_places_18 dbX10_places_18.2.2.2.2.2.1
theorem dX10_places_30 : decode cX10_places 30 = .ok (.iload 5, 2) := dgq (p := 12) daX10_places_18 dbX10_places_18.2.2.2.2.2.2.1
theorem dX10_places_32 : decode cX10_places 32 = .ok (.imul, 1) := dgq (p := 14) daX10_places_18 dbX10_places_18.2.2.2.2.2.2.2.1
theorem dX10_places_33 : decode cX10_places 33 = .ok (.isub, 1) := dgq (p := 15) daX10_places_18 dbX10_places_18.2.2.2.2.2.2.2.2.1
theorem dX10_places_34 : decode cX10_places 34 = .ok (.aload_n 0, 1) := dgq (p := 16) daX10_places_18 dbX10_places_18.2.2.2.2.2.2.2.2.2
def dsX10_places_35 : ByteArray := ⟨#[180, 0, 29, 108, 54, 7, 21, 4, 42, 180, 0, 9, 21, 6, 46, 96, 54, 4]⟩
theorem daX10_places_35 : agB cX10_places dsX10_places_35 35 := agB_of (n := 18) (by decide +kernel)
theorem dbX10_places_35 : (decode dsX10_places_35 0 = .ok (.getfield 29, 3) ∧ okop dsX10_places_35 0 = true) ∧ (decode dsX10_places_35 3 = .ok (.idiv, 1) ∧ okop dsX10_places_35 3 = true) ∧ (decode dsX10_places_35 4 = .ok (.istore 7, 2) ∧ okop dsX10_places_35 4 = true) ∧ (decode dsX10_places_35 6 = .ok (.iload 4, 2) ∧ okop dsX10_places_35 6 = true) ∧ (decode dsX10_places_35 8 = .ok (.aload_n 0, 1) ∧ okop dsX10_places_35 8 = true) ∧ (decode dsX10_places_35 9 = .ok (.getfield 9, 3) ∧ okop dsX10_places_35 9 = true) ∧ (decode dsX10_places_35 12 = .ok (.iload 6, 2) ∧ okop dsX10_places_35 12 = true) ∧ (decode dsX10_places_35 14 = .ok (.iaload, 1) ∧ okop dsX10_places_35 14 = true) ∧ (decode dsX10_places_35 15 = .ok (.iadd, 1) ∧ okop dsX10_places_35 15 = true) ∧ (decode dsX10_places_35 16 = .ok (.istore 4, 2) ∧ okop dsX10_places_35 16 = true) := by decide +kernel
theorem dX10_places_35 : decode cX10_places 35 = .ok (.getfield 29, 3) := dgq (p := 0) daX10_places_35 dbX10_places_35.1
theorem dX10_places_38 : decode cX10_places 38 = .ok (.idiv, 1) := dgq (p := 3) daX10_places_35 dbX10_places_35.2.1
theorem dX10_places_39 : decode cX10_places 39 = .ok (.istore 7, 2) := dgq (p := 4) daX10_places_35 dbX10_places_35.2.2.1
theorem dX10_places_41 : decode cX10_places 41 = .ok (.iload 4, 2) := dgq (p := 6) daX10_places_35 dbX10_places_35.2.2.2.1
theorem dX10_places_43 : decode cX10_places 43 = .ok (.aload_n 0, 1) := dgq (p := 8) daX10_places_35 dbX10_places_35.2.2.2.2.1
theorem dX10_places_44 : decode cX10_places 44 = .ok (.getfield 9, 3) := dgq (p := 9) daX10_places_35 dbX10_places_35.2.2.2.2.2.1
theorem dX10_places_47 : decode cX10_places 47 = .ok (.iload 6, 2) := dgq (p := 12) daX10_places_35 dbX10_places_35.2.2.2.2.2.2.1
theorem dX10_places_49 : decode cX10_places 49 = .ok (.iaload, 1) := dgq (p := 14) daX10_places_35 dbX10_places_35.2.2.2.2.2.2.2.1
theorem dX10_places_50 : decode cX10_places 50 = .ok (.iadd, 1) := dgq (p := 15) daX10_places_35 dbX10_places_35.2.2.2.2.2.2.2.2.1
theorem dX10_places_51 : decode cX10_places 51 = .ok (.istore 4, 2) := dgq (p := 16) daX10_places_35 dbX10_places_35.2.2.2.2.2.2.2.2.2
def dsX10_places_53 : ByteArray := ⟨#[44, 21, 6, 27, 112, 21, 6, 27, 162, 0, 8, 21, 7, 167, 0, 14, 44]⟩
theorem daX10_places_53 : agB cX10_places dsX10_places_53 53 := agB_of (n := 17) (by decide +kernel)
theorem dbX10_places_53 : (decode dsX10_places_53 0 = .ok (.aload_n 2, 1) ∧ okop dsX10_places_53 0 = true) ∧ (decode dsX10_places_53 1 = .ok (.iload 6, 2) ∧ okop dsX10_places_53 1 = true) ∧ (decode dsX10_places_53 3 = .ok (.iload_n 1, 1) ∧ okop dsX10_places_53 3 = true) ∧ (decode dsX10_places_53 4 = .ok (.irem, 1) ∧ okop dsX10_places_53 4 = true) ∧ (decode dsX10_places_53 5 = .ok (.iload 6, 2) ∧ okop dsX10_places_53 5 = true) ∧ (decode dsX10_places_53 7 = .ok (.iload_n 1, 1) ∧ okop dsX10_places_53 7 = true) ∧ (decode dsX10_places_53 8 = .ok (.if_icmp .ge 8, 3) ∧ okop dsX10_places_53 8 = true) ∧ (decode dsX10_places_53 11 = .ok (.iload 7, 2) ∧ okop dsX10_places_53 11 = true) ∧ (decode dsX10_places_53 13 = .ok (.goto 14, 3) ∧ okop dsX10_places_53 13 = true) ∧ (decode dsX10_places_53 16 = .ok (.aload_n 2, 1) ∧ okop dsX10_places_53 16 = true) := by decide +kernel
theorem dX10_places_53 : decode cX10_places 53 = .ok (.aload_n 2, 1) := dgq (p := 0) daX10_places_53 dbX10_places_53.1
theorem dX10_places_54 : decode cX10_places 54 = .ok (.iload 6, 2) := dgq (p := 1) daX10_places_53 dbX10_places_53.2.1
theorem dX10_places_56 : decode cX10_places 56 = .ok (.iload_n 1, 1) := dgq (p := 3) daX10_places_53 dbX10_places_53.2.2.1
theorem dX10_places_57 : decode cX10_places 57 = .ok (.irem, 1) := dgq (p := 4) daX10_places_53 dbX10_places_53.2.2.2.1
theorem dX10_places_58 : decode cX10_places 58 = .ok (.iload 6, 2) := dgq (p := 5) daX10_places_53 dbX10_places_53.2.2.2.2.1
theorem dX10_places_60 : decode cX10_places 60 = .ok (.iload_n 1, 1) := dgq (p := 7) daX10_places_53 dbX10_places_53.2.2.2.2.2.1
theorem dX10_places_61 : decode cX10_places 61 = .ok (.if_icmp .ge 8, 3) := dgq (p := 8) daX10_places_53 dbX10_places_53.2.2.2.2.2.2.1
theorem dX10_places_64 : decode cX10_places 64 = .ok (.iload 7, 2) := dgq (p := 11) daX10_places_53 dbX10_places_53.2.2.2.2.2.2.2.1
theorem dX10_places_66 : decode cX10_places 66 = .ok (.goto 14, 3) := dgq (p := 13) daX10_places_53 dbX10_places_53.2.2.2.2.2.2.2.2.1
theorem dX10_places_69 : decode cX10_places 69 = .ok (.aload_n 2, 1) := dgq (p := 16) daX10_places_53 dbX10_places_53.2.2.2.2.2.2.2.2.2
def dsX10_places_70 : ByteArray := ⟨#[21, 6, 27, 112, 46, 21, 7, 184, 0, 83, 79, 45, 21, 6, 27]⟩
theorem daX10_places_70 : agB cX10_places dsX10_places_70 70 := agB_of (n := 15) (by decide +kernel)
theorem dbX10_places_70 : (decode dsX10_places_70 0 = .ok (.iload 6, 2) ∧ okop dsX10_places_70 0 = true) ∧ (decode dsX10_places_70 2 = .ok (.iload_n 1, 1) ∧ okop dsX10_places_70 2 = true) ∧ (decode dsX10_places_70 3 = .ok (.irem, 1) ∧ okop dsX10_places_70 3 = true) ∧ (decode dsX10_places_70 4 = .ok (.iaload, 1) ∧ okop dsX10_places_70 4 = true) ∧ (decode dsX10_places_70 5 = .ok (.iload 7, 2) ∧ okop dsX10_places_70 5 = true) ∧ (decode dsX10_places_70 7 = .ok (.invokestatic 83, 3) ∧ okop dsX10_places_70 7 = true) ∧ (decode dsX10_places_70 10 = .ok (.iastore, 1) ∧ okop dsX10_places_70 10 = true) ∧ (decode dsX10_places_70 11 = .ok (.aload_n 3, 1) ∧ okop dsX10_places_70 11 = true) ∧ (decode dsX10_places_70 12 = .ok (.iload 6, 2) ∧ okop dsX10_places_70 12 = true) ∧ (decode dsX10_places_70 14 = .ok (.iload_n 1, 1) ∧ okop dsX10_places_70 14 = true) := by decide +kernel
theorem dX10_places_70 : decode cX10_places 70 = .ok (.iload 6, 2) := dgq (p := 0) daX10_places_70 dbX10_places_70.1
theorem dX10_places_72 : decode cX10_places 72 = .ok (.iload_n 1, 1) := dgq (p := 2) daX10_places_70 dbX10_places_70.2.1
theorem dX10_places_73 : decode cX10_places 73 = .ok (.irem, 1) := dgq (p := 3) daX10_places_70 dbX10_places_70.2.2.1
theorem dX10_places_74 : decode cX10_places 74 = .ok (.iaload, 1) := dgq (p := 4) daX10_places_70 dbX10_places_70.2.2.2.1
theorem dX10_places_75 : decode cX10_places 75 = .ok (.iload 7, 2) := dgq (p := 5) daX10_places_70 dbX10_places_70.2.2.2.2.1
theorem dX10_places_77 : decode cX10_places 77 = .ok (.invokestatic 83, 3) := dgq (p := 7) daX10_places_70 dbX10_places_70.2.2.2.2.2.1
theorem dX10_places_80 : decode cX10_places 80 = .ok (.iastore, 1) := dgq (p := 10) daX10_places_70 dbX10_places_70.2.2.2.2.2.2.1
theorem dX10_places_81 : decode cX10_places 81 = .ok (.aload_n 3, 1) := dgq (p := 11) daX10_places_70 dbX10_places_70.2.2.2.2.2.2.2.1
theorem dX10_places_82 : decode cX10_places 82 = .ok (.iload 6, 2) := dgq (p := 12) daX10_places_70 dbX10_places_70.2.2.2.2.2.2.2.2.1
theorem dX10_places_84 : decode cX10_places 84 = .ok (.iload_n 1, 1) := dgq (p := 14) daX10_places_70 dbX10_places_70.2.2.2.2.2.2.2.2.2
def dsX10_places_85 : ByteArray := ⟨#[112, 21, 6, 27, 162, 0, 8, 21, 7, 167, 0, 14, 45, 21, 6, 27, 112]⟩
theorem daX10_places_85 : agB cX10_places dsX10_places_85 85 := agB_of (n := 17) (by decide +kernel)
theorem dbX10_places_85 : (decode dsX10_places_85 0 = .ok (.irem, 1) ∧ okop dsX10_places_85 0 = true) ∧ (decode dsX10_places_85 1 = .ok (.iload 6, 2) ∧ okop dsX10_places_85 1 = true) ∧ (decode dsX10_places_85 3 = .ok (.iload_n 1, 1) ∧ okop dsX10_places_85 3 = true) ∧ (decode dsX10_places_85 4 = .ok (.if_icmp .ge 8, 3) ∧ okop dsX10_places_85 4 = true) ∧ (decode dsX10_places_85 7 = .ok (.iload 7, 2) ∧ okop dsX10_places_85 7 = true) ∧ (decode dsX10_places_85 9 = .ok (.goto 14, 3) ∧ okop dsX10_places_85 9 = true) ∧ (decode dsX10_places_85 12 = .ok (.aload_n 3, 1) ∧ okop dsX10_places_85 12 = true) ∧ (decode dsX10_places_85 13 = .ok (.iload 6, 2) ∧ okop dsX10_places_85 13 = true) ∧ (decode dsX10_places_85 15 = .ok (.iload_n 1, 1) ∧ okop dsX10_places_85 15 = true) ∧ (decode dsX10_places_85 16 = .ok (.irem, 1) ∧ okop dsX10_places_85 16 = true) := by decide +kernel
theorem dX10_places_85 : decode cX10_places 85 = .ok (.irem, 1) := dgq (p := 0) daX10_places_85 dbX10_places_85.1
theorem dX10_places_86 : decode cX10_places 86 = .ok (.iload 6, 2) := dgq (p := 1) daX10_places_85 dbX10_places_85.2.1
theorem dX10_places_88 : decode cX10_places 88 = .ok (.iload_n 1, 1) := dgq (p := 3) daX10_places_85 dbX10_places_85.2.2.1
theorem dX10_places_89 : decode cX10_places 89 = .ok (.if_icmp .ge 8, 3) := dgq (p := 4) daX10_places_85 dbX10_places_85.2.2.2.1
theorem dX10_places_92 : decode cX10_places 92 = .ok (.iload 7, 2) := dgq (p := 7) daX10_places_85 dbX10_places_85.2.2.2.2.1
theorem dX10_places_94 : decode cX10_places 94 = .ok (.goto 14, 3) := dgq (p := 9) daX10_places_85 dbX10_places_85.2.2.2.2.2.1
theorem dX10_places_97 : decode cX10_places 97 = .ok (.aload_n 3, 1) := dgq (p := 12) daX10_places_85 dbX10_places_85.2.2.2.2.2.2.1
theorem dX10_places_98 : decode cX10_places 98 = .ok (.iload 6, 2) := dgq (p := 13) daX10_places_85 dbX10_places_85.2.2.2.2.2.2.2.1
theorem dX10_places_100 : decode cX10_places 100 = .ok (.iload_n 1, 1) := dgq (p := 15) daX10_places_85 dbX10_places_85.2.2.2.2.2.2.2.2.1
theorem dX10_places_101 : decode cX10_places 101 = .ok (.irem, 1) := dgq (p := 16) daX10_places_85 dbX10_places_85.2.2.2.2.2.2.2.2.2
def dsX10_places_102 : ByteArray := ⟨#[46, 21, 7, 184, 0, 113, 79, 132, 6, 1, 167, 255, 156, 177]⟩
theorem daX10_places_102 : agB cX10_places dsX10_places_102 102 := agB_of (n := 14) (by decide +kernel)
theorem dbX10_places_102 : (decode dsX10_places_102 0 = .ok (.iaload, 1) ∧ okop dsX10_places_102 0 = true) ∧ (decode dsX10_places_102 1 = .ok (.iload 7, 2) ∧ okop dsX10_places_102 1 = true) ∧ (decode dsX10_places_102 3 = .ok (.invokestatic 113, 3) ∧ okop dsX10_places_102 3 = true) ∧ (decode dsX10_places_102 6 = .ok (.iastore, 1) ∧ okop dsX10_places_102 6 = true) ∧ (decode dsX10_places_102 7 = .ok (.iinc 6 1, 3) ∧ okop dsX10_places_102 7 = true) ∧ (decode dsX10_places_102 10 = .ok (.goto (-100), 3) ∧ okop dsX10_places_102 10 = true) ∧ (decode dsX10_places_102 13 = .ok (.return_, 1) ∧ okop dsX10_places_102 13 = true) := by decide +kernel
theorem dX10_places_102 : decode cX10_places 102 = .ok (.iaload, 1) := dgq (p := 0) daX10_places_102 dbX10_places_102.1
theorem dX10_places_103 : decode cX10_places 103 = .ok (.iload 7, 2) := dgq (p := 1) daX10_places_102 dbX10_places_102.2.1
theorem dX10_places_105 : decode cX10_places 105 = .ok (.invokestatic 113, 3) := dgq (p := 3) daX10_places_102 dbX10_places_102.2.2.1
theorem dX10_places_108 : decode cX10_places 108 = .ok (.iastore, 1) := dgq (p := 6) daX10_places_102 dbX10_places_102.2.2.2.1
theorem dX10_places_109 : decode cX10_places 109 = .ok (.iinc 6 1, 3) := dgq (p := 7) daX10_places_102 dbX10_places_102.2.2.2.2.1
theorem dX10_places_112 : decode cX10_places 112 = .ok (.goto (-100), 3) := dgq (p := 10) daX10_places_102 dbX10_places_102.2.2.2.2.2.1
theorem dX10_places_115 : decode cX10_places 115 = .ok (.return_, 1) := dgq (p := 13) daX10_places_102 dbX10_places_102.2.2.2.2.2.2
def dsX10_part_0 : ByteArray := ⟨#[3, 61, 3, 62, 3, 54, 4, 21, 4, 27, 162, 0, 80, 3]⟩
theorem daX10_part_0 : agB cX10_part dsX10_part_0 0 := agB_of (n := 14) (by decide +kernel)
theorem dbX10_part_0 : (decode dsX10_part_0 0 = .ok (.iconst 0, 1) ∧ okop dsX10_part_0 0 = true) ∧ (decode dsX10_part_0 1 = .ok (.istore_n 2, 1) ∧ okop dsX10_part_0 1 = true) ∧ (decode dsX10_part_0 2 = .ok (.iconst 0, 1) ∧ okop dsX10_part_0 2 = true) ∧ (decode dsX10_part_0 3 = .ok (.istore_n 3, 1) ∧ okop dsX10_part_0 3 = true) ∧ (decode dsX10_part_0 4 = .ok (.iconst 0, 1) ∧ okop dsX10_part_0 4 = true) ∧ (decode dsX10_part_0 5 = .ok (.istore 4, 2) ∧ okop dsX10_part_0 5 = true) ∧ (decode dsX10_part_0 7 = .ok (.iload 4, 2) ∧ okop dsX10_part_0 7 = true) ∧ (decode dsX10_part_0 9 = .ok (.iload_n 1, 1) ∧ okop dsX10_part_0 9 = true) ∧ (decode dsX10_part_0 10 = .ok (.if_icmp .ge 80, 3) ∧ okop dsX10_part_0 10 = true) ∧ (decode dsX10_part_0 13 = .ok (.iconst 0, 1) ∧ okop dsX10_part_0 13 = true) := by decide +kernel
theorem dX10_part_0 : decode cX10_part 0 = .ok (.iconst 0, 1) := dgq (p := 0) daX10_part_0 dbX10_part_0.1
theorem dX10_part_1 : decode cX10_part 1 = .ok (.istore_n 2, 1) := dgq (p := 1) daX10_part_0 dbX10_part_0.2.1
theorem dX10_part_2 : decode cX10_part 2 = .ok (.iconst 0, 1) := dgq (p := 2) daX10_part_0 dbX10_part_0.2.2.1
theorem dX10_part_3 : decode cX10_part 3 = .ok (.istore_n 3, 1) := dgq (p := 3) daX10_part_0 dbX10_part_0.2.2.2.1
theorem dX10_part_4 : decode cX10_part 4 = .ok (.iconst 0, 1) := dgq (p := 4) daX10_part_0 dbX10_part_0.2.2.2.2.1
theorem dX10_part_5 : decode cX10_part 5 = .ok (.istore 4, 2) := dgq (p := 5) daX10_part_0 dbX10_part_0.2.2.2.2.2.1
theorem dX10_part_7 : decode cX10_part 7 = .ok (.iload 4, 2) := dgq (p := 7) daX10_part_0 dbX10_part_0.2.2.2.2.2.2.1
theorem dX10_part_9 : decode cX10_part 9 = .ok (.iload_n 1, 1) := dgq (p := 9) daX10_part_0 dbX10_part_0.2.2.2.2.2.2.2.1
theorem dX10_part_10 : decode cX10_part 10 = .ok (.if_icmp .ge 80, 3) := dgq (p := 10) daX10_part_0 dbX10_part_0.2.2.2.2.2.2.2.2.1
theorem dX10_part_13 : decode cX10_part 13 = .ok (.iconst 0, 1) := dgq (p := 13) daX10_part_0 dbX10_part_0.2.2.2.2.2.2.2.2.2
def dsX10_part_14 : ByteArray := ⟨#[54, 5, 21, 4, 54, 6, 21, 6, 42, 180, 0, 29, 162, 0, 24, 21, 5, 42, 180, 0, 9]⟩
theorem daX10_part_14 : agB cX10_part dsX10_part_14 14 := agB_of (n := 21) (by decide +kernel)
theorem dbX10_part_14 : (decode dsX10_part_14 0 = .ok (.istore 5, 2) ∧ okop dsX10_part_14 0 = true) ∧ (decode dsX10_part_14 2 = .ok (.iload 4, 2) ∧ okop dsX10_part_14 2 = true) ∧ (decode dsX10_part_14 4 = .ok (.istore 6, 2) ∧ okop dsX10_part_14 4 = true) ∧ (decode dsX10_part_14 6 = .ok (.iload 6, 2) ∧ okop dsX10_part_14 6 = true) ∧ (decode dsX10_part_14 8 = .ok (.aload_n 0, 1) ∧ okop dsX10_part_14 8 = true) ∧ (decode dsX10_part_14 9 = .ok (.getfield 29, 3) ∧ okop dsX10_part_14 9 = true) ∧ (decode dsX10_part_14 12 = .ok (.if_icmp .ge 24, 3) ∧ okop dsX10_part_14 12 = true) ∧ (decode dsX10_part_14 15 = .ok (.iload 5, 2) ∧ okop dsX10_part_14 15 = true) ∧ (decode dsX10_part_14 17 = .ok (.aload_n 0, 1) ∧ okop dsX10_part_14 17 = true) ∧ (decode dsX10_part_14 18 = .ok (.getfield 9, 3) ∧ okop dsX10_part_14 18 = true) := by decide +kernel
theorem dX10_part_14 : decode cX10_part 14 = .ok (.istore 5, 2) := dgq (p := 0) daX10_part_14 dbX10_part_14.1
theorem dX10_part_16 : decode cX10_part 16 = .ok (.iload 4, 2) := dgq (p := 2) daX10_part_14 dbX10_part_14.2.1
theorem dX10_part_18 : decode cX10_part 18 = .ok (.istore 6, 2) := dgq (p := 4) daX10_part_14 dbX10_part_14.2.2.1
theorem dX10_part_20 : decode cX10_part 20 = .ok (.iload 6, 2) := dgq (p := 6) daX10_part_14 dbX10_part_14.2.2.2.1
theorem dX10_part_22 : decode cX10_part 22 = .ok (.aload_n 0, 1) := dgq (p := 8) daX10_part_14 dbX10_part_14.2.2.2.2.1
theorem dX10_part_23 : decode cX10_part 23 = .ok (.getfield 29, 3) := dgq (p := 9) daX10_part_14 dbX10_part_14.2.2.2.2.2.1
theorem dX10_part_26 : decode cX10_part 26 = .ok (.if_icmp .ge 24, 3) := dgq (p := 12) daX10_part_14 dbX10_part_14.2.2.2.2.2.2.1
theorem dX10_part_29 : decode cX10_part 29 = .ok (.iload 5, 2) := dgq (p := 15) daX10_part_14 dbX10_part_14.2.2.2.2.2.2.2.1
theorem dX10_part_31 : decode cX10_part 31 = .ok (.aload_n 0, 1) := dgq (p := 17) daX10_part_14 dbX10_part_14.2.2.2.2.2.2.2.2.1
theorem dX10_part_32 : decode cX10_part 32 = .ok (.getfield 9, 3) := dgq (p := 18) daX10_part_14 dbX10_part_14.2.2.2.2.2.2.2.2.2
def dsX10_part_35 : ByteArray := ⟨#[21, 6, 46, 96, 54, 5, 21, 6, 27, 96, 54, 6, 167, 255, 229, 21, 4]⟩
theorem daX10_part_35 : agB cX10_part dsX10_part_35 35 := agB_of (n := 17) (by decide +kernel)
theorem dbX10_part_35 : (decode dsX10_part_35 0 = .ok (.iload 6, 2) ∧ okop dsX10_part_35 0 = true) ∧ (decode dsX10_part_35 2 = .ok (.iaload, 1) ∧ okop dsX10_part_35 2 = true) ∧ (decode dsX10_part_35 3 = .ok (.iadd, 1) ∧ okop dsX10_part_35 3 = true) ∧ (decode dsX10_part_35 4 = .ok (.istore 5, 2) ∧ okop dsX10_part_35 4 = true) ∧ (decode dsX10_part_35 6 = .ok (.iload 6, 2) ∧ okop dsX10_part_35 6 = true) ∧ (decode dsX10_part_35 8 = .ok (.iload_n 1, 1) ∧ okop dsX10_part_35 8 = true) ∧ (decode dsX10_part_35 9 = .ok (.iadd, 1) ∧ okop dsX10_part_35 9 = true) ∧ (decode dsX10_part_35 10 = .ok (.istore 6, 2) ∧ okop dsX10_part_35 10 = true) ∧ (decode dsX10_part_35 12 = .ok (.goto (-27), 3) ∧ okop dsX10_part_35 12 = true) ∧ (decode dsX10_part_35 15 = .ok (.iload 4, 2) ∧ okop dsX10_part_35 15 = true) := by decide +kernel
theorem dX10_part_35 : decode cX10_part 35 = .ok (.iload 6, 2) := dgq (p := 0) daX10_part_35 dbX10_part_35.1
theorem dX10_part_37 : decode cX10_part 37 = .ok (.iaload, 1) := dgq (p := 2) daX10_part_35 dbX10_part_35.2.1
theorem dX10_part_38 : decode cX10_part 38 = .ok (.iadd, 1) := dgq (p := 3) daX10_part_35 dbX10_part_35.2.2.1
theorem dX10_part_39 : decode cX10_part 39 = .ok (.istore 5, 2) := dgq (p := 4) daX10_part_35 dbX10_part_35.2.2.2.1
theorem dX10_part_41 : decode cX10_part 41 = .ok (.iload 6, 2) := dgq (p := 6) daX10_part_35 dbX10_part_35.2.2.2.2.1
theorem dX10_part_43 : decode cX10_part 43 = .ok (.iload_n 1, 1) := dgq (p := 8) daX10_part_35 dbX10_part_35.2.2.2.2.2.1
theorem dX10_part_44 : decode cX10_part 44 = .ok (.iadd, 1) := dgq (p := 9) daX10_part_35 dbX10_part_35.2.2.2.2.2.2.1
theorem dX10_part_45 : decode cX10_part 45 = .ok (.istore 6, 2) := dgq (p := 10) daX10_part_35 dbX10_part_35.2.2.2.2.2.2.2.1
theorem dX10_part_47 : decode cX10_part 47 = .ok (.goto (-27), 3) := dgq (p := 12) daX10_part_35 dbX10_part_35.2.2.2.2.2.2.2.2.1
theorem dX10_part_50 : decode cX10_part 50 = .ok (.iload 4, 2) := dgq (p := 15) daX10_part_35 dbX10_part_35.2.2.2.2.2.2.2.2.2
def dsX10_part_52 : ByteArray := ⟨#[154, 0, 8, 21, 5, 167, 0, 9, 28, 21, 5, 184, 0, 83, 61, 21, 4, 154, 0, 8, 21, 5]⟩
theorem daX10_part_52 : agB cX10_part dsX10_part_52 52 := agB_of (n := 22) (by decide +kernel)
theorem dbX10_part_52 : (decode dsX10_part_52 0 = .ok (.ifCond .ne 8, 3) ∧ okop dsX10_part_52 0 = true) ∧ (decode dsX10_part_52 3 = .ok (.iload 5, 2) ∧ okop dsX10_part_52 3 = true) ∧ (decode dsX10_part_52 5 = .ok (.goto 9, 3) ∧ okop dsX10_part_52 5 = true) ∧ (decode dsX10_part_52 8 = .ok (.iload_n 2, 1) ∧ okop dsX10_part_52 8 = true) ∧ (decode dsX10_part_52 9 = .ok (.iload 5, 2) ∧ okop dsX10_part_52 9 = true) ∧ (decode dsX10_part_52 11 = .ok (.invokestatic 83, 3) ∧ okop dsX10_part_52 11 = true) ∧ (decode dsX10_part_52 14 = .ok (.istore_n 2, 1) ∧ okop dsX10_part_52 14 = true) ∧ (decode dsX10_part_52 15 = .ok (.iload 4, 2) ∧ okop dsX10_part_52 15 = true) ∧ (decode dsX10_part_52 17 = .ok (.ifCond .ne 8, 3) ∧ okop dsX10_part_52 17 = true) ∧ (decode dsX10_part_52 20 = .ok (.iload 5, 2) ∧ okop dsX10_part_52 20 = true) := by decide +kernel
theorem dX10_part_52 : decode cX10_part 52 = .ok (.ifCond .ne 8, 3) := dgq (p := 0) daX10_part_52 dbX10_part_52.1
theorem dX10_part_55 : decode cX10_part 55 = .ok (.iload 5, 2) := dgq (p := 3) daX10_part_52 dbX10_part_52.2.1
theorem dX10_part_57 : decode cX10_part 57 = .ok (.goto 9, 3) := dgq (p := 5) daX10_part_52 dbX10_part_52.2.2.1
theorem dX10_part_60 : decode cX10_part 60 = .ok (.iload_n 2, 1) := dgq (p := 8) daX10_part_52 dbX10_part_52.2.2.2.1
theorem dX10_part_61 : decode cX10_part 61 = .ok (.iload 5, 2) := dgq (p := 9) daX10_part_52 dbX10_part_52.2.2.2.2.1
theorem dX10_part_63 : decode cX10_part 63 = .ok (.invokestatic 83, 3) := dgq (p := 11) daX10_part_52 dbX10_part_52.2.2.2.2.2.1
theorem dX10_part_66 : decode cX10_part 66 = .ok (.istore_n 2, 1) := dgq (p := 14) daX10_part_52 dbX10_part_52.2.2.2.2.2.2.1
theorem dX10_part_67 : decode cX10_part 67 = .ok (.iload 4, 2) := dgq (p := 15) daX10_part_52 dbX10_part_52.2.2.2.2.2.2.2.1
theorem dX10_part_69 : decode cX10_part 69 = .ok (.ifCond .ne 8, 3) := dgq (p := 17) daX10_part_52 dbX10_part_52.2.2.2.2.2.2.2.2.1
theorem dX10_part_72 : decode cX10_part 72 = .ok (.iload 5, 2) := dgq (p := 20) daX10_part_52 dbX10_part_52.2.2.2.2.2.2.2.2.2
def dsX10_part_74 : ByteArray := ⟨#[167, 0, 9, 29, 21, 5, 184, 0, 113, 62, 132, 4, 1, 167, 255, 176, 28, 29, 100]⟩
theorem daX10_part_74 : agB cX10_part dsX10_part_74 74 := agB_of (n := 19) (by decide +kernel)
theorem dbX10_part_74 : (decode dsX10_part_74 0 = .ok (.goto 9, 3) ∧ okop dsX10_part_74 0 = true) ∧ (decode dsX10_part_74 3 = .ok (.iload_n 3, 1) ∧ okop dsX10_part_74 3 = true) ∧ (decode dsX10_part_74 4 = .ok (.iload 5, 2) ∧ okop dsX10_part_74 4 = true) ∧ (decode dsX10_part_74 6 = .ok (.invokestatic 113, 3) ∧ okop dsX10_part_74 6 = true) ∧ (decode dsX10_part_74 9 = .ok (.istore_n 3, 1) ∧ okop dsX10_part_74 9 = true) ∧ (decode dsX10_part_74 10 = .ok (.iinc 4 1, 3) ∧ okop dsX10_part_74 10 = true) ∧ (decode dsX10_part_74 13 = .ok (.goto (-80), 3) ∧ okop dsX10_part_74 13 = true) ∧ (decode dsX10_part_74 16 = .ok (.iload_n 2, 1) ∧ okop dsX10_part_74 16 = true) ∧ (decode dsX10_part_74 17 = .ok (.iload_n 3, 1) ∧ okop dsX10_part_74 17 = true) ∧ (decode dsX10_part_74 18 = .ok (.isub, 1) ∧ okop dsX10_part_74 18 = true) := by decide +kernel
theorem dX10_part_74 : decode cX10_part 74 = .ok (.goto 9, 3) := dgq (p := 0) daX10_part_74 dbX10_part_74.1
theorem dX10_part_77 : decode cX10_part 77 = .ok (.iload_n 3, 1) := dgq (p := 3) daX10_part_74 dbX10_part_74.2.1
theorem dX10_part_78 : decode cX10_part 78 = .ok (.iload 5, 2) := dgq (p := 4) daX10_part_74 dbX10_part_74.2.2.1
theorem dX10_part_80 : decode cX10_part 80 = .ok (.invokestatic 113, 3) := dgq (p := 6) daX10_part_74 dbX10_part_74.2.2.2.1
theorem dX10_part_83 : decode cX10_part 83 = .ok (.istore_n 3, 1) := dgq (p := 9) daX10_part_74 dbX10_part_74.2.2.2.2.1
theorem dX10_part_84 : decode cX10_part 84 = .ok (.iinc 4 1, 3) := dgq (p := 10) daX10_part_74 dbX10_part_74.2.2.2.2.2.1
theorem dX10_part_87 : decode cX10_part 87 = .ok (.goto (-80), 3) := dgq (p := 13) daX10_part_74 dbX10_part_74.2.2.2.2.2.2.1
theorem dX10_part_90 : decode cX10_part 90 = .ok (.iload_n 2, 1) := dgq (p := 16) daX10_part_74 dbX10_part_74.2.2.2.2.2.2.2.1
theorem dX10_part_91 : decode cX10_part 91 = .ok (.iload_n 3, 1) := dgq (p := 17) daX10_part_74 dbX10_part_74.2.2.2.2.2.2.2.2.1
theorem dX10_part_92 : decode cX10_part 92 = .ok (.isub, 1) := dgq (p := 18) daX10_part_74 dbX10_part_74.2.2.2.2.2.2.2.2.2
def dsX10_part_93 : ByteArray := ⟨#[27, 104, 42, 180, 0, 29, 108, 172]⟩
theorem daX10_part_93 : agB cX10_part dsX10_part_93 93 := agB_of (n := 8) (by decide +kernel)
theorem dbX10_part_93 : (decode dsX10_part_93 0 = .ok (.iload_n 1, 1) ∧ okop dsX10_part_93 0 = true) ∧ (decode dsX10_part_93 1 = .ok (.imul, 1) ∧ okop dsX10_part_93 1 = true) ∧ (decode dsX10_part_93 2 = .ok (.aload_n 0, 1) ∧ okop dsX10_part_93 2 = true) ∧ (decode dsX10_part_93 3 = .ok (.getfield 29, 3) ∧ okop dsX10_part_93 3 = true) ∧ (decode dsX10_part_93 6 = .ok (.idiv, 1) ∧ okop dsX10_part_93 6 = true) ∧ (decode dsX10_part_93 7 = .ok (.ireturn, 1) ∧ okop dsX10_part_93 7 = true) := by decide +kernel
theorem dX10_part_93 : decode cX10_part 93 = .ok (.iload_n 1, 1) := dgq (p := 0) daX10_part_93 dbX10_part_93.1
theorem dX10_part_94 : decode cX10_part 94 = .ok (.imul, 1) := dgq (p := 1) daX10_part_93 dbX10_part_93.2.1
theorem dX10_part_95 : decode cX10_part 95 = .ok (.aload_n 0, 1) := dgq (p := 2) daX10_part_93 dbX10_part_93.2.2.1
theorem dX10_part_96 : decode cX10_part 96 = .ok (.getfield 29, 3) := dgq (p := 3) daX10_part_93 dbX10_part_93.2.2.2.1
theorem dX10_part_99 : decode cX10_part 99 = .ok (.idiv, 1) := dgq (p := 6) daX10_part_93 dbX10_part_93.2.2.2.2.1
theorem dX10_part_100 : decode cX10_part 100 = .ok (.ireturn, 1) := dgq (p := 7) daX10_part_93 dbX10_part_93.2.2.2.2.2
set_option maxRecDepth 20000 in
theorem ggX10_partOrNone_X10_part : GoodIn wsX10_partOrNone wsX10_part := goodIn_ca (goodIn_ca (goodIn_ca (goodIn_q _ [6, 1, 7, 8, 9, 10, 11, 12, 13, 14] rfl (by decide +kernel)) (goodIn_sub (fun _ h => (List.mem_cons_of_mem _ (List.mem_append_left _ (List.mem_append_left _ (List.mem_append_right _ h))))) tg_wsX100)) (goodIn_sub (fun _ h => List.mem_cons_of_mem _ (List.mem_append_right _ h)) (by decide +kernel))) (goodIn_sub (fun _ h => List.mem_cons_of_mem _ (List.mem_append_left _ (List.mem_append_right _ h))) (by decide +kernel))
set_option maxRecDepth 20000 in
theorem gX10_partOrNone_X10_part : GoodIn wsX10_partOrNone (wsV RX10 116 RX10 yX10_part wsX10_part) := goodIn_app (goodIn_q _ [2, 3, 4, 5] rfl (by decide +kernel)) ggX10_partOrNone_X10_part
def dsX10_partOrNone_0 : ByteArray := ⟨#[27, 158, 0, 20, 42, 180, 0, 29, 27, 112, 154, 0, 11, 42, 27, 182, 0, 116]⟩
theorem daX10_partOrNone_0 : agB cX10_partOrNone dsX10_partOrNone_0 0 := agB_of (n := 18) (by decide +kernel)
theorem dbX10_partOrNone_0 : (decode dsX10_partOrNone_0 0 = .ok (.iload_n 1, 1) ∧ okop dsX10_partOrNone_0 0 = true) ∧ (decode dsX10_partOrNone_0 1 = .ok (.ifCond .le 20, 3) ∧ okop dsX10_partOrNone_0 1 = true) ∧ (decode dsX10_partOrNone_0 4 = .ok (.aload_n 0, 1) ∧ okop dsX10_partOrNone_0 4 = true) ∧ (decode dsX10_partOrNone_0 5 = .ok (.getfield 29, 3) ∧ okop dsX10_partOrNone_0 5 = true) ∧ (decode dsX10_partOrNone_0 8 = .ok (.iload_n 1, 1) ∧ okop dsX10_partOrNone_0 8 = true) ∧ (decode dsX10_partOrNone_0 9 = .ok (.irem, 1) ∧ okop dsX10_partOrNone_0 9 = true) ∧ (decode dsX10_partOrNone_0 10 = .ok (.ifCond .ne 11, 3) ∧ okop dsX10_partOrNone_0 10 = true) ∧ (decode dsX10_partOrNone_0 13 = .ok (.aload_n 0, 1) ∧ okop dsX10_partOrNone_0 13 = true) ∧ (decode dsX10_partOrNone_0 14 = .ok (.iload_n 1, 1) ∧ okop dsX10_partOrNone_0 14 = true) ∧ (decode dsX10_partOrNone_0 15 = .ok (.invokevirtual 116, 3) ∧ okop dsX10_partOrNone_0 15 = true) := by decide +kernel
theorem dX10_partOrNone_0 : decode cX10_partOrNone 0 = .ok (.iload_n 1, 1) := dgq (p := 0) daX10_partOrNone_0 dbX10_partOrNone_0.1
theorem dX10_partOrNone_1 : decode cX10_partOrNone 1 = .ok (.ifCond .le 20, 3) := dgq (p := 1) daX10_partOrNone_0 dbX10_partOrNone_0.2.1
theorem dX10_partOrNone_4 : decode cX10_partOrNone 4 = .ok (.aload_n 0, 1) := dgq (p := 4) daX10_partOrNone_0 dbX10_partOrNone_0.2.2.1
theorem dX10_partOrNone_5 : decode cX10_partOrNone 5 = .ok (.getfield 29, 3) := dgq (p := 5) daX10_partOrNone_0 dbX10_partOrNone_0.2.2.2.1
theorem dX10_partOrNone_8 : decode cX10_partOrNone 8 = .ok (.iload_n 1, 1) := dgq (p := 8) daX10_partOrNone_0 dbX10_partOrNone_0.2.2.2.2.1
theorem dX10_partOrNone_9 : decode cX10_partOrNone 9 = .ok (.irem, 1) := dgq (p := 9) daX10_partOrNone_0 dbX10_partOrNone_0.2.2.2.2.2.1
theorem dX10_partOrNone_10 : decode cX10_partOrNone 10 = .ok (.ifCond .ne 11, 3) := dgq (p := 10) daX10_partOrNone_0 dbX10_partOrNone_0.2.2.2.2.2.2.1
theorem dX10_partOrNone_13 : decode cX10_partOrNone 13 = .ok (.aload_n 0, 1) := dgq (p := 13) daX10_partOrNone_0 dbX10_partOrNone_0.2.2.2.2.2.2.2.1
theorem dX10_partOrNone_14 : decode cX10_partOrNone 14 = .ok (.iload_n 1, 1) := dgq (p := 14) daX10_partOrNone_0 dbX10_partOrNone_0.2.2.2.2.2.2.2.2.1
theorem dX10_partOrNone_15 : decode cX10_partOrNone 15 = .ok (.invokevirtual 116, 3) := dgq (p := 15) daX10_partOrNone_0 dbX10_partOrNone_0.2.2.2.2.2.2.2.2.2
def dsX10_partOrNone_18 : ByteArray := ⟨#[167, 0, 4, 3, 172]⟩
theorem daX10_partOrNone_18 : agB cX10_partOrNone dsX10_partOrNone_18 18 := agB_of (n := 5) (by decide +kernel)
theorem dbX10_partOrNone_18 : (decode dsX10_partOrNone_18 0 = .ok (.goto 4, 3) ∧ okop dsX10_partOrNone_18 0 = true) ∧ (decode dsX10_partOrNone_18 3 = .ok (.iconst 0, 1) ∧ okop dsX10_partOrNone_18 3 = true) ∧ (decode dsX10_partOrNone_18 4 = .ok (.ireturn, 1) ∧ okop dsX10_partOrNone_18 4 = true) := by decide +kernel
theorem dX10_partOrNone_18 : decode cX10_partOrNone 18 = .ok (.goto 4, 3) := dgq (p := 0) daX10_partOrNone_18 dbX10_partOrNone_18.1
theorem dX10_partOrNone_21 : decode cX10_partOrNone 21 = .ok (.iconst 0, 1) := dgq (p := 3) daX10_partOrNone_18 dbX10_partOrNone_18.2.1
theorem dX10_partOrNone_22 : decode cX10_partOrNone 22 = .ok (.ireturn, 1) := dgq (p := 4) daX10_partOrNone_18 dbX10_partOrNone_18.2.2
set_option maxRecDepth 20000 in
theorem ggX10_grade_X10_greatest : GoodIn wsX10_grade wsX10_greatest := goodIn_ca (goodIn_ca (goodIn_q _ [10, 11, 12, 13, 14, 4, 15, 2, 3, 5] rfl (by decide +kernel)) (goodIn_sub (fun _ h => (List.mem_cons_of_mem _ (List.mem_append_left _ (List.mem_append_left _ (List.mem_append_right _ h))))) tg_wsX100)) (goodIn_sub (fun _ h => List.mem_cons_of_mem _ (List.mem_append_left _ (List.mem_append_right _ h))) (by decide +kernel))
set_option maxRecDepth 20000 in
theorem gX10_grade_X10_greatest : GoodIn wsX10_grade (wsV RX10 119 RX10 yX10_greatest wsX10_greatest) := goodIn_app (goodIn_q _ [6, 7, 8, 9] rfl (by decide +kernel)) ggX10_grade_X10_greatest
set_option maxRecDepth 20000 in
theorem ggX10_grade_X12_gradeOf : GoodIn wsX10_grade wsX12_gradeOf := goodIn_q _ [18, 19, 20, 17, 21] rfl (by decide +kernel)
set_option maxRecDepth 20000 in
theorem gX10_grade_X12_gradeOf_n122 : GoodIn wsX10_grade (wsX12_gradeOf) := ggX10_grade_X12_gradeOf
set_option maxRecDepth 20000 in
theorem ggX10_grade_X10_total : GoodIn wsX10_grade wsX10_total := goodIn_ca (goodIn_ca (goodIn_ca (goodIn_q _ [25, 11, 2, 3, 4, 5, 26, 27, 28, 12, 29, 30, 31, 9, 32] rfl (by decide +kernel)) (goodIn_sub (fun _ h => (List.mem_cons_of_mem _ (List.mem_append_left _ (List.mem_append_left _ (List.mem_append_right _ h))))) tg_wsX100)) (goodIn_sub (fun _ h => List.mem_cons_of_mem _ (List.mem_append_left _ (List.mem_append_right _ h))) (by decide +kernel))) (goodIn_sub (fun _ h => List.mem_cons_of_mem _ (List.mem_append_right _ h)) (by decide +kernel))
set_option maxRecDepth 20000 in
theorem gX10_grade_X10_total : GoodIn wsX10_grade (wsV RX10 125 RX10 yX10_total wsX10_total) := goodIn_app (goodIn_q _ [22, 23, 24, 9] rfl (by decide +kernel)) ggX10_grade_X10_total
def dsX10_grade_0 : ByteArray := ⟨#[42, 182, 0, 119, 184, 0, 122, 42, 182, 0, 125, 7, 108, 184, 0, 122, 5, 42]⟩
theorem daX10_grade_0 : agB cX10_grade dsX10_grade_0 0 := agB_of (n := 18) (by decide +kernel)
theorem dbX10_grade_0 : (decode dsX10_grade_0 0 = .ok (.aload_n 0, 1) ∧ okop dsX10_grade_0 0 = true) ∧ (decode dsX10_grade_0 1 = .ok (.invokevirtual 119, 3) ∧ okop dsX10_grade_0 1 = true) ∧ (decode dsX10_grade_0 4 = .ok (.invokestatic 122, 3) ∧ okop dsX10_grade_0 4 = true) ∧ (decode dsX10_grade_0 7 = .ok (.aload_n 0, 1) ∧ okop dsX10_grade_0 7 = true) ∧ (decode dsX10_grade_0 8 = .ok (.invokevirtual 125, 3) ∧ okop dsX10_grade_0 8 = true) ∧ (decode dsX10_grade_0 11 = .ok (.iconst 4, 1) ∧ okop dsX10_grade_0 11 = true) ∧ (decode dsX10_grade_0 12 = .ok (.idiv, 1) ∧ okop dsX10_grade_0 12 = true) ∧ (decode dsX10_grade_0 13 = .ok (.invokestatic 122, 3) ∧ okop dsX10_grade_0 13 = true) ∧ (decode dsX10_grade_0 16 = .ok (.iconst 2, 1) ∧ okop dsX10_grade_0 16 = true) ∧ (decode dsX10_grade_0 17 = .ok (.aload_n 0, 1) ∧ okop dsX10_grade_0 17 = true) := by decide +kernel
theorem dX10_grade_0 : decode cX10_grade 0 = .ok (.aload_n 0, 1) := dgq (p := 0) daX10_grade_0 dbX10_grade_0.1
theorem dX10_grade_1 : decode cX10_grade 1 = .ok (.invokevirtual 119, 3) := dgq (p := 1) daX10_grade_0 dbX10_grade_0.2.1
theorem dX10_grade_4 : decode cX10_grade 4 = .ok (.invokestatic 122, 3) := dgq (p := 4) daX10_grade_0 dbX10_grade_0.2.2.1
theorem dX10_grade_7 : decode cX10_grade 7 = .ok (.aload_n 0, 1) := dgq (p := 7) daX10_grade_0 dbX10_grade_0.2.2.2.1
theorem dX10_grade_8 : decode cX10_grade 8 = .ok (.invokevirtual 125, 3) := dgq (p := 8) daX10_grade_0 dbX10_grade_0.2.2.2.2.1
theorem dX10_grade_11 : decode cX10_grade 11 = .ok (.iconst 4, 1) := dgq (p := 11) daX10_grade_0 dbX10_grade_0.2.2.2.2.2.1
theorem dX10_grade_12 : decode cX10_grade 12 = .ok (.idiv, 1) := dgq (p := 12) daX10_grade_0 dbX10_grade_0.2.2.2.2.2.2.1
theorem dX10_grade_13 : decode cX10_grade 13 = .ok (.invokestatic 122, 3) := dgq (p := 13) daX10_grade_0 dbX10_grade_0.2.2.2.2.2.2.2.1
theorem dX10_grade_16 : decode cX10_grade 16 = .ok (.iconst 2, 1) := dgq (p := 16) daX10_grade_0 dbX10_grade_0.2.2.2.2.2.2.2.2.1
theorem dX10_grade_17 : decode cX10_grade 17 = .ok (.aload_n 0, 1) := dgq (p := 17) daX10_grade_0 dbX10_grade_0.2.2.2.2.2.2.2.2.2
def dsX10_grade_18 : ByteArray := ⟨#[180, 0, 128, 104, 184, 0, 122, 184, 0, 83, 184, 0, 83, 172]⟩
theorem daX10_grade_18 : agB cX10_grade dsX10_grade_18 18 := agB_of (n := 14) (by decide +kernel)
theorem dbX10_grade_18 : (decode dsX10_grade_18 0 = .ok (.getfield 128, 3) ∧ okop dsX10_grade_18 0 = true) ∧ (decode dsX10_grade_18 3 = .ok (.imul, 1) ∧ okop dsX10_grade_18 3 = true) ∧ (decode dsX10_grade_18 4 = .ok (.invokestatic 122, 3) ∧ okop dsX10_grade_18 4 = true) ∧ (decode dsX10_grade_18 7 = .ok (.invokestatic 83, 3) ∧ okop dsX10_grade_18 7 = true) ∧ (decode dsX10_grade_18 10 = .ok (.invokestatic 83, 3) ∧ okop dsX10_grade_18 10 = true) ∧ (decode dsX10_grade_18 13 = .ok (.ireturn, 1) ∧ okop dsX10_grade_18 13 = true) := by decide +kernel
theorem dX10_grade_18 : decode cX10_grade 18 = .ok (.getfield 128, 3) := dgq (p := 0) daX10_grade_18 dbX10_grade_18.1
theorem dX10_grade_21 : decode cX10_grade 21 = .ok (.imul, 1) := dgq (p := 3) daX10_grade_18 dbX10_grade_18.2.1
theorem dX10_grade_22 : decode cX10_grade 22 = .ok (.invokestatic 122, 3) := dgq (p := 4) daX10_grade_18 dbX10_grade_18.2.2.1
theorem dX10_grade_25 : decode cX10_grade 25 = .ok (.invokestatic 83, 3) := dgq (p := 7) daX10_grade_18 dbX10_grade_18.2.2.2.1
theorem dX10_grade_28 : decode cX10_grade 28 = .ok (.invokestatic 83, 3) := dgq (p := 10) daX10_grade_18 dbX10_grade_18.2.2.2.2.1
theorem dX10_grade_31 : decode cX10_grade 31 = .ok (.ireturn, 1) := dgq (p := 13) daX10_grade_18 dbX10_grade_18.2.2.2.2.2
set_option maxRecDepth 20000 in
theorem ggX10_bears_X10_across : GoodIn wsX10_bears wsX10_across := goodIn_ca (goodIn_q _ [12, 2, 5] rfl (by decide +kernel)) (goodIn_sub (fun _ h => (List.mem_cons_of_mem _ (List.mem_append_left _ (List.mem_append_right _ h)))) tg_wsX100)
set_option maxRecDepth 20000 in
theorem gX10_bears_X10_across : GoodIn wsX10_bears (wsV RX10 41 RX10 yX10_across wsX10_across) := goodIn_app (goodIn_q _ [8, 9, 10, 11] rfl (by decide +kernel)) ggX10_bears_X10_across
set_option maxRecDepth 20000 in
theorem ggX10_bears_X12_root : GoodIn wsX10_bears wsX12_root := goodIn_q _ [15, 16, 17] rfl (by decide +kernel)
set_option maxRecDepth 20000 in
theorem gX10_bears_X12_root_n57 : GoodIn wsX10_bears (wsX12_root) := ggX10_bears_X12_root
set_option maxRecDepth 20000 in
theorem ggX10_bears_X10_caseLeft : GoodIn wsX10_bears wsX10_caseLeft := goodIn_ca (goodIn_q _ [21, 22, 23, 24, 25, 26, 27, 28] rfl (by decide +kernel)) (goodIn_sub (fun _ h => (List.mem_cons_of_mem _ (List.mem_append_left _ (List.mem_append_right _ h)))) tg_wsX100)
set_option maxRecDepth 20000 in
theorem gX10_bears_X10_caseLeft : GoodIn wsX10_bears (wsV RX10 135 RX10 yX10_caseLeft wsX10_caseLeft) := goodIn_app (goodIn_q _ [18, 19, 20, 11] rfl (by decide +kernel)) ggX10_bears_X10_caseLeft
def dsX10_bears_0 : ByteArray := ⟨#[20, 0, 131, 31, 105, 42, 182, 0, 41, 109, 66, 33, 42, 180, 0, 29]⟩
theorem daX10_bears_0 : agB cX10_bears dsX10_bears_0 0 := agB_of (n := 16) (by decide +kernel)
theorem dbX10_bears_0 : (decode dsX10_bears_0 0 = .ok (.ldc2_w 131, 3) ∧ okop dsX10_bears_0 0 = true) ∧ (decode dsX10_bears_0 3 = .ok (.lload_n 1, 1) ∧ okop dsX10_bears_0 3 = true) ∧ (decode dsX10_bears_0 4 = .ok (.lmul, 1) ∧ okop dsX10_bears_0 4 = true) ∧ (decode dsX10_bears_0 5 = .ok (.aload_n 0, 1) ∧ okop dsX10_bears_0 5 = true) ∧ (decode dsX10_bears_0 6 = .ok (.invokevirtual 41, 3) ∧ okop dsX10_bears_0 6 = true) ∧ (decode dsX10_bears_0 9 = .ok (.ldiv, 1) ∧ okop dsX10_bears_0 9 = true) ∧ (decode dsX10_bears_0 10 = .ok (.lstore_n 3, 1) ∧ okop dsX10_bears_0 10 = true) ∧ (decode dsX10_bears_0 11 = .ok (.lload_n 3, 1) ∧ okop dsX10_bears_0 11 = true) ∧ (decode dsX10_bears_0 12 = .ok (.aload_n 0, 1) ∧ okop dsX10_bears_0 12 = true) ∧ (decode dsX10_bears_0 13 = .ok (.getfield 29, 3) ∧ okop dsX10_bears_0 13 = true) := by decide +kernel
theorem dX10_bears_0 : decode cX10_bears 0 = .ok (.ldc2_w 131, 3) := dgq (p := 0) daX10_bears_0 dbX10_bears_0.1
theorem dX10_bears_3 : decode cX10_bears 3 = .ok (.lload_n 1, 1) := dgq (p := 3) daX10_bears_0 dbX10_bears_0.2.1
theorem dX10_bears_4 : decode cX10_bears 4 = .ok (.lmul, 1) := dgq (p := 4) daX10_bears_0 dbX10_bears_0.2.2.1
theorem dX10_bears_5 : decode cX10_bears 5 = .ok (.aload_n 0, 1) := dgq (p := 5) daX10_bears_0 dbX10_bears_0.2.2.2.1
theorem dX10_bears_6 : decode cX10_bears 6 = .ok (.invokevirtual 41, 3) := dgq (p := 6) daX10_bears_0 dbX10_bears_0.2.2.2.2.1
theorem dX10_bears_9 : decode cX10_bears 9 = .ok (.ldiv, 1) := dgq (p := 9) daX10_bears_0 dbX10_bears_0.2.2.2.2.2.1
theorem dX10_bears_10 : decode cX10_bears 10 = .ok (.lstore_n 3, 1) := dgq (p := 10) daX10_bears_0 dbX10_bears_0.2.2.2.2.2.2.1
theorem dX10_bears_11 : decode cX10_bears 11 = .ok (.lload_n 3, 1) := dgq (p := 11) daX10_bears_0 dbX10_bears_0.2.2.2.2.2.2.2.1
theorem dX10_bears_12 : decode cX10_bears 12 = .ok (.aload_n 0, 1) := dgq (p := 12) daX10_bears_0 dbX10_bears_0.2.2.2.2.2.2.2.2.1
theorem dX10_bears_13 : decode cX10_bears 13 = .ok (.getfield 29, 3) := dgq (p := 13) daX10_bears_0 dbX10_bears_0.2.2.2.2.2.2.2.2.2
def dsX10_bears_16 : ByteArray := ⟨#[16, 20, 96, 133, 105, 42, 180, 0, 29, 133, 109, 20, 0, 93, 105]⟩
theorem daX10_bears_16 : agB cX10_bears dsX10_bears_16 16 := agB_of (n := 15) (by decide +kernel)
theorem dbX10_bears_16 : (decode dsX10_bears_16 0 = .ok (.bipush 20, 2) ∧ okop dsX10_bears_16 0 = true) ∧ (decode dsX10_bears_16 2 = .ok (.iadd, 1) ∧ okop dsX10_bears_16 2 = true) ∧ (decode dsX10_bears_16 3 = .ok (.i2l, 1) ∧ okop dsX10_bears_16 3 = true) ∧ (decode dsX10_bears_16 4 = .ok (.lmul, 1) ∧ okop dsX10_bears_16 4 = true) ∧ (decode dsX10_bears_16 5 = .ok (.aload_n 0, 1) ∧ okop dsX10_bears_16 5 = true) ∧ (decode dsX10_bears_16 6 = .ok (.getfield 29, 3) ∧ okop dsX10_bears_16 6 = true) ∧ (decode dsX10_bears_16 9 = .ok (.i2l, 1) ∧ okop dsX10_bears_16 9 = true) ∧ (decode dsX10_bears_16 10 = .ok (.ldiv, 1) ∧ okop dsX10_bears_16 10 = true) ∧ (decode dsX10_bears_16 11 = .ok (.ldc2_w 93, 3) ∧ okop dsX10_bears_16 11 = true) ∧ (decode dsX10_bears_16 14 = .ok (.lmul, 1) ∧ okop dsX10_bears_16 14 = true) := by decide +kernel
theorem dX10_bears_16 : decode cX10_bears 16 = .ok (.bipush 20, 2) := dgq (p := 0) daX10_bears_16 dbX10_bears_16.1
theorem dX10_bears_18 : decode cX10_bears 18 = .ok (.iadd, 1) := dgq (p := 2) daX10_bears_16 dbX10_bears_16.2.1
theorem dX10_bears_19 : decode cX10_bears 19 = .ok (.i2l, 1) := dgq (p := 3) daX10_bears_16 dbX10_bears_16.2.2.1
theorem dX10_bears_20 : decode cX10_bears 20 = .ok (.lmul, 1) := dgq (p := 4) daX10_bears_16 dbX10_bears_16.2.2.2.1
theorem dX10_bears_21 : decode cX10_bears 21 = .ok (.aload_n 0, 1) := dgq (p := 5) daX10_bears_16 dbX10_bears_16.2.2.2.2.1
theorem dX10_bears_22 : decode cX10_bears 22 = .ok (.getfield 29, 3) := dgq (p := 6) daX10_bears_16 dbX10_bears_16.2.2.2.2.2.1
theorem dX10_bears_25 : decode cX10_bears 25 = .ok (.i2l, 1) := dgq (p := 9) daX10_bears_16 dbX10_bears_16.2.2.2.2.2.2.1
theorem dX10_bears_26 : decode cX10_bears 26 = .ok (.ldiv, 1) := dgq (p := 10) daX10_bears_16 dbX10_bears_16.2.2.2.2.2.2.2.1
theorem dX10_bears_27 : decode cX10_bears 27 = .ok (.ldc2_w 93, 3) := dgq (p := 11) daX10_bears_16 dbX10_bears_16.2.2.2.2.2.2.2.2.1
theorem dX10_bears_30 : decode cX10_bears 30 = .ok (.lmul, 1) := dgq (p := 14) daX10_bears_16 dbX10_bears_16.2.2.2.2.2.2.2.2.2
def dsX10_bears_31 : ByteArray := ⟨#[42, 180, 0, 38, 133, 42, 180, 0, 32, 133, 105, 109, 55, 5, 33]⟩
theorem daX10_bears_31 : agB cX10_bears dsX10_bears_31 31 := agB_of (n := 15) (by decide +kernel)
theorem dbX10_bears_31 : (decode dsX10_bears_31 0 = .ok (.aload_n 0, 1) ∧ okop dsX10_bears_31 0 = true) ∧ (decode dsX10_bears_31 1 = .ok (.getfield 38, 3) ∧ okop dsX10_bears_31 1 = true) ∧ (decode dsX10_bears_31 4 = .ok (.i2l, 1) ∧ okop dsX10_bears_31 4 = true) ∧ (decode dsX10_bears_31 5 = .ok (.aload_n 0, 1) ∧ okop dsX10_bears_31 5 = true) ∧ (decode dsX10_bears_31 6 = .ok (.getfield 32, 3) ∧ okop dsX10_bears_31 6 = true) ∧ (decode dsX10_bears_31 9 = .ok (.i2l, 1) ∧ okop dsX10_bears_31 9 = true) ∧ (decode dsX10_bears_31 10 = .ok (.lmul, 1) ∧ okop dsX10_bears_31 10 = true) ∧ (decode dsX10_bears_31 11 = .ok (.ldiv, 1) ∧ okop dsX10_bears_31 11 = true) ∧ (decode dsX10_bears_31 12 = .ok (.lstore 5, 2) ∧ okop dsX10_bears_31 12 = true) ∧ (decode dsX10_bears_31 14 = .ok (.lload_n 3, 1) ∧ okop dsX10_bears_31 14 = true) := by decide +kernel
theorem dX10_bears_31 : decode cX10_bears 31 = .ok (.aload_n 0, 1) := dgq (p := 0) daX10_bears_31 dbX10_bears_31.1
theorem dX10_bears_32 : decode cX10_bears 32 = .ok (.getfield 38, 3) := dgq (p := 1) daX10_bears_31 dbX10_bears_31.2.1
theorem dX10_bears_35 : decode cX10_bears 35 = .ok (.i2l, 1) := dgq (p := 4) daX10_bears_31 dbX10_bears_31.2.2.1
theorem dX10_bears_36 : decode cX10_bears 36 = .ok (.aload_n 0, 1) := dgq (p := 5) daX10_bears_31 dbX10_bears_31.2.2.2.1
theorem dX10_bears_37 : decode cX10_bears 37 = .ok (.getfield 32, 3) := dgq (p := 6) daX10_bears_31 dbX10_bears_31.2.2.2.2.1
theorem dX10_bears_40 : decode cX10_bears 40 = .ok (.i2l, 1) := dgq (p := 9) daX10_bears_31 dbX10_bears_31.2.2.2.2.2.1
theorem dX10_bears_41 : decode cX10_bears 41 = .ok (.lmul, 1) := dgq (p := 10) daX10_bears_31 dbX10_bears_31.2.2.2.2.2.2.1
theorem dX10_bears_42 : decode cX10_bears 42 = .ok (.ldiv, 1) := dgq (p := 11) daX10_bears_31 dbX10_bears_31.2.2.2.2.2.2.2.1
theorem dX10_bears_43 : decode cX10_bears 43 = .ok (.lstore 5, 2) := dgq (p := 12) daX10_bears_31 dbX10_bears_31.2.2.2.2.2.2.2.2.1
theorem dX10_bears_45 : decode cX10_bears 45 = .ok (.lload_n 3, 1) := dgq (p := 14) daX10_bears_31 dbX10_bears_31.2.2.2.2.2.2.2.2.2
def dsX10_bears_46 : ByteArray := ⟨#[20, 0, 93, 105, 42, 182, 0, 41, 109, 20, 0, 133, 105, 42, 180, 0, 38, 133]⟩
theorem daX10_bears_46 : agB cX10_bears dsX10_bears_46 46 := agB_of (n := 18) (by decide +kernel)
theorem dbX10_bears_46 : (decode dsX10_bears_46 0 = .ok (.ldc2_w 93, 3) ∧ okop dsX10_bears_46 0 = true) ∧ (decode dsX10_bears_46 3 = .ok (.lmul, 1) ∧ okop dsX10_bears_46 3 = true) ∧ (decode dsX10_bears_46 4 = .ok (.aload_n 0, 1) ∧ okop dsX10_bears_46 4 = true) ∧ (decode dsX10_bears_46 5 = .ok (.invokevirtual 41, 3) ∧ okop dsX10_bears_46 5 = true) ∧ (decode dsX10_bears_46 8 = .ok (.ldiv, 1) ∧ okop dsX10_bears_46 8 = true) ∧ (decode dsX10_bears_46 9 = .ok (.ldc2_w 133, 3) ∧ okop dsX10_bears_46 9 = true) ∧ (decode dsX10_bears_46 12 = .ok (.lmul, 1) ∧ okop dsX10_bears_46 12 = true) ∧ (decode dsX10_bears_46 13 = .ok (.aload_n 0, 1) ∧ okop dsX10_bears_46 13 = true) ∧ (decode dsX10_bears_46 14 = .ok (.getfield 38, 3) ∧ okop dsX10_bears_46 14 = true) ∧ (decode dsX10_bears_46 17 = .ok (.i2l, 1) ∧ okop dsX10_bears_46 17 = true) := by decide +kernel
theorem dX10_bears_46 : decode cX10_bears 46 = .ok (.ldc2_w 93, 3) := dgq (p := 0) daX10_bears_46 dbX10_bears_46.1
theorem dX10_bears_49 : decode cX10_bears 49 = .ok (.lmul, 1) := dgq (p := 3) daX10_bears_46 dbX10_bears_46.2.1
theorem dX10_bears_50 : decode cX10_bears 50 = .ok (.aload_n 0, 1) := dgq (p := 4) daX10_bears_46 dbX10_bears_46.2.2.1
theorem dX10_bears_51 : decode cX10_bears 51 = .ok (.invokevirtual 41, 3) := dgq (p := 5) daX10_bears_46 dbX10_bears_46.2.2.2.1
theorem dX10_bears_54 : decode cX10_bears 54 = .ok (.ldiv, 1) := dgq (p := 8) daX10_bears_46 dbX10_bears_46.2.2.2.2.1
theorem dX10_bears_55 : decode cX10_bears 55 = .ok (.ldc2_w 133, 3) := dgq (p := 9) daX10_bears_46 dbX10_bears_46.2.2.2.2.2.1
theorem dX10_bears_58 : decode cX10_bears 58 = .ok (.lmul, 1) := dgq (p := 12) daX10_bears_46 dbX10_bears_46.2.2.2.2.2.2.1
theorem dX10_bears_59 : decode cX10_bears 59 = .ok (.aload_n 0, 1) := dgq (p := 13) daX10_bears_46 dbX10_bears_46.2.2.2.2.2.2.2.1
theorem dX10_bears_60 : decode cX10_bears 60 = .ok (.getfield 38, 3) := dgq (p := 14) daX10_bears_46 dbX10_bears_46.2.2.2.2.2.2.2.2.1
theorem dX10_bears_63 : decode cX10_bears 63 = .ok (.i2l, 1) := dgq (p := 17) daX10_bears_46 dbX10_bears_46.2.2.2.2.2.2.2.2.2
def dsX10_bears_64 : ByteArray := ⟨#[109, 184, 0, 57, 55, 7, 42, 182, 0, 135, 154, 0, 7, 3, 167, 0, 26, 20, 0, 138, 42]⟩
theorem daX10_bears_64 : agB cX10_bears dsX10_bears_64 64 := agB_of (n := 21) (by decide +kernel)
theorem dbX10_bears_64 : (decode dsX10_bears_64 0 = .ok (.ldiv, 1) ∧ okop dsX10_bears_64 0 = true) ∧ (decode dsX10_bears_64 1 = .ok (.invokestatic 57, 3) ∧ okop dsX10_bears_64 1 = true) ∧ (decode dsX10_bears_64 4 = .ok (.lstore 7, 2) ∧ okop dsX10_bears_64 4 = true) ∧ (decode dsX10_bears_64 6 = .ok (.aload_n 0, 1) ∧ okop dsX10_bears_64 6 = true) ∧ (decode dsX10_bears_64 7 = .ok (.invokevirtual 135, 3) ∧ okop dsX10_bears_64 7 = true) ∧ (decode dsX10_bears_64 10 = .ok (.ifCond .ne 7, 3) ∧ okop dsX10_bears_64 10 = true) ∧ (decode dsX10_bears_64 13 = .ok (.iconst 0, 1) ∧ okop dsX10_bears_64 13 = true) ∧ (decode dsX10_bears_64 14 = .ok (.goto 26, 3) ∧ okop dsX10_bears_64 14 = true) ∧ (decode dsX10_bears_64 17 = .ok (.ldc2_w 138, 3) ∧ okop dsX10_bears_64 17 = true) ∧ (decode dsX10_bears_64 20 = .ok (.aload_n 0, 1) ∧ okop dsX10_bears_64 20 = true) := by decide +kernel
theorem dX10_bears_64 : decode cX10_bears 64 = .ok (.ldiv, 1) := dgq (p := 0) daX10_bears_64 dbX10_bears_64.1
theorem dX10_bears_65 : decode cX10_bears 65 = .ok (.invokestatic 57, 3) := dgq (p := 1) daX10_bears_64 dbX10_bears_64.2.1
theorem dX10_bears_68 : decode cX10_bears 68 = .ok (.lstore 7, 2) := dgq (p := 4) daX10_bears_64 dbX10_bears_64.2.2.1
theorem dX10_bears_70 : decode cX10_bears 70 = .ok (.aload_n 0, 1) := dgq (p := 6) daX10_bears_64 dbX10_bears_64.2.2.2.1
theorem dX10_bears_71 : decode cX10_bears 71 = .ok (.invokevirtual 135, 3) := dgq (p := 7) daX10_bears_64 dbX10_bears_64.2.2.2.2.1
theorem dX10_bears_74 : decode cX10_bears 74 = .ok (.ifCond .ne 7, 3) := dgq (p := 10) daX10_bears_64 dbX10_bears_64.2.2.2.2.2.1
theorem dX10_bears_77 : decode cX10_bears 77 = .ok (.iconst 0, 1) := dgq (p := 13) daX10_bears_64 dbX10_bears_64.2.2.2.2.2.2.1
theorem dX10_bears_78 : decode cX10_bears 78 = .ok (.goto 26, 3) := dgq (p := 14) daX10_bears_64 dbX10_bears_64.2.2.2.2.2.2.2.1
theorem dX10_bears_81 : decode cX10_bears 81 = .ok (.ldc2_w 138, 3) := dgq (p := 17) daX10_bears_64 dbX10_bears_64.2.2.2.2.2.2.2.2.1
theorem dX10_bears_84 : decode cX10_bears 84 = .ok (.aload_n 0, 1) := dgq (p := 20) daX10_bears_64 dbX10_bears_64.2.2.2.2.2.2.2.2.2
def dsX10_bears_85 : ByteArray := ⟨#[182, 0, 135, 133, 105, 42, 180, 0, 32, 133, 148, 155, 0, 7, 5, 167, 0, 4]⟩
theorem daX10_bears_85 : agB cX10_bears dsX10_bears_85 85 := agB_of (n := 18) (by decide +kernel)
theorem dbX10_bears_85 : (decode dsX10_bears_85 0 = .ok (.invokevirtual 135, 3) ∧ okop dsX10_bears_85 0 = true) ∧ (decode dsX10_bears_85 3 = .ok (.i2l, 1) ∧ okop dsX10_bears_85 3 = true) ∧ (decode dsX10_bears_85 4 = .ok (.lmul, 1) ∧ okop dsX10_bears_85 4 = true) ∧ (decode dsX10_bears_85 5 = .ok (.aload_n 0, 1) ∧ okop dsX10_bears_85 5 = true) ∧ (decode dsX10_bears_85 6 = .ok (.getfield 32, 3) ∧ okop dsX10_bears_85 6 = true) ∧ (decode dsX10_bears_85 9 = .ok (.i2l, 1) ∧ okop dsX10_bears_85 9 = true) ∧ (decode dsX10_bears_85 10 = .ok (.lcmp, 1) ∧ okop dsX10_bears_85 10 = true) ∧ (decode dsX10_bears_85 11 = .ok (.ifCond .lt 7, 3) ∧ okop dsX10_bears_85 11 = true) ∧ (decode dsX10_bears_85 14 = .ok (.iconst 2, 1) ∧ okop dsX10_bears_85 14 = true) ∧ (decode dsX10_bears_85 15 = .ok (.goto 4, 3) ∧ okop dsX10_bears_85 15 = true) := by decide +kernel
theorem dX10_bears_85 : decode cX10_bears 85 = .ok (.invokevirtual 135, 3) := dgq (p := 0) daX10_bears_85 dbX10_bears_85.1
theorem dX10_bears_88 : decode cX10_bears 88 = .ok (.i2l, 1) := dgq (p := 3) daX10_bears_85 dbX10_bears_85.2.1
theorem dX10_bears_89 : decode cX10_bears 89 = .ok (.lmul, 1) := dgq (p := 4) daX10_bears_85 dbX10_bears_85.2.2.1
theorem dX10_bears_90 : decode cX10_bears 90 = .ok (.aload_n 0, 1) := dgq (p := 5) daX10_bears_85 dbX10_bears_85.2.2.2.1
theorem dX10_bears_91 : decode cX10_bears 91 = .ok (.getfield 32, 3) := dgq (p := 6) daX10_bears_85 dbX10_bears_85.2.2.2.2.1
theorem dX10_bears_94 : decode cX10_bears 94 = .ok (.i2l, 1) := dgq (p := 9) daX10_bears_85 dbX10_bears_85.2.2.2.2.2.1
theorem dX10_bears_95 : decode cX10_bears 95 = .ok (.lcmp, 1) := dgq (p := 10) daX10_bears_85 dbX10_bears_85.2.2.2.2.2.2.1
theorem dX10_bears_96 : decode cX10_bears 96 = .ok (.ifCond .lt 7, 3) := dgq (p := 11) daX10_bears_85 dbX10_bears_85.2.2.2.2.2.2.2.1
theorem dX10_bears_99 : decode cX10_bears 99 = .ok (.iconst 2, 1) := dgq (p := 14) daX10_bears_85 dbX10_bears_85.2.2.2.2.2.2.2.2.1
theorem dX10_bears_100 : decode cX10_bears 100 = .ok (.goto 4, 3) := dgq (p := 15) daX10_bears_85 dbX10_bears_85.2.2.2.2.2.2.2.2.2
def dsX10_bears_103 : ByteArray := ⟨#[4, 54, 9, 22, 5, 21, 9, 154, 0, 9, 17, 0, 200, 167, 0, 18, 21, 9, 4, 160, 0, 9]⟩
theorem daX10_bears_103 : agB cX10_bears dsX10_bears_103 103 := agB_of (n := 22) (by decide +kernel)
theorem dbX10_bears_103 : (decode dsX10_bears_103 0 = .ok (.iconst 1, 1) ∧ okop dsX10_bears_103 0 = true) ∧ (decode dsX10_bears_103 1 = .ok (.istore 9, 2) ∧ okop dsX10_bears_103 1 = true) ∧ (decode dsX10_bears_103 3 = .ok (.lload 5, 2) ∧ okop dsX10_bears_103 3 = true) ∧ (decode dsX10_bears_103 5 = .ok (.iload 9, 2) ∧ okop dsX10_bears_103 5 = true) ∧ (decode dsX10_bears_103 7 = .ok (.ifCond .ne 9, 3) ∧ okop dsX10_bears_103 7 = true) ∧ (decode dsX10_bears_103 10 = .ok (.sipush 200, 3) ∧ okop dsX10_bears_103 10 = true) ∧ (decode dsX10_bears_103 13 = .ok (.goto 18, 3) ∧ okop dsX10_bears_103 13 = true) ∧ (decode dsX10_bears_103 16 = .ok (.iload 9, 2) ∧ okop dsX10_bears_103 16 = true) ∧ (decode dsX10_bears_103 18 = .ok (.iconst 1, 1) ∧ okop dsX10_bears_103 18 = true) ∧ (decode dsX10_bears_103 19 = .ok (.if_icmp .ne 9, 3) ∧ okop dsX10_bears_103 19 = true) := by decide +kernel
theorem dX10_bears_103 : decode cX10_bears 103 = .ok (.iconst 1, 1) := dgq (p := 0) daX10_bears_103 dbX10_bears_103.1
theorem dX10_bears_104 : decode cX10_bears 104 = .ok (.istore 9, 2) := dgq (p := 1) daX10_bears_103 dbX10_bears_103.2.1
theorem dX10_bears_106 : decode cX10_bears 106 = .ok (.lload 5, 2) := dgq (p := 3) daX10_bears_103 dbX10_bears_103.2.2.1
theorem dX10_bears_108 : decode cX10_bears 108 = .ok (.iload 9, 2) := dgq (p := 5) daX10_bears_103 dbX10_bears_103.2.2.2.1
theorem dX10_bears_110 : decode cX10_bears 110 = .ok (.ifCond .ne 9, 3) := dgq (p := 7) daX10_bears_103 dbX10_bears_103.2.2.2.2.1
theorem dX10_bears_113 : decode cX10_bears 113 = .ok (.sipush 200, 3) := dgq (p := 10) daX10_bears_103 dbX10_bears_103.2.2.2.2.2.1
theorem dX10_bears_116 : decode cX10_bears 116 = .ok (.goto 18, 3) := dgq (p := 13) daX10_bears_103 dbX10_bears_103.2.2.2.2.2.2.1
theorem dX10_bears_119 : decode cX10_bears 119 = .ok (.iload 9, 2) := dgq (p := 16) daX10_bears_103 dbX10_bears_103.2.2.2.2.2.2.2.1
theorem dX10_bears_121 : decode cX10_bears 121 = .ok (.iconst 1, 1) := dgq (p := 18) daX10_bears_103 dbX10_bears_103.2.2.2.2.2.2.2.2.1
theorem dX10_bears_122 : decode cX10_bears 122 = .ok (.if_icmp .ne 9, 3) := dgq (p := 19) daX10_bears_103 dbX10_bears_103.2.2.2.2.2.2.2.2.2
def dsX10_bears_125 : ByteArray := ⟨#[17, 1, 44, 167, 0, 6, 17, 1, 144, 133, 148, 157, 0, 40, 22, 7, 21, 9, 154, 0, 9, 17, 2, 88]⟩
theorem daX10_bears_125 : agB cX10_bears dsX10_bears_125 125 := agB_of (n := 24) (by decide +kernel)
theorem dbX10_bears_125 : (decode dsX10_bears_125 0 = .ok (.sipush 300, 3) ∧ okop dsX10_bears_125 0 = true) ∧ (decode dsX10_bears_125 3 = .ok (.goto 6, 3) ∧ okop dsX10_bears_125 3 = true) ∧ (decode dsX10_bears_125 6 = .ok (.sipush 400, 3) ∧ okop dsX10_bears_125 6 = true) ∧ (decode dsX10_bears_125 9 = .ok (.i2l, 1) ∧ okop dsX10_bears_125 9 = true) ∧ (decode dsX10_bears_125 10 = .ok (.lcmp, 1) ∧ okop dsX10_bears_125 10 = true) ∧ (decode dsX10_bears_125 11 = .ok (.ifCond .gt 40, 3) ∧ okop dsX10_bears_125 11 = true) ∧ (decode dsX10_bears_125 14 = .ok (.lload 7, 2) ∧ okop dsX10_bears_125 14 = true) ∧ (decode dsX10_bears_125 16 = .ok (.iload 9, 2) ∧ okop dsX10_bears_125 16 = true) ∧ (decode dsX10_bears_125 18 = .ok (.ifCond .ne 9, 3) ∧ okop dsX10_bears_125 18 = true) ∧ (decode dsX10_bears_125 21 = .ok (.sipush 600, 3) ∧ okop dsX10_bears_125 21 = true) := by decide +kernel
theorem dX10_bears_125 : decode cX10_bears 125 = .ok (.sipush 300, 3) := dgq (p := 0) daX10_bears_125 dbX10_bears_125.1
theorem dX10_bears_128 : decode cX10_bears 128 = .ok (.goto 6, 3) := dgq (p := 3) daX10_bears_125 dbX10_bears_125.2.1
theorem dX10_bears_131 : decode cX10_bears 131 = .ok (.sipush 400, 3) := dgq (p := 6) daX10_bears_125 dbX10_bears_125.2.2.1
theorem dX10_bears_134 : decode cX10_bears 134 = .ok (.i2l, 1) := dgq (p := 9) daX10_bears_125 dbX10_bears_125.2.2.2.1
theorem dX10_bears_135 : decode cX10_bears 135 = .ok (.lcmp, 1) := dgq (p := 10) daX10_bears_125 dbX10_bears_125.2.2.2.2.1
theorem dX10_bears_136 : decode cX10_bears 136 = .ok (.ifCond .gt 40, 3) := dgq (p := 11) daX10_bears_125 dbX10_bears_125.2.2.2.2.2.1
theorem dX10_bears_139 : decode cX10_bears 139 = .ok (.lload 7, 2) := dgq (p := 14) daX10_bears_125 dbX10_bears_125.2.2.2.2.2.2.1
theorem dX10_bears_141 : decode cX10_bears 141 = .ok (.iload 9, 2) := dgq (p := 16) daX10_bears_125 dbX10_bears_125.2.2.2.2.2.2.2.1
theorem dX10_bears_143 : decode cX10_bears 143 = .ok (.ifCond .ne 9, 3) := dgq (p := 18) daX10_bears_125 dbX10_bears_125.2.2.2.2.2.2.2.2.1
theorem dX10_bears_146 : decode cX10_bears 146 = .ok (.sipush 600, 3) := dgq (p := 21) daX10_bears_125 dbX10_bears_125.2.2.2.2.2.2.2.2.2
def dsX10_bears_149 : ByteArray := ⟨#[167, 0, 18, 21, 9, 4, 160, 0, 9, 17, 3, 232, 167, 0, 6, 17, 5, 120, 133, 148, 157, 0, 7]⟩
theorem daX10_bears_149 : agB cX10_bears dsX10_bears_149 149 := agB_of (n := 23) (by decide +kernel)
theorem dbX10_bears_149 : (decode dsX10_bears_149 0 = .ok (.goto 18, 3) ∧ okop dsX10_bears_149 0 = true) ∧ (decode dsX10_bears_149 3 = .ok (.iload 9, 2) ∧ okop dsX10_bears_149 3 = true) ∧ (decode dsX10_bears_149 5 = .ok (.iconst 1, 1) ∧ okop dsX10_bears_149 5 = true) ∧ (decode dsX10_bears_149 6 = .ok (.if_icmp .ne 9, 3) ∧ okop dsX10_bears_149 6 = true) ∧ (decode dsX10_bears_149 9 = .ok (.sipush 1000, 3) ∧ okop dsX10_bears_149 9 = true) ∧ (decode dsX10_bears_149 12 = .ok (.goto 6, 3) ∧ okop dsX10_bears_149 12 = true) ∧ (decode dsX10_bears_149 15 = .ok (.sipush 1400, 3) ∧ okop dsX10_bears_149 15 = true) ∧ (decode dsX10_bears_149 18 = .ok (.i2l, 1) ∧ okop dsX10_bears_149 18 = true) ∧ (decode dsX10_bears_149 19 = .ok (.lcmp, 1) ∧ okop dsX10_bears_149 19 = true) ∧ (decode dsX10_bears_149 20 = .ok (.ifCond .gt 7, 3) ∧ okop dsX10_bears_149 20 = true) := by decide +kernel
theorem dX10_bears_149 : decode cX10_bears 149 = .ok (.goto 18, 3) := dgq (p := 0) daX10_bears_149 dbX10_bears_149.1
theorem dX10_bears_152 : decode cX10_bears 152 = .ok (.iload 9, 2) := dgq (p := 3) daX10_bears_149 dbX10_bears_149.2.1
theorem dX10_bears_154 : decode cX10_bears 154 = .ok (.iconst 1, 1) := dgq (p := 5) daX10_bears_149 dbX10_bears_149.2.2.1
theorem dX10_bears_155 : decode cX10_bears 155 = .ok (.if_icmp .ne 9, 3) := dgq (p := 6) daX10_bears_149 dbX10_bears_149.2.2.2.1
theorem dX10_bears_158 : decode cX10_bears 158 = .ok (.sipush 1000, 3) := dgq (p := 9) daX10_bears_149 dbX10_bears_149.2.2.2.2.1
theorem dX10_bears_161 : decode cX10_bears 161 = .ok (.goto 6, 3) := dgq (p := 12) daX10_bears_149 dbX10_bears_149.2.2.2.2.2.1
theorem dX10_bears_164 : decode cX10_bears 164 = .ok (.sipush 1400, 3) := dgq (p := 15) daX10_bears_149 dbX10_bears_149.2.2.2.2.2.2.1
theorem dX10_bears_167 : decode cX10_bears 167 = .ok (.i2l, 1) := dgq (p := 18) daX10_bears_149 dbX10_bears_149.2.2.2.2.2.2.2.1
theorem dX10_bears_168 : decode cX10_bears 168 = .ok (.lcmp, 1) := dgq (p := 19) daX10_bears_149 dbX10_bears_149.2.2.2.2.2.2.2.2.1
theorem dX10_bears_169 : decode cX10_bears 169 = .ok (.ifCond .gt 7, 3) := dgq (p := 20) daX10_bears_149 dbX10_bears_149.2.2.2.2.2.2.2.2.2
def dsX10_bears_172 : ByteArray := ⟨#[4, 167, 0, 4, 3, 172]⟩
theorem daX10_bears_172 : agB cX10_bears dsX10_bears_172 172 := agB_of (n := 6) (by decide +kernel)
theorem dbX10_bears_172 : (decode dsX10_bears_172 0 = .ok (.iconst 1, 1) ∧ okop dsX10_bears_172 0 = true) ∧ (decode dsX10_bears_172 1 = .ok (.goto 4, 3) ∧ okop dsX10_bears_172 1 = true) ∧ (decode dsX10_bears_172 4 = .ok (.iconst 0, 1) ∧ okop dsX10_bears_172 4 = true) ∧ (decode dsX10_bears_172 5 = .ok (.ireturn, 1) ∧ okop dsX10_bears_172 5 = true) := by decide +kernel
theorem dX10_bears_172 : decode cX10_bears 172 = .ok (.iconst 1, 1) := dgq (p := 0) daX10_bears_172 dbX10_bears_172.1
theorem dX10_bears_173 : decode cX10_bears 173 = .ok (.goto 4, 3) := dgq (p := 1) daX10_bears_172 dbX10_bears_172.2.1
theorem dX10_bears_176 : decode cX10_bears 176 = .ok (.iconst 0, 1) := dgq (p := 4) daX10_bears_172 dbX10_bears_172.2.2.1
theorem dX10_bears_177 : decode cX10_bears 177 = .ok (.ireturn, 1) := dgq (p := 5) daX10_bears_172 dbX10_bears_172.2.2.2
set_option maxRecDepth 20000 in
theorem ggX10_bears__X10_bears : GoodIn wsX10_bears_ wsX10_bears := goodIn_ca (goodIn_ca (goodIn_q _ [6, 7, 8, 9, 10, 11, 12, 13, 14, 15, 16, 5, 17, 18, 19, 20, 21, 22, 23, 24, 25, 26, 27, 28, 29, 30, 31, 32, 33] rfl (by decide +kernel)) (goodIn_sub (fun _ h => (List.mem_cons_of_mem _ (List.mem_append_left _ (List.mem_append_right _ h)))) tg_wsX100)) (goodIn_sub (fun _ h => List.mem_cons_of_mem _ (List.mem_append_right _ h)) (by decide +kernel))
set_option maxRecDepth 20000 in
theorem gX10_bears__X10_bears : GoodIn wsX10_bears_ (wsV RX10 141 RX10 yX10_bears wsX10_bears) := goodIn_app (goodIn_q _ [2, 3, 4, 5] rfl (by decide +kernel)) ggX10_bears__X10_bears
def dsX10_bears__0 : ByteArray := ⟨#[3, 60, 18, 140, 61, 28, 27, 100, 4, 164, 0, 28, 27]⟩
theorem daX10_bears__0 : agB cX10_bears_ dsX10_bears__0 0 := agB_of (n := 13) (by decide +kernel)
theorem dbX10_bears__0 : (decode dsX10_bears__0 0 = .ok (.iconst 0, 1) ∧ okop dsX10_bears__0 0 = true) ∧ (decode dsX10_bears__0 1 = .ok (.istore_n 1, 1) ∧ okop dsX10_bears__0 1 = true) ∧ (decode dsX10_bears__0 2 = .ok (.ldc 140, 2) ∧ okop dsX10_bears__0 2 = true) ∧ (decode dsX10_bears__0 4 = .ok (.istore_n 2, 1) ∧ okop dsX10_bears__0 4 = true) ∧ (decode dsX10_bears__0 5 = .ok (.iload_n 2, 1) ∧ okop dsX10_bears__0 5 = true) ∧ (decode dsX10_bears__0 6 = .ok (.iload_n 1, 1) ∧ okop dsX10_bears__0 6 = true) ∧ (decode dsX10_bears__0 7 = .ok (.isub, 1) ∧ okop dsX10_bears__0 7 = true) ∧ (decode dsX10_bears__0 8 = .ok (.iconst 1, 1) ∧ okop dsX10_bears__0 8 = true) ∧ (decode dsX10_bears__0 9 = .ok (.if_icmp .le 28, 3) ∧ okop dsX10_bears__0 9 = true) ∧ (decode dsX10_bears__0 12 = .ok (.iload_n 1, 1) ∧ okop dsX10_bears__0 12 = true) := by decide +kernel
theorem dX10_bears__0 : decode cX10_bears_ 0 = .ok (.iconst 0, 1) := dgq (p := 0) daX10_bears__0 dbX10_bears__0.1
theorem dX10_bears__1 : decode cX10_bears_ 1 = .ok (.istore_n 1, 1) := dgq (p := 1) daX10_bears__0 dbX10_bears__0.2.1
theorem dX10_bears__2 : decode cX10_bears_ 2 = .ok (.ldc 140, 2) := dgq (p := 2) daX10_bears__0 dbX10_bears__0.2.2.1
theorem dX10_bears__4 : decode cX10_bears_ 4 = .ok (.istore_n 2, 1) := dgq (p := 4) daX10_bears__0 dbX10_bears__0.2.2.2.1
theorem dX10_bears__5 : decode cX10_bears_ 5 = .ok (.iload_n 2, 1) := dgq (p := 5) daX10_bears__0 dbX10_bears__0.2.2.2.2.1
theorem dX10_bears__6 : decode cX10_bears_ 6 = .ok (.iload_n 1, 1) := dgq (p := 6) daX10_bears__0 dbX10_bears__0.2.2.2.2.2.1
theorem dX10_bears__7 : decode cX10_bears_ 7 = .ok (.isub, 1) := dgq (p := 7) daX10_bears__0 dbX10_bears__0.2.2.2.2.2.2.1
theorem dX10_bears__8 : decode cX10_bears_ 8 = .ok (.iconst 1, 1) := dgq (p := 8) daX10_bears__0 dbX10_bears__0.2.2.2.2.2.2.2.1
theorem dX10_bears__9 : decode cX10_bears_ 9 = .ok (.if_icmp .le 28, 3) := dgq (p := 9) daX10_bears__0 dbX10_bears__0.2.2.2.2.2.2.2.2.1
theorem dX10_bears__12 : decode cX10_bears_ 12 = .ok (.iload_n 1, 1) := dgq (p := 12) daX10_bears__0 dbX10_bears__0.2.2.2.2.2.2.2.2.2
def dsX10_bears__13 : ByteArray := ⟨#[28, 96, 5, 108, 62, 42, 29, 133, 182, 0, 141, 153, 0, 8]⟩
theorem daX10_bears__13 : agB cX10_bears_ dsX10_bears__13 13 := agB_of (n := 14) (by decide +kernel)
theorem dbX10_bears__13 : (decode dsX10_bears__13 0 = .ok (.iload_n 2, 1) ∧ okop dsX10_bears__13 0 = true) ∧ (decode dsX10_bears__13 1 = .ok (.iadd, 1) ∧ okop dsX10_bears__13 1 = true) ∧ (decode dsX10_bears__13 2 = .ok (.iconst 2, 1) ∧ okop dsX10_bears__13 2 = true) ∧ (decode dsX10_bears__13 3 = .ok (.idiv, 1) ∧ okop dsX10_bears__13 3 = true) ∧ (decode dsX10_bears__13 4 = .ok (.istore_n 3, 1) ∧ okop dsX10_bears__13 4 = true) ∧ (decode dsX10_bears__13 5 = .ok (.aload_n 0, 1) ∧ okop dsX10_bears__13 5 = true) ∧ (decode dsX10_bears__13 6 = .ok (.iload_n 3, 1) ∧ okop dsX10_bears__13 6 = true) ∧ (decode dsX10_bears__13 7 = .ok (.i2l, 1) ∧ okop dsX10_bears__13 7 = true) ∧ (decode dsX10_bears__13 8 = .ok (.invokevirtual 141, 3) ∧ okop dsX10_bears__13 8 = true) ∧ (decode dsX10_bears__13 11 = .ok (.ifCond .eq 8, 3) ∧ okop dsX10_bears__13 11 = true) := by decide +kernel
theorem dX10_bears__13 : decode cX10_bears_ 13 = .ok (.iload_n 2, 1) := dgq (p := 0) daX10_bears__13 dbX10_bears__13.1
theorem dX10_bears__14 : decode cX10_bears_ 14 = .ok (.iadd, 1) := dgq (p := 1) daX10_bears__13 dbX10_bears__13.2.1
theorem dX10_bears__15 : decode cX10_bears_ 15 = .ok (.iconst 2, 1) := dgq (p := 2) daX10_bears__13 dbX10_bears__13.2.2.1
theorem dX10_bears__16 : decode cX10_bears_ 16 = .ok (.idiv, 1) := dgq (p := 3) daX10_bears__13 dbX10_bears__13.2.2.2.1
theorem dX10_bears__17 : decode cX10_bears_ 17 = .ok (.istore_n 3, 1) := dgq (p := 4) daX10_bears__13 dbX10_bears__13.2.2.2.2.1
theorem dX10_bears__18 : decode cX10_bears_ 18 = .ok (.aload_n 0, 1) := dgq (p := 5) daX10_bears__13 dbX10_bears__13.2.2.2.2.2.1
theorem dX10_bears__19 : decode cX10_bears_ 19 = .ok (.iload_n 3, 1) := dgq (p := 6) daX10_bears__13 dbX10_bears__13.2.2.2.2.2.2.1
theorem dX10_bears__20 : decode cX10_bears_ 20 = .ok (.i2l, 1) := dgq (p := 7) daX10_bears__13 dbX10_bears__13.2.2.2.2.2.2.2.1
theorem dX10_bears__21 : decode cX10_bears_ 21 = .ok (.invokevirtual 141, 3) := dgq (p := 8) daX10_bears__13 dbX10_bears__13.2.2.2.2.2.2.2.2.1
theorem dX10_bears__24 : decode cX10_bears_ 24 = .ok (.ifCond .eq 8, 3) := dgq (p := 11) daX10_bears__13 dbX10_bears__13.2.2.2.2.2.2.2.2.2
def dsX10_bears__27 : ByteArray := ⟨#[29, 60, 167, 0, 5, 29, 61, 167, 255, 227, 27, 172]⟩
theorem daX10_bears__27 : agB cX10_bears_ dsX10_bears__27 27 := agB_of (n := 12) (by decide +kernel)
theorem dbX10_bears__27 : (decode dsX10_bears__27 0 = .ok (.iload_n 3, 1) ∧ okop dsX10_bears__27 0 = true) ∧ (decode dsX10_bears__27 1 = .ok (.istore_n 1, 1) ∧ okop dsX10_bears__27 1 = true) ∧ (decode dsX10_bears__27 2 = .ok (.goto 5, 3) ∧ okop dsX10_bears__27 2 = true) ∧ (decode dsX10_bears__27 5 = .ok (.iload_n 3, 1) ∧ okop dsX10_bears__27 5 = true) ∧ (decode dsX10_bears__27 6 = .ok (.istore_n 2, 1) ∧ okop dsX10_bears__27 6 = true) ∧ (decode dsX10_bears__27 7 = .ok (.goto (-29), 3) ∧ okop dsX10_bears__27 7 = true) ∧ (decode dsX10_bears__27 10 = .ok (.iload_n 1, 1) ∧ okop dsX10_bears__27 10 = true) ∧ (decode dsX10_bears__27 11 = .ok (.ireturn, 1) ∧ okop dsX10_bears__27 11 = true) := by decide +kernel
theorem dX10_bears__27 : decode cX10_bears_ 27 = .ok (.iload_n 3, 1) := dgq (p := 0) daX10_bears__27 dbX10_bears__27.1
theorem dX10_bears__28 : decode cX10_bears_ 28 = .ok (.istore_n 1, 1) := dgq (p := 1) daX10_bears__27 dbX10_bears__27.2.1
theorem dX10_bears__29 : decode cX10_bears_ 29 = .ok (.goto 5, 3) := dgq (p := 2) daX10_bears__27 dbX10_bears__27.2.2.1
theorem dX10_bears__32 : decode cX10_bears_ 32 = .ok (.iload_n 3, 1) := dgq (p := 5) daX10_bears__27 dbX10_bears__27.2.2.2.1
theorem dX10_bears__33 : decode cX10_bears_ 33 = .ok (.istore_n 2, 1) := dgq (p := 6) daX10_bears__27 dbX10_bears__27.2.2.2.2.1
theorem dX10_bears__34 : decode cX10_bears_ 34 = .ok (.goto (-29), 3) := dgq (p := 7) daX10_bears__27 dbX10_bears__27.2.2.2.2.2.1
theorem dX10_bears__37 : decode cX10_bears_ 37 = .ok (.iload_n 1, 1) := dgq (p := 10) daX10_bears__27 dbX10_bears__27.2.2.2.2.2.2.1
theorem dX10_bears__38 : decode cX10_bears_ 38 = .ok (.ireturn, 1) := dgq (p := 11) daX10_bears__27 dbX10_bears__27.2.2.2.2.2.2.2
set_option maxRecDepth 20000 in
theorem ggX10_life_X10_bears_ : GoodIn wsX10_life wsX10_bears_ := goodIn_ca (goodIn_ca (goodIn_q _ [7, 8, 9, 10, 11, 6, 12, 13, 14, 2, 15, 16, 17, 18, 19, 20, 21, 22, 23, 24, 25, 26, 27, 28, 29, 30, 31, 32, 33, 34, 35, 36, 37, 38] rfl (by decide +kernel)) (goodIn_sub (fun _ h => (List.mem_cons_of_mem _ (List.mem_append_left _ (List.mem_append_right _ h)))) tg_wsX100)) (goodIn_sub (fun _ h => List.mem_cons_of_mem _ (List.mem_append_right _ h)) (by decide +kernel))
set_option maxRecDepth 20000 in
theorem gX10_life_X10_bears_ : GoodIn wsX10_life (wsV RX10 145 RX10 yX10_bears_ wsX10_bears_) := goodIn_app (goodIn_q _ [3, 4, 5, 6] rfl (by decide +kernel)) ggX10_life_X10_bears_
def dsX10_life_0 : ByteArray := ⟨#[42, 182, 0, 145, 133, 66, 31, 33, 148, 157, 0, 7, 20, 0, 147, 173]⟩
theorem daX10_life_0 : agB cX10_life dsX10_life_0 0 := agB_of (n := 16) (by decide +kernel)
theorem dbX10_life_0 : (decode dsX10_life_0 0 = .ok (.aload_n 0, 1) ∧ okop dsX10_life_0 0 = true) ∧ (decode dsX10_life_0 1 = .ok (.invokevirtual 145, 3) ∧ okop dsX10_life_0 1 = true) ∧ (decode dsX10_life_0 4 = .ok (.i2l, 1) ∧ okop dsX10_life_0 4 = true) ∧ (decode dsX10_life_0 5 = .ok (.lstore_n 3, 1) ∧ okop dsX10_life_0 5 = true) ∧ (decode dsX10_life_0 6 = .ok (.lload_n 1, 1) ∧ okop dsX10_life_0 6 = true) ∧ (decode dsX10_life_0 7 = .ok (.lload_n 3, 1) ∧ okop dsX10_life_0 7 = true) ∧ (decode dsX10_life_0 8 = .ok (.lcmp, 1) ∧ okop dsX10_life_0 8 = true) ∧ (decode dsX10_life_0 9 = .ok (.ifCond .gt 7, 3) ∧ okop dsX10_life_0 9 = true) ∧ (decode dsX10_life_0 12 = .ok (.ldc2_w 147, 3) ∧ okop dsX10_life_0 12 = true) ∧ (decode dsX10_life_0 15 = .ok (.lreturn, 1) ∧ okop dsX10_life_0 15 = true) := by decide +kernel
theorem dX10_life_0 : decode cX10_life 0 = .ok (.aload_n 0, 1) := dgq (p := 0) daX10_life_0 dbX10_life_0.1
theorem dX10_life_1 : decode cX10_life 1 = .ok (.invokevirtual 145, 3) := dgq (p := 1) daX10_life_0 dbX10_life_0.2.1
theorem dX10_life_4 : decode cX10_life 4 = .ok (.i2l, 1) := dgq (p := 4) daX10_life_0 dbX10_life_0.2.2.1
theorem dX10_life_5 : decode cX10_life 5 = .ok (.lstore_n 3, 1) := dgq (p := 5) daX10_life_0 dbX10_life_0.2.2.2.1
theorem dX10_life_6 : decode cX10_life 6 = .ok (.lload_n 1, 1) := dgq (p := 6) daX10_life_0 dbX10_life_0.2.2.2.2.1
theorem dX10_life_7 : decode cX10_life 7 = .ok (.lload_n 3, 1) := dgq (p := 7) daX10_life_0 dbX10_life_0.2.2.2.2.2.1
theorem dX10_life_8 : decode cX10_life 8 = .ok (.lcmp, 1) := dgq (p := 8) daX10_life_0 dbX10_life_0.2.2.2.2.2.2.1
theorem dX10_life_9 : decode cX10_life 9 = .ok (.ifCond .gt 7, 3) := dgq (p := 9) daX10_life_0 dbX10_life_0.2.2.2.2.2.2.2.1
theorem dX10_life_12 : decode cX10_life 12 = .ok (.ldc2_w 147, 3) := dgq (p := 12) daX10_life_0 dbX10_life_0.2.2.2.2.2.2.2.2.1
theorem dX10_life_15 : decode cX10_life 15 = .ok (.lreturn, 1) := dgq (p := 15) daX10_life_0 dbX10_life_0.2.2.2.2.2.2.2.2.2
def dsX10_life_16 : ByteArray := ⟨#[20, 0, 93, 55, 5, 3, 54, 7, 21, 7, 16, 6, 162, 0, 17, 22, 5, 33, 105]⟩
theorem daX10_life_16 : agB cX10_life dsX10_life_16 16 := agB_of (n := 19) (by decide +kernel)
theorem dbX10_life_16 : (decode dsX10_life_16 0 = .ok (.ldc2_w 93, 3) ∧ okop dsX10_life_16 0 = true) ∧ (decode dsX10_life_16 3 = .ok (.lstore 5, 2) ∧ okop dsX10_life_16 3 = true) ∧ (decode dsX10_life_16 5 = .ok (.iconst 0, 1) ∧ okop dsX10_life_16 5 = true) ∧ (decode dsX10_life_16 6 = .ok (.istore 7, 2) ∧ okop dsX10_life_16 6 = true) ∧ (decode dsX10_life_16 8 = .ok (.iload 7, 2) ∧ okop dsX10_life_16 8 = true) ∧ (decode dsX10_life_16 10 = .ok (.bipush 6, 2) ∧ okop dsX10_life_16 10 = true) ∧ (decode dsX10_life_16 12 = .ok (.if_icmp .ge 17, 3) ∧ okop dsX10_life_16 12 = true) ∧ (decode dsX10_life_16 15 = .ok (.lload 5, 2) ∧ okop dsX10_life_16 15 = true) ∧ (decode dsX10_life_16 17 = .ok (.lload_n 3, 1) ∧ okop dsX10_life_16 17 = true) ∧ (decode dsX10_life_16 18 = .ok (.lmul, 1) ∧ okop dsX10_life_16 18 = true) := by decide +kernel
theorem dX10_life_16 : decode cX10_life 16 = .ok (.ldc2_w 93, 3) := dgq (p := 0) daX10_life_16 dbX10_life_16.1
theorem dX10_life_19 : decode cX10_life 19 = .ok (.lstore 5, 2) := dgq (p := 3) daX10_life_16 dbX10_life_16.2.1
theorem dX10_life_21 : decode cX10_life 21 = .ok (.iconst 0, 1) := dgq (p := 5) daX10_life_16 dbX10_life_16.2.2.1
theorem dX10_life_22 : decode cX10_life 22 = .ok (.istore 7, 2) := dgq (p := 6) daX10_life_16 dbX10_life_16.2.2.2.1
theorem dX10_life_24 : decode cX10_life 24 = .ok (.iload 7, 2) := dgq (p := 8) daX10_life_16 dbX10_life_16.2.2.2.2.1
theorem dX10_life_26 : decode cX10_life 26 = .ok (.bipush 6, 2) := dgq (p := 10) daX10_life_16 dbX10_life_16.2.2.2.2.2.1
theorem dX10_life_28 : decode cX10_life 28 = .ok (.if_icmp .ge 17, 3) := dgq (p := 12) daX10_life_16 dbX10_life_16.2.2.2.2.2.2.1
theorem dX10_life_31 : decode cX10_life 31 = .ok (.lload 5, 2) := dgq (p := 15) daX10_life_16 dbX10_life_16.2.2.2.2.2.2.2.1
theorem dX10_life_33 : decode cX10_life 33 = .ok (.lload_n 3, 1) := dgq (p := 17) daX10_life_16 dbX10_life_16.2.2.2.2.2.2.2.2.1
theorem dX10_life_34 : decode cX10_life 34 = .ok (.lmul, 1) := dgq (p := 18) daX10_life_16 dbX10_life_16.2.2.2.2.2.2.2.2.2
def dsX10_life_35 : ByteArray := ⟨#[31, 109, 55, 5, 132, 7, 1, 167, 255, 238, 22, 5, 173]⟩
theorem daX10_life_35 : agB cX10_life dsX10_life_35 35 := agB_of (n := 13) (by decide +kernel)
theorem dbX10_life_35 : (decode dsX10_life_35 0 = .ok (.lload_n 1, 1) ∧ okop dsX10_life_35 0 = true) ∧ (decode dsX10_life_35 1 = .ok (.ldiv, 1) ∧ okop dsX10_life_35 1 = true) ∧ (decode dsX10_life_35 2 = .ok (.lstore 5, 2) ∧ okop dsX10_life_35 2 = true) ∧ (decode dsX10_life_35 4 = .ok (.iinc 7 1, 3) ∧ okop dsX10_life_35 4 = true) ∧ (decode dsX10_life_35 7 = .ok (.goto (-18), 3) ∧ okop dsX10_life_35 7 = true) ∧ (decode dsX10_life_35 10 = .ok (.lload 5, 2) ∧ okop dsX10_life_35 10 = true) ∧ (decode dsX10_life_35 12 = .ok (.lreturn, 1) ∧ okop dsX10_life_35 12 = true) := by decide +kernel
theorem dX10_life_35 : decode cX10_life 35 = .ok (.lload_n 1, 1) := dgq (p := 0) daX10_life_35 dbX10_life_35.1
theorem dX10_life_36 : decode cX10_life 36 = .ok (.ldiv, 1) := dgq (p := 1) daX10_life_35 dbX10_life_35.2.1
theorem dX10_life_37 : decode cX10_life 37 = .ok (.lstore 5, 2) := dgq (p := 2) daX10_life_35 dbX10_life_35.2.2.1
theorem dX10_life_39 : decode cX10_life 39 = .ok (.iinc 7 1, 3) := dgq (p := 4) daX10_life_35 dbX10_life_35.2.2.2.1
theorem dX10_life_42 : decode cX10_life 42 = .ok (.goto (-18), 3) := dgq (p := 7) daX10_life_35 dbX10_life_35.2.2.2.2.1
theorem dX10_life_45 : decode cX10_life 45 = .ok (.lload 5, 2) := dgq (p := 10) daX10_life_35 dbX10_life_35.2.2.2.2.2.1
theorem dX10_life_47 : decode cX10_life 47 = .ok (.lreturn, 1) := dgq (p := 12) daX10_life_35 dbX10_life_35.2.2.2.2.2.2
set_option maxRecDepth 20000 in
theorem ggX10_runs_X10_life : GoodIn wsX10_runs wsX10_life := goodIn_ca (goodIn_ca (goodIn_q _ [7, 8, 2, 9, 10, 11, 6, 12, 13, 14, 15, 16, 17, 18, 19, 20, 21, 22, 23, 24, 25, 26, 27, 28, 29, 30, 31, 32, 33, 34, 35, 36, 37, 38, 39, 40, 41, 42, 43] rfl (by decide +kernel)) (goodIn_sub (fun _ h => (List.mem_cons_of_mem _ (List.mem_append_left _ (List.mem_append_right _ h)))) tg_wsX100)) (goodIn_sub (fun _ h => List.mem_cons_of_mem _ (List.mem_append_right _ h)) (by decide +kernel))
set_option maxRecDepth 20000 in
theorem gX10_runs_X10_life : GoodIn wsX10_runs (wsV RX10 149 RX10 yX10_life wsX10_life) := goodIn_app (goodIn_q _ [3, 4, 5, 6] rfl (by decide +kernel)) ggX10_runs_X10_life
def dsX10_runs_0 : ByteArray := ⟨#[42, 31, 182, 0, 149, 55, 5, 42, 89, 180, 0, 89, 22, 5, 9, 148]⟩
theorem daX10_runs_0 : agB cX10_runs dsX10_runs_0 0 := agB_of (n := 16) (by decide +kernel)
theorem dbX10_runs_0 : (decode dsX10_runs_0 0 = .ok (.aload_n 0, 1) ∧ okop dsX10_runs_0 0 = true) ∧ (decode dsX10_runs_0 1 = .ok (.lload_n 1, 1) ∧ okop dsX10_runs_0 1 = true) ∧ (decode dsX10_runs_0 2 = .ok (.invokevirtual 149, 3) ∧ okop dsX10_runs_0 2 = true) ∧ (decode dsX10_runs_0 5 = .ok (.lstore 5, 2) ∧ okop dsX10_runs_0 5 = true) ∧ (decode dsX10_runs_0 7 = .ok (.aload_n 0, 1) ∧ okop dsX10_runs_0 7 = true) ∧ (decode dsX10_runs_0 8 = .ok (.dup, 1) ∧ okop dsX10_runs_0 8 = true) ∧ (decode dsX10_runs_0 9 = .ok (.getfield 89, 3) ∧ okop dsX10_runs_0 9 = true) ∧ (decode dsX10_runs_0 12 = .ok (.lload 5, 2) ∧ okop dsX10_runs_0 12 = true) ∧ (decode dsX10_runs_0 14 = .ok (.lconst 0, 1) ∧ okop dsX10_runs_0 14 = true) ∧ (decode dsX10_runs_0 15 = .ok (.lcmp, 1) ∧ okop dsX10_runs_0 15 = true) := by decide +kernel
theorem dX10_runs_0 : decode cX10_runs 0 = .ok (.aload_n 0, 1) := dgq (p := 0) daX10_runs_0 dbX10_runs_0.1
theorem dX10_runs_1 : decode cX10_runs 1 = .ok (.lload_n 1, 1) := dgq (p := 1) daX10_runs_0 dbX10_runs_0.2.1
theorem dX10_runs_2 : decode cX10_runs 2 = .ok (.invokevirtual 149, 3) := dgq (p := 2) daX10_runs_0 dbX10_runs_0.2.2.1
theorem dX10_runs_5 : decode cX10_runs 5 = .ok (.lstore 5, 2) := dgq (p := 5) daX10_runs_0 dbX10_runs_0.2.2.2.1
theorem dX10_runs_7 : decode cX10_runs 7 = .ok (.aload_n 0, 1) := dgq (p := 7) daX10_runs_0 dbX10_runs_0.2.2.2.2.1
theorem dX10_runs_8 : decode cX10_runs 8 = .ok (.dup, 1) := dgq (p := 8) daX10_runs_0 dbX10_runs_0.2.2.2.2.2.1
theorem dX10_runs_9 : decode cX10_runs 9 = .ok (.getfield 89, 3) := dgq (p := 9) daX10_runs_0 dbX10_runs_0.2.2.2.2.2.2.1
theorem dX10_runs_12 : decode cX10_runs 12 = .ok (.lload 5, 2) := dgq (p := 12) daX10_runs_0 dbX10_runs_0.2.2.2.2.2.2.2.1
theorem dX10_runs_14 : decode cX10_runs 14 = .ok (.lconst 0, 1) := dgq (p := 14) daX10_runs_0 dbX10_runs_0.2.2.2.2.2.2.2.2.1
theorem dX10_runs_15 : decode cX10_runs 15 = .ok (.lcmp, 1) := dgq (p := 15) daX10_runs_0 dbX10_runs_0.2.2.2.2.2.2.2.2.2
def dsX10_runs_16 : ByteArray := ⟨#[156, 0, 7, 9, 167, 0, 24, 22, 5, 9, 148, 154, 0, 9, 20, 0, 93, 167, 0, 11, 20, 0, 93]⟩
theorem daX10_runs_16 : agB cX10_runs dsX10_runs_16 16 := agB_of (n := 23) (by decide +kernel)
theorem dbX10_runs_16 : (decode dsX10_runs_16 0 = .ok (.ifCond .ge 7, 3) ∧ okop dsX10_runs_16 0 = true) ∧ (decode dsX10_runs_16 3 = .ok (.lconst 0, 1) ∧ okop dsX10_runs_16 3 = true) ∧ (decode dsX10_runs_16 4 = .ok (.goto 24, 3) ∧ okop dsX10_runs_16 4 = true) ∧ (decode dsX10_runs_16 7 = .ok (.lload 5, 2) ∧ okop dsX10_runs_16 7 = true) ∧ (decode dsX10_runs_16 9 = .ok (.lconst 0, 1) ∧ okop dsX10_runs_16 9 = true) ∧ (decode dsX10_runs_16 10 = .ok (.lcmp, 1) ∧ okop dsX10_runs_16 10 = true) ∧ (decode dsX10_runs_16 11 = .ok (.ifCond .ne 9, 3) ∧ okop dsX10_runs_16 11 = true) ∧ (decode dsX10_runs_16 14 = .ok (.ldc2_w 93, 3) ∧ okop dsX10_runs_16 14 = true) ∧ (decode dsX10_runs_16 17 = .ok (.goto 11, 3) ∧ okop dsX10_runs_16 17 = true) ∧ (decode dsX10_runs_16 20 = .ok (.ldc2_w 93, 3) ∧ okop dsX10_runs_16 20 = true) := by decide +kernel
theorem dX10_runs_16 : decode cX10_runs 16 = .ok (.ifCond .ge 7, 3) := dgq (p := 0) daX10_runs_16 dbX10_runs_16.1
theorem dX10_runs_19 : decode cX10_runs 19 = .ok (.lconst 0, 1) := dgq (p := 3) daX10_runs_16 dbX10_runs_16.2.1
theorem dX10_runs_20 : decode cX10_runs 20 = .ok (.goto 24, 3) := dgq (p := 4) daX10_runs_16 dbX10_runs_16.2.2.1
theorem dX10_runs_23 : decode cX10_runs 23 = .ok (.lload 5, 2) := dgq (p := 7) daX10_runs_16 dbX10_runs_16.2.2.2.1
theorem dX10_runs_25 : decode cX10_runs 25 = .ok (.lconst 0, 1) := dgq (p := 9) daX10_runs_16 dbX10_runs_16.2.2.2.2.1
theorem dX10_runs_26 : decode cX10_runs 26 = .ok (.lcmp, 1) := dgq (p := 10) daX10_runs_16 dbX10_runs_16.2.2.2.2.2.1
theorem dX10_runs_27 : decode cX10_runs 27 = .ok (.ifCond .ne 9, 3) := dgq (p := 11) daX10_runs_16 dbX10_runs_16.2.2.2.2.2.2.1
theorem dX10_runs_30 : decode cX10_runs 30 = .ok (.ldc2_w 93, 3) := dgq (p := 14) daX10_runs_16 dbX10_runs_16.2.2.2.2.2.2.2.1
theorem dX10_runs_33 : decode cX10_runs 33 = .ok (.goto 11, 3) := dgq (p := 17) daX10_runs_16 dbX10_runs_16.2.2.2.2.2.2.2.2.1
theorem dX10_runs_36 : decode cX10_runs 36 = .ok (.ldc2_w 93, 3) := dgq (p := 20) daX10_runs_16 dbX10_runs_16.2.2.2.2.2.2.2.2.2
def dsX10_runs_39 : ByteArray := ⟨#[33, 105, 22, 5, 109, 97, 181, 0, 89, 177]⟩
theorem daX10_runs_39 : agB cX10_runs dsX10_runs_39 39 := agB_of (n := 10) (by decide +kernel)
theorem dbX10_runs_39 : (decode dsX10_runs_39 0 = .ok (.lload_n 3, 1) ∧ okop dsX10_runs_39 0 = true) ∧ (decode dsX10_runs_39 1 = .ok (.lmul, 1) ∧ okop dsX10_runs_39 1 = true) ∧ (decode dsX10_runs_39 2 = .ok (.lload 5, 2) ∧ okop dsX10_runs_39 2 = true) ∧ (decode dsX10_runs_39 4 = .ok (.ldiv, 1) ∧ okop dsX10_runs_39 4 = true) ∧ (decode dsX10_runs_39 5 = .ok (.ladd, 1) ∧ okop dsX10_runs_39 5 = true) ∧ (decode dsX10_runs_39 6 = .ok (.putfield 89, 3) ∧ okop dsX10_runs_39 6 = true) ∧ (decode dsX10_runs_39 9 = .ok (.return_, 1) ∧ okop dsX10_runs_39 9 = true) := by decide +kernel
theorem dX10_runs_39 : decode cX10_runs 39 = .ok (.lload_n 3, 1) := dgq (p := 0) daX10_runs_39 dbX10_runs_39.1
theorem dX10_runs_40 : decode cX10_runs 40 = .ok (.lmul, 1) := dgq (p := 1) daX10_runs_39 dbX10_runs_39.2.1
theorem dX10_runs_41 : decode cX10_runs 41 = .ok (.lload 5, 2) := dgq (p := 2) daX10_runs_39 dbX10_runs_39.2.2.1
theorem dX10_runs_43 : decode cX10_runs 43 = .ok (.ldiv, 1) := dgq (p := 4) daX10_runs_39 dbX10_runs_39.2.2.2.1
theorem dX10_runs_44 : decode cX10_runs 44 = .ok (.ladd, 1) := dgq (p := 5) daX10_runs_39 dbX10_runs_39.2.2.2.2.1
theorem dX10_runs_45 : decode cX10_runs 45 = .ok (.putfield 89, 3) := dgq (p := 6) daX10_runs_39 dbX10_runs_39.2.2.2.2.2.1
theorem dX10_runs_48 : decode cX10_runs 48 = .ok (.return_, 1) := dgq (p := 9) daX10_runs_39 dbX10_runs_39.2.2.2.2.2.2
theorem dX11_init_7 : decode cX11_init 7 = .ok (.newarray .int, 2) := by decide +kernel
def dsX11_init_0 : ByteArray := ⟨#[42, 183, 0, 3, 42, 16, 20, 188, 10, 181, 0, 9, 42, 27, 181, 0, 15, 42, 28]⟩
theorem daX11_init_0 : agB cX11_init dsX11_init_0 0 := agB_of (n := 19) (by decide +kernel)
theorem dbX11_init_0 : (decode dsX11_init_0 0 = .ok (.aload_n 0, 1) ∧ okop dsX11_init_0 0 = true) ∧ (decode dsX11_init_0 1 = .ok (.invokespecial 3, 3) ∧ okop dsX11_init_0 1 = true) ∧ (decode dsX11_init_0 4 = .ok (.aload_n 0, 1) ∧ okop dsX11_init_0 4 = true) ∧ (decode dsX11_init_0 5 = .ok (.bipush 20, 2) ∧ okop dsX11_init_0 5 = true) ∧ (decode dsX11_init_0 9 = .ok (.putfield 9, 3) ∧ okop dsX11_init_0 9 = true) ∧ (decode dsX11_init_0 12 = .ok (.aload_n 0, 1) ∧ okop dsX11_init_0 12 = true) ∧ (decode dsX11_init_0 13 = .ok (.iload_n 1, 1) ∧ okop dsX11_init_0 13 = true) ∧ (decode dsX11_init_0 14 = .ok (.putfield 15, 3) ∧ okop dsX11_init_0 14 = true) ∧ (decode dsX11_init_0 17 = .ok (.aload_n 0, 1) ∧ okop dsX11_init_0 17 = true) ∧ (decode dsX11_init_0 18 = .ok (.iload_n 2, 1) ∧ okop dsX11_init_0 18 = true) := by decide +kernel
theorem dX11_init_0 : decode cX11_init 0 = .ok (.aload_n 0, 1) := dgq (p := 0) daX11_init_0 dbX11_init_0.1
theorem dX11_init_1 : decode cX11_init 1 = .ok (.invokespecial 3, 3) := dgq (p := 1) daX11_init_0 dbX11_init_0.2.1
theorem dX11_init_4 : decode cX11_init 4 = .ok (.aload_n 0, 1) := dgq (p := 4) daX11_init_0 dbX11_init_0.2.2.1
theorem dX11_init_5 : decode cX11_init 5 = .ok (.bipush 20, 2) := dgq (p := 5) daX11_init_0 dbX11_init_0.2.2.2.1
theorem dX11_init_9 : decode cX11_init 9 = .ok (.putfield 9, 3) := dgq (p := 9) daX11_init_0 dbX11_init_0.2.2.2.2.1
theorem dX11_init_12 : decode cX11_init 12 = .ok (.aload_n 0, 1) := dgq (p := 12) daX11_init_0 dbX11_init_0.2.2.2.2.2.1
theorem dX11_init_13 : decode cX11_init 13 = .ok (.iload_n 1, 1) := dgq (p := 13) daX11_init_0 dbX11_init_0.2.2.2.2.2.2.1
theorem dX11_init_14 : decode cX11_init 14 = .ok (.putfield 15, 3) := dgq (p := 14) daX11_init_0 dbX11_init_0.2.2.2.2.2.2.2.1
theorem dX11_init_17 : decode cX11_init 17 = .ok (.aload_n 0, 1) := dgq (p := 17) daX11_init_0 dbX11_init_0.2.2.2.2.2.2.2.2.1
theorem dX11_init_18 : decode cX11_init 18 = .ok (.iload_n 2, 1) := dgq (p := 18) daX11_init_0 dbX11_init_0.2.2.2.2.2.2.2.2.2
def dsX11_init_19 : ByteArray := ⟨#[181, 0, 19, 42, 29, 181, 0, 22, 42, 21, 4, 181, 0, 25, 177]⟩
theorem daX11_init_19 : agB cX11_init dsX11_init_19 19 := agB_of (n := 15) (by decide +kernel)
theorem dbX11_init_19 : (decode dsX11_init_19 0 = .ok (.putfield 19, 3) ∧ okop dsX11_init_19 0 = true) ∧ (decode dsX11_init_19 3 = .ok (.aload_n 0, 1) ∧ okop dsX11_init_19 3 = true) ∧ (decode dsX11_init_19 4 = .ok (.iload_n 3, 1) ∧ okop dsX11_init_19 4 = true) ∧ (decode dsX11_init_19 5 = .ok (.putfield 22, 3) ∧ okop dsX11_init_19 5 = true) ∧ (decode dsX11_init_19 8 = .ok (.aload_n 0, 1) ∧ okop dsX11_init_19 8 = true) ∧ (decode dsX11_init_19 9 = .ok (.iload 4, 2) ∧ okop dsX11_init_19 9 = true) ∧ (decode dsX11_init_19 11 = .ok (.putfield 25, 3) ∧ okop dsX11_init_19 11 = true) ∧ (decode dsX11_init_19 14 = .ok (.return_, 1) ∧ okop dsX11_init_19 14 = true) := by decide +kernel
theorem dX11_init_19 : decode cX11_init 19 = .ok (.putfield 19, 3) := dgq (p := 0) daX11_init_19 dbX11_init_19.1
theorem dX11_init_22 : decode cX11_init 22 = .ok (.aload_n 0, 1) := dgq (p := 3) daX11_init_19 dbX11_init_19.2.1
theorem dX11_init_23 : decode cX11_init 23 = .ok (.iload_n 3, 1) := dgq (p := 4) daX11_init_19 dbX11_init_19.2.2.1
theorem dX11_init_24 : decode cX11_init 24 = .ok (.putfield 22, 3) := dgq (p := 5) daX11_init_19 dbX11_init_19.2.2.2.1
theorem dX11_init_27 : decode cX11_init 27 = .ok (.aload_n 0, 1) := dgq (p := 8) daX11_init_19 dbX11_init_19.2.2.2.2.1
theorem dX11_init_28 : decode cX11_init 28 = .ok (.iload 4, 2) := dgq (p := 9) daX11_init_19 dbX11_init_19.2.2.2.2.2.1
theorem dX11_init_30 : decode cX11_init 30 = .ok (.putfield 25, 3) := dgq (p := 11) daX11_init_19 dbX11_init_19.2.2.2.2.2.2.1
theorem dX11_init_33 : decode cX11_init 33 = .ok (.return_, 1) := dgq (p := 14) daX11_init_19 dbX11_init_19.2.2.2.2.2.2.2
set_option maxRecDepth 20000 in
theorem ggX11_approach_X12_root : GoodIn wsX11_approach wsX12_root := goodIn_q _ [7, 8, 9] rfl (by decide +kernel)
set_option maxRecDepth 20000 in
theorem gX11_approach_X12_root_n32 : GoodIn wsX11_approach (wsX12_root) := ggX11_approach_X12_root
def dsX11_approach_0 : ByteArray := ⟨#[20, 0, 28, 42, 180, 0, 15, 133, 105, 20, 0, 30, 109, 64, 31, 42]⟩
theorem daX11_approach_0 : agB cX11_approach dsX11_approach_0 0 := agB_of (n := 16) (by decide +kernel)
theorem dbX11_approach_0 : (decode dsX11_approach_0 0 = .ok (.ldc2_w 28, 3) ∧ okop dsX11_approach_0 0 = true) ∧ (decode dsX11_approach_0 3 = .ok (.aload_n 0, 1) ∧ okop dsX11_approach_0 3 = true) ∧ (decode dsX11_approach_0 4 = .ok (.getfield 15, 3) ∧ okop dsX11_approach_0 4 = true) ∧ (decode dsX11_approach_0 7 = .ok (.i2l, 1) ∧ okop dsX11_approach_0 7 = true) ∧ (decode dsX11_approach_0 8 = .ok (.lmul, 1) ∧ okop dsX11_approach_0 8 = true) ∧ (decode dsX11_approach_0 9 = .ok (.ldc2_w 30, 3) ∧ okop dsX11_approach_0 9 = true) ∧ (decode dsX11_approach_0 12 = .ok (.ldiv, 1) ∧ okop dsX11_approach_0 12 = true) ∧ (decode dsX11_approach_0 13 = .ok (.lstore_n 1, 1) ∧ okop dsX11_approach_0 13 = true) ∧ (decode dsX11_approach_0 14 = .ok (.lload_n 1, 1) ∧ okop dsX11_approach_0 14 = true) ∧ (decode dsX11_approach_0 15 = .ok (.aload_n 0, 1) ∧ okop dsX11_approach_0 15 = true) := by decide +kernel
theorem dX11_approach_0 : decode cX11_approach 0 = .ok (.ldc2_w 28, 3) := dgq (p := 0) daX11_approach_0 dbX11_approach_0.1
theorem dX11_approach_3 : decode cX11_approach 3 = .ok (.aload_n 0, 1) := dgq (p := 3) daX11_approach_0 dbX11_approach_0.2.1
theorem dX11_approach_4 : decode cX11_approach 4 = .ok (.getfield 15, 3) := dgq (p := 4) daX11_approach_0 dbX11_approach_0.2.2.1
theorem dX11_approach_7 : decode cX11_approach 7 = .ok (.i2l, 1) := dgq (p := 7) daX11_approach_0 dbX11_approach_0.2.2.2.1
theorem dX11_approach_8 : decode cX11_approach 8 = .ok (.lmul, 1) := dgq (p := 8) daX11_approach_0 dbX11_approach_0.2.2.2.2.1
theorem dX11_approach_9 : decode cX11_approach 9 = .ok (.ldc2_w 30, 3) := dgq (p := 9) daX11_approach_0 dbX11_approach_0.2.2.2.2.2.1
theorem dX11_approach_12 : decode cX11_approach 12 = .ok (.ldiv, 1) := dgq (p := 12) daX11_approach_0 dbX11_approach_0.2.2.2.2.2.2.1
theorem dX11_approach_13 : decode cX11_approach 13 = .ok (.lstore_n 1, 1) := dgq (p := 13) daX11_approach_0 dbX11_approach_0.2.2.2.2.2.2.2.1
theorem dX11_approach_14 : decode cX11_approach 14 = .ok (.lload_n 1, 1) := dgq (p := 14) daX11_approach_0 dbX11_approach_0.2.2.2.2.2.2.2.2.1
theorem dX11_approach_15 : decode cX11_approach 15 = .ok (.aload_n 0, 1) := dgq (p := 15) daX11_approach_0 dbX11_approach_0.2.2.2.2.2.2.2.2.2
def dsX11_approach_16 : ByteArray := ⟨#[180, 0, 22, 133, 31, 101, 105, 184, 0, 32, 136, 172]⟩
theorem daX11_approach_16 : agB cX11_approach dsX11_approach_16 16 := agB_of (n := 12) (by decide +kernel)
theorem dbX11_approach_16 : (decode dsX11_approach_16 0 = .ok (.getfield 22, 3) ∧ okop dsX11_approach_16 0 = true) ∧ (decode dsX11_approach_16 3 = .ok (.i2l, 1) ∧ okop dsX11_approach_16 3 = true) ∧ (decode dsX11_approach_16 4 = .ok (.lload_n 1, 1) ∧ okop dsX11_approach_16 4 = true) ∧ (decode dsX11_approach_16 5 = .ok (.lsub, 1) ∧ okop dsX11_approach_16 5 = true) ∧ (decode dsX11_approach_16 6 = .ok (.lmul, 1) ∧ okop dsX11_approach_16 6 = true) ∧ (decode dsX11_approach_16 7 = .ok (.invokestatic 32, 3) ∧ okop dsX11_approach_16 7 = true) ∧ (decode dsX11_approach_16 10 = .ok (.l2i, 1) ∧ okop dsX11_approach_16 10 = true) ∧ (decode dsX11_approach_16 11 = .ok (.ireturn, 1) ∧ okop dsX11_approach_16 11 = true) := by decide +kernel
theorem dX11_approach_16 : decode cX11_approach 16 = .ok (.getfield 22, 3) := dgq (p := 0) daX11_approach_16 dbX11_approach_16.1
theorem dX11_approach_19 : decode cX11_approach 19 = .ok (.i2l, 1) := dgq (p := 3) daX11_approach_16 dbX11_approach_16.2.1
theorem dX11_approach_20 : decode cX11_approach 20 = .ok (.lload_n 1, 1) := dgq (p := 4) daX11_approach_16 dbX11_approach_16.2.2.1
theorem dX11_approach_21 : decode cX11_approach 21 = .ok (.lsub, 1) := dgq (p := 5) daX11_approach_16 dbX11_approach_16.2.2.2.1
theorem dX11_approach_22 : decode cX11_approach 22 = .ok (.lmul, 1) := dgq (p := 6) daX11_approach_16 dbX11_approach_16.2.2.2.2.1
theorem dX11_approach_23 : decode cX11_approach 23 = .ok (.invokestatic 32, 3) := dgq (p := 7) daX11_approach_16 dbX11_approach_16.2.2.2.2.2.1
theorem dX11_approach_26 : decode cX11_approach 26 = .ok (.l2i, 1) := dgq (p := 10) daX11_approach_16 dbX11_approach_16.2.2.2.2.2.2.1
theorem dX11_approach_27 : decode cX11_approach 27 = .ok (.ireturn, 1) := dgq (p := 11) daX11_approach_16 dbX11_approach_16.2.2.2.2.2.2.2
set_option maxRecDepth 20000 in
theorem ggX11_canCut_X11_approach : GoodIn wsX11_canCut wsX11_approach := goodIn_ca (goodIn_q _ [9, 10, 1, 11, 12, 13, 14, 15, 16, 17] rfl (by decide +kernel)) (goodIn_sub (fun _ h => (List.mem_cons_of_mem _ (List.mem_append_left _ (List.mem_append_left _ (List.mem_append_right _ h))))) tg_wsX110)
set_option maxRecDepth 20000 in
theorem gX11_canCut_X11_approach : GoodIn wsX11_canCut (wsV RX11 45 RX11 yX11_approach wsX11_approach) := goodIn_app (goodIn_q _ [5, 6, 7, 8] rfl (by decide +kernel)) ggX11_canCut_X11_approach
def dsX11_canCut_0 : ByteArray := ⟨#[42, 180, 0, 15, 43, 180, 0, 36, 160, 0, 67, 43, 180, 0, 39, 42, 180, 0, 19, 161, 0, 56]⟩
theorem daX11_canCut_0 : agB cX11_canCut dsX11_canCut_0 0 := agB_of (n := 22) (by decide +kernel)
theorem dbX11_canCut_0 : (decode dsX11_canCut_0 0 = .ok (.aload_n 0, 1) ∧ okop dsX11_canCut_0 0 = true) ∧ (decode dsX11_canCut_0 1 = .ok (.getfield 15, 3) ∧ okop dsX11_canCut_0 1 = true) ∧ (decode dsX11_canCut_0 4 = .ok (.aload_n 1, 1) ∧ okop dsX11_canCut_0 4 = true) ∧ (decode dsX11_canCut_0 5 = .ok (.getfield 36, 3) ∧ okop dsX11_canCut_0 5 = true) ∧ (decode dsX11_canCut_0 8 = .ok (.if_icmp .ne 67, 3) ∧ okop dsX11_canCut_0 8 = true) ∧ (decode dsX11_canCut_0 11 = .ok (.aload_n 1, 1) ∧ okop dsX11_canCut_0 11 = true) ∧ (decode dsX11_canCut_0 12 = .ok (.getfield 39, 3) ∧ okop dsX11_canCut_0 12 = true) ∧ (decode dsX11_canCut_0 15 = .ok (.aload_n 0, 1) ∧ okop dsX11_canCut_0 15 = true) ∧ (decode dsX11_canCut_0 16 = .ok (.getfield 19, 3) ∧ okop dsX11_canCut_0 16 = true) ∧ (decode dsX11_canCut_0 19 = .ok (.if_icmp .lt 56, 3) ∧ okop dsX11_canCut_0 19 = true) := by decide +kernel
theorem dX11_canCut_0 : decode cX11_canCut 0 = .ok (.aload_n 0, 1) := dgq (p := 0) daX11_canCut_0 dbX11_canCut_0.1
theorem dX11_canCut_1 : decode cX11_canCut 1 = .ok (.getfield 15, 3) := dgq (p := 1) daX11_canCut_0 dbX11_canCut_0.2.1
theorem dX11_canCut_4 : decode cX11_canCut 4 = .ok (.aload_n 1, 1) := dgq (p := 4) daX11_canCut_0 dbX11_canCut_0.2.2.1
theorem dX11_canCut_5 : decode cX11_canCut 5 = .ok (.getfield 36, 3) := dgq (p := 5) daX11_canCut_0 dbX11_canCut_0.2.2.2.1
theorem dX11_canCut_8 : decode cX11_canCut 8 = .ok (.if_icmp .ne 67, 3) := dgq (p := 8) daX11_canCut_0 dbX11_canCut_0.2.2.2.2.1
theorem dX11_canCut_11 : decode cX11_canCut 11 = .ok (.aload_n 1, 1) := dgq (p := 11) daX11_canCut_0 dbX11_canCut_0.2.2.2.2.2.1
theorem dX11_canCut_12 : decode cX11_canCut 12 = .ok (.getfield 39, 3) := dgq (p := 12) daX11_canCut_0 dbX11_canCut_0.2.2.2.2.2.2.1
theorem dX11_canCut_15 : decode cX11_canCut 15 = .ok (.aload_n 0, 1) := dgq (p := 15) daX11_canCut_0 dbX11_canCut_0.2.2.2.2.2.2.2.1
theorem dX11_canCut_16 : decode cX11_canCut 16 = .ok (.getfield 19, 3) := dgq (p := 16) daX11_canCut_0 dbX11_canCut_0.2.2.2.2.2.2.2.2.1
theorem dX11_canCut_19 : decode cX11_canCut 19 = .ok (.if_icmp .lt 56, 3) := dgq (p := 19) daX11_canCut_0 dbX11_canCut_0.2.2.2.2.2.2.2.2.2
def dsX11_canCut_22 : ByteArray := ⟨#[43, 180, 0, 42, 2, 159, 0, 14, 42, 182, 0, 45, 43, 180, 0, 42, 163, 0, 37, 42]⟩
theorem daX11_canCut_22 : agB cX11_canCut dsX11_canCut_22 22 := agB_of (n := 20) (by decide +kernel)
theorem dbX11_canCut_22 : (decode dsX11_canCut_22 0 = .ok (.aload_n 1, 1) ∧ okop dsX11_canCut_22 0 = true) ∧ (decode dsX11_canCut_22 1 = .ok (.getfield 42, 3) ∧ okop dsX11_canCut_22 1 = true) ∧ (decode dsX11_canCut_22 4 = .ok (.iconst (-1), 1) ∧ okop dsX11_canCut_22 4 = true) ∧ (decode dsX11_canCut_22 5 = .ok (.if_icmp .eq 14, 3) ∧ okop dsX11_canCut_22 5 = true) ∧ (decode dsX11_canCut_22 8 = .ok (.aload_n 0, 1) ∧ okop dsX11_canCut_22 8 = true) ∧ (decode dsX11_canCut_22 9 = .ok (.invokevirtual 45, 3) ∧ okop dsX11_canCut_22 9 = true) ∧ (decode dsX11_canCut_22 12 = .ok (.aload_n 1, 1) ∧ okop dsX11_canCut_22 12 = true) ∧ (decode dsX11_canCut_22 13 = .ok (.getfield 42, 3) ∧ okop dsX11_canCut_22 13 = true) ∧ (decode dsX11_canCut_22 16 = .ok (.if_icmp .gt 37, 3) ∧ okop dsX11_canCut_22 16 = true) ∧ (decode dsX11_canCut_22 19 = .ok (.aload_n 0, 1) ∧ okop dsX11_canCut_22 19 = true) := by decide +kernel
theorem dX11_canCut_22 : decode cX11_canCut 22 = .ok (.aload_n 1, 1) := dgq (p := 0) daX11_canCut_22 dbX11_canCut_22.1
theorem dX11_canCut_23 : decode cX11_canCut 23 = .ok (.getfield 42, 3) := dgq (p := 1) daX11_canCut_22 dbX11_canCut_22.2.1
theorem dX11_canCut_26 : decode cX11_canCut 26 = .ok (.iconst (-1), 1) := dgq (p := 4) daX11_canCut_22 dbX11_canCut_22.2.2.1
theorem dX11_canCut_27 : decode cX11_canCut 27 = .ok (.if_icmp .eq 14, 3) := dgq (p := 5) daX11_canCut_22 dbX11_canCut_22.2.2.2.1
theorem dX11_canCut_30 : decode cX11_canCut 30 = .ok (.aload_n 0, 1) := dgq (p := 8) daX11_canCut_22 dbX11_canCut_22.2.2.2.2.1
theorem dX11_canCut_31 : decode cX11_canCut 31 = .ok (.invokevirtual 45, 3) := dgq (p := 9) daX11_canCut_22 dbX11_canCut_22.2.2.2.2.2.1
theorem dX11_canCut_34 : decode cX11_canCut 34 = .ok (.aload_n 1, 1) := dgq (p := 12) daX11_canCut_22 dbX11_canCut_22.2.2.2.2.2.2.1
theorem dX11_canCut_35 : decode cX11_canCut 35 = .ok (.getfield 42, 3) := dgq (p := 13) daX11_canCut_22 dbX11_canCut_22.2.2.2.2.2.2.2.1
theorem dX11_canCut_38 : decode cX11_canCut 38 = .ok (.if_icmp .gt 37, 3) := dgq (p := 16) daX11_canCut_22 dbX11_canCut_22.2.2.2.2.2.2.2.2.1
theorem dX11_canCut_41 : decode cX11_canCut 41 = .ok (.aload_n 0, 1) := dgq (p := 19) daX11_canCut_22 dbX11_canCut_22.2.2.2.2.2.2.2.2.2
def dsX11_canCut_42 : ByteArray := ⟨#[180, 0, 9, 42, 180, 0, 49, 46, 17, 0, 200, 162, 0, 22, 42, 180, 0, 19, 4, 159, 0, 10]⟩
theorem daX11_canCut_42 : agB cX11_canCut dsX11_canCut_42 42 := agB_of (n := 22) (by decide +kernel)
theorem dbX11_canCut_42 : (decode dsX11_canCut_42 0 = .ok (.getfield 9, 3) ∧ okop dsX11_canCut_42 0 = true) ∧ (decode dsX11_canCut_42 3 = .ok (.aload_n 0, 1) ∧ okop dsX11_canCut_42 3 = true) ∧ (decode dsX11_canCut_42 4 = .ok (.getfield 49, 3) ∧ okop dsX11_canCut_42 4 = true) ∧ (decode dsX11_canCut_42 7 = .ok (.iaload, 1) ∧ okop dsX11_canCut_42 7 = true) ∧ (decode dsX11_canCut_42 8 = .ok (.sipush 200, 3) ∧ okop dsX11_canCut_42 8 = true) ∧ (decode dsX11_canCut_42 11 = .ok (.if_icmp .ge 22, 3) ∧ okop dsX11_canCut_42 11 = true) ∧ (decode dsX11_canCut_42 14 = .ok (.aload_n 0, 1) ∧ okop dsX11_canCut_42 14 = true) ∧ (decode dsX11_canCut_42 15 = .ok (.getfield 19, 3) ∧ okop dsX11_canCut_42 15 = true) ∧ (decode dsX11_canCut_42 18 = .ok (.iconst 1, 1) ∧ okop dsX11_canCut_42 18 = true) ∧ (decode dsX11_canCut_42 19 = .ok (.if_icmp .eq 10, 3) ∧ okop dsX11_canCut_42 19 = true) := by decide +kernel
theorem dX11_canCut_42 : decode cX11_canCut 42 = .ok (.getfield 9, 3) := dgq (p := 0) daX11_canCut_42 dbX11_canCut_42.1
theorem dX11_canCut_45 : decode cX11_canCut 45 = .ok (.aload_n 0, 1) := dgq (p := 3) daX11_canCut_42 dbX11_canCut_42.2.1
theorem dX11_canCut_46 : decode cX11_canCut 46 = .ok (.getfield 49, 3) := dgq (p := 4) daX11_canCut_42 dbX11_canCut_42.2.2.1
theorem dX11_canCut_49 : decode cX11_canCut 49 = .ok (.iaload, 1) := dgq (p := 7) daX11_canCut_42 dbX11_canCut_42.2.2.2.1
theorem dX11_canCut_50 : decode cX11_canCut 50 = .ok (.sipush 200, 3) := dgq (p := 8) daX11_canCut_42 dbX11_canCut_42.2.2.2.2.1
theorem dX11_canCut_53 : decode cX11_canCut 53 = .ok (.if_icmp .ge 22, 3) := dgq (p := 11) daX11_canCut_42 dbX11_canCut_42.2.2.2.2.2.1
theorem dX11_canCut_56 : decode cX11_canCut 56 = .ok (.aload_n 0, 1) := dgq (p := 14) daX11_canCut_42 dbX11_canCut_42.2.2.2.2.2.2.1
theorem dX11_canCut_57 : decode cX11_canCut 57 = .ok (.getfield 19, 3) := dgq (p := 15) daX11_canCut_42 dbX11_canCut_42.2.2.2.2.2.2.2.1
theorem dX11_canCut_60 : decode cX11_canCut 60 = .ok (.iconst 1, 1) := dgq (p := 18) daX11_canCut_42 dbX11_canCut_42.2.2.2.2.2.2.2.2.1
theorem dX11_canCut_61 : decode cX11_canCut 61 = .ok (.if_icmp .eq 10, 3) := dgq (p := 19) daX11_canCut_42 dbX11_canCut_42.2.2.2.2.2.2.2.2.2
def dsX11_canCut_64 : ByteArray := ⟨#[43, 180, 0, 52, 155, 0, 7, 4, 167, 0, 4, 3, 172]⟩
theorem daX11_canCut_64 : agB cX11_canCut dsX11_canCut_64 64 := agB_of (n := 13) (by decide +kernel)
theorem dbX11_canCut_64 : (decode dsX11_canCut_64 0 = .ok (.aload_n 1, 1) ∧ okop dsX11_canCut_64 0 = true) ∧ (decode dsX11_canCut_64 1 = .ok (.getfield 52, 3) ∧ okop dsX11_canCut_64 1 = true) ∧ (decode dsX11_canCut_64 4 = .ok (.ifCond .lt 7, 3) ∧ okop dsX11_canCut_64 4 = true) ∧ (decode dsX11_canCut_64 7 = .ok (.iconst 1, 1) ∧ okop dsX11_canCut_64 7 = true) ∧ (decode dsX11_canCut_64 8 = .ok (.goto 4, 3) ∧ okop dsX11_canCut_64 8 = true) ∧ (decode dsX11_canCut_64 11 = .ok (.iconst 0, 1) ∧ okop dsX11_canCut_64 11 = true) ∧ (decode dsX11_canCut_64 12 = .ok (.ireturn, 1) ∧ okop dsX11_canCut_64 12 = true) := by decide +kernel
theorem dX11_canCut_64 : decode cX11_canCut 64 = .ok (.aload_n 1, 1) := dgq (p := 0) daX11_canCut_64 dbX11_canCut_64.1
theorem dX11_canCut_65 : decode cX11_canCut 65 = .ok (.getfield 52, 3) := dgq (p := 1) daX11_canCut_64 dbX11_canCut_64.2.1
theorem dX11_canCut_68 : decode cX11_canCut 68 = .ok (.ifCond .lt 7, 3) := dgq (p := 4) daX11_canCut_64 dbX11_canCut_64.2.2.1
theorem dX11_canCut_71 : decode cX11_canCut 71 = .ok (.iconst 1, 1) := dgq (p := 7) daX11_canCut_64 dbX11_canCut_64.2.2.2.1
theorem dX11_canCut_72 : decode cX11_canCut 72 = .ok (.goto 4, 3) := dgq (p := 8) daX11_canCut_64 dbX11_canCut_64.2.2.2.2.1
theorem dX11_canCut_75 : decode cX11_canCut 75 = .ok (.iconst 0, 1) := dgq (p := 11) daX11_canCut_64 dbX11_canCut_64.2.2.2.2.2.1
theorem dX11_canCut_76 : decode cX11_canCut 76 = .ok (.ireturn, 1) := dgq (p := 12) daX11_canCut_64 dbX11_canCut_64.2.2.2.2.2.2
def dsX12_root_0 : ByteArray := ⟨#[30, 9, 148, 157, 0, 5, 9, 173, 9, 65, 20, 0, 1, 55, 4]⟩
theorem daX12_root_0 : agB cX12_root dsX12_root_0 0 := agB_of (n := 15) (by decide +kernel)
theorem dbX12_root_0 : (decode dsX12_root_0 0 = .ok (.lload_n 0, 1) ∧ okop dsX12_root_0 0 = true) ∧ (decode dsX12_root_0 1 = .ok (.lconst 0, 1) ∧ okop dsX12_root_0 1 = true) ∧ (decode dsX12_root_0 2 = .ok (.lcmp, 1) ∧ okop dsX12_root_0 2 = true) ∧ (decode dsX12_root_0 3 = .ok (.ifCond .gt 5, 3) ∧ okop dsX12_root_0 3 = true) ∧ (decode dsX12_root_0 6 = .ok (.lconst 0, 1) ∧ okop dsX12_root_0 6 = true) ∧ (decode dsX12_root_0 7 = .ok (.lreturn, 1) ∧ okop dsX12_root_0 7 = true) ∧ (decode dsX12_root_0 8 = .ok (.lconst 0, 1) ∧ okop dsX12_root_0 8 = true) ∧ (decode dsX12_root_0 9 = .ok (.lstore_n 2, 1) ∧ okop dsX12_root_0 9 = true) ∧ (decode dsX12_root_0 10 = .ok (.ldc2_w 1, 3) ∧ okop dsX12_root_0 10 = true) ∧ (decode dsX12_root_0 13 = .ok (.lstore 4, 2) ∧ okop dsX12_root_0 13 = true) := by decide +kernel
theorem dX12_root_0 : decode cX12_root 0 = .ok (.lload_n 0, 1) := dgq (p := 0) daX12_root_0 dbX12_root_0.1
theorem dX12_root_1 : decode cX12_root 1 = .ok (.lconst 0, 1) := dgq (p := 1) daX12_root_0 dbX12_root_0.2.1
theorem dX12_root_2 : decode cX12_root 2 = .ok (.lcmp, 1) := dgq (p := 2) daX12_root_0 dbX12_root_0.2.2.1
theorem dX12_root_3 : decode cX12_root 3 = .ok (.ifCond .gt 5, 3) := dgq (p := 3) daX12_root_0 dbX12_root_0.2.2.2.1
theorem dX12_root_6 : decode cX12_root 6 = .ok (.lconst 0, 1) := dgq (p := 6) daX12_root_0 dbX12_root_0.2.2.2.2.1
theorem dX12_root_7 : decode cX12_root 7 = .ok (.lreturn, 1) := dgq (p := 7) daX12_root_0 dbX12_root_0.2.2.2.2.2.1
theorem dX12_root_8 : decode cX12_root 8 = .ok (.lconst 0, 1) := dgq (p := 8) daX12_root_0 dbX12_root_0.2.2.2.2.2.2.1
theorem dX12_root_9 : decode cX12_root 9 = .ok (.lstore_n 2, 1) := dgq (p := 9) daX12_root_0 dbX12_root_0.2.2.2.2.2.2.2.1
theorem dX12_root_10 : decode cX12_root 10 = .ok (.ldc2_w 1, 3) := dgq (p := 10) daX12_root_0 dbX12_root_0.2.2.2.2.2.2.2.2.1
theorem dX12_root_13 : decode cX12_root 13 = .ok (.lstore 4, 2) := dgq (p := 13) daX12_root_0 dbX12_root_0.2.2.2.2.2.2.2.2.2
def dsX12_root_15 : ByteArray := ⟨#[22, 4, 32, 101, 10, 148, 158, 0, 36, 32, 22, 4, 97, 20, 0, 3]⟩
theorem daX12_root_15 : agB cX12_root dsX12_root_15 15 := agB_of (n := 16) (by decide +kernel)
theorem dbX12_root_15 : (decode dsX12_root_15 0 = .ok (.lload 4, 2) ∧ okop dsX12_root_15 0 = true) ∧ (decode dsX12_root_15 2 = .ok (.lload_n 2, 1) ∧ okop dsX12_root_15 2 = true) ∧ (decode dsX12_root_15 3 = .ok (.lsub, 1) ∧ okop dsX12_root_15 3 = true) ∧ (decode dsX12_root_15 4 = .ok (.lconst 1, 1) ∧ okop dsX12_root_15 4 = true) ∧ (decode dsX12_root_15 5 = .ok (.lcmp, 1) ∧ okop dsX12_root_15 5 = true) ∧ (decode dsX12_root_15 6 = .ok (.ifCond .le 36, 3) ∧ okop dsX12_root_15 6 = true) ∧ (decode dsX12_root_15 9 = .ok (.lload_n 2, 1) ∧ okop dsX12_root_15 9 = true) ∧ (decode dsX12_root_15 10 = .ok (.lload 4, 2) ∧ okop dsX12_root_15 10 = true) ∧ (decode dsX12_root_15 12 = .ok (.ladd, 1) ∧ okop dsX12_root_15 12 = true) ∧ (decode dsX12_root_15 13 = .ok (.ldc2_w 3, 3) ∧ okop dsX12_root_15 13 = true) := by decide +kernel
theorem dX12_root_15 : decode cX12_root 15 = .ok (.lload 4, 2) := dgq (p := 0) daX12_root_15 dbX12_root_15.1
theorem dX12_root_17 : decode cX12_root 17 = .ok (.lload_n 2, 1) := dgq (p := 2) daX12_root_15 dbX12_root_15.2.1
theorem dX12_root_18 : decode cX12_root 18 = .ok (.lsub, 1) := dgq (p := 3) daX12_root_15 dbX12_root_15.2.2.1
theorem dX12_root_19 : decode cX12_root 19 = .ok (.lconst 1, 1) := dgq (p := 4) daX12_root_15 dbX12_root_15.2.2.2.1
theorem dX12_root_20 : decode cX12_root 20 = .ok (.lcmp, 1) := dgq (p := 5) daX12_root_15 dbX12_root_15.2.2.2.2.1
theorem dX12_root_21 : decode cX12_root 21 = .ok (.ifCond .le 36, 3) := dgq (p := 6) daX12_root_15 dbX12_root_15.2.2.2.2.2.1
theorem dX12_root_24 : decode cX12_root 24 = .ok (.lload_n 2, 1) := dgq (p := 9) daX12_root_15 dbX12_root_15.2.2.2.2.2.2.1
theorem dX12_root_25 : decode cX12_root 25 = .ok (.lload 4, 2) := dgq (p := 10) daX12_root_15 dbX12_root_15.2.2.2.2.2.2.2.1
theorem dX12_root_27 : decode cX12_root 27 = .ok (.ladd, 1) := dgq (p := 12) daX12_root_15 dbX12_root_15.2.2.2.2.2.2.2.2.1
theorem dX12_root_28 : decode cX12_root 28 = .ok (.ldc2_w 3, 3) := dgq (p := 13) daX12_root_15 dbX12_root_15.2.2.2.2.2.2.2.2.2
def dsX12_root_31 : ByteArray := ⟨#[109, 55, 6, 22, 6, 22, 6, 105, 30, 148, 157, 0, 9, 22, 6, 65]⟩
theorem daX12_root_31 : agB cX12_root dsX12_root_31 31 := agB_of (n := 16) (by decide +kernel)
theorem dbX12_root_31 : (decode dsX12_root_31 0 = .ok (.ldiv, 1) ∧ okop dsX12_root_31 0 = true) ∧ (decode dsX12_root_31 1 = .ok (.lstore 6, 2) ∧ okop dsX12_root_31 1 = true) ∧ (decode dsX12_root_31 3 = .ok (.lload 6, 2) ∧ okop dsX12_root_31 3 = true) ∧ (decode dsX12_root_31 5 = .ok (.lload 6, 2) ∧ okop dsX12_root_31 5 = true) ∧ (decode dsX12_root_31 7 = .ok (.lmul, 1) ∧ okop dsX12_root_31 7 = true) ∧ (decode dsX12_root_31 8 = .ok (.lload_n 0, 1) ∧ okop dsX12_root_31 8 = true) ∧ (decode dsX12_root_31 9 = .ok (.lcmp, 1) ∧ okop dsX12_root_31 9 = true) ∧ (decode dsX12_root_31 10 = .ok (.ifCond .gt 9, 3) ∧ okop dsX12_root_31 10 = true) ∧ (decode dsX12_root_31 13 = .ok (.lload 6, 2) ∧ okop dsX12_root_31 13 = true) ∧ (decode dsX12_root_31 15 = .ok (.lstore_n 2, 1) ∧ okop dsX12_root_31 15 = true) := by decide +kernel
theorem dX12_root_31 : decode cX12_root 31 = .ok (.ldiv, 1) := dgq (p := 0) daX12_root_31 dbX12_root_31.1
theorem dX12_root_32 : decode cX12_root 32 = .ok (.lstore 6, 2) := dgq (p := 1) daX12_root_31 dbX12_root_31.2.1
theorem dX12_root_34 : decode cX12_root 34 = .ok (.lload 6, 2) := dgq (p := 3) daX12_root_31 dbX12_root_31.2.2.1
theorem dX12_root_36 : decode cX12_root 36 = .ok (.lload 6, 2) := dgq (p := 5) daX12_root_31 dbX12_root_31.2.2.2.1
theorem dX12_root_38 : decode cX12_root 38 = .ok (.lmul, 1) := dgq (p := 7) daX12_root_31 dbX12_root_31.2.2.2.2.1
theorem dX12_root_39 : decode cX12_root 39 = .ok (.lload_n 0, 1) := dgq (p := 8) daX12_root_31 dbX12_root_31.2.2.2.2.2.1
theorem dX12_root_40 : decode cX12_root 40 = .ok (.lcmp, 1) := dgq (p := 9) daX12_root_31 dbX12_root_31.2.2.2.2.2.2.1
theorem dX12_root_41 : decode cX12_root 41 = .ok (.ifCond .gt 9, 3) := dgq (p := 10) daX12_root_31 dbX12_root_31.2.2.2.2.2.2.2.1
theorem dX12_root_44 : decode cX12_root 44 = .ok (.lload 6, 2) := dgq (p := 13) daX12_root_31 dbX12_root_31.2.2.2.2.2.2.2.2.1
theorem dX12_root_46 : decode cX12_root 46 = .ok (.lstore_n 2, 1) := dgq (p := 15) daX12_root_31 dbX12_root_31.2.2.2.2.2.2.2.2.2
def dsX12_root_47 : ByteArray := ⟨#[167, 0, 7, 22, 6, 55, 4, 167, 255, 217, 32, 173]⟩
theorem daX12_root_47 : agB cX12_root dsX12_root_47 47 := agB_of (n := 12) (by decide +kernel)
theorem dbX12_root_47 : (decode dsX12_root_47 0 = .ok (.goto 7, 3) ∧ okop dsX12_root_47 0 = true) ∧ (decode dsX12_root_47 3 = .ok (.lload 6, 2) ∧ okop dsX12_root_47 3 = true) ∧ (decode dsX12_root_47 5 = .ok (.lstore 4, 2) ∧ okop dsX12_root_47 5 = true) ∧ (decode dsX12_root_47 7 = .ok (.goto (-39), 3) ∧ okop dsX12_root_47 7 = true) ∧ (decode dsX12_root_47 10 = .ok (.lload_n 2, 1) ∧ okop dsX12_root_47 10 = true) ∧ (decode dsX12_root_47 11 = .ok (.lreturn, 1) ∧ okop dsX12_root_47 11 = true) := by decide +kernel
theorem dX12_root_47 : decode cX12_root 47 = .ok (.goto 7, 3) := dgq (p := 0) daX12_root_47 dbX12_root_47.1
theorem dX12_root_50 : decode cX12_root 50 = .ok (.lload 6, 2) := dgq (p := 3) daX12_root_47 dbX12_root_47.2.1
theorem dX12_root_52 : decode cX12_root 52 = .ok (.lstore 4, 2) := dgq (p := 5) daX12_root_47 dbX12_root_47.2.2.1
theorem dX12_root_54 : decode cX12_root 54 = .ok (.goto (-39), 3) := dgq (p := 7) daX12_root_47 dbX12_root_47.2.2.2.1
theorem dX12_root_57 : decode cX12_root 57 = .ok (.lload_n 2, 1) := dgq (p := 10) daX12_root_47 dbX12_root_47.2.2.2.2.1
theorem dX12_root_58 : decode cX12_root 58 = .ok (.lreturn, 1) := dgq (p := 11) daX12_root_47 dbX12_root_47.2.2.2.2.2
set_option maxRecDepth 20000 in
theorem ggX12_divisor_X12_divisor : GoodIn wsX12_divisor wsX12_divisor := goodIn_ca (goodIn_q _ [0, 1, 2, 3] rfl (by decide +kernel)) (goodIn_sub (fun _ h => List.mem_cons_of_mem _ (List.mem_append_right _ h)) (by decide +kernel))
set_option maxRecDepth 20000 in
theorem gX12_divisor_X12_divisor : GoodIn wsX12_divisor (va_wsS RX12 5 yX12_divisor wsX12_divisor) := goodIn_app (goodIn_q _ [1, 2, 3] rfl (by decide +kernel)) ggX12_divisor_X12_divisor
def dsX12_divisor_0 : ByteArray := ⟨#[27, 154, 0, 7, 26, 167, 0, 10, 27, 26, 27, 112, 184, 0, 5, 172]⟩
theorem daX12_divisor_0 : agB cX12_divisor dsX12_divisor_0 0 := agB_of (n := 16) (by decide +kernel)
theorem dbX12_divisor_0 : (decode dsX12_divisor_0 0 = .ok (.iload_n 1, 1) ∧ okop dsX12_divisor_0 0 = true) ∧ (decode dsX12_divisor_0 1 = .ok (.ifCond .ne 7, 3) ∧ okop dsX12_divisor_0 1 = true) ∧ (decode dsX12_divisor_0 4 = .ok (.iload_n 0, 1) ∧ okop dsX12_divisor_0 4 = true) ∧ (decode dsX12_divisor_0 5 = .ok (.goto 10, 3) ∧ okop dsX12_divisor_0 5 = true) ∧ (decode dsX12_divisor_0 8 = .ok (.iload_n 1, 1) ∧ okop dsX12_divisor_0 8 = true) ∧ (decode dsX12_divisor_0 9 = .ok (.iload_n 0, 1) ∧ okop dsX12_divisor_0 9 = true) ∧ (decode dsX12_divisor_0 10 = .ok (.iload_n 1, 1) ∧ okop dsX12_divisor_0 10 = true) ∧ (decode dsX12_divisor_0 11 = .ok (.irem, 1) ∧ okop dsX12_divisor_0 11 = true) ∧ (decode dsX12_divisor_0 12 = .ok (.invokestatic 5, 3) ∧ okop dsX12_divisor_0 12 = true) ∧ (decode dsX12_divisor_0 15 = .ok (.ireturn, 1) ∧ okop dsX12_divisor_0 15 = true) := by decide +kernel
theorem dX12_divisor_0 : decode cX12_divisor 0 = .ok (.iload_n 1, 1) := dgq (p := 0) daX12_divisor_0 dbX12_divisor_0.1
theorem dX12_divisor_1 : decode cX12_divisor 1 = .ok (.ifCond .ne 7, 3) := dgq (p := 1) daX12_divisor_0 dbX12_divisor_0.2.1
theorem dX12_divisor_4 : decode cX12_divisor 4 = .ok (.iload_n 0, 1) := dgq (p := 4) daX12_divisor_0 dbX12_divisor_0.2.2.1
theorem dX12_divisor_5 : decode cX12_divisor 5 = .ok (.goto 10, 3) := dgq (p := 5) daX12_divisor_0 dbX12_divisor_0.2.2.2.1
theorem dX12_divisor_8 : decode cX12_divisor 8 = .ok (.iload_n 1, 1) := dgq (p := 8) daX12_divisor_0 dbX12_divisor_0.2.2.2.2.1
theorem dX12_divisor_9 : decode cX12_divisor 9 = .ok (.iload_n 0, 1) := dgq (p := 9) daX12_divisor_0 dbX12_divisor_0.2.2.2.2.2.1
theorem dX12_divisor_10 : decode cX12_divisor 10 = .ok (.iload_n 1, 1) := dgq (p := 10) daX12_divisor_0 dbX12_divisor_0.2.2.2.2.2.2.1
theorem dX12_divisor_11 : decode cX12_divisor 11 = .ok (.irem, 1) := dgq (p := 11) daX12_divisor_0 dbX12_divisor_0.2.2.2.2.2.2.2.1
theorem dX12_divisor_12 : decode cX12_divisor 12 = .ok (.invokestatic 5, 3) := dgq (p := 12) daX12_divisor_0 dbX12_divisor_0.2.2.2.2.2.2.2.2.1
theorem dX12_divisor_15 : decode cX12_divisor 15 = .ok (.ireturn, 1) := dgq (p := 15) daX12_divisor_0 dbX12_divisor_0.2.2.2.2.2.2.2.2.2
set_option maxRecDepth 20000 in
theorem ggX12_gradeOf_X12_limitOf : GoodIn wsX12_gradeOf wsX12_limitOf := goodIn_q _ [4] rfl (by decide +kernel)
set_option maxRecDepth 20000 in
theorem gX12_gradeOf_X12_limitOf : GoodIn wsX12_gradeOf (va_wsS RX12 11 yX12_limitOf wsX12_limitOf) := goodIn_app (goodIn_q _ [1, 2, 3] rfl (by decide +kernel)) ggX12_gradeOf_X12_limitOf
def dsX12_gradeOf_0 : ByteArray := ⟨#[3, 60, 27, 16, 13, 162, 0, 17, 26, 27, 184, 0, 11, 164, 0, 9, 132, 1, 1]⟩
theorem daX12_gradeOf_0 : agB cX12_gradeOf dsX12_gradeOf_0 0 := agB_of (n := 19) (by decide +kernel)
theorem dbX12_gradeOf_0 : (decode dsX12_gradeOf_0 0 = .ok (.iconst 0, 1) ∧ okop dsX12_gradeOf_0 0 = true) ∧ (decode dsX12_gradeOf_0 1 = .ok (.istore_n 1, 1) ∧ okop dsX12_gradeOf_0 1 = true) ∧ (decode dsX12_gradeOf_0 2 = .ok (.iload_n 1, 1) ∧ okop dsX12_gradeOf_0 2 = true) ∧ (decode dsX12_gradeOf_0 3 = .ok (.bipush 13, 2) ∧ okop dsX12_gradeOf_0 3 = true) ∧ (decode dsX12_gradeOf_0 5 = .ok (.if_icmp .ge 17, 3) ∧ okop dsX12_gradeOf_0 5 = true) ∧ (decode dsX12_gradeOf_0 8 = .ok (.iload_n 0, 1) ∧ okop dsX12_gradeOf_0 8 = true) ∧ (decode dsX12_gradeOf_0 9 = .ok (.iload_n 1, 1) ∧ okop dsX12_gradeOf_0 9 = true) ∧ (decode dsX12_gradeOf_0 10 = .ok (.invokestatic 11, 3) ∧ okop dsX12_gradeOf_0 10 = true) ∧ (decode dsX12_gradeOf_0 13 = .ok (.if_icmp .le 9, 3) ∧ okop dsX12_gradeOf_0 13 = true) ∧ (decode dsX12_gradeOf_0 16 = .ok (.iinc 1 1, 3) ∧ okop dsX12_gradeOf_0 16 = true) := by decide +kernel
theorem dX12_gradeOf_0 : decode cX12_gradeOf 0 = .ok (.iconst 0, 1) := dgq (p := 0) daX12_gradeOf_0 dbX12_gradeOf_0.1
theorem dX12_gradeOf_1 : decode cX12_gradeOf 1 = .ok (.istore_n 1, 1) := dgq (p := 1) daX12_gradeOf_0 dbX12_gradeOf_0.2.1
theorem dX12_gradeOf_2 : decode cX12_gradeOf 2 = .ok (.iload_n 1, 1) := dgq (p := 2) daX12_gradeOf_0 dbX12_gradeOf_0.2.2.1
theorem dX12_gradeOf_3 : decode cX12_gradeOf 3 = .ok (.bipush 13, 2) := dgq (p := 3) daX12_gradeOf_0 dbX12_gradeOf_0.2.2.2.1
theorem dX12_gradeOf_5 : decode cX12_gradeOf 5 = .ok (.if_icmp .ge 17, 3) := dgq (p := 5) daX12_gradeOf_0 dbX12_gradeOf_0.2.2.2.2.1
theorem dX12_gradeOf_8 : decode cX12_gradeOf 8 = .ok (.iload_n 0, 1) := dgq (p := 8) daX12_gradeOf_0 dbX12_gradeOf_0.2.2.2.2.2.1
theorem dX12_gradeOf_9 : decode cX12_gradeOf 9 = .ok (.iload_n 1, 1) := dgq (p := 9) daX12_gradeOf_0 dbX12_gradeOf_0.2.2.2.2.2.2.1
theorem dX12_gradeOf_10 : decode cX12_gradeOf 10 = .ok (.invokestatic 11, 3) := dgq (p := 10) daX12_gradeOf_0 dbX12_gradeOf_0.2.2.2.2.2.2.2.1
theorem dX12_gradeOf_13 : decode cX12_gradeOf 13 = .ok (.if_icmp .le 9, 3) := dgq (p := 13) daX12_gradeOf_0 dbX12_gradeOf_0.2.2.2.2.2.2.2.2.1
theorem dX12_gradeOf_16 : decode cX12_gradeOf 16 = .ok (.iinc 1 1, 3) := dgq (p := 16) daX12_gradeOf_0 dbX12_gradeOf_0.2.2.2.2.2.2.2.2.2
def dsX12_gradeOf_19 : ByteArray := ⟨#[167, 255, 239, 27, 172]⟩
theorem daX12_gradeOf_19 : agB cX12_gradeOf dsX12_gradeOf_19 19 := agB_of (n := 5) (by decide +kernel)
theorem dbX12_gradeOf_19 : (decode dsX12_gradeOf_19 0 = .ok (.goto (-17), 3) ∧ okop dsX12_gradeOf_19 0 = true) ∧ (decode dsX12_gradeOf_19 3 = .ok (.iload_n 1, 1) ∧ okop dsX12_gradeOf_19 3 = true) ∧ (decode dsX12_gradeOf_19 4 = .ok (.ireturn, 1) ∧ okop dsX12_gradeOf_19 4 = true) := by decide +kernel
theorem dX12_gradeOf_19 : decode cX12_gradeOf 19 = .ok (.goto (-17), 3) := dgq (p := 0) daX12_gradeOf_19 dbX12_gradeOf_19.1
theorem dX12_gradeOf_22 : decode cX12_gradeOf 22 = .ok (.iload_n 1, 1) := dgq (p := 3) daX12_gradeOf_19 dbX12_gradeOf_19.2.1
theorem dX12_gradeOf_23 : decode cX12_gradeOf 23 = .ok (.ireturn, 1) := dgq (p := 4) daX12_gradeOf_19 dbX12_gradeOf_19.2.2
theorem dX12_limitOf_1 : decode cX12_limitOf 1 = .ok (.tableswitch 96 0 11 #[63, 65, 67, 69, 72, 75, 78, 81, 84, 87, 90, 93], 63) := by decide +kernel
theorem dX12_limitOf_0 : decode cX12_limitOf 0 = .ok (.iload_n 0, 1) := by decide +kernel
def dsX12_limitOf_64 : ByteArray := ⟨#[5, 172, 6, 172, 7, 172, 16, 6, 172, 16, 8, 172]⟩
theorem daX12_limitOf_64 : agB cX12_limitOf dsX12_limitOf_64 64 := agB_of (n := 12) (by decide +kernel)
theorem dbX12_limitOf_64 : (decode dsX12_limitOf_64 0 = .ok (.iconst 2, 1) ∧ okop dsX12_limitOf_64 0 = true) ∧ (decode dsX12_limitOf_64 1 = .ok (.ireturn, 1) ∧ okop dsX12_limitOf_64 1 = true) ∧ (decode dsX12_limitOf_64 2 = .ok (.iconst 3, 1) ∧ okop dsX12_limitOf_64 2 = true) ∧ (decode dsX12_limitOf_64 3 = .ok (.ireturn, 1) ∧ okop dsX12_limitOf_64 3 = true) ∧ (decode dsX12_limitOf_64 4 = .ok (.iconst 4, 1) ∧ okop dsX12_limitOf_64 4 = true) ∧ (decode dsX12_limitOf_64 5 = .ok (.ireturn, 1) ∧ okop dsX12_limitOf_64 5 = true) ∧ (decode dsX12_limitOf_64 6 = .ok (.bipush 6, 2) ∧ okop dsX12_limitOf_64 6 = true) ∧ (decode dsX12_limitOf_64 8 = .ok (.ireturn, 1) ∧ okop dsX12_limitOf_64 8 = true) ∧ (decode dsX12_limitOf_64 9 = .ok (.bipush 8, 2) ∧ okop dsX12_limitOf_64 9 = true) ∧ (decode dsX12_limitOf_64 11 = .ok (.ireturn, 1) ∧ okop dsX12_limitOf_64 11 = true) := by decide +kernel
theorem dX12_limitOf_64 : decode cX12_limitOf 64 = .ok (.iconst 2, 1) := dgq (p := 0) daX12_limitOf_64 dbX12_limitOf_64.1
theorem dX12_limitOf_65 : decode cX12_limitOf 65 = .ok (.ireturn, 1) := dgq (p := 1) daX12_limitOf_64 dbX12_limitOf_64.2.1
theorem dX12_limitOf_66 : decode cX12_limitOf 66 = .ok (.iconst 3, 1) := dgq (p := 2) daX12_limitOf_64 dbX12_limitOf_64.2.2.1
theorem dX12_limitOf_67 : decode cX12_limitOf 67 = .ok (.ireturn, 1) := dgq (p := 3) daX12_limitOf_64 dbX12_limitOf_64.2.2.2.1
theorem dX12_limitOf_68 : decode cX12_limitOf 68 = .ok (.iconst 4, 1) := dgq (p := 4) daX12_limitOf_64 dbX12_limitOf_64.2.2.2.2.1
theorem dX12_limitOf_69 : decode cX12_limitOf 69 = .ok (.ireturn, 1) := dgq (p := 5) daX12_limitOf_64 dbX12_limitOf_64.2.2.2.2.2.1
theorem dX12_limitOf_70 : decode cX12_limitOf 70 = .ok (.bipush 6, 2) := dgq (p := 6) daX12_limitOf_64 dbX12_limitOf_64.2.2.2.2.2.2.1
theorem dX12_limitOf_72 : decode cX12_limitOf 72 = .ok (.ireturn, 1) := dgq (p := 8) daX12_limitOf_64 dbX12_limitOf_64.2.2.2.2.2.2.2.1
theorem dX12_limitOf_73 : decode cX12_limitOf 73 = .ok (.bipush 8, 2) := dgq (p := 9) daX12_limitOf_64 dbX12_limitOf_64.2.2.2.2.2.2.2.2.1
theorem dX12_limitOf_75 : decode cX12_limitOf 75 = .ok (.ireturn, 1) := dgq (p := 11) daX12_limitOf_64 dbX12_limitOf_64.2.2.2.2.2.2.2.2.2
def dsX12_limitOf_76 : ByteArray := ⟨#[16, 11, 172, 16, 16, 172, 16, 22, 172, 16, 32, 172, 16, 45, 172]⟩
theorem daX12_limitOf_76 : agB cX12_limitOf dsX12_limitOf_76 76 := agB_of (n := 15) (by decide +kernel)
theorem dbX12_limitOf_76 : (decode dsX12_limitOf_76 0 = .ok (.bipush 11, 2) ∧ okop dsX12_limitOf_76 0 = true) ∧ (decode dsX12_limitOf_76 2 = .ok (.ireturn, 1) ∧ okop dsX12_limitOf_76 2 = true) ∧ (decode dsX12_limitOf_76 3 = .ok (.bipush 16, 2) ∧ okop dsX12_limitOf_76 3 = true) ∧ (decode dsX12_limitOf_76 5 = .ok (.ireturn, 1) ∧ okop dsX12_limitOf_76 5 = true) ∧ (decode dsX12_limitOf_76 6 = .ok (.bipush 22, 2) ∧ okop dsX12_limitOf_76 6 = true) ∧ (decode dsX12_limitOf_76 8 = .ok (.ireturn, 1) ∧ okop dsX12_limitOf_76 8 = true) ∧ (decode dsX12_limitOf_76 9 = .ok (.bipush 32, 2) ∧ okop dsX12_limitOf_76 9 = true) ∧ (decode dsX12_limitOf_76 11 = .ok (.ireturn, 1) ∧ okop dsX12_limitOf_76 11 = true) ∧ (decode dsX12_limitOf_76 12 = .ok (.bipush 45, 2) ∧ okop dsX12_limitOf_76 12 = true) ∧ (decode dsX12_limitOf_76 14 = .ok (.ireturn, 1) ∧ okop dsX12_limitOf_76 14 = true) := by decide +kernel
theorem dX12_limitOf_76 : decode cX12_limitOf 76 = .ok (.bipush 11, 2) := dgq (p := 0) daX12_limitOf_76 dbX12_limitOf_76.1
theorem dX12_limitOf_78 : decode cX12_limitOf 78 = .ok (.ireturn, 1) := dgq (p := 2) daX12_limitOf_76 dbX12_limitOf_76.2.1
theorem dX12_limitOf_79 : decode cX12_limitOf 79 = .ok (.bipush 16, 2) := dgq (p := 3) daX12_limitOf_76 dbX12_limitOf_76.2.2.1
theorem dX12_limitOf_81 : decode cX12_limitOf 81 = .ok (.ireturn, 1) := dgq (p := 5) daX12_limitOf_76 dbX12_limitOf_76.2.2.2.1
theorem dX12_limitOf_82 : decode cX12_limitOf 82 = .ok (.bipush 22, 2) := dgq (p := 6) daX12_limitOf_76 dbX12_limitOf_76.2.2.2.2.1
theorem dX12_limitOf_84 : decode cX12_limitOf 84 = .ok (.ireturn, 1) := dgq (p := 8) daX12_limitOf_76 dbX12_limitOf_76.2.2.2.2.2.1
theorem dX12_limitOf_85 : decode cX12_limitOf 85 = .ok (.bipush 32, 2) := dgq (p := 9) daX12_limitOf_76 dbX12_limitOf_76.2.2.2.2.2.2.1
theorem dX12_limitOf_87 : decode cX12_limitOf 87 = .ok (.ireturn, 1) := dgq (p := 11) daX12_limitOf_76 dbX12_limitOf_76.2.2.2.2.2.2.2.1
theorem dX12_limitOf_88 : decode cX12_limitOf 88 = .ok (.bipush 45, 2) := dgq (p := 12) daX12_limitOf_76 dbX12_limitOf_76.2.2.2.2.2.2.2.2.1
theorem dX12_limitOf_90 : decode cX12_limitOf 90 = .ok (.ireturn, 1) := dgq (p := 14) daX12_limitOf_76 dbX12_limitOf_76.2.2.2.2.2.2.2.2.2
def dsX12_limitOf_91 : ByteArray := ⟨#[16, 64, 172, 16, 90, 172, 17, 0, 128, 172]⟩
theorem daX12_limitOf_91 : agB cX12_limitOf dsX12_limitOf_91 91 := agB_of (n := 10) (by decide +kernel)
theorem dbX12_limitOf_91 : (decode dsX12_limitOf_91 0 = .ok (.bipush 64, 2) ∧ okop dsX12_limitOf_91 0 = true) ∧ (decode dsX12_limitOf_91 2 = .ok (.ireturn, 1) ∧ okop dsX12_limitOf_91 2 = true) ∧ (decode dsX12_limitOf_91 3 = .ok (.bipush 90, 2) ∧ okop dsX12_limitOf_91 3 = true) ∧ (decode dsX12_limitOf_91 5 = .ok (.ireturn, 1) ∧ okop dsX12_limitOf_91 5 = true) ∧ (decode dsX12_limitOf_91 6 = .ok (.sipush 128, 3) ∧ okop dsX12_limitOf_91 6 = true) ∧ (decode dsX12_limitOf_91 9 = .ok (.ireturn, 1) ∧ okop dsX12_limitOf_91 9 = true) := by decide +kernel
theorem dX12_limitOf_91 : decode cX12_limitOf 91 = .ok (.bipush 64, 2) := dgq (p := 0) daX12_limitOf_91 dbX12_limitOf_91.1
theorem dX12_limitOf_93 : decode cX12_limitOf 93 = .ok (.ireturn, 1) := dgq (p := 2) daX12_limitOf_91 dbX12_limitOf_91.2.1
theorem dX12_limitOf_94 : decode cX12_limitOf 94 = .ok (.bipush 90, 2) := dgq (p := 3) daX12_limitOf_91 dbX12_limitOf_91.2.2.1
theorem dX12_limitOf_96 : decode cX12_limitOf 96 = .ok (.ireturn, 1) := dgq (p := 5) daX12_limitOf_91 dbX12_limitOf_91.2.2.2.1
theorem dX12_limitOf_97 : decode cX12_limitOf 97 = .ok (.sipush 128, 3) := dgq (p := 6) daX12_limitOf_91 dbX12_limitOf_91.2.2.2.2.1
theorem dX12_limitOf_100 : decode cX12_limitOf 100 = .ok (.ireturn, 1) := dgq (p := 9) daX12_limitOf_91 dbX12_limitOf_91.2.2.2.2.2
set_option maxRecDepth 20000 in
theorem ggX12_init_Jx4a65c_init_da8c8 : GoodIn wsX12_init wsJx4a65c_init_da8c8 := goodIn_ca (goodIn_q _ [33, 34, 35, 36, 37, 38, 39, 40, 41, 42, 43, 44, 45, 2, 3] rfl (by decide +kernel)) (goodIn_sub (fun _ h => (List.mem_cons_of_mem _ (List.mem_append_left _ (List.mem_append_right _ h)))) tg_wsJx4a65c0)
set_option maxRecDepth 20000 in
theorem gX12_init_Jx4a65c_init_da8c8 : GoodIn wsX12_init (wsJx4a65c_init_da8c8) := ggX12_init_Jx4a65c_init_da8c8
def dsX12_init_0 : ByteArray := ⟨#[42, 183, 0, 15, 42, 187, 0, 21, 89, 183, 0, 23, 181, 0, 24, 42, 187, 0, 21, 89]⟩
theorem daX12_init_0 : agB cX12_init dsX12_init_0 0 := agB_of (n := 20) (by decide +kernel)
theorem dbX12_init_0 : (decode dsX12_init_0 0 = .ok (.aload_n 0, 1) ∧ okop dsX12_init_0 0 = true) ∧ (decode dsX12_init_0 1 = .ok (.invokespecial 15, 3) ∧ okop dsX12_init_0 1 = true) ∧ (decode dsX12_init_0 4 = .ok (.aload_n 0, 1) ∧ okop dsX12_init_0 4 = true) ∧ (decode dsX12_init_0 5 = .ok (.new 21, 3) ∧ okop dsX12_init_0 5 = true) ∧ (decode dsX12_init_0 8 = .ok (.dup, 1) ∧ okop dsX12_init_0 8 = true) ∧ (decode dsX12_init_0 9 = .ok (.invokespecial 23, 3) ∧ okop dsX12_init_0 9 = true) ∧ (decode dsX12_init_0 12 = .ok (.putfield 24, 3) ∧ okop dsX12_init_0 12 = true) ∧ (decode dsX12_init_0 15 = .ok (.aload_n 0, 1) ∧ okop dsX12_init_0 15 = true) ∧ (decode dsX12_init_0 16 = .ok (.new 21, 3) ∧ okop dsX12_init_0 16 = true) ∧ (decode dsX12_init_0 19 = .ok (.dup, 1) ∧ okop dsX12_init_0 19 = true) := by decide +kernel
theorem dX12_init_0 : decode cX12_init 0 = .ok (.aload_n 0, 1) := dgq (p := 0) daX12_init_0 dbX12_init_0.1
theorem dX12_init_1 : decode cX12_init 1 = .ok (.invokespecial 15, 3) := dgq (p := 1) daX12_init_0 dbX12_init_0.2.1
theorem dX12_init_4 : decode cX12_init 4 = .ok (.aload_n 0, 1) := dgq (p := 4) daX12_init_0 dbX12_init_0.2.2.1
theorem dX12_init_5 : decode cX12_init 5 = .ok (.new 21, 3) := dgq (p := 5) daX12_init_0 dbX12_init_0.2.2.2.1
theorem dX12_init_8 : decode cX12_init 8 = .ok (.dup, 1) := dgq (p := 8) daX12_init_0 dbX12_init_0.2.2.2.2.1
theorem dX12_init_9 : decode cX12_init 9 = .ok (.invokespecial 23, 3) := dgq (p := 9) daX12_init_0 dbX12_init_0.2.2.2.2.2.1
theorem dX12_init_12 : decode cX12_init 12 = .ok (.putfield 24, 3) := dgq (p := 12) daX12_init_0 dbX12_init_0.2.2.2.2.2.2.1
theorem dX12_init_15 : decode cX12_init 15 = .ok (.aload_n 0, 1) := dgq (p := 15) daX12_init_0 dbX12_init_0.2.2.2.2.2.2.2.1
theorem dX12_init_16 : decode cX12_init 16 = .ok (.new 21, 3) := dgq (p := 16) daX12_init_0 dbX12_init_0.2.2.2.2.2.2.2.2.1
theorem dX12_init_19 : decode cX12_init 19 = .ok (.dup, 1) := dgq (p := 19) daX12_init_0 dbX12_init_0.2.2.2.2.2.2.2.2.2
theorem dX12_init_29 : decode cX12_init 29 = .ok (.newarray .int, 2) := by decide +kernel
theorem dX12_init_36 : decode cX12_init 36 = .ok (.newarray .int, 2) := by decide +kernel
def dsX12_init_20 : ByteArray := ⟨#[183, 0, 23, 181, 0, 28, 42, 16, 16, 188, 10, 181, 0, 31, 42, 7, 188, 10, 181, 0, 35, 42, 7]⟩
theorem daX12_init_20 : agB cX12_init dsX12_init_20 20 := agB_of (n := 23) (by decide +kernel)
theorem dbX12_init_20 : (decode dsX12_init_20 0 = .ok (.invokespecial 23, 3) ∧ okop dsX12_init_20 0 = true) ∧ (decode dsX12_init_20 3 = .ok (.putfield 28, 3) ∧ okop dsX12_init_20 3 = true) ∧ (decode dsX12_init_20 6 = .ok (.aload_n 0, 1) ∧ okop dsX12_init_20 6 = true) ∧ (decode dsX12_init_20 7 = .ok (.bipush 16, 2) ∧ okop dsX12_init_20 7 = true) ∧ (decode dsX12_init_20 11 = .ok (.putfield 31, 3) ∧ okop dsX12_init_20 11 = true) ∧ (decode dsX12_init_20 14 = .ok (.aload_n 0, 1) ∧ okop dsX12_init_20 14 = true) ∧ (decode dsX12_init_20 15 = .ok (.iconst 4, 1) ∧ okop dsX12_init_20 15 = true) ∧ (decode dsX12_init_20 18 = .ok (.putfield 35, 3) ∧ okop dsX12_init_20 18 = true) ∧ (decode dsX12_init_20 21 = .ok (.aload_n 0, 1) ∧ okop dsX12_init_20 21 = true) ∧ (decode dsX12_init_20 22 = .ok (.iconst 4, 1) ∧ okop dsX12_init_20 22 = true) := by decide +kernel
theorem dX12_init_20 : decode cX12_init 20 = .ok (.invokespecial 23, 3) := dgq (p := 0) daX12_init_20 dbX12_init_20.1
theorem dX12_init_23 : decode cX12_init 23 = .ok (.putfield 28, 3) := dgq (p := 3) daX12_init_20 dbX12_init_20.2.1
theorem dX12_init_26 : decode cX12_init 26 = .ok (.aload_n 0, 1) := dgq (p := 6) daX12_init_20 dbX12_init_20.2.2.1
theorem dX12_init_27 : decode cX12_init 27 = .ok (.bipush 16, 2) := dgq (p := 7) daX12_init_20 dbX12_init_20.2.2.2.1
theorem dX12_init_31 : decode cX12_init 31 = .ok (.putfield 31, 3) := dgq (p := 11) daX12_init_20 dbX12_init_20.2.2.2.2.1
theorem dX12_init_34 : decode cX12_init 34 = .ok (.aload_n 0, 1) := dgq (p := 14) daX12_init_20 dbX12_init_20.2.2.2.2.2.1
theorem dX12_init_35 : decode cX12_init 35 = .ok (.iconst 4, 1) := dgq (p := 15) daX12_init_20 dbX12_init_20.2.2.2.2.2.2.1
theorem dX12_init_38 : decode cX12_init 38 = .ok (.putfield 35, 3) := dgq (p := 18) daX12_init_20 dbX12_init_20.2.2.2.2.2.2.2.1
theorem dX12_init_41 : decode cX12_init 41 = .ok (.aload_n 0, 1) := dgq (p := 21) daX12_init_20 dbX12_init_20.2.2.2.2.2.2.2.2.1
theorem dX12_init_42 : decode cX12_init 42 = .ok (.iconst 4, 1) := dgq (p := 22) daX12_init_20 dbX12_init_20.2.2.2.2.2.2.2.2.2
theorem dX12_init_43 : decode cX12_init 43 = .ok (.newarray .int, 2) := by decide +kernel
theorem dX12_init_51 : decode cX12_init 51 = .ok (.newarray .char, 2) := by decide +kernel
theorem dX12_init_59 : decode cX12_init 59 = .ok (.newarray .int, 2) := by decide +kernel
theorem dX12_init_67 : decode cX12_init 67 = .ok (.newarray .int, 2) := by decide +kernel
def dsX12_init_43 : ByteArray := ⟨#[188, 10, 181, 0, 38, 42, 16, 6, 188, 5, 181, 0, 41, 42, 16, 6, 188, 10, 181, 0, 45, 42, 16, 6, 188, 10, 181, 0, 48]⟩
theorem daX12_init_43 : agB cX12_init dsX12_init_43 43 := agB_of (n := 29) (by decide +kernel)
theorem dbX12_init_43 : (decode dsX12_init_43 2 = .ok (.putfield 38, 3) ∧ okop dsX12_init_43 2 = true) ∧ (decode dsX12_init_43 5 = .ok (.aload_n 0, 1) ∧ okop dsX12_init_43 5 = true) ∧ (decode dsX12_init_43 6 = .ok (.bipush 6, 2) ∧ okop dsX12_init_43 6 = true) ∧ (decode dsX12_init_43 10 = .ok (.putfield 41, 3) ∧ okop dsX12_init_43 10 = true) ∧ (decode dsX12_init_43 13 = .ok (.aload_n 0, 1) ∧ okop dsX12_init_43 13 = true) ∧ (decode dsX12_init_43 14 = .ok (.bipush 6, 2) ∧ okop dsX12_init_43 14 = true) ∧ (decode dsX12_init_43 18 = .ok (.putfield 45, 3) ∧ okop dsX12_init_43 18 = true) ∧ (decode dsX12_init_43 21 = .ok (.aload_n 0, 1) ∧ okop dsX12_init_43 21 = true) ∧ (decode dsX12_init_43 22 = .ok (.bipush 6, 2) ∧ okop dsX12_init_43 22 = true) ∧ (decode dsX12_init_43 26 = .ok (.putfield 48, 3) ∧ okop dsX12_init_43 26 = true) := by decide +kernel
theorem dX12_init_45 : decode cX12_init 45 = .ok (.putfield 38, 3) := dgq (p := 2) daX12_init_43 dbX12_init_43.1
theorem dX12_init_48 : decode cX12_init 48 = .ok (.aload_n 0, 1) := dgq (p := 5) daX12_init_43 dbX12_init_43.2.1
theorem dX12_init_49 : decode cX12_init 49 = .ok (.bipush 6, 2) := dgq (p := 6) daX12_init_43 dbX12_init_43.2.2.1
theorem dX12_init_53 : decode cX12_init 53 = .ok (.putfield 41, 3) := dgq (p := 10) daX12_init_43 dbX12_init_43.2.2.2.1
theorem dX12_init_56 : decode cX12_init 56 = .ok (.aload_n 0, 1) := dgq (p := 13) daX12_init_43 dbX12_init_43.2.2.2.2.1
theorem dX12_init_57 : decode cX12_init 57 = .ok (.bipush 6, 2) := dgq (p := 14) daX12_init_43 dbX12_init_43.2.2.2.2.2.1
theorem dX12_init_61 : decode cX12_init 61 = .ok (.putfield 45, 3) := dgq (p := 18) daX12_init_43 dbX12_init_43.2.2.2.2.2.2.1
theorem dX12_init_64 : decode cX12_init 64 = .ok (.aload_n 0, 1) := dgq (p := 21) daX12_init_43 dbX12_init_43.2.2.2.2.2.2.2.1
theorem dX12_init_65 : decode cX12_init 65 = .ok (.bipush 6, 2) := dgq (p := 22) daX12_init_43 dbX12_init_43.2.2.2.2.2.2.2.2.1
theorem dX12_init_69 : decode cX12_init 69 = .ok (.putfield 48, 3) := dgq (p := 26) daX12_init_43 dbX12_init_43.2.2.2.2.2.2.2.2.2
theorem dX12_init_75 : decode cX12_init 75 = .ok (.newarray .int, 2) := by decide +kernel
theorem dX12_init_72 : decode cX12_init 72 = .ok (.aload_n 0, 1) := by decide +kernel
theorem dX12_init_73 : decode cX12_init 73 = .ok (.bipush 6, 2) := by decide +kernel
