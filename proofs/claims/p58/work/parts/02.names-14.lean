def dsX12_isMet_30 : ByteArray := ⟨#[133, 105, 42, 180, 0, 35, 6, 46, 133, 105, 148, 157, 0, 7]⟩
theorem daX12_isMet_30 : agB cX12_isMet dsX12_isMet_30 30 := agB_of (n := 14) (by decide +kernel)
theorem dbX12_isMet_30 : (decode dsX12_isMet_30 0 = .ok (.i2l, 1) ∧ okop dsX12_isMet_30 0 = true) ∧ (decode dsX12_isMet_30 1 = .ok (.lmul, 1) ∧ okop dsX12_isMet_30 1 = true) ∧ (decode dsX12_isMet_30 2 = .ok (.aload_n 0, 1) ∧ okop dsX12_isMet_30 2 = true) ∧ (decode dsX12_isMet_30 3 = .ok (.getfield 35, 3) ∧ okop dsX12_isMet_30 3 = true) ∧ (decode dsX12_isMet_30 6 = .ok (.iconst 3, 1) ∧ okop dsX12_isMet_30 6 = true) ∧ (decode dsX12_isMet_30 7 = .ok (.iaload, 1) ∧ okop dsX12_isMet_30 7 = true) ∧ (decode dsX12_isMet_30 8 = .ok (.i2l, 1) ∧ okop dsX12_isMet_30 8 = true) ∧ (decode dsX12_isMet_30 9 = .ok (.lmul, 1) ∧ okop dsX12_isMet_30 9 = true) ∧ (decode dsX12_isMet_30 10 = .ok (.lcmp, 1) ∧ okop dsX12_isMet_30 10 = true) ∧ (decode dsX12_isMet_30 11 = .ok (.ifCond .gt 7, 3) ∧ okop dsX12_isMet_30 11 = true) := by decide +kernel
theorem dX12_isMet_30 : decode cX12_isMet 30 = .ok (.i2l, 1) := dgq (p := 0) daX12_isMet_30 dbX12_isMet_30.1
theorem dX12_isMet_31 : decode cX12_isMet 31 = .ok (.lmul, 1) := dgq (p := 1) daX12_isMet_30 dbX12_isMet_30.2.1
theorem dX12_isMet_32 : decode cX12_isMet 32 = .ok (.aload_n 0, 1) := dgq (p := 2) daX12_isMet_30 dbX12_isMet_30.2.2.1
theorem dX12_isMet_33 : decode cX12_isMet 33 = .ok (.getfield 35, 3) := dgq (p := 3) daX12_isMet_30 dbX12_isMet_30.2.2.2.1
theorem dX12_isMet_36 : decode cX12_isMet 36 = .ok (.iconst 3, 1) := dgq (p := 6) daX12_isMet_30 dbX12_isMet_30.2.2.2.2.1
theorem dX12_isMet_37 : decode cX12_isMet 37 = .ok (.iaload, 1) := dgq (p := 7) daX12_isMet_30 dbX12_isMet_30.2.2.2.2.2.1
theorem dX12_isMet_38 : decode cX12_isMet 38 = .ok (.i2l, 1) := dgq (p := 8) daX12_isMet_30 dbX12_isMet_30.2.2.2.2.2.2.1
theorem dX12_isMet_39 : decode cX12_isMet 39 = .ok (.lmul, 1) := dgq (p := 9) daX12_isMet_30 dbX12_isMet_30.2.2.2.2.2.2.2.1
theorem dX12_isMet_40 : decode cX12_isMet 40 = .ok (.lcmp, 1) := dgq (p := 10) daX12_isMet_30 dbX12_isMet_30.2.2.2.2.2.2.2.2.1
theorem dX12_isMet_41 : decode cX12_isMet 41 = .ok (.ifCond .gt 7, 3) := dgq (p := 11) daX12_isMet_30 dbX12_isMet_30.2.2.2.2.2.2.2.2.2
def dsX12_isMet_44 : ByteArray := ⟨#[4, 167, 0, 4, 3, 172]⟩
theorem daX12_isMet_44 : agB cX12_isMet dsX12_isMet_44 44 := agB_of (n := 6) (by decide +kernel)
theorem dbX12_isMet_44 : (decode dsX12_isMet_44 0 = .ok (.iconst 1, 1) ∧ okop dsX12_isMet_44 0 = true) ∧ (decode dsX12_isMet_44 1 = .ok (.goto 4, 3) ∧ okop dsX12_isMet_44 1 = true) ∧ (decode dsX12_isMet_44 4 = .ok (.iconst 0, 1) ∧ okop dsX12_isMet_44 4 = true) ∧ (decode dsX12_isMet_44 5 = .ok (.ireturn, 1) ∧ okop dsX12_isMet_44 5 = true) := by decide +kernel
theorem dX12_isMet_44 : decode cX12_isMet 44 = .ok (.iconst 1, 1) := dgq (p := 0) daX12_isMet_44 dbX12_isMet_44.1
theorem dX12_isMet_45 : decode cX12_isMet 45 = .ok (.goto 4, 3) := dgq (p := 1) daX12_isMet_44 dbX12_isMet_44.2.1
theorem dX12_isMet_48 : decode cX12_isMet 48 = .ok (.iconst 0, 1) := dgq (p := 4) daX12_isMet_44 dbX12_isMet_44.2.2.1
theorem dX12_isMet_49 : decode cX12_isMet 49 = .ok (.ireturn, 1) := dgq (p := 5) daX12_isMet_44 dbX12_isMet_44.2.2.2
set_option maxRecDepth 20000 in
theorem ggX12_isRatio_X12_in : GoodIn wsX12_isRatio wsX12_in := goodIn_q _ [5] rfl (by decide +kernel)
set_option maxRecDepth 20000 in
theorem gX12_isRatio_X12_in : GoodIn wsX12_isRatio (va_wsS RX12 101 yX12_in wsX12_in) := goodIn_app (goodIn_q _ [2, 3, 4] rfl (by decide +kernel)) ggX12_isRatio_X12_in
def dsX12_isRatio_0 : ByteArray := ⟨#[26, 133, 10, 20, 0, 249, 184, 0, 101, 153, 0, 19, 27, 133, 10, 20, 0, 249]⟩
theorem daX12_isRatio_0 : agB cX12_isRatio dsX12_isRatio_0 0 := agB_of (n := 18) (by decide +kernel)
theorem dbX12_isRatio_0 : (decode dsX12_isRatio_0 0 = .ok (.iload_n 0, 1) ∧ okop dsX12_isRatio_0 0 = true) ∧ (decode dsX12_isRatio_0 1 = .ok (.i2l, 1) ∧ okop dsX12_isRatio_0 1 = true) ∧ (decode dsX12_isRatio_0 2 = .ok (.lconst 1, 1) ∧ okop dsX12_isRatio_0 2 = true) ∧ (decode dsX12_isRatio_0 3 = .ok (.ldc2_w 249, 3) ∧ okop dsX12_isRatio_0 3 = true) ∧ (decode dsX12_isRatio_0 6 = .ok (.invokestatic 101, 3) ∧ okop dsX12_isRatio_0 6 = true) ∧ (decode dsX12_isRatio_0 9 = .ok (.ifCond .eq 19, 3) ∧ okop dsX12_isRatio_0 9 = true) ∧ (decode dsX12_isRatio_0 12 = .ok (.iload_n 1, 1) ∧ okop dsX12_isRatio_0 12 = true) ∧ (decode dsX12_isRatio_0 13 = .ok (.i2l, 1) ∧ okop dsX12_isRatio_0 13 = true) ∧ (decode dsX12_isRatio_0 14 = .ok (.lconst 1, 1) ∧ okop dsX12_isRatio_0 14 = true) ∧ (decode dsX12_isRatio_0 15 = .ok (.ldc2_w 249, 3) ∧ okop dsX12_isRatio_0 15 = true) := by decide +kernel
theorem dX12_isRatio_0 : decode cX12_isRatio 0 = .ok (.iload_n 0, 1) := dgq (p := 0) daX12_isRatio_0 dbX12_isRatio_0.1
theorem dX12_isRatio_1 : decode cX12_isRatio 1 = .ok (.i2l, 1) := dgq (p := 1) daX12_isRatio_0 dbX12_isRatio_0.2.1
theorem dX12_isRatio_2 : decode cX12_isRatio 2 = .ok (.lconst 1, 1) := dgq (p := 2) daX12_isRatio_0 dbX12_isRatio_0.2.2.1
theorem dX12_isRatio_3 : decode cX12_isRatio 3 = .ok (.ldc2_w 249, 3) := dgq (p := 3) daX12_isRatio_0 dbX12_isRatio_0.2.2.2.1
theorem dX12_isRatio_6 : decode cX12_isRatio 6 = .ok (.invokestatic 101, 3) := dgq (p := 6) daX12_isRatio_0 dbX12_isRatio_0.2.2.2.2.1
theorem dX12_isRatio_9 : decode cX12_isRatio 9 = .ok (.ifCond .eq 19, 3) := dgq (p := 9) daX12_isRatio_0 dbX12_isRatio_0.2.2.2.2.2.1
theorem dX12_isRatio_12 : decode cX12_isRatio 12 = .ok (.iload_n 1, 1) := dgq (p := 12) daX12_isRatio_0 dbX12_isRatio_0.2.2.2.2.2.2.1
theorem dX12_isRatio_13 : decode cX12_isRatio 13 = .ok (.i2l, 1) := dgq (p := 13) daX12_isRatio_0 dbX12_isRatio_0.2.2.2.2.2.2.2.1
theorem dX12_isRatio_14 : decode cX12_isRatio 14 = .ok (.lconst 1, 1) := dgq (p := 14) daX12_isRatio_0 dbX12_isRatio_0.2.2.2.2.2.2.2.2.1
theorem dX12_isRatio_15 : decode cX12_isRatio 15 = .ok (.ldc2_w 249, 3) := dgq (p := 15) daX12_isRatio_0 dbX12_isRatio_0.2.2.2.2.2.2.2.2.2
def dsX12_isRatio_18 : ByteArray := ⟨#[184, 0, 101, 153, 0, 7, 4, 167, 0, 4, 3, 172]⟩
theorem daX12_isRatio_18 : agB cX12_isRatio dsX12_isRatio_18 18 := agB_of (n := 12) (by decide +kernel)
theorem dbX12_isRatio_18 : (decode dsX12_isRatio_18 0 = .ok (.invokestatic 101, 3) ∧ okop dsX12_isRatio_18 0 = true) ∧ (decode dsX12_isRatio_18 3 = .ok (.ifCond .eq 7, 3) ∧ okop dsX12_isRatio_18 3 = true) ∧ (decode dsX12_isRatio_18 6 = .ok (.iconst 1, 1) ∧ okop dsX12_isRatio_18 6 = true) ∧ (decode dsX12_isRatio_18 7 = .ok (.goto 4, 3) ∧ okop dsX12_isRatio_18 7 = true) ∧ (decode dsX12_isRatio_18 10 = .ok (.iconst 0, 1) ∧ okop dsX12_isRatio_18 10 = true) ∧ (decode dsX12_isRatio_18 11 = .ok (.ireturn, 1) ∧ okop dsX12_isRatio_18 11 = true) := by decide +kernel
theorem dX12_isRatio_18 : decode cX12_isRatio 18 = .ok (.invokestatic 101, 3) := dgq (p := 0) daX12_isRatio_18 dbX12_isRatio_18.1
theorem dX12_isRatio_21 : decode cX12_isRatio 21 = .ok (.ifCond .eq 7, 3) := dgq (p := 3) daX12_isRatio_18 dbX12_isRatio_18.2.1
theorem dX12_isRatio_24 : decode cX12_isRatio 24 = .ok (.iconst 1, 1) := dgq (p := 6) daX12_isRatio_18 dbX12_isRatio_18.2.2.1
theorem dX12_isRatio_25 : decode cX12_isRatio 25 = .ok (.goto 4, 3) := dgq (p := 7) daX12_isRatio_18 dbX12_isRatio_18.2.2.2.1
theorem dX12_isRatio_28 : decode cX12_isRatio 28 = .ok (.iconst 0, 1) := dgq (p := 10) daX12_isRatio_18 dbX12_isRatio_18.2.2.2.2.1
theorem dX12_isRatio_29 : decode cX12_isRatio 29 = .ok (.ireturn, 1) := dgq (p := 11) daX12_isRatio_18 dbX12_isRatio_18.2.2.2.2.2
set_option maxRecDepth 20000 in
theorem ggX12_change_X12_isRatio : GoodIn wsX12_change wsX12_isRatio := goodIn_q _ [7, 8, 9, 10, 6, 11] rfl (by decide +kernel)
set_option maxRecDepth 20000 in
theorem gX12_change_X12_isRatio : GoodIn wsX12_change (va_wsS RX12 303 yX12_isRatio wsX12_isRatio) := goodIn_app (goodIn_q _ [4, 5, 6] rfl (by decide +kernel)) ggX12_change_X12_isRatio
set_option maxRecDepth 20000 in
theorem ggX12_change_X12_in : GoodIn wsX12_change wsX12_in := goodIn_q _ [11] rfl (by decide +kernel)
set_option maxRecDepth 20000 in
theorem gX12_change_X12_in : GoodIn wsX12_change (va_wsS RX12 101 yX12_in wsX12_in) := goodIn_app (goodIn_q _ [9, 10, 6] rfl (by decide +kernel)) ggX12_change_X12_in
set_option maxRecDepth 20000 in
theorem ggX12_change_X12_fails : GoodIn wsX12_change wsX12_fails := goodIn_ca (goodIn_q _ [15, 16] rfl (by decide +kernel)) (goodIn_sub (fun _ h => (List.mem_cons_of_mem _ (List.mem_append_left _ (List.mem_append_right _ h)))) tg_wsX120)
set_option maxRecDepth 20000 in
theorem gX12_change_X12_fails : GoodIn wsX12_change (wsV RX12 143 RX12 yX12_fails wsX12_fails) := goodIn_app (goodIn_q _ [12, 13, 14, 6] rfl (by decide +kernel)) ggX12_change_X12_fails
set_option maxRecDepth 20000 in
theorem ggX12_change_X12_finds : GoodIn wsX12_change wsX12_finds := goodIn_ca (goodIn_ca (goodIn_q _ [20, 3, 21, 22, 23, 6, 24, 25, 2, 26, 27, 28, 29, 30, 31, 32, 33, 34, 35, 36, 37] rfl (by decide +kernel)) (goodIn_sub (fun _ h => (List.mem_cons_of_mem _ (List.mem_append_left _ (List.mem_append_right _ h)))) tg_wsX120)) (goodIn_sub (fun _ h => List.mem_cons_of_mem _ (List.mem_append_right _ h)) (by decide +kernel))
set_option maxRecDepth 20000 in
theorem gX12_change_X12_finds : GoodIn wsX12_change (wsV RX12 297 RX12 yX12_finds wsX12_finds) := goodIn_app (goodIn_q _ [17, 18, 19, 6] rfl (by decide +kernel)) ggX12_change_X12_finds
set_option maxRecDepth 20000 in
theorem ggX12_change_X12_answer : GoodIn wsX12_change wsX12_answer := goodIn_ca (goodIn_q _ [41, 16] rfl (by decide +kernel)) (goodIn_sub (fun _ h => (List.mem_cons_of_mem _ (List.mem_append_left _ (List.mem_append_right _ h)))) tg_wsX120)
set_option maxRecDepth 20000 in
theorem gX12_change_X12_answer : GoodIn wsX12_change (wsV RX12 153 RX12 yX12_answer wsX12_answer) := goodIn_app (goodIn_q _ [38, 39, 40, 6] rfl (by decide +kernel)) ggX12_change_X12_answer
def dsX12_change_0 : ByteArray := ⟨#[27, 28, 184, 1, 47, 153, 0, 15, 29, 133, 9, 20, 0, 247, 184, 0, 101, 154, 0, 9]⟩
theorem daX12_change_0 : agB cX12_change dsX12_change_0 0 := agB_of (n := 20) (by decide +kernel)
theorem dbX12_change_0 : (decode dsX12_change_0 0 = .ok (.iload_n 1, 1) ∧ okop dsX12_change_0 0 = true) ∧ (decode dsX12_change_0 1 = .ok (.iload_n 2, 1) ∧ okop dsX12_change_0 1 = true) ∧ (decode dsX12_change_0 2 = .ok (.invokestatic 303, 3) ∧ okop dsX12_change_0 2 = true) ∧ (decode dsX12_change_0 5 = .ok (.ifCond .eq 15, 3) ∧ okop dsX12_change_0 5 = true) ∧ (decode dsX12_change_0 8 = .ok (.iload_n 3, 1) ∧ okop dsX12_change_0 8 = true) ∧ (decode dsX12_change_0 9 = .ok (.i2l, 1) ∧ okop dsX12_change_0 9 = true) ∧ (decode dsX12_change_0 10 = .ok (.lconst 0, 1) ∧ okop dsX12_change_0 10 = true) ∧ (decode dsX12_change_0 11 = .ok (.ldc2_w 247, 3) ∧ okop dsX12_change_0 11 = true) ∧ (decode dsX12_change_0 14 = .ok (.invokestatic 101, 3) ∧ okop dsX12_change_0 14 = true) ∧ (decode dsX12_change_0 17 = .ok (.ifCond .ne 9, 3) ∧ okop dsX12_change_0 17 = true) := by decide +kernel
theorem dX12_change_0 : decode cX12_change 0 = .ok (.iload_n 1, 1) := dgq (p := 0) daX12_change_0 dbX12_change_0.1
theorem dX12_change_1 : decode cX12_change 1 = .ok (.iload_n 2, 1) := dgq (p := 1) daX12_change_0 dbX12_change_0.2.1
theorem dX12_change_2 : decode cX12_change 2 = .ok (.invokestatic 303, 3) := dgq (p := 2) daX12_change_0 dbX12_change_0.2.2.1
theorem dX12_change_5 : decode cX12_change 5 = .ok (.ifCond .eq 15, 3) := dgq (p := 5) daX12_change_0 dbX12_change_0.2.2.2.1
theorem dX12_change_8 : decode cX12_change 8 = .ok (.iload_n 3, 1) := dgq (p := 8) daX12_change_0 dbX12_change_0.2.2.2.2.1
theorem dX12_change_9 : decode cX12_change 9 = .ok (.i2l, 1) := dgq (p := 9) daX12_change_0 dbX12_change_0.2.2.2.2.2.1
theorem dX12_change_10 : decode cX12_change 10 = .ok (.lconst 0, 1) := dgq (p := 10) daX12_change_0 dbX12_change_0.2.2.2.2.2.2.1
theorem dX12_change_11 : decode cX12_change 11 = .ok (.ldc2_w 247, 3) := dgq (p := 11) daX12_change_0 dbX12_change_0.2.2.2.2.2.2.2.1
theorem dX12_change_14 : decode cX12_change 14 = .ok (.invokestatic 101, 3) := dgq (p := 14) daX12_change_0 dbX12_change_0.2.2.2.2.2.2.2.2.1
theorem dX12_change_17 : decode cX12_change 17 = .ok (.ifCond .ne 9, 3) := dgq (p := 17) daX12_change_0 dbX12_change_0.2.2.2.2.2.2.2.2.2
def dsX12_change_20 : ByteArray := ⟨#[42, 4, 182, 0, 143, 172, 42, 180, 1, 26, 7, 162, 0, 9, 42, 5]⟩
theorem daX12_change_20 : agB cX12_change dsX12_change_20 20 := agB_of (n := 16) (by decide +kernel)
theorem dbX12_change_20 : (decode dsX12_change_20 0 = .ok (.aload_n 0, 1) ∧ okop dsX12_change_20 0 = true) ∧ (decode dsX12_change_20 1 = .ok (.iconst 1, 1) ∧ okop dsX12_change_20 1 = true) ∧ (decode dsX12_change_20 2 = .ok (.invokevirtual 143, 3) ∧ okop dsX12_change_20 2 = true) ∧ (decode dsX12_change_20 5 = .ok (.ireturn, 1) ∧ okop dsX12_change_20 5 = true) ∧ (decode dsX12_change_20 6 = .ok (.aload_n 0, 1) ∧ okop dsX12_change_20 6 = true) ∧ (decode dsX12_change_20 7 = .ok (.getfield 282, 3) ∧ okop dsX12_change_20 7 = true) ∧ (decode dsX12_change_20 10 = .ok (.iconst 4, 1) ∧ okop dsX12_change_20 10 = true) ∧ (decode dsX12_change_20 11 = .ok (.if_icmp .ge 9, 3) ∧ okop dsX12_change_20 11 = true) ∧ (decode dsX12_change_20 14 = .ok (.aload_n 0, 1) ∧ okop dsX12_change_20 14 = true) ∧ (decode dsX12_change_20 15 = .ok (.iconst 2, 1) ∧ okop dsX12_change_20 15 = true) := by decide +kernel
theorem dX12_change_20 : decode cX12_change 20 = .ok (.aload_n 0, 1) := dgq (p := 0) daX12_change_20 dbX12_change_20.1
theorem dX12_change_21 : decode cX12_change 21 = .ok (.iconst 1, 1) := dgq (p := 1) daX12_change_20 dbX12_change_20.2.1
theorem dX12_change_22 : decode cX12_change 22 = .ok (.invokevirtual 143, 3) := dgq (p := 2) daX12_change_20 dbX12_change_20.2.2.1
theorem dX12_change_25 : decode cX12_change 25 = .ok (.ireturn, 1) := dgq (p := 5) daX12_change_20 dbX12_change_20.2.2.2.1
theorem dX12_change_26 : decode cX12_change 26 = .ok (.aload_n 0, 1) := dgq (p := 6) daX12_change_20 dbX12_change_20.2.2.2.2.1
theorem dX12_change_27 : decode cX12_change 27 = .ok (.getfield 282, 3) := dgq (p := 7) daX12_change_20 dbX12_change_20.2.2.2.2.2.1
theorem dX12_change_30 : decode cX12_change 30 = .ok (.iconst 4, 1) := dgq (p := 10) daX12_change_20 dbX12_change_20.2.2.2.2.2.2.1
theorem dX12_change_31 : decode cX12_change 31 = .ok (.if_icmp .ge 9, 3) := dgq (p := 11) daX12_change_20 dbX12_change_20.2.2.2.2.2.2.2.1
theorem dX12_change_34 : decode cX12_change 34 = .ok (.aload_n 0, 1) := dgq (p := 14) daX12_change_20 dbX12_change_20.2.2.2.2.2.2.2.2.1
theorem dX12_change_35 : decode cX12_change 35 = .ok (.iconst 2, 1) := dgq (p := 15) daX12_change_20 dbX12_change_20.2.2.2.2.2.2.2.2.2
def dsX12_change_36 : ByteArray := ⟨#[182, 0, 143, 172, 42, 27, 133, 28, 133, 182, 1, 41, 42, 42]⟩
theorem daX12_change_36 : agB cX12_change dsX12_change_36 36 := agB_of (n := 14) (by decide +kernel)
theorem dbX12_change_36 : (decode dsX12_change_36 0 = .ok (.invokevirtual 143, 3) ∧ okop dsX12_change_36 0 = true) ∧ (decode dsX12_change_36 3 = .ok (.ireturn, 1) ∧ okop dsX12_change_36 3 = true) ∧ (decode dsX12_change_36 4 = .ok (.aload_n 0, 1) ∧ okop dsX12_change_36 4 = true) ∧ (decode dsX12_change_36 5 = .ok (.iload_n 1, 1) ∧ okop dsX12_change_36 5 = true) ∧ (decode dsX12_change_36 6 = .ok (.i2l, 1) ∧ okop dsX12_change_36 6 = true) ∧ (decode dsX12_change_36 7 = .ok (.iload_n 2, 1) ∧ okop dsX12_change_36 7 = true) ∧ (decode dsX12_change_36 8 = .ok (.i2l, 1) ∧ okop dsX12_change_36 8 = true) ∧ (decode dsX12_change_36 9 = .ok (.invokevirtual 297, 3) ∧ okop dsX12_change_36 9 = true) ∧ (decode dsX12_change_36 12 = .ok (.aload_n 0, 1) ∧ okop dsX12_change_36 12 = true) ∧ (decode dsX12_change_36 13 = .ok (.aload_n 0, 1) ∧ okop dsX12_change_36 13 = true) := by decide +kernel
theorem dX12_change_36 : decode cX12_change 36 = .ok (.invokevirtual 143, 3) := dgq (p := 0) daX12_change_36 dbX12_change_36.1
theorem dX12_change_39 : decode cX12_change 39 = .ok (.ireturn, 1) := dgq (p := 3) daX12_change_36 dbX12_change_36.2.1
theorem dX12_change_40 : decode cX12_change 40 = .ok (.aload_n 0, 1) := dgq (p := 4) daX12_change_36 dbX12_change_36.2.2.1
theorem dX12_change_41 : decode cX12_change 41 = .ok (.iload_n 1, 1) := dgq (p := 5) daX12_change_36 dbX12_change_36.2.2.2.1
theorem dX12_change_42 : decode cX12_change 42 = .ok (.i2l, 1) := dgq (p := 6) daX12_change_36 dbX12_change_36.2.2.2.2.1
theorem dX12_change_43 : decode cX12_change 43 = .ok (.iload_n 2, 1) := dgq (p := 7) daX12_change_36 dbX12_change_36.2.2.2.2.2.1
theorem dX12_change_44 : decode cX12_change 44 = .ok (.i2l, 1) := dgq (p := 8) daX12_change_36 dbX12_change_36.2.2.2.2.2.2.1
theorem dX12_change_45 : decode cX12_change 45 = .ok (.invokevirtual 297, 3) := dgq (p := 9) daX12_change_36 dbX12_change_36.2.2.2.2.2.2.2.1
theorem dX12_change_48 : decode cX12_change 48 = .ok (.aload_n 0, 1) := dgq (p := 12) daX12_change_36 dbX12_change_36.2.2.2.2.2.2.2.2.1
theorem dX12_change_49 : decode cX12_change 49 = .ok (.aload_n 0, 1) := dgq (p := 13) daX12_change_36 dbX12_change_36.2.2.2.2.2.2.2.2.2
def dsX12_change_50 : ByteArray := ⟨#[180, 0, 35, 29, 46, 182, 0, 153, 172]⟩
theorem daX12_change_50 : agB cX12_change dsX12_change_50 50 := agB_of (n := 9) (by decide +kernel)
theorem dbX12_change_50 : (decode dsX12_change_50 0 = .ok (.getfield 35, 3) ∧ okop dsX12_change_50 0 = true) ∧ (decode dsX12_change_50 3 = .ok (.iload_n 3, 1) ∧ okop dsX12_change_50 3 = true) ∧ (decode dsX12_change_50 4 = .ok (.iaload, 1) ∧ okop dsX12_change_50 4 = true) ∧ (decode dsX12_change_50 5 = .ok (.invokevirtual 153, 3) ∧ okop dsX12_change_50 5 = true) ∧ (decode dsX12_change_50 8 = .ok (.ireturn, 1) ∧ okop dsX12_change_50 8 = true) := by decide +kernel
theorem dX12_change_50 : decode cX12_change 50 = .ok (.getfield 35, 3) := dgq (p := 0) daX12_change_50 dbX12_change_50.1
theorem dX12_change_53 : decode cX12_change 53 = .ok (.iload_n 3, 1) := dgq (p := 3) daX12_change_50 dbX12_change_50.2.1
theorem dX12_change_54 : decode cX12_change 54 = .ok (.iaload, 1) := dgq (p := 4) daX12_change_50 dbX12_change_50.2.2.1
theorem dX12_change_55 : decode cX12_change 55 = .ok (.invokevirtual 153, 3) := dgq (p := 5) daX12_change_50 dbX12_change_50.2.2.2.1
theorem dX12_change_58 : decode cX12_change 58 = .ok (.ireturn, 1) := dgq (p := 8) daX12_change_50 dbX12_change_50.2.2.2.2
set_option maxRecDepth 20000 in
theorem ggX12_meets_X12_isRatio : GoodIn wsX12_meets wsX12_isRatio := goodIn_q _ [6, 7, 8, 9, 5, 10] rfl (by decide +kernel)
set_option maxRecDepth 20000 in
theorem gX12_meets_X12_isRatio : GoodIn wsX12_meets (va_wsS RX12 303 yX12_isRatio wsX12_isRatio) := goodIn_app (goodIn_q _ [3, 4, 5] rfl (by decide +kernel)) ggX12_meets_X12_isRatio
set_option maxRecDepth 20000 in
theorem ggX12_meets_X12_in : GoodIn wsX12_meets wsX12_in := goodIn_q _ [10] rfl (by decide +kernel)
set_option maxRecDepth 20000 in
theorem gX12_meets_X12_in : GoodIn wsX12_meets (va_wsS RX12 101 yX12_in wsX12_in) := goodIn_app (goodIn_q _ [8, 9, 5] rfl (by decide +kernel)) ggX12_meets_X12_in
set_option maxRecDepth 20000 in
theorem ggX12_meets_X12_refuses : GoodIn wsX12_meets wsX12_refuses := goodIn_ca (goodIn_q _ [14, 15] rfl (by decide +kernel)) (goodIn_sub (fun _ h => (List.mem_cons_of_mem _ (List.mem_append_left _ (List.mem_append_right _ h)))) tg_wsX120)
set_option maxRecDepth 20000 in
theorem gX12_meets_X12_refuses : GoodIn wsX12_meets (wsV RX12 182 RX12 yX12_refuses wsX12_refuses) := goodIn_app (goodIn_q _ [11, 12, 13, 5] rfl (by decide +kernel)) ggX12_meets_X12_refuses
set_option maxRecDepth 20000 in
theorem ggX12_meets_X12_isMet : GoodIn wsX12_meets wsX12_isMet := goodIn_ca (goodIn_ca (goodIn_q _ [19, 20, 21, 22, 23, 24, 5, 25, 26, 27, 28, 29, 30, 2, 31, 32, 33, 34, 35, 36, 37, 38, 39, 40, 41, 42] rfl (by decide +kernel)) (goodIn_sub (fun _ h => (List.mem_cons_of_mem _ (List.mem_append_left _ (List.mem_append_right _ h)))) tg_wsX120)) (goodIn_sub (fun _ h => List.mem_cons_of_mem _ (List.mem_append_right _ h)) (by decide +kernel))
set_option maxRecDepth 20000 in
theorem gX12_meets_X12_isMet : GoodIn wsX12_meets (wsV RX12 308 RX12 yX12_isMet wsX12_isMet) := goodIn_app (goodIn_q _ [16, 17, 18, 5] rfl (by decide +kernel)) ggX12_meets_X12_isMet
set_option maxRecDepth 20000 in
theorem ggX12_meets_X12_says : GoodIn wsX12_meets wsX12_says := goodIn_ca (goodIn_q _ [46, 15] rfl (by decide +kernel)) (goodIn_sub (fun _ h => (List.mem_cons_of_mem _ (List.mem_append_left _ (List.mem_append_right _ h)))) tg_wsX120)
set_option maxRecDepth 20000 in
theorem gX12_meets_X12_says : GoodIn wsX12_meets (wsV RX12 178 RX12 yX12_says wsX12_says) := goodIn_app (goodIn_q _ [43, 44, 45, 5] rfl (by decide +kernel)) ggX12_meets_X12_says
def dsX12_meets_0 : ByteArray := ⟨#[27, 28, 184, 1, 47, 153, 0, 15, 29, 133, 9, 20, 1, 50, 184, 0, 101, 154, 0, 9]⟩
theorem daX12_meets_0 : agB cX12_meets dsX12_meets_0 0 := agB_of (n := 20) (by decide +kernel)
theorem dbX12_meets_0 : (decode dsX12_meets_0 0 = .ok (.iload_n 1, 1) ∧ okop dsX12_meets_0 0 = true) ∧ (decode dsX12_meets_0 1 = .ok (.iload_n 2, 1) ∧ okop dsX12_meets_0 1 = true) ∧ (decode dsX12_meets_0 2 = .ok (.invokestatic 303, 3) ∧ okop dsX12_meets_0 2 = true) ∧ (decode dsX12_meets_0 5 = .ok (.ifCond .eq 15, 3) ∧ okop dsX12_meets_0 5 = true) ∧ (decode dsX12_meets_0 8 = .ok (.iload_n 3, 1) ∧ okop dsX12_meets_0 8 = true) ∧ (decode dsX12_meets_0 9 = .ok (.i2l, 1) ∧ okop dsX12_meets_0 9 = true) ∧ (decode dsX12_meets_0 10 = .ok (.lconst 0, 1) ∧ okop dsX12_meets_0 10 = true) ∧ (decode dsX12_meets_0 11 = .ok (.ldc2_w 306, 3) ∧ okop dsX12_meets_0 11 = true) ∧ (decode dsX12_meets_0 14 = .ok (.invokestatic 101, 3) ∧ okop dsX12_meets_0 14 = true) ∧ (decode dsX12_meets_0 17 = .ok (.ifCond .ne 9, 3) ∧ okop dsX12_meets_0 17 = true) := by decide +kernel
theorem dX12_meets_0 : decode cX12_meets 0 = .ok (.iload_n 1, 1) := dgq (p := 0) daX12_meets_0 dbX12_meets_0.1
theorem dX12_meets_1 : decode cX12_meets 1 = .ok (.iload_n 2, 1) := dgq (p := 1) daX12_meets_0 dbX12_meets_0.2.1
theorem dX12_meets_2 : decode cX12_meets 2 = .ok (.invokestatic 303, 3) := dgq (p := 2) daX12_meets_0 dbX12_meets_0.2.2.1
theorem dX12_meets_5 : decode cX12_meets 5 = .ok (.ifCond .eq 15, 3) := dgq (p := 5) daX12_meets_0 dbX12_meets_0.2.2.2.1
theorem dX12_meets_8 : decode cX12_meets 8 = .ok (.iload_n 3, 1) := dgq (p := 8) daX12_meets_0 dbX12_meets_0.2.2.2.2.1
theorem dX12_meets_9 : decode cX12_meets 9 = .ok (.i2l, 1) := dgq (p := 9) daX12_meets_0 dbX12_meets_0.2.2.2.2.2.1
theorem dX12_meets_10 : decode cX12_meets 10 = .ok (.lconst 0, 1) := dgq (p := 10) daX12_meets_0 dbX12_meets_0.2.2.2.2.2.2.1
theorem dX12_meets_11 : decode cX12_meets 11 = .ok (.ldc2_w 306, 3) := dgq (p := 11) daX12_meets_0 dbX12_meets_0.2.2.2.2.2.2.2.1
theorem dX12_meets_14 : decode cX12_meets 14 = .ok (.invokestatic 101, 3) := dgq (p := 14) daX12_meets_0 dbX12_meets_0.2.2.2.2.2.2.2.2.1
theorem dX12_meets_17 : decode cX12_meets 17 = .ok (.ifCond .ne 9, 3) := dgq (p := 17) daX12_meets_0 dbX12_meets_0.2.2.2.2.2.2.2.2.2
def dsX12_meets_20 : ByteArray := ⟨#[42, 4, 182, 0, 182, 172, 42, 180, 1, 26, 7, 162, 0, 11, 42, 5]⟩
theorem daX12_meets_20 : agB cX12_meets dsX12_meets_20 20 := agB_of (n := 16) (by decide +kernel)
theorem dbX12_meets_20 : (decode dsX12_meets_20 0 = .ok (.aload_n 0, 1) ∧ okop dsX12_meets_20 0 = true) ∧ (decode dsX12_meets_20 1 = .ok (.iconst 1, 1) ∧ okop dsX12_meets_20 1 = true) ∧ (decode dsX12_meets_20 2 = .ok (.invokevirtual 182, 3) ∧ okop dsX12_meets_20 2 = true) ∧ (decode dsX12_meets_20 5 = .ok (.ireturn, 1) ∧ okop dsX12_meets_20 5 = true) ∧ (decode dsX12_meets_20 6 = .ok (.aload_n 0, 1) ∧ okop dsX12_meets_20 6 = true) ∧ (decode dsX12_meets_20 7 = .ok (.getfield 282, 3) ∧ okop dsX12_meets_20 7 = true) ∧ (decode dsX12_meets_20 10 = .ok (.iconst 4, 1) ∧ okop dsX12_meets_20 10 = true) ∧ (decode dsX12_meets_20 11 = .ok (.if_icmp .ge 11, 3) ∧ okop dsX12_meets_20 11 = true) ∧ (decode dsX12_meets_20 14 = .ok (.aload_n 0, 1) ∧ okop dsX12_meets_20 14 = true) ∧ (decode dsX12_meets_20 15 = .ok (.iconst 2, 1) ∧ okop dsX12_meets_20 15 = true) := by decide +kernel
theorem dX12_meets_20 : decode cX12_meets 20 = .ok (.aload_n 0, 1) := dgq (p := 0) daX12_meets_20 dbX12_meets_20.1
theorem dX12_meets_21 : decode cX12_meets 21 = .ok (.iconst 1, 1) := dgq (p := 1) daX12_meets_20 dbX12_meets_20.2.1
theorem dX12_meets_22 : decode cX12_meets 22 = .ok (.invokevirtual 182, 3) := dgq (p := 2) daX12_meets_20 dbX12_meets_20.2.2.1
theorem dX12_meets_25 : decode cX12_meets 25 = .ok (.ireturn, 1) := dgq (p := 5) daX12_meets_20 dbX12_meets_20.2.2.2.1
theorem dX12_meets_26 : decode cX12_meets 26 = .ok (.aload_n 0, 1) := dgq (p := 6) daX12_meets_20 dbX12_meets_20.2.2.2.2.1
theorem dX12_meets_27 : decode cX12_meets 27 = .ok (.getfield 282, 3) := dgq (p := 7) daX12_meets_20 dbX12_meets_20.2.2.2.2.2.1
theorem dX12_meets_30 : decode cX12_meets 30 = .ok (.iconst 4, 1) := dgq (p := 10) daX12_meets_20 dbX12_meets_20.2.2.2.2.2.2.1
theorem dX12_meets_31 : decode cX12_meets 31 = .ok (.if_icmp .ge 11, 3) := dgq (p := 11) daX12_meets_20 dbX12_meets_20.2.2.2.2.2.2.2.1
theorem dX12_meets_34 : decode cX12_meets 34 = .ok (.aload_n 0, 1) := dgq (p := 14) daX12_meets_20 dbX12_meets_20.2.2.2.2.2.2.2.2.1
theorem dX12_meets_35 : decode cX12_meets 35 = .ok (.iconst 2, 1) := dgq (p := 15) daX12_meets_20 dbX12_meets_20.2.2.2.2.2.2.2.2.2
def dsX12_meets_36 : ByteArray := ⟨#[182, 0, 182, 167, 0, 16, 42, 42, 27, 133, 28, 133, 29, 182, 1, 52]⟩
theorem daX12_meets_36 : agB cX12_meets dsX12_meets_36 36 := agB_of (n := 16) (by decide +kernel)
theorem dbX12_meets_36 : (decode dsX12_meets_36 0 = .ok (.invokevirtual 182, 3) ∧ okop dsX12_meets_36 0 = true) ∧ (decode dsX12_meets_36 3 = .ok (.goto 16, 3) ∧ okop dsX12_meets_36 3 = true) ∧ (decode dsX12_meets_36 6 = .ok (.aload_n 0, 1) ∧ okop dsX12_meets_36 6 = true) ∧ (decode dsX12_meets_36 7 = .ok (.aload_n 0, 1) ∧ okop dsX12_meets_36 7 = true) ∧ (decode dsX12_meets_36 8 = .ok (.iload_n 1, 1) ∧ okop dsX12_meets_36 8 = true) ∧ (decode dsX12_meets_36 9 = .ok (.i2l, 1) ∧ okop dsX12_meets_36 9 = true) ∧ (decode dsX12_meets_36 10 = .ok (.iload_n 2, 1) ∧ okop dsX12_meets_36 10 = true) ∧ (decode dsX12_meets_36 11 = .ok (.i2l, 1) ∧ okop dsX12_meets_36 11 = true) ∧ (decode dsX12_meets_36 12 = .ok (.iload_n 3, 1) ∧ okop dsX12_meets_36 12 = true) ∧ (decode dsX12_meets_36 13 = .ok (.invokevirtual 308, 3) ∧ okop dsX12_meets_36 13 = true) := by decide +kernel
theorem dX12_meets_36 : decode cX12_meets 36 = .ok (.invokevirtual 182, 3) := dgq (p := 0) daX12_meets_36 dbX12_meets_36.1
theorem dX12_meets_39 : decode cX12_meets 39 = .ok (.goto 16, 3) := dgq (p := 3) daX12_meets_36 dbX12_meets_36.2.1
theorem dX12_meets_42 : decode cX12_meets 42 = .ok (.aload_n 0, 1) := dgq (p := 6) daX12_meets_36 dbX12_meets_36.2.2.1
theorem dX12_meets_43 : decode cX12_meets 43 = .ok (.aload_n 0, 1) := dgq (p := 7) daX12_meets_36 dbX12_meets_36.2.2.2.1
theorem dX12_meets_44 : decode cX12_meets 44 = .ok (.iload_n 1, 1) := dgq (p := 8) daX12_meets_36 dbX12_meets_36.2.2.2.2.1
theorem dX12_meets_45 : decode cX12_meets 45 = .ok (.i2l, 1) := dgq (p := 9) daX12_meets_36 dbX12_meets_36.2.2.2.2.2.1
theorem dX12_meets_46 : decode cX12_meets 46 = .ok (.iload_n 2, 1) := dgq (p := 10) daX12_meets_36 dbX12_meets_36.2.2.2.2.2.2.1
theorem dX12_meets_47 : decode cX12_meets 47 = .ok (.i2l, 1) := dgq (p := 11) daX12_meets_36 dbX12_meets_36.2.2.2.2.2.2.2.1
theorem dX12_meets_48 : decode cX12_meets 48 = .ok (.iload_n 3, 1) := dgq (p := 12) daX12_meets_36 dbX12_meets_36.2.2.2.2.2.2.2.2.1
theorem dX12_meets_49 : decode cX12_meets 49 = .ok (.invokevirtual 308, 3) := dgq (p := 13) daX12_meets_36 dbX12_meets_36.2.2.2.2.2.2.2.2.2
theorem dX12_meets_52 : decode cX12_meets 52 = .ok (.invokevirtual 178, 3) := by decide +kernel
theorem dX12_meets_55 : decode cX12_meets 55 = .ok (.ireturn, 1) := by decide +kernel
set_option maxRecDepth 20000 in
theorem ggX12_setMachine_X12_in : GoodIn wsX12_setMachine wsX12_in := goodIn_q _ [9] rfl (by decide +kernel)
set_option maxRecDepth 20000 in
theorem gX12_setMachine_X12_in : GoodIn wsX12_setMachine (va_wsS RX12 101 yX12_in wsX12_in) := goodIn_app (goodIn_q _ [6, 7, 8] rfl (by decide +kernel)) ggX12_setMachine_X12_in
set_option maxRecDepth 20000 in
theorem ggX12_setMachine_X12_fails : GoodIn wsX12_setMachine wsX12_fails := goodIn_ca (goodIn_q _ [13, 14] rfl (by decide +kernel)) (goodIn_sub (fun _ h => (List.mem_cons_of_mem _ (List.mem_append_right _ h))) tg_wsX120)
set_option maxRecDepth 20000 in
theorem gX12_setMachine_X12_fails : GoodIn wsX12_setMachine (wsV RX12 143 RX12 yX12_fails wsX12_fails) := goodIn_app (goodIn_q _ [10, 11, 12, 8] rfl (by decide +kernel)) ggX12_setMachine_X12_fails
set_option maxRecDepth 20000 in
theorem ggX12_setMachine_X12_answer : GoodIn wsX12_setMachine wsX12_answer := goodIn_ca (goodIn_q _ [18, 14] rfl (by decide +kernel)) (goodIn_sub (fun _ h => (List.mem_cons_of_mem _ (List.mem_append_right _ h))) tg_wsX120)
set_option maxRecDepth 20000 in
theorem gX12_setMachine_X12_answer : GoodIn wsX12_setMachine (wsV RX12 153 RX12 yX12_answer wsX12_answer) := goodIn_app (goodIn_q _ [15, 16, 17, 8] rfl (by decide +kernel)) ggX12_setMachine_X12_answer
def dsX12_setMachine_0 : ByteArray := ⟨#[27, 133, 10, 20, 1, 56, 184, 0, 101, 153, 0, 17, 28, 133, 20, 0, 3, 20, 0, 131]⟩
theorem daX12_setMachine_0 : agB cX12_setMachine dsX12_setMachine_0 0 := agB_of (n := 20) (by decide +kernel)
theorem dbX12_setMachine_0 : (decode dsX12_setMachine_0 0 = .ok (.iload_n 1, 1) ∧ okop dsX12_setMachine_0 0 = true) ∧ (decode dsX12_setMachine_0 1 = .ok (.i2l, 1) ∧ okop dsX12_setMachine_0 1 = true) ∧ (decode dsX12_setMachine_0 2 = .ok (.lconst 1, 1) ∧ okop dsX12_setMachine_0 2 = true) ∧ (decode dsX12_setMachine_0 3 = .ok (.ldc2_w 312, 3) ∧ okop dsX12_setMachine_0 3 = true) ∧ (decode dsX12_setMachine_0 6 = .ok (.invokestatic 101, 3) ∧ okop dsX12_setMachine_0 6 = true) ∧ (decode dsX12_setMachine_0 9 = .ok (.ifCond .eq 17, 3) ∧ okop dsX12_setMachine_0 9 = true) ∧ (decode dsX12_setMachine_0 12 = .ok (.iload_n 2, 1) ∧ okop dsX12_setMachine_0 12 = true) ∧ (decode dsX12_setMachine_0 13 = .ok (.i2l, 1) ∧ okop dsX12_setMachine_0 13 = true) ∧ (decode dsX12_setMachine_0 14 = .ok (.ldc2_w 3, 3) ∧ okop dsX12_setMachine_0 14 = true) ∧ (decode dsX12_setMachine_0 17 = .ok (.ldc2_w 131, 3) ∧ okop dsX12_setMachine_0 17 = true) := by decide +kernel
theorem dX12_setMachine_0 : decode cX12_setMachine 0 = .ok (.iload_n 1, 1) := dgq (p := 0) daX12_setMachine_0 dbX12_setMachine_0.1
theorem dX12_setMachine_1 : decode cX12_setMachine 1 = .ok (.i2l, 1) := dgq (p := 1) daX12_setMachine_0 dbX12_setMachine_0.2.1
theorem dX12_setMachine_2 : decode cX12_setMachine 2 = .ok (.lconst 1, 1) := dgq (p := 2) daX12_setMachine_0 dbX12_setMachine_0.2.2.1
theorem dX12_setMachine_3 : decode cX12_setMachine 3 = .ok (.ldc2_w 312, 3) := dgq (p := 3) daX12_setMachine_0 dbX12_setMachine_0.2.2.2.1
theorem dX12_setMachine_6 : decode cX12_setMachine 6 = .ok (.invokestatic 101, 3) := dgq (p := 6) daX12_setMachine_0 dbX12_setMachine_0.2.2.2.2.1
theorem dX12_setMachine_9 : decode cX12_setMachine 9 = .ok (.ifCond .eq 17, 3) := dgq (p := 9) daX12_setMachine_0 dbX12_setMachine_0.2.2.2.2.2.1
theorem dX12_setMachine_12 : decode cX12_setMachine 12 = .ok (.iload_n 2, 1) := dgq (p := 12) daX12_setMachine_0 dbX12_setMachine_0.2.2.2.2.2.2.1
theorem dX12_setMachine_13 : decode cX12_setMachine 13 = .ok (.i2l, 1) := dgq (p := 13) daX12_setMachine_0 dbX12_setMachine_0.2.2.2.2.2.2.2.1
theorem dX12_setMachine_14 : decode cX12_setMachine 14 = .ok (.ldc2_w 3, 3) := dgq (p := 14) daX12_setMachine_0 dbX12_setMachine_0.2.2.2.2.2.2.2.2.1
theorem dX12_setMachine_17 : decode cX12_setMachine 17 = .ok (.ldc2_w 131, 3) := dgq (p := 17) daX12_setMachine_0 dbX12_setMachine_0.2.2.2.2.2.2.2.2.2
def dsX12_setMachine_20 : ByteArray := ⟨#[184, 0, 101, 154, 0, 9, 42, 4, 182, 0, 143, 172, 42, 180, 0, 72, 62, 42]⟩
theorem daX12_setMachine_20 : agB cX12_setMachine dsX12_setMachine_20 20 := agB_of (n := 18) (by decide +kernel)
theorem dbX12_setMachine_20 : (decode dsX12_setMachine_20 0 = .ok (.invokestatic 101, 3) ∧ okop dsX12_setMachine_20 0 = true) ∧ (decode dsX12_setMachine_20 3 = .ok (.ifCond .ne 9, 3) ∧ okop dsX12_setMachine_20 3 = true) ∧ (decode dsX12_setMachine_20 6 = .ok (.aload_n 0, 1) ∧ okop dsX12_setMachine_20 6 = true) ∧ (decode dsX12_setMachine_20 7 = .ok (.iconst 1, 1) ∧ okop dsX12_setMachine_20 7 = true) ∧ (decode dsX12_setMachine_20 8 = .ok (.invokevirtual 143, 3) ∧ okop dsX12_setMachine_20 8 = true) ∧ (decode dsX12_setMachine_20 11 = .ok (.ireturn, 1) ∧ okop dsX12_setMachine_20 11 = true) ∧ (decode dsX12_setMachine_20 12 = .ok (.aload_n 0, 1) ∧ okop dsX12_setMachine_20 12 = true) ∧ (decode dsX12_setMachine_20 13 = .ok (.getfield 72, 3) ∧ okop dsX12_setMachine_20 13 = true) ∧ (decode dsX12_setMachine_20 16 = .ok (.istore_n 3, 1) ∧ okop dsX12_setMachine_20 16 = true) ∧ (decode dsX12_setMachine_20 17 = .ok (.aload_n 0, 1) ∧ okop dsX12_setMachine_20 17 = true) := by decide +kernel
theorem dX12_setMachine_20 : decode cX12_setMachine 20 = .ok (.invokestatic 101, 3) := dgq (p := 0) daX12_setMachine_20 dbX12_setMachine_20.1
theorem dX12_setMachine_23 : decode cX12_setMachine 23 = .ok (.ifCond .ne 9, 3) := dgq (p := 3) daX12_setMachine_20 dbX12_setMachine_20.2.1
theorem dX12_setMachine_26 : decode cX12_setMachine 26 = .ok (.aload_n 0, 1) := dgq (p := 6) daX12_setMachine_20 dbX12_setMachine_20.2.2.1
theorem dX12_setMachine_27 : decode cX12_setMachine 27 = .ok (.iconst 1, 1) := dgq (p := 7) daX12_setMachine_20 dbX12_setMachine_20.2.2.2.1
theorem dX12_setMachine_28 : decode cX12_setMachine 28 = .ok (.invokevirtual 143, 3) := dgq (p := 8) daX12_setMachine_20 dbX12_setMachine_20.2.2.2.2.1
theorem dX12_setMachine_31 : decode cX12_setMachine 31 = .ok (.ireturn, 1) := dgq (p := 11) daX12_setMachine_20 dbX12_setMachine_20.2.2.2.2.2.1
theorem dX12_setMachine_32 : decode cX12_setMachine 32 = .ok (.aload_n 0, 1) := dgq (p := 12) daX12_setMachine_20 dbX12_setMachine_20.2.2.2.2.2.2.1
theorem dX12_setMachine_33 : decode cX12_setMachine 33 = .ok (.getfield 72, 3) := dgq (p := 13) daX12_setMachine_20 dbX12_setMachine_20.2.2.2.2.2.2.2.1
theorem dX12_setMachine_36 : decode cX12_setMachine 36 = .ok (.istore_n 3, 1) := dgq (p := 16) daX12_setMachine_20 dbX12_setMachine_20.2.2.2.2.2.2.2.2.1
theorem dX12_setMachine_37 : decode cX12_setMachine 37 = .ok (.aload_n 0, 1) := dgq (p := 17) daX12_setMachine_20 dbX12_setMachine_20.2.2.2.2.2.2.2.2.2
def dsX12_setMachine_38 : ByteArray := ⟨#[27, 181, 0, 72, 42, 28, 181, 0, 76, 42, 29, 182, 0, 153, 172]⟩
theorem daX12_setMachine_38 : agB cX12_setMachine dsX12_setMachine_38 38 := agB_of (n := 15) (by decide +kernel)
theorem dbX12_setMachine_38 : (decode dsX12_setMachine_38 0 = .ok (.iload_n 1, 1) ∧ okop dsX12_setMachine_38 0 = true) ∧ (decode dsX12_setMachine_38 1 = .ok (.putfield 72, 3) ∧ okop dsX12_setMachine_38 1 = true) ∧ (decode dsX12_setMachine_38 4 = .ok (.aload_n 0, 1) ∧ okop dsX12_setMachine_38 4 = true) ∧ (decode dsX12_setMachine_38 5 = .ok (.iload_n 2, 1) ∧ okop dsX12_setMachine_38 5 = true) ∧ (decode dsX12_setMachine_38 6 = .ok (.putfield 76, 3) ∧ okop dsX12_setMachine_38 6 = true) ∧ (decode dsX12_setMachine_38 9 = .ok (.aload_n 0, 1) ∧ okop dsX12_setMachine_38 9 = true) ∧ (decode dsX12_setMachine_38 10 = .ok (.iload_n 3, 1) ∧ okop dsX12_setMachine_38 10 = true) ∧ (decode dsX12_setMachine_38 11 = .ok (.invokevirtual 153, 3) ∧ okop dsX12_setMachine_38 11 = true) ∧ (decode dsX12_setMachine_38 14 = .ok (.ireturn, 1) ∧ okop dsX12_setMachine_38 14 = true) := by decide +kernel
theorem dX12_setMachine_38 : decode cX12_setMachine 38 = .ok (.iload_n 1, 1) := dgq (p := 0) daX12_setMachine_38 dbX12_setMachine_38.1
theorem dX12_setMachine_39 : decode cX12_setMachine 39 = .ok (.putfield 72, 3) := dgq (p := 1) daX12_setMachine_38 dbX12_setMachine_38.2.1
theorem dX12_setMachine_42 : decode cX12_setMachine 42 = .ok (.aload_n 0, 1) := dgq (p := 4) daX12_setMachine_38 dbX12_setMachine_38.2.2.1
theorem dX12_setMachine_43 : decode cX12_setMachine 43 = .ok (.iload_n 2, 1) := dgq (p := 5) daX12_setMachine_38 dbX12_setMachine_38.2.2.2.1
theorem dX12_setMachine_44 : decode cX12_setMachine 44 = .ok (.putfield 76, 3) := dgq (p := 6) daX12_setMachine_38 dbX12_setMachine_38.2.2.2.2.1
theorem dX12_setMachine_47 : decode cX12_setMachine 47 = .ok (.aload_n 0, 1) := dgq (p := 9) daX12_setMachine_38 dbX12_setMachine_38.2.2.2.2.2.1
theorem dX12_setMachine_48 : decode cX12_setMachine 48 = .ok (.iload_n 3, 1) := dgq (p := 10) daX12_setMachine_38 dbX12_setMachine_38.2.2.2.2.2.2.1
theorem dX12_setMachine_49 : decode cX12_setMachine 49 = .ok (.invokevirtual 153, 3) := dgq (p := 11) daX12_setMachine_38 dbX12_setMachine_38.2.2.2.2.2.2.2.1
theorem dX12_setMachine_52 : decode cX12_setMachine 52 = .ok (.ireturn, 1) := dgq (p := 14) daX12_setMachine_38 dbX12_setMachine_38.2.2.2.2.2.2.2.2
set_option maxRecDepth 20000 in
theorem ggX12_hob_X12_in : GoodIn wsX12_hob wsX12_in := goodIn_q _ [14] rfl (by decide +kernel)
set_option maxRecDepth 20000 in
theorem gX12_hob_X12_in : GoodIn wsX12_hob (va_wsS RX12 101 yX12_in wsX12_in) := goodIn_app (goodIn_q _ [11, 12, 13] rfl (by decide +kernel)) ggX12_hob_X12_in
set_option maxRecDepth 20000 in
theorem ggX12_hob_X12_fails : GoodIn wsX12_hob wsX12_fails := goodIn_ca (goodIn_q _ [18, 19] rfl (by decide +kernel)) (goodIn_sub (fun _ h => (List.mem_cons_of_mem _ (List.mem_append_left _ (List.mem_append_left _ (List.mem_append_right _ h))))) tg_wsX120)
set_option maxRecDepth 20000 in
theorem gX12_hob_X12_fails : GoodIn wsX12_hob (wsV RX12 143 RX12 yX12_fails wsX12_fails) := goodIn_app (goodIn_q _ [15, 16, 17, 13] rfl (by decide +kernel)) ggX12_hob_X12_fails
set_option maxRecDepth 20000 in
theorem ggX12_hob_Jx4a65c_size_8abf5 : GoodIn wsX12_hob wsJx4a65c_size_8abf5 := goodIn_ca (goodIn_q _ [24, 25] rfl (by decide +kernel)) (goodIn_sub (fun _ h => (List.mem_cons_of_mem _ (List.mem_append_right _ h))) tg_wsJx4a65c0)
set_option maxRecDepth 20000 in
theorem gX12_hob_Jx4a65c_size_8abf5 : GoodIn wsX12_hob (wsV RX12 97 RJx4a65c yJx4a65c_size_8abf5 wsJx4a65c_size_8abf5) := goodIn_app (goodIn_q _ [20, 21, 22, 23] rfl (by decide +kernel)) ggX12_hob_Jx4a65c_size_8abf5
set_option maxRecDepth 20000 in
theorem ggX12_hob_X11_init : GoodIn wsX12_hob wsX11_init := goodIn_ca (goodIn_q _ [28, 29, 30, 31, 32, 33, 34, 35, 36, 37] rfl (by decide +kernel)) (goodIn_sub (fun _ h => (List.mem_cons_of_mem _ (List.mem_append_left _ (List.mem_append_right _ h)))) tg_wsX110)
set_option maxRecDepth 20000 in
theorem gX12_hob_X11_init : GoodIn wsX12_hob (wsX11_init) := ggX12_hob_X11_init
set_option maxRecDepth 20000 in
theorem ggX12_hob_Jx4a65c_add_9ea2d : GoodIn wsX12_hob wsJx4a65c_add_9ea2d := goodIn_ca (goodIn_q _ [41, 42, 43, 44, 25, 45, 46, 47, 23, 48, 49, 50, 51, 52, 53, 54, 55, 56, 57, 58, 59, 60, 61, 62, 63, 64, 65, 66, 67, 68, 69, 70, 71, 72, 73, 74, 75, 76, 77, 78, 79, 80, 81, 82, 83, 84, 85, 86, 87, 88, 89, 90, 91] rfl (by decide +kernel)) (goodIn_sub (fun _ h => (List.mem_cons_of_mem _ (List.mem_append_right _ h))) tg_wsJx4a65c0)
set_option maxRecDepth 20000 in
theorem gX12_hob_Jx4a65c_add_9ea2d : GoodIn wsX12_hob (wsV RX12 149 RJx4a65c yJx4a65c_add_9ea2d wsJx4a65c_add_9ea2d) := goodIn_app (goodIn_q _ [38, 39, 40, 23] rfl (by decide +kernel)) ggX12_hob_Jx4a65c_add_9ea2d
set_option maxRecDepth 20000 in
theorem ggX12_hob_X12_answer : GoodIn wsX12_hob wsX12_answer := goodIn_ca (goodIn_q _ [95, 19] rfl (by decide +kernel)) (goodIn_sub (fun _ h => (List.mem_cons_of_mem _ (List.mem_append_left _ (List.mem_append_left _ (List.mem_append_right _ h))))) tg_wsX120)
set_option maxRecDepth 20000 in
theorem gX12_hob_X12_answer : GoodIn wsX12_hob (wsV RX12 153 RX12 yX12_answer wsX12_answer) := goodIn_app (goodIn_q _ [92, 93, 94, 13] rfl (by decide +kernel)) ggX12_hob_X12_answer
def dsX12_hob_0 : ByteArray := ⟨#[27, 133, 20, 0, 133, 20, 0, 135, 184, 0, 101, 153, 0, 42, 28, 133, 10, 20, 1, 58]⟩
theorem daX12_hob_0 : agB cX12_hob dsX12_hob_0 0 := agB_of (n := 20) (by decide +kernel)
theorem dbX12_hob_0 : (decode dsX12_hob_0 0 = .ok (.iload_n 1, 1) ∧ okop dsX12_hob_0 0 = true) ∧ (decode dsX12_hob_0 1 = .ok (.i2l, 1) ∧ okop dsX12_hob_0 1 = true) ∧ (decode dsX12_hob_0 2 = .ok (.ldc2_w 133, 3) ∧ okop dsX12_hob_0 2 = true) ∧ (decode dsX12_hob_0 5 = .ok (.ldc2_w 135, 3) ∧ okop dsX12_hob_0 5 = true) ∧ (decode dsX12_hob_0 8 = .ok (.invokestatic 101, 3) ∧ okop dsX12_hob_0 8 = true) ∧ (decode dsX12_hob_0 11 = .ok (.ifCond .eq 42, 3) ∧ okop dsX12_hob_0 11 = true) ∧ (decode dsX12_hob_0 14 = .ok (.iload_n 2, 1) ∧ okop dsX12_hob_0 14 = true) ∧ (decode dsX12_hob_0 15 = .ok (.i2l, 1) ∧ okop dsX12_hob_0 15 = true) ∧ (decode dsX12_hob_0 16 = .ok (.lconst 1, 1) ∧ okop dsX12_hob_0 16 = true) ∧ (decode dsX12_hob_0 17 = .ok (.ldc2_w 314, 3) ∧ okop dsX12_hob_0 17 = true) := by decide +kernel
theorem dX12_hob_0 : decode cX12_hob 0 = .ok (.iload_n 1, 1) := dgq (p := 0) daX12_hob_0 dbX12_hob_0.1
theorem dX12_hob_1 : decode cX12_hob 1 = .ok (.i2l, 1) := dgq (p := 1) daX12_hob_0 dbX12_hob_0.2.1
theorem dX12_hob_2 : decode cX12_hob 2 = .ok (.ldc2_w 133, 3) := dgq (p := 2) daX12_hob_0 dbX12_hob_0.2.2.1
theorem dX12_hob_5 : decode cX12_hob 5 = .ok (.ldc2_w 135, 3) := dgq (p := 5) daX12_hob_0 dbX12_hob_0.2.2.2.1
theorem dX12_hob_8 : decode cX12_hob 8 = .ok (.invokestatic 101, 3) := dgq (p := 8) daX12_hob_0 dbX12_hob_0.2.2.2.2.1
theorem dX12_hob_11 : decode cX12_hob 11 = .ok (.ifCond .eq 42, 3) := dgq (p := 11) daX12_hob_0 dbX12_hob_0.2.2.2.2.2.1
theorem dX12_hob_14 : decode cX12_hob 14 = .ok (.iload_n 2, 1) := dgq (p := 14) daX12_hob_0 dbX12_hob_0.2.2.2.2.2.2.1
theorem dX12_hob_15 : decode cX12_hob 15 = .ok (.i2l, 1) := dgq (p := 15) daX12_hob_0 dbX12_hob_0.2.2.2.2.2.2.2.1
theorem dX12_hob_16 : decode cX12_hob 16 = .ok (.lconst 1, 1) := dgq (p := 16) daX12_hob_0 dbX12_hob_0.2.2.2.2.2.2.2.2.1
theorem dX12_hob_17 : decode cX12_hob 17 = .ok (.ldc2_w 314, 3) := dgq (p := 17) daX12_hob_0 dbX12_hob_0.2.2.2.2.2.2.2.2.2
def dsX12_hob_20 : ByteArray := ⟨#[184, 0, 101, 153, 0, 30, 29, 133, 20, 1, 60, 20, 1, 62, 184, 0, 101, 153, 0, 16, 21, 4, 133]⟩
theorem daX12_hob_20 : agB cX12_hob dsX12_hob_20 20 := agB_of (n := 23) (by decide +kernel)
theorem dbX12_hob_20 : (decode dsX12_hob_20 0 = .ok (.invokestatic 101, 3) ∧ okop dsX12_hob_20 0 = true) ∧ (decode dsX12_hob_20 3 = .ok (.ifCond .eq 30, 3) ∧ okop dsX12_hob_20 3 = true) ∧ (decode dsX12_hob_20 6 = .ok (.iload_n 3, 1) ∧ okop dsX12_hob_20 6 = true) ∧ (decode dsX12_hob_20 7 = .ok (.i2l, 1) ∧ okop dsX12_hob_20 7 = true) ∧ (decode dsX12_hob_20 8 = .ok (.ldc2_w 316, 3) ∧ okop dsX12_hob_20 8 = true) ∧ (decode dsX12_hob_20 11 = .ok (.ldc2_w 318, 3) ∧ okop dsX12_hob_20 11 = true) ∧ (decode dsX12_hob_20 14 = .ok (.invokestatic 101, 3) ∧ okop dsX12_hob_20 14 = true) ∧ (decode dsX12_hob_20 17 = .ok (.ifCond .eq 16, 3) ∧ okop dsX12_hob_20 17 = true) ∧ (decode dsX12_hob_20 20 = .ok (.iload 4, 2) ∧ okop dsX12_hob_20 20 = true) ∧ (decode dsX12_hob_20 22 = .ok (.i2l, 1) ∧ okop dsX12_hob_20 22 = true) := by decide +kernel
theorem dX12_hob_20 : decode cX12_hob 20 = .ok (.invokestatic 101, 3) := dgq (p := 0) daX12_hob_20 dbX12_hob_20.1
theorem dX12_hob_23 : decode cX12_hob 23 = .ok (.ifCond .eq 30, 3) := dgq (p := 3) daX12_hob_20 dbX12_hob_20.2.1
theorem dX12_hob_26 : decode cX12_hob 26 = .ok (.iload_n 3, 1) := dgq (p := 6) daX12_hob_20 dbX12_hob_20.2.2.1
theorem dX12_hob_27 : decode cX12_hob 27 = .ok (.i2l, 1) := dgq (p := 7) daX12_hob_20 dbX12_hob_20.2.2.2.1
theorem dX12_hob_28 : decode cX12_hob 28 = .ok (.ldc2_w 316, 3) := dgq (p := 8) daX12_hob_20 dbX12_hob_20.2.2.2.2.1
theorem dX12_hob_31 : decode cX12_hob 31 = .ok (.ldc2_w 318, 3) := dgq (p := 11) daX12_hob_20 dbX12_hob_20.2.2.2.2.2.1
theorem dX12_hob_34 : decode cX12_hob 34 = .ok (.invokestatic 101, 3) := dgq (p := 14) daX12_hob_20 dbX12_hob_20.2.2.2.2.2.2.1
theorem dX12_hob_37 : decode cX12_hob 37 = .ok (.ifCond .eq 16, 3) := dgq (p := 17) daX12_hob_20 dbX12_hob_20.2.2.2.2.2.2.2.1
theorem dX12_hob_40 : decode cX12_hob 40 = .ok (.iload 4, 2) := dgq (p := 20) daX12_hob_20 dbX12_hob_20.2.2.2.2.2.2.2.2.1
theorem dX12_hob_42 : decode cX12_hob 42 = .ok (.i2l, 1) := dgq (p := 22) daX12_hob_20 dbX12_hob_20.2.2.2.2.2.2.2.2.2
def dsX12_hob_43 : ByteArray := ⟨#[10, 20, 1, 64, 184, 0, 101, 154, 0, 9, 42, 4, 182, 0, 143, 172, 42, 180, 0, 28]⟩
theorem daX12_hob_43 : agB cX12_hob dsX12_hob_43 43 := agB_of (n := 20) (by decide +kernel)
theorem dbX12_hob_43 : (decode dsX12_hob_43 0 = .ok (.lconst 1, 1) ∧ okop dsX12_hob_43 0 = true) ∧ (decode dsX12_hob_43 1 = .ok (.ldc2_w 320, 3) ∧ okop dsX12_hob_43 1 = true) ∧ (decode dsX12_hob_43 4 = .ok (.invokestatic 101, 3) ∧ okop dsX12_hob_43 4 = true) ∧ (decode dsX12_hob_43 7 = .ok (.ifCond .ne 9, 3) ∧ okop dsX12_hob_43 7 = true) ∧ (decode dsX12_hob_43 10 = .ok (.aload_n 0, 1) ∧ okop dsX12_hob_43 10 = true) ∧ (decode dsX12_hob_43 11 = .ok (.iconst 1, 1) ∧ okop dsX12_hob_43 11 = true) ∧ (decode dsX12_hob_43 12 = .ok (.invokevirtual 143, 3) ∧ okop dsX12_hob_43 12 = true) ∧ (decode dsX12_hob_43 15 = .ok (.ireturn, 1) ∧ okop dsX12_hob_43 15 = true) ∧ (decode dsX12_hob_43 16 = .ok (.aload_n 0, 1) ∧ okop dsX12_hob_43 16 = true) ∧ (decode dsX12_hob_43 17 = .ok (.getfield 28, 3) ∧ okop dsX12_hob_43 17 = true) := by decide +kernel
theorem dX12_hob_43 : decode cX12_hob 43 = .ok (.lconst 1, 1) := dgq (p := 0) daX12_hob_43 dbX12_hob_43.1
theorem dX12_hob_44 : decode cX12_hob 44 = .ok (.ldc2_w 320, 3) := dgq (p := 1) daX12_hob_43 dbX12_hob_43.2.1
theorem dX12_hob_47 : decode cX12_hob 47 = .ok (.invokestatic 101, 3) := dgq (p := 4) daX12_hob_43 dbX12_hob_43.2.2.1
theorem dX12_hob_50 : decode cX12_hob 50 = .ok (.ifCond .ne 9, 3) := dgq (p := 7) daX12_hob_43 dbX12_hob_43.2.2.2.1
theorem dX12_hob_53 : decode cX12_hob 53 = .ok (.aload_n 0, 1) := dgq (p := 10) daX12_hob_43 dbX12_hob_43.2.2.2.2.1
theorem dX12_hob_54 : decode cX12_hob 54 = .ok (.iconst 1, 1) := dgq (p := 11) daX12_hob_43 dbX12_hob_43.2.2.2.2.2.1
theorem dX12_hob_55 : decode cX12_hob 55 = .ok (.invokevirtual 143, 3) := dgq (p := 12) daX12_hob_43 dbX12_hob_43.2.2.2.2.2.2.1
theorem dX12_hob_58 : decode cX12_hob 58 = .ok (.ireturn, 1) := dgq (p := 15) daX12_hob_43 dbX12_hob_43.2.2.2.2.2.2.2.1
theorem dX12_hob_59 : decode cX12_hob 59 = .ok (.aload_n 0, 1) := dgq (p := 16) daX12_hob_43 dbX12_hob_43.2.2.2.2.2.2.2.2.1
theorem dX12_hob_60 : decode cX12_hob 60 = .ok (.getfield 28, 3) := dgq (p := 17) daX12_hob_43 dbX12_hob_43.2.2.2.2.2.2.2.2.2
def dsX12_hob_63 : ByteArray := ⟨#[182, 0, 97, 16, 8, 160, 0, 9, 42, 5, 182, 0, 143, 172, 42, 180, 0, 28, 187, 1, 66]⟩
theorem daX12_hob_63 : agB cX12_hob dsX12_hob_63 63 := agB_of (n := 21) (by decide +kernel)
theorem dbX12_hob_63 : (decode dsX12_hob_63 0 = .ok (.invokevirtual 97, 3) ∧ okop dsX12_hob_63 0 = true) ∧ (decode dsX12_hob_63 3 = .ok (.bipush 8, 2) ∧ okop dsX12_hob_63 3 = true) ∧ (decode dsX12_hob_63 5 = .ok (.if_icmp .ne 9, 3) ∧ okop dsX12_hob_63 5 = true) ∧ (decode dsX12_hob_63 8 = .ok (.aload_n 0, 1) ∧ okop dsX12_hob_63 8 = true) ∧ (decode dsX12_hob_63 9 = .ok (.iconst 2, 1) ∧ okop dsX12_hob_63 9 = true) ∧ (decode dsX12_hob_63 10 = .ok (.invokevirtual 143, 3) ∧ okop dsX12_hob_63 10 = true) ∧ (decode dsX12_hob_63 13 = .ok (.ireturn, 1) ∧ okop dsX12_hob_63 13 = true) ∧ (decode dsX12_hob_63 14 = .ok (.aload_n 0, 1) ∧ okop dsX12_hob_63 14 = true) ∧ (decode dsX12_hob_63 15 = .ok (.getfield 28, 3) ∧ okop dsX12_hob_63 15 = true) ∧ (decode dsX12_hob_63 18 = .ok (.new 322, 3) ∧ okop dsX12_hob_63 18 = true) := by decide +kernel
theorem dX12_hob_63 : decode cX12_hob 63 = .ok (.invokevirtual 97, 3) := dgq (p := 0) daX12_hob_63 dbX12_hob_63.1
theorem dX12_hob_66 : decode cX12_hob 66 = .ok (.bipush 8, 2) := dgq (p := 3) daX12_hob_63 dbX12_hob_63.2.1
theorem dX12_hob_68 : decode cX12_hob 68 = .ok (.if_icmp .ne 9, 3) := dgq (p := 5) daX12_hob_63 dbX12_hob_63.2.2.1
theorem dX12_hob_71 : decode cX12_hob 71 = .ok (.aload_n 0, 1) := dgq (p := 8) daX12_hob_63 dbX12_hob_63.2.2.2.1
theorem dX12_hob_72 : decode cX12_hob 72 = .ok (.iconst 2, 1) := dgq (p := 9) daX12_hob_63 dbX12_hob_63.2.2.2.2.1
theorem dX12_hob_73 : decode cX12_hob 73 = .ok (.invokevirtual 143, 3) := dgq (p := 10) daX12_hob_63 dbX12_hob_63.2.2.2.2.2.1
theorem dX12_hob_76 : decode cX12_hob 76 = .ok (.ireturn, 1) := dgq (p := 13) daX12_hob_63 dbX12_hob_63.2.2.2.2.2.2.1
theorem dX12_hob_77 : decode cX12_hob 77 = .ok (.aload_n 0, 1) := dgq (p := 14) daX12_hob_63 dbX12_hob_63.2.2.2.2.2.2.2.1
theorem dX12_hob_78 : decode cX12_hob 78 = .ok (.getfield 28, 3) := dgq (p := 15) daX12_hob_63 dbX12_hob_63.2.2.2.2.2.2.2.2.1
theorem dX12_hob_81 : decode cX12_hob 81 = .ok (.new 322, 3) := dgq (p := 18) daX12_hob_63 dbX12_hob_63.2.2.2.2.2.2.2.2.2
def dsX12_hob_84 : ByteArray := ⟨#[89, 27, 28, 29, 21, 4, 183, 1, 68, 182, 0, 149, 87, 42, 42]⟩
theorem daX12_hob_84 : agB cX12_hob dsX12_hob_84 84 := agB_of (n := 15) (by decide +kernel)
theorem dbX12_hob_84 : (decode dsX12_hob_84 0 = .ok (.dup, 1) ∧ okop dsX12_hob_84 0 = true) ∧ (decode dsX12_hob_84 1 = .ok (.iload_n 1, 1) ∧ okop dsX12_hob_84 1 = true) ∧ (decode dsX12_hob_84 2 = .ok (.iload_n 2, 1) ∧ okop dsX12_hob_84 2 = true) ∧ (decode dsX12_hob_84 3 = .ok (.iload_n 3, 1) ∧ okop dsX12_hob_84 3 = true) ∧ (decode dsX12_hob_84 4 = .ok (.iload 4, 2) ∧ okop dsX12_hob_84 4 = true) ∧ (decode dsX12_hob_84 6 = .ok (.invokespecial 324, 3) ∧ okop dsX12_hob_84 6 = true) ∧ (decode dsX12_hob_84 9 = .ok (.invokevirtual 149, 3) ∧ okop dsX12_hob_84 9 = true) ∧ (decode dsX12_hob_84 12 = .ok (.pop, 1) ∧ okop dsX12_hob_84 12 = true) ∧ (decode dsX12_hob_84 13 = .ok (.aload_n 0, 1) ∧ okop dsX12_hob_84 13 = true) ∧ (decode dsX12_hob_84 14 = .ok (.aload_n 0, 1) ∧ okop dsX12_hob_84 14 = true) := by decide +kernel
theorem dX12_hob_84 : decode cX12_hob 84 = .ok (.dup, 1) := dgq (p := 0) daX12_hob_84 dbX12_hob_84.1
theorem dX12_hob_85 : decode cX12_hob 85 = .ok (.iload_n 1, 1) := dgq (p := 1) daX12_hob_84 dbX12_hob_84.2.1
theorem dX12_hob_86 : decode cX12_hob 86 = .ok (.iload_n 2, 1) := dgq (p := 2) daX12_hob_84 dbX12_hob_84.2.2.1
theorem dX12_hob_87 : decode cX12_hob 87 = .ok (.iload_n 3, 1) := dgq (p := 3) daX12_hob_84 dbX12_hob_84.2.2.2.1
theorem dX12_hob_88 : decode cX12_hob 88 = .ok (.iload 4, 2) := dgq (p := 4) daX12_hob_84 dbX12_hob_84.2.2.2.2.1
theorem dX12_hob_90 : decode cX12_hob 90 = .ok (.invokespecial 324, 3) := dgq (p := 6) daX12_hob_84 dbX12_hob_84.2.2.2.2.2.1
theorem dX12_hob_93 : decode cX12_hob 93 = .ok (.invokevirtual 149, 3) := dgq (p := 9) daX12_hob_84 dbX12_hob_84.2.2.2.2.2.2.1
theorem dX12_hob_96 : decode cX12_hob 96 = .ok (.pop, 1) := dgq (p := 12) daX12_hob_84 dbX12_hob_84.2.2.2.2.2.2.2.1
theorem dX12_hob_97 : decode cX12_hob 97 = .ok (.aload_n 0, 1) := dgq (p := 13) daX12_hob_84 dbX12_hob_84.2.2.2.2.2.2.2.2.1
theorem dX12_hob_98 : decode cX12_hob 98 = .ok (.aload_n 0, 1) := dgq (p := 14) daX12_hob_84 dbX12_hob_84.2.2.2.2.2.2.2.2.2
def dsX12_hob_99 : ByteArray := ⟨#[180, 0, 28, 182, 0, 97, 4, 100, 182, 0, 153, 172]⟩
theorem daX12_hob_99 : agB cX12_hob dsX12_hob_99 99 := agB_of (n := 12) (by decide +kernel)
theorem dbX12_hob_99 : (decode dsX12_hob_99 0 = .ok (.getfield 28, 3) ∧ okop dsX12_hob_99 0 = true) ∧ (decode dsX12_hob_99 3 = .ok (.invokevirtual 97, 3) ∧ okop dsX12_hob_99 3 = true) ∧ (decode dsX12_hob_99 6 = .ok (.iconst 1, 1) ∧ okop dsX12_hob_99 6 = true) ∧ (decode dsX12_hob_99 7 = .ok (.isub, 1) ∧ okop dsX12_hob_99 7 = true) ∧ (decode dsX12_hob_99 8 = .ok (.invokevirtual 153, 3) ∧ okop dsX12_hob_99 8 = true) ∧ (decode dsX12_hob_99 11 = .ok (.ireturn, 1) ∧ okop dsX12_hob_99 11 = true) := by decide +kernel
theorem dX12_hob_99 : decode cX12_hob 99 = .ok (.getfield 28, 3) := dgq (p := 0) daX12_hob_99 dbX12_hob_99.1
theorem dX12_hob_102 : decode cX12_hob 102 = .ok (.invokevirtual 97, 3) := dgq (p := 3) daX12_hob_99 dbX12_hob_99.2.1
theorem dX12_hob_105 : decode cX12_hob 105 = .ok (.iconst 1, 1) := dgq (p := 6) daX12_hob_99 dbX12_hob_99.2.2.1
theorem dX12_hob_106 : decode cX12_hob 106 = .ok (.isub, 1) := dgq (p := 7) daX12_hob_99 dbX12_hob_99.2.2.2.1
theorem dX12_hob_107 : decode cX12_hob 107 = .ok (.invokevirtual 153, 3) := dgq (p := 8) daX12_hob_99 dbX12_hob_99.2.2.2.2.1
theorem dX12_hob_110 : decode cX12_hob 110 = .ok (.ireturn, 1) := dgq (p := 11) daX12_hob_99 dbX12_hob_99.2.2.2.2.2
set_option maxRecDepth 20000 in
theorem ggX12_indexes_X12_isGear : GoodIn wsX12_indexes wsX12_isGear := goodIn_ca (goodIn_ca (goodIn_q _ [10, 11, 12, 13, 14, 15, 16, 17, 18, 19, 9, 20] rfl (by decide +kernel)) (goodIn_sub (fun _ h => (List.mem_cons_of_mem _ (List.mem_append_left _ (List.mem_append_left _ (List.mem_append_left _ (List.mem_append_left _ (List.mem_append_right _ h))))))) tg_wsX120)) (goodIn_sub (fun _ h => (List.mem_cons_of_mem _ (List.mem_append_left _ (List.mem_append_right _ h)))) tg_wsJx4a65c0)
set_option maxRecDepth 20000 in
theorem gX12_indexes_X12_isGear : GoodIn wsX12_indexes (wsV RX12 121 RX12 yX12_isGear wsX12_isGear) := goodIn_app (goodIn_q _ [6, 7, 8, 9] rfl (by decide +kernel)) ggX12_indexes_X12_isGear
set_option maxRecDepth 20000 in
theorem ggX12_indexes_X12_isHob : GoodIn wsX12_indexes wsX12_isHob := goodIn_ca (goodIn_ca (goodIn_q _ [24, 4, 12, 13, 14, 15, 16, 17, 18, 19, 9, 20] rfl (by decide +kernel)) (goodIn_sub (fun _ h => (List.mem_cons_of_mem _ (List.mem_append_left _ (List.mem_append_left _ (List.mem_append_left _ (List.mem_append_left _ (List.mem_append_right _ h))))))) tg_wsX120)) (goodIn_sub (fun _ h => (List.mem_cons_of_mem _ (List.mem_append_left _ (List.mem_append_right _ h)))) tg_wsJx4a65c0)
set_option maxRecDepth 20000 in
theorem gX12_indexes_X12_isHob : GoodIn wsX12_indexes (wsV RX12 326 RX12 yX12_isHob wsX12_isHob) := goodIn_app (goodIn_q _ [21, 22, 23, 9] rfl (by decide +kernel)) ggX12_indexes_X12_isHob
set_option maxRecDepth 20000 in
theorem ggX12_indexes_X12_refuses : GoodIn wsX12_indexes wsX12_refuses := goodIn_ca (goodIn_q _ [28, 29] rfl (by decide +kernel)) (goodIn_sub (fun _ h => (List.mem_cons_of_mem _ (List.mem_append_left _ (List.mem_append_left _ (List.mem_append_left _ (List.mem_append_left _ (List.mem_append_right _ h))))))) tg_wsX120)
set_option maxRecDepth 20000 in
theorem gX12_indexes_X12_refuses : GoodIn wsX12_indexes (wsV RX12 182 RX12 yX12_refuses wsX12_refuses) := goodIn_app (goodIn_q _ [25, 26, 27, 9] rfl (by decide +kernel)) ggX12_indexes_X12_refuses
set_option maxRecDepth 20000 in
theorem ggX12_indexes_X12_in : GoodIn wsX12_indexes wsX12_in := goodIn_q _ [20] rfl (by decide +kernel)
set_option maxRecDepth 20000 in
theorem gX12_indexes_X12_in : GoodIn wsX12_indexes (va_wsS RX12 101 yX12_in wsX12_in) := goodIn_app (goodIn_q _ [18, 19, 9] rfl (by decide +kernel)) ggX12_indexes_X12_in
set_option maxRecDepth 20000 in
theorem ggX12_indexes_Jx4a65c_get_915e3 : GoodIn wsX12_indexes wsJx4a65c_get_915e3 := goodIn_ca (goodIn_q _ [33, 17, 34, 35, 36, 37, 38, 39, 40, 41, 42, 43, 44, 15, 45, 46] rfl (by decide +kernel)) (goodIn_sub (fun _ h => (List.mem_cons_of_mem _ (List.mem_append_left _ (List.mem_append_right _ h)))) tg_wsJx4a65c0)
set_option maxRecDepth 20000 in
theorem gX12_indexes_Jx4a65c_get_915e3 : GoodIn wsX12_indexes (wsV RX12 105 RJx4a65c yJx4a65c_get_915e3 wsJx4a65c_get_915e3) := goodIn_app (goodIn_q _ [30, 31, 32, 15] rfl (by decide +kernel)) ggX12_indexes_Jx4a65c_get_915e3
set_option maxRecDepth 20000 in
theorem ggX12_indexes_X12_gearAt : GoodIn wsX12_indexes wsX12_gearAt := goodIn_ca (goodIn_ca (goodIn_q _ [50, 11, 51, 30, 31, 32, 15, 33, 17, 34, 35, 36, 37, 38, 39, 40, 41, 42, 43, 44, 45, 46] rfl (by decide +kernel)) (goodIn_sub (fun _ h => (List.mem_cons_of_mem _ (List.mem_append_left _ (List.mem_append_left _ (List.mem_append_left _ (List.mem_append_left _ (List.mem_append_right _ h))))))) tg_wsX120)) (goodIn_sub (fun _ h => (List.mem_cons_of_mem _ (List.mem_append_left _ (List.mem_append_right _ h)))) tg_wsJx4a65c0)
set_option maxRecDepth 20000 in
theorem gX12_indexes_X12_gearAt : GoodIn wsX12_indexes (wsV RX12 111 RX12 yX12_gearAt wsX12_gearAt) := goodIn_app (goodIn_q _ [47, 48, 49, 9] rfl (by decide +kernel)) ggX12_indexes_X12_gearAt
set_option maxRecDepth 20000 in
theorem ggX12_indexes_X12_isMet : GoodIn wsX12_indexes wsX12_isMet := goodIn_ca (goodIn_ca (goodIn_q _ [55, 56, 57, 58, 59, 60, 9, 61, 62, 63, 64, 65, 66, 2, 67, 68, 69, 70, 71, 72, 73, 74, 75, 76, 77, 78] rfl (by decide +kernel)) (goodIn_sub (fun _ h => (List.mem_cons_of_mem _ (List.mem_append_left _ (List.mem_append_left _ (List.mem_append_left _ (List.mem_append_left _ (List.mem_append_right _ h))))))) tg_wsX120)) (goodIn_sub (fun _ h => List.mem_cons_of_mem _ (List.mem_append_right _ h)) (by decide +kernel))
set_option maxRecDepth 20000 in
theorem gX12_indexes_X12_isMet : GoodIn wsX12_indexes (wsV RX12 308 RX12 yX12_isMet wsX12_isMet) := goodIn_app (goodIn_q _ [52, 53, 54, 9] rfl (by decide +kernel)) ggX12_indexes_X12_isMet
set_option maxRecDepth 20000 in
theorem ggX12_indexes_X12_says : GoodIn wsX12_indexes wsX12_says := goodIn_ca (goodIn_q _ [82, 29] rfl (by decide +kernel)) (goodIn_sub (fun _ h => (List.mem_cons_of_mem _ (List.mem_append_left _ (List.mem_append_left _ (List.mem_append_left _ (List.mem_append_left _ (List.mem_append_right _ h))))))) tg_wsX120)
set_option maxRecDepth 20000 in
theorem gX12_indexes_X12_says : GoodIn wsX12_indexes (wsV RX12 178 RX12 yX12_says wsX12_says) := goodIn_app (goodIn_q _ [79, 80, 81, 9] rfl (by decide +kernel)) ggX12_indexes_X12_says
def dsX12_indexes_0 : ByteArray := ⟨#[42, 27, 182, 0, 121, 153, 0, 11, 42, 28, 182, 1, 70, 154, 0, 9, 42, 4]⟩
theorem daX12_indexes_0 : agB cX12_indexes dsX12_indexes_0 0 := agB_of (n := 18) (by decide +kernel)
theorem dbX12_indexes_0 : (decode dsX12_indexes_0 0 = .ok (.aload_n 0, 1) ∧ okop dsX12_indexes_0 0 = true) ∧ (decode dsX12_indexes_0 1 = .ok (.iload_n 1, 1) ∧ okop dsX12_indexes_0 1 = true) ∧ (decode dsX12_indexes_0 2 = .ok (.invokevirtual 121, 3) ∧ okop dsX12_indexes_0 2 = true) ∧ (decode dsX12_indexes_0 5 = .ok (.ifCond .eq 11, 3) ∧ okop dsX12_indexes_0 5 = true) ∧ (decode dsX12_indexes_0 8 = .ok (.aload_n 0, 1) ∧ okop dsX12_indexes_0 8 = true) ∧ (decode dsX12_indexes_0 9 = .ok (.iload_n 2, 1) ∧ okop dsX12_indexes_0 9 = true) ∧ (decode dsX12_indexes_0 10 = .ok (.invokevirtual 326, 3) ∧ okop dsX12_indexes_0 10 = true) ∧ (decode dsX12_indexes_0 13 = .ok (.ifCond .ne 9, 3) ∧ okop dsX12_indexes_0 13 = true) ∧ (decode dsX12_indexes_0 16 = .ok (.aload_n 0, 1) ∧ okop dsX12_indexes_0 16 = true) ∧ (decode dsX12_indexes_0 17 = .ok (.iconst 1, 1) ∧ okop dsX12_indexes_0 17 = true) := by decide +kernel
theorem dX12_indexes_0 : decode cX12_indexes 0 = .ok (.aload_n 0, 1) := dgq (p := 0) daX12_indexes_0 dbX12_indexes_0.1
theorem dX12_indexes_1 : decode cX12_indexes 1 = .ok (.iload_n 1, 1) := dgq (p := 1) daX12_indexes_0 dbX12_indexes_0.2.1
theorem dX12_indexes_2 : decode cX12_indexes 2 = .ok (.invokevirtual 121, 3) := dgq (p := 2) daX12_indexes_0 dbX12_indexes_0.2.2.1
theorem dX12_indexes_5 : decode cX12_indexes 5 = .ok (.ifCond .eq 11, 3) := dgq (p := 5) daX12_indexes_0 dbX12_indexes_0.2.2.2.1
theorem dX12_indexes_8 : decode cX12_indexes 8 = .ok (.aload_n 0, 1) := dgq (p := 8) daX12_indexes_0 dbX12_indexes_0.2.2.2.2.1
theorem dX12_indexes_9 : decode cX12_indexes 9 = .ok (.iload_n 2, 1) := dgq (p := 9) daX12_indexes_0 dbX12_indexes_0.2.2.2.2.2.1
theorem dX12_indexes_10 : decode cX12_indexes 10 = .ok (.invokevirtual 326, 3) := dgq (p := 10) daX12_indexes_0 dbX12_indexes_0.2.2.2.2.2.2.1
theorem dX12_indexes_13 : decode cX12_indexes 13 = .ok (.ifCond .ne 9, 3) := dgq (p := 13) daX12_indexes_0 dbX12_indexes_0.2.2.2.2.2.2.2.1
theorem dX12_indexes_16 : decode cX12_indexes 16 = .ok (.aload_n 0, 1) := dgq (p := 16) daX12_indexes_0 dbX12_indexes_0.2.2.2.2.2.2.2.2.1
theorem dX12_indexes_17 : decode cX12_indexes 17 = .ok (.iconst 1, 1) := dgq (p := 17) daX12_indexes_0 dbX12_indexes_0.2.2.2.2.2.2.2.2.2
def dsX12_indexes_18 : ByteArray := ⟨#[182, 0, 182, 172, 29, 133, 9, 20, 1, 50, 184, 0, 101, 154, 0, 9, 42, 5]⟩
theorem daX12_indexes_18 : agB cX12_indexes dsX12_indexes_18 18 := agB_of (n := 18) (by decide +kernel)
theorem dbX12_indexes_18 : (decode dsX12_indexes_18 0 = .ok (.invokevirtual 182, 3) ∧ okop dsX12_indexes_18 0 = true) ∧ (decode dsX12_indexes_18 3 = .ok (.ireturn, 1) ∧ okop dsX12_indexes_18 3 = true) ∧ (decode dsX12_indexes_18 4 = .ok (.iload_n 3, 1) ∧ okop dsX12_indexes_18 4 = true) ∧ (decode dsX12_indexes_18 5 = .ok (.i2l, 1) ∧ okop dsX12_indexes_18 5 = true) ∧ (decode dsX12_indexes_18 6 = .ok (.lconst 0, 1) ∧ okop dsX12_indexes_18 6 = true) ∧ (decode dsX12_indexes_18 7 = .ok (.ldc2_w 306, 3) ∧ okop dsX12_indexes_18 7 = true) ∧ (decode dsX12_indexes_18 10 = .ok (.invokestatic 101, 3) ∧ okop dsX12_indexes_18 10 = true) ∧ (decode dsX12_indexes_18 13 = .ok (.ifCond .ne 9, 3) ∧ okop dsX12_indexes_18 13 = true) ∧ (decode dsX12_indexes_18 16 = .ok (.aload_n 0, 1) ∧ okop dsX12_indexes_18 16 = true) ∧ (decode dsX12_indexes_18 17 = .ok (.iconst 2, 1) ∧ okop dsX12_indexes_18 17 = true) := by decide +kernel
theorem dX12_indexes_18 : decode cX12_indexes 18 = .ok (.invokevirtual 182, 3) := dgq (p := 0) daX12_indexes_18 dbX12_indexes_18.1
theorem dX12_indexes_21 : decode cX12_indexes 21 = .ok (.ireturn, 1) := dgq (p := 3) daX12_indexes_18 dbX12_indexes_18.2.1
theorem dX12_indexes_22 : decode cX12_indexes 22 = .ok (.iload_n 3, 1) := dgq (p := 4) daX12_indexes_18 dbX12_indexes_18.2.2.1
theorem dX12_indexes_23 : decode cX12_indexes 23 = .ok (.i2l, 1) := dgq (p := 5) daX12_indexes_18 dbX12_indexes_18.2.2.2.1
theorem dX12_indexes_24 : decode cX12_indexes 24 = .ok (.lconst 0, 1) := dgq (p := 6) daX12_indexes_18 dbX12_indexes_18.2.2.2.2.1
theorem dX12_indexes_25 : decode cX12_indexes 25 = .ok (.ldc2_w 306, 3) := dgq (p := 7) daX12_indexes_18 dbX12_indexes_18.2.2.2.2.2.1
theorem dX12_indexes_28 : decode cX12_indexes 28 = .ok (.invokestatic 101, 3) := dgq (p := 10) daX12_indexes_18 dbX12_indexes_18.2.2.2.2.2.2.1
theorem dX12_indexes_31 : decode cX12_indexes 31 = .ok (.ifCond .ne 9, 3) := dgq (p := 13) daX12_indexes_18 dbX12_indexes_18.2.2.2.2.2.2.2.1
theorem dX12_indexes_34 : decode cX12_indexes 34 = .ok (.aload_n 0, 1) := dgq (p := 16) daX12_indexes_18 dbX12_indexes_18.2.2.2.2.2.2.2.2.1
theorem dX12_indexes_35 : decode cX12_indexes 35 = .ok (.iconst 2, 1) := dgq (p := 17) daX12_indexes_18 dbX12_indexes_18.2.2.2.2.2.2.2.2.2
def dsX12_indexes_36 : ByteArray := ⟨#[182, 0, 182, 172, 42, 180, 1, 26, 7, 162, 0, 11, 42, 6, 182, 0, 182, 167, 0, 42]⟩
theorem daX12_indexes_36 : agB cX12_indexes dsX12_indexes_36 36 := agB_of (n := 20) (by decide +kernel)
theorem dbX12_indexes_36 : (decode dsX12_indexes_36 0 = .ok (.invokevirtual 182, 3) ∧ okop dsX12_indexes_36 0 = true) ∧ (decode dsX12_indexes_36 3 = .ok (.ireturn, 1) ∧ okop dsX12_indexes_36 3 = true) ∧ (decode dsX12_indexes_36 4 = .ok (.aload_n 0, 1) ∧ okop dsX12_indexes_36 4 = true) ∧ (decode dsX12_indexes_36 5 = .ok (.getfield 282, 3) ∧ okop dsX12_indexes_36 5 = true) ∧ (decode dsX12_indexes_36 8 = .ok (.iconst 4, 1) ∧ okop dsX12_indexes_36 8 = true) ∧ (decode dsX12_indexes_36 9 = .ok (.if_icmp .ge 11, 3) ∧ okop dsX12_indexes_36 9 = true) ∧ (decode dsX12_indexes_36 12 = .ok (.aload_n 0, 1) ∧ okop dsX12_indexes_36 12 = true) ∧ (decode dsX12_indexes_36 13 = .ok (.iconst 3, 1) ∧ okop dsX12_indexes_36 13 = true) ∧ (decode dsX12_indexes_36 14 = .ok (.invokevirtual 182, 3) ∧ okop dsX12_indexes_36 14 = true) ∧ (decode dsX12_indexes_36 17 = .ok (.goto 42, 3) ∧ okop dsX12_indexes_36 17 = true) := by decide +kernel
theorem dX12_indexes_36 : decode cX12_indexes 36 = .ok (.invokevirtual 182, 3) := dgq (p := 0) daX12_indexes_36 dbX12_indexes_36.1
theorem dX12_indexes_39 : decode cX12_indexes 39 = .ok (.ireturn, 1) := dgq (p := 3) daX12_indexes_36 dbX12_indexes_36.2.1
theorem dX12_indexes_40 : decode cX12_indexes 40 = .ok (.aload_n 0, 1) := dgq (p := 4) daX12_indexes_36 dbX12_indexes_36.2.2.1
theorem dX12_indexes_41 : decode cX12_indexes 41 = .ok (.getfield 282, 3) := dgq (p := 5) daX12_indexes_36 dbX12_indexes_36.2.2.2.1
theorem dX12_indexes_44 : decode cX12_indexes 44 = .ok (.iconst 4, 1) := dgq (p := 8) daX12_indexes_36 dbX12_indexes_36.2.2.2.2.1
theorem dX12_indexes_45 : decode cX12_indexes 45 = .ok (.if_icmp .ge 11, 3) := dgq (p := 9) daX12_indexes_36 dbX12_indexes_36.2.2.2.2.2.1
theorem dX12_indexes_48 : decode cX12_indexes 48 = .ok (.aload_n 0, 1) := dgq (p := 12) daX12_indexes_36 dbX12_indexes_36.2.2.2.2.2.2.1
theorem dX12_indexes_49 : decode cX12_indexes 49 = .ok (.iconst 3, 1) := dgq (p := 13) daX12_indexes_36 dbX12_indexes_36.2.2.2.2.2.2.2.1
theorem dX12_indexes_50 : decode cX12_indexes 50 = .ok (.invokevirtual 182, 3) := dgq (p := 14) daX12_indexes_36 dbX12_indexes_36.2.2.2.2.2.2.2.2.1
theorem dX12_indexes_53 : decode cX12_indexes 53 = .ok (.goto 42, 3) := dgq (p := 17) daX12_indexes_36 dbX12_indexes_36.2.2.2.2.2.2.2.2.2
def dsX12_indexes_56 : ByteArray := ⟨#[42, 42, 42, 180, 0, 72, 133, 42, 180, 0, 28, 28, 182, 0, 105, 192, 1, 66]⟩
theorem daX12_indexes_56 : agB cX12_indexes dsX12_indexes_56 56 := agB_of (n := 18) (by decide +kernel)
theorem dbX12_indexes_56 : (decode dsX12_indexes_56 0 = .ok (.aload_n 0, 1) ∧ okop dsX12_indexes_56 0 = true) ∧ (decode dsX12_indexes_56 1 = .ok (.aload_n 0, 1) ∧ okop dsX12_indexes_56 1 = true) ∧ (decode dsX12_indexes_56 2 = .ok (.aload_n 0, 1) ∧ okop dsX12_indexes_56 2 = true) ∧ (decode dsX12_indexes_56 3 = .ok (.getfield 72, 3) ∧ okop dsX12_indexes_56 3 = true) ∧ (decode dsX12_indexes_56 6 = .ok (.i2l, 1) ∧ okop dsX12_indexes_56 6 = true) ∧ (decode dsX12_indexes_56 7 = .ok (.aload_n 0, 1) ∧ okop dsX12_indexes_56 7 = true) ∧ (decode dsX12_indexes_56 8 = .ok (.getfield 28, 3) ∧ okop dsX12_indexes_56 8 = true) ∧ (decode dsX12_indexes_56 11 = .ok (.iload_n 2, 1) ∧ okop dsX12_indexes_56 11 = true) ∧ (decode dsX12_indexes_56 12 = .ok (.invokevirtual 105, 3) ∧ okop dsX12_indexes_56 12 = true) ∧ (decode dsX12_indexes_56 15 = .ok (.checkcast 322, 3) ∧ okop dsX12_indexes_56 15 = true) := by decide +kernel
theorem dX12_indexes_56 : decode cX12_indexes 56 = .ok (.aload_n 0, 1) := dgq (p := 0) daX12_indexes_56 dbX12_indexes_56.1
theorem dX12_indexes_57 : decode cX12_indexes 57 = .ok (.aload_n 0, 1) := dgq (p := 1) daX12_indexes_56 dbX12_indexes_56.2.1
theorem dX12_indexes_58 : decode cX12_indexes 58 = .ok (.aload_n 0, 1) := dgq (p := 2) daX12_indexes_56 dbX12_indexes_56.2.2.1
theorem dX12_indexes_59 : decode cX12_indexes 59 = .ok (.getfield 72, 3) := dgq (p := 3) daX12_indexes_56 dbX12_indexes_56.2.2.2.1
theorem dX12_indexes_62 : decode cX12_indexes 62 = .ok (.i2l, 1) := dgq (p := 6) daX12_indexes_56 dbX12_indexes_56.2.2.2.2.1
theorem dX12_indexes_63 : decode cX12_indexes 63 = .ok (.aload_n 0, 1) := dgq (p := 7) daX12_indexes_56 dbX12_indexes_56.2.2.2.2.2.1
theorem dX12_indexes_64 : decode cX12_indexes 64 = .ok (.getfield 28, 3) := dgq (p := 8) daX12_indexes_56 dbX12_indexes_56.2.2.2.2.2.2.1
theorem dX12_indexes_67 : decode cX12_indexes 67 = .ok (.iload_n 2, 1) := dgq (p := 11) daX12_indexes_56 dbX12_indexes_56.2.2.2.2.2.2.2.1
theorem dX12_indexes_68 : decode cX12_indexes 68 = .ok (.invokevirtual 105, 3) := dgq (p := 12) daX12_indexes_56 dbX12_indexes_56.2.2.2.2.2.2.2.2.1
theorem dX12_indexes_71 : decode cX12_indexes 71 = .ok (.checkcast 322, 3) := dgq (p := 15) daX12_indexes_56 dbX12_indexes_56.2.2.2.2.2.2.2.2.2
def dsX12_indexes_74 : ByteArray := ⟨#[180, 1, 73, 133, 105, 42, 27, 182, 0, 111, 180, 1, 76, 133, 29, 182, 1, 52]⟩
theorem daX12_indexes_74 : agB cX12_indexes dsX12_indexes_74 74 := agB_of (n := 18) (by decide +kernel)
theorem dbX12_indexes_74 : (decode dsX12_indexes_74 0 = .ok (.getfield 329, 3) ∧ okop dsX12_indexes_74 0 = true) ∧ (decode dsX12_indexes_74 3 = .ok (.i2l, 1) ∧ okop dsX12_indexes_74 3 = true) ∧ (decode dsX12_indexes_74 4 = .ok (.lmul, 1) ∧ okop dsX12_indexes_74 4 = true) ∧ (decode dsX12_indexes_74 5 = .ok (.aload_n 0, 1) ∧ okop dsX12_indexes_74 5 = true) ∧ (decode dsX12_indexes_74 6 = .ok (.iload_n 1, 1) ∧ okop dsX12_indexes_74 6 = true) ∧ (decode dsX12_indexes_74 7 = .ok (.invokevirtual 111, 3) ∧ okop dsX12_indexes_74 7 = true) ∧ (decode dsX12_indexes_74 10 = .ok (.getfield 332, 3) ∧ okop dsX12_indexes_74 10 = true) ∧ (decode dsX12_indexes_74 13 = .ok (.i2l, 1) ∧ okop dsX12_indexes_74 13 = true) ∧ (decode dsX12_indexes_74 14 = .ok (.iload_n 3, 1) ∧ okop dsX12_indexes_74 14 = true) ∧ (decode dsX12_indexes_74 15 = .ok (.invokevirtual 308, 3) ∧ okop dsX12_indexes_74 15 = true) := by decide +kernel
theorem dX12_indexes_74 : decode cX12_indexes 74 = .ok (.getfield 329, 3) := dgq (p := 0) daX12_indexes_74 dbX12_indexes_74.1
theorem dX12_indexes_77 : decode cX12_indexes 77 = .ok (.i2l, 1) := dgq (p := 3) daX12_indexes_74 dbX12_indexes_74.2.1
theorem dX12_indexes_78 : decode cX12_indexes 78 = .ok (.lmul, 1) := dgq (p := 4) daX12_indexes_74 dbX12_indexes_74.2.2.1
theorem dX12_indexes_79 : decode cX12_indexes 79 = .ok (.aload_n 0, 1) := dgq (p := 5) daX12_indexes_74 dbX12_indexes_74.2.2.2.1
theorem dX12_indexes_80 : decode cX12_indexes 80 = .ok (.iload_n 1, 1) := dgq (p := 6) daX12_indexes_74 dbX12_indexes_74.2.2.2.2.1
theorem dX12_indexes_81 : decode cX12_indexes 81 = .ok (.invokevirtual 111, 3) := dgq (p := 7) daX12_indexes_74 dbX12_indexes_74.2.2.2.2.2.1
theorem dX12_indexes_84 : decode cX12_indexes 84 = .ok (.getfield 332, 3) := dgq (p := 10) daX12_indexes_74 dbX12_indexes_74.2.2.2.2.2.2.1
theorem dX12_indexes_87 : decode cX12_indexes 87 = .ok (.i2l, 1) := dgq (p := 13) daX12_indexes_74 dbX12_indexes_74.2.2.2.2.2.2.2.1
theorem dX12_indexes_88 : decode cX12_indexes 88 = .ok (.iload_n 3, 1) := dgq (p := 14) daX12_indexes_74 dbX12_indexes_74.2.2.2.2.2.2.2.2.1
theorem dX12_indexes_89 : decode cX12_indexes 89 = .ok (.invokevirtual 308, 3) := dgq (p := 15) daX12_indexes_74 dbX12_indexes_74.2.2.2.2.2.2.2.2.2
theorem dX12_indexes_92 : decode cX12_indexes 92 = .ok (.invokevirtual 178, 3) := by decide +kernel
theorem dX12_indexes_95 : decode cX12_indexes 95 = .ok (.ireturn, 1) := by decide +kernel
set_option maxRecDepth 20000 in
theorem ggX12_differs_X12_isGear : GoodIn wsX12_differs wsX12_isGear := goodIn_ca (goodIn_ca (goodIn_q _ [14, 15, 16, 17, 18, 19, 20, 21, 22, 23, 13, 24] rfl (by decide +kernel)) (goodIn_sub (fun _ h => (List.mem_cons_of_mem _ (List.mem_append_left _ (List.mem_append_left _ (List.mem_append_left _ (List.mem_append_right _ h)))))) tg_wsX120)) (goodIn_sub (fun _ h => (List.mem_cons_of_mem _ (List.mem_append_left _ (List.mem_append_right _ h)))) tg_wsJx4a65c0)
set_option maxRecDepth 20000 in
theorem gX12_differs_X12_isGear : GoodIn wsX12_differs (wsV RX12 121 RX12 yX12_isGear wsX12_isGear) := goodIn_app (goodIn_q _ [10, 11, 12, 13] rfl (by decide +kernel)) ggX12_differs_X12_isGear
set_option maxRecDepth 20000 in
theorem ggX12_differs_X12_isHob : GoodIn wsX12_differs wsX12_isHob := goodIn_ca (goodIn_ca (goodIn_q _ [28, 8, 16, 17, 18, 19, 20, 21, 22, 23, 13, 24] rfl (by decide +kernel)) (goodIn_sub (fun _ h => (List.mem_cons_of_mem _ (List.mem_append_left _ (List.mem_append_left _ (List.mem_append_left _ (List.mem_append_right _ h)))))) tg_wsX120)) (goodIn_sub (fun _ h => (List.mem_cons_of_mem _ (List.mem_append_left _ (List.mem_append_right _ h)))) tg_wsJx4a65c0)
set_option maxRecDepth 20000 in
theorem gX12_differs_X12_isHob : GoodIn wsX12_differs (wsV RX12 326 RX12 yX12_isHob wsX12_isHob) := goodIn_app (goodIn_q _ [25, 26, 27, 13] rfl (by decide +kernel)) ggX12_differs_X12_isHob
set_option maxRecDepth 20000 in
theorem ggX12_differs_X12_refuses : GoodIn wsX12_differs wsX12_refuses := goodIn_ca (goodIn_q _ [32, 33] rfl (by decide +kernel)) (goodIn_sub (fun _ h => (List.mem_cons_of_mem _ (List.mem_append_left _ (List.mem_append_left _ (List.mem_append_left _ (List.mem_append_right _ h)))))) tg_wsX120)
set_option maxRecDepth 20000 in
theorem gX12_differs_X12_refuses : GoodIn wsX12_differs (wsV RX12 182 RX12 yX12_refuses wsX12_refuses) := goodIn_app (goodIn_q _ [29, 30, 31, 13] rfl (by decide +kernel)) ggX12_differs_X12_refuses
set_option maxRecDepth 20000 in
theorem ggX12_differs_X12_in : GoodIn wsX12_differs wsX12_in := goodIn_q _ [24] rfl (by decide +kernel)
set_option maxRecDepth 20000 in
theorem gX12_differs_X12_in : GoodIn wsX12_differs (va_wsS RX12 101 yX12_in wsX12_in) := goodIn_app (goodIn_q _ [22, 23, 13] rfl (by decide +kernel)) ggX12_differs_X12_in
set_option maxRecDepth 20000 in
theorem ggX12_differs_X12_gearAt : GoodIn wsX12_differs wsX12_gearAt := goodIn_ca (goodIn_ca (goodIn_q _ [37, 15, 38, 39, 40, 41, 19, 42, 21, 43, 44, 45, 46, 47, 48, 49, 50, 51, 52, 53, 54, 55] rfl (by decide +kernel)) (goodIn_sub (fun _ h => (List.mem_cons_of_mem _ (List.mem_append_left _ (List.mem_append_left _ (List.mem_append_left _ (List.mem_append_right _ h)))))) tg_wsX120)) (goodIn_sub (fun _ h => (List.mem_cons_of_mem _ (List.mem_append_left _ (List.mem_append_right _ h)))) tg_wsJx4a65c0)
set_option maxRecDepth 20000 in
theorem gX12_differs_X12_gearAt : GoodIn wsX12_differs (wsV RX12 111 RX12 yX12_gearAt wsX12_gearAt) := goodIn_app (goodIn_q _ [34, 35, 36, 13] rfl (by decide +kernel)) ggX12_differs_X12_gearAt
set_option maxRecDepth 20000 in
theorem ggX12_differs_Jx4a65c_get_915e3 : GoodIn wsX12_differs wsJx4a65c_get_915e3 := goodIn_ca (goodIn_q _ [42, 21, 43, 44, 45, 46, 47, 48, 49, 50, 51, 52, 53, 19, 54, 55] rfl (by decide +kernel)) (goodIn_sub (fun _ h => (List.mem_cons_of_mem _ (List.mem_append_left _ (List.mem_append_right _ h)))) tg_wsJx4a65c0)
set_option maxRecDepth 20000 in
theorem gX12_differs_Jx4a65c_get_915e3 : GoodIn wsX12_differs (wsV RX12 105 RJx4a65c yJx4a65c_get_915e3 wsJx4a65c_get_915e3) := goodIn_app (goodIn_q _ [39, 40, 41, 19] rfl (by decide +kernel)) ggX12_differs_Jx4a65c_get_915e3
set_option maxRecDepth 20000 in
theorem ggX12_differs_X12_isMet : GoodIn wsX12_differs wsX12_isMet := goodIn_ca (goodIn_ca (goodIn_q _ [59, 60, 61, 62, 63, 64, 13, 65, 66, 67, 68, 69, 70, 2, 71, 72, 73, 74, 75, 76, 77, 78, 79, 80, 5, 81] rfl (by decide +kernel)) (goodIn_sub (fun _ h => (List.mem_cons_of_mem _ (List.mem_append_left _ (List.mem_append_left _ (List.mem_append_left _ (List.mem_append_right _ h)))))) tg_wsX120)) (goodIn_sub (fun _ h => List.mem_cons_of_mem _ (List.mem_append_right _ h)) (by decide +kernel))
set_option maxRecDepth 20000 in
theorem gX12_differs_X12_isMet : GoodIn wsX12_differs (wsV RX12 308 RX12 yX12_isMet wsX12_isMet) := goodIn_app (goodIn_q _ [56, 57, 58, 13] rfl (by decide +kernel)) ggX12_differs_X12_isMet
set_option maxRecDepth 20000 in
theorem ggX12_differs_X12_says : GoodIn wsX12_differs wsX12_says := goodIn_ca (goodIn_q _ [85, 33] rfl (by decide +kernel)) (goodIn_sub (fun _ h => (List.mem_cons_of_mem _ (List.mem_append_left _ (List.mem_append_left _ (List.mem_append_left _ (List.mem_append_right _ h)))))) tg_wsX120)
set_option maxRecDepth 20000 in
theorem gX12_differs_X12_says : GoodIn wsX12_differs (wsV RX12 178 RX12 yX12_says wsX12_says) := goodIn_app (goodIn_q _ [82, 83, 84, 13] rfl (by decide +kernel)) ggX12_differs_X12_says
def dsX12_differs_0 : ByteArray := ⟨#[42, 27, 182, 0, 121, 153, 0, 11, 42, 28, 182, 1, 70, 154, 0, 9, 42, 4]⟩
theorem daX12_differs_0 : agB cX12_differs dsX12_differs_0 0 := agB_of (n := 18) (by decide +kernel)
theorem dbX12_differs_0 : (decode dsX12_differs_0 0 = .ok (.aload_n 0, 1) ∧ okop dsX12_differs_0 0 = true) ∧ (decode dsX12_differs_0 1 = .ok (.iload_n 1, 1) ∧ okop dsX12_differs_0 1 = true) ∧ (decode dsX12_differs_0 2 = .ok (.invokevirtual 121, 3) ∧ okop dsX12_differs_0 2 = true) ∧ (decode dsX12_differs_0 5 = .ok (.ifCond .eq 11, 3) ∧ okop dsX12_differs_0 5 = true) ∧ (decode dsX12_differs_0 8 = .ok (.aload_n 0, 1) ∧ okop dsX12_differs_0 8 = true) ∧ (decode dsX12_differs_0 9 = .ok (.iload_n 2, 1) ∧ okop dsX12_differs_0 9 = true) ∧ (decode dsX12_differs_0 10 = .ok (.invokevirtual 326, 3) ∧ okop dsX12_differs_0 10 = true) ∧ (decode dsX12_differs_0 13 = .ok (.ifCond .ne 9, 3) ∧ okop dsX12_differs_0 13 = true) ∧ (decode dsX12_differs_0 16 = .ok (.aload_n 0, 1) ∧ okop dsX12_differs_0 16 = true) ∧ (decode dsX12_differs_0 17 = .ok (.iconst 1, 1) ∧ okop dsX12_differs_0 17 = true) := by decide +kernel
theorem dX12_differs_0 : decode cX12_differs 0 = .ok (.aload_n 0, 1) := dgq (p := 0) daX12_differs_0 dbX12_differs_0.1
theorem dX12_differs_1 : decode cX12_differs 1 = .ok (.iload_n 1, 1) := dgq (p := 1) daX12_differs_0 dbX12_differs_0.2.1
theorem dX12_differs_2 : decode cX12_differs 2 = .ok (.invokevirtual 121, 3) := dgq (p := 2) daX12_differs_0 dbX12_differs_0.2.2.1
theorem dX12_differs_5 : decode cX12_differs 5 = .ok (.ifCond .eq 11, 3) := dgq (p := 5) daX12_differs_0 dbX12_differs_0.2.2.2.1
theorem dX12_differs_8 : decode cX12_differs 8 = .ok (.aload_n 0, 1) := dgq (p := 8) daX12_differs_0 dbX12_differs_0.2.2.2.2.1
theorem dX12_differs_9 : decode cX12_differs 9 = .ok (.iload_n 2, 1) := dgq (p := 9) daX12_differs_0 dbX12_differs_0.2.2.2.2.2.1
theorem dX12_differs_10 : decode cX12_differs 10 = .ok (.invokevirtual 326, 3) := dgq (p := 10) daX12_differs_0 dbX12_differs_0.2.2.2.2.2.2.1
theorem dX12_differs_13 : decode cX12_differs 13 = .ok (.ifCond .ne 9, 3) := dgq (p := 13) daX12_differs_0 dbX12_differs_0.2.2.2.2.2.2.2.1
theorem dX12_differs_16 : decode cX12_differs 16 = .ok (.aload_n 0, 1) := dgq (p := 16) daX12_differs_0 dbX12_differs_0.2.2.2.2.2.2.2.2.1
theorem dX12_differs_17 : decode cX12_differs 17 = .ok (.iconst 1, 1) := dgq (p := 17) daX12_differs_0 dbX12_differs_0.2.2.2.2.2.2.2.2.2
def dsX12_differs_18 : ByteArray := ⟨#[182, 0, 182, 172, 29, 133, 9, 20, 1, 50, 184, 0, 101, 154, 0, 9, 42, 5]⟩
theorem daX12_differs_18 : agB cX12_differs dsX12_differs_18 18 := agB_of (n := 18) (by decide +kernel)
theorem dbX12_differs_18 : (decode dsX12_differs_18 0 = .ok (.invokevirtual 182, 3) ∧ okop dsX12_differs_18 0 = true) ∧ (decode dsX12_differs_18 3 = .ok (.ireturn, 1) ∧ okop dsX12_differs_18 3 = true) ∧ (decode dsX12_differs_18 4 = .ok (.iload_n 3, 1) ∧ okop dsX12_differs_18 4 = true) ∧ (decode dsX12_differs_18 5 = .ok (.i2l, 1) ∧ okop dsX12_differs_18 5 = true) ∧ (decode dsX12_differs_18 6 = .ok (.lconst 0, 1) ∧ okop dsX12_differs_18 6 = true) ∧ (decode dsX12_differs_18 7 = .ok (.ldc2_w 306, 3) ∧ okop dsX12_differs_18 7 = true) ∧ (decode dsX12_differs_18 10 = .ok (.invokestatic 101, 3) ∧ okop dsX12_differs_18 10 = true) ∧ (decode dsX12_differs_18 13 = .ok (.ifCond .ne 9, 3) ∧ okop dsX12_differs_18 13 = true) ∧ (decode dsX12_differs_18 16 = .ok (.aload_n 0, 1) ∧ okop dsX12_differs_18 16 = true) ∧ (decode dsX12_differs_18 17 = .ok (.iconst 2, 1) ∧ okop dsX12_differs_18 17 = true) := by decide +kernel
theorem dX12_differs_18 : decode cX12_differs 18 = .ok (.invokevirtual 182, 3) := dgq (p := 0) daX12_differs_18 dbX12_differs_18.1
theorem dX12_differs_21 : decode cX12_differs 21 = .ok (.ireturn, 1) := dgq (p := 3) daX12_differs_18 dbX12_differs_18.2.1
theorem dX12_differs_22 : decode cX12_differs 22 = .ok (.iload_n 3, 1) := dgq (p := 4) daX12_differs_18 dbX12_differs_18.2.2.1
theorem dX12_differs_23 : decode cX12_differs 23 = .ok (.i2l, 1) := dgq (p := 5) daX12_differs_18 dbX12_differs_18.2.2.2.1
theorem dX12_differs_24 : decode cX12_differs 24 = .ok (.lconst 0, 1) := dgq (p := 6) daX12_differs_18 dbX12_differs_18.2.2.2.2.1
theorem dX12_differs_25 : decode cX12_differs 25 = .ok (.ldc2_w 306, 3) := dgq (p := 7) daX12_differs_18 dbX12_differs_18.2.2.2.2.2.1
theorem dX12_differs_28 : decode cX12_differs 28 = .ok (.invokestatic 101, 3) := dgq (p := 10) daX12_differs_18 dbX12_differs_18.2.2.2.2.2.2.1
theorem dX12_differs_31 : decode cX12_differs 31 = .ok (.ifCond .ne 9, 3) := dgq (p := 13) daX12_differs_18 dbX12_differs_18.2.2.2.2.2.2.2.1
theorem dX12_differs_34 : decode cX12_differs 34 = .ok (.aload_n 0, 1) := dgq (p := 16) daX12_differs_18 dbX12_differs_18.2.2.2.2.2.2.2.2.1
theorem dX12_differs_35 : decode cX12_differs 35 = .ok (.iconst 2, 1) := dgq (p := 17) daX12_differs_18 dbX12_differs_18.2.2.2.2.2.2.2.2.2
def dsX12_differs_36 : ByteArray := ⟨#[182, 0, 182, 172, 42, 27, 182, 0, 111, 58, 4, 25, 4, 180, 0, 118, 154, 0, 9, 42]⟩
theorem daX12_differs_36 : agB cX12_differs dsX12_differs_36 36 := agB_of (n := 20) (by decide +kernel)
theorem dbX12_differs_36 : (decode dsX12_differs_36 0 = .ok (.invokevirtual 182, 3) ∧ okop dsX12_differs_36 0 = true) ∧ (decode dsX12_differs_36 3 = .ok (.ireturn, 1) ∧ okop dsX12_differs_36 3 = true) ∧ (decode dsX12_differs_36 4 = .ok (.aload_n 0, 1) ∧ okop dsX12_differs_36 4 = true) ∧ (decode dsX12_differs_36 5 = .ok (.iload_n 1, 1) ∧ okop dsX12_differs_36 5 = true) ∧ (decode dsX12_differs_36 6 = .ok (.invokevirtual 111, 3) ∧ okop dsX12_differs_36 6 = true) ∧ (decode dsX12_differs_36 9 = .ok (.astore 4, 2) ∧ okop dsX12_differs_36 9 = true) ∧ (decode dsX12_differs_36 11 = .ok (.aload 4, 2) ∧ okop dsX12_differs_36 11 = true) ∧ (decode dsX12_differs_36 13 = .ok (.getfield 118, 3) ∧ okop dsX12_differs_36 13 = true) ∧ (decode dsX12_differs_36 16 = .ok (.ifCond .ne 9, 3) ∧ okop dsX12_differs_36 16 = true) ∧ (decode dsX12_differs_36 19 = .ok (.aload_n 0, 1) ∧ okop dsX12_differs_36 19 = true) := by decide +kernel
theorem dX12_differs_36 : decode cX12_differs 36 = .ok (.invokevirtual 182, 3) := dgq (p := 0) daX12_differs_36 dbX12_differs_36.1
theorem dX12_differs_39 : decode cX12_differs 39 = .ok (.ireturn, 1) := dgq (p := 3) daX12_differs_36 dbX12_differs_36.2.1
theorem dX12_differs_40 : decode cX12_differs 40 = .ok (.aload_n 0, 1) := dgq (p := 4) daX12_differs_36 dbX12_differs_36.2.2.1
theorem dX12_differs_41 : decode cX12_differs 41 = .ok (.iload_n 1, 1) := dgq (p := 5) daX12_differs_36 dbX12_differs_36.2.2.2.1
theorem dX12_differs_42 : decode cX12_differs 42 = .ok (.invokevirtual 111, 3) := dgq (p := 6) daX12_differs_36 dbX12_differs_36.2.2.2.2.1
theorem dX12_differs_45 : decode cX12_differs 45 = .ok (.astore 4, 2) := dgq (p := 9) daX12_differs_36 dbX12_differs_36.2.2.2.2.2.1
theorem dX12_differs_47 : decode cX12_differs 47 = .ok (.aload 4, 2) := dgq (p := 11) daX12_differs_36 dbX12_differs_36.2.2.2.2.2.2.1
theorem dX12_differs_49 : decode cX12_differs 49 = .ok (.getfield 118, 3) := dgq (p := 13) daX12_differs_36 dbX12_differs_36.2.2.2.2.2.2.2.1
theorem dX12_differs_52 : decode cX12_differs 52 = .ok (.ifCond .ne 9, 3) := dgq (p := 16) daX12_differs_36 dbX12_differs_36.2.2.2.2.2.2.2.2.1
theorem dX12_differs_55 : decode cX12_differs 55 = .ok (.aload_n 0, 1) := dgq (p := 19) daX12_differs_36 dbX12_differs_36.2.2.2.2.2.2.2.2.2
def dsX12_differs_56 : ByteArray := ⟨#[6, 182, 0, 182, 172, 42, 180, 1, 26, 7, 162, 0, 11, 42, 7, 182, 0, 182]⟩
theorem daX12_differs_56 : agB cX12_differs dsX12_differs_56 56 := agB_of (n := 18) (by decide +kernel)
theorem dbX12_differs_56 : (decode dsX12_differs_56 0 = .ok (.iconst 3, 1) ∧ okop dsX12_differs_56 0 = true) ∧ (decode dsX12_differs_56 1 = .ok (.invokevirtual 182, 3) ∧ okop dsX12_differs_56 1 = true) ∧ (decode dsX12_differs_56 4 = .ok (.ireturn, 1) ∧ okop dsX12_differs_56 4 = true) ∧ (decode dsX12_differs_56 5 = .ok (.aload_n 0, 1) ∧ okop dsX12_differs_56 5 = true) ∧ (decode dsX12_differs_56 6 = .ok (.getfield 282, 3) ∧ okop dsX12_differs_56 6 = true) ∧ (decode dsX12_differs_56 9 = .ok (.iconst 4, 1) ∧ okop dsX12_differs_56 9 = true) ∧ (decode dsX12_differs_56 10 = .ok (.if_icmp .ge 11, 3) ∧ okop dsX12_differs_56 10 = true) ∧ (decode dsX12_differs_56 13 = .ok (.aload_n 0, 1) ∧ okop dsX12_differs_56 13 = true) ∧ (decode dsX12_differs_56 14 = .ok (.iconst 4, 1) ∧ okop dsX12_differs_56 14 = true) ∧ (decode dsX12_differs_56 15 = .ok (.invokevirtual 182, 3) ∧ okop dsX12_differs_56 15 = true) := by decide +kernel
theorem dX12_differs_56 : decode cX12_differs 56 = .ok (.iconst 3, 1) := dgq (p := 0) daX12_differs_56 dbX12_differs_56.1
theorem dX12_differs_57 : decode cX12_differs 57 = .ok (.invokevirtual 182, 3) := dgq (p := 1) daX12_differs_56 dbX12_differs_56.2.1
theorem dX12_differs_60 : decode cX12_differs 60 = .ok (.ireturn, 1) := dgq (p := 4) daX12_differs_56 dbX12_differs_56.2.2.1
theorem dX12_differs_61 : decode cX12_differs 61 = .ok (.aload_n 0, 1) := dgq (p := 5) daX12_differs_56 dbX12_differs_56.2.2.2.1
theorem dX12_differs_62 : decode cX12_differs 62 = .ok (.getfield 282, 3) := dgq (p := 6) daX12_differs_56 dbX12_differs_56.2.2.2.2.1
theorem dX12_differs_65 : decode cX12_differs 65 = .ok (.iconst 4, 1) := dgq (p := 9) daX12_differs_56 dbX12_differs_56.2.2.2.2.2.1
theorem dX12_differs_66 : decode cX12_differs 66 = .ok (.if_icmp .ge 11, 3) := dgq (p := 10) daX12_differs_56 dbX12_differs_56.2.2.2.2.2.2.1
theorem dX12_differs_69 : decode cX12_differs 69 = .ok (.aload_n 0, 1) := dgq (p := 13) daX12_differs_56 dbX12_differs_56.2.2.2.2.2.2.2.1
theorem dX12_differs_70 : decode cX12_differs 70 = .ok (.iconst 4, 1) := dgq (p := 14) daX12_differs_56 dbX12_differs_56.2.2.2.2.2.2.2.2.1
theorem dX12_differs_71 : decode cX12_differs 71 = .ok (.invokevirtual 182, 3) := dgq (p := 15) daX12_differs_56 dbX12_differs_56.2.2.2.2.2.2.2.2.2
def dsX12_differs_74 : ByteArray := ⟨#[167, 0, 49, 42, 42, 25, 4, 180, 0, 118, 184, 0, 215, 133, 42, 180, 0, 72, 133]⟩
theorem daX12_differs_74 : agB cX12_differs dsX12_differs_74 74 := agB_of (n := 19) (by decide +kernel)
theorem dbX12_differs_74 : (decode dsX12_differs_74 0 = .ok (.goto 49, 3) ∧ okop dsX12_differs_74 0 = true) ∧ (decode dsX12_differs_74 3 = .ok (.aload_n 0, 1) ∧ okop dsX12_differs_74 3 = true) ∧ (decode dsX12_differs_74 4 = .ok (.aload_n 0, 1) ∧ okop dsX12_differs_74 4 = true) ∧ (decode dsX12_differs_74 5 = .ok (.aload 4, 2) ∧ okop dsX12_differs_74 5 = true) ∧ (decode dsX12_differs_74 7 = .ok (.getfield 118, 3) ∧ okop dsX12_differs_74 7 = true) ∧ (decode dsX12_differs_74 10 = .ok (.invokestatic 215, 3) ∧ okop dsX12_differs_74 10 = true) ∧ (decode dsX12_differs_74 13 = .ok (.i2l, 1) ∧ okop dsX12_differs_74 13 = true) ∧ (decode dsX12_differs_74 14 = .ok (.aload_n 0, 1) ∧ okop dsX12_differs_74 14 = true) ∧ (decode dsX12_differs_74 15 = .ok (.getfield 72, 3) ∧ okop dsX12_differs_74 15 = true) ∧ (decode dsX12_differs_74 18 = .ok (.i2l, 1) ∧ okop dsX12_differs_74 18 = true) := by decide +kernel
theorem dX12_differs_74 : decode cX12_differs 74 = .ok (.goto 49, 3) := dgq (p := 0) daX12_differs_74 dbX12_differs_74.1
theorem dX12_differs_77 : decode cX12_differs 77 = .ok (.aload_n 0, 1) := dgq (p := 3) daX12_differs_74 dbX12_differs_74.2.1
theorem dX12_differs_78 : decode cX12_differs 78 = .ok (.aload_n 0, 1) := dgq (p := 4) daX12_differs_74 dbX12_differs_74.2.2.1
theorem dX12_differs_79 : decode cX12_differs 79 = .ok (.aload 4, 2) := dgq (p := 5) daX12_differs_74 dbX12_differs_74.2.2.2.1
theorem dX12_differs_81 : decode cX12_differs 81 = .ok (.getfield 118, 3) := dgq (p := 7) daX12_differs_74 dbX12_differs_74.2.2.2.2.1
theorem dX12_differs_84 : decode cX12_differs 84 = .ok (.invokestatic 215, 3) := dgq (p := 10) daX12_differs_74 dbX12_differs_74.2.2.2.2.2.1
theorem dX12_differs_87 : decode cX12_differs 87 = .ok (.i2l, 1) := dgq (p := 13) daX12_differs_74 dbX12_differs_74.2.2.2.2.2.2.1
theorem dX12_differs_88 : decode cX12_differs 88 = .ok (.aload_n 0, 1) := dgq (p := 14) daX12_differs_74 dbX12_differs_74.2.2.2.2.2.2.2.1
theorem dX12_differs_89 : decode cX12_differs 89 = .ok (.getfield 72, 3) := dgq (p := 15) daX12_differs_74 dbX12_differs_74.2.2.2.2.2.2.2.2.1
theorem dX12_differs_92 : decode cX12_differs 92 = .ok (.i2l, 1) := dgq (p := 18) daX12_differs_74 dbX12_differs_74.2.2.2.2.2.2.2.2.2
def dsX12_differs_93 : ByteArray := ⟨#[105, 25, 4, 180, 0, 115, 133, 42, 180, 0, 28, 28, 182, 0, 105, 192, 1, 66, 180, 1, 73]⟩
theorem daX12_differs_93 : agB cX12_differs dsX12_differs_93 93 := agB_of (n := 21) (by decide +kernel)
theorem dbX12_differs_93 : (decode dsX12_differs_93 0 = .ok (.lmul, 1) ∧ okop dsX12_differs_93 0 = true) ∧ (decode dsX12_differs_93 1 = .ok (.aload 4, 2) ∧ okop dsX12_differs_93 1 = true) ∧ (decode dsX12_differs_93 3 = .ok (.getfield 115, 3) ∧ okop dsX12_differs_93 3 = true) ∧ (decode dsX12_differs_93 6 = .ok (.i2l, 1) ∧ okop dsX12_differs_93 6 = true) ∧ (decode dsX12_differs_93 7 = .ok (.aload_n 0, 1) ∧ okop dsX12_differs_93 7 = true) ∧ (decode dsX12_differs_93 8 = .ok (.getfield 28, 3) ∧ okop dsX12_differs_93 8 = true) ∧ (decode dsX12_differs_93 11 = .ok (.iload_n 2, 1) ∧ okop dsX12_differs_93 11 = true) ∧ (decode dsX12_differs_93 12 = .ok (.invokevirtual 105, 3) ∧ okop dsX12_differs_93 12 = true) ∧ (decode dsX12_differs_93 15 = .ok (.checkcast 322, 3) ∧ okop dsX12_differs_93 15 = true) ∧ (decode dsX12_differs_93 18 = .ok (.getfield 329, 3) ∧ okop dsX12_differs_93 18 = true) := by decide +kernel
theorem dX12_differs_93 : decode cX12_differs 93 = .ok (.lmul, 1) := dgq (p := 0) daX12_differs_93 dbX12_differs_93.1
theorem dX12_differs_94 : decode cX12_differs 94 = .ok (.aload 4, 2) := dgq (p := 1) daX12_differs_93 dbX12_differs_93.2.1
theorem dX12_differs_96 : decode cX12_differs 96 = .ok (.getfield 115, 3) := dgq (p := 3) daX12_differs_93 dbX12_differs_93.2.2.1
theorem dX12_differs_99 : decode cX12_differs 99 = .ok (.i2l, 1) := dgq (p := 6) daX12_differs_93 dbX12_differs_93.2.2.2.1
theorem dX12_differs_100 : decode cX12_differs 100 = .ok (.aload_n 0, 1) := dgq (p := 7) daX12_differs_93 dbX12_differs_93.2.2.2.2.1
theorem dX12_differs_101 : decode cX12_differs 101 = .ok (.getfield 28, 3) := dgq (p := 8) daX12_differs_93 dbX12_differs_93.2.2.2.2.2.1
theorem dX12_differs_104 : decode cX12_differs 104 = .ok (.iload_n 2, 1) := dgq (p := 11) daX12_differs_93 dbX12_differs_93.2.2.2.2.2.2.1
theorem dX12_differs_105 : decode cX12_differs 105 = .ok (.invokevirtual 105, 3) := dgq (p := 12) daX12_differs_93 dbX12_differs_93.2.2.2.2.2.2.2.1
theorem dX12_differs_108 : decode cX12_differs 108 = .ok (.checkcast 322, 3) := dgq (p := 15) daX12_differs_93 dbX12_differs_93.2.2.2.2.2.2.2.2.1
theorem dX12_differs_111 : decode cX12_differs 111 = .ok (.getfield 329, 3) := dgq (p := 18) daX12_differs_93 dbX12_differs_93.2.2.2.2.2.2.2.2.2
def dsX12_differs_114 : ByteArray := ⟨#[133, 105, 29, 182, 1, 52, 182, 0, 178, 172]⟩
theorem daX12_differs_114 : agB cX12_differs dsX12_differs_114 114 := agB_of (n := 10) (by decide +kernel)
theorem dbX12_differs_114 : (decode dsX12_differs_114 0 = .ok (.i2l, 1) ∧ okop dsX12_differs_114 0 = true) ∧ (decode dsX12_differs_114 1 = .ok (.lmul, 1) ∧ okop dsX12_differs_114 1 = true) ∧ (decode dsX12_differs_114 2 = .ok (.iload_n 3, 1) ∧ okop dsX12_differs_114 2 = true) ∧ (decode dsX12_differs_114 3 = .ok (.invokevirtual 308, 3) ∧ okop dsX12_differs_114 3 = true) ∧ (decode dsX12_differs_114 6 = .ok (.invokevirtual 178, 3) ∧ okop dsX12_differs_114 6 = true) ∧ (decode dsX12_differs_114 9 = .ok (.ireturn, 1) ∧ okop dsX12_differs_114 9 = true) := by decide +kernel
theorem dX12_differs_114 : decode cX12_differs 114 = .ok (.i2l, 1) := dgq (p := 0) daX12_differs_114 dbX12_differs_114.1
theorem dX12_differs_115 : decode cX12_differs 115 = .ok (.lmul, 1) := dgq (p := 1) daX12_differs_114 dbX12_differs_114.2.1
theorem dX12_differs_116 : decode cX12_differs 116 = .ok (.iload_n 3, 1) := dgq (p := 2) daX12_differs_114 dbX12_differs_114.2.2.1
theorem dX12_differs_117 : decode cX12_differs 117 = .ok (.invokevirtual 308, 3) := dgq (p := 3) daX12_differs_114 dbX12_differs_114.2.2.2.1
theorem dX12_differs_120 : decode cX12_differs 120 = .ok (.invokevirtual 178, 3) := dgq (p := 6) daX12_differs_114 dbX12_differs_114.2.2.2.2.1
theorem dX12_differs_123 : decode cX12_differs 123 = .ok (.ireturn, 1) := dgq (p := 9) daX12_differs_114 dbX12_differs_114.2.2.2.2.2
set_option maxRecDepth 20000 in
theorem ggX12_shoulder_X12_isGear : GoodIn wsX12_shoulder wsX12_isGear := goodIn_ca (goodIn_ca (goodIn_q _ [7, 8, 9, 10, 11, 12, 13, 14, 15, 16, 6, 17] rfl (by decide +kernel)) (goodIn_sub (fun _ h => (List.mem_cons_of_mem _ (List.mem_append_left _ (List.mem_append_right _ h)))) tg_wsX120)) (goodIn_sub (fun _ h => (List.mem_cons_of_mem _ (List.mem_append_right _ h))) tg_wsJx4a65c0)
set_option maxRecDepth 20000 in
theorem gX12_shoulder_X12_isGear : GoodIn wsX12_shoulder (wsV RX12 121 RX12 yX12_isGear wsX12_isGear) := goodIn_app (goodIn_q _ [3, 4, 5, 6] rfl (by decide +kernel)) ggX12_shoulder_X12_isGear
set_option maxRecDepth 20000 in
theorem ggX12_shoulder_X12_fails : GoodIn wsX12_shoulder wsX12_fails := goodIn_ca (goodIn_q _ [21, 22] rfl (by decide +kernel)) (goodIn_sub (fun _ h => (List.mem_cons_of_mem _ (List.mem_append_left _ (List.mem_append_right _ h)))) tg_wsX120)
set_option maxRecDepth 20000 in
theorem gX12_shoulder_X12_fails : GoodIn wsX12_shoulder (wsV RX12 143 RX12 yX12_fails wsX12_fails) := goodIn_app (goodIn_q _ [18, 19, 20, 6] rfl (by decide +kernel)) ggX12_shoulder_X12_fails
set_option maxRecDepth 20000 in
theorem ggX12_shoulder_X12_in : GoodIn wsX12_shoulder wsX12_in := goodIn_q _ [17] rfl (by decide +kernel)
set_option maxRecDepth 20000 in
theorem gX12_shoulder_X12_in : GoodIn wsX12_shoulder (va_wsS RX12 101 yX12_in wsX12_in) := goodIn_app (goodIn_q _ [15, 16, 6] rfl (by decide +kernel)) ggX12_shoulder_X12_in
set_option maxRecDepth 20000 in
theorem ggX12_shoulder_X12_gearAt : GoodIn wsX12_shoulder wsX12_gearAt := goodIn_ca (goodIn_ca (goodIn_q _ [26, 8, 27, 28, 29, 30, 12, 31, 14, 32, 33, 34, 35, 36, 37, 38, 39, 40, 41, 42, 43, 44] rfl (by decide +kernel)) (goodIn_sub (fun _ h => (List.mem_cons_of_mem _ (List.mem_append_left _ (List.mem_append_right _ h)))) tg_wsX120)) (goodIn_sub (fun _ h => (List.mem_cons_of_mem _ (List.mem_append_right _ h))) tg_wsJx4a65c0)
set_option maxRecDepth 20000 in
theorem gX12_shoulder_X12_gearAt : GoodIn wsX12_shoulder (wsV RX12 111 RX12 yX12_gearAt wsX12_gearAt) := goodIn_app (goodIn_q _ [23, 24, 25, 6] rfl (by decide +kernel)) ggX12_shoulder_X12_gearAt
set_option maxRecDepth 20000 in
theorem ggX12_shoulder_X12_answer : GoodIn wsX12_shoulder wsX12_answer := goodIn_ca (goodIn_q _ [48, 22] rfl (by decide +kernel)) (goodIn_sub (fun _ h => (List.mem_cons_of_mem _ (List.mem_append_left _ (List.mem_append_right _ h)))) tg_wsX120)
set_option maxRecDepth 20000 in
theorem gX12_shoulder_X12_answer : GoodIn wsX12_shoulder (wsV RX12 153 RX12 yX12_answer wsX12_answer) := goodIn_app (goodIn_q _ [45, 46, 47, 6] rfl (by decide +kernel)) ggX12_shoulder_X12_answer
def dsX12_shoulder_0 : ByteArray := ⟨#[42, 27, 182, 0, 121, 154, 0, 9, 42, 4, 182, 0, 143, 172, 28, 133]⟩
theorem daX12_shoulder_0 : agB cX12_shoulder dsX12_shoulder_0 0 := agB_of (n := 16) (by decide +kernel)
theorem dbX12_shoulder_0 : (decode dsX12_shoulder_0 0 = .ok (.aload_n 0, 1) ∧ okop dsX12_shoulder_0 0 = true) ∧ (decode dsX12_shoulder_0 1 = .ok (.iload_n 1, 1) ∧ okop dsX12_shoulder_0 1 = true) ∧ (decode dsX12_shoulder_0 2 = .ok (.invokevirtual 121, 3) ∧ okop dsX12_shoulder_0 2 = true) ∧ (decode dsX12_shoulder_0 5 = .ok (.ifCond .ne 9, 3) ∧ okop dsX12_shoulder_0 5 = true) ∧ (decode dsX12_shoulder_0 8 = .ok (.aload_n 0, 1) ∧ okop dsX12_shoulder_0 8 = true) ∧ (decode dsX12_shoulder_0 9 = .ok (.iconst 1, 1) ∧ okop dsX12_shoulder_0 9 = true) ∧ (decode dsX12_shoulder_0 10 = .ok (.invokevirtual 143, 3) ∧ okop dsX12_shoulder_0 10 = true) ∧ (decode dsX12_shoulder_0 13 = .ok (.ireturn, 1) ∧ okop dsX12_shoulder_0 13 = true) ∧ (decode dsX12_shoulder_0 14 = .ok (.iload_n 2, 1) ∧ okop dsX12_shoulder_0 14 = true) ∧ (decode dsX12_shoulder_0 15 = .ok (.i2l, 1) ∧ okop dsX12_shoulder_0 15 = true) := by decide +kernel
theorem dX12_shoulder_0 : decode cX12_shoulder 0 = .ok (.aload_n 0, 1) := dgq (p := 0) daX12_shoulder_0 dbX12_shoulder_0.1
theorem dX12_shoulder_1 : decode cX12_shoulder 1 = .ok (.iload_n 1, 1) := dgq (p := 1) daX12_shoulder_0 dbX12_shoulder_0.2.1
theorem dX12_shoulder_2 : decode cX12_shoulder 2 = .ok (.invokevirtual 121, 3) := dgq (p := 2) daX12_shoulder_0 dbX12_shoulder_0.2.2.1
theorem dX12_shoulder_5 : decode cX12_shoulder 5 = .ok (.ifCond .ne 9, 3) := dgq (p := 5) daX12_shoulder_0 dbX12_shoulder_0.2.2.2.1
theorem dX12_shoulder_8 : decode cX12_shoulder 8 = .ok (.aload_n 0, 1) := dgq (p := 8) daX12_shoulder_0 dbX12_shoulder_0.2.2.2.2.1
theorem dX12_shoulder_9 : decode cX12_shoulder 9 = .ok (.iconst 1, 1) := dgq (p := 9) daX12_shoulder_0 dbX12_shoulder_0.2.2.2.2.2.1
theorem dX12_shoulder_10 : decode cX12_shoulder 10 = .ok (.invokevirtual 143, 3) := dgq (p := 10) daX12_shoulder_0 dbX12_shoulder_0.2.2.2.2.2.2.1
theorem dX12_shoulder_13 : decode cX12_shoulder 13 = .ok (.ireturn, 1) := dgq (p := 13) daX12_shoulder_0 dbX12_shoulder_0.2.2.2.2.2.2.2.1
theorem dX12_shoulder_14 : decode cX12_shoulder 14 = .ok (.iload_n 2, 1) := dgq (p := 14) daX12_shoulder_0 dbX12_shoulder_0.2.2.2.2.2.2.2.2.1
theorem dX12_shoulder_15 : decode cX12_shoulder 15 = .ok (.i2l, 1) := dgq (p := 15) daX12_shoulder_0 dbX12_shoulder_0.2.2.2.2.2.2.2.2.2
def dsX12_shoulder_16 : ByteArray := ⟨#[20, 1, 79, 20, 0, 141, 184, 0, 101, 154, 0, 9, 42, 5, 182, 0, 143, 172, 42, 27]⟩
theorem daX12_shoulder_16 : agB cX12_shoulder dsX12_shoulder_16 16 := agB_of (n := 20) (by decide +kernel)
theorem dbX12_shoulder_16 : (decode dsX12_shoulder_16 0 = .ok (.ldc2_w 335, 3) ∧ okop dsX12_shoulder_16 0 = true) ∧ (decode dsX12_shoulder_16 3 = .ok (.ldc2_w 141, 3) ∧ okop dsX12_shoulder_16 3 = true) ∧ (decode dsX12_shoulder_16 6 = .ok (.invokestatic 101, 3) ∧ okop dsX12_shoulder_16 6 = true) ∧ (decode dsX12_shoulder_16 9 = .ok (.ifCond .ne 9, 3) ∧ okop dsX12_shoulder_16 9 = true) ∧ (decode dsX12_shoulder_16 12 = .ok (.aload_n 0, 1) ∧ okop dsX12_shoulder_16 12 = true) ∧ (decode dsX12_shoulder_16 13 = .ok (.iconst 2, 1) ∧ okop dsX12_shoulder_16 13 = true) ∧ (decode dsX12_shoulder_16 14 = .ok (.invokevirtual 143, 3) ∧ okop dsX12_shoulder_16 14 = true) ∧ (decode dsX12_shoulder_16 17 = .ok (.ireturn, 1) ∧ okop dsX12_shoulder_16 17 = true) ∧ (decode dsX12_shoulder_16 18 = .ok (.aload_n 0, 1) ∧ okop dsX12_shoulder_16 18 = true) ∧ (decode dsX12_shoulder_16 19 = .ok (.iload_n 1, 1) ∧ okop dsX12_shoulder_16 19 = true) := by decide +kernel
theorem dX12_shoulder_16 : decode cX12_shoulder 16 = .ok (.ldc2_w 335, 3) := dgq (p := 0) daX12_shoulder_16 dbX12_shoulder_16.1
theorem dX12_shoulder_19 : decode cX12_shoulder 19 = .ok (.ldc2_w 141, 3) := dgq (p := 3) daX12_shoulder_16 dbX12_shoulder_16.2.1
theorem dX12_shoulder_22 : decode cX12_shoulder 22 = .ok (.invokestatic 101, 3) := dgq (p := 6) daX12_shoulder_16 dbX12_shoulder_16.2.2.1
theorem dX12_shoulder_25 : decode cX12_shoulder 25 = .ok (.ifCond .ne 9, 3) := dgq (p := 9) daX12_shoulder_16 dbX12_shoulder_16.2.2.2.1
theorem dX12_shoulder_28 : decode cX12_shoulder 28 = .ok (.aload_n 0, 1) := dgq (p := 12) daX12_shoulder_16 dbX12_shoulder_16.2.2.2.2.1
theorem dX12_shoulder_29 : decode cX12_shoulder 29 = .ok (.iconst 2, 1) := dgq (p := 13) daX12_shoulder_16 dbX12_shoulder_16.2.2.2.2.2.1
theorem dX12_shoulder_30 : decode cX12_shoulder 30 = .ok (.invokevirtual 143, 3) := dgq (p := 14) daX12_shoulder_16 dbX12_shoulder_16.2.2.2.2.2.2.1
theorem dX12_shoulder_33 : decode cX12_shoulder 33 = .ok (.ireturn, 1) := dgq (p := 17) daX12_shoulder_16 dbX12_shoulder_16.2.2.2.2.2.2.2.1
theorem dX12_shoulder_34 : decode cX12_shoulder 34 = .ok (.aload_n 0, 1) := dgq (p := 18) daX12_shoulder_16 dbX12_shoulder_16.2.2.2.2.2.2.2.2.1
theorem dX12_shoulder_35 : decode cX12_shoulder 35 = .ok (.iload_n 1, 1) := dgq (p := 19) daX12_shoulder_16 dbX12_shoulder_16.2.2.2.2.2.2.2.2.2
def dsX12_shoulder_36 : ByteArray := ⟨#[182, 0, 111, 180, 1, 81, 62, 42, 27, 182, 0, 111, 28, 181, 1, 81, 42, 29]⟩
theorem daX12_shoulder_36 : agB cX12_shoulder dsX12_shoulder_36 36 := agB_of (n := 18) (by decide +kernel)
theorem dbX12_shoulder_36 : (decode dsX12_shoulder_36 0 = .ok (.invokevirtual 111, 3) ∧ okop dsX12_shoulder_36 0 = true) ∧ (decode dsX12_shoulder_36 3 = .ok (.getfield 337, 3) ∧ okop dsX12_shoulder_36 3 = true) ∧ (decode dsX12_shoulder_36 6 = .ok (.istore_n 3, 1) ∧ okop dsX12_shoulder_36 6 = true) ∧ (decode dsX12_shoulder_36 7 = .ok (.aload_n 0, 1) ∧ okop dsX12_shoulder_36 7 = true) ∧ (decode dsX12_shoulder_36 8 = .ok (.iload_n 1, 1) ∧ okop dsX12_shoulder_36 8 = true) ∧ (decode dsX12_shoulder_36 9 = .ok (.invokevirtual 111, 3) ∧ okop dsX12_shoulder_36 9 = true) ∧ (decode dsX12_shoulder_36 12 = .ok (.iload_n 2, 1) ∧ okop dsX12_shoulder_36 12 = true) ∧ (decode dsX12_shoulder_36 13 = .ok (.putfield 337, 3) ∧ okop dsX12_shoulder_36 13 = true) ∧ (decode dsX12_shoulder_36 16 = .ok (.aload_n 0, 1) ∧ okop dsX12_shoulder_36 16 = true) ∧ (decode dsX12_shoulder_36 17 = .ok (.iload_n 3, 1) ∧ okop dsX12_shoulder_36 17 = true) := by decide +kernel
theorem dX12_shoulder_36 : decode cX12_shoulder 36 = .ok (.invokevirtual 111, 3) := dgq (p := 0) daX12_shoulder_36 dbX12_shoulder_36.1
theorem dX12_shoulder_39 : decode cX12_shoulder 39 = .ok (.getfield 337, 3) := dgq (p := 3) daX12_shoulder_36 dbX12_shoulder_36.2.1
theorem dX12_shoulder_42 : decode cX12_shoulder 42 = .ok (.istore_n 3, 1) := dgq (p := 6) daX12_shoulder_36 dbX12_shoulder_36.2.2.1
theorem dX12_shoulder_43 : decode cX12_shoulder 43 = .ok (.aload_n 0, 1) := dgq (p := 7) daX12_shoulder_36 dbX12_shoulder_36.2.2.2.1
theorem dX12_shoulder_44 : decode cX12_shoulder 44 = .ok (.iload_n 1, 1) := dgq (p := 8) daX12_shoulder_36 dbX12_shoulder_36.2.2.2.2.1
theorem dX12_shoulder_45 : decode cX12_shoulder 45 = .ok (.invokevirtual 111, 3) := dgq (p := 9) daX12_shoulder_36 dbX12_shoulder_36.2.2.2.2.2.1
theorem dX12_shoulder_48 : decode cX12_shoulder 48 = .ok (.iload_n 2, 1) := dgq (p := 12) daX12_shoulder_36 dbX12_shoulder_36.2.2.2.2.2.2.1
theorem dX12_shoulder_49 : decode cX12_shoulder 49 = .ok (.putfield 337, 3) := dgq (p := 13) daX12_shoulder_36 dbX12_shoulder_36.2.2.2.2.2.2.2.1
theorem dX12_shoulder_52 : decode cX12_shoulder 52 = .ok (.aload_n 0, 1) := dgq (p := 16) daX12_shoulder_36 dbX12_shoulder_36.2.2.2.2.2.2.2.2.1
theorem dX12_shoulder_53 : decode cX12_shoulder 53 = .ok (.iload_n 3, 1) := dgq (p := 17) daX12_shoulder_36 dbX12_shoulder_36.2.2.2.2.2.2.2.2.2
theorem dX12_shoulder_54 : decode cX12_shoulder 54 = .ok (.invokevirtual 153, 3) := by decide +kernel
theorem dX12_shoulder_57 : decode cX12_shoulder 57 = .ok (.ireturn, 1) := by decide +kernel
set_option maxRecDepth 20000 in
theorem ggX12_approach_X12_isHob : GoodIn wsX12_approach wsX12_isHob := goodIn_ca (goodIn_ca (goodIn_q _ [7, 1, 8, 9, 10, 11, 12, 13, 14, 15, 6, 16] rfl (by decide +kernel)) (goodIn_sub (fun _ h => (List.mem_cons_of_mem _ (List.mem_append_left _ (List.mem_append_left _ (List.mem_append_right _ h))))) tg_wsX120)) (goodIn_sub (fun _ h => (List.mem_cons_of_mem _ (List.mem_append_left _ (List.mem_append_right _ h)))) tg_wsJx4a65c0)
set_option maxRecDepth 20000 in
theorem gX12_approach_X12_isHob : GoodIn wsX12_approach (wsV RX12 326 RX12 yX12_isHob wsX12_isHob) := goodIn_app (goodIn_q _ [3, 4, 5, 6] rfl (by decide +kernel)) ggX12_approach_X12_isHob
set_option maxRecDepth 20000 in
theorem ggX12_approach_Jx4a65c_get_915e3 : GoodIn wsX12_approach wsJx4a65c_get_915e3 := goodIn_ca (goodIn_q _ [20, 13, 21, 22, 23, 24, 25, 26, 27, 28, 29, 30, 31, 11, 32, 33] rfl (by decide +kernel)) (goodIn_sub (fun _ h => (List.mem_cons_of_mem _ (List.mem_append_left _ (List.mem_append_right _ h)))) tg_wsJx4a65c0)
set_option maxRecDepth 20000 in
theorem gX12_approach_Jx4a65c_get_915e3 : GoodIn wsX12_approach (wsV RX12 105 RJx4a65c yJx4a65c_get_915e3 wsJx4a65c_get_915e3) := goodIn_app (goodIn_q _ [17, 18, 19, 11] rfl (by decide +kernel)) ggX12_approach_Jx4a65c_get_915e3
set_option maxRecDepth 20000 in
theorem ggX12_approach_X11_approach : GoodIn wsX12_approach wsX11_approach := goodIn_ca (goodIn_q _ [38, 39, 40, 41, 42, 43, 6, 44, 45, 46] rfl (by decide +kernel)) (goodIn_sub (fun _ h => (List.mem_cons_of_mem _ (List.mem_append_right _ h))) tg_wsX110)
set_option maxRecDepth 20000 in
theorem gX12_approach_X11_approach : GoodIn wsX12_approach (wsV RX12 340 RX11 yX11_approach wsX11_approach) := goodIn_app (goodIn_q _ [34, 35, 36, 37] rfl (by decide +kernel)) ggX12_approach_X11_approach
set_option maxRecDepth 20000 in
theorem ggX12_approach_X12_answer : GoodIn wsX12_approach wsX12_answer := goodIn_ca (goodIn_q _ [50, 51] rfl (by decide +kernel)) (goodIn_sub (fun _ h => (List.mem_cons_of_mem _ (List.mem_append_left _ (List.mem_append_left _ (List.mem_append_right _ h))))) tg_wsX120)
set_option maxRecDepth 20000 in
theorem gX12_approach_X12_answer : GoodIn wsX12_approach (wsV RX12 153 RX12 yX12_answer wsX12_answer) := goodIn_app (goodIn_q _ [47, 48, 49, 6] rfl (by decide +kernel)) ggX12_approach_X12_answer
set_option maxRecDepth 20000 in
theorem ggX12_approach_X12_fails : GoodIn wsX12_approach wsX12_fails := goodIn_ca (goodIn_q _ [55, 51] rfl (by decide +kernel)) (goodIn_sub (fun _ h => (List.mem_cons_of_mem _ (List.mem_append_left _ (List.mem_append_left _ (List.mem_append_right _ h))))) tg_wsX120)
set_option maxRecDepth 20000 in
theorem gX12_approach_X12_fails : GoodIn wsX12_approach (wsV RX12 143 RX12 yX12_fails wsX12_fails) := goodIn_app (goodIn_q _ [52, 53, 54, 6] rfl (by decide +kernel)) ggX12_approach_X12_fails
def dsX12_approach_0 : ByteArray := ⟨#[42, 27, 182, 1, 70, 153, 0, 24, 42, 42, 180, 0, 28, 27, 182, 0, 105, 192, 1, 66]⟩
theorem daX12_approach_0 : agB cX12_approach dsX12_approach_0 0 := agB_of (n := 20) (by decide +kernel)
theorem dbX12_approach_0 : (decode dsX12_approach_0 0 = .ok (.aload_n 0, 1) ∧ okop dsX12_approach_0 0 = true) ∧ (decode dsX12_approach_0 1 = .ok (.iload_n 1, 1) ∧ okop dsX12_approach_0 1 = true) ∧ (decode dsX12_approach_0 2 = .ok (.invokevirtual 326, 3) ∧ okop dsX12_approach_0 2 = true) ∧ (decode dsX12_approach_0 5 = .ok (.ifCond .eq 24, 3) ∧ okop dsX12_approach_0 5 = true) ∧ (decode dsX12_approach_0 8 = .ok (.aload_n 0, 1) ∧ okop dsX12_approach_0 8 = true) ∧ (decode dsX12_approach_0 9 = .ok (.aload_n 0, 1) ∧ okop dsX12_approach_0 9 = true) ∧ (decode dsX12_approach_0 10 = .ok (.getfield 28, 3) ∧ okop dsX12_approach_0 10 = true) ∧ (decode dsX12_approach_0 13 = .ok (.iload_n 1, 1) ∧ okop dsX12_approach_0 13 = true) ∧ (decode dsX12_approach_0 14 = .ok (.invokevirtual 105, 3) ∧ okop dsX12_approach_0 14 = true) ∧ (decode dsX12_approach_0 17 = .ok (.checkcast 322, 3) ∧ okop dsX12_approach_0 17 = true) := by decide +kernel
theorem dX12_approach_0 : decode cX12_approach 0 = .ok (.aload_n 0, 1) := dgq (p := 0) daX12_approach_0 dbX12_approach_0.1
theorem dX12_approach_1 : decode cX12_approach 1 = .ok (.iload_n 1, 1) := dgq (p := 1) daX12_approach_0 dbX12_approach_0.2.1
theorem dX12_approach_2 : decode cX12_approach 2 = .ok (.invokevirtual 326, 3) := dgq (p := 2) daX12_approach_0 dbX12_approach_0.2.2.1
theorem dX12_approach_5 : decode cX12_approach 5 = .ok (.ifCond .eq 24, 3) := dgq (p := 5) daX12_approach_0 dbX12_approach_0.2.2.2.1
theorem dX12_approach_8 : decode cX12_approach 8 = .ok (.aload_n 0, 1) := dgq (p := 8) daX12_approach_0 dbX12_approach_0.2.2.2.2.1
theorem dX12_approach_9 : decode cX12_approach 9 = .ok (.aload_n 0, 1) := dgq (p := 9) daX12_approach_0 dbX12_approach_0.2.2.2.2.2.1
theorem dX12_approach_10 : decode cX12_approach 10 = .ok (.getfield 28, 3) := dgq (p := 10) daX12_approach_0 dbX12_approach_0.2.2.2.2.2.2.1
theorem dX12_approach_13 : decode cX12_approach 13 = .ok (.iload_n 1, 1) := dgq (p := 13) daX12_approach_0 dbX12_approach_0.2.2.2.2.2.2.2.1
theorem dX12_approach_14 : decode cX12_approach 14 = .ok (.invokevirtual 105, 3) := dgq (p := 14) daX12_approach_0 dbX12_approach_0.2.2.2.2.2.2.2.2.1
theorem dX12_approach_17 : decode cX12_approach 17 = .ok (.checkcast 322, 3) := dgq (p := 17) daX12_approach_0 dbX12_approach_0.2.2.2.2.2.2.2.2.2
def dsX12_approach_20 : ByteArray := ⟨#[182, 1, 84, 182, 0, 153, 167, 0, 8, 42, 4, 182, 0, 143, 172]⟩
theorem daX12_approach_20 : agB cX12_approach dsX12_approach_20 20 := agB_of (n := 15) (by decide +kernel)
theorem dbX12_approach_20 : (decode dsX12_approach_20 0 = .ok (.invokevirtual 340, 3) ∧ okop dsX12_approach_20 0 = true) ∧ (decode dsX12_approach_20 3 = .ok (.invokevirtual 153, 3) ∧ okop dsX12_approach_20 3 = true) ∧ (decode dsX12_approach_20 6 = .ok (.goto 8, 3) ∧ okop dsX12_approach_20 6 = true) ∧ (decode dsX12_approach_20 9 = .ok (.aload_n 0, 1) ∧ okop dsX12_approach_20 9 = true) ∧ (decode dsX12_approach_20 10 = .ok (.iconst 1, 1) ∧ okop dsX12_approach_20 10 = true) ∧ (decode dsX12_approach_20 11 = .ok (.invokevirtual 143, 3) ∧ okop dsX12_approach_20 11 = true) ∧ (decode dsX12_approach_20 14 = .ok (.ireturn, 1) ∧ okop dsX12_approach_20 14 = true) := by decide +kernel
theorem dX12_approach_20 : decode cX12_approach 20 = .ok (.invokevirtual 340, 3) := dgq (p := 0) daX12_approach_20 dbX12_approach_20.1
theorem dX12_approach_23 : decode cX12_approach 23 = .ok (.invokevirtual 153, 3) := dgq (p := 3) daX12_approach_20 dbX12_approach_20.2.1
theorem dX12_approach_26 : decode cX12_approach 26 = .ok (.goto 8, 3) := dgq (p := 6) daX12_approach_20 dbX12_approach_20.2.2.1
theorem dX12_approach_29 : decode cX12_approach 29 = .ok (.aload_n 0, 1) := dgq (p := 9) daX12_approach_20 dbX12_approach_20.2.2.2.1
theorem dX12_approach_30 : decode cX12_approach 30 = .ok (.iconst 1, 1) := dgq (p := 10) daX12_approach_20 dbX12_approach_20.2.2.2.2.1
theorem dX12_approach_31 : decode cX12_approach 31 = .ok (.invokevirtual 143, 3) := dgq (p := 11) daX12_approach_20 dbX12_approach_20.2.2.2.2.2.1
theorem dX12_approach_34 : decode cX12_approach 34 = .ok (.ireturn, 1) := dgq (p := 14) daX12_approach_20 dbX12_approach_20.2.2.2.2.2.2
set_option maxRecDepth 20000 in
theorem ggX12_cut_X12_isGear : GoodIn wsX12_cut wsX12_isGear := goodIn_ca (goodIn_ca (goodIn_q _ [8, 9, 10, 11, 12, 13, 14, 15, 16, 17, 7, 18] rfl (by decide +kernel)) (goodIn_sub (fun _ h => (List.mem_cons_of_mem _ (List.mem_append_left _ (List.mem_append_left _ (List.mem_append_left _ (List.mem_append_left _ (List.mem_append_left _ (List.mem_append_right _ h)))))))) tg_wsX120)) (goodIn_sub (fun _ h => (List.mem_cons_of_mem _ (List.mem_append_left _ (List.mem_append_left _ (List.mem_append_right _ h))))) tg_wsJx4a65c0)
set_option maxRecDepth 20000 in
theorem gX12_cut_X12_isGear : GoodIn wsX12_cut (wsV RX12 121 RX12 yX12_isGear wsX12_isGear) := goodIn_app (goodIn_q _ [4, 5, 6, 7] rfl (by decide +kernel)) ggX12_cut_X12_isGear
set_option maxRecDepth 20000 in
theorem ggX12_cut_X12_isHob : GoodIn wsX12_cut wsX12_isHob := goodIn_ca (goodIn_ca (goodIn_q _ [22, 2, 10, 11, 12, 13, 14, 15, 16, 17, 7, 18] rfl (by decide +kernel)) (goodIn_sub (fun _ h => (List.mem_cons_of_mem _ (List.mem_append_left _ (List.mem_append_left _ (List.mem_append_left _ (List.mem_append_left _ (List.mem_append_left _ (List.mem_append_right _ h)))))))) tg_wsX120)) (goodIn_sub (fun _ h => (List.mem_cons_of_mem _ (List.mem_append_left _ (List.mem_append_left _ (List.mem_append_right _ h))))) tg_wsJx4a65c0)
set_option maxRecDepth 20000 in
theorem gX12_cut_X12_isHob : GoodIn wsX12_cut (wsV RX12 326 RX12 yX12_isHob wsX12_isHob) := goodIn_app (goodIn_q _ [19, 20, 21, 7] rfl (by decide +kernel)) ggX12_cut_X12_isHob
set_option maxRecDepth 20000 in
theorem ggX12_cut_X12_fails : GoodIn wsX12_cut wsX12_fails := goodIn_ca (goodIn_q _ [26, 27] rfl (by decide +kernel)) (goodIn_sub (fun _ h => (List.mem_cons_of_mem _ (List.mem_append_left _ (List.mem_append_left _ (List.mem_append_left _ (List.mem_append_left _ (List.mem_append_left _ (List.mem_append_right _ h)))))))) tg_wsX120)
set_option maxRecDepth 20000 in
theorem gX12_cut_X12_fails : GoodIn wsX12_cut (wsV RX12 143 RX12 yX12_fails wsX12_fails) := goodIn_app (goodIn_q _ [23, 24, 25, 7] rfl (by decide +kernel)) ggX12_cut_X12_fails
set_option maxRecDepth 20000 in
theorem ggX12_cut_X12_in : GoodIn wsX12_cut wsX12_in := goodIn_q _ [18] rfl (by decide +kernel)
set_option maxRecDepth 20000 in
theorem gX12_cut_X12_in : GoodIn wsX12_cut (va_wsS RX12 101 yX12_in wsX12_in) := goodIn_app (goodIn_q _ [16, 17, 7] rfl (by decide +kernel)) ggX12_cut_X12_in
set_option maxRecDepth 20000 in
theorem ggX12_cut_X12_gearAt : GoodIn wsX12_cut wsX12_gearAt := goodIn_ca (goodIn_ca (goodIn_q _ [31, 9, 32, 33, 34, 35, 13, 36, 15, 37, 38, 39, 40, 41, 42, 43, 44, 45, 46, 47, 48, 49] rfl (by decide +kernel)) (goodIn_sub (fun _ h => (List.mem_cons_of_mem _ (List.mem_append_left _ (List.mem_append_left _ (List.mem_append_left _ (List.mem_append_left _ (List.mem_append_left _ (List.mem_append_right _ h)))))))) tg_wsX120)) (goodIn_sub (fun _ h => (List.mem_cons_of_mem _ (List.mem_append_left _ (List.mem_append_left _ (List.mem_append_right _ h))))) tg_wsJx4a65c0)
set_option maxRecDepth 20000 in
theorem gX12_cut_X12_gearAt : GoodIn wsX12_cut (wsV RX12 111 RX12 yX12_gearAt wsX12_gearAt) := goodIn_app (goodIn_q _ [28, 29, 30, 7] rfl (by decide +kernel)) ggX12_cut_X12_gearAt
set_option maxRecDepth 20000 in
theorem ggX12_cut_Jx4a65c_get_915e3 : GoodIn wsX12_cut wsJx4a65c_get_915e3 := goodIn_ca (goodIn_q _ [36, 15, 37, 38, 39, 40, 41, 42, 43, 44, 45, 46, 47, 13, 48, 49] rfl (by decide +kernel)) (goodIn_sub (fun _ h => (List.mem_cons_of_mem _ (List.mem_append_left _ (List.mem_append_left _ (List.mem_append_right _ h))))) tg_wsJx4a65c0)
set_option maxRecDepth 20000 in
theorem gX12_cut_Jx4a65c_get_915e3 : GoodIn wsX12_cut (wsV RX12 105 RJx4a65c yJx4a65c_get_915e3 wsJx4a65c_get_915e3) := goodIn_app (goodIn_q _ [33, 34, 35, 13] rfl (by decide +kernel)) ggX12_cut_Jx4a65c_get_915e3
set_option maxRecDepth 20000 in
theorem ggX12_cut_X11_canCut : GoodIn wsX12_cut wsX11_canCut := goodIn_ca (goodIn_ca (goodIn_ca (goodIn_q _ [54, 55, 56, 57, 58, 59, 60, 61, 53, 62, 63, 64, 65, 66, 7, 67, 68, 69] rfl (by decide +kernel)) (goodIn_sub (fun _ h => (List.mem_cons_of_mem _ (List.mem_append_left _ (List.mem_append_left _ (List.mem_append_left _ (List.mem_append_right _ h)))))) tg_wsX110)) (goodIn_sub (fun _ h => (List.mem_cons_of_mem _ (List.mem_append_left _ (List.mem_append_left _ (List.mem_append_left _ (List.mem_append_left _ (List.mem_append_right _ h))))))) tg_wsX100)) (goodIn_sub (fun _ h => List.mem_cons_of_mem _ (List.mem_append_left _ (List.mem_append_right _ h))) (by decide +kernel))
set_option maxRecDepth 20000 in
theorem gX12_cut_X11_canCut : GoodIn wsX12_cut (wsV RX12 343 RX11 yX11_canCut wsX11_canCut) := goodIn_app (goodIn_q _ [50, 51, 52, 53] rfl (by decide +kernel)) ggX12_cut_X11_canCut
set_option maxRecDepth 20000 in
theorem ggX12_cut_X12_answer : GoodIn wsX12_cut wsX12_answer := goodIn_ca (goodIn_q _ [73, 27] rfl (by decide +kernel)) (goodIn_sub (fun _ h => (List.mem_cons_of_mem _ (List.mem_append_left _ (List.mem_append_left _ (List.mem_append_left _ (List.mem_append_left _ (List.mem_append_left _ (List.mem_append_right _ h)))))))) tg_wsX120)
set_option maxRecDepth 20000 in
theorem gX12_cut_X12_answer : GoodIn wsX12_cut (wsV RX12 153 RX12 yX12_answer wsX12_answer) := goodIn_app (goodIn_q _ [70, 71, 72, 7] rfl (by decide +kernel)) ggX12_cut_X12_answer
def dsX12_cut_0 : ByteArray := ⟨#[42, 27, 182, 0, 121, 153, 0, 11, 42, 28, 182, 1, 70, 154, 0, 9, 42, 4]⟩
theorem daX12_cut_0 : agB cX12_cut dsX12_cut_0 0 := agB_of (n := 18) (by decide +kernel)
theorem dbX12_cut_0 : (decode dsX12_cut_0 0 = .ok (.aload_n 0, 1) ∧ okop dsX12_cut_0 0 = true) ∧ (decode dsX12_cut_0 1 = .ok (.iload_n 1, 1) ∧ okop dsX12_cut_0 1 = true) ∧ (decode dsX12_cut_0 2 = .ok (.invokevirtual 121, 3) ∧ okop dsX12_cut_0 2 = true) ∧ (decode dsX12_cut_0 5 = .ok (.ifCond .eq 11, 3) ∧ okop dsX12_cut_0 5 = true) ∧ (decode dsX12_cut_0 8 = .ok (.aload_n 0, 1) ∧ okop dsX12_cut_0 8 = true) ∧ (decode dsX12_cut_0 9 = .ok (.iload_n 2, 1) ∧ okop dsX12_cut_0 9 = true) ∧ (decode dsX12_cut_0 10 = .ok (.invokevirtual 326, 3) ∧ okop dsX12_cut_0 10 = true) ∧ (decode dsX12_cut_0 13 = .ok (.ifCond .ne 9, 3) ∧ okop dsX12_cut_0 13 = true) ∧ (decode dsX12_cut_0 16 = .ok (.aload_n 0, 1) ∧ okop dsX12_cut_0 16 = true) ∧ (decode dsX12_cut_0 17 = .ok (.iconst 1, 1) ∧ okop dsX12_cut_0 17 = true) := by decide +kernel
theorem dX12_cut_0 : decode cX12_cut 0 = .ok (.aload_n 0, 1) := dgq (p := 0) daX12_cut_0 dbX12_cut_0.1
theorem dX12_cut_1 : decode cX12_cut 1 = .ok (.iload_n 1, 1) := dgq (p := 1) daX12_cut_0 dbX12_cut_0.2.1
theorem dX12_cut_2 : decode cX12_cut 2 = .ok (.invokevirtual 121, 3) := dgq (p := 2) daX12_cut_0 dbX12_cut_0.2.2.1
theorem dX12_cut_5 : decode cX12_cut 5 = .ok (.ifCond .eq 11, 3) := dgq (p := 5) daX12_cut_0 dbX12_cut_0.2.2.2.1
theorem dX12_cut_8 : decode cX12_cut 8 = .ok (.aload_n 0, 1) := dgq (p := 8) daX12_cut_0 dbX12_cut_0.2.2.2.2.1
theorem dX12_cut_9 : decode cX12_cut 9 = .ok (.iload_n 2, 1) := dgq (p := 9) daX12_cut_0 dbX12_cut_0.2.2.2.2.2.1
theorem dX12_cut_10 : decode cX12_cut 10 = .ok (.invokevirtual 326, 3) := dgq (p := 10) daX12_cut_0 dbX12_cut_0.2.2.2.2.2.2.1
theorem dX12_cut_13 : decode cX12_cut 13 = .ok (.ifCond .ne 9, 3) := dgq (p := 13) daX12_cut_0 dbX12_cut_0.2.2.2.2.2.2.2.1
theorem dX12_cut_16 : decode cX12_cut 16 = .ok (.aload_n 0, 1) := dgq (p := 16) daX12_cut_0 dbX12_cut_0.2.2.2.2.2.2.2.2.1
theorem dX12_cut_17 : decode cX12_cut 17 = .ok (.iconst 1, 1) := dgq (p := 17) daX12_cut_0 dbX12_cut_0.2.2.2.2.2.2.2.2.2
def dsX12_cut_18 : ByteArray := ⟨#[182, 0, 143, 172, 29, 133, 9, 20, 0, 133, 184, 0, 101, 154, 0, 9, 42, 5]⟩
theorem daX12_cut_18 : agB cX12_cut dsX12_cut_18 18 := agB_of (n := 18) (by decide +kernel)
theorem dbX12_cut_18 : (decode dsX12_cut_18 0 = .ok (.invokevirtual 143, 3) ∧ okop dsX12_cut_18 0 = true) ∧ (decode dsX12_cut_18 3 = .ok (.ireturn, 1) ∧ okop dsX12_cut_18 3 = true) ∧ (decode dsX12_cut_18 4 = .ok (.iload_n 3, 1) ∧ okop dsX12_cut_18 4 = true) ∧ (decode dsX12_cut_18 5 = .ok (.i2l, 1) ∧ okop dsX12_cut_18 5 = true) ∧ (decode dsX12_cut_18 6 = .ok (.lconst 0, 1) ∧ okop dsX12_cut_18 6 = true) ∧ (decode dsX12_cut_18 7 = .ok (.ldc2_w 133, 3) ∧ okop dsX12_cut_18 7 = true) ∧ (decode dsX12_cut_18 10 = .ok (.invokestatic 101, 3) ∧ okop dsX12_cut_18 10 = true) ∧ (decode dsX12_cut_18 13 = .ok (.ifCond .ne 9, 3) ∧ okop dsX12_cut_18 13 = true) ∧ (decode dsX12_cut_18 16 = .ok (.aload_n 0, 1) ∧ okop dsX12_cut_18 16 = true) ∧ (decode dsX12_cut_18 17 = .ok (.iconst 2, 1) ∧ okop dsX12_cut_18 17 = true) := by decide +kernel
theorem dX12_cut_18 : decode cX12_cut 18 = .ok (.invokevirtual 143, 3) := dgq (p := 0) daX12_cut_18 dbX12_cut_18.1
theorem dX12_cut_21 : decode cX12_cut 21 = .ok (.ireturn, 1) := dgq (p := 3) daX12_cut_18 dbX12_cut_18.2.1
theorem dX12_cut_22 : decode cX12_cut 22 = .ok (.iload_n 3, 1) := dgq (p := 4) daX12_cut_18 dbX12_cut_18.2.2.1
theorem dX12_cut_23 : decode cX12_cut 23 = .ok (.i2l, 1) := dgq (p := 5) daX12_cut_18 dbX12_cut_18.2.2.2.1
theorem dX12_cut_24 : decode cX12_cut 24 = .ok (.lconst 0, 1) := dgq (p := 6) daX12_cut_18 dbX12_cut_18.2.2.2.2.1
theorem dX12_cut_25 : decode cX12_cut 25 = .ok (.ldc2_w 133, 3) := dgq (p := 7) daX12_cut_18 dbX12_cut_18.2.2.2.2.2.1
theorem dX12_cut_28 : decode cX12_cut 28 = .ok (.invokestatic 101, 3) := dgq (p := 10) daX12_cut_18 dbX12_cut_18.2.2.2.2.2.2.1
theorem dX12_cut_31 : decode cX12_cut 31 = .ok (.ifCond .ne 9, 3) := dgq (p := 13) daX12_cut_18 dbX12_cut_18.2.2.2.2.2.2.2.1
theorem dX12_cut_34 : decode cX12_cut 34 = .ok (.aload_n 0, 1) := dgq (p := 16) daX12_cut_18 dbX12_cut_18.2.2.2.2.2.2.2.2.1
theorem dX12_cut_35 : decode cX12_cut 35 = .ok (.iconst 2, 1) := dgq (p := 17) daX12_cut_18 dbX12_cut_18.2.2.2.2.2.2.2.2.2
def dsX12_cut_36 : ByteArray := ⟨#[182, 0, 143, 172, 42, 27, 182, 0, 111, 58, 4, 42, 180, 0, 28, 28, 182, 0, 105]⟩
theorem daX12_cut_36 : agB cX12_cut dsX12_cut_36 36 := agB_of (n := 19) (by decide +kernel)
theorem dbX12_cut_36 : (decode dsX12_cut_36 0 = .ok (.invokevirtual 143, 3) ∧ okop dsX12_cut_36 0 = true) ∧ (decode dsX12_cut_36 3 = .ok (.ireturn, 1) ∧ okop dsX12_cut_36 3 = true) ∧ (decode dsX12_cut_36 4 = .ok (.aload_n 0, 1) ∧ okop dsX12_cut_36 4 = true) ∧ (decode dsX12_cut_36 5 = .ok (.iload_n 1, 1) ∧ okop dsX12_cut_36 5 = true) ∧ (decode dsX12_cut_36 6 = .ok (.invokevirtual 111, 3) ∧ okop dsX12_cut_36 6 = true) ∧ (decode dsX12_cut_36 9 = .ok (.astore 4, 2) ∧ okop dsX12_cut_36 9 = true) ∧ (decode dsX12_cut_36 11 = .ok (.aload_n 0, 1) ∧ okop dsX12_cut_36 11 = true) ∧ (decode dsX12_cut_36 12 = .ok (.getfield 28, 3) ∧ okop dsX12_cut_36 12 = true) ∧ (decode dsX12_cut_36 15 = .ok (.iload_n 2, 1) ∧ okop dsX12_cut_36 15 = true) ∧ (decode dsX12_cut_36 16 = .ok (.invokevirtual 105, 3) ∧ okop dsX12_cut_36 16 = true) := by decide +kernel
theorem dX12_cut_36 : decode cX12_cut 36 = .ok (.invokevirtual 143, 3) := dgq (p := 0) daX12_cut_36 dbX12_cut_36.1
theorem dX12_cut_39 : decode cX12_cut 39 = .ok (.ireturn, 1) := dgq (p := 3) daX12_cut_36 dbX12_cut_36.2.1
theorem dX12_cut_40 : decode cX12_cut 40 = .ok (.aload_n 0, 1) := dgq (p := 4) daX12_cut_36 dbX12_cut_36.2.2.1
theorem dX12_cut_41 : decode cX12_cut 41 = .ok (.iload_n 1, 1) := dgq (p := 5) daX12_cut_36 dbX12_cut_36.2.2.2.1
theorem dX12_cut_42 : decode cX12_cut 42 = .ok (.invokevirtual 111, 3) := dgq (p := 6) daX12_cut_36 dbX12_cut_36.2.2.2.2.1
theorem dX12_cut_45 : decode cX12_cut 45 = .ok (.astore 4, 2) := dgq (p := 9) daX12_cut_36 dbX12_cut_36.2.2.2.2.2.1
theorem dX12_cut_47 : decode cX12_cut 47 = .ok (.aload_n 0, 1) := dgq (p := 11) daX12_cut_36 dbX12_cut_36.2.2.2.2.2.2.1
theorem dX12_cut_48 : decode cX12_cut 48 = .ok (.getfield 28, 3) := dgq (p := 12) daX12_cut_36 dbX12_cut_36.2.2.2.2.2.2.2.1
theorem dX12_cut_51 : decode cX12_cut 51 = .ok (.iload_n 2, 1) := dgq (p := 15) daX12_cut_36 dbX12_cut_36.2.2.2.2.2.2.2.2.1
theorem dX12_cut_52 : decode cX12_cut 52 = .ok (.invokevirtual 105, 3) := dgq (p := 16) daX12_cut_36 dbX12_cut_36.2.2.2.2.2.2.2.2.2
def dsX12_cut_55 : ByteArray := ⟨#[192, 1, 66, 58, 5, 25, 4, 180, 0, 160, 154, 0, 13, 25, 5, 25, 4, 182, 1, 87, 154, 0, 9, 42]⟩
theorem daX12_cut_55 : agB cX12_cut dsX12_cut_55 55 := agB_of (n := 24) (by decide +kernel)
theorem dbX12_cut_55 : (decode dsX12_cut_55 0 = .ok (.checkcast 322, 3) ∧ okop dsX12_cut_55 0 = true) ∧ (decode dsX12_cut_55 3 = .ok (.astore 5, 2) ∧ okop dsX12_cut_55 3 = true) ∧ (decode dsX12_cut_55 5 = .ok (.aload 4, 2) ∧ okop dsX12_cut_55 5 = true) ∧ (decode dsX12_cut_55 7 = .ok (.getfield 160, 3) ∧ okop dsX12_cut_55 7 = true) ∧ (decode dsX12_cut_55 10 = .ok (.ifCond .ne 13, 3) ∧ okop dsX12_cut_55 10 = true) ∧ (decode dsX12_cut_55 13 = .ok (.aload 5, 2) ∧ okop dsX12_cut_55 13 = true) ∧ (decode dsX12_cut_55 15 = .ok (.aload 4, 2) ∧ okop dsX12_cut_55 15 = true) ∧ (decode dsX12_cut_55 17 = .ok (.invokevirtual 343, 3) ∧ okop dsX12_cut_55 17 = true) ∧ (decode dsX12_cut_55 20 = .ok (.ifCond .ne 9, 3) ∧ okop dsX12_cut_55 20 = true) ∧ (decode dsX12_cut_55 23 = .ok (.aload_n 0, 1) ∧ okop dsX12_cut_55 23 = true) := by decide +kernel
theorem dX12_cut_55 : decode cX12_cut 55 = .ok (.checkcast 322, 3) := dgq (p := 0) daX12_cut_55 dbX12_cut_55.1
theorem dX12_cut_58 : decode cX12_cut 58 = .ok (.astore 5, 2) := dgq (p := 3) daX12_cut_55 dbX12_cut_55.2.1
theorem dX12_cut_60 : decode cX12_cut 60 = .ok (.aload 4, 2) := dgq (p := 5) daX12_cut_55 dbX12_cut_55.2.2.1
theorem dX12_cut_62 : decode cX12_cut 62 = .ok (.getfield 160, 3) := dgq (p := 7) daX12_cut_55 dbX12_cut_55.2.2.2.1
theorem dX12_cut_65 : decode cX12_cut 65 = .ok (.ifCond .ne 13, 3) := dgq (p := 10) daX12_cut_55 dbX12_cut_55.2.2.2.2.1
theorem dX12_cut_68 : decode cX12_cut 68 = .ok (.aload 5, 2) := dgq (p := 13) daX12_cut_55 dbX12_cut_55.2.2.2.2.2.1
theorem dX12_cut_70 : decode cX12_cut 70 = .ok (.aload 4, 2) := dgq (p := 15) daX12_cut_55 dbX12_cut_55.2.2.2.2.2.2.1
theorem dX12_cut_72 : decode cX12_cut 72 = .ok (.invokevirtual 343, 3) := dgq (p := 17) daX12_cut_55 dbX12_cut_55.2.2.2.2.2.2.2.1
theorem dX12_cut_75 : decode cX12_cut 75 = .ok (.ifCond .ne 9, 3) := dgq (p := 20) daX12_cut_55 dbX12_cut_55.2.2.2.2.2.2.2.2.1
theorem dX12_cut_78 : decode cX12_cut 78 = .ok (.aload_n 0, 1) := dgq (p := 23) daX12_cut_55 dbX12_cut_55.2.2.2.2.2.2.2.2.2
def dsX12_cut_79 : ByteArray := ⟨#[6, 182, 0, 143, 172, 25, 5, 180, 1, 91, 54, 6, 25, 5, 180, 1, 94, 21, 6, 92]⟩
theorem daX12_cut_79 : agB cX12_cut dsX12_cut_79 79 := agB_of (n := 20) (by decide +kernel)
theorem dbX12_cut_79 : (decode dsX12_cut_79 0 = .ok (.iconst 3, 1) ∧ okop dsX12_cut_79 0 = true) ∧ (decode dsX12_cut_79 1 = .ok (.invokevirtual 143, 3) ∧ okop dsX12_cut_79 1 = true) ∧ (decode dsX12_cut_79 4 = .ok (.ireturn, 1) ∧ okop dsX12_cut_79 4 = true) ∧ (decode dsX12_cut_79 5 = .ok (.aload 5, 2) ∧ okop dsX12_cut_79 5 = true) ∧ (decode dsX12_cut_79 7 = .ok (.getfield 347, 3) ∧ okop dsX12_cut_79 7 = true) ∧ (decode dsX12_cut_79 10 = .ok (.istore 6, 2) ∧ okop dsX12_cut_79 10 = true) ∧ (decode dsX12_cut_79 12 = .ok (.aload 5, 2) ∧ okop dsX12_cut_79 12 = true) ∧ (decode dsX12_cut_79 14 = .ok (.getfield 350, 3) ∧ okop dsX12_cut_79 14 = true) ∧ (decode dsX12_cut_79 17 = .ok (.iload 6, 2) ∧ okop dsX12_cut_79 17 = true) ∧ (decode dsX12_cut_79 19 = .ok (.dup2, 1) ∧ okop dsX12_cut_79 19 = true) := by decide +kernel
theorem dX12_cut_79 : decode cX12_cut 79 = .ok (.iconst 3, 1) := dgq (p := 0) daX12_cut_79 dbX12_cut_79.1
theorem dX12_cut_80 : decode cX12_cut 80 = .ok (.invokevirtual 143, 3) := dgq (p := 1) daX12_cut_79 dbX12_cut_79.2.1
theorem dX12_cut_83 : decode cX12_cut 83 = .ok (.ireturn, 1) := dgq (p := 4) daX12_cut_79 dbX12_cut_79.2.2.1
theorem dX12_cut_84 : decode cX12_cut 84 = .ok (.aload 5, 2) := dgq (p := 5) daX12_cut_79 dbX12_cut_79.2.2.2.1
theorem dX12_cut_86 : decode cX12_cut 86 = .ok (.getfield 347, 3) := dgq (p := 7) daX12_cut_79 dbX12_cut_79.2.2.2.2.1
theorem dX12_cut_89 : decode cX12_cut 89 = .ok (.istore 6, 2) := dgq (p := 10) daX12_cut_79 dbX12_cut_79.2.2.2.2.2.1
theorem dX12_cut_91 : decode cX12_cut 91 = .ok (.aload 5, 2) := dgq (p := 12) daX12_cut_79 dbX12_cut_79.2.2.2.2.2.2.1
theorem dX12_cut_93 : decode cX12_cut 93 = .ok (.getfield 350, 3) := dgq (p := 14) daX12_cut_79 dbX12_cut_79.2.2.2.2.2.2.2.1
theorem dX12_cut_96 : decode cX12_cut 96 = .ok (.iload 6, 2) := dgq (p := 17) daX12_cut_79 dbX12_cut_79.2.2.2.2.2.2.2.2.1
theorem dX12_cut_98 : decode cX12_cut 98 = .ok (.dup2, 1) := dgq (p := 19) daX12_cut_79 dbX12_cut_79.2.2.2.2.2.2.2.2.2
def dsX12_cut_99 : ByteArray := ⟨#[46, 25, 4, 180, 1, 76, 25, 5, 180, 1, 73, 108, 96, 79, 25, 5, 21, 6]⟩
theorem daX12_cut_99 : agB cX12_cut dsX12_cut_99 99 := agB_of (n := 18) (by decide +kernel)
theorem dbX12_cut_99 : (decode dsX12_cut_99 0 = .ok (.iaload, 1) ∧ okop dsX12_cut_99 0 = true) ∧ (decode dsX12_cut_99 1 = .ok (.aload 4, 2) ∧ okop dsX12_cut_99 1 = true) ∧ (decode dsX12_cut_99 3 = .ok (.getfield 332, 3) ∧ okop dsX12_cut_99 3 = true) ∧ (decode dsX12_cut_99 6 = .ok (.aload 5, 2) ∧ okop dsX12_cut_99 6 = true) ∧ (decode dsX12_cut_99 8 = .ok (.getfield 329, 3) ∧ okop dsX12_cut_99 8 = true) ∧ (decode dsX12_cut_99 11 = .ok (.idiv, 1) ∧ okop dsX12_cut_99 11 = true) ∧ (decode dsX12_cut_99 12 = .ok (.iadd, 1) ∧ okop dsX12_cut_99 12 = true) ∧ (decode dsX12_cut_99 13 = .ok (.iastore, 1) ∧ okop dsX12_cut_99 13 = true) ∧ (decode dsX12_cut_99 14 = .ok (.aload 5, 2) ∧ okop dsX12_cut_99 14 = true) ∧ (decode dsX12_cut_99 16 = .ok (.iload 6, 2) ∧ okop dsX12_cut_99 16 = true) := by decide +kernel
theorem dX12_cut_99 : decode cX12_cut 99 = .ok (.iaload, 1) := dgq (p := 0) daX12_cut_99 dbX12_cut_99.1
theorem dX12_cut_100 : decode cX12_cut 100 = .ok (.aload 4, 2) := dgq (p := 1) daX12_cut_99 dbX12_cut_99.2.1
theorem dX12_cut_102 : decode cX12_cut 102 = .ok (.getfield 332, 3) := dgq (p := 3) daX12_cut_99 dbX12_cut_99.2.2.1
theorem dX12_cut_105 : decode cX12_cut 105 = .ok (.aload 5, 2) := dgq (p := 6) daX12_cut_99 dbX12_cut_99.2.2.2.1
theorem dX12_cut_107 : decode cX12_cut 107 = .ok (.getfield 329, 3) := dgq (p := 8) daX12_cut_99 dbX12_cut_99.2.2.2.2.1
theorem dX12_cut_110 : decode cX12_cut 110 = .ok (.idiv, 1) := dgq (p := 11) daX12_cut_99 dbX12_cut_99.2.2.2.2.2.1
theorem dX12_cut_111 : decode cX12_cut 111 = .ok (.iadd, 1) := dgq (p := 12) daX12_cut_99 dbX12_cut_99.2.2.2.2.2.2.1
theorem dX12_cut_112 : decode cX12_cut 112 = .ok (.iastore, 1) := dgq (p := 13) daX12_cut_99 dbX12_cut_99.2.2.2.2.2.2.2.1
theorem dX12_cut_113 : decode cX12_cut 113 = .ok (.aload 5, 2) := dgq (p := 14) daX12_cut_99 dbX12_cut_99.2.2.2.2.2.2.2.2.1
theorem dX12_cut_115 : decode cX12_cut 115 = .ok (.iload 6, 2) := dgq (p := 16) daX12_cut_99 dbX12_cut_99.2.2.2.2.2.2.2.2.2
def dsX12_cut_117 : ByteArray := ⟨#[4, 96, 25, 5, 180, 1, 97, 112, 181, 1, 91, 25, 4, 4, 181, 0, 160, 25, 4]⟩
theorem daX12_cut_117 : agB cX12_cut dsX12_cut_117 117 := agB_of (n := 19) (by decide +kernel)
theorem dbX12_cut_117 : (decode dsX12_cut_117 0 = .ok (.iconst 1, 1) ∧ okop dsX12_cut_117 0 = true) ∧ (decode dsX12_cut_117 1 = .ok (.iadd, 1) ∧ okop dsX12_cut_117 1 = true) ∧ (decode dsX12_cut_117 2 = .ok (.aload 5, 2) ∧ okop dsX12_cut_117 2 = true) ∧ (decode dsX12_cut_117 4 = .ok (.getfield 353, 3) ∧ okop dsX12_cut_117 4 = true) ∧ (decode dsX12_cut_117 7 = .ok (.irem, 1) ∧ okop dsX12_cut_117 7 = true) ∧ (decode dsX12_cut_117 8 = .ok (.putfield 347, 3) ∧ okop dsX12_cut_117 8 = true) ∧ (decode dsX12_cut_117 11 = .ok (.aload 4, 2) ∧ okop dsX12_cut_117 11 = true) ∧ (decode dsX12_cut_117 13 = .ok (.iconst 1, 1) ∧ okop dsX12_cut_117 13 = true) ∧ (decode dsX12_cut_117 14 = .ok (.putfield 160, 3) ∧ okop dsX12_cut_117 14 = true) ∧ (decode dsX12_cut_117 17 = .ok (.aload 4, 2) ∧ okop dsX12_cut_117 17 = true) := by decide +kernel
theorem dX12_cut_117 : decode cX12_cut 117 = .ok (.iconst 1, 1) := dgq (p := 0) daX12_cut_117 dbX12_cut_117.1
theorem dX12_cut_118 : decode cX12_cut 118 = .ok (.iadd, 1) := dgq (p := 1) daX12_cut_117 dbX12_cut_117.2.1
theorem dX12_cut_119 : decode cX12_cut 119 = .ok (.aload 5, 2) := dgq (p := 2) daX12_cut_117 dbX12_cut_117.2.2.1
theorem dX12_cut_121 : decode cX12_cut 121 = .ok (.getfield 353, 3) := dgq (p := 4) daX12_cut_117 dbX12_cut_117.2.2.2.1
theorem dX12_cut_124 : decode cX12_cut 124 = .ok (.irem, 1) := dgq (p := 7) daX12_cut_117 dbX12_cut_117.2.2.2.2.1
theorem dX12_cut_125 : decode cX12_cut 125 = .ok (.putfield 347, 3) := dgq (p := 8) daX12_cut_117 dbX12_cut_117.2.2.2.2.2.1
theorem dX12_cut_128 : decode cX12_cut 128 = .ok (.aload 4, 2) := dgq (p := 11) daX12_cut_117 dbX12_cut_117.2.2.2.2.2.2.1
theorem dX12_cut_130 : decode cX12_cut 130 = .ok (.iconst 1, 1) := dgq (p := 13) daX12_cut_117 dbX12_cut_117.2.2.2.2.2.2.2.1
theorem dX12_cut_131 : decode cX12_cut 131 = .ok (.putfield 160, 3) := dgq (p := 14) daX12_cut_117 dbX12_cut_117.2.2.2.2.2.2.2.2.1
theorem dX12_cut_134 : decode cX12_cut 134 = .ok (.aload 4, 2) := dgq (p := 17) daX12_cut_117 dbX12_cut_117.2.2.2.2.2.2.2.2.2
def dsX12_cut_136 : ByteArray := ⟨#[29, 181, 1, 100, 25, 4, 25, 5, 180, 1, 103, 181, 1, 106, 25, 4, 25, 5, 180, 1, 73, 181, 1, 109]⟩
theorem daX12_cut_136 : agB cX12_cut dsX12_cut_136 136 := agB_of (n := 24) (by decide +kernel)
theorem dbX12_cut_136 : (decode dsX12_cut_136 0 = .ok (.iload_n 3, 1) ∧ okop dsX12_cut_136 0 = true) ∧ (decode dsX12_cut_136 1 = .ok (.putfield 356, 3) ∧ okop dsX12_cut_136 1 = true) ∧ (decode dsX12_cut_136 4 = .ok (.aload 4, 2) ∧ okop dsX12_cut_136 4 = true) ∧ (decode dsX12_cut_136 6 = .ok (.aload 5, 2) ∧ okop dsX12_cut_136 6 = true) ∧ (decode dsX12_cut_136 8 = .ok (.getfield 359, 3) ∧ okop dsX12_cut_136 8 = true) ∧ (decode dsX12_cut_136 11 = .ok (.putfield 362, 3) ∧ okop dsX12_cut_136 11 = true) ∧ (decode dsX12_cut_136 14 = .ok (.aload 4, 2) ∧ okop dsX12_cut_136 14 = true) ∧ (decode dsX12_cut_136 16 = .ok (.aload 5, 2) ∧ okop dsX12_cut_136 16 = true) ∧ (decode dsX12_cut_136 18 = .ok (.getfield 329, 3) ∧ okop dsX12_cut_136 18 = true) ∧ (decode dsX12_cut_136 21 = .ok (.putfield 365, 3) ∧ okop dsX12_cut_136 21 = true) := by decide +kernel
theorem dX12_cut_136 : decode cX12_cut 136 = .ok (.iload_n 3, 1) := dgq (p := 0) daX12_cut_136 dbX12_cut_136.1
theorem dX12_cut_137 : decode cX12_cut 137 = .ok (.putfield 356, 3) := dgq (p := 1) daX12_cut_136 dbX12_cut_136.2.1
theorem dX12_cut_140 : decode cX12_cut 140 = .ok (.aload 4, 2) := dgq (p := 4) daX12_cut_136 dbX12_cut_136.2.2.1
theorem dX12_cut_142 : decode cX12_cut 142 = .ok (.aload 5, 2) := dgq (p := 6) daX12_cut_136 dbX12_cut_136.2.2.2.1
theorem dX12_cut_144 : decode cX12_cut 144 = .ok (.getfield 359, 3) := dgq (p := 8) daX12_cut_136 dbX12_cut_136.2.2.2.2.1
theorem dX12_cut_147 : decode cX12_cut 147 = .ok (.putfield 362, 3) := dgq (p := 11) daX12_cut_136 dbX12_cut_136.2.2.2.2.2.1
theorem dX12_cut_150 : decode cX12_cut 150 = .ok (.aload 4, 2) := dgq (p := 14) daX12_cut_136 dbX12_cut_136.2.2.2.2.2.2.1
theorem dX12_cut_152 : decode cX12_cut 152 = .ok (.aload 5, 2) := dgq (p := 16) daX12_cut_136 dbX12_cut_136.2.2.2.2.2.2.2.1
theorem dX12_cut_154 : decode cX12_cut 154 = .ok (.getfield 329, 3) := dgq (p := 18) daX12_cut_136 dbX12_cut_136.2.2.2.2.2.2.2.2.1
theorem dX12_cut_157 : decode cX12_cut 157 = .ok (.putfield 365, 3) := dgq (p := 21) daX12_cut_136 dbX12_cut_136.2.2.2.2.2.2.2.2.2
def dsX12_cut_160 : ByteArray := ⟨#[42, 21, 6, 182, 0, 153, 172]⟩
theorem daX12_cut_160 : agB cX12_cut dsX12_cut_160 160 := agB_of (n := 7) (by decide +kernel)
theorem dbX12_cut_160 : (decode dsX12_cut_160 0 = .ok (.aload_n 0, 1) ∧ okop dsX12_cut_160 0 = true) ∧ (decode dsX12_cut_160 1 = .ok (.iload 6, 2) ∧ okop dsX12_cut_160 1 = true) ∧ (decode dsX12_cut_160 3 = .ok (.invokevirtual 153, 3) ∧ okop dsX12_cut_160 3 = true) ∧ (decode dsX12_cut_160 6 = .ok (.ireturn, 1) ∧ okop dsX12_cut_160 6 = true) := by decide +kernel
theorem dX12_cut_160 : decode cX12_cut 160 = .ok (.aload_n 0, 1) := dgq (p := 0) daX12_cut_160 dbX12_cut_160.1
theorem dX12_cut_161 : decode cX12_cut 161 = .ok (.iload 6, 2) := dgq (p := 1) daX12_cut_160 dbX12_cut_160.2.1
theorem dX12_cut_163 : decode cX12_cut 163 = .ok (.invokevirtual 153, 3) := dgq (p := 3) daX12_cut_160 dbX12_cut_160.2.2.1
theorem dX12_cut_166 : decode cX12_cut 166 = .ok (.ireturn, 1) := dgq (p := 6) daX12_cut_160 dbX12_cut_160.2.2.2
set_option maxRecDepth 20000 in
theorem ggX12_wear_X12_isHob : GoodIn wsX12_wear wsX12_isHob := goodIn_ca (goodIn_ca (goodIn_q _ [7, 1, 8, 9, 10, 11, 12, 13, 14, 15, 6, 16] rfl (by decide +kernel)) (goodIn_sub (fun _ h => (List.mem_cons_of_mem _ (List.mem_append_left _ (List.mem_append_left _ (List.mem_append_left _ (List.mem_append_right _ h)))))) tg_wsX120)) (goodIn_sub (fun _ h => (List.mem_cons_of_mem _ (List.mem_append_left _ (List.mem_append_right _ h)))) tg_wsJx4a65c0)
set_option maxRecDepth 20000 in
theorem gX12_wear_X12_isHob : GoodIn wsX12_wear (wsV RX12 326 RX12 yX12_isHob wsX12_isHob) := goodIn_app (goodIn_q _ [3, 4, 5, 6] rfl (by decide +kernel)) ggX12_wear_X12_isHob
set_option maxRecDepth 20000 in
theorem ggX12_wear_Jx4a65c_get_915e3 : GoodIn wsX12_wear wsJx4a65c_get_915e3 := goodIn_ca (goodIn_q _ [20, 13, 21, 22, 23, 24, 25, 26, 27, 28, 29, 30, 31, 11, 32, 33] rfl (by decide +kernel)) (goodIn_sub (fun _ h => (List.mem_cons_of_mem _ (List.mem_append_left _ (List.mem_append_right _ h)))) tg_wsJx4a65c0)
set_option maxRecDepth 20000 in
theorem gX12_wear_Jx4a65c_get_915e3 : GoodIn wsX12_wear (wsV RX12 105 RJx4a65c yJx4a65c_get_915e3 wsJx4a65c_get_915e3) := goodIn_app (goodIn_q _ [17, 18, 19, 11] rfl (by decide +kernel)) ggX12_wear_Jx4a65c_get_915e3
set_option maxRecDepth 20000 in
theorem ggX12_wear_X12_in : GoodIn wsX12_wear wsX12_in := goodIn_q _ [16] rfl (by decide +kernel)
set_option maxRecDepth 20000 in
theorem gX12_wear_X12_in : GoodIn wsX12_wear (va_wsS RX12 101 yX12_in wsX12_in) := goodIn_app (goodIn_q _ [14, 15, 6] rfl (by decide +kernel)) ggX12_wear_X12_in
set_option maxRecDepth 20000 in
theorem ggX12_wear_X12_answer : GoodIn wsX12_wear wsX12_answer := goodIn_ca (goodIn_q _ [37, 38] rfl (by decide +kernel)) (goodIn_sub (fun _ h => (List.mem_cons_of_mem _ (List.mem_append_left _ (List.mem_append_left _ (List.mem_append_left _ (List.mem_append_right _ h)))))) tg_wsX120)
set_option maxRecDepth 20000 in
theorem gX12_wear_X12_answer : GoodIn wsX12_wear (wsV RX12 153 RX12 yX12_answer wsX12_answer) := goodIn_app (goodIn_q _ [34, 35, 36, 6] rfl (by decide +kernel)) ggX12_wear_X12_answer
set_option maxRecDepth 20000 in
theorem ggX12_wear_X12_fails : GoodIn wsX12_wear wsX12_fails := goodIn_ca (goodIn_q _ [42, 38] rfl (by decide +kernel)) (goodIn_sub (fun _ h => (List.mem_cons_of_mem _ (List.mem_append_left _ (List.mem_append_left _ (List.mem_append_left _ (List.mem_append_right _ h)))))) tg_wsX120)
set_option maxRecDepth 20000 in
theorem gX12_wear_X12_fails : GoodIn wsX12_wear (wsV RX12 143 RX12 yX12_fails wsX12_fails) := goodIn_app (goodIn_q _ [39, 40, 41, 6] rfl (by decide +kernel)) ggX12_wear_X12_fails
def dsX12_wear_0 : ByteArray := ⟨#[42, 27, 182, 1, 70, 153, 0, 52, 28, 133, 9, 42, 180, 0, 28, 27]⟩
theorem daX12_wear_0 : agB cX12_wear dsX12_wear_0 0 := agB_of (n := 16) (by decide +kernel)
theorem dbX12_wear_0 : (decode dsX12_wear_0 0 = .ok (.aload_n 0, 1) ∧ okop dsX12_wear_0 0 = true) ∧ (decode dsX12_wear_0 1 = .ok (.iload_n 1, 1) ∧ okop dsX12_wear_0 1 = true) ∧ (decode dsX12_wear_0 2 = .ok (.invokevirtual 326, 3) ∧ okop dsX12_wear_0 2 = true) ∧ (decode dsX12_wear_0 5 = .ok (.ifCond .eq 52, 3) ∧ okop dsX12_wear_0 5 = true) ∧ (decode dsX12_wear_0 8 = .ok (.iload_n 2, 1) ∧ okop dsX12_wear_0 8 = true) ∧ (decode dsX12_wear_0 9 = .ok (.i2l, 1) ∧ okop dsX12_wear_0 9 = true) ∧ (decode dsX12_wear_0 10 = .ok (.lconst 0, 1) ∧ okop dsX12_wear_0 10 = true) ∧ (decode dsX12_wear_0 11 = .ok (.aload_n 0, 1) ∧ okop dsX12_wear_0 11 = true) ∧ (decode dsX12_wear_0 12 = .ok (.getfield 28, 3) ∧ okop dsX12_wear_0 12 = true) ∧ (decode dsX12_wear_0 15 = .ok (.iload_n 1, 1) ∧ okop dsX12_wear_0 15 = true) := by decide +kernel
theorem dX12_wear_0 : decode cX12_wear 0 = .ok (.aload_n 0, 1) := dgq (p := 0) daX12_wear_0 dbX12_wear_0.1
theorem dX12_wear_1 : decode cX12_wear 1 = .ok (.iload_n 1, 1) := dgq (p := 1) daX12_wear_0 dbX12_wear_0.2.1
theorem dX12_wear_2 : decode cX12_wear 2 = .ok (.invokevirtual 326, 3) := dgq (p := 2) daX12_wear_0 dbX12_wear_0.2.2.1
theorem dX12_wear_5 : decode cX12_wear 5 = .ok (.ifCond .eq 52, 3) := dgq (p := 5) daX12_wear_0 dbX12_wear_0.2.2.2.1
theorem dX12_wear_8 : decode cX12_wear 8 = .ok (.iload_n 2, 1) := dgq (p := 8) daX12_wear_0 dbX12_wear_0.2.2.2.2.1
theorem dX12_wear_9 : decode cX12_wear 9 = .ok (.i2l, 1) := dgq (p := 9) daX12_wear_0 dbX12_wear_0.2.2.2.2.2.1
theorem dX12_wear_10 : decode cX12_wear 10 = .ok (.lconst 0, 1) := dgq (p := 10) daX12_wear_0 dbX12_wear_0.2.2.2.2.2.2.1
theorem dX12_wear_11 : decode cX12_wear 11 = .ok (.aload_n 0, 1) := dgq (p := 11) daX12_wear_0 dbX12_wear_0.2.2.2.2.2.2.2.1
theorem dX12_wear_12 : decode cX12_wear 12 = .ok (.getfield 28, 3) := dgq (p := 12) daX12_wear_0 dbX12_wear_0.2.2.2.2.2.2.2.2.1
theorem dX12_wear_15 : decode cX12_wear 15 = .ok (.iload_n 1, 1) := dgq (p := 15) daX12_wear_0 dbX12_wear_0.2.2.2.2.2.2.2.2.2
def dsX12_wear_16 : ByteArray := ⟨#[182, 0, 105, 192, 1, 66, 180, 1, 97, 4, 100, 133, 184, 0, 101, 153, 0, 26, 42, 42]⟩
theorem daX12_wear_16 : agB cX12_wear dsX12_wear_16 16 := agB_of (n := 20) (by decide +kernel)
theorem dbX12_wear_16 : (decode dsX12_wear_16 0 = .ok (.invokevirtual 105, 3) ∧ okop dsX12_wear_16 0 = true) ∧ (decode dsX12_wear_16 3 = .ok (.checkcast 322, 3) ∧ okop dsX12_wear_16 3 = true) ∧ (decode dsX12_wear_16 6 = .ok (.getfield 353, 3) ∧ okop dsX12_wear_16 6 = true) ∧ (decode dsX12_wear_16 9 = .ok (.iconst 1, 1) ∧ okop dsX12_wear_16 9 = true) ∧ (decode dsX12_wear_16 10 = .ok (.isub, 1) ∧ okop dsX12_wear_16 10 = true) ∧ (decode dsX12_wear_16 11 = .ok (.i2l, 1) ∧ okop dsX12_wear_16 11 = true) ∧ (decode dsX12_wear_16 12 = .ok (.invokestatic 101, 3) ∧ okop dsX12_wear_16 12 = true) ∧ (decode dsX12_wear_16 15 = .ok (.ifCond .eq 26, 3) ∧ okop dsX12_wear_16 15 = true) ∧ (decode dsX12_wear_16 18 = .ok (.aload_n 0, 1) ∧ okop dsX12_wear_16 18 = true) ∧ (decode dsX12_wear_16 19 = .ok (.aload_n 0, 1) ∧ okop dsX12_wear_16 19 = true) := by decide +kernel
theorem dX12_wear_16 : decode cX12_wear 16 = .ok (.invokevirtual 105, 3) := dgq (p := 0) daX12_wear_16 dbX12_wear_16.1
theorem dX12_wear_19 : decode cX12_wear 19 = .ok (.checkcast 322, 3) := dgq (p := 3) daX12_wear_16 dbX12_wear_16.2.1
theorem dX12_wear_22 : decode cX12_wear 22 = .ok (.getfield 353, 3) := dgq (p := 6) daX12_wear_16 dbX12_wear_16.2.2.1
theorem dX12_wear_25 : decode cX12_wear 25 = .ok (.iconst 1, 1) := dgq (p := 9) daX12_wear_16 dbX12_wear_16.2.2.2.1
theorem dX12_wear_26 : decode cX12_wear 26 = .ok (.isub, 1) := dgq (p := 10) daX12_wear_16 dbX12_wear_16.2.2.2.2.1
theorem dX12_wear_27 : decode cX12_wear 27 = .ok (.i2l, 1) := dgq (p := 11) daX12_wear_16 dbX12_wear_16.2.2.2.2.2.1
theorem dX12_wear_28 : decode cX12_wear 28 = .ok (.invokestatic 101, 3) := dgq (p := 12) daX12_wear_16 dbX12_wear_16.2.2.2.2.2.2.1
theorem dX12_wear_31 : decode cX12_wear 31 = .ok (.ifCond .eq 26, 3) := dgq (p := 15) daX12_wear_16 dbX12_wear_16.2.2.2.2.2.2.2.1
theorem dX12_wear_34 : decode cX12_wear 34 = .ok (.aload_n 0, 1) := dgq (p := 18) daX12_wear_16 dbX12_wear_16.2.2.2.2.2.2.2.2.1
theorem dX12_wear_35 : decode cX12_wear 35 = .ok (.aload_n 0, 1) := dgq (p := 19) daX12_wear_16 dbX12_wear_16.2.2.2.2.2.2.2.2.2
def dsX12_wear_36 : ByteArray := ⟨#[180, 0, 28, 27, 182, 0, 105, 192, 1, 66, 180, 1, 94, 28, 46, 182, 0, 153, 167, 0, 8, 42]⟩
theorem daX12_wear_36 : agB cX12_wear dsX12_wear_36 36 := agB_of (n := 22) (by decide +kernel)
theorem dbX12_wear_36 : (decode dsX12_wear_36 0 = .ok (.getfield 28, 3) ∧ okop dsX12_wear_36 0 = true) ∧ (decode dsX12_wear_36 3 = .ok (.iload_n 1, 1) ∧ okop dsX12_wear_36 3 = true) ∧ (decode dsX12_wear_36 4 = .ok (.invokevirtual 105, 3) ∧ okop dsX12_wear_36 4 = true) ∧ (decode dsX12_wear_36 7 = .ok (.checkcast 322, 3) ∧ okop dsX12_wear_36 7 = true) ∧ (decode dsX12_wear_36 10 = .ok (.getfield 350, 3) ∧ okop dsX12_wear_36 10 = true) ∧ (decode dsX12_wear_36 13 = .ok (.iload_n 2, 1) ∧ okop dsX12_wear_36 13 = true) ∧ (decode dsX12_wear_36 14 = .ok (.iaload, 1) ∧ okop dsX12_wear_36 14 = true) ∧ (decode dsX12_wear_36 15 = .ok (.invokevirtual 153, 3) ∧ okop dsX12_wear_36 15 = true) ∧ (decode dsX12_wear_36 18 = .ok (.goto 8, 3) ∧ okop dsX12_wear_36 18 = true) ∧ (decode dsX12_wear_36 21 = .ok (.aload_n 0, 1) ∧ okop dsX12_wear_36 21 = true) := by decide +kernel
theorem dX12_wear_36 : decode cX12_wear 36 = .ok (.getfield 28, 3) := dgq (p := 0) daX12_wear_36 dbX12_wear_36.1
theorem dX12_wear_39 : decode cX12_wear 39 = .ok (.iload_n 1, 1) := dgq (p := 3) daX12_wear_36 dbX12_wear_36.2.1
theorem dX12_wear_40 : decode cX12_wear 40 = .ok (.invokevirtual 105, 3) := dgq (p := 4) daX12_wear_36 dbX12_wear_36.2.2.1
theorem dX12_wear_43 : decode cX12_wear 43 = .ok (.checkcast 322, 3) := dgq (p := 7) daX12_wear_36 dbX12_wear_36.2.2.2.1
theorem dX12_wear_46 : decode cX12_wear 46 = .ok (.getfield 350, 3) := dgq (p := 10) daX12_wear_36 dbX12_wear_36.2.2.2.2.1
theorem dX12_wear_49 : decode cX12_wear 49 = .ok (.iload_n 2, 1) := dgq (p := 13) daX12_wear_36 dbX12_wear_36.2.2.2.2.2.1
theorem dX12_wear_50 : decode cX12_wear 50 = .ok (.iaload, 1) := dgq (p := 14) daX12_wear_36 dbX12_wear_36.2.2.2.2.2.2.1
theorem dX12_wear_51 : decode cX12_wear 51 = .ok (.invokevirtual 153, 3) := dgq (p := 15) daX12_wear_36 dbX12_wear_36.2.2.2.2.2.2.2.1
theorem dX12_wear_54 : decode cX12_wear 54 = .ok (.goto 8, 3) := dgq (p := 18) daX12_wear_36 dbX12_wear_36.2.2.2.2.2.2.2.2.1
theorem dX12_wear_57 : decode cX12_wear 57 = .ok (.aload_n 0, 1) := dgq (p := 21) daX12_wear_36 dbX12_wear_36.2.2.2.2.2.2.2.2.2
def dsX12_wear_58 : ByteArray := ⟨#[4, 182, 0, 143, 172]⟩
theorem daX12_wear_58 : agB cX12_wear dsX12_wear_58 58 := agB_of (n := 5) (by decide +kernel)
theorem dbX12_wear_58 : (decode dsX12_wear_58 0 = .ok (.iconst 1, 1) ∧ okop dsX12_wear_58 0 = true) ∧ (decode dsX12_wear_58 1 = .ok (.invokevirtual 143, 3) ∧ okop dsX12_wear_58 1 = true) ∧ (decode dsX12_wear_58 4 = .ok (.ireturn, 1) ∧ okop dsX12_wear_58 4 = true) := by decide +kernel
theorem dX12_wear_58 : decode cX12_wear 58 = .ok (.iconst 1, 1) := dgq (p := 0) daX12_wear_58 dbX12_wear_58.1
theorem dX12_wear_59 : decode cX12_wear 59 = .ok (.invokevirtual 143, 3) := dgq (p := 1) daX12_wear_58 dbX12_wear_58.2.1
theorem dX12_wear_62 : decode cX12_wear 62 = .ok (.ireturn, 1) := dgq (p := 4) daX12_wear_58 dbX12_wear_58.2.2
set_option maxRecDepth 20000 in
theorem ggX12_regrind_X12_isHob : GoodIn wsX12_regrind wsX12_isHob := goodIn_ca (goodIn_ca (goodIn_q _ [7, 1, 8, 9, 10, 11, 12, 13, 14, 15, 6, 16] rfl (by decide +kernel)) (goodIn_sub (fun _ h => (List.mem_cons_of_mem _ (List.mem_append_left _ (List.mem_append_left _ (List.mem_append_left _ (List.mem_append_right _ h)))))) tg_wsX120)) (goodIn_sub (fun _ h => (List.mem_cons_of_mem _ (List.mem_append_left _ (List.mem_append_right _ h)))) tg_wsJx4a65c0)
set_option maxRecDepth 20000 in
theorem gX12_regrind_X12_isHob : GoodIn wsX12_regrind (wsV RX12 326 RX12 yX12_isHob wsX12_isHob) := goodIn_app (goodIn_q _ [3, 4, 5, 6] rfl (by decide +kernel)) ggX12_regrind_X12_isHob
set_option maxRecDepth 20000 in
theorem ggX12_regrind_X12_fails : GoodIn wsX12_regrind wsX12_fails := goodIn_ca (goodIn_q _ [20, 21] rfl (by decide +kernel)) (goodIn_sub (fun _ h => (List.mem_cons_of_mem _ (List.mem_append_left _ (List.mem_append_left _ (List.mem_append_left _ (List.mem_append_right _ h)))))) tg_wsX120)
set_option maxRecDepth 20000 in
theorem gX12_regrind_X12_fails : GoodIn wsX12_regrind (wsV RX12 143 RX12 yX12_fails wsX12_fails) := goodIn_app (goodIn_q _ [17, 18, 19, 6] rfl (by decide +kernel)) ggX12_regrind_X12_fails
set_option maxRecDepth 20000 in
theorem ggX12_regrind_Jx4a65c_get_915e3 : GoodIn wsX12_regrind wsJx4a65c_get_915e3 := goodIn_ca (goodIn_q _ [25, 13, 26, 27, 28, 29, 30, 31, 32, 33, 34, 35, 36, 11, 37, 38] rfl (by decide +kernel)) (goodIn_sub (fun _ h => (List.mem_cons_of_mem _ (List.mem_append_left _ (List.mem_append_right _ h)))) tg_wsJx4a65c0)
set_option maxRecDepth 20000 in
theorem gX12_regrind_Jx4a65c_get_915e3 : GoodIn wsX12_regrind (wsV RX12 105 RJx4a65c yJx4a65c_get_915e3 wsJx4a65c_get_915e3) := goodIn_app (goodIn_q _ [22, 23, 24, 11] rfl (by decide +kernel)) ggX12_regrind_Jx4a65c_get_915e3
set_option maxRecDepth 20000 in
theorem ggX12_regrind_X12_answer : GoodIn wsX12_regrind wsX12_answer := goodIn_ca (goodIn_q _ [42, 21] rfl (by decide +kernel)) (goodIn_sub (fun _ h => (List.mem_cons_of_mem _ (List.mem_append_left _ (List.mem_append_left _ (List.mem_append_left _ (List.mem_append_right _ h)))))) tg_wsX120)
set_option maxRecDepth 20000 in
theorem gX12_regrind_X12_answer : GoodIn wsX12_regrind (wsV RX12 153 RX12 yX12_answer wsX12_answer) := goodIn_app (goodIn_q _ [39, 40, 41, 6] rfl (by decide +kernel)) ggX12_regrind_X12_answer
def dsX12_regrind_0 : ByteArray := ⟨#[42, 27, 182, 1, 70, 154, 0, 9, 42, 4, 182, 0, 143, 172, 42, 180, 0, 28]⟩
theorem daX12_regrind_0 : agB cX12_regrind dsX12_regrind_0 0 := agB_of (n := 18) (by decide +kernel)
theorem dbX12_regrind_0 : (decode dsX12_regrind_0 0 = .ok (.aload_n 0, 1) ∧ okop dsX12_regrind_0 0 = true) ∧ (decode dsX12_regrind_0 1 = .ok (.iload_n 1, 1) ∧ okop dsX12_regrind_0 1 = true) ∧ (decode dsX12_regrind_0 2 = .ok (.invokevirtual 326, 3) ∧ okop dsX12_regrind_0 2 = true) ∧ (decode dsX12_regrind_0 5 = .ok (.ifCond .ne 9, 3) ∧ okop dsX12_regrind_0 5 = true) ∧ (decode dsX12_regrind_0 8 = .ok (.aload_n 0, 1) ∧ okop dsX12_regrind_0 8 = true) ∧ (decode dsX12_regrind_0 9 = .ok (.iconst 1, 1) ∧ okop dsX12_regrind_0 9 = true) ∧ (decode dsX12_regrind_0 10 = .ok (.invokevirtual 143, 3) ∧ okop dsX12_regrind_0 10 = true) ∧ (decode dsX12_regrind_0 13 = .ok (.ireturn, 1) ∧ okop dsX12_regrind_0 13 = true) ∧ (decode dsX12_regrind_0 14 = .ok (.aload_n 0, 1) ∧ okop dsX12_regrind_0 14 = true) ∧ (decode dsX12_regrind_0 15 = .ok (.getfield 28, 3) ∧ okop dsX12_regrind_0 15 = true) := by decide +kernel
theorem dX12_regrind_0 : decode cX12_regrind 0 = .ok (.aload_n 0, 1) := dgq (p := 0) daX12_regrind_0 dbX12_regrind_0.1
theorem dX12_regrind_1 : decode cX12_regrind 1 = .ok (.iload_n 1, 1) := dgq (p := 1) daX12_regrind_0 dbX12_regrind_0.2.1
theorem dX12_regrind_2 : decode cX12_regrind 2 = .ok (.invokevirtual 326, 3) := dgq (p := 2) daX12_regrind_0 dbX12_regrind_0.2.2.1
theorem dX12_regrind_5 : decode cX12_regrind 5 = .ok (.ifCond .ne 9, 3) := dgq (p := 5) daX12_regrind_0 dbX12_regrind_0.2.2.2.1
theorem dX12_regrind_8 : decode cX12_regrind 8 = .ok (.aload_n 0, 1) := dgq (p := 8) daX12_regrind_0 dbX12_regrind_0.2.2.2.2.1
theorem dX12_regrind_9 : decode cX12_regrind 9 = .ok (.iconst 1, 1) := dgq (p := 9) daX12_regrind_0 dbX12_regrind_0.2.2.2.2.2.1
theorem dX12_regrind_10 : decode cX12_regrind 10 = .ok (.invokevirtual 143, 3) := dgq (p := 10) daX12_regrind_0 dbX12_regrind_0.2.2.2.2.2.2.1
theorem dX12_regrind_13 : decode cX12_regrind 13 = .ok (.ireturn, 1) := dgq (p := 13) daX12_regrind_0 dbX12_regrind_0.2.2.2.2.2.2.2.1
theorem dX12_regrind_14 : decode cX12_regrind 14 = .ok (.aload_n 0, 1) := dgq (p := 14) daX12_regrind_0 dbX12_regrind_0.2.2.2.2.2.2.2.2.1
theorem dX12_regrind_15 : decode cX12_regrind 15 = .ok (.getfield 28, 3) := dgq (p := 15) daX12_regrind_0 dbX12_regrind_0.2.2.2.2.2.2.2.2.2
def dsX12_regrind_18 : ByteArray := ⟨#[27, 182, 0, 105, 192, 1, 66, 77, 44, 180, 1, 103, 16, 8, 159, 0, 13, 44, 180, 1, 110]⟩
theorem daX12_regrind_18 : agB cX12_regrind dsX12_regrind_18 18 := agB_of (n := 21) (by decide +kernel)
theorem dbX12_regrind_18 : (decode dsX12_regrind_18 0 = .ok (.iload_n 1, 1) ∧ okop dsX12_regrind_18 0 = true) ∧ (decode dsX12_regrind_18 1 = .ok (.invokevirtual 105, 3) ∧ okop dsX12_regrind_18 1 = true) ∧ (decode dsX12_regrind_18 4 = .ok (.checkcast 322, 3) ∧ okop dsX12_regrind_18 4 = true) ∧ (decode dsX12_regrind_18 7 = .ok (.astore_n 2, 1) ∧ okop dsX12_regrind_18 7 = true) ∧ (decode dsX12_regrind_18 8 = .ok (.aload_n 2, 1) ∧ okop dsX12_regrind_18 8 = true) ∧ (decode dsX12_regrind_18 9 = .ok (.getfield 359, 3) ∧ okop dsX12_regrind_18 9 = true) ∧ (decode dsX12_regrind_18 12 = .ok (.bipush 8, 2) ∧ okop dsX12_regrind_18 12 = true) ∧ (decode dsX12_regrind_18 14 = .ok (.if_icmp .eq 13, 3) ∧ okop dsX12_regrind_18 14 = true) ∧ (decode dsX12_regrind_18 17 = .ok (.aload_n 2, 1) ∧ okop dsX12_regrind_18 17 = true) ∧ (decode dsX12_regrind_18 18 = .ok (.getfield 366, 3) ∧ okop dsX12_regrind_18 18 = true) := by decide +kernel
theorem dX12_regrind_18 : decode cX12_regrind 18 = .ok (.iload_n 1, 1) := dgq (p := 0) daX12_regrind_18 dbX12_regrind_18.1
theorem dX12_regrind_19 : decode cX12_regrind 19 = .ok (.invokevirtual 105, 3) := dgq (p := 1) daX12_regrind_18 dbX12_regrind_18.2.1
theorem dX12_regrind_22 : decode cX12_regrind 22 = .ok (.checkcast 322, 3) := dgq (p := 4) daX12_regrind_18 dbX12_regrind_18.2.2.1
theorem dX12_regrind_25 : decode cX12_regrind 25 = .ok (.astore_n 2, 1) := dgq (p := 7) daX12_regrind_18 dbX12_regrind_18.2.2.2.1
theorem dX12_regrind_26 : decode cX12_regrind 26 = .ok (.aload_n 2, 1) := dgq (p := 8) daX12_regrind_18 dbX12_regrind_18.2.2.2.2.1
theorem dX12_regrind_27 : decode cX12_regrind 27 = .ok (.getfield 359, 3) := dgq (p := 9) daX12_regrind_18 dbX12_regrind_18.2.2.2.2.2.1
theorem dX12_regrind_30 : decode cX12_regrind 30 = .ok (.bipush 8, 2) := dgq (p := 12) daX12_regrind_18 dbX12_regrind_18.2.2.2.2.2.2.1
theorem dX12_regrind_32 : decode cX12_regrind 32 = .ok (.if_icmp .eq 13, 3) := dgq (p := 14) daX12_regrind_18 dbX12_regrind_18.2.2.2.2.2.2.2.1
theorem dX12_regrind_35 : decode cX12_regrind 35 = .ok (.aload_n 2, 1) := dgq (p := 17) daX12_regrind_18 dbX12_regrind_18.2.2.2.2.2.2.2.2.1
theorem dX12_regrind_36 : decode cX12_regrind 36 = .ok (.getfield 366, 3) := dgq (p := 18) daX12_regrind_18 dbX12_regrind_18.2.2.2.2.2.2.2.2.2
def dsX12_regrind_39 : ByteArray := ⟨#[17, 78, 132, 162, 0, 9, 42, 5, 182, 0, 143, 172, 44, 89, 180, 1, 110, 16, 100]⟩
theorem daX12_regrind_39 : agB cX12_regrind dsX12_regrind_39 39 := agB_of (n := 19) (by decide +kernel)
theorem dbX12_regrind_39 : (decode dsX12_regrind_39 0 = .ok (.sipush 20100, 3) ∧ okop dsX12_regrind_39 0 = true) ∧ (decode dsX12_regrind_39 3 = .ok (.if_icmp .ge 9, 3) ∧ okop dsX12_regrind_39 3 = true) ∧ (decode dsX12_regrind_39 6 = .ok (.aload_n 0, 1) ∧ okop dsX12_regrind_39 6 = true) ∧ (decode dsX12_regrind_39 7 = .ok (.iconst 2, 1) ∧ okop dsX12_regrind_39 7 = true) ∧ (decode dsX12_regrind_39 8 = .ok (.invokevirtual 143, 3) ∧ okop dsX12_regrind_39 8 = true) ∧ (decode dsX12_regrind_39 11 = .ok (.ireturn, 1) ∧ okop dsX12_regrind_39 11 = true) ∧ (decode dsX12_regrind_39 12 = .ok (.aload_n 2, 1) ∧ okop dsX12_regrind_39 12 = true) ∧ (decode dsX12_regrind_39 13 = .ok (.dup, 1) ∧ okop dsX12_regrind_39 13 = true) ∧ (decode dsX12_regrind_39 14 = .ok (.getfield 366, 3) ∧ okop dsX12_regrind_39 14 = true) ∧ (decode dsX12_regrind_39 17 = .ok (.bipush 100, 2) ∧ okop dsX12_regrind_39 17 = true) := by decide +kernel
theorem dX12_regrind_39 : decode cX12_regrind 39 = .ok (.sipush 20100, 3) := dgq (p := 0) daX12_regrind_39 dbX12_regrind_39.1
theorem dX12_regrind_42 : decode cX12_regrind 42 = .ok (.if_icmp .ge 9, 3) := dgq (p := 3) daX12_regrind_39 dbX12_regrind_39.2.1
theorem dX12_regrind_45 : decode cX12_regrind 45 = .ok (.aload_n 0, 1) := dgq (p := 6) daX12_regrind_39 dbX12_regrind_39.2.2.1
theorem dX12_regrind_46 : decode cX12_regrind 46 = .ok (.iconst 2, 1) := dgq (p := 7) daX12_regrind_39 dbX12_regrind_39.2.2.2.1
theorem dX12_regrind_47 : decode cX12_regrind 47 = .ok (.invokevirtual 143, 3) := dgq (p := 8) daX12_regrind_39 dbX12_regrind_39.2.2.2.2.1
theorem dX12_regrind_50 : decode cX12_regrind 50 = .ok (.ireturn, 1) := dgq (p := 11) daX12_regrind_39 dbX12_regrind_39.2.2.2.2.2.1
theorem dX12_regrind_51 : decode cX12_regrind 51 = .ok (.aload_n 2, 1) := dgq (p := 12) daX12_regrind_39 dbX12_regrind_39.2.2.2.2.2.2.1
theorem dX12_regrind_52 : decode cX12_regrind 52 = .ok (.dup, 1) := dgq (p := 13) daX12_regrind_39 dbX12_regrind_39.2.2.2.2.2.2.2.1
theorem dX12_regrind_53 : decode cX12_regrind 53 = .ok (.getfield 366, 3) := dgq (p := 14) daX12_regrind_39 dbX12_regrind_39.2.2.2.2.2.2.2.2.1
theorem dX12_regrind_56 : decode cX12_regrind 56 = .ok (.bipush 100, 2) := dgq (p := 17) daX12_regrind_39 dbX12_regrind_39.2.2.2.2.2.2.2.2.2
def dsX12_regrind_58 : ByteArray := ⟨#[100, 181, 1, 110, 44, 89, 180, 1, 103, 4, 96, 181, 1, 103, 3, 62]⟩
theorem daX12_regrind_58 : agB cX12_regrind dsX12_regrind_58 58 := agB_of (n := 16) (by decide +kernel)
theorem dbX12_regrind_58 : (decode dsX12_regrind_58 0 = .ok (.isub, 1) ∧ okop dsX12_regrind_58 0 = true) ∧ (decode dsX12_regrind_58 1 = .ok (.putfield 366, 3) ∧ okop dsX12_regrind_58 1 = true) ∧ (decode dsX12_regrind_58 4 = .ok (.aload_n 2, 1) ∧ okop dsX12_regrind_58 4 = true) ∧ (decode dsX12_regrind_58 5 = .ok (.dup, 1) ∧ okop dsX12_regrind_58 5 = true) ∧ (decode dsX12_regrind_58 6 = .ok (.getfield 359, 3) ∧ okop dsX12_regrind_58 6 = true) ∧ (decode dsX12_regrind_58 9 = .ok (.iconst 1, 1) ∧ okop dsX12_regrind_58 9 = true) ∧ (decode dsX12_regrind_58 10 = .ok (.iadd, 1) ∧ okop dsX12_regrind_58 10 = true) ∧ (decode dsX12_regrind_58 11 = .ok (.putfield 359, 3) ∧ okop dsX12_regrind_58 11 = true) ∧ (decode dsX12_regrind_58 14 = .ok (.iconst 0, 1) ∧ okop dsX12_regrind_58 14 = true) ∧ (decode dsX12_regrind_58 15 = .ok (.istore_n 3, 1) ∧ okop dsX12_regrind_58 15 = true) := by decide +kernel
theorem dX12_regrind_58 : decode cX12_regrind 58 = .ok (.isub, 1) := dgq (p := 0) daX12_regrind_58 dbX12_regrind_58.1
theorem dX12_regrind_59 : decode cX12_regrind 59 = .ok (.putfield 366, 3) := dgq (p := 1) daX12_regrind_58 dbX12_regrind_58.2.1
theorem dX12_regrind_62 : decode cX12_regrind 62 = .ok (.aload_n 2, 1) := dgq (p := 4) daX12_regrind_58 dbX12_regrind_58.2.2.1
theorem dX12_regrind_63 : decode cX12_regrind 63 = .ok (.dup, 1) := dgq (p := 5) daX12_regrind_58 dbX12_regrind_58.2.2.2.1
theorem dX12_regrind_64 : decode cX12_regrind 64 = .ok (.getfield 359, 3) := dgq (p := 6) daX12_regrind_58 dbX12_regrind_58.2.2.2.2.1
theorem dX12_regrind_67 : decode cX12_regrind 67 = .ok (.iconst 1, 1) := dgq (p := 9) daX12_regrind_58 dbX12_regrind_58.2.2.2.2.2.1
theorem dX12_regrind_68 : decode cX12_regrind 68 = .ok (.iadd, 1) := dgq (p := 10) daX12_regrind_58 dbX12_regrind_58.2.2.2.2.2.2.1
theorem dX12_regrind_69 : decode cX12_regrind 69 = .ok (.putfield 359, 3) := dgq (p := 11) daX12_regrind_58 dbX12_regrind_58.2.2.2.2.2.2.2.1
theorem dX12_regrind_72 : decode cX12_regrind 72 = .ok (.iconst 0, 1) := dgq (p := 14) daX12_regrind_58 dbX12_regrind_58.2.2.2.2.2.2.2.2.1
theorem dX12_regrind_73 : decode cX12_regrind 73 = .ok (.istore_n 3, 1) := dgq (p := 15) daX12_regrind_58 dbX12_regrind_58.2.2.2.2.2.2.2.2.2
def dsX12_regrind_74 : ByteArray := ⟨#[29, 44, 180, 1, 97, 162, 0, 16, 44, 180, 1, 94, 29, 3, 79, 132, 3, 1]⟩
theorem daX12_regrind_74 : agB cX12_regrind dsX12_regrind_74 74 := agB_of (n := 18) (by decide +kernel)
theorem dbX12_regrind_74 : (decode dsX12_regrind_74 0 = .ok (.iload_n 3, 1) ∧ okop dsX12_regrind_74 0 = true) ∧ (decode dsX12_regrind_74 1 = .ok (.aload_n 2, 1) ∧ okop dsX12_regrind_74 1 = true) ∧ (decode dsX12_regrind_74 2 = .ok (.getfield 353, 3) ∧ okop dsX12_regrind_74 2 = true) ∧ (decode dsX12_regrind_74 5 = .ok (.if_icmp .ge 16, 3) ∧ okop dsX12_regrind_74 5 = true) ∧ (decode dsX12_regrind_74 8 = .ok (.aload_n 2, 1) ∧ okop dsX12_regrind_74 8 = true) ∧ (decode dsX12_regrind_74 9 = .ok (.getfield 350, 3) ∧ okop dsX12_regrind_74 9 = true) ∧ (decode dsX12_regrind_74 12 = .ok (.iload_n 3, 1) ∧ okop dsX12_regrind_74 12 = true) ∧ (decode dsX12_regrind_74 13 = .ok (.iconst 0, 1) ∧ okop dsX12_regrind_74 13 = true) ∧ (decode dsX12_regrind_74 14 = .ok (.iastore, 1) ∧ okop dsX12_regrind_74 14 = true) ∧ (decode dsX12_regrind_74 15 = .ok (.iinc 3 1, 3) ∧ okop dsX12_regrind_74 15 = true) := by decide +kernel
theorem dX12_regrind_74 : decode cX12_regrind 74 = .ok (.iload_n 3, 1) := dgq (p := 0) daX12_regrind_74 dbX12_regrind_74.1
theorem dX12_regrind_75 : decode cX12_regrind 75 = .ok (.aload_n 2, 1) := dgq (p := 1) daX12_regrind_74 dbX12_regrind_74.2.1
theorem dX12_regrind_76 : decode cX12_regrind 76 = .ok (.getfield 353, 3) := dgq (p := 2) daX12_regrind_74 dbX12_regrind_74.2.2.1
theorem dX12_regrind_79 : decode cX12_regrind 79 = .ok (.if_icmp .ge 16, 3) := dgq (p := 5) daX12_regrind_74 dbX12_regrind_74.2.2.2.1
theorem dX12_regrind_82 : decode cX12_regrind 82 = .ok (.aload_n 2, 1) := dgq (p := 8) daX12_regrind_74 dbX12_regrind_74.2.2.2.2.1
theorem dX12_regrind_83 : decode cX12_regrind 83 = .ok (.getfield 350, 3) := dgq (p := 9) daX12_regrind_74 dbX12_regrind_74.2.2.2.2.2.1
theorem dX12_regrind_86 : decode cX12_regrind 86 = .ok (.iload_n 3, 1) := dgq (p := 12) daX12_regrind_74 dbX12_regrind_74.2.2.2.2.2.2.1
theorem dX12_regrind_87 : decode cX12_regrind 87 = .ok (.iconst 0, 1) := dgq (p := 13) daX12_regrind_74 dbX12_regrind_74.2.2.2.2.2.2.2.1
theorem dX12_regrind_88 : decode cX12_regrind 88 = .ok (.iastore, 1) := dgq (p := 14) daX12_regrind_74 dbX12_regrind_74.2.2.2.2.2.2.2.2.1
theorem dX12_regrind_89 : decode cX12_regrind 89 = .ok (.iinc 3 1, 3) := dgq (p := 15) daX12_regrind_74 dbX12_regrind_74.2.2.2.2.2.2.2.2.2
def dsX12_regrind_92 : ByteArray := ⟨#[167, 255, 238, 42, 44, 180, 1, 103, 182, 0, 153, 172]⟩
theorem daX12_regrind_92 : agB cX12_regrind dsX12_regrind_92 92 := agB_of (n := 12) (by decide +kernel)
theorem dbX12_regrind_92 : (decode dsX12_regrind_92 0 = .ok (.goto (-18), 3) ∧ okop dsX12_regrind_92 0 = true) ∧ (decode dsX12_regrind_92 3 = .ok (.aload_n 0, 1) ∧ okop dsX12_regrind_92 3 = true) ∧ (decode dsX12_regrind_92 4 = .ok (.aload_n 2, 1) ∧ okop dsX12_regrind_92 4 = true) ∧ (decode dsX12_regrind_92 5 = .ok (.getfield 359, 3) ∧ okop dsX12_regrind_92 5 = true) ∧ (decode dsX12_regrind_92 8 = .ok (.invokevirtual 153, 3) ∧ okop dsX12_regrind_92 8 = true) ∧ (decode dsX12_regrind_92 11 = .ok (.ireturn, 1) ∧ okop dsX12_regrind_92 11 = true) := by decide +kernel
theorem dX12_regrind_92 : decode cX12_regrind 92 = .ok (.goto (-18), 3) := dgq (p := 0) daX12_regrind_92 dbX12_regrind_92.1
theorem dX12_regrind_95 : decode cX12_regrind 95 = .ok (.aload_n 0, 1) := dgq (p := 3) daX12_regrind_92 dbX12_regrind_92.2.1
theorem dX12_regrind_96 : decode cX12_regrind 96 = .ok (.aload_n 2, 1) := dgq (p := 4) daX12_regrind_92 dbX12_regrind_92.2.2.1
theorem dX12_regrind_97 : decode cX12_regrind 97 = .ok (.getfield 359, 3) := dgq (p := 5) daX12_regrind_92 dbX12_regrind_92.2.2.2.1
theorem dX12_regrind_100 : decode cX12_regrind 100 = .ok (.invokevirtual 153, 3) := dgq (p := 8) daX12_regrind_92 dbX12_regrind_92.2.2.2.2.1
theorem dX12_regrind_103 : decode cX12_regrind 103 = .ok (.ireturn, 1) := dgq (p := 11) daX12_regrind_92 dbX12_regrind_92.2.2.2.2.2
set_option maxRecDepth 20000 in
theorem ggX12_inStep_X12_in : GoodIn wsX12_inStep wsX12_in := goodIn_q _ [7] rfl (by decide +kernel)
set_option maxRecDepth 20000 in
theorem gX12_inStep_X12_in : GoodIn wsX12_inStep (va_wsS RX12 101 yX12_in wsX12_in) := goodIn_app (goodIn_q _ [4, 5, 6] rfl (by decide +kernel)) ggX12_inStep_X12_in
set_option maxRecDepth 20000 in
theorem ggX12_inStep_X12_refuses : GoodIn wsX12_inStep wsX12_refuses := goodIn_ca (goodIn_q _ [11, 12] rfl (by decide +kernel)) (goodIn_sub (fun _ h => (List.mem_cons_of_mem _ (List.mem_append_left _ (List.mem_append_right _ h)))) tg_wsX120)
set_option maxRecDepth 20000 in
theorem gX12_inStep_X12_refuses : GoodIn wsX12_inStep (wsV RX12 182 RX12 yX12_refuses wsX12_refuses) := goodIn_app (goodIn_q _ [8, 9, 10, 6] rfl (by decide +kernel)) ggX12_inStep_X12_refuses
set_option maxRecDepth 20000 in
theorem ggX12_inStep_X12_divisor : GoodIn wsX12_inStep wsX12_divisor := goodIn_ca (goodIn_q _ [15, 13, 14, 6] rfl (by decide +kernel)) (goodIn_sub (fun _ h => List.mem_cons_of_mem _ (List.mem_append_right _ h)) (by decide +kernel))
set_option maxRecDepth 20000 in
theorem gX12_inStep_X12_divisor : GoodIn wsX12_inStep (va_wsS RX12 5 yX12_divisor wsX12_divisor) := goodIn_app (goodIn_q _ [13, 14, 6] rfl (by decide +kernel)) ggX12_inStep_X12_divisor
set_option maxRecDepth 20000 in
theorem ggX12_inStep_X12_says : GoodIn wsX12_inStep wsX12_says := goodIn_ca (goodIn_q _ [19, 12] rfl (by decide +kernel)) (goodIn_sub (fun _ h => (List.mem_cons_of_mem _ (List.mem_append_left _ (List.mem_append_right _ h)))) tg_wsX120)
set_option maxRecDepth 20000 in
theorem gX12_inStep_X12_says : GoodIn wsX12_inStep (wsV RX12 178 RX12 yX12_says wsX12_says) := goodIn_app (goodIn_q _ [16, 17, 18, 6] rfl (by decide +kernel)) ggX12_inStep_X12_says
def dsX12_inStep_0 : ByteArray := ⟨#[27, 133, 20, 0, 129, 20, 0, 131, 184, 0, 101, 153, 0, 34, 28, 133, 20, 0, 129, 20, 0, 131]⟩
theorem daX12_inStep_0 : agB cX12_inStep dsX12_inStep_0 0 := agB_of (n := 22) (by decide +kernel)
theorem dbX12_inStep_0 : (decode dsX12_inStep_0 0 = .ok (.iload_n 1, 1) ∧ okop dsX12_inStep_0 0 = true) ∧ (decode dsX12_inStep_0 1 = .ok (.i2l, 1) ∧ okop dsX12_inStep_0 1 = true) ∧ (decode dsX12_inStep_0 2 = .ok (.ldc2_w 129, 3) ∧ okop dsX12_inStep_0 2 = true) ∧ (decode dsX12_inStep_0 5 = .ok (.ldc2_w 131, 3) ∧ okop dsX12_inStep_0 5 = true) ∧ (decode dsX12_inStep_0 8 = .ok (.invokestatic 101, 3) ∧ okop dsX12_inStep_0 8 = true) ∧ (decode dsX12_inStep_0 11 = .ok (.ifCond .eq 34, 3) ∧ okop dsX12_inStep_0 11 = true) ∧ (decode dsX12_inStep_0 14 = .ok (.iload_n 2, 1) ∧ okop dsX12_inStep_0 14 = true) ∧ (decode dsX12_inStep_0 15 = .ok (.i2l, 1) ∧ okop dsX12_inStep_0 15 = true) ∧ (decode dsX12_inStep_0 16 = .ok (.ldc2_w 129, 3) ∧ okop dsX12_inStep_0 16 = true) ∧ (decode dsX12_inStep_0 19 = .ok (.ldc2_w 131, 3) ∧ okop dsX12_inStep_0 19 = true) := by decide +kernel
theorem dX12_inStep_0 : decode cX12_inStep 0 = .ok (.iload_n 1, 1) := dgq (p := 0) daX12_inStep_0 dbX12_inStep_0.1
theorem dX12_inStep_1 : decode cX12_inStep 1 = .ok (.i2l, 1) := dgq (p := 1) daX12_inStep_0 dbX12_inStep_0.2.1
theorem dX12_inStep_2 : decode cX12_inStep 2 = .ok (.ldc2_w 129, 3) := dgq (p := 2) daX12_inStep_0 dbX12_inStep_0.2.2.1
theorem dX12_inStep_5 : decode cX12_inStep 5 = .ok (.ldc2_w 131, 3) := dgq (p := 5) daX12_inStep_0 dbX12_inStep_0.2.2.2.1
theorem dX12_inStep_8 : decode cX12_inStep 8 = .ok (.invokestatic 101, 3) := dgq (p := 8) daX12_inStep_0 dbX12_inStep_0.2.2.2.2.1
theorem dX12_inStep_11 : decode cX12_inStep 11 = .ok (.ifCond .eq 34, 3) := dgq (p := 11) daX12_inStep_0 dbX12_inStep_0.2.2.2.2.2.1
theorem dX12_inStep_14 : decode cX12_inStep 14 = .ok (.iload_n 2, 1) := dgq (p := 14) daX12_inStep_0 dbX12_inStep_0.2.2.2.2.2.2.1
theorem dX12_inStep_15 : decode cX12_inStep 15 = .ok (.i2l, 1) := dgq (p := 15) daX12_inStep_0 dbX12_inStep_0.2.2.2.2.2.2.2.1
theorem dX12_inStep_16 : decode cX12_inStep 16 = .ok (.ldc2_w 129, 3) := dgq (p := 16) daX12_inStep_0 dbX12_inStep_0.2.2.2.2.2.2.2.2.1
theorem dX12_inStep_19 : decode cX12_inStep 19 = .ok (.ldc2_w 131, 3) := dgq (p := 19) daX12_inStep_0 dbX12_inStep_0.2.2.2.2.2.2.2.2.2
def dsX12_inStep_22 : ByteArray := ⟨#[184, 0, 101, 153, 0, 20, 29, 155, 0, 16, 21, 4, 133, 10, 20, 0, 249, 184, 0, 101, 154, 0, 9]⟩
theorem daX12_inStep_22 : agB cX12_inStep dsX12_inStep_22 22 := agB_of (n := 23) (by decide +kernel)
theorem dbX12_inStep_22 : (decode dsX12_inStep_22 0 = .ok (.invokestatic 101, 3) ∧ okop dsX12_inStep_22 0 = true) ∧ (decode dsX12_inStep_22 3 = .ok (.ifCond .eq 20, 3) ∧ okop dsX12_inStep_22 3 = true) ∧ (decode dsX12_inStep_22 6 = .ok (.iload_n 3, 1) ∧ okop dsX12_inStep_22 6 = true) ∧ (decode dsX12_inStep_22 7 = .ok (.ifCond .lt 16, 3) ∧ okop dsX12_inStep_22 7 = true) ∧ (decode dsX12_inStep_22 10 = .ok (.iload 4, 2) ∧ okop dsX12_inStep_22 10 = true) ∧ (decode dsX12_inStep_22 12 = .ok (.i2l, 1) ∧ okop dsX12_inStep_22 12 = true) ∧ (decode dsX12_inStep_22 13 = .ok (.lconst 1, 1) ∧ okop dsX12_inStep_22 13 = true) ∧ (decode dsX12_inStep_22 14 = .ok (.ldc2_w 249, 3) ∧ okop dsX12_inStep_22 14 = true) ∧ (decode dsX12_inStep_22 17 = .ok (.invokestatic 101, 3) ∧ okop dsX12_inStep_22 17 = true) ∧ (decode dsX12_inStep_22 20 = .ok (.ifCond .ne 9, 3) ∧ okop dsX12_inStep_22 20 = true) := by decide +kernel
theorem dX12_inStep_22 : decode cX12_inStep 22 = .ok (.invokestatic 101, 3) := dgq (p := 0) daX12_inStep_22 dbX12_inStep_22.1
theorem dX12_inStep_25 : decode cX12_inStep 25 = .ok (.ifCond .eq 20, 3) := dgq (p := 3) daX12_inStep_22 dbX12_inStep_22.2.1
theorem dX12_inStep_28 : decode cX12_inStep 28 = .ok (.iload_n 3, 1) := dgq (p := 6) daX12_inStep_22 dbX12_inStep_22.2.2.1
theorem dX12_inStep_29 : decode cX12_inStep 29 = .ok (.ifCond .lt 16, 3) := dgq (p := 7) daX12_inStep_22 dbX12_inStep_22.2.2.2.1
theorem dX12_inStep_32 : decode cX12_inStep 32 = .ok (.iload 4, 2) := dgq (p := 10) daX12_inStep_22 dbX12_inStep_22.2.2.2.2.1
theorem dX12_inStep_34 : decode cX12_inStep 34 = .ok (.i2l, 1) := dgq (p := 12) daX12_inStep_22 dbX12_inStep_22.2.2.2.2.2.1
theorem dX12_inStep_35 : decode cX12_inStep 35 = .ok (.lconst 1, 1) := dgq (p := 13) daX12_inStep_22 dbX12_inStep_22.2.2.2.2.2.2.1
theorem dX12_inStep_36 : decode cX12_inStep 36 = .ok (.ldc2_w 249, 3) := dgq (p := 14) daX12_inStep_22 dbX12_inStep_22.2.2.2.2.2.2.2.1
theorem dX12_inStep_39 : decode cX12_inStep 39 = .ok (.invokestatic 101, 3) := dgq (p := 17) daX12_inStep_22 dbX12_inStep_22.2.2.2.2.2.2.2.2.1
theorem dX12_inStep_42 : decode cX12_inStep 42 = .ok (.ifCond .ne 9, 3) := dgq (p := 20) daX12_inStep_22 dbX12_inStep_22.2.2.2.2.2.2.2.2.2
def dsX12_inStep_45 : ByteArray := ⟨#[42, 4, 182, 0, 182, 172, 27, 133, 28, 133, 105, 27]⟩
theorem daX12_inStep_45 : agB cX12_inStep dsX12_inStep_45 45 := agB_of (n := 12) (by decide +kernel)
theorem dbX12_inStep_45 : (decode dsX12_inStep_45 0 = .ok (.aload_n 0, 1) ∧ okop dsX12_inStep_45 0 = true) ∧ (decode dsX12_inStep_45 1 = .ok (.iconst 1, 1) ∧ okop dsX12_inStep_45 1 = true) ∧ (decode dsX12_inStep_45 2 = .ok (.invokevirtual 182, 3) ∧ okop dsX12_inStep_45 2 = true) ∧ (decode dsX12_inStep_45 5 = .ok (.ireturn, 1) ∧ okop dsX12_inStep_45 5 = true) ∧ (decode dsX12_inStep_45 6 = .ok (.iload_n 1, 1) ∧ okop dsX12_inStep_45 6 = true) ∧ (decode dsX12_inStep_45 7 = .ok (.i2l, 1) ∧ okop dsX12_inStep_45 7 = true) ∧ (decode dsX12_inStep_45 8 = .ok (.iload_n 2, 1) ∧ okop dsX12_inStep_45 8 = true) ∧ (decode dsX12_inStep_45 9 = .ok (.i2l, 1) ∧ okop dsX12_inStep_45 9 = true) ∧ (decode dsX12_inStep_45 10 = .ok (.lmul, 1) ∧ okop dsX12_inStep_45 10 = true) ∧ (decode dsX12_inStep_45 11 = .ok (.iload_n 1, 1) ∧ okop dsX12_inStep_45 11 = true) := by decide +kernel
theorem dX12_inStep_45 : decode cX12_inStep 45 = .ok (.aload_n 0, 1) := dgq (p := 0) daX12_inStep_45 dbX12_inStep_45.1
theorem dX12_inStep_46 : decode cX12_inStep 46 = .ok (.iconst 1, 1) := dgq (p := 1) daX12_inStep_45 dbX12_inStep_45.2.1
theorem dX12_inStep_47 : decode cX12_inStep 47 = .ok (.invokevirtual 182, 3) := dgq (p := 2) daX12_inStep_45 dbX12_inStep_45.2.2.1
theorem dX12_inStep_50 : decode cX12_inStep 50 = .ok (.ireturn, 1) := dgq (p := 5) daX12_inStep_45 dbX12_inStep_45.2.2.2.1
theorem dX12_inStep_51 : decode cX12_inStep 51 = .ok (.iload_n 1, 1) := dgq (p := 6) daX12_inStep_45 dbX12_inStep_45.2.2.2.2.1
theorem dX12_inStep_52 : decode cX12_inStep 52 = .ok (.i2l, 1) := dgq (p := 7) daX12_inStep_45 dbX12_inStep_45.2.2.2.2.2.1
theorem dX12_inStep_53 : decode cX12_inStep 53 = .ok (.iload_n 2, 1) := dgq (p := 8) daX12_inStep_45 dbX12_inStep_45.2.2.2.2.2.2.1
theorem dX12_inStep_54 : decode cX12_inStep 54 = .ok (.i2l, 1) := dgq (p := 9) daX12_inStep_45 dbX12_inStep_45.2.2.2.2.2.2.2.1
theorem dX12_inStep_55 : decode cX12_inStep 55 = .ok (.lmul, 1) := dgq (p := 10) daX12_inStep_45 dbX12_inStep_45.2.2.2.2.2.2.2.2.1
theorem dX12_inStep_56 : decode cX12_inStep 56 = .ok (.iload_n 1, 1) := dgq (p := 11) daX12_inStep_45 dbX12_inStep_45.2.2.2.2.2.2.2.2.2
def dsX12_inStep_57 : ByteArray := ⟨#[28, 184, 0, 5, 133, 109, 55, 5, 42, 22, 5, 29, 133, 105]⟩
theorem daX12_inStep_57 : agB cX12_inStep dsX12_inStep_57 57 := agB_of (n := 14) (by decide +kernel)
theorem dbX12_inStep_57 : (decode dsX12_inStep_57 0 = .ok (.iload_n 2, 1) ∧ okop dsX12_inStep_57 0 = true) ∧ (decode dsX12_inStep_57 1 = .ok (.invokestatic 5, 3) ∧ okop dsX12_inStep_57 1 = true) ∧ (decode dsX12_inStep_57 4 = .ok (.i2l, 1) ∧ okop dsX12_inStep_57 4 = true) ∧ (decode dsX12_inStep_57 5 = .ok (.ldiv, 1) ∧ okop dsX12_inStep_57 5 = true) ∧ (decode dsX12_inStep_57 6 = .ok (.lstore 5, 2) ∧ okop dsX12_inStep_57 6 = true) ∧ (decode dsX12_inStep_57 8 = .ok (.aload_n 0, 1) ∧ okop dsX12_inStep_57 8 = true) ∧ (decode dsX12_inStep_57 9 = .ok (.lload 5, 2) ∧ okop dsX12_inStep_57 9 = true) ∧ (decode dsX12_inStep_57 11 = .ok (.iload_n 3, 1) ∧ okop dsX12_inStep_57 11 = true) ∧ (decode dsX12_inStep_57 12 = .ok (.i2l, 1) ∧ okop dsX12_inStep_57 12 = true) ∧ (decode dsX12_inStep_57 13 = .ok (.lmul, 1) ∧ okop dsX12_inStep_57 13 = true) := by decide +kernel
theorem dX12_inStep_57 : decode cX12_inStep 57 = .ok (.iload_n 2, 1) := dgq (p := 0) daX12_inStep_57 dbX12_inStep_57.1
theorem dX12_inStep_58 : decode cX12_inStep 58 = .ok (.invokestatic 5, 3) := dgq (p := 1) daX12_inStep_57 dbX12_inStep_57.2.1
theorem dX12_inStep_61 : decode cX12_inStep 61 = .ok (.i2l, 1) := dgq (p := 4) daX12_inStep_57 dbX12_inStep_57.2.2.1
theorem dX12_inStep_62 : decode cX12_inStep 62 = .ok (.ldiv, 1) := dgq (p := 5) daX12_inStep_57 dbX12_inStep_57.2.2.2.1
theorem dX12_inStep_63 : decode cX12_inStep 63 = .ok (.lstore 5, 2) := dgq (p := 6) daX12_inStep_57 dbX12_inStep_57.2.2.2.2.1
theorem dX12_inStep_65 : decode cX12_inStep 65 = .ok (.aload_n 0, 1) := dgq (p := 8) daX12_inStep_57 dbX12_inStep_57.2.2.2.2.2.1
theorem dX12_inStep_66 : decode cX12_inStep 66 = .ok (.lload 5, 2) := dgq (p := 9) daX12_inStep_57 dbX12_inStep_57.2.2.2.2.2.2.1
theorem dX12_inStep_68 : decode cX12_inStep 68 = .ok (.iload_n 3, 1) := dgq (p := 11) daX12_inStep_57 dbX12_inStep_57.2.2.2.2.2.2.2.1
theorem dX12_inStep_69 : decode cX12_inStep 69 = .ok (.i2l, 1) := dgq (p := 12) daX12_inStep_57 dbX12_inStep_57.2.2.2.2.2.2.2.2.1
theorem dX12_inStep_70 : decode cX12_inStep 70 = .ok (.lmul, 1) := dgq (p := 13) daX12_inStep_57 dbX12_inStep_57.2.2.2.2.2.2.2.2.2
def dsX12_inStep_71 : ByteArray := ⟨#[21, 4, 133, 113, 9, 148, 154, 0, 7, 4, 167, 0, 4, 3, 182, 0, 178]⟩
theorem daX12_inStep_71 : agB cX12_inStep dsX12_inStep_71 71 := agB_of (n := 17) (by decide +kernel)
theorem dbX12_inStep_71 : (decode dsX12_inStep_71 0 = .ok (.iload 4, 2) ∧ okop dsX12_inStep_71 0 = true) ∧ (decode dsX12_inStep_71 2 = .ok (.i2l, 1) ∧ okop dsX12_inStep_71 2 = true) ∧ (decode dsX12_inStep_71 3 = .ok (.lrem, 1) ∧ okop dsX12_inStep_71 3 = true) ∧ (decode dsX12_inStep_71 4 = .ok (.lconst 0, 1) ∧ okop dsX12_inStep_71 4 = true) ∧ (decode dsX12_inStep_71 5 = .ok (.lcmp, 1) ∧ okop dsX12_inStep_71 5 = true) ∧ (decode dsX12_inStep_71 6 = .ok (.ifCond .ne 7, 3) ∧ okop dsX12_inStep_71 6 = true) ∧ (decode dsX12_inStep_71 9 = .ok (.iconst 1, 1) ∧ okop dsX12_inStep_71 9 = true) ∧ (decode dsX12_inStep_71 10 = .ok (.goto 4, 3) ∧ okop dsX12_inStep_71 10 = true) ∧ (decode dsX12_inStep_71 13 = .ok (.iconst 0, 1) ∧ okop dsX12_inStep_71 13 = true) ∧ (decode dsX12_inStep_71 14 = .ok (.invokevirtual 178, 3) ∧ okop dsX12_inStep_71 14 = true) := by decide +kernel
theorem dX12_inStep_71 : decode cX12_inStep 71 = .ok (.iload 4, 2) := dgq (p := 0) daX12_inStep_71 dbX12_inStep_71.1
theorem dX12_inStep_73 : decode cX12_inStep 73 = .ok (.i2l, 1) := dgq (p := 2) daX12_inStep_71 dbX12_inStep_71.2.1
theorem dX12_inStep_74 : decode cX12_inStep 74 = .ok (.lrem, 1) := dgq (p := 3) daX12_inStep_71 dbX12_inStep_71.2.2.1
theorem dX12_inStep_75 : decode cX12_inStep 75 = .ok (.lconst 0, 1) := dgq (p := 4) daX12_inStep_71 dbX12_inStep_71.2.2.2.1
theorem dX12_inStep_76 : decode cX12_inStep 76 = .ok (.lcmp, 1) := dgq (p := 5) daX12_inStep_71 dbX12_inStep_71.2.2.2.2.1
theorem dX12_inStep_77 : decode cX12_inStep 77 = .ok (.ifCond .ne 7, 3) := dgq (p := 6) daX12_inStep_71 dbX12_inStep_71.2.2.2.2.2.1
theorem dX12_inStep_80 : decode cX12_inStep 80 = .ok (.iconst 1, 1) := dgq (p := 9) daX12_inStep_71 dbX12_inStep_71.2.2.2.2.2.2.1
theorem dX12_inStep_81 : decode cX12_inStep 81 = .ok (.goto 4, 3) := dgq (p := 10) daX12_inStep_71 dbX12_inStep_71.2.2.2.2.2.2.2.1
theorem dX12_inStep_84 : decode cX12_inStep 84 = .ok (.iconst 0, 1) := dgq (p := 13) daX12_inStep_71 dbX12_inStep_71.2.2.2.2.2.2.2.2.1
theorem dX12_inStep_85 : decode cX12_inStep 85 = .ok (.invokevirtual 178, 3) := dgq (p := 14) daX12_inStep_71 dbX12_inStep_71.2.2.2.2.2.2.2.2.2
theorem dX12_inStep_88 : decode cX12_inStep 88 = .ok (.ireturn, 1) := by decide +kernel
set_option maxRecDepth 20000 in
theorem ggX12_clock_X12_in : GoodIn wsX12_clock wsX12_in := goodIn_q _ [6] rfl (by decide +kernel)
set_option maxRecDepth 20000 in
theorem gX12_clock_X12_in : GoodIn wsX12_clock (va_wsS RX12 101 yX12_in wsX12_in) := goodIn_app (goodIn_q _ [3, 4, 5] rfl (by decide +kernel)) ggX12_clock_X12_in
set_option maxRecDepth 20000 in
theorem ggX12_clock_X12_fails : GoodIn wsX12_clock wsX12_fails := goodIn_ca (goodIn_q _ [10, 11] rfl (by decide +kernel)) (goodIn_sub (fun _ h => (List.mem_cons_of_mem _ (List.mem_append_left _ (List.mem_append_right _ h)))) tg_wsX120)
set_option maxRecDepth 20000 in
theorem gX12_clock_X12_fails : GoodIn wsX12_clock (wsV RX12 143 RX12 yX12_fails wsX12_fails) := goodIn_app (goodIn_q _ [7, 8, 9, 5] rfl (by decide +kernel)) ggX12_clock_X12_fails
set_option maxRecDepth 20000 in
theorem ggX12_clock_X12_answer : GoodIn wsX12_clock wsX12_answer := goodIn_ca (goodIn_q _ [15, 11] rfl (by decide +kernel)) (goodIn_sub (fun _ h => (List.mem_cons_of_mem _ (List.mem_append_left _ (List.mem_append_right _ h)))) tg_wsX120)
set_option maxRecDepth 20000 in
theorem gX12_clock_X12_answer : GoodIn wsX12_clock (wsV RX12 153 RX12 yX12_answer wsX12_answer) := goodIn_app (goodIn_q _ [12, 13, 14, 5] rfl (by decide +kernel)) ggX12_clock_X12_answer
def dsX12_clock_0 : ByteArray := ⟨#[27, 133, 20, 0, 129, 20, 0, 131, 184, 0, 101, 153, 0, 30, 28, 133, 20, 0, 129, 20, 0, 131]⟩
theorem daX12_clock_0 : agB cX12_clock dsX12_clock_0 0 := agB_of (n := 22) (by decide +kernel)
theorem dbX12_clock_0 : (decode dsX12_clock_0 0 = .ok (.iload_n 1, 1) ∧ okop dsX12_clock_0 0 = true) ∧ (decode dsX12_clock_0 1 = .ok (.i2l, 1) ∧ okop dsX12_clock_0 1 = true) ∧ (decode dsX12_clock_0 2 = .ok (.ldc2_w 129, 3) ∧ okop dsX12_clock_0 2 = true) ∧ (decode dsX12_clock_0 5 = .ok (.ldc2_w 131, 3) ∧ okop dsX12_clock_0 5 = true) ∧ (decode dsX12_clock_0 8 = .ok (.invokestatic 101, 3) ∧ okop dsX12_clock_0 8 = true) ∧ (decode dsX12_clock_0 11 = .ok (.ifCond .eq 30, 3) ∧ okop dsX12_clock_0 11 = true) ∧ (decode dsX12_clock_0 14 = .ok (.iload_n 2, 1) ∧ okop dsX12_clock_0 14 = true) ∧ (decode dsX12_clock_0 15 = .ok (.i2l, 1) ∧ okop dsX12_clock_0 15 = true) ∧ (decode dsX12_clock_0 16 = .ok (.ldc2_w 129, 3) ∧ okop dsX12_clock_0 16 = true) ∧ (decode dsX12_clock_0 19 = .ok (.ldc2_w 131, 3) ∧ okop dsX12_clock_0 19 = true) := by decide +kernel
theorem dX12_clock_0 : decode cX12_clock 0 = .ok (.iload_n 1, 1) := dgq (p := 0) daX12_clock_0 dbX12_clock_0.1
theorem dX12_clock_1 : decode cX12_clock 1 = .ok (.i2l, 1) := dgq (p := 1) daX12_clock_0 dbX12_clock_0.2.1
theorem dX12_clock_2 : decode cX12_clock 2 = .ok (.ldc2_w 129, 3) := dgq (p := 2) daX12_clock_0 dbX12_clock_0.2.2.1
theorem dX12_clock_5 : decode cX12_clock 5 = .ok (.ldc2_w 131, 3) := dgq (p := 5) daX12_clock_0 dbX12_clock_0.2.2.2.1
theorem dX12_clock_8 : decode cX12_clock 8 = .ok (.invokestatic 101, 3) := dgq (p := 8) daX12_clock_0 dbX12_clock_0.2.2.2.2.1
theorem dX12_clock_11 : decode cX12_clock 11 = .ok (.ifCond .eq 30, 3) := dgq (p := 11) daX12_clock_0 dbX12_clock_0.2.2.2.2.2.1
theorem dX12_clock_14 : decode cX12_clock 14 = .ok (.iload_n 2, 1) := dgq (p := 14) daX12_clock_0 dbX12_clock_0.2.2.2.2.2.2.1
theorem dX12_clock_15 : decode cX12_clock 15 = .ok (.i2l, 1) := dgq (p := 15) daX12_clock_0 dbX12_clock_0.2.2.2.2.2.2.2.1
theorem dX12_clock_16 : decode cX12_clock 16 = .ok (.ldc2_w 129, 3) := dgq (p := 16) daX12_clock_0 dbX12_clock_0.2.2.2.2.2.2.2.2.1
theorem dX12_clock_19 : decode cX12_clock 19 = .ok (.ldc2_w 131, 3) := dgq (p := 19) daX12_clock_0 dbX12_clock_0.2.2.2.2.2.2.2.2.2
def dsX12_clock_22 : ByteArray := ⟨#[184, 0, 101, 153, 0, 16, 29, 133, 9, 27, 4, 100, 133, 184, 0, 101]⟩
theorem daX12_clock_22 : agB cX12_clock dsX12_clock_22 22 := agB_of (n := 16) (by decide +kernel)
theorem dbX12_clock_22 : (decode dsX12_clock_22 0 = .ok (.invokestatic 101, 3) ∧ okop dsX12_clock_22 0 = true) ∧ (decode dsX12_clock_22 3 = .ok (.ifCond .eq 16, 3) ∧ okop dsX12_clock_22 3 = true) ∧ (decode dsX12_clock_22 6 = .ok (.iload_n 3, 1) ∧ okop dsX12_clock_22 6 = true) ∧ (decode dsX12_clock_22 7 = .ok (.i2l, 1) ∧ okop dsX12_clock_22 7 = true) ∧ (decode dsX12_clock_22 8 = .ok (.lconst 0, 1) ∧ okop dsX12_clock_22 8 = true) ∧ (decode dsX12_clock_22 9 = .ok (.iload_n 1, 1) ∧ okop dsX12_clock_22 9 = true) ∧ (decode dsX12_clock_22 10 = .ok (.iconst 1, 1) ∧ okop dsX12_clock_22 10 = true) ∧ (decode dsX12_clock_22 11 = .ok (.isub, 1) ∧ okop dsX12_clock_22 11 = true) ∧ (decode dsX12_clock_22 12 = .ok (.i2l, 1) ∧ okop dsX12_clock_22 12 = true) ∧ (decode dsX12_clock_22 13 = .ok (.invokestatic 101, 3) ∧ okop dsX12_clock_22 13 = true) := by decide +kernel
theorem dX12_clock_22 : decode cX12_clock 22 = .ok (.invokestatic 101, 3) := dgq (p := 0) daX12_clock_22 dbX12_clock_22.1
theorem dX12_clock_25 : decode cX12_clock 25 = .ok (.ifCond .eq 16, 3) := dgq (p := 3) daX12_clock_22 dbX12_clock_22.2.1
theorem dX12_clock_28 : decode cX12_clock 28 = .ok (.iload_n 3, 1) := dgq (p := 6) daX12_clock_22 dbX12_clock_22.2.2.1
theorem dX12_clock_29 : decode cX12_clock 29 = .ok (.i2l, 1) := dgq (p := 7) daX12_clock_22 dbX12_clock_22.2.2.2.1
theorem dX12_clock_30 : decode cX12_clock 30 = .ok (.lconst 0, 1) := dgq (p := 8) daX12_clock_22 dbX12_clock_22.2.2.2.2.1
theorem dX12_clock_31 : decode cX12_clock 31 = .ok (.iload_n 1, 1) := dgq (p := 9) daX12_clock_22 dbX12_clock_22.2.2.2.2.2.1
theorem dX12_clock_32 : decode cX12_clock 32 = .ok (.iconst 1, 1) := dgq (p := 10) daX12_clock_22 dbX12_clock_22.2.2.2.2.2.2.1
theorem dX12_clock_33 : decode cX12_clock 33 = .ok (.isub, 1) := dgq (p := 11) daX12_clock_22 dbX12_clock_22.2.2.2.2.2.2.2.1
theorem dX12_clock_34 : decode cX12_clock 34 = .ok (.i2l, 1) := dgq (p := 12) daX12_clock_22 dbX12_clock_22.2.2.2.2.2.2.2.2.1
theorem dX12_clock_35 : decode cX12_clock 35 = .ok (.invokestatic 101, 3) := dgq (p := 13) daX12_clock_22 dbX12_clock_22.2.2.2.2.2.2.2.2.2
def dsX12_clock_38 : ByteArray := ⟨#[154, 0, 9, 42, 4, 182, 0, 143, 172, 42, 27, 29, 28, 104]⟩
theorem daX12_clock_38 : agB cX12_clock dsX12_clock_38 38 := agB_of (n := 14) (by decide +kernel)
theorem dbX12_clock_38 : (decode dsX12_clock_38 0 = .ok (.ifCond .ne 9, 3) ∧ okop dsX12_clock_38 0 = true) ∧ (decode dsX12_clock_38 3 = .ok (.aload_n 0, 1) ∧ okop dsX12_clock_38 3 = true) ∧ (decode dsX12_clock_38 4 = .ok (.iconst 1, 1) ∧ okop dsX12_clock_38 4 = true) ∧ (decode dsX12_clock_38 5 = .ok (.invokevirtual 143, 3) ∧ okop dsX12_clock_38 5 = true) ∧ (decode dsX12_clock_38 8 = .ok (.ireturn, 1) ∧ okop dsX12_clock_38 8 = true) ∧ (decode dsX12_clock_38 9 = .ok (.aload_n 0, 1) ∧ okop dsX12_clock_38 9 = true) ∧ (decode dsX12_clock_38 10 = .ok (.iload_n 1, 1) ∧ okop dsX12_clock_38 10 = true) ∧ (decode dsX12_clock_38 11 = .ok (.iload_n 3, 1) ∧ okop dsX12_clock_38 11 = true) ∧ (decode dsX12_clock_38 12 = .ok (.iload_n 2, 1) ∧ okop dsX12_clock_38 12 = true) ∧ (decode dsX12_clock_38 13 = .ok (.imul, 1) ∧ okop dsX12_clock_38 13 = true) := by decide +kernel
theorem dX12_clock_38 : decode cX12_clock 38 = .ok (.ifCond .ne 9, 3) := dgq (p := 0) daX12_clock_38 dbX12_clock_38.1
theorem dX12_clock_41 : decode cX12_clock 41 = .ok (.aload_n 0, 1) := dgq (p := 3) daX12_clock_38 dbX12_clock_38.2.1
theorem dX12_clock_42 : decode cX12_clock 42 = .ok (.iconst 1, 1) := dgq (p := 4) daX12_clock_38 dbX12_clock_38.2.2.1
theorem dX12_clock_43 : decode cX12_clock 43 = .ok (.invokevirtual 143, 3) := dgq (p := 5) daX12_clock_38 dbX12_clock_38.2.2.2.1
theorem dX12_clock_46 : decode cX12_clock 46 = .ok (.ireturn, 1) := dgq (p := 8) daX12_clock_38 dbX12_clock_38.2.2.2.2.1
theorem dX12_clock_47 : decode cX12_clock 47 = .ok (.aload_n 0, 1) := dgq (p := 9) daX12_clock_38 dbX12_clock_38.2.2.2.2.2.1
theorem dX12_clock_48 : decode cX12_clock 48 = .ok (.iload_n 1, 1) := dgq (p := 10) daX12_clock_38 dbX12_clock_38.2.2.2.2.2.2.1
theorem dX12_clock_49 : decode cX12_clock 49 = .ok (.iload_n 3, 1) := dgq (p := 11) daX12_clock_38 dbX12_clock_38.2.2.2.2.2.2.2.1
theorem dX12_clock_50 : decode cX12_clock 50 = .ok (.iload_n 2, 1) := dgq (p := 12) daX12_clock_38 dbX12_clock_38.2.2.2.2.2.2.2.2.1
theorem dX12_clock_51 : decode cX12_clock 51 = .ok (.imul, 1) := dgq (p := 13) daX12_clock_38 dbX12_clock_38.2.2.2.2.2.2.2.2.2
def dsX12_clock_52 : ByteArray := ⟨#[27, 112, 100, 27, 112, 182, 0, 153, 172]⟩
theorem daX12_clock_52 : agB cX12_clock dsX12_clock_52 52 := agB_of (n := 9) (by decide +kernel)
theorem dbX12_clock_52 : (decode dsX12_clock_52 0 = .ok (.iload_n 1, 1) ∧ okop dsX12_clock_52 0 = true) ∧ (decode dsX12_clock_52 1 = .ok (.irem, 1) ∧ okop dsX12_clock_52 1 = true) ∧ (decode dsX12_clock_52 2 = .ok (.isub, 1) ∧ okop dsX12_clock_52 2 = true) ∧ (decode dsX12_clock_52 3 = .ok (.iload_n 1, 1) ∧ okop dsX12_clock_52 3 = true) ∧ (decode dsX12_clock_52 4 = .ok (.irem, 1) ∧ okop dsX12_clock_52 4 = true) ∧ (decode dsX12_clock_52 5 = .ok (.invokevirtual 153, 3) ∧ okop dsX12_clock_52 5 = true) ∧ (decode dsX12_clock_52 8 = .ok (.ireturn, 1) ∧ okop dsX12_clock_52 8 = true) := by decide +kernel
theorem dX12_clock_52 : decode cX12_clock 52 = .ok (.iload_n 1, 1) := dgq (p := 0) daX12_clock_52 dbX12_clock_52.1
theorem dX12_clock_53 : decode cX12_clock 53 = .ok (.irem, 1) := dgq (p := 1) daX12_clock_52 dbX12_clock_52.2.1
theorem dX12_clock_54 : decode cX12_clock 54 = .ok (.isub, 1) := dgq (p := 2) daX12_clock_52 dbX12_clock_52.2.2.1
theorem dX12_clock_55 : decode cX12_clock 55 = .ok (.iload_n 1, 1) := dgq (p := 3) daX12_clock_52 dbX12_clock_52.2.2.2.1
theorem dX12_clock_56 : decode cX12_clock 56 = .ok (.irem, 1) := dgq (p := 4) daX12_clock_52 dbX12_clock_52.2.2.2.2.1
theorem dX12_clock_57 : decode cX12_clock 57 = .ok (.invokevirtual 153, 3) := dgq (p := 5) daX12_clock_52 dbX12_clock_52.2.2.2.2.2.1
theorem dX12_clock_60 : decode cX12_clock 60 = .ok (.ireturn, 1) := dgq (p := 8) daX12_clock_52 dbX12_clock_52.2.2.2.2.2.2
set_option maxRecDepth 20000 in
theorem ggX12_harden_X12_isGear : GoodIn wsX12_harden wsX12_isGear := goodIn_ca (goodIn_ca (goodIn_q _ [11, 12, 13, 14, 15, 16, 17, 18, 19, 20, 10, 21] rfl (by decide +kernel)) (goodIn_sub (fun _ h => (List.mem_cons_of_mem _ (List.mem_append_left _ (List.mem_append_left _ (List.mem_append_right _ h))))) tg_wsX120)) (goodIn_sub (fun _ h => (List.mem_cons_of_mem _ (List.mem_append_left _ (List.mem_append_right _ h)))) tg_wsJx4a65c0)
set_option maxRecDepth 20000 in
theorem gX12_harden_X12_isGear : GoodIn wsX12_harden (wsV RX12 121 RX12 yX12_isGear wsX12_isGear) := goodIn_app (goodIn_q _ [7, 8, 9, 10] rfl (by decide +kernel)) ggX12_harden_X12_isGear
set_option maxRecDepth 20000 in
theorem ggX12_harden_X12_fails : GoodIn wsX12_harden wsX12_fails := goodIn_ca (goodIn_q _ [25, 26] rfl (by decide +kernel)) (goodIn_sub (fun _ h => (List.mem_cons_of_mem _ (List.mem_append_left _ (List.mem_append_left _ (List.mem_append_right _ h))))) tg_wsX120)
set_option maxRecDepth 20000 in
theorem gX12_harden_X12_fails : GoodIn wsX12_harden (wsV RX12 143 RX12 yX12_fails wsX12_fails) := goodIn_app (goodIn_q _ [22, 23, 24, 10] rfl (by decide +kernel)) ggX12_harden_X12_fails
set_option maxRecDepth 20000 in
theorem ggX12_harden_X12_in : GoodIn wsX12_harden wsX12_in := goodIn_q _ [21] rfl (by decide +kernel)
set_option maxRecDepth 20000 in
theorem gX12_harden_X12_in : GoodIn wsX12_harden (va_wsS RX12 101 yX12_in wsX12_in) := goodIn_app (goodIn_q _ [19, 20, 10] rfl (by decide +kernel)) ggX12_harden_X12_in
set_option maxRecDepth 20000 in
theorem ggX12_harden_X12_gearAt : GoodIn wsX12_harden wsX12_gearAt := goodIn_ca (goodIn_ca (goodIn_q _ [30, 12, 31, 32, 33, 34, 16, 35, 18, 36, 37, 38, 39, 40, 41, 42, 43, 44, 45, 46, 47, 48] rfl (by decide +kernel)) (goodIn_sub (fun _ h => (List.mem_cons_of_mem _ (List.mem_append_left _ (List.mem_append_left _ (List.mem_append_right _ h))))) tg_wsX120)) (goodIn_sub (fun _ h => (List.mem_cons_of_mem _ (List.mem_append_left _ (List.mem_append_right _ h)))) tg_wsJx4a65c0)
set_option maxRecDepth 20000 in
theorem gX12_harden_X12_gearAt : GoodIn wsX12_harden (wsV RX12 111 RX12 yX12_gearAt wsX12_gearAt) := goodIn_app (goodIn_q _ [27, 28, 29, 10] rfl (by decide +kernel)) ggX12_harden_X12_gearAt
set_option maxRecDepth 20000 in
theorem ggX12_harden_X10_isBroken : GoodIn wsX12_harden wsX10_isBroken := goodIn_ca (goodIn_q _ [53, 54, 55] rfl (by decide +kernel)) (goodIn_sub (fun _ h => (List.mem_cons_of_mem _ (List.mem_append_left _ (List.mem_append_left _ (List.mem_append_left _ (List.mem_append_right _ h)))))) tg_wsX100)
set_option maxRecDepth 20000 in
theorem gX12_harden_X10_isBroken : GoodIn wsX12_harden (wsV RX12 375 RX10 yX10_isBroken wsX10_isBroken) := goodIn_app (goodIn_q _ [49, 50, 51, 52] rfl (by decide +kernel)) ggX12_harden_X10_isBroken
set_option maxRecDepth 20000 in
theorem ggX12_harden_X10_across : GoodIn wsX12_harden wsX10_across := goodIn_ca (goodIn_q _ [59, 60, 61] rfl (by decide +kernel)) (goodIn_sub (fun _ h => (List.mem_cons_of_mem _ (List.mem_append_left _ (List.mem_append_left _ (List.mem_append_left _ (List.mem_append_right _ h)))))) tg_wsX100)
set_option maxRecDepth 20000 in
theorem gX12_harden_X10_across : GoodIn wsX12_harden (wsV RX12 167 RX10 yX10_across wsX10_across) := goodIn_app (goodIn_q _ [56, 57, 58, 52] rfl (by decide +kernel)) ggX12_harden_X10_across
set_option maxRecDepth 20000 in
theorem ggX12_harden_X12_root : GoodIn wsX12_harden wsX12_root := goodIn_q _ [64, 65, 6] rfl (by decide +kernel)
set_option maxRecDepth 20000 in
theorem gX12_harden_X12_root : GoodIn wsX12_harden (va_wsS RX12 195 yX12_root wsX12_root) := goodIn_app (goodIn_q _ [62, 63, 10] rfl (by decide +kernel)) ggX12_harden_X12_root
set_option maxRecDepth 20000 in
theorem ggX12_harden_X12_answer : GoodIn wsX12_harden wsX12_answer := goodIn_ca (goodIn_q _ [69, 26] rfl (by decide +kernel)) (goodIn_sub (fun _ h => (List.mem_cons_of_mem _ (List.mem_append_left _ (List.mem_append_left _ (List.mem_append_right _ h))))) tg_wsX120)
set_option maxRecDepth 20000 in
theorem gX12_harden_X12_answer : GoodIn wsX12_harden (wsV RX12 153 RX12 yX12_answer wsX12_answer) := goodIn_app (goodIn_q _ [66, 67, 68, 10] rfl (by decide +kernel)) ggX12_harden_X12_answer
