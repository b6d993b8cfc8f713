def dsX6_quietStart_25 : ByteArray := ⟨#[21, 4, 28, 162, 0, 8, 21, 4, 61, 29, 60, 132, 3, 1, 167, 255, 227, 27]⟩
theorem daX6_quietStart_25 : agB cX6_quietStart dsX6_quietStart_25 25 := agB_of (n := 18) (by decide +kernel)
theorem dbX6_quietStart_25 : (decode dsX6_quietStart_25 0 = .ok (.iload 4, 2) ∧ okop dsX6_quietStart_25 0 = true) ∧ (decode dsX6_quietStart_25 2 = .ok (.iload_n 2, 1) ∧ okop dsX6_quietStart_25 2 = true) ∧ (decode dsX6_quietStart_25 3 = .ok (.if_icmp .ge 8, 3) ∧ okop dsX6_quietStart_25 3 = true) ∧ (decode dsX6_quietStart_25 6 = .ok (.iload 4, 2) ∧ okop dsX6_quietStart_25 6 = true) ∧ (decode dsX6_quietStart_25 8 = .ok (.istore_n 2, 1) ∧ okop dsX6_quietStart_25 8 = true) ∧ (decode dsX6_quietStart_25 9 = .ok (.iload_n 3, 1) ∧ okop dsX6_quietStart_25 9 = true) ∧ (decode dsX6_quietStart_25 10 = .ok (.istore_n 1, 1) ∧ okop dsX6_quietStart_25 10 = true) ∧ (decode dsX6_quietStart_25 11 = .ok (.iinc 3 1, 3) ∧ okop dsX6_quietStart_25 11 = true) ∧ (decode dsX6_quietStart_25 14 = .ok (.goto (-29), 3) ∧ okop dsX6_quietStart_25 14 = true) ∧ (decode dsX6_quietStart_25 17 = .ok (.iload_n 1, 1) ∧ okop dsX6_quietStart_25 17 = true) := by decide +kernel
theorem dX6_quietStart_25 : decode cX6_quietStart 25 = .ok (.iload 4, 2) := dgq (p := 0) daX6_quietStart_25 dbX6_quietStart_25.1
theorem dX6_quietStart_27 : decode cX6_quietStart 27 = .ok (.iload_n 2, 1) := dgq (p := 2) daX6_quietStart_25 dbX6_quietStart_25.2.1
theorem dX6_quietStart_28 : decode cX6_quietStart 28 = .ok (.if_icmp .ge 8, 3) := dgq (p := 3) daX6_quietStart_25 dbX6_quietStart_25.2.2.1
theorem dX6_quietStart_31 : decode cX6_quietStart 31 = .ok (.iload 4, 2) := dgq (p := 6) daX6_quietStart_25 dbX6_quietStart_25.2.2.2.1
theorem dX6_quietStart_33 : decode cX6_quietStart 33 = .ok (.istore_n 2, 1) := dgq (p := 8) daX6_quietStart_25 dbX6_quietStart_25.2.2.2.2.1
theorem dX6_quietStart_34 : decode cX6_quietStart 34 = .ok (.iload_n 3, 1) := dgq (p := 9) daX6_quietStart_25 dbX6_quietStart_25.2.2.2.2.2.1
theorem dX6_quietStart_35 : decode cX6_quietStart 35 = .ok (.istore_n 1, 1) := dgq (p := 10) daX6_quietStart_25 dbX6_quietStart_25.2.2.2.2.2.2.1
theorem dX6_quietStart_36 : decode cX6_quietStart 36 = .ok (.iinc 3 1, 3) := dgq (p := 11) daX6_quietStart_25 dbX6_quietStart_25.2.2.2.2.2.2.2.1
theorem dX6_quietStart_39 : decode cX6_quietStart 39 = .ok (.goto (-29), 3) := dgq (p := 14) daX6_quietStart_25 dbX6_quietStart_25.2.2.2.2.2.2.2.2.1
theorem dX6_quietStart_42 : decode cX6_quietStart 42 = .ok (.iload_n 1, 1) := dgq (p := 17) daX6_quietStart_25 dbX6_quietStart_25.2.2.2.2.2.2.2.2.2
theorem dX6_quietStart_43 : decode cX6_quietStart 43 = .ok (.ireturn, 1) := by decide +kernel
def dsX7_init_0 : ByteArray := ⟨#[42, 183, 0, 1, 42, 27, 181, 0, 7, 42, 28, 181, 0, 13, 177]⟩
theorem daX7_init_0 : agB cX7_init dsX7_init_0 0 := agB_of (n := 15) (by decide +kernel)
theorem dbX7_init_0 : (decode dsX7_init_0 0 = .ok (.aload_n 0, 1) ∧ okop dsX7_init_0 0 = true) ∧ (decode dsX7_init_0 1 = .ok (.invokespecial 1, 3) ∧ okop dsX7_init_0 1 = true) ∧ (decode dsX7_init_0 4 = .ok (.aload_n 0, 1) ∧ okop dsX7_init_0 4 = true) ∧ (decode dsX7_init_0 5 = .ok (.iload_n 1, 1) ∧ okop dsX7_init_0 5 = true) ∧ (decode dsX7_init_0 6 = .ok (.putfield 7, 3) ∧ okop dsX7_init_0 6 = true) ∧ (decode dsX7_init_0 9 = .ok (.aload_n 0, 1) ∧ okop dsX7_init_0 9 = true) ∧ (decode dsX7_init_0 10 = .ok (.iload_n 2, 1) ∧ okop dsX7_init_0 10 = true) ∧ (decode dsX7_init_0 11 = .ok (.putfield 13, 3) ∧ okop dsX7_init_0 11 = true) ∧ (decode dsX7_init_0 14 = .ok (.return_, 1) ∧ okop dsX7_init_0 14 = true) := by decide +kernel
theorem dX7_init_0 : decode cX7_init 0 = .ok (.aload_n 0, 1) := dgq (p := 0) daX7_init_0 dbX7_init_0.1
theorem dX7_init_1 : decode cX7_init 1 = .ok (.invokespecial 1, 3) := dgq (p := 1) daX7_init_0 dbX7_init_0.2.1
theorem dX7_init_4 : decode cX7_init 4 = .ok (.aload_n 0, 1) := dgq (p := 4) daX7_init_0 dbX7_init_0.2.2.1
theorem dX7_init_5 : decode cX7_init 5 = .ok (.iload_n 1, 1) := dgq (p := 5) daX7_init_0 dbX7_init_0.2.2.2.1
theorem dX7_init_6 : decode cX7_init 6 = .ok (.putfield 7, 3) := dgq (p := 6) daX7_init_0 dbX7_init_0.2.2.2.2.1
theorem dX7_init_9 : decode cX7_init 9 = .ok (.aload_n 0, 1) := dgq (p := 9) daX7_init_0 dbX7_init_0.2.2.2.2.2.1
theorem dX7_init_10 : decode cX7_init 10 = .ok (.iload_n 2, 1) := dgq (p := 10) daX7_init_0 dbX7_init_0.2.2.2.2.2.2.1
theorem dX7_init_11 : decode cX7_init 11 = .ok (.putfield 13, 3) := dgq (p := 11) daX7_init_0 dbX7_init_0.2.2.2.2.2.2.2.1
theorem dX7_init_14 : decode cX7_init 14 = .ok (.return_, 1) := dgq (p := 14) daX7_init_0 dbX7_init_0.2.2.2.2.2.2.2.2
def dsX7_endFrom_0 : ByteArray := ⟨#[27, 42, 180, 0, 17, 184, 0, 20, 42, 180, 0, 13, 96, 172]⟩
theorem daX7_endFrom_0 : agB cX7_endFrom dsX7_endFrom_0 0 := agB_of (n := 14) (by decide +kernel)
theorem dbX7_endFrom_0 : (decode dsX7_endFrom_0 0 = .ok (.iload_n 1, 1) ∧ okop dsX7_endFrom_0 0 = true) ∧ (decode dsX7_endFrom_0 1 = .ok (.aload_n 0, 1) ∧ okop dsX7_endFrom_0 1 = true) ∧ (decode dsX7_endFrom_0 2 = .ok (.getfield 17, 3) ∧ okop dsX7_endFrom_0 2 = true) ∧ (decode dsX7_endFrom_0 5 = .ok (.invokestatic 20, 3) ∧ okop dsX7_endFrom_0 5 = true) ∧ (decode dsX7_endFrom_0 8 = .ok (.aload_n 0, 1) ∧ okop dsX7_endFrom_0 8 = true) ∧ (decode dsX7_endFrom_0 9 = .ok (.getfield 13, 3) ∧ okop dsX7_endFrom_0 9 = true) ∧ (decode dsX7_endFrom_0 12 = .ok (.iadd, 1) ∧ okop dsX7_endFrom_0 12 = true) ∧ (decode dsX7_endFrom_0 13 = .ok (.ireturn, 1) ∧ okop dsX7_endFrom_0 13 = true) := by decide +kernel
theorem dX7_endFrom_0 : decode cX7_endFrom 0 = .ok (.iload_n 1, 1) := dgq (p := 0) daX7_endFrom_0 dbX7_endFrom_0.1
theorem dX7_endFrom_1 : decode cX7_endFrom 1 = .ok (.aload_n 0, 1) := dgq (p := 1) daX7_endFrom_0 dbX7_endFrom_0.2.1
theorem dX7_endFrom_2 : decode cX7_endFrom 2 = .ok (.getfield 17, 3) := dgq (p := 2) daX7_endFrom_0 dbX7_endFrom_0.2.2.1
theorem dX7_endFrom_5 : decode cX7_endFrom 5 = .ok (.invokestatic 20, 3) := dgq (p := 5) daX7_endFrom_0 dbX7_endFrom_0.2.2.2.1
theorem dX7_endFrom_8 : decode cX7_endFrom 8 = .ok (.aload_n 0, 1) := dgq (p := 8) daX7_endFrom_0 dbX7_endFrom_0.2.2.2.2.1
theorem dX7_endFrom_9 : decode cX7_endFrom 9 = .ok (.getfield 13, 3) := dgq (p := 9) daX7_endFrom_0 dbX7_endFrom_0.2.2.2.2.2.1
theorem dX7_endFrom_12 : decode cX7_endFrom 12 = .ok (.iadd, 1) := dgq (p := 12) daX7_endFrom_0 dbX7_endFrom_0.2.2.2.2.2.2.1
theorem dX7_endFrom_13 : decode cX7_endFrom 13 = .ok (.ireturn, 1) := dgq (p := 13) daX7_endFrom_0 dbX7_endFrom_0.2.2.2.2.2.2.2
def dsX8_init_0 : ByteArray := ⟨#[42, 183, 0, 1, 42, 27, 181, 0, 7, 42, 28, 181, 0, 13, 177]⟩
theorem daX8_init_0 : agB cX8_init dsX8_init_0 0 := agB_of (n := 15) (by decide +kernel)
theorem dbX8_init_0 : (decode dsX8_init_0 0 = .ok (.aload_n 0, 1) ∧ okop dsX8_init_0 0 = true) ∧ (decode dsX8_init_0 1 = .ok (.invokespecial 1, 3) ∧ okop dsX8_init_0 1 = true) ∧ (decode dsX8_init_0 4 = .ok (.aload_n 0, 1) ∧ okop dsX8_init_0 4 = true) ∧ (decode dsX8_init_0 5 = .ok (.iload_n 1, 1) ∧ okop dsX8_init_0 5 = true) ∧ (decode dsX8_init_0 6 = .ok (.putfield 7, 3) ∧ okop dsX8_init_0 6 = true) ∧ (decode dsX8_init_0 9 = .ok (.aload_n 0, 1) ∧ okop dsX8_init_0 9 = true) ∧ (decode dsX8_init_0 10 = .ok (.iload_n 2, 1) ∧ okop dsX8_init_0 10 = true) ∧ (decode dsX8_init_0 11 = .ok (.putfield 13, 3) ∧ okop dsX8_init_0 11 = true) ∧ (decode dsX8_init_0 14 = .ok (.return_, 1) ∧ okop dsX8_init_0 14 = true) := by decide +kernel
theorem dX8_init_0 : decode cX8_init 0 = .ok (.aload_n 0, 1) := dgq (p := 0) daX8_init_0 dbX8_init_0.1
theorem dX8_init_1 : decode cX8_init 1 = .ok (.invokespecial 1, 3) := dgq (p := 1) daX8_init_0 dbX8_init_0.2.1
theorem dX8_init_4 : decode cX8_init 4 = .ok (.aload_n 0, 1) := dgq (p := 4) daX8_init_0 dbX8_init_0.2.2.1
theorem dX8_init_5 : decode cX8_init 5 = .ok (.iload_n 1, 1) := dgq (p := 5) daX8_init_0 dbX8_init_0.2.2.2.1
theorem dX8_init_6 : decode cX8_init 6 = .ok (.putfield 7, 3) := dgq (p := 6) daX8_init_0 dbX8_init_0.2.2.2.2.1
theorem dX8_init_9 : decode cX8_init 9 = .ok (.aload_n 0, 1) := dgq (p := 9) daX8_init_0 dbX8_init_0.2.2.2.2.2.1
theorem dX8_init_10 : decode cX8_init 10 = .ok (.iload_n 2, 1) := dgq (p := 10) daX8_init_0 dbX8_init_0.2.2.2.2.2.2.1
theorem dX8_init_11 : decode cX8_init 11 = .ok (.putfield 13, 3) := dgq (p := 11) daX8_init_0 dbX8_init_0.2.2.2.2.2.2.2.1
theorem dX8_init_14 : decode cX8_init 14 = .ok (.return_, 1) := dgq (p := 14) daX8_init_0 dbX8_init_0.2.2.2.2.2.2.2.2
set_option maxRecDepth 20000 in
theorem ggX8_search_X8_compare : GoodIn wsX8_search wsX8_compare := goodIn_ca (goodIn_ca (goodIn_q _ [17, 1, 2, 18, 19, 5, 20, 21, 22, 23, 24, 25, 26, 16, 27, 28, 29, 30, 31, 32, 33] rfl (by decide +kernel)) (goodIn_sub (fun _ h => (List.mem_cons_of_mem _ (List.mem_append_left _ (List.mem_append_right _ h)))) tg_wsX80)) (goodIn_sub (fun _ h => List.mem_cons_of_mem _ (List.mem_append_right _ h)) (by decide +kernel))
set_option maxRecDepth 20000 in
theorem gX8_search_X8_compare : GoodIn wsX8_search (wsV RX8 25 RX8 yX8_compare wsX8_compare) := goodIn_app (goodIn_q _ [13, 14, 15, 16] rfl (by decide +kernel)) ggX8_search_X8_compare
def dsX8_search_0 : ByteArray := ⟨#[27, 62, 29, 28, 163, 0, 63, 42, 180, 0, 13, 158, 0, 56, 27, 133]⟩
theorem daX8_search_0 : agB cX8_search dsX8_search_0 0 := agB_of (n := 16) (by decide +kernel)
theorem dbX8_search_0 : (decode dsX8_search_0 0 = .ok (.iload_n 1, 1) ∧ okop dsX8_search_0 0 = true) ∧ (decode dsX8_search_0 1 = .ok (.istore_n 3, 1) ∧ okop dsX8_search_0 1 = true) ∧ (decode dsX8_search_0 2 = .ok (.iload_n 3, 1) ∧ okop dsX8_search_0 2 = true) ∧ (decode dsX8_search_0 3 = .ok (.iload_n 2, 1) ∧ okop dsX8_search_0 3 = true) ∧ (decode dsX8_search_0 4 = .ok (.if_icmp .gt 63, 3) ∧ okop dsX8_search_0 4 = true) ∧ (decode dsX8_search_0 7 = .ok (.aload_n 0, 1) ∧ okop dsX8_search_0 7 = true) ∧ (decode dsX8_search_0 8 = .ok (.getfield 13, 3) ∧ okop dsX8_search_0 8 = true) ∧ (decode dsX8_search_0 11 = .ok (.ifCond .le 56, 3) ∧ okop dsX8_search_0 11 = true) ∧ (decode dsX8_search_0 14 = .ok (.iload_n 1, 1) ∧ okop dsX8_search_0 14 = true) ∧ (decode dsX8_search_0 15 = .ok (.i2l, 1) ∧ okop dsX8_search_0 15 = true) := by decide +kernel
theorem dX8_search_0 : decode cX8_search 0 = .ok (.iload_n 1, 1) := dgq (p := 0) daX8_search_0 dbX8_search_0.1
theorem dX8_search_1 : decode cX8_search 1 = .ok (.istore_n 3, 1) := dgq (p := 1) daX8_search_0 dbX8_search_0.2.1
theorem dX8_search_2 : decode cX8_search 2 = .ok (.iload_n 3, 1) := dgq (p := 2) daX8_search_0 dbX8_search_0.2.2.1
theorem dX8_search_3 : decode cX8_search 3 = .ok (.iload_n 2, 1) := dgq (p := 3) daX8_search_0 dbX8_search_0.2.2.2.1
theorem dX8_search_4 : decode cX8_search 4 = .ok (.if_icmp .gt 63, 3) := dgq (p := 4) daX8_search_0 dbX8_search_0.2.2.2.2.1
theorem dX8_search_7 : decode cX8_search 7 = .ok (.aload_n 0, 1) := dgq (p := 7) daX8_search_0 dbX8_search_0.2.2.2.2.2.1
theorem dX8_search_8 : decode cX8_search 8 = .ok (.getfield 13, 3) := dgq (p := 8) daX8_search_0 dbX8_search_0.2.2.2.2.2.2.1
theorem dX8_search_11 : decode cX8_search 11 = .ok (.ifCond .le 56, 3) := dgq (p := 11) daX8_search_0 dbX8_search_0.2.2.2.2.2.2.2.1
theorem dX8_search_14 : decode cX8_search 14 = .ok (.iload_n 1, 1) := dgq (p := 14) daX8_search_0 dbX8_search_0.2.2.2.2.2.2.2.2.1
theorem dX8_search_15 : decode cX8_search 15 = .ok (.i2l, 1) := dgq (p := 15) daX8_search_0 dbX8_search_0.2.2.2.2.2.2.2.2.2
def dsX8_search_16 : ByteArray := ⟨#[28, 133, 29, 133, 42, 180, 0, 7, 133, 105, 42, 180, 0, 13]⟩
theorem daX8_search_16 : agB cX8_search dsX8_search_16 16 := agB_of (n := 14) (by decide +kernel)
theorem dbX8_search_16 : (decode dsX8_search_16 0 = .ok (.iload_n 2, 1) ∧ okop dsX8_search_16 0 = true) ∧ (decode dsX8_search_16 1 = .ok (.i2l, 1) ∧ okop dsX8_search_16 1 = true) ∧ (decode dsX8_search_16 2 = .ok (.iload_n 3, 1) ∧ okop dsX8_search_16 2 = true) ∧ (decode dsX8_search_16 3 = .ok (.i2l, 1) ∧ okop dsX8_search_16 3 = true) ∧ (decode dsX8_search_16 4 = .ok (.aload_n 0, 1) ∧ okop dsX8_search_16 4 = true) ∧ (decode dsX8_search_16 5 = .ok (.getfield 7, 3) ∧ okop dsX8_search_16 5 = true) ∧ (decode dsX8_search_16 8 = .ok (.i2l, 1) ∧ okop dsX8_search_16 8 = true) ∧ (decode dsX8_search_16 9 = .ok (.lmul, 1) ∧ okop dsX8_search_16 9 = true) ∧ (decode dsX8_search_16 10 = .ok (.aload_n 0, 1) ∧ okop dsX8_search_16 10 = true) ∧ (decode dsX8_search_16 11 = .ok (.getfield 13, 3) ∧ okop dsX8_search_16 11 = true) := by decide +kernel
theorem dX8_search_16 : decode cX8_search 16 = .ok (.iload_n 2, 1) := dgq (p := 0) daX8_search_16 dbX8_search_16.1
theorem dX8_search_17 : decode cX8_search 17 = .ok (.i2l, 1) := dgq (p := 1) daX8_search_16 dbX8_search_16.2.1
theorem dX8_search_18 : decode cX8_search 18 = .ok (.iload_n 3, 1) := dgq (p := 2) daX8_search_16 dbX8_search_16.2.2.1
theorem dX8_search_19 : decode cX8_search 19 = .ok (.i2l, 1) := dgq (p := 3) daX8_search_16 dbX8_search_16.2.2.2.1
theorem dX8_search_20 : decode cX8_search 20 = .ok (.aload_n 0, 1) := dgq (p := 4) daX8_search_16 dbX8_search_16.2.2.2.2.1
theorem dX8_search_21 : decode cX8_search 21 = .ok (.getfield 7, 3) := dgq (p := 5) daX8_search_16 dbX8_search_16.2.2.2.2.2.1
theorem dX8_search_24 : decode cX8_search 24 = .ok (.i2l, 1) := dgq (p := 8) daX8_search_16 dbX8_search_16.2.2.2.2.2.2.1
theorem dX8_search_25 : decode cX8_search 25 = .ok (.lmul, 1) := dgq (p := 9) daX8_search_16 dbX8_search_16.2.2.2.2.2.2.2.1
theorem dX8_search_26 : decode cX8_search 26 = .ok (.aload_n 0, 1) := dgq (p := 10) daX8_search_16 dbX8_search_16.2.2.2.2.2.2.2.2.1
theorem dX8_search_27 : decode cX8_search 27 = .ok (.getfield 13, 3) := dgq (p := 11) daX8_search_16 dbX8_search_16.2.2.2.2.2.2.2.2.2
def dsX8_search_30 : ByteArray := ⟨#[133, 109, 184, 0, 16, 184, 0, 22, 136, 54, 4, 42, 21, 4, 29, 182, 0, 25]⟩
theorem daX8_search_30 : agB cX8_search dsX8_search_30 30 := agB_of (n := 18) (by decide +kernel)
theorem dbX8_search_30 : (decode dsX8_search_30 0 = .ok (.i2l, 1) ∧ okop dsX8_search_30 0 = true) ∧ (decode dsX8_search_30 1 = .ok (.ldiv, 1) ∧ okop dsX8_search_30 1 = true) ∧ (decode dsX8_search_30 2 = .ok (.invokestatic 16, 3) ∧ okop dsX8_search_30 2 = true) ∧ (decode dsX8_search_30 5 = .ok (.invokestatic 22, 3) ∧ okop dsX8_search_30 5 = true) ∧ (decode dsX8_search_30 8 = .ok (.l2i, 1) ∧ okop dsX8_search_30 8 = true) ∧ (decode dsX8_search_30 9 = .ok (.istore 4, 2) ∧ okop dsX8_search_30 9 = true) ∧ (decode dsX8_search_30 11 = .ok (.aload_n 0, 1) ∧ okop dsX8_search_30 11 = true) ∧ (decode dsX8_search_30 12 = .ok (.iload 4, 2) ∧ okop dsX8_search_30 12 = true) ∧ (decode dsX8_search_30 14 = .ok (.iload_n 3, 1) ∧ okop dsX8_search_30 14 = true) ∧ (decode dsX8_search_30 15 = .ok (.invokevirtual 25, 3) ∧ okop dsX8_search_30 15 = true) := by decide +kernel
theorem dX8_search_30 : decode cX8_search 30 = .ok (.i2l, 1) := dgq (p := 0) daX8_search_30 dbX8_search_30.1
theorem dX8_search_31 : decode cX8_search 31 = .ok (.ldiv, 1) := dgq (p := 1) daX8_search_30 dbX8_search_30.2.1
theorem dX8_search_32 : decode cX8_search 32 = .ok (.invokestatic 16, 3) := dgq (p := 2) daX8_search_30 dbX8_search_30.2.2.1
theorem dX8_search_35 : decode cX8_search 35 = .ok (.invokestatic 22, 3) := dgq (p := 5) daX8_search_30 dbX8_search_30.2.2.2.1
theorem dX8_search_38 : decode cX8_search 38 = .ok (.l2i, 1) := dgq (p := 8) daX8_search_30 dbX8_search_30.2.2.2.2.1
theorem dX8_search_39 : decode cX8_search 39 = .ok (.istore 4, 2) := dgq (p := 9) daX8_search_30 dbX8_search_30.2.2.2.2.2.1
theorem dX8_search_41 : decode cX8_search 41 = .ok (.aload_n 0, 1) := dgq (p := 11) daX8_search_30 dbX8_search_30.2.2.2.2.2.2.1
theorem dX8_search_42 : decode cX8_search 42 = .ok (.iload 4, 2) := dgq (p := 12) daX8_search_30 dbX8_search_30.2.2.2.2.2.2.2.1
theorem dX8_search_44 : decode cX8_search 44 = .ok (.iload_n 3, 1) := dgq (p := 14) daX8_search_30 dbX8_search_30.2.2.2.2.2.2.2.2.1
theorem dX8_search_45 : decode cX8_search 45 = .ok (.invokevirtual 25, 3) := dgq (p := 15) daX8_search_30 dbX8_search_30.2.2.2.2.2.2.2.2.2
def dsX8_search_48 : ByteArray := ⟨#[42, 28, 21, 4, 4, 96, 184, 0, 29, 29, 182, 0, 25, 132, 3, 1, 167, 255, 194]⟩
theorem daX8_search_48 : agB cX8_search dsX8_search_48 48 := agB_of (n := 19) (by decide +kernel)
theorem dbX8_search_48 : (decode dsX8_search_48 0 = .ok (.aload_n 0, 1) ∧ okop dsX8_search_48 0 = true) ∧ (decode dsX8_search_48 1 = .ok (.iload_n 2, 1) ∧ okop dsX8_search_48 1 = true) ∧ (decode dsX8_search_48 2 = .ok (.iload 4, 2) ∧ okop dsX8_search_48 2 = true) ∧ (decode dsX8_search_48 4 = .ok (.iconst 1, 1) ∧ okop dsX8_search_48 4 = true) ∧ (decode dsX8_search_48 5 = .ok (.iadd, 1) ∧ okop dsX8_search_48 5 = true) ∧ (decode dsX8_search_48 6 = .ok (.invokestatic 29, 3) ∧ okop dsX8_search_48 6 = true) ∧ (decode dsX8_search_48 9 = .ok (.iload_n 3, 1) ∧ okop dsX8_search_48 9 = true) ∧ (decode dsX8_search_48 10 = .ok (.invokevirtual 25, 3) ∧ okop dsX8_search_48 10 = true) ∧ (decode dsX8_search_48 13 = .ok (.iinc 3 1, 3) ∧ okop dsX8_search_48 13 = true) ∧ (decode dsX8_search_48 16 = .ok (.goto (-62), 3) ∧ okop dsX8_search_48 16 = true) := by decide +kernel
theorem dX8_search_48 : decode cX8_search 48 = .ok (.aload_n 0, 1) := dgq (p := 0) daX8_search_48 dbX8_search_48.1
theorem dX8_search_49 : decode cX8_search 49 = .ok (.iload_n 2, 1) := dgq (p := 1) daX8_search_48 dbX8_search_48.2.1
theorem dX8_search_50 : decode cX8_search 50 = .ok (.iload 4, 2) := dgq (p := 2) daX8_search_48 dbX8_search_48.2.2.1
theorem dX8_search_52 : decode cX8_search 52 = .ok (.iconst 1, 1) := dgq (p := 4) daX8_search_48 dbX8_search_48.2.2.2.1
theorem dX8_search_53 : decode cX8_search 53 = .ok (.iadd, 1) := dgq (p := 5) daX8_search_48 dbX8_search_48.2.2.2.2.1
theorem dX8_search_54 : decode cX8_search 54 = .ok (.invokestatic 29, 3) := dgq (p := 6) daX8_search_48 dbX8_search_48.2.2.2.2.2.1
theorem dX8_search_57 : decode cX8_search 57 = .ok (.iload_n 3, 1) := dgq (p := 9) daX8_search_48 dbX8_search_48.2.2.2.2.2.2.1
theorem dX8_search_58 : decode cX8_search 58 = .ok (.invokevirtual 25, 3) := dgq (p := 10) daX8_search_48 dbX8_search_48.2.2.2.2.2.2.2.1
theorem dX8_search_61 : decode cX8_search 61 = .ok (.iinc 3 1, 3) := dgq (p := 13) daX8_search_48 dbX8_search_48.2.2.2.2.2.2.2.2.1
theorem dX8_search_64 : decode cX8_search 64 = .ok (.goto (-62), 3) := dgq (p := 16) daX8_search_48 dbX8_search_48.2.2.2.2.2.2.2.2.2
theorem dX8_search_67 : decode cX8_search 67 = .ok (.return_, 1) := by decide +kernel
set_option maxRecDepth 20000 in
theorem ggX8_compare_X8_comesFirst : GoodIn wsX8_compare wsX8_comesFirst := goodIn_ca (goodIn_ca (goodIn_q _ [14, 9, 7, 15, 16, 17, 18, 19, 5, 20] rfl (by decide +kernel)) (goodIn_sub (fun _ h => (List.mem_cons_of_mem _ (List.mem_append_left _ (List.mem_append_right _ h)))) tg_wsX80)) (goodIn_sub (fun _ h => List.mem_cons_of_mem _ (List.mem_append_right _ h)) (by decide +kernel))
set_option maxRecDepth 20000 in
theorem gX8_compare_X8_comesFirst : GoodIn wsX8_compare (wsV RX8 43 RX8 yX8_comesFirst wsX8_comesFirst) := goodIn_app (goodIn_q _ [10, 11, 12, 13] rfl (by decide +kernel)) ggX8_compare_X8_comesFirst
def dsX8_compare_0 : ByteArray := ⟨#[27, 133, 42, 180, 0, 13, 133, 105, 28, 133, 42, 180, 0, 7]⟩
theorem daX8_compare_0 : agB cX8_compare dsX8_compare_0 0 := agB_of (n := 14) (by decide +kernel)
theorem dbX8_compare_0 : (decode dsX8_compare_0 0 = .ok (.iload_n 1, 1) ∧ okop dsX8_compare_0 0 = true) ∧ (decode dsX8_compare_0 1 = .ok (.i2l, 1) ∧ okop dsX8_compare_0 1 = true) ∧ (decode dsX8_compare_0 2 = .ok (.aload_n 0, 1) ∧ okop dsX8_compare_0 2 = true) ∧ (decode dsX8_compare_0 3 = .ok (.getfield 13, 3) ∧ okop dsX8_compare_0 3 = true) ∧ (decode dsX8_compare_0 6 = .ok (.i2l, 1) ∧ okop dsX8_compare_0 6 = true) ∧ (decode dsX8_compare_0 7 = .ok (.lmul, 1) ∧ okop dsX8_compare_0 7 = true) ∧ (decode dsX8_compare_0 8 = .ok (.iload_n 2, 1) ∧ okop dsX8_compare_0 8 = true) ∧ (decode dsX8_compare_0 9 = .ok (.i2l, 1) ∧ okop dsX8_compare_0 9 = true) ∧ (decode dsX8_compare_0 10 = .ok (.aload_n 0, 1) ∧ okop dsX8_compare_0 10 = true) ∧ (decode dsX8_compare_0 11 = .ok (.getfield 7, 3) ∧ okop dsX8_compare_0 11 = true) := by decide +kernel
theorem dX8_compare_0 : decode cX8_compare 0 = .ok (.iload_n 1, 1) := dgq (p := 0) daX8_compare_0 dbX8_compare_0.1
theorem dX8_compare_1 : decode cX8_compare 1 = .ok (.i2l, 1) := dgq (p := 1) daX8_compare_0 dbX8_compare_0.2.1
theorem dX8_compare_2 : decode cX8_compare 2 = .ok (.aload_n 0, 1) := dgq (p := 2) daX8_compare_0 dbX8_compare_0.2.2.1
theorem dX8_compare_3 : decode cX8_compare 3 = .ok (.getfield 13, 3) := dgq (p := 3) daX8_compare_0 dbX8_compare_0.2.2.2.1
theorem dX8_compare_6 : decode cX8_compare 6 = .ok (.i2l, 1) := dgq (p := 6) daX8_compare_0 dbX8_compare_0.2.2.2.2.1
theorem dX8_compare_7 : decode cX8_compare 7 = .ok (.lmul, 1) := dgq (p := 7) daX8_compare_0 dbX8_compare_0.2.2.2.2.2.1
theorem dX8_compare_8 : decode cX8_compare 8 = .ok (.iload_n 2, 1) := dgq (p := 8) daX8_compare_0 dbX8_compare_0.2.2.2.2.2.2.1
theorem dX8_compare_9 : decode cX8_compare 9 = .ok (.i2l, 1) := dgq (p := 9) daX8_compare_0 dbX8_compare_0.2.2.2.2.2.2.2.1
theorem dX8_compare_10 : decode cX8_compare 10 = .ok (.aload_n 0, 1) := dgq (p := 10) daX8_compare_0 dbX8_compare_0.2.2.2.2.2.2.2.2.1
theorem dX8_compare_11 : decode cX8_compare 11 = .ok (.getfield 7, 3) := dgq (p := 11) daX8_compare_0 dbX8_compare_0.2.2.2.2.2.2.2.2.2
def dsX8_compare_14 : ByteArray := ⟨#[133, 105, 101, 184, 0, 32, 66, 33, 42, 180, 0, 36, 133, 105]⟩
theorem daX8_compare_14 : agB cX8_compare dsX8_compare_14 14 := agB_of (n := 14) (by decide +kernel)
theorem dbX8_compare_14 : (decode dsX8_compare_14 0 = .ok (.i2l, 1) ∧ okop dsX8_compare_14 0 = true) ∧ (decode dsX8_compare_14 1 = .ok (.lmul, 1) ∧ okop dsX8_compare_14 1 = true) ∧ (decode dsX8_compare_14 2 = .ok (.lsub, 1) ∧ okop dsX8_compare_14 2 = true) ∧ (decode dsX8_compare_14 3 = .ok (.invokestatic 32, 3) ∧ okop dsX8_compare_14 3 = true) ∧ (decode dsX8_compare_14 6 = .ok (.lstore_n 3, 1) ∧ okop dsX8_compare_14 6 = true) ∧ (decode dsX8_compare_14 7 = .ok (.lload_n 3, 1) ∧ okop dsX8_compare_14 7 = true) ∧ (decode dsX8_compare_14 8 = .ok (.aload_n 0, 1) ∧ okop dsX8_compare_14 8 = true) ∧ (decode dsX8_compare_14 9 = .ok (.getfield 36, 3) ∧ okop dsX8_compare_14 9 = true) ∧ (decode dsX8_compare_14 12 = .ok (.i2l, 1) ∧ okop dsX8_compare_14 12 = true) ∧ (decode dsX8_compare_14 13 = .ok (.lmul, 1) ∧ okop dsX8_compare_14 13 = true) := by decide +kernel
theorem dX8_compare_14 : decode cX8_compare 14 = .ok (.i2l, 1) := dgq (p := 0) daX8_compare_14 dbX8_compare_14.1
theorem dX8_compare_15 : decode cX8_compare 15 = .ok (.lmul, 1) := dgq (p := 1) daX8_compare_14 dbX8_compare_14.2.1
theorem dX8_compare_16 : decode cX8_compare 16 = .ok (.lsub, 1) := dgq (p := 2) daX8_compare_14 dbX8_compare_14.2.2.1
theorem dX8_compare_17 : decode cX8_compare 17 = .ok (.invokestatic 32, 3) := dgq (p := 3) daX8_compare_14 dbX8_compare_14.2.2.2.1
theorem dX8_compare_20 : decode cX8_compare 20 = .ok (.lstore_n 3, 1) := dgq (p := 6) daX8_compare_14 dbX8_compare_14.2.2.2.2.1
theorem dX8_compare_21 : decode cX8_compare 21 = .ok (.lload_n 3, 1) := dgq (p := 7) daX8_compare_14 dbX8_compare_14.2.2.2.2.2.1
theorem dX8_compare_22 : decode cX8_compare 22 = .ok (.aload_n 0, 1) := dgq (p := 8) daX8_compare_14 dbX8_compare_14.2.2.2.2.2.2.1
theorem dX8_compare_23 : decode cX8_compare 23 = .ok (.getfield 36, 3) := dgq (p := 9) daX8_compare_14 dbX8_compare_14.2.2.2.2.2.2.2.1
theorem dX8_compare_26 : decode cX8_compare 26 = .ok (.i2l, 1) := dgq (p := 12) daX8_compare_14 dbX8_compare_14.2.2.2.2.2.2.2.2.1
theorem dX8_compare_27 : decode cX8_compare 27 = .ok (.lmul, 1) := dgq (p := 13) daX8_compare_14 dbX8_compare_14.2.2.2.2.2.2.2.2.2
def dsX8_compare_28 : ByteArray := ⟨#[55, 5, 42, 180, 0, 39, 28, 133, 105, 55, 7, 42, 180, 0, 36, 153, 0, 28]⟩
theorem daX8_compare_28 : agB cX8_compare dsX8_compare_28 28 := agB_of (n := 18) (by decide +kernel)
theorem dbX8_compare_28 : (decode dsX8_compare_28 0 = .ok (.lstore 5, 2) ∧ okop dsX8_compare_28 0 = true) ∧ (decode dsX8_compare_28 2 = .ok (.aload_n 0, 1) ∧ okop dsX8_compare_28 2 = true) ∧ (decode dsX8_compare_28 3 = .ok (.getfield 39, 3) ∧ okop dsX8_compare_28 3 = true) ∧ (decode dsX8_compare_28 6 = .ok (.iload_n 2, 1) ∧ okop dsX8_compare_28 6 = true) ∧ (decode dsX8_compare_28 7 = .ok (.i2l, 1) ∧ okop dsX8_compare_28 7 = true) ∧ (decode dsX8_compare_28 8 = .ok (.lmul, 1) ∧ okop dsX8_compare_28 8 = true) ∧ (decode dsX8_compare_28 9 = .ok (.lstore 7, 2) ∧ okop dsX8_compare_28 9 = true) ∧ (decode dsX8_compare_28 11 = .ok (.aload_n 0, 1) ∧ okop dsX8_compare_28 11 = true) ∧ (decode dsX8_compare_28 12 = .ok (.getfield 36, 3) ∧ okop dsX8_compare_28 12 = true) ∧ (decode dsX8_compare_28 15 = .ok (.ifCond .eq 28, 3) ∧ okop dsX8_compare_28 15 = true) := by decide +kernel
theorem dX8_compare_28 : decode cX8_compare 28 = .ok (.lstore 5, 2) := dgq (p := 0) daX8_compare_28 dbX8_compare_28.1
theorem dX8_compare_30 : decode cX8_compare 30 = .ok (.aload_n 0, 1) := dgq (p := 2) daX8_compare_28 dbX8_compare_28.2.1
theorem dX8_compare_31 : decode cX8_compare 31 = .ok (.getfield 39, 3) := dgq (p := 3) daX8_compare_28 dbX8_compare_28.2.2.1
theorem dX8_compare_34 : decode cX8_compare 34 = .ok (.iload_n 2, 1) := dgq (p := 6) daX8_compare_28 dbX8_compare_28.2.2.2.1
theorem dX8_compare_35 : decode cX8_compare 35 = .ok (.i2l, 1) := dgq (p := 7) daX8_compare_28 dbX8_compare_28.2.2.2.2.1
theorem dX8_compare_36 : decode cX8_compare 36 = .ok (.lmul, 1) := dgq (p := 8) daX8_compare_28 dbX8_compare_28.2.2.2.2.2.1
theorem dX8_compare_37 : decode cX8_compare 37 = .ok (.lstore 7, 2) := dgq (p := 9) daX8_compare_28 dbX8_compare_28.2.2.2.2.2.2.1
theorem dX8_compare_39 : decode cX8_compare 39 = .ok (.aload_n 0, 1) := dgq (p := 11) daX8_compare_28 dbX8_compare_28.2.2.2.2.2.2.2.1
theorem dX8_compare_40 : decode cX8_compare 40 = .ok (.getfield 36, 3) := dgq (p := 12) daX8_compare_28 dbX8_compare_28.2.2.2.2.2.2.2.2.1
theorem dX8_compare_43 : decode cX8_compare 43 = .ok (.ifCond .eq 28, 3) := dgq (p := 15) daX8_compare_28 dbX8_compare_28.2.2.2.2.2.2.2.2.2
def dsX8_compare_46 : ByteArray := ⟨#[22, 5, 22, 7, 148, 155, 0, 20, 22, 5, 22, 7, 148, 154, 0, 27, 42, 27]⟩
theorem daX8_compare_46 : agB cX8_compare dsX8_compare_46 46 := agB_of (n := 18) (by decide +kernel)
theorem dbX8_compare_46 : (decode dsX8_compare_46 0 = .ok (.lload 5, 2) ∧ okop dsX8_compare_46 0 = true) ∧ (decode dsX8_compare_46 2 = .ok (.lload 7, 2) ∧ okop dsX8_compare_46 2 = true) ∧ (decode dsX8_compare_46 4 = .ok (.lcmp, 1) ∧ okop dsX8_compare_46 4 = true) ∧ (decode dsX8_compare_46 5 = .ok (.ifCond .lt 20, 3) ∧ okop dsX8_compare_46 5 = true) ∧ (decode dsX8_compare_46 8 = .ok (.lload 5, 2) ∧ okop dsX8_compare_46 8 = true) ∧ (decode dsX8_compare_46 10 = .ok (.lload 7, 2) ∧ okop dsX8_compare_46 10 = true) ∧ (decode dsX8_compare_46 12 = .ok (.lcmp, 1) ∧ okop dsX8_compare_46 12 = true) ∧ (decode dsX8_compare_46 13 = .ok (.ifCond .ne 27, 3) ∧ okop dsX8_compare_46 13 = true) ∧ (decode dsX8_compare_46 16 = .ok (.aload_n 0, 1) ∧ okop dsX8_compare_46 16 = true) ∧ (decode dsX8_compare_46 17 = .ok (.iload_n 1, 1) ∧ okop dsX8_compare_46 17 = true) := by decide +kernel
theorem dX8_compare_46 : decode cX8_compare 46 = .ok (.lload 5, 2) := dgq (p := 0) daX8_compare_46 dbX8_compare_46.1
theorem dX8_compare_48 : decode cX8_compare 48 = .ok (.lload 7, 2) := dgq (p := 2) daX8_compare_46 dbX8_compare_46.2.1
theorem dX8_compare_50 : decode cX8_compare 50 = .ok (.lcmp, 1) := dgq (p := 4) daX8_compare_46 dbX8_compare_46.2.2.1
theorem dX8_compare_51 : decode cX8_compare 51 = .ok (.ifCond .lt 20, 3) := dgq (p := 5) daX8_compare_46 dbX8_compare_46.2.2.2.1
theorem dX8_compare_54 : decode cX8_compare 54 = .ok (.lload 5, 2) := dgq (p := 8) daX8_compare_46 dbX8_compare_46.2.2.2.2.1
theorem dX8_compare_56 : decode cX8_compare 56 = .ok (.lload 7, 2) := dgq (p := 10) daX8_compare_46 dbX8_compare_46.2.2.2.2.2.1
theorem dX8_compare_58 : decode cX8_compare 58 = .ok (.lcmp, 1) := dgq (p := 12) daX8_compare_46 dbX8_compare_46.2.2.2.2.2.2.1
theorem dX8_compare_59 : decode cX8_compare 59 = .ok (.ifCond .ne 27, 3) := dgq (p := 13) daX8_compare_46 dbX8_compare_46.2.2.2.2.2.2.2.1
theorem dX8_compare_62 : decode cX8_compare 62 = .ok (.aload_n 0, 1) := dgq (p := 16) daX8_compare_46 dbX8_compare_46.2.2.2.2.2.2.2.2.1
theorem dX8_compare_63 : decode cX8_compare 63 = .ok (.iload_n 1, 1) := dgq (p := 17) daX8_compare_46 dbX8_compare_46.2.2.2.2.2.2.2.2.2
def dsX8_compare_64 : ByteArray := ⟨#[28, 182, 0, 43, 153, 0, 18, 42, 27, 181, 0, 47, 42, 28, 181, 0, 36, 42]⟩
theorem daX8_compare_64 : agB cX8_compare dsX8_compare_64 64 := agB_of (n := 18) (by decide +kernel)
theorem dbX8_compare_64 : (decode dsX8_compare_64 0 = .ok (.iload_n 2, 1) ∧ okop dsX8_compare_64 0 = true) ∧ (decode dsX8_compare_64 1 = .ok (.invokevirtual 43, 3) ∧ okop dsX8_compare_64 1 = true) ∧ (decode dsX8_compare_64 4 = .ok (.ifCond .eq 18, 3) ∧ okop dsX8_compare_64 4 = true) ∧ (decode dsX8_compare_64 7 = .ok (.aload_n 0, 1) ∧ okop dsX8_compare_64 7 = true) ∧ (decode dsX8_compare_64 8 = .ok (.iload_n 1, 1) ∧ okop dsX8_compare_64 8 = true) ∧ (decode dsX8_compare_64 9 = .ok (.putfield 47, 3) ∧ okop dsX8_compare_64 9 = true) ∧ (decode dsX8_compare_64 12 = .ok (.aload_n 0, 1) ∧ okop dsX8_compare_64 12 = true) ∧ (decode dsX8_compare_64 13 = .ok (.iload_n 2, 1) ∧ okop dsX8_compare_64 13 = true) ∧ (decode dsX8_compare_64 14 = .ok (.putfield 36, 3) ∧ okop dsX8_compare_64 14 = true) ∧ (decode dsX8_compare_64 17 = .ok (.aload_n 0, 1) ∧ okop dsX8_compare_64 17 = true) := by decide +kernel
theorem dX8_compare_64 : decode cX8_compare 64 = .ok (.iload_n 2, 1) := dgq (p := 0) daX8_compare_64 dbX8_compare_64.1
theorem dX8_compare_65 : decode cX8_compare 65 = .ok (.invokevirtual 43, 3) := dgq (p := 1) daX8_compare_64 dbX8_compare_64.2.1
theorem dX8_compare_68 : decode cX8_compare 68 = .ok (.ifCond .eq 18, 3) := dgq (p := 4) daX8_compare_64 dbX8_compare_64.2.2.1
theorem dX8_compare_71 : decode cX8_compare 71 = .ok (.aload_n 0, 1) := dgq (p := 7) daX8_compare_64 dbX8_compare_64.2.2.2.1
theorem dX8_compare_72 : decode cX8_compare 72 = .ok (.iload_n 1, 1) := dgq (p := 8) daX8_compare_64 dbX8_compare_64.2.2.2.2.1
theorem dX8_compare_73 : decode cX8_compare 73 = .ok (.putfield 47, 3) := dgq (p := 9) daX8_compare_64 dbX8_compare_64.2.2.2.2.2.1
theorem dX8_compare_76 : decode cX8_compare 76 = .ok (.aload_n 0, 1) := dgq (p := 12) daX8_compare_64 dbX8_compare_64.2.2.2.2.2.2.1
theorem dX8_compare_77 : decode cX8_compare 77 = .ok (.iload_n 2, 1) := dgq (p := 13) daX8_compare_64 dbX8_compare_64.2.2.2.2.2.2.2.1
theorem dX8_compare_78 : decode cX8_compare 78 = .ok (.putfield 36, 3) := dgq (p := 14) daX8_compare_64 dbX8_compare_64.2.2.2.2.2.2.2.2.1
theorem dX8_compare_81 : decode cX8_compare 81 = .ok (.aload_n 0, 1) := dgq (p := 17) daX8_compare_64 dbX8_compare_64.2.2.2.2.2.2.2.2.2
def dsX8_compare_82 : ByteArray := ⟨#[33, 181, 0, 39, 177]⟩
theorem daX8_compare_82 : agB cX8_compare dsX8_compare_82 82 := agB_of (n := 5) (by decide +kernel)
theorem dbX8_compare_82 : (decode dsX8_compare_82 0 = .ok (.lload_n 3, 1) ∧ okop dsX8_compare_82 0 = true) ∧ (decode dsX8_compare_82 1 = .ok (.putfield 39, 3) ∧ okop dsX8_compare_82 1 = true) ∧ (decode dsX8_compare_82 4 = .ok (.return_, 1) ∧ okop dsX8_compare_82 4 = true) := by decide +kernel
theorem dX8_compare_82 : decode cX8_compare 82 = .ok (.lload_n 3, 1) := dgq (p := 0) daX8_compare_82 dbX8_compare_82.1
theorem dX8_compare_83 : decode cX8_compare 83 = .ok (.putfield 39, 3) := dgq (p := 1) daX8_compare_82 dbX8_compare_82.2.1
theorem dX8_compare_86 : decode cX8_compare 86 = .ok (.return_, 1) := dgq (p := 4) daX8_compare_82 dbX8_compare_82.2.2
set_option maxRecDepth 20000 in
theorem ggX8_comesFirst_X9_commonDivisor : GoodIn wsX8_comesFirst wsX9_commonDivisor := goodIn_ca (goodIn_q _ [5, 6, 7, 8, 9] rfl (by decide +kernel)) (goodIn_sub (fun _ h => List.mem_cons_of_mem _ (List.mem_append_right _ h)) (by decide +kernel))
set_option maxRecDepth 20000 in
theorem gX8_comesFirst_X9_commonDivisor_n50 : GoodIn wsX8_comesFirst (wsX9_commonDivisor) := ggX8_comesFirst_X9_commonDivisor
def dsX8_comesFirst_0 : ByteArray := ⟨#[27, 28, 184, 0, 50, 4, 160, 0, 7, 4, 167, 0, 4, 3, 62, 42]⟩
theorem daX8_comesFirst_0 : agB cX8_comesFirst dsX8_comesFirst_0 0 := agB_of (n := 16) (by decide +kernel)
theorem dbX8_comesFirst_0 : (decode dsX8_comesFirst_0 0 = .ok (.iload_n 1, 1) ∧ okop dsX8_comesFirst_0 0 = true) ∧ (decode dsX8_comesFirst_0 1 = .ok (.iload_n 2, 1) ∧ okop dsX8_comesFirst_0 1 = true) ∧ (decode dsX8_comesFirst_0 2 = .ok (.invokestatic 50, 3) ∧ okop dsX8_comesFirst_0 2 = true) ∧ (decode dsX8_comesFirst_0 5 = .ok (.iconst 1, 1) ∧ okop dsX8_comesFirst_0 5 = true) ∧ (decode dsX8_comesFirst_0 6 = .ok (.if_icmp .ne 7, 3) ∧ okop dsX8_comesFirst_0 6 = true) ∧ (decode dsX8_comesFirst_0 9 = .ok (.iconst 1, 1) ∧ okop dsX8_comesFirst_0 9 = true) ∧ (decode dsX8_comesFirst_0 10 = .ok (.goto 4, 3) ∧ okop dsX8_comesFirst_0 10 = true) ∧ (decode dsX8_comesFirst_0 13 = .ok (.iconst 0, 1) ∧ okop dsX8_comesFirst_0 13 = true) ∧ (decode dsX8_comesFirst_0 14 = .ok (.istore_n 3, 1) ∧ okop dsX8_comesFirst_0 14 = true) ∧ (decode dsX8_comesFirst_0 15 = .ok (.aload_n 0, 1) ∧ okop dsX8_comesFirst_0 15 = true) := by decide +kernel
theorem dX8_comesFirst_0 : decode cX8_comesFirst 0 = .ok (.iload_n 1, 1) := dgq (p := 0) daX8_comesFirst_0 dbX8_comesFirst_0.1
theorem dX8_comesFirst_1 : decode cX8_comesFirst 1 = .ok (.iload_n 2, 1) := dgq (p := 1) daX8_comesFirst_0 dbX8_comesFirst_0.2.1
theorem dX8_comesFirst_2 : decode cX8_comesFirst 2 = .ok (.invokestatic 50, 3) := dgq (p := 2) daX8_comesFirst_0 dbX8_comesFirst_0.2.2.1
theorem dX8_comesFirst_5 : decode cX8_comesFirst 5 = .ok (.iconst 1, 1) := dgq (p := 5) daX8_comesFirst_0 dbX8_comesFirst_0.2.2.2.1
theorem dX8_comesFirst_6 : decode cX8_comesFirst 6 = .ok (.if_icmp .ne 7, 3) := dgq (p := 6) daX8_comesFirst_0 dbX8_comesFirst_0.2.2.2.2.1
theorem dX8_comesFirst_9 : decode cX8_comesFirst 9 = .ok (.iconst 1, 1) := dgq (p := 9) daX8_comesFirst_0 dbX8_comesFirst_0.2.2.2.2.2.1
theorem dX8_comesFirst_10 : decode cX8_comesFirst 10 = .ok (.goto 4, 3) := dgq (p := 10) daX8_comesFirst_0 dbX8_comesFirst_0.2.2.2.2.2.2.1
theorem dX8_comesFirst_13 : decode cX8_comesFirst 13 = .ok (.iconst 0, 1) := dgq (p := 13) daX8_comesFirst_0 dbX8_comesFirst_0.2.2.2.2.2.2.2.1
theorem dX8_comesFirst_14 : decode cX8_comesFirst 14 = .ok (.istore_n 3, 1) := dgq (p := 14) daX8_comesFirst_0 dbX8_comesFirst_0.2.2.2.2.2.2.2.2.1
theorem dX8_comesFirst_15 : decode cX8_comesFirst 15 = .ok (.aload_n 0, 1) := dgq (p := 15) daX8_comesFirst_0 dbX8_comesFirst_0.2.2.2.2.2.2.2.2.2
def dsX8_comesFirst_16 : ByteArray := ⟨#[180, 0, 47, 42, 180, 0, 36, 184, 0, 50, 4, 160, 0, 7, 4, 167, 0, 4, 3, 54, 4]⟩
theorem daX8_comesFirst_16 : agB cX8_comesFirst dsX8_comesFirst_16 16 := agB_of (n := 21) (by decide +kernel)
theorem dbX8_comesFirst_16 : (decode dsX8_comesFirst_16 0 = .ok (.getfield 47, 3) ∧ okop dsX8_comesFirst_16 0 = true) ∧ (decode dsX8_comesFirst_16 3 = .ok (.aload_n 0, 1) ∧ okop dsX8_comesFirst_16 3 = true) ∧ (decode dsX8_comesFirst_16 4 = .ok (.getfield 36, 3) ∧ okop dsX8_comesFirst_16 4 = true) ∧ (decode dsX8_comesFirst_16 7 = .ok (.invokestatic 50, 3) ∧ okop dsX8_comesFirst_16 7 = true) ∧ (decode dsX8_comesFirst_16 10 = .ok (.iconst 1, 1) ∧ okop dsX8_comesFirst_16 10 = true) ∧ (decode dsX8_comesFirst_16 11 = .ok (.if_icmp .ne 7, 3) ∧ okop dsX8_comesFirst_16 11 = true) ∧ (decode dsX8_comesFirst_16 14 = .ok (.iconst 1, 1) ∧ okop dsX8_comesFirst_16 14 = true) ∧ (decode dsX8_comesFirst_16 15 = .ok (.goto 4, 3) ∧ okop dsX8_comesFirst_16 15 = true) ∧ (decode dsX8_comesFirst_16 18 = .ok (.iconst 0, 1) ∧ okop dsX8_comesFirst_16 18 = true) ∧ (decode dsX8_comesFirst_16 19 = .ok (.istore 4, 2) ∧ okop dsX8_comesFirst_16 19 = true) := by decide +kernel
theorem dX8_comesFirst_16 : decode cX8_comesFirst 16 = .ok (.getfield 47, 3) := dgq (p := 0) daX8_comesFirst_16 dbX8_comesFirst_16.1
theorem dX8_comesFirst_19 : decode cX8_comesFirst 19 = .ok (.aload_n 0, 1) := dgq (p := 3) daX8_comesFirst_16 dbX8_comesFirst_16.2.1
theorem dX8_comesFirst_20 : decode cX8_comesFirst 20 = .ok (.getfield 36, 3) := dgq (p := 4) daX8_comesFirst_16 dbX8_comesFirst_16.2.2.1
theorem dX8_comesFirst_23 : decode cX8_comesFirst 23 = .ok (.invokestatic 50, 3) := dgq (p := 7) daX8_comesFirst_16 dbX8_comesFirst_16.2.2.2.1
theorem dX8_comesFirst_26 : decode cX8_comesFirst 26 = .ok (.iconst 1, 1) := dgq (p := 10) daX8_comesFirst_16 dbX8_comesFirst_16.2.2.2.2.1
theorem dX8_comesFirst_27 : decode cX8_comesFirst 27 = .ok (.if_icmp .ne 7, 3) := dgq (p := 11) daX8_comesFirst_16 dbX8_comesFirst_16.2.2.2.2.2.1
theorem dX8_comesFirst_30 : decode cX8_comesFirst 30 = .ok (.iconst 1, 1) := dgq (p := 14) daX8_comesFirst_16 dbX8_comesFirst_16.2.2.2.2.2.2.1
theorem dX8_comesFirst_31 : decode cX8_comesFirst 31 = .ok (.goto 4, 3) := dgq (p := 15) daX8_comesFirst_16 dbX8_comesFirst_16.2.2.2.2.2.2.2.1
theorem dX8_comesFirst_34 : decode cX8_comesFirst 34 = .ok (.iconst 0, 1) := dgq (p := 18) daX8_comesFirst_16 dbX8_comesFirst_16.2.2.2.2.2.2.2.2.1
theorem dX8_comesFirst_35 : decode cX8_comesFirst 35 = .ok (.istore 4, 2) := dgq (p := 19) daX8_comesFirst_16 dbX8_comesFirst_16.2.2.2.2.2.2.2.2.2
def dsX8_comesFirst_37 : ByteArray := ⟨#[29, 21, 4, 159, 0, 5, 29, 172, 27, 28, 96, 42, 180, 0, 47]⟩
theorem daX8_comesFirst_37 : agB cX8_comesFirst dsX8_comesFirst_37 37 := agB_of (n := 15) (by decide +kernel)
theorem dbX8_comesFirst_37 : (decode dsX8_comesFirst_37 0 = .ok (.iload_n 3, 1) ∧ okop dsX8_comesFirst_37 0 = true) ∧ (decode dsX8_comesFirst_37 1 = .ok (.iload 4, 2) ∧ okop dsX8_comesFirst_37 1 = true) ∧ (decode dsX8_comesFirst_37 3 = .ok (.if_icmp .eq 5, 3) ∧ okop dsX8_comesFirst_37 3 = true) ∧ (decode dsX8_comesFirst_37 6 = .ok (.iload_n 3, 1) ∧ okop dsX8_comesFirst_37 6 = true) ∧ (decode dsX8_comesFirst_37 7 = .ok (.ireturn, 1) ∧ okop dsX8_comesFirst_37 7 = true) ∧ (decode dsX8_comesFirst_37 8 = .ok (.iload_n 1, 1) ∧ okop dsX8_comesFirst_37 8 = true) ∧ (decode dsX8_comesFirst_37 9 = .ok (.iload_n 2, 1) ∧ okop dsX8_comesFirst_37 9 = true) ∧ (decode dsX8_comesFirst_37 10 = .ok (.iadd, 1) ∧ okop dsX8_comesFirst_37 10 = true) ∧ (decode dsX8_comesFirst_37 11 = .ok (.aload_n 0, 1) ∧ okop dsX8_comesFirst_37 11 = true) ∧ (decode dsX8_comesFirst_37 12 = .ok (.getfield 47, 3) ∧ okop dsX8_comesFirst_37 12 = true) := by decide +kernel
theorem dX8_comesFirst_37 : decode cX8_comesFirst 37 = .ok (.iload_n 3, 1) := dgq (p := 0) daX8_comesFirst_37 dbX8_comesFirst_37.1
theorem dX8_comesFirst_38 : decode cX8_comesFirst 38 = .ok (.iload 4, 2) := dgq (p := 1) daX8_comesFirst_37 dbX8_comesFirst_37.2.1
theorem dX8_comesFirst_40 : decode cX8_comesFirst 40 = .ok (.if_icmp .eq 5, 3) := dgq (p := 3) daX8_comesFirst_37 dbX8_comesFirst_37.2.2.1
theorem dX8_comesFirst_43 : decode cX8_comesFirst 43 = .ok (.iload_n 3, 1) := dgq (p := 6) daX8_comesFirst_37 dbX8_comesFirst_37.2.2.2.1
theorem dX8_comesFirst_44 : decode cX8_comesFirst 44 = .ok (.ireturn, 1) := dgq (p := 7) daX8_comesFirst_37 dbX8_comesFirst_37.2.2.2.2.1
theorem dX8_comesFirst_45 : decode cX8_comesFirst 45 = .ok (.iload_n 1, 1) := dgq (p := 8) daX8_comesFirst_37 dbX8_comesFirst_37.2.2.2.2.2.1
theorem dX8_comesFirst_46 : decode cX8_comesFirst 46 = .ok (.iload_n 2, 1) := dgq (p := 9) daX8_comesFirst_37 dbX8_comesFirst_37.2.2.2.2.2.2.1
theorem dX8_comesFirst_47 : decode cX8_comesFirst 47 = .ok (.iadd, 1) := dgq (p := 10) daX8_comesFirst_37 dbX8_comesFirst_37.2.2.2.2.2.2.2.1
theorem dX8_comesFirst_48 : decode cX8_comesFirst 48 = .ok (.aload_n 0, 1) := dgq (p := 11) daX8_comesFirst_37 dbX8_comesFirst_37.2.2.2.2.2.2.2.2.1
theorem dX8_comesFirst_49 : decode cX8_comesFirst 49 = .ok (.getfield 47, 3) := dgq (p := 12) daX8_comesFirst_37 dbX8_comesFirst_37.2.2.2.2.2.2.2.2.2
def dsX8_comesFirst_52 : ByteArray := ⟨#[42, 180, 0, 36, 96, 159, 0, 24, 27, 28, 96, 42, 180, 0, 47, 42]⟩
theorem daX8_comesFirst_52 : agB cX8_comesFirst dsX8_comesFirst_52 52 := agB_of (n := 16) (by decide +kernel)
theorem dbX8_comesFirst_52 : (decode dsX8_comesFirst_52 0 = .ok (.aload_n 0, 1) ∧ okop dsX8_comesFirst_52 0 = true) ∧ (decode dsX8_comesFirst_52 1 = .ok (.getfield 36, 3) ∧ okop dsX8_comesFirst_52 1 = true) ∧ (decode dsX8_comesFirst_52 4 = .ok (.iadd, 1) ∧ okop dsX8_comesFirst_52 4 = true) ∧ (decode dsX8_comesFirst_52 5 = .ok (.if_icmp .eq 24, 3) ∧ okop dsX8_comesFirst_52 5 = true) ∧ (decode dsX8_comesFirst_52 8 = .ok (.iload_n 1, 1) ∧ okop dsX8_comesFirst_52 8 = true) ∧ (decode dsX8_comesFirst_52 9 = .ok (.iload_n 2, 1) ∧ okop dsX8_comesFirst_52 9 = true) ∧ (decode dsX8_comesFirst_52 10 = .ok (.iadd, 1) ∧ okop dsX8_comesFirst_52 10 = true) ∧ (decode dsX8_comesFirst_52 11 = .ok (.aload_n 0, 1) ∧ okop dsX8_comesFirst_52 11 = true) ∧ (decode dsX8_comesFirst_52 12 = .ok (.getfield 47, 3) ∧ okop dsX8_comesFirst_52 12 = true) ∧ (decode dsX8_comesFirst_52 15 = .ok (.aload_n 0, 1) ∧ okop dsX8_comesFirst_52 15 = true) := by decide +kernel
theorem dX8_comesFirst_52 : decode cX8_comesFirst 52 = .ok (.aload_n 0, 1) := dgq (p := 0) daX8_comesFirst_52 dbX8_comesFirst_52.1
theorem dX8_comesFirst_53 : decode cX8_comesFirst 53 = .ok (.getfield 36, 3) := dgq (p := 1) daX8_comesFirst_52 dbX8_comesFirst_52.2.1
theorem dX8_comesFirst_56 : decode cX8_comesFirst 56 = .ok (.iadd, 1) := dgq (p := 4) daX8_comesFirst_52 dbX8_comesFirst_52.2.2.1
theorem dX8_comesFirst_57 : decode cX8_comesFirst 57 = .ok (.if_icmp .eq 24, 3) := dgq (p := 5) daX8_comesFirst_52 dbX8_comesFirst_52.2.2.2.1
theorem dX8_comesFirst_60 : decode cX8_comesFirst 60 = .ok (.iload_n 1, 1) := dgq (p := 8) daX8_comesFirst_52 dbX8_comesFirst_52.2.2.2.2.1
theorem dX8_comesFirst_61 : decode cX8_comesFirst 61 = .ok (.iload_n 2, 1) := dgq (p := 9) daX8_comesFirst_52 dbX8_comesFirst_52.2.2.2.2.2.1
theorem dX8_comesFirst_62 : decode cX8_comesFirst 62 = .ok (.iadd, 1) := dgq (p := 10) daX8_comesFirst_52 dbX8_comesFirst_52.2.2.2.2.2.2.1
theorem dX8_comesFirst_63 : decode cX8_comesFirst 63 = .ok (.aload_n 0, 1) := dgq (p := 11) daX8_comesFirst_52 dbX8_comesFirst_52.2.2.2.2.2.2.2.1
theorem dX8_comesFirst_64 : decode cX8_comesFirst 64 = .ok (.getfield 47, 3) := dgq (p := 12) daX8_comesFirst_52 dbX8_comesFirst_52.2.2.2.2.2.2.2.2.1
theorem dX8_comesFirst_67 : decode cX8_comesFirst 67 = .ok (.aload_n 0, 1) := dgq (p := 15) daX8_comesFirst_52 dbX8_comesFirst_52.2.2.2.2.2.2.2.2.2
def dsX8_comesFirst_68 : ByteArray := ⟨#[180, 0, 36, 96, 162, 0, 7, 4, 167, 0, 4, 3, 172, 27, 42, 180, 0, 47]⟩
theorem daX8_comesFirst_68 : agB cX8_comesFirst dsX8_comesFirst_68 68 := agB_of (n := 18) (by decide +kernel)
theorem dbX8_comesFirst_68 : (decode dsX8_comesFirst_68 0 = .ok (.getfield 36, 3) ∧ okop dsX8_comesFirst_68 0 = true) ∧ (decode dsX8_comesFirst_68 3 = .ok (.iadd, 1) ∧ okop dsX8_comesFirst_68 3 = true) ∧ (decode dsX8_comesFirst_68 4 = .ok (.if_icmp .ge 7, 3) ∧ okop dsX8_comesFirst_68 4 = true) ∧ (decode dsX8_comesFirst_68 7 = .ok (.iconst 1, 1) ∧ okop dsX8_comesFirst_68 7 = true) ∧ (decode dsX8_comesFirst_68 8 = .ok (.goto 4, 3) ∧ okop dsX8_comesFirst_68 8 = true) ∧ (decode dsX8_comesFirst_68 11 = .ok (.iconst 0, 1) ∧ okop dsX8_comesFirst_68 11 = true) ∧ (decode dsX8_comesFirst_68 12 = .ok (.ireturn, 1) ∧ okop dsX8_comesFirst_68 12 = true) ∧ (decode dsX8_comesFirst_68 13 = .ok (.iload_n 1, 1) ∧ okop dsX8_comesFirst_68 13 = true) ∧ (decode dsX8_comesFirst_68 14 = .ok (.aload_n 0, 1) ∧ okop dsX8_comesFirst_68 14 = true) ∧ (decode dsX8_comesFirst_68 15 = .ok (.getfield 47, 3) ∧ okop dsX8_comesFirst_68 15 = true) := by decide +kernel
theorem dX8_comesFirst_68 : decode cX8_comesFirst 68 = .ok (.getfield 36, 3) := dgq (p := 0) daX8_comesFirst_68 dbX8_comesFirst_68.1
theorem dX8_comesFirst_71 : decode cX8_comesFirst 71 = .ok (.iadd, 1) := dgq (p := 3) daX8_comesFirst_68 dbX8_comesFirst_68.2.1
theorem dX8_comesFirst_72 : decode cX8_comesFirst 72 = .ok (.if_icmp .ge 7, 3) := dgq (p := 4) daX8_comesFirst_68 dbX8_comesFirst_68.2.2.1
theorem dX8_comesFirst_75 : decode cX8_comesFirst 75 = .ok (.iconst 1, 1) := dgq (p := 7) daX8_comesFirst_68 dbX8_comesFirst_68.2.2.2.1
theorem dX8_comesFirst_76 : decode cX8_comesFirst 76 = .ok (.goto 4, 3) := dgq (p := 8) daX8_comesFirst_68 dbX8_comesFirst_68.2.2.2.2.1
theorem dX8_comesFirst_79 : decode cX8_comesFirst 79 = .ok (.iconst 0, 1) := dgq (p := 11) daX8_comesFirst_68 dbX8_comesFirst_68.2.2.2.2.2.1
theorem dX8_comesFirst_80 : decode cX8_comesFirst 80 = .ok (.ireturn, 1) := dgq (p := 12) daX8_comesFirst_68 dbX8_comesFirst_68.2.2.2.2.2.2.1
theorem dX8_comesFirst_81 : decode cX8_comesFirst 81 = .ok (.iload_n 1, 1) := dgq (p := 13) daX8_comesFirst_68 dbX8_comesFirst_68.2.2.2.2.2.2.2.1
theorem dX8_comesFirst_82 : decode cX8_comesFirst 82 = .ok (.aload_n 0, 1) := dgq (p := 14) daX8_comesFirst_68 dbX8_comesFirst_68.2.2.2.2.2.2.2.2.1
theorem dX8_comesFirst_83 : decode cX8_comesFirst 83 = .ok (.getfield 47, 3) := dgq (p := 15) daX8_comesFirst_68 dbX8_comesFirst_68.2.2.2.2.2.2.2.2.2
def dsX8_comesFirst_86 : ByteArray := ⟨#[162, 0, 7, 4, 167, 0, 4, 3, 172]⟩
theorem daX8_comesFirst_86 : agB cX8_comesFirst dsX8_comesFirst_86 86 := agB_of (n := 9) (by decide +kernel)
theorem dbX8_comesFirst_86 : (decode dsX8_comesFirst_86 0 = .ok (.if_icmp .ge 7, 3) ∧ okop dsX8_comesFirst_86 0 = true) ∧ (decode dsX8_comesFirst_86 3 = .ok (.iconst 1, 1) ∧ okop dsX8_comesFirst_86 3 = true) ∧ (decode dsX8_comesFirst_86 4 = .ok (.goto 4, 3) ∧ okop dsX8_comesFirst_86 4 = true) ∧ (decode dsX8_comesFirst_86 7 = .ok (.iconst 0, 1) ∧ okop dsX8_comesFirst_86 7 = true) ∧ (decode dsX8_comesFirst_86 8 = .ok (.ireturn, 1) ∧ okop dsX8_comesFirst_86 8 = true) := by decide +kernel
theorem dX8_comesFirst_86 : decode cX8_comesFirst 86 = .ok (.if_icmp .ge 7, 3) := dgq (p := 0) daX8_comesFirst_86 dbX8_comesFirst_86.1
theorem dX8_comesFirst_89 : decode cX8_comesFirst 89 = .ok (.iconst 1, 1) := dgq (p := 3) daX8_comesFirst_86 dbX8_comesFirst_86.2.1
theorem dX8_comesFirst_90 : decode cX8_comesFirst 90 = .ok (.goto 4, 3) := dgq (p := 4) daX8_comesFirst_86 dbX8_comesFirst_86.2.2.1
theorem dX8_comesFirst_93 : decode cX8_comesFirst 93 = .ok (.iconst 0, 1) := dgq (p := 7) daX8_comesFirst_86 dbX8_comesFirst_86.2.2.2.1
theorem dX8_comesFirst_94 : decode cX8_comesFirst 94 = .ok (.ireturn, 1) := dgq (p := 8) daX8_comesFirst_86 dbX8_comesFirst_86.2.2.2.2
set_option maxRecDepth 20000 in
theorem ggX9_init_X0_init : GoodIn wsX9_init wsX0_init := goodIn_ca (goodIn_q _ [25, 26, 2, 3, 27, 28, 29] rfl (by decide +kernel)) (goodIn_sub (fun _ h => (List.mem_cons_of_mem _ (List.mem_append_left _ (List.mem_append_left _ (List.mem_append_right _ h))))) tg_wsX00)
set_option maxRecDepth 20000 in
theorem gX9_init_X0_init_n29 : GoodIn wsX9_init (wsX0_init) := ggX9_init_X0_init
set_option maxRecDepth 20000 in
theorem ggX9_init_X6_init : GoodIn wsX9_init wsX6_init := goodIn_ca (goodIn_q _ [31, 32, 2, 3, 27, 33, 34, 35, 36, 37] rfl (by decide +kernel)) (goodIn_sub (fun _ h => (List.mem_cons_of_mem _ (List.mem_append_left _ (List.mem_append_right _ h)))) tg_wsX60)
set_option maxRecDepth 20000 in
theorem gX9_init_X6_init_n36 : GoodIn wsX9_init (wsX6_init) := ggX9_init_X6_init
set_option maxRecDepth 20000 in
theorem ggX9_init_X4_init : GoodIn wsX9_init wsX4_init := goodIn_ca (goodIn_q _ [39, 40, 2, 3, 41, 42, 43, 27, 44, 45, 46, 47, 48] rfl (by decide +kernel)) (goodIn_sub (fun _ h => (List.mem_cons_of_mem _ (List.mem_append_right _ h))) tg_wsX40)
set_option maxRecDepth 20000 in
theorem gX9_init_X4_init_n43 : GoodIn wsX9_init (wsX4_init) := ggX9_init_X4_init
def dsX9_init_0 : ByteArray := ⟨#[42, 183, 0, 1, 42, 16, 20, 189, 0, 9, 181, 0, 11, 42, 16, 8, 189, 0, 15, 181, 0, 17]⟩
theorem daX9_init_0 : agB cX9_init dsX9_init_0 0 := agB_of (n := 22) (by decide +kernel)
theorem dbX9_init_0 : (decode dsX9_init_0 0 = .ok (.aload_n 0, 1) ∧ okop dsX9_init_0 0 = true) ∧ (decode dsX9_init_0 1 = .ok (.invokespecial 1, 3) ∧ okop dsX9_init_0 1 = true) ∧ (decode dsX9_init_0 4 = .ok (.aload_n 0, 1) ∧ okop dsX9_init_0 4 = true) ∧ (decode dsX9_init_0 5 = .ok (.bipush 20, 2) ∧ okop dsX9_init_0 5 = true) ∧ (decode dsX9_init_0 7 = .ok (.anewarray 9, 3) ∧ okop dsX9_init_0 7 = true) ∧ (decode dsX9_init_0 10 = .ok (.putfield 11, 3) ∧ okop dsX9_init_0 10 = true) ∧ (decode dsX9_init_0 13 = .ok (.aload_n 0, 1) ∧ okop dsX9_init_0 13 = true) ∧ (decode dsX9_init_0 14 = .ok (.bipush 8, 2) ∧ okop dsX9_init_0 14 = true) ∧ (decode dsX9_init_0 16 = .ok (.anewarray 15, 3) ∧ okop dsX9_init_0 16 = true) ∧ (decode dsX9_init_0 19 = .ok (.putfield 17, 3) ∧ okop dsX9_init_0 19 = true) := by decide +kernel
theorem dX9_init_0 : decode cX9_init 0 = .ok (.aload_n 0, 1) := dgq (p := 0) daX9_init_0 dbX9_init_0.1
theorem dX9_init_1 : decode cX9_init 1 = .ok (.invokespecial 1, 3) := dgq (p := 1) daX9_init_0 dbX9_init_0.2.1
theorem dX9_init_4 : decode cX9_init 4 = .ok (.aload_n 0, 1) := dgq (p := 4) daX9_init_0 dbX9_init_0.2.2.1
theorem dX9_init_5 : decode cX9_init 5 = .ok (.bipush 20, 2) := dgq (p := 5) daX9_init_0 dbX9_init_0.2.2.2.1
theorem dX9_init_7 : decode cX9_init 7 = .ok (.anewarray 9, 3) := dgq (p := 7) daX9_init_0 dbX9_init_0.2.2.2.2.1
theorem dX9_init_10 : decode cX9_init 10 = .ok (.putfield 11, 3) := dgq (p := 10) daX9_init_0 dbX9_init_0.2.2.2.2.2.1
theorem dX9_init_13 : decode cX9_init 13 = .ok (.aload_n 0, 1) := dgq (p := 13) daX9_init_0 dbX9_init_0.2.2.2.2.2.2.1
theorem dX9_init_14 : decode cX9_init 14 = .ok (.bipush 8, 2) := dgq (p := 14) daX9_init_0 dbX9_init_0.2.2.2.2.2.2.2.1
theorem dX9_init_16 : decode cX9_init 16 = .ok (.anewarray 15, 3) := dgq (p := 16) daX9_init_0 dbX9_init_0.2.2.2.2.2.2.2.2.1
theorem dX9_init_19 : decode cX9_init 19 = .ok (.putfield 17, 3) := dgq (p := 19) daX9_init_0 dbX9_init_0.2.2.2.2.2.2.2.2.2
def dsX9_init_22 : ByteArray := ⟨#[42, 16, 6, 189, 0, 21, 181, 0, 23, 42, 187, 0, 27, 89, 183, 0, 29, 181, 0, 30, 42]⟩
theorem daX9_init_22 : agB cX9_init dsX9_init_22 22 := agB_of (n := 21) (by decide +kernel)
theorem dbX9_init_22 : (decode dsX9_init_22 0 = .ok (.aload_n 0, 1) ∧ okop dsX9_init_22 0 = true) ∧ (decode dsX9_init_22 1 = .ok (.bipush 6, 2) ∧ okop dsX9_init_22 1 = true) ∧ (decode dsX9_init_22 3 = .ok (.anewarray 21, 3) ∧ okop dsX9_init_22 3 = true) ∧ (decode dsX9_init_22 6 = .ok (.putfield 23, 3) ∧ okop dsX9_init_22 6 = true) ∧ (decode dsX9_init_22 9 = .ok (.aload_n 0, 1) ∧ okop dsX9_init_22 9 = true) ∧ (decode dsX9_init_22 10 = .ok (.new 27, 3) ∧ okop dsX9_init_22 10 = true) ∧ (decode dsX9_init_22 13 = .ok (.dup, 1) ∧ okop dsX9_init_22 13 = true) ∧ (decode dsX9_init_22 14 = .ok (.invokespecial 29, 3) ∧ okop dsX9_init_22 14 = true) ∧ (decode dsX9_init_22 17 = .ok (.putfield 30, 3) ∧ okop dsX9_init_22 17 = true) ∧ (decode dsX9_init_22 20 = .ok (.aload_n 0, 1) ∧ okop dsX9_init_22 20 = true) := by decide +kernel
theorem dX9_init_22 : decode cX9_init 22 = .ok (.aload_n 0, 1) := dgq (p := 0) daX9_init_22 dbX9_init_22.1
theorem dX9_init_23 : decode cX9_init 23 = .ok (.bipush 6, 2) := dgq (p := 1) daX9_init_22 dbX9_init_22.2.1
theorem dX9_init_25 : decode cX9_init 25 = .ok (.anewarray 21, 3) := dgq (p := 3) daX9_init_22 dbX9_init_22.2.2.1
theorem dX9_init_28 : decode cX9_init 28 = .ok (.putfield 23, 3) := dgq (p := 6) daX9_init_22 dbX9_init_22.2.2.2.1
theorem dX9_init_31 : decode cX9_init 31 = .ok (.aload_n 0, 1) := dgq (p := 9) daX9_init_22 dbX9_init_22.2.2.2.2.1
theorem dX9_init_32 : decode cX9_init 32 = .ok (.new 27, 3) := dgq (p := 10) daX9_init_22 dbX9_init_22.2.2.2.2.2.1
theorem dX9_init_35 : decode cX9_init 35 = .ok (.dup, 1) := dgq (p := 13) daX9_init_22 dbX9_init_22.2.2.2.2.2.2.1
theorem dX9_init_36 : decode cX9_init 36 = .ok (.invokespecial 29, 3) := dgq (p := 14) daX9_init_22 dbX9_init_22.2.2.2.2.2.2.2.1
theorem dX9_init_39 : decode cX9_init 39 = .ok (.putfield 30, 3) := dgq (p := 17) daX9_init_22 dbX9_init_22.2.2.2.2.2.2.2.2.1
theorem dX9_init_42 : decode cX9_init 42 = .ok (.aload_n 0, 1) := dgq (p := 20) daX9_init_22 dbX9_init_22.2.2.2.2.2.2.2.2.2
def dsX9_init_43 : ByteArray := ⟨#[187, 0, 34, 89, 183, 0, 36, 181, 0, 37, 42, 187, 0, 41, 89, 183, 0, 43, 181, 0, 44, 42]⟩
theorem daX9_init_43 : agB cX9_init dsX9_init_43 43 := agB_of (n := 22) (by decide +kernel)
theorem dbX9_init_43 : (decode dsX9_init_43 0 = .ok (.new 34, 3) ∧ okop dsX9_init_43 0 = true) ∧ (decode dsX9_init_43 3 = .ok (.dup, 1) ∧ okop dsX9_init_43 3 = true) ∧ (decode dsX9_init_43 4 = .ok (.invokespecial 36, 3) ∧ okop dsX9_init_43 4 = true) ∧ (decode dsX9_init_43 7 = .ok (.putfield 37, 3) ∧ okop dsX9_init_43 7 = true) ∧ (decode dsX9_init_43 10 = .ok (.aload_n 0, 1) ∧ okop dsX9_init_43 10 = true) ∧ (decode dsX9_init_43 11 = .ok (.new 41, 3) ∧ okop dsX9_init_43 11 = true) ∧ (decode dsX9_init_43 14 = .ok (.dup, 1) ∧ okop dsX9_init_43 14 = true) ∧ (decode dsX9_init_43 15 = .ok (.invokespecial 43, 3) ∧ okop dsX9_init_43 15 = true) ∧ (decode dsX9_init_43 18 = .ok (.putfield 44, 3) ∧ okop dsX9_init_43 18 = true) ∧ (decode dsX9_init_43 21 = .ok (.aload_n 0, 1) ∧ okop dsX9_init_43 21 = true) := by decide +kernel
theorem dX9_init_43 : decode cX9_init 43 = .ok (.new 34, 3) := dgq (p := 0) daX9_init_43 dbX9_init_43.1
theorem dX9_init_46 : decode cX9_init 46 = .ok (.dup, 1) := dgq (p := 3) daX9_init_43 dbX9_init_43.2.1
theorem dX9_init_47 : decode cX9_init 47 = .ok (.invokespecial 36, 3) := dgq (p := 4) daX9_init_43 dbX9_init_43.2.2.1
theorem dX9_init_50 : decode cX9_init 50 = .ok (.putfield 37, 3) := dgq (p := 7) daX9_init_43 dbX9_init_43.2.2.2.1
theorem dX9_init_53 : decode cX9_init 53 = .ok (.aload_n 0, 1) := dgq (p := 10) daX9_init_43 dbX9_init_43.2.2.2.2.1
theorem dX9_init_54 : decode cX9_init 54 = .ok (.new 41, 3) := dgq (p := 11) daX9_init_43 dbX9_init_43.2.2.2.2.2.1
theorem dX9_init_57 : decode cX9_init 57 = .ok (.dup, 1) := dgq (p := 14) daX9_init_43 dbX9_init_43.2.2.2.2.2.2.1
theorem dX9_init_58 : decode cX9_init 58 = .ok (.invokespecial 43, 3) := dgq (p := 15) daX9_init_43 dbX9_init_43.2.2.2.2.2.2.2.1
theorem dX9_init_61 : decode cX9_init 61 = .ok (.putfield 44, 3) := dgq (p := 18) daX9_init_43 dbX9_init_43.2.2.2.2.2.2.2.2.1
theorem dX9_init_64 : decode cX9_init 64 = .ok (.aload_n 0, 1) := dgq (p := 21) daX9_init_43 dbX9_init_43.2.2.2.2.2.2.2.2.2
def dsX9_init_65 : ByteArray := ⟨#[16, 24, 181, 0, 48, 42, 16, 60, 181, 0, 52, 177]⟩
theorem daX9_init_65 : agB cX9_init dsX9_init_65 65 := agB_of (n := 12) (by decide +kernel)
theorem dbX9_init_65 : (decode dsX9_init_65 0 = .ok (.bipush 24, 2) ∧ okop dsX9_init_65 0 = true) ∧ (decode dsX9_init_65 2 = .ok (.putfield 48, 3) ∧ okop dsX9_init_65 2 = true) ∧ (decode dsX9_init_65 5 = .ok (.aload_n 0, 1) ∧ okop dsX9_init_65 5 = true) ∧ (decode dsX9_init_65 6 = .ok (.bipush 60, 2) ∧ okop dsX9_init_65 6 = true) ∧ (decode dsX9_init_65 8 = .ok (.putfield 52, 3) ∧ okop dsX9_init_65 8 = true) ∧ (decode dsX9_init_65 11 = .ok (.return_, 1) ∧ okop dsX9_init_65 11 = true) := by decide +kernel
theorem dX9_init_65 : decode cX9_init 65 = .ok (.bipush 24, 2) := dgq (p := 0) daX9_init_65 dbX9_init_65.1
theorem dX9_init_67 : decode cX9_init 67 = .ok (.putfield 48, 3) := dgq (p := 2) daX9_init_65 dbX9_init_65.2.1
theorem dX9_init_70 : decode cX9_init 70 = .ok (.aload_n 0, 1) := dgq (p := 5) daX9_init_65 dbX9_init_65.2.2.1
theorem dX9_init_71 : decode cX9_init 71 = .ok (.bipush 60, 2) := dgq (p := 6) daX9_init_65 dbX9_init_65.2.2.2.1
theorem dX9_init_73 : decode cX9_init 73 = .ok (.putfield 52, 3) := dgq (p := 8) daX9_init_65 dbX9_init_65.2.2.2.2.1
theorem dX9_init_76 : decode cX9_init 76 = .ok (.return_, 1) := dgq (p := 11) daX9_init_65 dbX9_init_65.2.2.2.2.2
set_option maxRecDepth 20000 in
theorem ggX9_gear_X9_needTeeth : GoodIn wsX9_gear wsX9_needTeeth := goodIn_ca (goodIn_q _ [12, 13, 14, 11, 15, 16, 17] rfl (by decide +kernel)) (goodIn_sub (fun _ h => List.mem_cons_of_mem _ (List.mem_append_right _ h)) (by decide +kernel))
set_option maxRecDepth 20000 in
theorem gX9_gear_X9_needTeeth : GoodIn wsX9_gear (va_wsS RX9 55 yX9_needTeeth wsX9_needTeeth) := goodIn_app (goodIn_q _ [9, 10, 11] rfl (by decide +kernel)) ggX9_gear_X9_needTeeth
set_option maxRecDepth 20000 in
theorem ggX9_gear_X9_needRange : GoodIn wsX9_gear wsX9_needRange := goodIn_ca (goodIn_q _ [15, 16, 17] rfl (by decide +kernel)) (goodIn_sub (fun _ h => List.mem_cons_of_mem _ (List.mem_append_right _ h)) (by decide +kernel))
set_option maxRecDepth 20000 in
theorem gX9_gear_X9_needRange : GoodIn wsX9_gear (va_wsS RX9 59 yX9_needRange wsX9_needRange) := goodIn_app (goodIn_q _ [13, 14, 11] rfl (by decide +kernel)) ggX9_gear_X9_needRange
set_option maxRecDepth 20000 in
theorem ggX9_gear_X2_init : GoodIn wsX9_gear wsX2_init := goodIn_ca (goodIn_ca (goodIn_ca (goodIn_q _ [20, 21, 22, 23, 24, 25, 26, 27, 28, 29, 30, 31, 32, 33, 34, 35, 36, 37, 38, 39, 40, 41, 42, 43, 44, 45, 46, 47, 48, 49, 50, 51, 52, 53, 54, 55, 56, 57, 58, 59, 60, 61, 62, 63, 64, 65] rfl (by decide +kernel)) (goodIn_sub (fun _ h => (List.mem_cons_of_mem _ (List.mem_append_left _ (List.mem_append_left _ (List.mem_append_left _ (List.mem_append_left _ (List.mem_append_right _ h))))))) tg_wsX20)) (goodIn_sub (fun _ h => (List.mem_cons_of_mem _ (List.mem_append_left _ (List.mem_append_left _ (List.mem_append_left _ (List.mem_append_right _ h)))))) tg_wsX10)) (goodIn_sub (fun _ h => (List.mem_cons_of_mem _ (List.mem_append_left _ (List.mem_append_left _ (List.mem_append_right _ h))))) tg_wsJ40)
set_option maxRecDepth 20000 in
theorem gX9_gear_X2_init : GoodIn wsX9_gear (wsX2_init) := ggX9_gear_X2_init
def dsX9_gear_0 : ByteArray := ⟨#[27, 184, 0, 55, 28, 17, 1, 244, 17, 39, 16, 184, 0, 59, 29, 17, 254, 12, 17, 1, 244, 184, 0, 59]⟩
theorem daX9_gear_0 : agB cX9_gear dsX9_gear_0 0 := agB_of (n := 24) (by decide +kernel)
theorem dbX9_gear_0 : (decode dsX9_gear_0 0 = .ok (.iload_n 1, 1) ∧ okop dsX9_gear_0 0 = true) ∧ (decode dsX9_gear_0 1 = .ok (.invokestatic 55, 3) ∧ okop dsX9_gear_0 1 = true) ∧ (decode dsX9_gear_0 4 = .ok (.iload_n 2, 1) ∧ okop dsX9_gear_0 4 = true) ∧ (decode dsX9_gear_0 5 = .ok (.sipush 500, 3) ∧ okop dsX9_gear_0 5 = true) ∧ (decode dsX9_gear_0 8 = .ok (.sipush 10000, 3) ∧ okop dsX9_gear_0 8 = true) ∧ (decode dsX9_gear_0 11 = .ok (.invokestatic 59, 3) ∧ okop dsX9_gear_0 11 = true) ∧ (decode dsX9_gear_0 14 = .ok (.iload_n 3, 1) ∧ okop dsX9_gear_0 14 = true) ∧ (decode dsX9_gear_0 15 = .ok (.sipush (-500), 3) ∧ okop dsX9_gear_0 15 = true) ∧ (decode dsX9_gear_0 18 = .ok (.sipush 500, 3) ∧ okop dsX9_gear_0 18 = true) ∧ (decode dsX9_gear_0 21 = .ok (.invokestatic 59, 3) ∧ okop dsX9_gear_0 21 = true) := by decide +kernel
theorem dX9_gear_0 : decode cX9_gear 0 = .ok (.iload_n 1, 1) := dgq (p := 0) daX9_gear_0 dbX9_gear_0.1
theorem dX9_gear_1 : decode cX9_gear 1 = .ok (.invokestatic 55, 3) := dgq (p := 1) daX9_gear_0 dbX9_gear_0.2.1
theorem dX9_gear_4 : decode cX9_gear 4 = .ok (.iload_n 2, 1) := dgq (p := 4) daX9_gear_0 dbX9_gear_0.2.2.1
theorem dX9_gear_5 : decode cX9_gear 5 = .ok (.sipush 500, 3) := dgq (p := 5) daX9_gear_0 dbX9_gear_0.2.2.2.1
theorem dX9_gear_8 : decode cX9_gear 8 = .ok (.sipush 10000, 3) := dgq (p := 8) daX9_gear_0 dbX9_gear_0.2.2.2.2.1
theorem dX9_gear_11 : decode cX9_gear 11 = .ok (.invokestatic 59, 3) := dgq (p := 11) daX9_gear_0 dbX9_gear_0.2.2.2.2.2.1
theorem dX9_gear_14 : decode cX9_gear 14 = .ok (.iload_n 3, 1) := dgq (p := 14) daX9_gear_0 dbX9_gear_0.2.2.2.2.2.2.1
theorem dX9_gear_15 : decode cX9_gear 15 = .ok (.sipush (-500), 3) := dgq (p := 15) daX9_gear_0 dbX9_gear_0.2.2.2.2.2.2.2.1
theorem dX9_gear_18 : decode cX9_gear 18 = .ok (.sipush 500, 3) := dgq (p := 18) daX9_gear_0 dbX9_gear_0.2.2.2.2.2.2.2.2.1
theorem dX9_gear_21 : decode cX9_gear 21 = .ok (.invokestatic 59, 3) := dgq (p := 21) daX9_gear_0 dbX9_gear_0.2.2.2.2.2.2.2.2.2
def dsX9_gear_24 : ByteArray := ⟨#[21, 4, 17, 3, 232, 18, 63, 184, 0, 59, 42, 180, 0, 64, 42, 180, 0, 11, 190, 161, 0, 13]⟩
theorem daX9_gear_24 : agB cX9_gear dsX9_gear_24 24 := agB_of (n := 22) (by decide +kernel)
theorem dbX9_gear_24 : (decode dsX9_gear_24 0 = .ok (.iload 4, 2) ∧ okop dsX9_gear_24 0 = true) ∧ (decode dsX9_gear_24 2 = .ok (.sipush 1000, 3) ∧ okop dsX9_gear_24 2 = true) ∧ (decode dsX9_gear_24 5 = .ok (.ldc 63, 2) ∧ okop dsX9_gear_24 5 = true) ∧ (decode dsX9_gear_24 7 = .ok (.invokestatic 59, 3) ∧ okop dsX9_gear_24 7 = true) ∧ (decode dsX9_gear_24 10 = .ok (.aload_n 0, 1) ∧ okop dsX9_gear_24 10 = true) ∧ (decode dsX9_gear_24 11 = .ok (.getfield 64, 3) ∧ okop dsX9_gear_24 11 = true) ∧ (decode dsX9_gear_24 14 = .ok (.aload_n 0, 1) ∧ okop dsX9_gear_24 14 = true) ∧ (decode dsX9_gear_24 15 = .ok (.getfield 11, 3) ∧ okop dsX9_gear_24 15 = true) ∧ (decode dsX9_gear_24 18 = .ok (.arraylength, 1) ∧ okop dsX9_gear_24 18 = true) ∧ (decode dsX9_gear_24 19 = .ok (.if_icmp .lt 13, 3) ∧ okop dsX9_gear_24 19 = true) := by decide +kernel
theorem dX9_gear_24 : decode cX9_gear 24 = .ok (.iload 4, 2) := dgq (p := 0) daX9_gear_24 dbX9_gear_24.1
theorem dX9_gear_26 : decode cX9_gear 26 = .ok (.sipush 1000, 3) := dgq (p := 2) daX9_gear_24 dbX9_gear_24.2.1
theorem dX9_gear_29 : decode cX9_gear 29 = .ok (.ldc 63, 2) := dgq (p := 5) daX9_gear_24 dbX9_gear_24.2.2.1
theorem dX9_gear_31 : decode cX9_gear 31 = .ok (.invokestatic 59, 3) := dgq (p := 7) daX9_gear_24 dbX9_gear_24.2.2.2.1
theorem dX9_gear_34 : decode cX9_gear 34 = .ok (.aload_n 0, 1) := dgq (p := 10) daX9_gear_24 dbX9_gear_24.2.2.2.2.1
theorem dX9_gear_35 : decode cX9_gear 35 = .ok (.getfield 64, 3) := dgq (p := 11) daX9_gear_24 dbX9_gear_24.2.2.2.2.2.1
theorem dX9_gear_38 : decode cX9_gear 38 = .ok (.aload_n 0, 1) := dgq (p := 14) daX9_gear_24 dbX9_gear_24.2.2.2.2.2.2.1
theorem dX9_gear_39 : decode cX9_gear 39 = .ok (.getfield 11, 3) := dgq (p := 15) daX9_gear_24 dbX9_gear_24.2.2.2.2.2.2.2.1
theorem dX9_gear_42 : decode cX9_gear 42 = .ok (.arraylength, 1) := dgq (p := 18) daX9_gear_24 dbX9_gear_24.2.2.2.2.2.2.2.2.1
theorem dX9_gear_43 : decode cX9_gear 43 = .ok (.if_icmp .lt 13, 3) := dgq (p := 19) daX9_gear_24 dbX9_gear_24.2.2.2.2.2.2.2.2.2
def dsX9_gear_46 : ByteArray := ⟨#[187, 0, 67, 89, 18, 69, 183, 0, 71, 191, 42, 180, 0, 64, 54, 5, 42, 180, 0, 11]⟩
theorem daX9_gear_46 : agB cX9_gear dsX9_gear_46 46 := agB_of (n := 20) (by decide +kernel)
theorem dbX9_gear_46 : (decode dsX9_gear_46 0 = .ok (.new 67, 3) ∧ okop dsX9_gear_46 0 = true) ∧ (decode dsX9_gear_46 3 = .ok (.dup, 1) ∧ okop dsX9_gear_46 3 = true) ∧ (decode dsX9_gear_46 4 = .ok (.ldc 69, 2) ∧ okop dsX9_gear_46 4 = true) ∧ (decode dsX9_gear_46 6 = .ok (.invokespecial 71, 3) ∧ okop dsX9_gear_46 6 = true) ∧ (decode dsX9_gear_46 9 = .ok (.athrow, 1) ∧ okop dsX9_gear_46 9 = true) ∧ (decode dsX9_gear_46 10 = .ok (.aload_n 0, 1) ∧ okop dsX9_gear_46 10 = true) ∧ (decode dsX9_gear_46 11 = .ok (.getfield 64, 3) ∧ okop dsX9_gear_46 11 = true) ∧ (decode dsX9_gear_46 14 = .ok (.istore 5, 2) ∧ okop dsX9_gear_46 14 = true) ∧ (decode dsX9_gear_46 16 = .ok (.aload_n 0, 1) ∧ okop dsX9_gear_46 16 = true) ∧ (decode dsX9_gear_46 17 = .ok (.getfield 11, 3) ∧ okop dsX9_gear_46 17 = true) := by decide +kernel
theorem dX9_gear_46 : decode cX9_gear 46 = .ok (.new 67, 3) := dgq (p := 0) daX9_gear_46 dbX9_gear_46.1
theorem dX9_gear_49 : decode cX9_gear 49 = .ok (.dup, 1) := dgq (p := 3) daX9_gear_46 dbX9_gear_46.2.1
theorem dX9_gear_50 : decode cX9_gear 50 = .ok (.ldc 69, 2) := dgq (p := 4) daX9_gear_46 dbX9_gear_46.2.2.1
theorem dX9_gear_52 : decode cX9_gear 52 = .ok (.invokespecial 71, 3) := dgq (p := 6) daX9_gear_46 dbX9_gear_46.2.2.2.1
theorem dX9_gear_55 : decode cX9_gear 55 = .ok (.athrow, 1) := dgq (p := 9) daX9_gear_46 dbX9_gear_46.2.2.2.2.1
theorem dX9_gear_56 : decode cX9_gear 56 = .ok (.aload_n 0, 1) := dgq (p := 10) daX9_gear_46 dbX9_gear_46.2.2.2.2.2.1
theorem dX9_gear_57 : decode cX9_gear 57 = .ok (.getfield 64, 3) := dgq (p := 11) daX9_gear_46 dbX9_gear_46.2.2.2.2.2.2.1
theorem dX9_gear_60 : decode cX9_gear 60 = .ok (.istore 5, 2) := dgq (p := 14) daX9_gear_46 dbX9_gear_46.2.2.2.2.2.2.2.1
theorem dX9_gear_62 : decode cX9_gear 62 = .ok (.aload_n 0, 1) := dgq (p := 16) daX9_gear_46 dbX9_gear_46.2.2.2.2.2.2.2.2.1
theorem dX9_gear_63 : decode cX9_gear 63 = .ok (.getfield 11, 3) := dgq (p := 17) daX9_gear_46 dbX9_gear_46.2.2.2.2.2.2.2.2.2
def dsX9_gear_66 : ByteArray := ⟨#[21, 5, 187, 0, 9, 89, 21, 5, 27, 28, 29, 21, 4, 183, 0, 74, 83]⟩
theorem daX9_gear_66 : agB cX9_gear dsX9_gear_66 66 := agB_of (n := 17) (by decide +kernel)
theorem dbX9_gear_66 : (decode dsX9_gear_66 0 = .ok (.iload 5, 2) ∧ okop dsX9_gear_66 0 = true) ∧ (decode dsX9_gear_66 2 = .ok (.new 9, 3) ∧ okop dsX9_gear_66 2 = true) ∧ (decode dsX9_gear_66 5 = .ok (.dup, 1) ∧ okop dsX9_gear_66 5 = true) ∧ (decode dsX9_gear_66 6 = .ok (.iload 5, 2) ∧ okop dsX9_gear_66 6 = true) ∧ (decode dsX9_gear_66 8 = .ok (.iload_n 1, 1) ∧ okop dsX9_gear_66 8 = true) ∧ (decode dsX9_gear_66 9 = .ok (.iload_n 2, 1) ∧ okop dsX9_gear_66 9 = true) ∧ (decode dsX9_gear_66 10 = .ok (.iload_n 3, 1) ∧ okop dsX9_gear_66 10 = true) ∧ (decode dsX9_gear_66 11 = .ok (.iload 4, 2) ∧ okop dsX9_gear_66 11 = true) ∧ (decode dsX9_gear_66 13 = .ok (.invokespecial 74, 3) ∧ okop dsX9_gear_66 13 = true) ∧ (decode dsX9_gear_66 16 = .ok (.aastore, 1) ∧ okop dsX9_gear_66 16 = true) := by decide +kernel
theorem dX9_gear_66 : decode cX9_gear 66 = .ok (.iload 5, 2) := dgq (p := 0) daX9_gear_66 dbX9_gear_66.1
theorem dX9_gear_68 : decode cX9_gear 68 = .ok (.new 9, 3) := dgq (p := 2) daX9_gear_66 dbX9_gear_66.2.1
theorem dX9_gear_71 : decode cX9_gear 71 = .ok (.dup, 1) := dgq (p := 5) daX9_gear_66 dbX9_gear_66.2.2.1
theorem dX9_gear_72 : decode cX9_gear 72 = .ok (.iload 5, 2) := dgq (p := 6) daX9_gear_66 dbX9_gear_66.2.2.2.1
theorem dX9_gear_74 : decode cX9_gear 74 = .ok (.iload_n 1, 1) := dgq (p := 8) daX9_gear_66 dbX9_gear_66.2.2.2.2.1
theorem dX9_gear_75 : decode cX9_gear 75 = .ok (.iload_n 2, 1) := dgq (p := 9) daX9_gear_66 dbX9_gear_66.2.2.2.2.2.1
theorem dX9_gear_76 : decode cX9_gear 76 = .ok (.iload_n 3, 1) := dgq (p := 10) daX9_gear_66 dbX9_gear_66.2.2.2.2.2.2.1
theorem dX9_gear_77 : decode cX9_gear 77 = .ok (.iload 4, 2) := dgq (p := 11) daX9_gear_66 dbX9_gear_66.2.2.2.2.2.2.2.1
theorem dX9_gear_79 : decode cX9_gear 79 = .ok (.invokespecial 74, 3) := dgq (p := 13) daX9_gear_66 dbX9_gear_66.2.2.2.2.2.2.2.2.1
theorem dX9_gear_82 : decode cX9_gear 82 = .ok (.aastore, 1) := dgq (p := 16) daX9_gear_66 dbX9_gear_66.2.2.2.2.2.2.2.2.2
def dsX9_gear_83 : ByteArray := ⟨#[42, 89, 180, 0, 64, 4, 96, 181, 0, 64, 21, 5, 172]⟩
theorem daX9_gear_83 : agB cX9_gear dsX9_gear_83 83 := agB_of (n := 13) (by decide +kernel)
theorem dbX9_gear_83 : (decode dsX9_gear_83 0 = .ok (.aload_n 0, 1) ∧ okop dsX9_gear_83 0 = true) ∧ (decode dsX9_gear_83 1 = .ok (.dup, 1) ∧ okop dsX9_gear_83 1 = true) ∧ (decode dsX9_gear_83 2 = .ok (.getfield 64, 3) ∧ okop dsX9_gear_83 2 = true) ∧ (decode dsX9_gear_83 5 = .ok (.iconst 1, 1) ∧ okop dsX9_gear_83 5 = true) ∧ (decode dsX9_gear_83 6 = .ok (.iadd, 1) ∧ okop dsX9_gear_83 6 = true) ∧ (decode dsX9_gear_83 7 = .ok (.putfield 64, 3) ∧ okop dsX9_gear_83 7 = true) ∧ (decode dsX9_gear_83 10 = .ok (.iload 5, 2) ∧ okop dsX9_gear_83 10 = true) ∧ (decode dsX9_gear_83 12 = .ok (.ireturn, 1) ∧ okop dsX9_gear_83 12 = true) := by decide +kernel
theorem dX9_gear_83 : decode cX9_gear 83 = .ok (.aload_n 0, 1) := dgq (p := 0) daX9_gear_83 dbX9_gear_83.1
theorem dX9_gear_84 : decode cX9_gear 84 = .ok (.dup, 1) := dgq (p := 1) daX9_gear_83 dbX9_gear_83.2.1
theorem dX9_gear_85 : decode cX9_gear 85 = .ok (.getfield 64, 3) := dgq (p := 2) daX9_gear_83 dbX9_gear_83.2.2.1
theorem dX9_gear_88 : decode cX9_gear 88 = .ok (.iconst 1, 1) := dgq (p := 5) daX9_gear_83 dbX9_gear_83.2.2.2.1
theorem dX9_gear_89 : decode cX9_gear 89 = .ok (.iadd, 1) := dgq (p := 6) daX9_gear_83 dbX9_gear_83.2.2.2.2.1
theorem dX9_gear_90 : decode cX9_gear 90 = .ok (.putfield 64, 3) := dgq (p := 7) daX9_gear_83 dbX9_gear_83.2.2.2.2.2.1
theorem dX9_gear_93 : decode cX9_gear 93 = .ok (.iload 5, 2) := dgq (p := 10) daX9_gear_83 dbX9_gear_83.2.2.2.2.2.2.1
theorem dX9_gear_95 : decode cX9_gear 95 = .ok (.ireturn, 1) := dgq (p := 12) daX9_gear_83 dbX9_gear_83.2.2.2.2.2.2.2
set_option maxRecDepth 20000 in
theorem ggX9_setShift_X9_gearAt : GoodIn wsX9_setShift wsX9_gearAt := goodIn_ca (goodIn_ca (goodIn_q _ [7, 8, 9, 10, 11] rfl (by decide +kernel)) (goodIn_sub (fun _ h => (List.mem_cons_of_mem _ (List.mem_append_left _ (List.mem_append_left _ (List.mem_append_left _ (List.mem_append_right _ h)))))) tg_wsX90)) (goodIn_sub (fun _ h => List.mem_cons_of_mem _ (List.mem_append_left _ (List.mem_append_left _ (List.mem_append_right _ h)))) (by decide +kernel))
set_option maxRecDepth 20000 in
theorem gX9_setShift_X9_gearAt : GoodIn wsX9_setShift (wsV RX9 77 RX9 yX9_gearAt wsX9_gearAt) := goodIn_app (goodIn_q _ [3, 4, 5, 6] rfl (by decide +kernel)) ggX9_setShift_X9_gearAt
set_option maxRecDepth 20000 in
theorem ggX9_setShift_X9_needRange : GoodIn wsX9_setShift wsX9_needRange := goodIn_ca (goodIn_q _ [14, 15, 16] rfl (by decide +kernel)) (goodIn_sub (fun _ h => List.mem_cons_of_mem _ (List.mem_append_left _ (List.mem_append_right _ h))) (by decide +kernel))
set_option maxRecDepth 20000 in
theorem gX9_setShift_X9_needRange : GoodIn wsX9_setShift (va_wsS RX9 59 yX9_needRange wsX9_needRange) := goodIn_app (goodIn_q _ [12, 13, 6] rfl (by decide +kernel)) ggX9_setShift_X9_needRange
set_option maxRecDepth 20000 in
theorem ggX9_setShift_X9_allowOnly : GoodIn wsX9_setShift wsX9_allowOnly := goodIn_ca (goodIn_q _ [19, 20, 21] rfl (by decide +kernel)) (goodIn_sub (fun _ h => List.mem_cons_of_mem _ (List.mem_append_right _ h)) (by decide +kernel))
set_option maxRecDepth 20000 in
theorem gX9_setShift_X9_allowOnly : GoodIn wsX9_setShift (va_wsS RX9 85 yX9_allowOnly wsX9_allowOnly) := goodIn_app (goodIn_q _ [17, 18, 6] rfl (by decide +kernel)) ggX9_setShift_X9_allowOnly
def dsX9_setShift_0 : ByteArray := ⟨#[42, 27, 182, 0, 77, 78, 28, 16, 156, 16, 100, 184, 0, 59, 45, 180, 0, 81]⟩
theorem daX9_setShift_0 : agB cX9_setShift dsX9_setShift_0 0 := agB_of (n := 18) (by decide +kernel)
theorem dbX9_setShift_0 : (decode dsX9_setShift_0 0 = .ok (.aload_n 0, 1) ∧ okop dsX9_setShift_0 0 = true) ∧ (decode dsX9_setShift_0 1 = .ok (.iload_n 1, 1) ∧ okop dsX9_setShift_0 1 = true) ∧ (decode dsX9_setShift_0 2 = .ok (.invokevirtual 77, 3) ∧ okop dsX9_setShift_0 2 = true) ∧ (decode dsX9_setShift_0 5 = .ok (.astore_n 3, 1) ∧ okop dsX9_setShift_0 5 = true) ∧ (decode dsX9_setShift_0 6 = .ok (.iload_n 2, 1) ∧ okop dsX9_setShift_0 6 = true) ∧ (decode dsX9_setShift_0 7 = .ok (.bipush (-100), 2) ∧ okop dsX9_setShift_0 7 = true) ∧ (decode dsX9_setShift_0 9 = .ok (.bipush 100, 2) ∧ okop dsX9_setShift_0 9 = true) ∧ (decode dsX9_setShift_0 11 = .ok (.invokestatic 59, 3) ∧ okop dsX9_setShift_0 11 = true) ∧ (decode dsX9_setShift_0 14 = .ok (.aload_n 3, 1) ∧ okop dsX9_setShift_0 14 = true) ∧ (decode dsX9_setShift_0 15 = .ok (.getfield 81, 3) ∧ okop dsX9_setShift_0 15 = true) := by decide +kernel
theorem dX9_setShift_0 : decode cX9_setShift 0 = .ok (.aload_n 0, 1) := dgq (p := 0) daX9_setShift_0 dbX9_setShift_0.1
theorem dX9_setShift_1 : decode cX9_setShift 1 = .ok (.iload_n 1, 1) := dgq (p := 1) daX9_setShift_0 dbX9_setShift_0.2.1
theorem dX9_setShift_2 : decode cX9_setShift 2 = .ok (.invokevirtual 77, 3) := dgq (p := 2) daX9_setShift_0 dbX9_setShift_0.2.2.1
theorem dX9_setShift_5 : decode cX9_setShift 5 = .ok (.astore_n 3, 1) := dgq (p := 5) daX9_setShift_0 dbX9_setShift_0.2.2.2.1
theorem dX9_setShift_6 : decode cX9_setShift 6 = .ok (.iload_n 2, 1) := dgq (p := 6) daX9_setShift_0 dbX9_setShift_0.2.2.2.2.1
theorem dX9_setShift_7 : decode cX9_setShift 7 = .ok (.bipush (-100), 2) := dgq (p := 7) daX9_setShift_0 dbX9_setShift_0.2.2.2.2.2.1
theorem dX9_setShift_9 : decode cX9_setShift 9 = .ok (.bipush 100, 2) := dgq (p := 9) daX9_setShift_0 dbX9_setShift_0.2.2.2.2.2.2.1
theorem dX9_setShift_11 : decode cX9_setShift 11 = .ok (.invokestatic 59, 3) := dgq (p := 11) daX9_setShift_0 dbX9_setShift_0.2.2.2.2.2.2.2.1
theorem dX9_setShift_14 : decode cX9_setShift 14 = .ok (.aload_n 3, 1) := dgq (p := 14) daX9_setShift_0 dbX9_setShift_0.2.2.2.2.2.2.2.2.1
theorem dX9_setShift_15 : decode cX9_setShift 15 = .ok (.getfield 81, 3) := dgq (p := 15) daX9_setShift_0 dbX9_setShift_0.2.2.2.2.2.2.2.2.2
def dsX9_setShift_18 : ByteArray := ⟨#[154, 0, 7, 4, 167, 0, 4, 3, 184, 0, 85, 45, 180, 0, 89, 54, 4, 45, 28]⟩
theorem daX9_setShift_18 : agB cX9_setShift dsX9_setShift_18 18 := agB_of (n := 19) (by decide +kernel)
theorem dbX9_setShift_18 : (decode dsX9_setShift_18 0 = .ok (.ifCond .ne 7, 3) ∧ okop dsX9_setShift_18 0 = true) ∧ (decode dsX9_setShift_18 3 = .ok (.iconst 1, 1) ∧ okop dsX9_setShift_18 3 = true) ∧ (decode dsX9_setShift_18 4 = .ok (.goto 4, 3) ∧ okop dsX9_setShift_18 4 = true) ∧ (decode dsX9_setShift_18 7 = .ok (.iconst 0, 1) ∧ okop dsX9_setShift_18 7 = true) ∧ (decode dsX9_setShift_18 8 = .ok (.invokestatic 85, 3) ∧ okop dsX9_setShift_18 8 = true) ∧ (decode dsX9_setShift_18 11 = .ok (.aload_n 3, 1) ∧ okop dsX9_setShift_18 11 = true) ∧ (decode dsX9_setShift_18 12 = .ok (.getfield 89, 3) ∧ okop dsX9_setShift_18 12 = true) ∧ (decode dsX9_setShift_18 15 = .ok (.istore 4, 2) ∧ okop dsX9_setShift_18 15 = true) ∧ (decode dsX9_setShift_18 17 = .ok (.aload_n 3, 1) ∧ okop dsX9_setShift_18 17 = true) ∧ (decode dsX9_setShift_18 18 = .ok (.iload_n 2, 1) ∧ okop dsX9_setShift_18 18 = true) := by decide +kernel
theorem dX9_setShift_18 : decode cX9_setShift 18 = .ok (.ifCond .ne 7, 3) := dgq (p := 0) daX9_setShift_18 dbX9_setShift_18.1
theorem dX9_setShift_21 : decode cX9_setShift 21 = .ok (.iconst 1, 1) := dgq (p := 3) daX9_setShift_18 dbX9_setShift_18.2.1
theorem dX9_setShift_22 : decode cX9_setShift 22 = .ok (.goto 4, 3) := dgq (p := 4) daX9_setShift_18 dbX9_setShift_18.2.2.1
theorem dX9_setShift_25 : decode cX9_setShift 25 = .ok (.iconst 0, 1) := dgq (p := 7) daX9_setShift_18 dbX9_setShift_18.2.2.2.1
theorem dX9_setShift_26 : decode cX9_setShift 26 = .ok (.invokestatic 85, 3) := dgq (p := 8) daX9_setShift_18 dbX9_setShift_18.2.2.2.2.1
theorem dX9_setShift_29 : decode cX9_setShift 29 = .ok (.aload_n 3, 1) := dgq (p := 11) daX9_setShift_18 dbX9_setShift_18.2.2.2.2.2.1
theorem dX9_setShift_30 : decode cX9_setShift 30 = .ok (.getfield 89, 3) := dgq (p := 12) daX9_setShift_18 dbX9_setShift_18.2.2.2.2.2.2.1
theorem dX9_setShift_33 : decode cX9_setShift 33 = .ok (.istore 4, 2) := dgq (p := 15) daX9_setShift_18 dbX9_setShift_18.2.2.2.2.2.2.2.1
theorem dX9_setShift_35 : decode cX9_setShift 35 = .ok (.aload_n 3, 1) := dgq (p := 17) daX9_setShift_18 dbX9_setShift_18.2.2.2.2.2.2.2.2.1
theorem dX9_setShift_36 : decode cX9_setShift 36 = .ok (.iload_n 2, 1) := dgq (p := 18) daX9_setShift_18 dbX9_setShift_18.2.2.2.2.2.2.2.2.2
def dsX9_setShift_37 : ByteArray := ⟨#[181, 0, 89, 21, 4, 172]⟩
theorem daX9_setShift_37 : agB cX9_setShift dsX9_setShift_37 37 := agB_of (n := 6) (by decide +kernel)
theorem dbX9_setShift_37 : (decode dsX9_setShift_37 0 = .ok (.putfield 89, 3) ∧ okop dsX9_setShift_37 0 = true) ∧ (decode dsX9_setShift_37 3 = .ok (.iload 4, 2) ∧ okop dsX9_setShift_37 3 = true) ∧ (decode dsX9_setShift_37 5 = .ok (.ireturn, 1) ∧ okop dsX9_setShift_37 5 = true) := by decide +kernel
theorem dX9_setShift_37 : decode cX9_setShift 37 = .ok (.putfield 89, 3) := dgq (p := 0) daX9_setShift_37 dbX9_setShift_37.1
theorem dX9_setShift_40 : decode cX9_setShift 40 = .ok (.iload 4, 2) := dgq (p := 3) daX9_setShift_37 dbX9_setShift_37.2.1
theorem dX9_setShift_42 : decode cX9_setShift 42 = .ok (.ireturn, 1) := dgq (p := 5) daX9_setShift_37 dbX9_setShift_37.2.2
set_option maxRecDepth 20000 in
theorem ggX9_diameter_X9_gearAt : GoodIn wsX9_diameter wsX9_gearAt := goodIn_ca (goodIn_ca (goodIn_q _ [5, 6, 7, 8, 9] rfl (by decide +kernel)) (goodIn_sub (fun _ h => (List.mem_cons_of_mem _ (List.mem_append_left _ (List.mem_append_left _ (List.mem_append_right _ h))))) tg_wsX90)) (goodIn_sub (fun _ h => List.mem_cons_of_mem _ (List.mem_append_right _ h)) (by decide +kernel))
set_option maxRecDepth 20000 in
theorem gX9_diameter_X9_gearAt : GoodIn wsX9_diameter (wsV RX9 77 RX9 yX9_gearAt wsX9_gearAt) := goodIn_app (goodIn_q _ [1, 2, 3, 4] rfl (by decide +kernel)) ggX9_diameter_X9_gearAt
set_option maxRecDepth 20000 in
theorem ggX9_diameter_X2_pitchDiameter : GoodIn wsX9_diameter wsX2_pitchDiameter := goodIn_ca (goodIn_q _ [14, 15, 16] rfl (by decide +kernel)) (goodIn_sub (fun _ h => (List.mem_cons_of_mem _ (List.mem_append_left _ (List.mem_append_right _ h)))) tg_wsX20)
set_option maxRecDepth 20000 in
theorem gX9_diameter_X2_pitchDiameter : GoodIn wsX9_diameter (wsV RX9 92 RX2 yX2_pitchDiameter wsX2_pitchDiameter) := goodIn_app (goodIn_q _ [10, 11, 12, 13] rfl (by decide +kernel)) ggX9_diameter_X2_pitchDiameter
def dsX9_diameter_0 : ByteArray := ⟨#[42, 27, 182, 0, 77, 182, 0, 92, 172]⟩
theorem daX9_diameter_0 : agB cX9_diameter dsX9_diameter_0 0 := agB_of (n := 9) (by decide +kernel)
theorem dbX9_diameter_0 : (decode dsX9_diameter_0 0 = .ok (.aload_n 0, 1) ∧ okop dsX9_diameter_0 0 = true) ∧ (decode dsX9_diameter_0 1 = .ok (.iload_n 1, 1) ∧ okop dsX9_diameter_0 1 = true) ∧ (decode dsX9_diameter_0 2 = .ok (.invokevirtual 77, 3) ∧ okop dsX9_diameter_0 2 = true) ∧ (decode dsX9_diameter_0 5 = .ok (.invokevirtual 92, 3) ∧ okop dsX9_diameter_0 5 = true) ∧ (decode dsX9_diameter_0 8 = .ok (.ireturn, 1) ∧ okop dsX9_diameter_0 8 = true) := by decide +kernel
theorem dX9_diameter_0 : decode cX9_diameter 0 = .ok (.aload_n 0, 1) := dgq (p := 0) daX9_diameter_0 dbX9_diameter_0.1
theorem dX9_diameter_1 : decode cX9_diameter 1 = .ok (.iload_n 1, 1) := dgq (p := 1) daX9_diameter_0 dbX9_diameter_0.2.1
theorem dX9_diameter_2 : decode cX9_diameter 2 = .ok (.invokevirtual 77, 3) := dgq (p := 2) daX9_diameter_0 dbX9_diameter_0.2.2.1
theorem dX9_diameter_5 : decode cX9_diameter 5 = .ok (.invokevirtual 92, 3) := dgq (p := 5) daX9_diameter_0 dbX9_diameter_0.2.2.2.1
theorem dX9_diameter_8 : decode cX9_diameter 8 = .ok (.ireturn, 1) := dgq (p := 8) daX9_diameter_0 dbX9_diameter_0.2.2.2.2
set_option maxRecDepth 20000 in
theorem ggX9_tip_X9_gearAt : GoodIn wsX9_tip wsX9_gearAt := goodIn_ca (goodIn_ca (goodIn_q _ [6, 7, 8, 9, 10] rfl (by decide +kernel)) (goodIn_sub (fun _ h => (List.mem_cons_of_mem _ (List.mem_append_left _ (List.mem_append_right _ h)))) tg_wsX90)) (goodIn_sub (fun _ h => List.mem_cons_of_mem _ (List.mem_append_right _ h)) (by decide +kernel))
set_option maxRecDepth 20000 in
theorem gX9_tip_X9_gearAt : GoodIn wsX9_tip (wsV RX9 77 RX9 yX9_gearAt wsX9_gearAt) := goodIn_app (goodIn_q _ [2, 3, 4, 5] rfl (by decide +kernel)) ggX9_tip_X9_gearAt
set_option maxRecDepth 20000 in
theorem ggX9_tip_X2_tipAt : GoodIn wsX9_tip wsX2_tipAt := goodIn_ca (goodIn_q _ [15, 16, 17, 18, 5, 19] rfl (by decide +kernel)) (goodIn_sub (fun _ h => (List.mem_cons_of_mem _ (List.mem_append_left _ (List.mem_append_left _ (List.mem_append_right _ h))))) tg_wsX20)
set_option maxRecDepth 20000 in
theorem gX9_tip_X2_tipAt : GoodIn wsX9_tip (wsV RX9 96 RX2 yX2_tipAt wsX2_tipAt) := goodIn_app (goodIn_q _ [11, 12, 13, 14] rfl (by decide +kernel)) ggX9_tip_X2_tipAt
def dsX9_tip_0 : ByteArray := ⟨#[42, 27, 182, 0, 77, 77, 44, 44, 180, 0, 89, 182, 0, 96, 172]⟩
theorem daX9_tip_0 : agB cX9_tip dsX9_tip_0 0 := agB_of (n := 15) (by decide +kernel)
theorem dbX9_tip_0 : (decode dsX9_tip_0 0 = .ok (.aload_n 0, 1) ∧ okop dsX9_tip_0 0 = true) ∧ (decode dsX9_tip_0 1 = .ok (.iload_n 1, 1) ∧ okop dsX9_tip_0 1 = true) ∧ (decode dsX9_tip_0 2 = .ok (.invokevirtual 77, 3) ∧ okop dsX9_tip_0 2 = true) ∧ (decode dsX9_tip_0 5 = .ok (.astore_n 2, 1) ∧ okop dsX9_tip_0 5 = true) ∧ (decode dsX9_tip_0 6 = .ok (.aload_n 2, 1) ∧ okop dsX9_tip_0 6 = true) ∧ (decode dsX9_tip_0 7 = .ok (.aload_n 2, 1) ∧ okop dsX9_tip_0 7 = true) ∧ (decode dsX9_tip_0 8 = .ok (.getfield 89, 3) ∧ okop dsX9_tip_0 8 = true) ∧ (decode dsX9_tip_0 11 = .ok (.invokevirtual 96, 3) ∧ okop dsX9_tip_0 11 = true) ∧ (decode dsX9_tip_0 14 = .ok (.ireturn, 1) ∧ okop dsX9_tip_0 14 = true) := by decide +kernel
theorem dX9_tip_0 : decode cX9_tip 0 = .ok (.aload_n 0, 1) := dgq (p := 0) daX9_tip_0 dbX9_tip_0.1
theorem dX9_tip_1 : decode cX9_tip 1 = .ok (.iload_n 1, 1) := dgq (p := 1) daX9_tip_0 dbX9_tip_0.2.1
theorem dX9_tip_2 : decode cX9_tip 2 = .ok (.invokevirtual 77, 3) := dgq (p := 2) daX9_tip_0 dbX9_tip_0.2.2.1
theorem dX9_tip_5 : decode cX9_tip 5 = .ok (.astore_n 2, 1) := dgq (p := 5) daX9_tip_0 dbX9_tip_0.2.2.2.1
theorem dX9_tip_6 : decode cX9_tip 6 = .ok (.aload_n 2, 1) := dgq (p := 6) daX9_tip_0 dbX9_tip_0.2.2.2.2.1
theorem dX9_tip_7 : decode cX9_tip 7 = .ok (.aload_n 2, 1) := dgq (p := 7) daX9_tip_0 dbX9_tip_0.2.2.2.2.2.1
theorem dX9_tip_8 : decode cX9_tip 8 = .ok (.getfield 89, 3) := dgq (p := 8) daX9_tip_0 dbX9_tip_0.2.2.2.2.2.2.1
theorem dX9_tip_11 : decode cX9_tip 11 = .ok (.invokevirtual 96, 3) := dgq (p := 11) daX9_tip_0 dbX9_tip_0.2.2.2.2.2.2.2.1
theorem dX9_tip_14 : decode cX9_tip 14 = .ok (.ireturn, 1) := dgq (p := 14) daX9_tip_0 dbX9_tip_0.2.2.2.2.2.2.2.2
set_option maxRecDepth 20000 in
theorem ggX9_isUndercut_X9_gearAt : GoodIn wsX9_isUndercut wsX9_gearAt := goodIn_ca (goodIn_ca (goodIn_q _ [7, 8, 9, 10, 11] rfl (by decide +kernel)) (goodIn_sub (fun _ h => (List.mem_cons_of_mem _ (List.mem_append_left _ (List.mem_append_right _ h)))) tg_wsX90)) (goodIn_sub (fun _ h => List.mem_cons_of_mem _ (List.mem_append_right _ h)) (by decide +kernel))
set_option maxRecDepth 20000 in
theorem gX9_isUndercut_X9_gearAt : GoodIn wsX9_isUndercut (wsV RX9 77 RX9 yX9_gearAt wsX9_gearAt) := goodIn_app (goodIn_q _ [3, 4, 5, 6] rfl (by decide +kernel)) ggX9_isUndercut_X9_gearAt
set_option maxRecDepth 20000 in
theorem ggX9_isUndercut_X9_undercuts : GoodIn wsX9_isUndercut wsX9_undercuts := goodIn_q _ [14] rfl (by decide +kernel)
set_option maxRecDepth 20000 in
theorem gX9_isUndercut_X9_undercuts : GoodIn wsX9_isUndercut (va_wsS RX9 103 yX9_undercuts wsX9_undercuts) := goodIn_app (goodIn_q _ [12, 13, 6] rfl (by decide +kernel)) ggX9_isUndercut_X9_undercuts
def dsX9_isUndercut_0 : ByteArray := ⟨#[42, 27, 182, 0, 77, 77, 44, 180, 0, 100, 44, 180, 0, 89, 184, 0, 103, 172]⟩
theorem daX9_isUndercut_0 : agB cX9_isUndercut dsX9_isUndercut_0 0 := agB_of (n := 18) (by decide +kernel)
theorem dbX9_isUndercut_0 : (decode dsX9_isUndercut_0 0 = .ok (.aload_n 0, 1) ∧ okop dsX9_isUndercut_0 0 = true) ∧ (decode dsX9_isUndercut_0 1 = .ok (.iload_n 1, 1) ∧ okop dsX9_isUndercut_0 1 = true) ∧ (decode dsX9_isUndercut_0 2 = .ok (.invokevirtual 77, 3) ∧ okop dsX9_isUndercut_0 2 = true) ∧ (decode dsX9_isUndercut_0 5 = .ok (.astore_n 2, 1) ∧ okop dsX9_isUndercut_0 5 = true) ∧ (decode dsX9_isUndercut_0 6 = .ok (.aload_n 2, 1) ∧ okop dsX9_isUndercut_0 6 = true) ∧ (decode dsX9_isUndercut_0 7 = .ok (.getfield 100, 3) ∧ okop dsX9_isUndercut_0 7 = true) ∧ (decode dsX9_isUndercut_0 10 = .ok (.aload_n 2, 1) ∧ okop dsX9_isUndercut_0 10 = true) ∧ (decode dsX9_isUndercut_0 11 = .ok (.getfield 89, 3) ∧ okop dsX9_isUndercut_0 11 = true) ∧ (decode dsX9_isUndercut_0 14 = .ok (.invokestatic 103, 3) ∧ okop dsX9_isUndercut_0 14 = true) ∧ (decode dsX9_isUndercut_0 17 = .ok (.ireturn, 1) ∧ okop dsX9_isUndercut_0 17 = true) := by decide +kernel
theorem dX9_isUndercut_0 : decode cX9_isUndercut 0 = .ok (.aload_n 0, 1) := dgq (p := 0) daX9_isUndercut_0 dbX9_isUndercut_0.1
theorem dX9_isUndercut_1 : decode cX9_isUndercut 1 = .ok (.iload_n 1, 1) := dgq (p := 1) daX9_isUndercut_0 dbX9_isUndercut_0.2.1
theorem dX9_isUndercut_2 : decode cX9_isUndercut 2 = .ok (.invokevirtual 77, 3) := dgq (p := 2) daX9_isUndercut_0 dbX9_isUndercut_0.2.2.1
theorem dX9_isUndercut_5 : decode cX9_isUndercut 5 = .ok (.astore_n 2, 1) := dgq (p := 5) daX9_isUndercut_0 dbX9_isUndercut_0.2.2.2.1
theorem dX9_isUndercut_6 : decode cX9_isUndercut 6 = .ok (.aload_n 2, 1) := dgq (p := 6) daX9_isUndercut_0 dbX9_isUndercut_0.2.2.2.2.1
theorem dX9_isUndercut_7 : decode cX9_isUndercut 7 = .ok (.getfield 100, 3) := dgq (p := 7) daX9_isUndercut_0 dbX9_isUndercut_0.2.2.2.2.2.1
theorem dX9_isUndercut_10 : decode cX9_isUndercut 10 = .ok (.aload_n 2, 1) := dgq (p := 10) daX9_isUndercut_0 dbX9_isUndercut_0.2.2.2.2.2.2.1
theorem dX9_isUndercut_11 : decode cX9_isUndercut 11 = .ok (.getfield 89, 3) := dgq (p := 11) daX9_isUndercut_0 dbX9_isUndercut_0.2.2.2.2.2.2.2.1
theorem dX9_isUndercut_14 : decode cX9_isUndercut 14 = .ok (.invokestatic 103, 3) := dgq (p := 14) daX9_isUndercut_0 dbX9_isUndercut_0.2.2.2.2.2.2.2.2.1
theorem dX9_isUndercut_17 : decode cX9_isUndercut 17 = .ok (.ireturn, 1) := dgq (p := 17) daX9_isUndercut_0 dbX9_isUndercut_0.2.2.2.2.2.2.2.2.2
set_option maxRecDepth 20000 in
theorem ggX9_isSharp_X9_gearAt : GoodIn wsX9_isSharp wsX9_gearAt := goodIn_ca (goodIn_ca (goodIn_q _ [7, 8, 9, 10, 11] rfl (by decide +kernel)) (goodIn_sub (fun _ h => (List.mem_cons_of_mem _ (List.mem_append_left _ (List.mem_append_right _ h)))) tg_wsX90)) (goodIn_sub (fun _ h => List.mem_cons_of_mem _ (List.mem_append_right _ h)) (by decide +kernel))
set_option maxRecDepth 20000 in
theorem gX9_isSharp_X9_gearAt : GoodIn wsX9_isSharp (wsV RX9 77 RX9 yX9_gearAt wsX9_gearAt) := goodIn_app (goodIn_q _ [3, 4, 5, 6] rfl (by decide +kernel)) ggX9_isSharp_X9_gearAt
set_option maxRecDepth 20000 in
theorem ggX9_isSharp_X9_sharpens : GoodIn wsX9_isSharp wsX9_sharpens := goodIn_q _ [14] rfl (by decide +kernel)
set_option maxRecDepth 20000 in
theorem gX9_isSharp_X9_sharpens : GoodIn wsX9_isSharp (va_wsS RX9 107 yX9_sharpens wsX9_sharpens) := goodIn_app (goodIn_q _ [12, 13, 6] rfl (by decide +kernel)) ggX9_isSharp_X9_sharpens
def dsX9_isSharp_0 : ByteArray := ⟨#[42, 27, 182, 0, 77, 77, 44, 180, 0, 100, 44, 180, 0, 89, 184, 0, 107, 172]⟩
theorem daX9_isSharp_0 : agB cX9_isSharp dsX9_isSharp_0 0 := agB_of (n := 18) (by decide +kernel)
theorem dbX9_isSharp_0 : (decode dsX9_isSharp_0 0 = .ok (.aload_n 0, 1) ∧ okop dsX9_isSharp_0 0 = true) ∧ (decode dsX9_isSharp_0 1 = .ok (.iload_n 1, 1) ∧ okop dsX9_isSharp_0 1 = true) ∧ (decode dsX9_isSharp_0 2 = .ok (.invokevirtual 77, 3) ∧ okop dsX9_isSharp_0 2 = true) ∧ (decode dsX9_isSharp_0 5 = .ok (.astore_n 2, 1) ∧ okop dsX9_isSharp_0 5 = true) ∧ (decode dsX9_isSharp_0 6 = .ok (.aload_n 2, 1) ∧ okop dsX9_isSharp_0 6 = true) ∧ (decode dsX9_isSharp_0 7 = .ok (.getfield 100, 3) ∧ okop dsX9_isSharp_0 7 = true) ∧ (decode dsX9_isSharp_0 10 = .ok (.aload_n 2, 1) ∧ okop dsX9_isSharp_0 10 = true) ∧ (decode dsX9_isSharp_0 11 = .ok (.getfield 89, 3) ∧ okop dsX9_isSharp_0 11 = true) ∧ (decode dsX9_isSharp_0 14 = .ok (.invokestatic 107, 3) ∧ okop dsX9_isSharp_0 14 = true) ∧ (decode dsX9_isSharp_0 17 = .ok (.ireturn, 1) ∧ okop dsX9_isSharp_0 17 = true) := by decide +kernel
theorem dX9_isSharp_0 : decode cX9_isSharp 0 = .ok (.aload_n 0, 1) := dgq (p := 0) daX9_isSharp_0 dbX9_isSharp_0.1
theorem dX9_isSharp_1 : decode cX9_isSharp 1 = .ok (.iload_n 1, 1) := dgq (p := 1) daX9_isSharp_0 dbX9_isSharp_0.2.1
theorem dX9_isSharp_2 : decode cX9_isSharp 2 = .ok (.invokevirtual 77, 3) := dgq (p := 2) daX9_isSharp_0 dbX9_isSharp_0.2.2.1
theorem dX9_isSharp_5 : decode cX9_isSharp 5 = .ok (.astore_n 2, 1) := dgq (p := 5) daX9_isSharp_0 dbX9_isSharp_0.2.2.2.1
theorem dX9_isSharp_6 : decode cX9_isSharp 6 = .ok (.aload_n 2, 1) := dgq (p := 6) daX9_isSharp_0 dbX9_isSharp_0.2.2.2.2.1
theorem dX9_isSharp_7 : decode cX9_isSharp 7 = .ok (.getfield 100, 3) := dgq (p := 7) daX9_isSharp_0 dbX9_isSharp_0.2.2.2.2.2.1
theorem dX9_isSharp_10 : decode cX9_isSharp 10 = .ok (.aload_n 2, 1) := dgq (p := 10) daX9_isSharp_0 dbX9_isSharp_0.2.2.2.2.2.2.1
theorem dX9_isSharp_11 : decode cX9_isSharp 11 = .ok (.getfield 89, 3) := dgq (p := 11) daX9_isSharp_0 dbX9_isSharp_0.2.2.2.2.2.2.2.1
theorem dX9_isSharp_14 : decode cX9_isSharp 14 = .ok (.invokestatic 107, 3) := dgq (p := 14) daX9_isSharp_0 dbX9_isSharp_0.2.2.2.2.2.2.2.2.1
theorem dX9_isSharp_17 : decode cX9_isSharp 17 = .ok (.ireturn, 1) := dgq (p := 17) daX9_isSharp_0 dbX9_isSharp_0.2.2.2.2.2.2.2.2.2
set_option maxRecDepth 20000 in
theorem ggX9_fewest_X9_needRange : GoodIn wsX9_fewest wsX9_needRange := goodIn_ca (goodIn_q _ [4, 5, 6] rfl (by decide +kernel)) (goodIn_sub (fun _ h => List.mem_cons_of_mem _ (List.mem_append_right _ h)) (by decide +kernel))
set_option maxRecDepth 20000 in
theorem gX9_fewest_X9_needRange : GoodIn wsX9_fewest (va_wsS RX9 59 yX9_needRange wsX9_needRange) := goodIn_app (goodIn_q _ [1, 2, 3] rfl (by decide +kernel)) ggX9_fewest_X9_needRange
set_option maxRecDepth 20000 in
theorem ggX9_fewest_X9_undercuts : GoodIn wsX9_fewest wsX9_undercuts := goodIn_q _ [9] rfl (by decide +kernel)
set_option maxRecDepth 20000 in
theorem gX9_fewest_X9_undercuts : GoodIn wsX9_fewest (va_wsS RX9 103 yX9_undercuts wsX9_undercuts) := goodIn_app (goodIn_q _ [7, 8, 3] rfl (by decide +kernel)) ggX9_fewest_X9_undercuts
def dsX9_fewest_0 : ByteArray := ⟨#[27, 16, 156, 16, 100, 184, 0, 59, 4, 61, 28, 17, 0, 200, 162, 0, 17, 28]⟩
theorem daX9_fewest_0 : agB cX9_fewest dsX9_fewest_0 0 := agB_of (n := 18) (by decide +kernel)
theorem dbX9_fewest_0 : (decode dsX9_fewest_0 0 = .ok (.iload_n 1, 1) ∧ okop dsX9_fewest_0 0 = true) ∧ (decode dsX9_fewest_0 1 = .ok (.bipush (-100), 2) ∧ okop dsX9_fewest_0 1 = true) ∧ (decode dsX9_fewest_0 3 = .ok (.bipush 100, 2) ∧ okop dsX9_fewest_0 3 = true) ∧ (decode dsX9_fewest_0 5 = .ok (.invokestatic 59, 3) ∧ okop dsX9_fewest_0 5 = true) ∧ (decode dsX9_fewest_0 8 = .ok (.iconst 1, 1) ∧ okop dsX9_fewest_0 8 = true) ∧ (decode dsX9_fewest_0 9 = .ok (.istore_n 2, 1) ∧ okop dsX9_fewest_0 9 = true) ∧ (decode dsX9_fewest_0 10 = .ok (.iload_n 2, 1) ∧ okop dsX9_fewest_0 10 = true) ∧ (decode dsX9_fewest_0 11 = .ok (.sipush 200, 3) ∧ okop dsX9_fewest_0 11 = true) ∧ (decode dsX9_fewest_0 14 = .ok (.if_icmp .ge 17, 3) ∧ okop dsX9_fewest_0 14 = true) ∧ (decode dsX9_fewest_0 17 = .ok (.iload_n 2, 1) ∧ okop dsX9_fewest_0 17 = true) := by decide +kernel
theorem dX9_fewest_0 : decode cX9_fewest 0 = .ok (.iload_n 1, 1) := dgq (p := 0) daX9_fewest_0 dbX9_fewest_0.1
theorem dX9_fewest_1 : decode cX9_fewest 1 = .ok (.bipush (-100), 2) := dgq (p := 1) daX9_fewest_0 dbX9_fewest_0.2.1
theorem dX9_fewest_3 : decode cX9_fewest 3 = .ok (.bipush 100, 2) := dgq (p := 3) daX9_fewest_0 dbX9_fewest_0.2.2.1
theorem dX9_fewest_5 : decode cX9_fewest 5 = .ok (.invokestatic 59, 3) := dgq (p := 5) daX9_fewest_0 dbX9_fewest_0.2.2.2.1
theorem dX9_fewest_8 : decode cX9_fewest 8 = .ok (.iconst 1, 1) := dgq (p := 8) daX9_fewest_0 dbX9_fewest_0.2.2.2.2.1
theorem dX9_fewest_9 : decode cX9_fewest 9 = .ok (.istore_n 2, 1) := dgq (p := 9) daX9_fewest_0 dbX9_fewest_0.2.2.2.2.2.1
theorem dX9_fewest_10 : decode cX9_fewest 10 = .ok (.iload_n 2, 1) := dgq (p := 10) daX9_fewest_0 dbX9_fewest_0.2.2.2.2.2.2.1
theorem dX9_fewest_11 : decode cX9_fewest 11 = .ok (.sipush 200, 3) := dgq (p := 11) daX9_fewest_0 dbX9_fewest_0.2.2.2.2.2.2.2.1
theorem dX9_fewest_14 : decode cX9_fewest 14 = .ok (.if_icmp .ge 17, 3) := dgq (p := 14) daX9_fewest_0 dbX9_fewest_0.2.2.2.2.2.2.2.2.1
theorem dX9_fewest_17 : decode cX9_fewest 17 = .ok (.iload_n 2, 1) := dgq (p := 17) daX9_fewest_0 dbX9_fewest_0.2.2.2.2.2.2.2.2.2
def dsX9_fewest_18 : ByteArray := ⟨#[27, 184, 0, 103, 153, 0, 9, 132, 2, 1, 167, 255, 238, 28, 172]⟩
theorem daX9_fewest_18 : agB cX9_fewest dsX9_fewest_18 18 := agB_of (n := 15) (by decide +kernel)
theorem dbX9_fewest_18 : (decode dsX9_fewest_18 0 = .ok (.iload_n 1, 1) ∧ okop dsX9_fewest_18 0 = true) ∧ (decode dsX9_fewest_18 1 = .ok (.invokestatic 103, 3) ∧ okop dsX9_fewest_18 1 = true) ∧ (decode dsX9_fewest_18 4 = .ok (.ifCond .eq 9, 3) ∧ okop dsX9_fewest_18 4 = true) ∧ (decode dsX9_fewest_18 7 = .ok (.iinc 2 1, 3) ∧ okop dsX9_fewest_18 7 = true) ∧ (decode dsX9_fewest_18 10 = .ok (.goto (-18), 3) ∧ okop dsX9_fewest_18 10 = true) ∧ (decode dsX9_fewest_18 13 = .ok (.iload_n 2, 1) ∧ okop dsX9_fewest_18 13 = true) ∧ (decode dsX9_fewest_18 14 = .ok (.ireturn, 1) ∧ okop dsX9_fewest_18 14 = true) := by decide +kernel
theorem dX9_fewest_18 : decode cX9_fewest 18 = .ok (.iload_n 1, 1) := dgq (p := 0) daX9_fewest_18 dbX9_fewest_18.1
theorem dX9_fewest_19 : decode cX9_fewest 19 = .ok (.invokestatic 103, 3) := dgq (p := 1) daX9_fewest_18 dbX9_fewest_18.2.1
theorem dX9_fewest_22 : decode cX9_fewest 22 = .ok (.ifCond .eq 9, 3) := dgq (p := 4) daX9_fewest_18 dbX9_fewest_18.2.2.1
theorem dX9_fewest_25 : decode cX9_fewest 25 = .ok (.iinc 2 1, 3) := dgq (p := 7) daX9_fewest_18 dbX9_fewest_18.2.2.2.1
theorem dX9_fewest_28 : decode cX9_fewest 28 = .ok (.goto (-18), 3) := dgq (p := 10) daX9_fewest_18 dbX9_fewest_18.2.2.2.2.1
theorem dX9_fewest_31 : decode cX9_fewest 31 = .ok (.iload_n 2, 1) := dgq (p := 13) daX9_fewest_18 dbX9_fewest_18.2.2.2.2.2.1
theorem dX9_fewest_32 : decode cX9_fewest 32 = .ok (.ireturn, 1) := dgq (p := 14) daX9_fewest_18 dbX9_fewest_18.2.2.2.2.2.2
set_option maxRecDepth 20000 in
theorem ggX9_doPair_X9_gearAt : GoodIn wsX9_doPair wsX9_gearAt := goodIn_ca (goodIn_ca (goodIn_q _ [7, 8, 9, 10, 11] rfl (by decide +kernel)) (goodIn_sub (fun _ h => (List.mem_cons_of_mem _ (List.mem_append_left _ (List.mem_append_left _ (List.mem_append_left _ (List.mem_append_right _ h)))))) tg_wsX90)) (goodIn_sub (fun _ h => List.mem_cons_of_mem _ (List.mem_append_right _ h)) (by decide +kernel))
set_option maxRecDepth 20000 in
theorem gX9_doPair_X9_gearAt : GoodIn wsX9_doPair (wsV RX9 77 RX9 yX9_gearAt wsX9_gearAt) := goodIn_app (goodIn_q _ [3, 4, 5, 6] rfl (by decide +kernel)) ggX9_doPair_X9_gearAt
set_option maxRecDepth 20000 in
theorem ggX9_doPair_X2_pairsWith : GoodIn wsX9_doPair wsX2_pairsWith := goodIn_ca (goodIn_q _ [16, 17, 18] rfl (by decide +kernel)) (goodIn_sub (fun _ h => (List.mem_cons_of_mem _ (List.mem_append_left _ (List.mem_append_left _ (List.mem_append_right _ h))))) tg_wsX20)
set_option maxRecDepth 20000 in
theorem gX9_doPair_X2_pairsWith : GoodIn wsX9_doPair (wsV RX9 115 RX2 yX2_pairsWith wsX2_pairsWith) := goodIn_app (goodIn_q _ [12, 13, 14, 15] rfl (by decide +kernel)) ggX9_doPair_X2_pairsWith
def dsX9_doPair_0 : ByteArray := ⟨#[42, 27, 182, 0, 77, 78, 42, 28, 182, 0, 77, 58, 4, 45, 25, 4]⟩
theorem daX9_doPair_0 : agB cX9_doPair dsX9_doPair_0 0 := agB_of (n := 16) (by decide +kernel)
theorem dbX9_doPair_0 : (decode dsX9_doPair_0 0 = .ok (.aload_n 0, 1) ∧ okop dsX9_doPair_0 0 = true) ∧ (decode dsX9_doPair_0 1 = .ok (.iload_n 1, 1) ∧ okop dsX9_doPair_0 1 = true) ∧ (decode dsX9_doPair_0 2 = .ok (.invokevirtual 77, 3) ∧ okop dsX9_doPair_0 2 = true) ∧ (decode dsX9_doPair_0 5 = .ok (.astore_n 3, 1) ∧ okop dsX9_doPair_0 5 = true) ∧ (decode dsX9_doPair_0 6 = .ok (.aload_n 0, 1) ∧ okop dsX9_doPair_0 6 = true) ∧ (decode dsX9_doPair_0 7 = .ok (.iload_n 2, 1) ∧ okop dsX9_doPair_0 7 = true) ∧ (decode dsX9_doPair_0 8 = .ok (.invokevirtual 77, 3) ∧ okop dsX9_doPair_0 8 = true) ∧ (decode dsX9_doPair_0 11 = .ok (.astore 4, 2) ∧ okop dsX9_doPair_0 11 = true) ∧ (decode dsX9_doPair_0 13 = .ok (.aload_n 3, 1) ∧ okop dsX9_doPair_0 13 = true) ∧ (decode dsX9_doPair_0 14 = .ok (.aload 4, 2) ∧ okop dsX9_doPair_0 14 = true) := by decide +kernel
theorem dX9_doPair_0 : decode cX9_doPair 0 = .ok (.aload_n 0, 1) := dgq (p := 0) daX9_doPair_0 dbX9_doPair_0.1
theorem dX9_doPair_1 : decode cX9_doPair 1 = .ok (.iload_n 1, 1) := dgq (p := 1) daX9_doPair_0 dbX9_doPair_0.2.1
theorem dX9_doPair_2 : decode cX9_doPair 2 = .ok (.invokevirtual 77, 3) := dgq (p := 2) daX9_doPair_0 dbX9_doPair_0.2.2.1
theorem dX9_doPair_5 : decode cX9_doPair 5 = .ok (.astore_n 3, 1) := dgq (p := 5) daX9_doPair_0 dbX9_doPair_0.2.2.2.1
theorem dX9_doPair_6 : decode cX9_doPair 6 = .ok (.aload_n 0, 1) := dgq (p := 6) daX9_doPair_0 dbX9_doPair_0.2.2.2.2.1
theorem dX9_doPair_7 : decode cX9_doPair 7 = .ok (.iload_n 2, 1) := dgq (p := 7) daX9_doPair_0 dbX9_doPair_0.2.2.2.2.2.1
theorem dX9_doPair_8 : decode cX9_doPair 8 = .ok (.invokevirtual 77, 3) := dgq (p := 8) daX9_doPair_0 dbX9_doPair_0.2.2.2.2.2.2.1
theorem dX9_doPair_11 : decode cX9_doPair 11 = .ok (.astore 4, 2) := dgq (p := 11) daX9_doPair_0 dbX9_doPair_0.2.2.2.2.2.2.2.1
theorem dX9_doPair_13 : decode cX9_doPair 13 = .ok (.aload_n 3, 1) := dgq (p := 13) daX9_doPair_0 dbX9_doPair_0.2.2.2.2.2.2.2.2.1
theorem dX9_doPair_14 : decode cX9_doPair 14 = .ok (.aload 4, 2) := dgq (p := 14) daX9_doPair_0 dbX9_doPair_0.2.2.2.2.2.2.2.2.2
def dsX9_doPair_16 : ByteArray := ⟨#[166, 0, 13, 187, 0, 110, 89, 18, 112, 183, 0, 114, 191, 45, 25, 4, 182, 0, 115, 172]⟩
theorem daX9_doPair_16 : agB cX9_doPair dsX9_doPair_16 16 := agB_of (n := 20) (by decide +kernel)
theorem dbX9_doPair_16 : (decode dsX9_doPair_16 0 = .ok (.if_acmp .ne 13, 3) ∧ okop dsX9_doPair_16 0 = true) ∧ (decode dsX9_doPair_16 3 = .ok (.new 110, 3) ∧ okop dsX9_doPair_16 3 = true) ∧ (decode dsX9_doPair_16 6 = .ok (.dup, 1) ∧ okop dsX9_doPair_16 6 = true) ∧ (decode dsX9_doPair_16 7 = .ok (.ldc 112, 2) ∧ okop dsX9_doPair_16 7 = true) ∧ (decode dsX9_doPair_16 9 = .ok (.invokespecial 114, 3) ∧ okop dsX9_doPair_16 9 = true) ∧ (decode dsX9_doPair_16 12 = .ok (.athrow, 1) ∧ okop dsX9_doPair_16 12 = true) ∧ (decode dsX9_doPair_16 13 = .ok (.aload_n 3, 1) ∧ okop dsX9_doPair_16 13 = true) ∧ (decode dsX9_doPair_16 14 = .ok (.aload 4, 2) ∧ okop dsX9_doPair_16 14 = true) ∧ (decode dsX9_doPair_16 16 = .ok (.invokevirtual 115, 3) ∧ okop dsX9_doPair_16 16 = true) ∧ (decode dsX9_doPair_16 19 = .ok (.ireturn, 1) ∧ okop dsX9_doPair_16 19 = true) := by decide +kernel
theorem dX9_doPair_16 : decode cX9_doPair 16 = .ok (.if_acmp .ne 13, 3) := dgq (p := 0) daX9_doPair_16 dbX9_doPair_16.1
theorem dX9_doPair_19 : decode cX9_doPair 19 = .ok (.new 110, 3) := dgq (p := 3) daX9_doPair_16 dbX9_doPair_16.2.1
theorem dX9_doPair_22 : decode cX9_doPair 22 = .ok (.dup, 1) := dgq (p := 6) daX9_doPair_16 dbX9_doPair_16.2.2.1
theorem dX9_doPair_23 : decode cX9_doPair 23 = .ok (.ldc 112, 2) := dgq (p := 7) daX9_doPair_16 dbX9_doPair_16.2.2.2.1
theorem dX9_doPair_25 : decode cX9_doPair 25 = .ok (.invokespecial 114, 3) := dgq (p := 9) daX9_doPair_16 dbX9_doPair_16.2.2.2.2.1
theorem dX9_doPair_28 : decode cX9_doPair 28 = .ok (.athrow, 1) := dgq (p := 12) daX9_doPair_16 dbX9_doPair_16.2.2.2.2.2.1
theorem dX9_doPair_29 : decode cX9_doPair 29 = .ok (.aload_n 3, 1) := dgq (p := 13) daX9_doPair_16 dbX9_doPair_16.2.2.2.2.2.2.1
theorem dX9_doPair_30 : decode cX9_doPair 30 = .ok (.aload 4, 2) := dgq (p := 14) daX9_doPair_16 dbX9_doPair_16.2.2.2.2.2.2.2.1
theorem dX9_doPair_32 : decode cX9_doPair 32 = .ok (.invokevirtual 115, 3) := dgq (p := 16) daX9_doPair_16 dbX9_doPair_16.2.2.2.2.2.2.2.2.1
theorem dX9_doPair_35 : decode cX9_doPair 35 = .ok (.ireturn, 1) := dgq (p := 19) daX9_doPair_16 dbX9_doPair_16.2.2.2.2.2.2.2.2.2
set_option maxRecDepth 20000 in
theorem ggX9_contact_X9_gearAt : GoodIn wsX9_contact wsX9_gearAt := goodIn_ca (goodIn_ca (goodIn_q _ [5, 6, 7, 8, 9] rfl (by decide +kernel)) (goodIn_sub (fun _ h => (List.mem_cons_of_mem _ (List.mem_append_left _ (List.mem_append_left _ (List.mem_append_left _ (List.mem_append_left _ (List.mem_append_right _ h))))))) tg_wsX90)) (goodIn_sub (fun _ h => List.mem_cons_of_mem _ (List.mem_append_left _ (List.mem_append_left _ (List.mem_append_right _ h)))) (by decide +kernel))
set_option maxRecDepth 20000 in
theorem gX9_contact_X9_gearAt : GoodIn wsX9_contact (wsV RX9 77 RX9 yX9_gearAt wsX9_gearAt) := goodIn_app (goodIn_q _ [1, 2, 3, 4] rfl (by decide +kernel)) ggX9_contact_X9_gearAt
set_option maxRecDepth 20000 in
theorem ggX9_contact_X9_needPair : GoodIn wsX9_contact wsX9_needPair := goodIn_ca (goodIn_ca (goodIn_q _ [12, 13, 14, 15, 16, 17, 18, 19, 20, 21, 4, 22, 23, 24] rfl (by decide +kernel)) (goodIn_sub (fun _ h => (List.mem_cons_of_mem _ (List.mem_append_left _ (List.mem_append_left _ (List.mem_append_left _ (List.mem_append_right _ h)))))) tg_wsX20)) (goodIn_sub (fun _ h => List.mem_cons_of_mem _ (List.mem_append_left _ (List.mem_append_right _ h))) (by decide +kernel))
set_option maxRecDepth 20000 in
theorem gX9_contact_X9_needPair : GoodIn wsX9_contact (va_wsS RX9 119 yX9_needPair wsX9_needPair) := goodIn_app (goodIn_q _ [10, 11, 4] rfl (by decide +kernel)) ggX9_contact_X9_needPair
set_option maxRecDepth 20000 in
theorem ggX9_contact_X9_contactOf : GoodIn wsX9_contact wsX9_contactOf := goodIn_ca (goodIn_ca (goodIn_q _ [27, 28, 29, 30, 31, 32, 33, 34, 35, 36, 37, 16, 38, 39, 18, 40, 41, 42, 43, 44, 45, 46, 47, 48, 49, 50, 4, 51, 52, 53, 54, 55] rfl (by decide +kernel)) (goodIn_sub (fun _ h => (List.mem_cons_of_mem _ (List.mem_append_left _ (List.mem_append_left _ (List.mem_append_left _ (List.mem_append_right _ h)))))) tg_wsX20)) (goodIn_sub (fun _ h => List.mem_cons_of_mem _ (List.mem_append_right _ h)) (by decide +kernel))
set_option maxRecDepth 20000 in
theorem gX9_contact_X9_contactOf : GoodIn wsX9_contact (va_wsS RX9 123 yX9_contactOf wsX9_contactOf) := goodIn_app (goodIn_q _ [25, 26, 4] rfl (by decide +kernel)) ggX9_contact_X9_contactOf
def dsX9_contact_0 : ByteArray := ⟨#[42, 27, 182, 0, 77, 78, 42, 28, 182, 0, 77, 58, 4, 45, 25, 4]⟩
theorem daX9_contact_0 : agB cX9_contact dsX9_contact_0 0 := agB_of (n := 16) (by decide +kernel)
theorem dbX9_contact_0 : (decode dsX9_contact_0 0 = .ok (.aload_n 0, 1) ∧ okop dsX9_contact_0 0 = true) ∧ (decode dsX9_contact_0 1 = .ok (.iload_n 1, 1) ∧ okop dsX9_contact_0 1 = true) ∧ (decode dsX9_contact_0 2 = .ok (.invokevirtual 77, 3) ∧ okop dsX9_contact_0 2 = true) ∧ (decode dsX9_contact_0 5 = .ok (.astore_n 3, 1) ∧ okop dsX9_contact_0 5 = true) ∧ (decode dsX9_contact_0 6 = .ok (.aload_n 0, 1) ∧ okop dsX9_contact_0 6 = true) ∧ (decode dsX9_contact_0 7 = .ok (.iload_n 2, 1) ∧ okop dsX9_contact_0 7 = true) ∧ (decode dsX9_contact_0 8 = .ok (.invokevirtual 77, 3) ∧ okop dsX9_contact_0 8 = true) ∧ (decode dsX9_contact_0 11 = .ok (.astore 4, 2) ∧ okop dsX9_contact_0 11 = true) ∧ (decode dsX9_contact_0 13 = .ok (.aload_n 3, 1) ∧ okop dsX9_contact_0 13 = true) ∧ (decode dsX9_contact_0 14 = .ok (.aload 4, 2) ∧ okop dsX9_contact_0 14 = true) := by decide +kernel
theorem dX9_contact_0 : decode cX9_contact 0 = .ok (.aload_n 0, 1) := dgq (p := 0) daX9_contact_0 dbX9_contact_0.1
theorem dX9_contact_1 : decode cX9_contact 1 = .ok (.iload_n 1, 1) := dgq (p := 1) daX9_contact_0 dbX9_contact_0.2.1
theorem dX9_contact_2 : decode cX9_contact 2 = .ok (.invokevirtual 77, 3) := dgq (p := 2) daX9_contact_0 dbX9_contact_0.2.2.1
theorem dX9_contact_5 : decode cX9_contact 5 = .ok (.astore_n 3, 1) := dgq (p := 5) daX9_contact_0 dbX9_contact_0.2.2.2.1
theorem dX9_contact_6 : decode cX9_contact 6 = .ok (.aload_n 0, 1) := dgq (p := 6) daX9_contact_0 dbX9_contact_0.2.2.2.2.1
theorem dX9_contact_7 : decode cX9_contact 7 = .ok (.iload_n 2, 1) := dgq (p := 7) daX9_contact_0 dbX9_contact_0.2.2.2.2.2.1
theorem dX9_contact_8 : decode cX9_contact 8 = .ok (.invokevirtual 77, 3) := dgq (p := 8) daX9_contact_0 dbX9_contact_0.2.2.2.2.2.2.1
theorem dX9_contact_11 : decode cX9_contact 11 = .ok (.astore 4, 2) := dgq (p := 11) daX9_contact_0 dbX9_contact_0.2.2.2.2.2.2.2.1
theorem dX9_contact_13 : decode cX9_contact 13 = .ok (.aload_n 3, 1) := dgq (p := 13) daX9_contact_0 dbX9_contact_0.2.2.2.2.2.2.2.2.1
theorem dX9_contact_14 : decode cX9_contact 14 = .ok (.aload 4, 2) := dgq (p := 14) daX9_contact_0 dbX9_contact_0.2.2.2.2.2.2.2.2.2
def dsX9_contact_16 : ByteArray := ⟨#[184, 0, 119, 45, 25, 4, 184, 0, 123, 173]⟩
theorem daX9_contact_16 : agB cX9_contact dsX9_contact_16 16 := agB_of (n := 10) (by decide +kernel)
theorem dbX9_contact_16 : (decode dsX9_contact_16 0 = .ok (.invokestatic 119, 3) ∧ okop dsX9_contact_16 0 = true) ∧ (decode dsX9_contact_16 3 = .ok (.aload_n 3, 1) ∧ okop dsX9_contact_16 3 = true) ∧ (decode dsX9_contact_16 4 = .ok (.aload 4, 2) ∧ okop dsX9_contact_16 4 = true) ∧ (decode dsX9_contact_16 6 = .ok (.invokestatic 123, 3) ∧ okop dsX9_contact_16 6 = true) ∧ (decode dsX9_contact_16 9 = .ok (.lreturn, 1) ∧ okop dsX9_contact_16 9 = true) := by decide +kernel
theorem dX9_contact_16 : decode cX9_contact 16 = .ok (.invokestatic 119, 3) := dgq (p := 0) daX9_contact_16 dbX9_contact_16.1
theorem dX9_contact_19 : decode cX9_contact 19 = .ok (.aload_n 3, 1) := dgq (p := 3) daX9_contact_16 dbX9_contact_16.2.1
theorem dX9_contact_20 : decode cX9_contact 20 = .ok (.aload 4, 2) := dgq (p := 4) daX9_contact_16 dbX9_contact_16.2.2.1
theorem dX9_contact_22 : decode cX9_contact 22 = .ok (.invokestatic 123, 3) := dgq (p := 6) daX9_contact_16 dbX9_contact_16.2.2.2.1
theorem dX9_contact_25 : decode cX9_contact 25 = .ok (.lreturn, 1) := dgq (p := 9) daX9_contact_16 dbX9_contact_16.2.2.2.2
set_option maxRecDepth 20000 in
theorem ggX9_overlap_X9_gearAt : GoodIn wsX9_overlap wsX9_gearAt := goodIn_ca (goodIn_ca (goodIn_q _ [5, 6, 7, 8, 9] rfl (by decide +kernel)) (goodIn_sub (fun _ h => (List.mem_cons_of_mem _ (List.mem_append_left _ (List.mem_append_left _ (List.mem_append_left _ (List.mem_append_left _ (List.mem_append_right _ h))))))) tg_wsX90)) (goodIn_sub (fun _ h => List.mem_cons_of_mem _ (List.mem_append_left _ (List.mem_append_left _ (List.mem_append_right _ h)))) (by decide +kernel))
set_option maxRecDepth 20000 in
theorem gX9_overlap_X9_gearAt : GoodIn wsX9_overlap (wsV RX9 77 RX9 yX9_gearAt wsX9_gearAt) := goodIn_app (goodIn_q _ [1, 2, 3, 4] rfl (by decide +kernel)) ggX9_overlap_X9_gearAt
set_option maxRecDepth 20000 in
theorem ggX9_overlap_X9_needPair : GoodIn wsX9_overlap wsX9_needPair := goodIn_ca (goodIn_ca (goodIn_q _ [12, 13, 14, 15, 16, 17, 18, 19, 20, 21, 4, 22, 23, 24] rfl (by decide +kernel)) (goodIn_sub (fun _ h => (List.mem_cons_of_mem _ (List.mem_append_left _ (List.mem_append_left _ (List.mem_append_left _ (List.mem_append_right _ h)))))) tg_wsX20)) (goodIn_sub (fun _ h => List.mem_cons_of_mem _ (List.mem_append_left _ (List.mem_append_right _ h))) (by decide +kernel))
set_option maxRecDepth 20000 in
theorem gX9_overlap_X9_needPair : GoodIn wsX9_overlap (va_wsS RX9 119 yX9_needPair wsX9_needPair) := goodIn_app (goodIn_q _ [10, 11, 4] rfl (by decide +kernel)) ggX9_overlap_X9_needPair
set_option maxRecDepth 20000 in
theorem ggX9_overlap_X9_overlapOf : GoodIn wsX9_overlap wsX9_overlapOf := goodIn_ca (goodIn_ca (goodIn_q _ [27, 28, 29, 30, 31, 32, 33, 34, 35, 36, 37, 38, 39] rfl (by decide +kernel)) (goodIn_sub (fun _ h => (List.mem_cons_of_mem _ (List.mem_append_left _ (List.mem_append_left _ (List.mem_append_left _ (List.mem_append_right _ h)))))) tg_wsX20)) (goodIn_sub (fun _ h => List.mem_cons_of_mem _ (List.mem_append_right _ h)) (by decide +kernel))
set_option maxRecDepth 20000 in
theorem gX9_overlap_X9_overlapOf : GoodIn wsX9_overlap (va_wsS RX9 127 yX9_overlapOf wsX9_overlapOf) := goodIn_app (goodIn_q _ [25, 26, 4] rfl (by decide +kernel)) ggX9_overlap_X9_overlapOf
def dsX9_overlap_0 : ByteArray := ⟨#[42, 27, 182, 0, 77, 78, 42, 28, 182, 0, 77, 58, 4, 45, 25, 4]⟩
theorem daX9_overlap_0 : agB cX9_overlap dsX9_overlap_0 0 := agB_of (n := 16) (by decide +kernel)
theorem dbX9_overlap_0 : (decode dsX9_overlap_0 0 = .ok (.aload_n 0, 1) ∧ okop dsX9_overlap_0 0 = true) ∧ (decode dsX9_overlap_0 1 = .ok (.iload_n 1, 1) ∧ okop dsX9_overlap_0 1 = true) ∧ (decode dsX9_overlap_0 2 = .ok (.invokevirtual 77, 3) ∧ okop dsX9_overlap_0 2 = true) ∧ (decode dsX9_overlap_0 5 = .ok (.astore_n 3, 1) ∧ okop dsX9_overlap_0 5 = true) ∧ (decode dsX9_overlap_0 6 = .ok (.aload_n 0, 1) ∧ okop dsX9_overlap_0 6 = true) ∧ (decode dsX9_overlap_0 7 = .ok (.iload_n 2, 1) ∧ okop dsX9_overlap_0 7 = true) ∧ (decode dsX9_overlap_0 8 = .ok (.invokevirtual 77, 3) ∧ okop dsX9_overlap_0 8 = true) ∧ (decode dsX9_overlap_0 11 = .ok (.astore 4, 2) ∧ okop dsX9_overlap_0 11 = true) ∧ (decode dsX9_overlap_0 13 = .ok (.aload_n 3, 1) ∧ okop dsX9_overlap_0 13 = true) ∧ (decode dsX9_overlap_0 14 = .ok (.aload 4, 2) ∧ okop dsX9_overlap_0 14 = true) := by decide +kernel
theorem dX9_overlap_0 : decode cX9_overlap 0 = .ok (.aload_n 0, 1) := dgq (p := 0) daX9_overlap_0 dbX9_overlap_0.1
theorem dX9_overlap_1 : decode cX9_overlap 1 = .ok (.iload_n 1, 1) := dgq (p := 1) daX9_overlap_0 dbX9_overlap_0.2.1
theorem dX9_overlap_2 : decode cX9_overlap 2 = .ok (.invokevirtual 77, 3) := dgq (p := 2) daX9_overlap_0 dbX9_overlap_0.2.2.1
theorem dX9_overlap_5 : decode cX9_overlap 5 = .ok (.astore_n 3, 1) := dgq (p := 5) daX9_overlap_0 dbX9_overlap_0.2.2.2.1
theorem dX9_overlap_6 : decode cX9_overlap 6 = .ok (.aload_n 0, 1) := dgq (p := 6) daX9_overlap_0 dbX9_overlap_0.2.2.2.2.1
theorem dX9_overlap_7 : decode cX9_overlap 7 = .ok (.iload_n 2, 1) := dgq (p := 7) daX9_overlap_0 dbX9_overlap_0.2.2.2.2.2.1
theorem dX9_overlap_8 : decode cX9_overlap 8 = .ok (.invokevirtual 77, 3) := dgq (p := 8) daX9_overlap_0 dbX9_overlap_0.2.2.2.2.2.2.1
theorem dX9_overlap_11 : decode cX9_overlap 11 = .ok (.astore 4, 2) := dgq (p := 11) daX9_overlap_0 dbX9_overlap_0.2.2.2.2.2.2.2.1
theorem dX9_overlap_13 : decode cX9_overlap 13 = .ok (.aload_n 3, 1) := dgq (p := 13) daX9_overlap_0 dbX9_overlap_0.2.2.2.2.2.2.2.2.1
theorem dX9_overlap_14 : decode cX9_overlap 14 = .ok (.aload 4, 2) := dgq (p := 14) daX9_overlap_0 dbX9_overlap_0.2.2.2.2.2.2.2.2.2
def dsX9_overlap_16 : ByteArray := ⟨#[184, 0, 119, 45, 25, 4, 184, 0, 127, 173]⟩
theorem daX9_overlap_16 : agB cX9_overlap dsX9_overlap_16 16 := agB_of (n := 10) (by decide +kernel)
theorem dbX9_overlap_16 : (decode dsX9_overlap_16 0 = .ok (.invokestatic 119, 3) ∧ okop dsX9_overlap_16 0 = true) ∧ (decode dsX9_overlap_16 3 = .ok (.aload_n 3, 1) ∧ okop dsX9_overlap_16 3 = true) ∧ (decode dsX9_overlap_16 4 = .ok (.aload 4, 2) ∧ okop dsX9_overlap_16 4 = true) ∧ (decode dsX9_overlap_16 6 = .ok (.invokestatic 127, 3) ∧ okop dsX9_overlap_16 6 = true) ∧ (decode dsX9_overlap_16 9 = .ok (.lreturn, 1) ∧ okop dsX9_overlap_16 9 = true) := by decide +kernel
theorem dX9_overlap_16 : decode cX9_overlap 16 = .ok (.invokestatic 119, 3) := dgq (p := 0) daX9_overlap_16 dbX9_overlap_16.1
theorem dX9_overlap_19 : decode cX9_overlap 19 = .ok (.aload_n 3, 1) := dgq (p := 3) daX9_overlap_16 dbX9_overlap_16.2.1
theorem dX9_overlap_20 : decode cX9_overlap 20 = .ok (.aload 4, 2) := dgq (p := 4) daX9_overlap_16 dbX9_overlap_16.2.2.1
theorem dX9_overlap_22 : decode cX9_overlap 22 = .ok (.invokestatic 127, 3) := dgq (p := 6) daX9_overlap_16 dbX9_overlap_16.2.2.2.1
theorem dX9_overlap_25 : decode cX9_overlap 25 = .ok (.lreturn, 1) := dgq (p := 9) daX9_overlap_16 dbX9_overlap_16.2.2.2.2
set_option maxRecDepth 20000 in
theorem ggX9_runsWell_X9_gearAt : GoodIn wsX9_runsWell wsX9_gearAt := goodIn_ca (goodIn_ca (goodIn_q _ [7, 8, 9, 10, 11] rfl (by decide +kernel)) (goodIn_sub (fun _ h => (List.mem_cons_of_mem _ (List.mem_append_left _ (List.mem_append_left _ (List.mem_append_left _ (List.mem_append_right _ h)))))) tg_wsX90)) (goodIn_sub (fun _ h => List.mem_cons_of_mem _ (List.mem_append_left _ (List.mem_append_left _ (List.mem_append_right _ h)))) (by decide +kernel))
set_option maxRecDepth 20000 in
theorem gX9_runsWell_X9_gearAt : GoodIn wsX9_runsWell (wsV RX9 77 RX9 yX9_gearAt wsX9_gearAt) := goodIn_app (goodIn_q _ [3, 4, 5, 6] rfl (by decide +kernel)) ggX9_runsWell_X9_gearAt
set_option maxRecDepth 20000 in
theorem ggX9_runsWell_X9_needPair : GoodIn wsX9_runsWell wsX9_needPair := goodIn_ca (goodIn_ca (goodIn_q _ [14, 15, 16, 17, 18, 19, 20, 21, 22, 23, 6, 24, 25, 26] rfl (by decide +kernel)) (goodIn_sub (fun _ h => (List.mem_cons_of_mem _ (List.mem_append_left _ (List.mem_append_left _ (List.mem_append_left _ (List.mem_append_left _ (List.mem_append_right _ h))))))) tg_wsX20)) (goodIn_sub (fun _ h => List.mem_cons_of_mem _ (List.mem_append_left _ (List.mem_append_right _ h))) (by decide +kernel))
set_option maxRecDepth 20000 in
theorem gX9_runsWell_X9_needPair : GoodIn wsX9_runsWell (va_wsS RX9 119 yX9_needPair wsX9_needPair) := goodIn_app (goodIn_q _ [12, 13, 6] rfl (by decide +kernel)) ggX9_runsWell_X9_needPair
set_option maxRecDepth 20000 in
theorem ggX9_runsWell_X2_isGoodAt : GoodIn wsX9_runsWell wsX2_isGoodAt := goodIn_ca (goodIn_q _ [30, 31, 32, 6, 33, 34, 35] rfl (by decide +kernel)) (goodIn_sub (fun _ h => (List.mem_cons_of_mem _ (List.mem_append_left _ (List.mem_append_left _ (List.mem_append_left _ (List.mem_append_left _ (List.mem_append_right _ h))))))) tg_wsX20)
set_option maxRecDepth 20000 in
theorem gX9_runsWell_X2_isGoodAt : GoodIn wsX9_runsWell (wsV RX9 130 RX2 yX2_isGoodAt wsX2_isGoodAt) := goodIn_app (goodIn_q _ [27, 28, 29, 18] rfl (by decide +kernel)) ggX9_runsWell_X2_isGoodAt
set_option maxRecDepth 20000 in
theorem ggX9_runsWell_X9_contactOf : GoodIn wsX9_runsWell wsX9_contactOf := goodIn_ca (goodIn_ca (goodIn_q _ [38, 1, 39, 40, 41, 42, 43, 44, 45, 46, 47, 18, 48, 31, 20, 49, 50, 51, 52, 53, 54, 55, 56, 57, 58, 59, 6, 60, 61, 62, 63, 64] rfl (by decide +kernel)) (goodIn_sub (fun _ h => (List.mem_cons_of_mem _ (List.mem_append_left _ (List.mem_append_left _ (List.mem_append_left _ (List.mem_append_left _ (List.mem_append_right _ h))))))) tg_wsX20)) (goodIn_sub (fun _ h => List.mem_cons_of_mem _ (List.mem_append_right _ h)) (by decide +kernel))
set_option maxRecDepth 20000 in
theorem gX9_runsWell_X9_contactOf : GoodIn wsX9_runsWell (va_wsS RX9 123 yX9_contactOf wsX9_contactOf) := goodIn_app (goodIn_q _ [36, 37, 6] rfl (by decide +kernel)) ggX9_runsWell_X9_contactOf
set_option maxRecDepth 20000 in
theorem ggX9_runsWell_X9_overlapOf : GoodIn wsX9_runsWell wsX9_overlapOf := goodIn_ca (goodIn_ca (goodIn_q _ [67, 68, 69, 70, 71, 72, 73, 74, 75, 76, 43, 77, 42] rfl (by decide +kernel)) (goodIn_sub (fun _ h => (List.mem_cons_of_mem _ (List.mem_append_left _ (List.mem_append_left _ (List.mem_append_left _ (List.mem_append_left _ (List.mem_append_right _ h))))))) tg_wsX20)) (goodIn_sub (fun _ h => List.mem_cons_of_mem _ (List.mem_append_right _ h)) (by decide +kernel))
set_option maxRecDepth 20000 in
theorem gX9_runsWell_X9_overlapOf : GoodIn wsX9_runsWell (va_wsS RX9 127 yX9_overlapOf wsX9_overlapOf) := goodIn_app (goodIn_q _ [65, 66, 6] rfl (by decide +kernel)) ggX9_runsWell_X9_overlapOf
def dsX9_runsWell_0 : ByteArray := ⟨#[42, 27, 182, 0, 77, 78, 42, 28, 182, 0, 77, 58, 4, 45, 25, 4]⟩
theorem daX9_runsWell_0 : agB cX9_runsWell dsX9_runsWell_0 0 := agB_of (n := 16) (by decide +kernel)
theorem dbX9_runsWell_0 : (decode dsX9_runsWell_0 0 = .ok (.aload_n 0, 1) ∧ okop dsX9_runsWell_0 0 = true) ∧ (decode dsX9_runsWell_0 1 = .ok (.iload_n 1, 1) ∧ okop dsX9_runsWell_0 1 = true) ∧ (decode dsX9_runsWell_0 2 = .ok (.invokevirtual 77, 3) ∧ okop dsX9_runsWell_0 2 = true) ∧ (decode dsX9_runsWell_0 5 = .ok (.astore_n 3, 1) ∧ okop dsX9_runsWell_0 5 = true) ∧ (decode dsX9_runsWell_0 6 = .ok (.aload_n 0, 1) ∧ okop dsX9_runsWell_0 6 = true) ∧ (decode dsX9_runsWell_0 7 = .ok (.iload_n 2, 1) ∧ okop dsX9_runsWell_0 7 = true) ∧ (decode dsX9_runsWell_0 8 = .ok (.invokevirtual 77, 3) ∧ okop dsX9_runsWell_0 8 = true) ∧ (decode dsX9_runsWell_0 11 = .ok (.astore 4, 2) ∧ okop dsX9_runsWell_0 11 = true) ∧ (decode dsX9_runsWell_0 13 = .ok (.aload_n 3, 1) ∧ okop dsX9_runsWell_0 13 = true) ∧ (decode dsX9_runsWell_0 14 = .ok (.aload 4, 2) ∧ okop dsX9_runsWell_0 14 = true) := by decide +kernel
theorem dX9_runsWell_0 : decode cX9_runsWell 0 = .ok (.aload_n 0, 1) := dgq (p := 0) daX9_runsWell_0 dbX9_runsWell_0.1
theorem dX9_runsWell_1 : decode cX9_runsWell 1 = .ok (.iload_n 1, 1) := dgq (p := 1) daX9_runsWell_0 dbX9_runsWell_0.2.1
theorem dX9_runsWell_2 : decode cX9_runsWell 2 = .ok (.invokevirtual 77, 3) := dgq (p := 2) daX9_runsWell_0 dbX9_runsWell_0.2.2.1
theorem dX9_runsWell_5 : decode cX9_runsWell 5 = .ok (.astore_n 3, 1) := dgq (p := 5) daX9_runsWell_0 dbX9_runsWell_0.2.2.2.1
theorem dX9_runsWell_6 : decode cX9_runsWell 6 = .ok (.aload_n 0, 1) := dgq (p := 6) daX9_runsWell_0 dbX9_runsWell_0.2.2.2.2.1
theorem dX9_runsWell_7 : decode cX9_runsWell 7 = .ok (.iload_n 2, 1) := dgq (p := 7) daX9_runsWell_0 dbX9_runsWell_0.2.2.2.2.2.1
theorem dX9_runsWell_8 : decode cX9_runsWell 8 = .ok (.invokevirtual 77, 3) := dgq (p := 8) daX9_runsWell_0 dbX9_runsWell_0.2.2.2.2.2.2.1
theorem dX9_runsWell_11 : decode cX9_runsWell 11 = .ok (.astore 4, 2) := dgq (p := 11) daX9_runsWell_0 dbX9_runsWell_0.2.2.2.2.2.2.2.1
theorem dX9_runsWell_13 : decode cX9_runsWell 13 = .ok (.aload_n 3, 1) := dgq (p := 13) daX9_runsWell_0 dbX9_runsWell_0.2.2.2.2.2.2.2.2.1
theorem dX9_runsWell_14 : decode cX9_runsWell 14 = .ok (.aload 4, 2) := dgq (p := 14) daX9_runsWell_0 dbX9_runsWell_0.2.2.2.2.2.2.2.2.2
def dsX9_runsWell_16 : ByteArray := ⟨#[184, 0, 119, 45, 45, 180, 0, 89, 182, 0, 130, 153, 0, 40, 25, 4, 25, 4, 180, 0, 89, 182, 0, 130]⟩
theorem daX9_runsWell_16 : agB cX9_runsWell dsX9_runsWell_16 16 := agB_of (n := 24) (by decide +kernel)
theorem dbX9_runsWell_16 : (decode dsX9_runsWell_16 0 = .ok (.invokestatic 119, 3) ∧ okop dsX9_runsWell_16 0 = true) ∧ (decode dsX9_runsWell_16 3 = .ok (.aload_n 3, 1) ∧ okop dsX9_runsWell_16 3 = true) ∧ (decode dsX9_runsWell_16 4 = .ok (.aload_n 3, 1) ∧ okop dsX9_runsWell_16 4 = true) ∧ (decode dsX9_runsWell_16 5 = .ok (.getfield 89, 3) ∧ okop dsX9_runsWell_16 5 = true) ∧ (decode dsX9_runsWell_16 8 = .ok (.invokevirtual 130, 3) ∧ okop dsX9_runsWell_16 8 = true) ∧ (decode dsX9_runsWell_16 11 = .ok (.ifCond .eq 40, 3) ∧ okop dsX9_runsWell_16 11 = true) ∧ (decode dsX9_runsWell_16 14 = .ok (.aload 4, 2) ∧ okop dsX9_runsWell_16 14 = true) ∧ (decode dsX9_runsWell_16 16 = .ok (.aload 4, 2) ∧ okop dsX9_runsWell_16 16 = true) ∧ (decode dsX9_runsWell_16 18 = .ok (.getfield 89, 3) ∧ okop dsX9_runsWell_16 18 = true) ∧ (decode dsX9_runsWell_16 21 = .ok (.invokevirtual 130, 3) ∧ okop dsX9_runsWell_16 21 = true) := by decide +kernel
theorem dX9_runsWell_16 : decode cX9_runsWell 16 = .ok (.invokestatic 119, 3) := dgq (p := 0) daX9_runsWell_16 dbX9_runsWell_16.1
theorem dX9_runsWell_19 : decode cX9_runsWell 19 = .ok (.aload_n 3, 1) := dgq (p := 3) daX9_runsWell_16 dbX9_runsWell_16.2.1
theorem dX9_runsWell_20 : decode cX9_runsWell 20 = .ok (.aload_n 3, 1) := dgq (p := 4) daX9_runsWell_16 dbX9_runsWell_16.2.2.1
theorem dX9_runsWell_21 : decode cX9_runsWell 21 = .ok (.getfield 89, 3) := dgq (p := 5) daX9_runsWell_16 dbX9_runsWell_16.2.2.2.1
theorem dX9_runsWell_24 : decode cX9_runsWell 24 = .ok (.invokevirtual 130, 3) := dgq (p := 8) daX9_runsWell_16 dbX9_runsWell_16.2.2.2.2.1
theorem dX9_runsWell_27 : decode cX9_runsWell 27 = .ok (.ifCond .eq 40, 3) := dgq (p := 11) daX9_runsWell_16 dbX9_runsWell_16.2.2.2.2.2.1
theorem dX9_runsWell_30 : decode cX9_runsWell 30 = .ok (.aload 4, 2) := dgq (p := 14) daX9_runsWell_16 dbX9_runsWell_16.2.2.2.2.2.2.1
theorem dX9_runsWell_32 : decode cX9_runsWell 32 = .ok (.aload 4, 2) := dgq (p := 16) daX9_runsWell_16 dbX9_runsWell_16.2.2.2.2.2.2.2.1
theorem dX9_runsWell_34 : decode cX9_runsWell 34 = .ok (.getfield 89, 3) := dgq (p := 18) daX9_runsWell_16 dbX9_runsWell_16.2.2.2.2.2.2.2.2.1
theorem dX9_runsWell_37 : decode cX9_runsWell 37 = .ok (.invokevirtual 130, 3) := dgq (p := 21) daX9_runsWell_16 dbX9_runsWell_16.2.2.2.2.2.2.2.2.2
def dsX9_runsWell_40 : ByteArray := ⟨#[153, 0, 27, 45, 25, 4, 184, 0, 123, 45, 25, 4, 184, 0, 127, 97, 20, 0, 134, 148]⟩
theorem daX9_runsWell_40 : agB cX9_runsWell dsX9_runsWell_40 40 := agB_of (n := 20) (by decide +kernel)
theorem dbX9_runsWell_40 : (decode dsX9_runsWell_40 0 = .ok (.ifCond .eq 27, 3) ∧ okop dsX9_runsWell_40 0 = true) ∧ (decode dsX9_runsWell_40 3 = .ok (.aload_n 3, 1) ∧ okop dsX9_runsWell_40 3 = true) ∧ (decode dsX9_runsWell_40 4 = .ok (.aload 4, 2) ∧ okop dsX9_runsWell_40 4 = true) ∧ (decode dsX9_runsWell_40 6 = .ok (.invokestatic 123, 3) ∧ okop dsX9_runsWell_40 6 = true) ∧ (decode dsX9_runsWell_40 9 = .ok (.aload_n 3, 1) ∧ okop dsX9_runsWell_40 9 = true) ∧ (decode dsX9_runsWell_40 10 = .ok (.aload 4, 2) ∧ okop dsX9_runsWell_40 10 = true) ∧ (decode dsX9_runsWell_40 12 = .ok (.invokestatic 127, 3) ∧ okop dsX9_runsWell_40 12 = true) ∧ (decode dsX9_runsWell_40 15 = .ok (.ladd, 1) ∧ okop dsX9_runsWell_40 15 = true) ∧ (decode dsX9_runsWell_40 16 = .ok (.ldc2_w 134, 3) ∧ okop dsX9_runsWell_40 16 = true) ∧ (decode dsX9_runsWell_40 19 = .ok (.lcmp, 1) ∧ okop dsX9_runsWell_40 19 = true) := by decide +kernel
theorem dX9_runsWell_40 : decode cX9_runsWell 40 = .ok (.ifCond .eq 27, 3) := dgq (p := 0) daX9_runsWell_40 dbX9_runsWell_40.1
theorem dX9_runsWell_43 : decode cX9_runsWell 43 = .ok (.aload_n 3, 1) := dgq (p := 3) daX9_runsWell_40 dbX9_runsWell_40.2.1
theorem dX9_runsWell_44 : decode cX9_runsWell 44 = .ok (.aload 4, 2) := dgq (p := 4) daX9_runsWell_40 dbX9_runsWell_40.2.2.1
theorem dX9_runsWell_46 : decode cX9_runsWell 46 = .ok (.invokestatic 123, 3) := dgq (p := 6) daX9_runsWell_40 dbX9_runsWell_40.2.2.2.1
theorem dX9_runsWell_49 : decode cX9_runsWell 49 = .ok (.aload_n 3, 1) := dgq (p := 9) daX9_runsWell_40 dbX9_runsWell_40.2.2.2.2.1
theorem dX9_runsWell_50 : decode cX9_runsWell 50 = .ok (.aload 4, 2) := dgq (p := 10) daX9_runsWell_40 dbX9_runsWell_40.2.2.2.2.2.1
theorem dX9_runsWell_52 : decode cX9_runsWell 52 = .ok (.invokestatic 127, 3) := dgq (p := 12) daX9_runsWell_40 dbX9_runsWell_40.2.2.2.2.2.2.1
theorem dX9_runsWell_55 : decode cX9_runsWell 55 = .ok (.ladd, 1) := dgq (p := 15) daX9_runsWell_40 dbX9_runsWell_40.2.2.2.2.2.2.2.1
theorem dX9_runsWell_56 : decode cX9_runsWell 56 = .ok (.ldc2_w 134, 3) := dgq (p := 16) daX9_runsWell_40 dbX9_runsWell_40.2.2.2.2.2.2.2.2.1
theorem dX9_runsWell_59 : decode cX9_runsWell 59 = .ok (.lcmp, 1) := dgq (p := 19) daX9_runsWell_40 dbX9_runsWell_40.2.2.2.2.2.2.2.2.2
def dsX9_runsWell_60 : ByteArray := ⟨#[155, 0, 7, 4, 167, 0, 4, 3, 172]⟩
theorem daX9_runsWell_60 : agB cX9_runsWell dsX9_runsWell_60 60 := agB_of (n := 9) (by decide +kernel)
theorem dbX9_runsWell_60 : (decode dsX9_runsWell_60 0 = .ok (.ifCond .lt 7, 3) ∧ okop dsX9_runsWell_60 0 = true) ∧ (decode dsX9_runsWell_60 3 = .ok (.iconst 1, 1) ∧ okop dsX9_runsWell_60 3 = true) ∧ (decode dsX9_runsWell_60 4 = .ok (.goto 4, 3) ∧ okop dsX9_runsWell_60 4 = true) ∧ (decode dsX9_runsWell_60 7 = .ok (.iconst 0, 1) ∧ okop dsX9_runsWell_60 7 = true) ∧ (decode dsX9_runsWell_60 8 = .ok (.ireturn, 1) ∧ okop dsX9_runsWell_60 8 = true) := by decide +kernel
theorem dX9_runsWell_60 : decode cX9_runsWell 60 = .ok (.ifCond .lt 7, 3) := dgq (p := 0) daX9_runsWell_60 dbX9_runsWell_60.1
theorem dX9_runsWell_63 : decode cX9_runsWell 63 = .ok (.iconst 1, 1) := dgq (p := 3) daX9_runsWell_60 dbX9_runsWell_60.2.1
theorem dX9_runsWell_64 : decode cX9_runsWell 64 = .ok (.goto 4, 3) := dgq (p := 4) daX9_runsWell_60 dbX9_runsWell_60.2.2.1
theorem dX9_runsWell_67 : decode cX9_runsWell 67 = .ok (.iconst 0, 1) := dgq (p := 7) daX9_runsWell_60 dbX9_runsWell_60.2.2.2.1
theorem dX9_runsWell_68 : decode cX9_runsWell 68 = .ok (.ireturn, 1) := dgq (p := 8) daX9_runsWell_60 dbX9_runsWell_60.2.2.2.2
set_option maxRecDepth 20000 in
theorem ggX9_slide_X9_gearAt : GoodIn wsX9_slide wsX9_gearAt := goodIn_ca (goodIn_ca (goodIn_q _ [10, 11, 12, 13, 14] rfl (by decide +kernel)) (goodIn_sub (fun _ h => (List.mem_cons_of_mem _ (List.mem_append_left _ (List.mem_append_left _ (List.mem_append_right _ h))))) tg_wsX90)) (goodIn_sub (fun _ h => List.mem_cons_of_mem _ (List.mem_append_left _ (List.mem_append_right _ h))) (by decide +kernel))
set_option maxRecDepth 20000 in
theorem gX9_slide_X9_gearAt : GoodIn wsX9_slide (wsV RX9 77 RX9 yX9_gearAt wsX9_gearAt) := goodIn_app (goodIn_q _ [6, 7, 8, 9] rfl (by decide +kernel)) ggX9_slide_X9_gearAt
set_option maxRecDepth 20000 in
theorem ggX9_slide_X9_needPair : GoodIn wsX9_slide wsX9_needPair := goodIn_ca (goodIn_ca (goodIn_q _ [17, 18, 19, 20, 21, 22, 23, 24, 25, 26, 9, 27, 28, 29] rfl (by decide +kernel)) (goodIn_sub (fun _ h => (List.mem_cons_of_mem _ (List.mem_append_left _ (List.mem_append_left _ (List.mem_append_left _ (List.mem_append_right _ h)))))) tg_wsX20)) (goodIn_sub (fun _ h => List.mem_cons_of_mem _ (List.mem_append_right _ h)) (by decide +kernel))
set_option maxRecDepth 20000 in
theorem gX9_slide_X9_needPair : GoodIn wsX9_slide (va_wsS RX9 119 yX9_needPair wsX9_needPair) := goodIn_app (goodIn_q _ [15, 16, 9] rfl (by decide +kernel)) ggX9_slide_X9_needPair
set_option maxRecDepth 20000 in
theorem ggX9_slide_X2_wayAt : GoodIn wsX9_slide wsX2_wayAt := goodIn_ca (goodIn_q _ [33, 34, 35, 36, 37, 38, 21, 39, 40, 23, 41, 42, 43, 44, 45, 46, 47, 48, 49, 50, 9, 51, 52, 53] rfl (by decide +kernel)) (goodIn_sub (fun _ h => (List.mem_cons_of_mem _ (List.mem_append_left _ (List.mem_append_left _ (List.mem_append_left _ (List.mem_append_right _ h)))))) tg_wsX20)
set_option maxRecDepth 20000 in
theorem gX9_slide_X2_wayAt : GoodIn wsX9_slide (wsV RX9 136 RX2 yX2_wayAt wsX2_wayAt) := goodIn_app (goodIn_q _ [30, 31, 32, 21] rfl (by decide +kernel)) ggX9_slide_X2_wayAt
def dsX9_slide_0 : ByteArray := ⟨#[42, 27, 182, 0, 77, 78, 42, 28, 182, 0, 77, 58, 4, 45, 25, 4]⟩
theorem daX9_slide_0 : agB cX9_slide dsX9_slide_0 0 := agB_of (n := 16) (by decide +kernel)
theorem dbX9_slide_0 : (decode dsX9_slide_0 0 = .ok (.aload_n 0, 1) ∧ okop dsX9_slide_0 0 = true) ∧ (decode dsX9_slide_0 1 = .ok (.iload_n 1, 1) ∧ okop dsX9_slide_0 1 = true) ∧ (decode dsX9_slide_0 2 = .ok (.invokevirtual 77, 3) ∧ okop dsX9_slide_0 2 = true) ∧ (decode dsX9_slide_0 5 = .ok (.astore_n 3, 1) ∧ okop dsX9_slide_0 5 = true) ∧ (decode dsX9_slide_0 6 = .ok (.aload_n 0, 1) ∧ okop dsX9_slide_0 6 = true) ∧ (decode dsX9_slide_0 7 = .ok (.iload_n 2, 1) ∧ okop dsX9_slide_0 7 = true) ∧ (decode dsX9_slide_0 8 = .ok (.invokevirtual 77, 3) ∧ okop dsX9_slide_0 8 = true) ∧ (decode dsX9_slide_0 11 = .ok (.astore 4, 2) ∧ okop dsX9_slide_0 11 = true) ∧ (decode dsX9_slide_0 13 = .ok (.aload_n 3, 1) ∧ okop dsX9_slide_0 13 = true) ∧ (decode dsX9_slide_0 14 = .ok (.aload 4, 2) ∧ okop dsX9_slide_0 14 = true) := by decide +kernel
theorem dX9_slide_0 : decode cX9_slide 0 = .ok (.aload_n 0, 1) := dgq (p := 0) daX9_slide_0 dbX9_slide_0.1
theorem dX9_slide_1 : decode cX9_slide 1 = .ok (.iload_n 1, 1) := dgq (p := 1) daX9_slide_0 dbX9_slide_0.2.1
theorem dX9_slide_2 : decode cX9_slide 2 = .ok (.invokevirtual 77, 3) := dgq (p := 2) daX9_slide_0 dbX9_slide_0.2.2.1
theorem dX9_slide_5 : decode cX9_slide 5 = .ok (.astore_n 3, 1) := dgq (p := 5) daX9_slide_0 dbX9_slide_0.2.2.2.1
theorem dX9_slide_6 : decode cX9_slide 6 = .ok (.aload_n 0, 1) := dgq (p := 6) daX9_slide_0 dbX9_slide_0.2.2.2.2.1
theorem dX9_slide_7 : decode cX9_slide 7 = .ok (.iload_n 2, 1) := dgq (p := 7) daX9_slide_0 dbX9_slide_0.2.2.2.2.2.1
theorem dX9_slide_8 : decode cX9_slide 8 = .ok (.invokevirtual 77, 3) := dgq (p := 8) daX9_slide_0 dbX9_slide_0.2.2.2.2.2.2.1
theorem dX9_slide_11 : decode cX9_slide 11 = .ok (.astore 4, 2) := dgq (p := 11) daX9_slide_0 dbX9_slide_0.2.2.2.2.2.2.2.1
theorem dX9_slide_13 : decode cX9_slide 13 = .ok (.aload_n 3, 1) := dgq (p := 13) daX9_slide_0 dbX9_slide_0.2.2.2.2.2.2.2.2.1
theorem dX9_slide_14 : decode cX9_slide 14 = .ok (.aload 4, 2) := dgq (p := 14) daX9_slide_0 dbX9_slide_0.2.2.2.2.2.2.2.2.2
def dsX9_slide_16 : ByteArray := ⟨#[184, 0, 119, 45, 45, 180, 0, 89, 182, 0, 136, 25, 4, 25, 4, 180, 0, 89, 182, 0, 136, 101]⟩
theorem daX9_slide_16 : agB cX9_slide dsX9_slide_16 16 := agB_of (n := 22) (by decide +kernel)
theorem dbX9_slide_16 : (decode dsX9_slide_16 0 = .ok (.invokestatic 119, 3) ∧ okop dsX9_slide_16 0 = true) ∧ (decode dsX9_slide_16 3 = .ok (.aload_n 3, 1) ∧ okop dsX9_slide_16 3 = true) ∧ (decode dsX9_slide_16 4 = .ok (.aload_n 3, 1) ∧ okop dsX9_slide_16 4 = true) ∧ (decode dsX9_slide_16 5 = .ok (.getfield 89, 3) ∧ okop dsX9_slide_16 5 = true) ∧ (decode dsX9_slide_16 8 = .ok (.invokevirtual 136, 3) ∧ okop dsX9_slide_16 8 = true) ∧ (decode dsX9_slide_16 11 = .ok (.aload 4, 2) ∧ okop dsX9_slide_16 11 = true) ∧ (decode dsX9_slide_16 13 = .ok (.aload 4, 2) ∧ okop dsX9_slide_16 13 = true) ∧ (decode dsX9_slide_16 15 = .ok (.getfield 89, 3) ∧ okop dsX9_slide_16 15 = true) ∧ (decode dsX9_slide_16 18 = .ok (.invokevirtual 136, 3) ∧ okop dsX9_slide_16 18 = true) ∧ (decode dsX9_slide_16 21 = .ok (.lsub, 1) ∧ okop dsX9_slide_16 21 = true) := by decide +kernel
theorem dX9_slide_16 : decode cX9_slide 16 = .ok (.invokestatic 119, 3) := dgq (p := 0) daX9_slide_16 dbX9_slide_16.1
theorem dX9_slide_19 : decode cX9_slide 19 = .ok (.aload_n 3, 1) := dgq (p := 3) daX9_slide_16 dbX9_slide_16.2.1
theorem dX9_slide_20 : decode cX9_slide 20 = .ok (.aload_n 3, 1) := dgq (p := 4) daX9_slide_16 dbX9_slide_16.2.2.1
theorem dX9_slide_21 : decode cX9_slide 21 = .ok (.getfield 89, 3) := dgq (p := 5) daX9_slide_16 dbX9_slide_16.2.2.2.1
theorem dX9_slide_24 : decode cX9_slide 24 = .ok (.invokevirtual 136, 3) := dgq (p := 8) daX9_slide_16 dbX9_slide_16.2.2.2.2.1
theorem dX9_slide_27 : decode cX9_slide 27 = .ok (.aload 4, 2) := dgq (p := 11) daX9_slide_16 dbX9_slide_16.2.2.2.2.2.1
theorem dX9_slide_29 : decode cX9_slide 29 = .ok (.aload 4, 2) := dgq (p := 13) daX9_slide_16 dbX9_slide_16.2.2.2.2.2.2.1
theorem dX9_slide_31 : decode cX9_slide 31 = .ok (.getfield 89, 3) := dgq (p := 15) daX9_slide_16 dbX9_slide_16.2.2.2.2.2.2.2.1
theorem dX9_slide_34 : decode cX9_slide 34 = .ok (.invokevirtual 136, 3) := dgq (p := 18) daX9_slide_16 dbX9_slide_16.2.2.2.2.2.2.2.2.1
theorem dX9_slide_37 : decode cX9_slide 37 = .ok (.lsub, 1) := dgq (p := 21) daX9_slide_16 dbX9_slide_16.2.2.2.2.2.2.2.2.2
theorem dX9_slide_38 : decode cX9_slide 38 = .ok (.invokestatic 140, 3) := by decide +kernel
theorem dX9_slide_41 : decode cX9_slide 41 = .ok (.lreturn, 1) := by decide +kernel
set_option maxRecDepth 20000 in
theorem ggX9_balance_X9_gearAt : GoodIn wsX9_balance wsX9_gearAt := goodIn_ca (goodIn_ca (goodIn_q _ [9, 10, 11, 12, 13] rfl (by decide +kernel)) (goodIn_sub (fun _ h => (List.mem_cons_of_mem _ (List.mem_append_left _ (List.mem_append_left _ (List.mem_append_left _ (List.mem_append_right _ h)))))) tg_wsX90)) (goodIn_sub (fun _ h => List.mem_cons_of_mem _ (List.mem_append_left _ (List.mem_append_right _ h))) (by decide +kernel))
set_option maxRecDepth 20000 in
theorem gX9_balance_X9_gearAt : GoodIn wsX9_balance (wsV RX9 77 RX9 yX9_gearAt wsX9_gearAt) := goodIn_app (goodIn_q _ [5, 6, 7, 8] rfl (by decide +kernel)) ggX9_balance_X9_gearAt
set_option maxRecDepth 20000 in
theorem ggX9_balance_X9_needPair : GoodIn wsX9_balance wsX9_needPair := goodIn_ca (goodIn_ca (goodIn_q _ [16, 17, 18, 19, 20, 21, 22, 23, 24, 25, 8, 26, 27, 28] rfl (by decide +kernel)) (goodIn_sub (fun _ h => (List.mem_cons_of_mem _ (List.mem_append_left _ (List.mem_append_left _ (List.mem_append_left _ (List.mem_append_left _ (List.mem_append_right _ h))))))) tg_wsX20)) (goodIn_sub (fun _ h => List.mem_cons_of_mem _ (List.mem_append_right _ h)) (by decide +kernel))
set_option maxRecDepth 20000 in
theorem gX9_balance_X9_needPair : GoodIn wsX9_balance (va_wsS RX9 119 yX9_needPair wsX9_needPair) := goodIn_app (goodIn_q _ [14, 15, 8] rfl (by decide +kernel)) ggX9_balance_X9_needPair
set_option maxRecDepth 20000 in
theorem ggX9_balance_X9_allowOnly : GoodIn wsX9_balance wsX9_allowOnly := goodIn_ca (goodIn_q _ [26, 27, 28] rfl (by decide +kernel)) (goodIn_sub (fun _ h => List.mem_cons_of_mem _ (List.mem_append_right _ h)) (by decide +kernel))
set_option maxRecDepth 20000 in
theorem gX9_balance_X9_allowOnly : GoodIn wsX9_balance (va_wsS RX9 85 yX9_allowOnly wsX9_allowOnly) := goodIn_app (goodIn_q _ [24, 25, 8] rfl (by decide +kernel)) ggX9_balance_X9_allowOnly
set_option maxRecDepth 20000 in
theorem ggX9_balance_X9_balancedShift : GoodIn wsX9_balance wsX9_balancedShift := goodIn_ca (goodIn_q _ [31, 32, 33, 34, 35, 36, 37, 38, 8, 39, 40, 41, 42, 20, 43, 44, 45, 46, 47, 48, 49, 50, 51, 52, 53, 54, 55, 56, 57, 58, 22, 59, 60, 61, 62, 63, 64, 65, 66, 67, 68, 69, 70, 71] rfl (by decide +kernel)) (goodIn_sub (fun _ h => (List.mem_cons_of_mem _ (List.mem_append_left _ (List.mem_append_left _ (List.mem_append_left _ (List.mem_append_left _ (List.mem_append_right _ h))))))) tg_wsX20)
set_option maxRecDepth 20000 in
theorem gX9_balance_X9_balancedShift : GoodIn wsX9_balance (va_wsS RX9 146 yX9_balancedShift wsX9_balancedShift) := goodIn_app (goodIn_q _ [29, 30, 8] rfl (by decide +kernel)) ggX9_balance_X9_balancedShift
def dsX9_balance_0 : ByteArray := ⟨#[42, 27, 182, 0, 77, 78, 42, 28, 182, 0, 77, 58, 4, 45, 25, 4]⟩
theorem daX9_balance_0 : agB cX9_balance dsX9_balance_0 0 := agB_of (n := 16) (by decide +kernel)
theorem dbX9_balance_0 : (decode dsX9_balance_0 0 = .ok (.aload_n 0, 1) ∧ okop dsX9_balance_0 0 = true) ∧ (decode dsX9_balance_0 1 = .ok (.iload_n 1, 1) ∧ okop dsX9_balance_0 1 = true) ∧ (decode dsX9_balance_0 2 = .ok (.invokevirtual 77, 3) ∧ okop dsX9_balance_0 2 = true) ∧ (decode dsX9_balance_0 5 = .ok (.astore_n 3, 1) ∧ okop dsX9_balance_0 5 = true) ∧ (decode dsX9_balance_0 6 = .ok (.aload_n 0, 1) ∧ okop dsX9_balance_0 6 = true) ∧ (decode dsX9_balance_0 7 = .ok (.iload_n 2, 1) ∧ okop dsX9_balance_0 7 = true) ∧ (decode dsX9_balance_0 8 = .ok (.invokevirtual 77, 3) ∧ okop dsX9_balance_0 8 = true) ∧ (decode dsX9_balance_0 11 = .ok (.astore 4, 2) ∧ okop dsX9_balance_0 11 = true) ∧ (decode dsX9_balance_0 13 = .ok (.aload_n 3, 1) ∧ okop dsX9_balance_0 13 = true) ∧ (decode dsX9_balance_0 14 = .ok (.aload 4, 2) ∧ okop dsX9_balance_0 14 = true) := by decide +kernel
theorem dX9_balance_0 : decode cX9_balance 0 = .ok (.aload_n 0, 1) := dgq (p := 0) daX9_balance_0 dbX9_balance_0.1
theorem dX9_balance_1 : decode cX9_balance 1 = .ok (.iload_n 1, 1) := dgq (p := 1) daX9_balance_0 dbX9_balance_0.2.1
theorem dX9_balance_2 : decode cX9_balance 2 = .ok (.invokevirtual 77, 3) := dgq (p := 2) daX9_balance_0 dbX9_balance_0.2.2.1
theorem dX9_balance_5 : decode cX9_balance 5 = .ok (.astore_n 3, 1) := dgq (p := 5) daX9_balance_0 dbX9_balance_0.2.2.2.1
theorem dX9_balance_6 : decode cX9_balance 6 = .ok (.aload_n 0, 1) := dgq (p := 6) daX9_balance_0 dbX9_balance_0.2.2.2.2.1
theorem dX9_balance_7 : decode cX9_balance 7 = .ok (.iload_n 2, 1) := dgq (p := 7) daX9_balance_0 dbX9_balance_0.2.2.2.2.2.1
theorem dX9_balance_8 : decode cX9_balance 8 = .ok (.invokevirtual 77, 3) := dgq (p := 8) daX9_balance_0 dbX9_balance_0.2.2.2.2.2.2.1
theorem dX9_balance_11 : decode cX9_balance 11 = .ok (.astore 4, 2) := dgq (p := 11) daX9_balance_0 dbX9_balance_0.2.2.2.2.2.2.2.1
theorem dX9_balance_13 : decode cX9_balance 13 = .ok (.aload_n 3, 1) := dgq (p := 13) daX9_balance_0 dbX9_balance_0.2.2.2.2.2.2.2.2.1
theorem dX9_balance_14 : decode cX9_balance 14 = .ok (.aload 4, 2) := dgq (p := 14) daX9_balance_0 dbX9_balance_0.2.2.2.2.2.2.2.2.2
def dsX9_balance_16 : ByteArray := ⟨#[184, 0, 119, 45, 180, 0, 81, 154, 0, 15, 25, 4, 180, 0, 81, 154, 0, 7, 4, 167, 0, 4, 3]⟩
theorem daX9_balance_16 : agB cX9_balance dsX9_balance_16 16 := agB_of (n := 23) (by decide +kernel)
theorem dbX9_balance_16 : (decode dsX9_balance_16 0 = .ok (.invokestatic 119, 3) ∧ okop dsX9_balance_16 0 = true) ∧ (decode dsX9_balance_16 3 = .ok (.aload_n 3, 1) ∧ okop dsX9_balance_16 3 = true) ∧ (decode dsX9_balance_16 4 = .ok (.getfield 81, 3) ∧ okop dsX9_balance_16 4 = true) ∧ (decode dsX9_balance_16 7 = .ok (.ifCond .ne 15, 3) ∧ okop dsX9_balance_16 7 = true) ∧ (decode dsX9_balance_16 10 = .ok (.aload 4, 2) ∧ okop dsX9_balance_16 10 = true) ∧ (decode dsX9_balance_16 12 = .ok (.getfield 81, 3) ∧ okop dsX9_balance_16 12 = true) ∧ (decode dsX9_balance_16 15 = .ok (.ifCond .ne 7, 3) ∧ okop dsX9_balance_16 15 = true) ∧ (decode dsX9_balance_16 18 = .ok (.iconst 1, 1) ∧ okop dsX9_balance_16 18 = true) ∧ (decode dsX9_balance_16 19 = .ok (.goto 4, 3) ∧ okop dsX9_balance_16 19 = true) ∧ (decode dsX9_balance_16 22 = .ok (.iconst 0, 1) ∧ okop dsX9_balance_16 22 = true) := by decide +kernel
theorem dX9_balance_16 : decode cX9_balance 16 = .ok (.invokestatic 119, 3) := dgq (p := 0) daX9_balance_16 dbX9_balance_16.1
theorem dX9_balance_19 : decode cX9_balance 19 = .ok (.aload_n 3, 1) := dgq (p := 3) daX9_balance_16 dbX9_balance_16.2.1
theorem dX9_balance_20 : decode cX9_balance 20 = .ok (.getfield 81, 3) := dgq (p := 4) daX9_balance_16 dbX9_balance_16.2.2.1
theorem dX9_balance_23 : decode cX9_balance 23 = .ok (.ifCond .ne 15, 3) := dgq (p := 7) daX9_balance_16 dbX9_balance_16.2.2.2.1
theorem dX9_balance_26 : decode cX9_balance 26 = .ok (.aload 4, 2) := dgq (p := 10) daX9_balance_16 dbX9_balance_16.2.2.2.2.1
theorem dX9_balance_28 : decode cX9_balance 28 = .ok (.getfield 81, 3) := dgq (p := 12) daX9_balance_16 dbX9_balance_16.2.2.2.2.2.1
theorem dX9_balance_31 : decode cX9_balance 31 = .ok (.ifCond .ne 7, 3) := dgq (p := 15) daX9_balance_16 dbX9_balance_16.2.2.2.2.2.2.1
theorem dX9_balance_34 : decode cX9_balance 34 = .ok (.iconst 1, 1) := dgq (p := 18) daX9_balance_16 dbX9_balance_16.2.2.2.2.2.2.2.1
theorem dX9_balance_35 : decode cX9_balance 35 = .ok (.goto 4, 3) := dgq (p := 19) daX9_balance_16 dbX9_balance_16.2.2.2.2.2.2.2.2.1
theorem dX9_balance_38 : decode cX9_balance 38 = .ok (.iconst 0, 1) := dgq (p := 22) daX9_balance_16 dbX9_balance_16.2.2.2.2.2.2.2.2.2
def dsX9_balance_39 : ByteArray := ⟨#[184, 0, 85, 45, 25, 4, 184, 0, 146, 54, 5, 21, 5, 16, 50, 164, 0, 13, 187, 0, 150, 89]⟩
theorem daX9_balance_39 : agB cX9_balance dsX9_balance_39 39 := agB_of (n := 22) (by decide +kernel)
theorem dbX9_balance_39 : (decode dsX9_balance_39 0 = .ok (.invokestatic 85, 3) ∧ okop dsX9_balance_39 0 = true) ∧ (decode dsX9_balance_39 3 = .ok (.aload_n 3, 1) ∧ okop dsX9_balance_39 3 = true) ∧ (decode dsX9_balance_39 4 = .ok (.aload 4, 2) ∧ okop dsX9_balance_39 4 = true) ∧ (decode dsX9_balance_39 6 = .ok (.invokestatic 146, 3) ∧ okop dsX9_balance_39 6 = true) ∧ (decode dsX9_balance_39 9 = .ok (.istore 5, 2) ∧ okop dsX9_balance_39 9 = true) ∧ (decode dsX9_balance_39 11 = .ok (.iload 5, 2) ∧ okop dsX9_balance_39 11 = true) ∧ (decode dsX9_balance_39 13 = .ok (.bipush 50, 2) ∧ okop dsX9_balance_39 13 = true) ∧ (decode dsX9_balance_39 15 = .ok (.if_icmp .le 13, 3) ∧ okop dsX9_balance_39 15 = true) ∧ (decode dsX9_balance_39 18 = .ok (.new 150, 3) ∧ okop dsX9_balance_39 18 = true) ∧ (decode dsX9_balance_39 21 = .ok (.dup, 1) ∧ okop dsX9_balance_39 21 = true) := by decide +kernel
theorem dX9_balance_39 : decode cX9_balance 39 = .ok (.invokestatic 85, 3) := dgq (p := 0) daX9_balance_39 dbX9_balance_39.1
theorem dX9_balance_42 : decode cX9_balance 42 = .ok (.aload_n 3, 1) := dgq (p := 3) daX9_balance_39 dbX9_balance_39.2.1
theorem dX9_balance_43 : decode cX9_balance 43 = .ok (.aload 4, 2) := dgq (p := 4) daX9_balance_39 dbX9_balance_39.2.2.1
theorem dX9_balance_45 : decode cX9_balance 45 = .ok (.invokestatic 146, 3) := dgq (p := 6) daX9_balance_39 dbX9_balance_39.2.2.2.1
theorem dX9_balance_48 : decode cX9_balance 48 = .ok (.istore 5, 2) := dgq (p := 9) daX9_balance_39 dbX9_balance_39.2.2.2.2.1
theorem dX9_balance_50 : decode cX9_balance 50 = .ok (.iload 5, 2) := dgq (p := 11) daX9_balance_39 dbX9_balance_39.2.2.2.2.2.1
theorem dX9_balance_52 : decode cX9_balance 52 = .ok (.bipush 50, 2) := dgq (p := 13) daX9_balance_39 dbX9_balance_39.2.2.2.2.2.2.1
theorem dX9_balance_54 : decode cX9_balance 54 = .ok (.if_icmp .le 13, 3) := dgq (p := 15) daX9_balance_39 dbX9_balance_39.2.2.2.2.2.2.2.1
theorem dX9_balance_57 : decode cX9_balance 57 = .ok (.new 150, 3) := dgq (p := 18) daX9_balance_39 dbX9_balance_39.2.2.2.2.2.2.2.2.1
theorem dX9_balance_60 : decode cX9_balance 60 = .ok (.dup, 1) := dgq (p := 21) daX9_balance_39 dbX9_balance_39.2.2.2.2.2.2.2.2.2
def dsX9_balance_61 : ByteArray := ⟨#[18, 152, 183, 0, 154, 191, 45, 21, 5, 181, 0, 89, 25, 4, 21, 5, 116, 181, 0, 89]⟩
theorem daX9_balance_61 : agB cX9_balance dsX9_balance_61 61 := agB_of (n := 20) (by decide +kernel)
theorem dbX9_balance_61 : (decode dsX9_balance_61 0 = .ok (.ldc 152, 2) ∧ okop dsX9_balance_61 0 = true) ∧ (decode dsX9_balance_61 2 = .ok (.invokespecial 154, 3) ∧ okop dsX9_balance_61 2 = true) ∧ (decode dsX9_balance_61 5 = .ok (.athrow, 1) ∧ okop dsX9_balance_61 5 = true) ∧ (decode dsX9_balance_61 6 = .ok (.aload_n 3, 1) ∧ okop dsX9_balance_61 6 = true) ∧ (decode dsX9_balance_61 7 = .ok (.iload 5, 2) ∧ okop dsX9_balance_61 7 = true) ∧ (decode dsX9_balance_61 9 = .ok (.putfield 89, 3) ∧ okop dsX9_balance_61 9 = true) ∧ (decode dsX9_balance_61 12 = .ok (.aload 4, 2) ∧ okop dsX9_balance_61 12 = true) ∧ (decode dsX9_balance_61 14 = .ok (.iload 5, 2) ∧ okop dsX9_balance_61 14 = true) ∧ (decode dsX9_balance_61 16 = .ok (.ineg, 1) ∧ okop dsX9_balance_61 16 = true) ∧ (decode dsX9_balance_61 17 = .ok (.putfield 89, 3) ∧ okop dsX9_balance_61 17 = true) := by decide +kernel
theorem dX9_balance_61 : decode cX9_balance 61 = .ok (.ldc 152, 2) := dgq (p := 0) daX9_balance_61 dbX9_balance_61.1
theorem dX9_balance_63 : decode cX9_balance 63 = .ok (.invokespecial 154, 3) := dgq (p := 2) daX9_balance_61 dbX9_balance_61.2.1
theorem dX9_balance_66 : decode cX9_balance 66 = .ok (.athrow, 1) := dgq (p := 5) daX9_balance_61 dbX9_balance_61.2.2.1
theorem dX9_balance_67 : decode cX9_balance 67 = .ok (.aload_n 3, 1) := dgq (p := 6) daX9_balance_61 dbX9_balance_61.2.2.2.1
theorem dX9_balance_68 : decode cX9_balance 68 = .ok (.iload 5, 2) := dgq (p := 7) daX9_balance_61 dbX9_balance_61.2.2.2.2.1
theorem dX9_balance_70 : decode cX9_balance 70 = .ok (.putfield 89, 3) := dgq (p := 9) daX9_balance_61 dbX9_balance_61.2.2.2.2.2.1
theorem dX9_balance_73 : decode cX9_balance 73 = .ok (.aload 4, 2) := dgq (p := 12) daX9_balance_61 dbX9_balance_61.2.2.2.2.2.2.1
theorem dX9_balance_75 : decode cX9_balance 75 = .ok (.iload 5, 2) := dgq (p := 14) daX9_balance_61 dbX9_balance_61.2.2.2.2.2.2.2.1
theorem dX9_balance_77 : decode cX9_balance 77 = .ok (.ineg, 1) := dgq (p := 16) daX9_balance_61 dbX9_balance_61.2.2.2.2.2.2.2.2.1
theorem dX9_balance_78 : decode cX9_balance 78 = .ok (.putfield 89, 3) := dgq (p := 17) daX9_balance_61 dbX9_balance_61.2.2.2.2.2.2.2.2.2
theorem dX9_balance_81 : decode cX9_balance 81 = .ok (.iload 5, 2) := by decide +kernel
theorem dX9_balance_83 : decode cX9_balance 83 = .ok (.ireturn, 1) := by decide +kernel
set_option maxRecDepth 20000 in
theorem ggX9_section_X9_gearAt : GoodIn wsX9_section wsX9_gearAt := goodIn_ca (goodIn_ca (goodIn_q _ [9, 10, 11, 12, 13] rfl (by decide +kernel)) (goodIn_sub (fun _ h => (List.mem_cons_of_mem _ (List.mem_append_left _ (List.mem_append_left _ (List.mem_append_left _ (List.mem_append_left _ (List.mem_append_right _ h))))))) tg_wsX90)) (goodIn_sub (fun _ h => List.mem_cons_of_mem _ (List.mem_append_left _ (List.mem_append_left _ (List.mem_append_right _ h)))) (by decide +kernel))
set_option maxRecDepth 20000 in
theorem gX9_section_X9_gearAt : GoodIn wsX9_section (wsV RX9 77 RX9 yX9_gearAt wsX9_gearAt) := goodIn_app (goodIn_q _ [5, 6, 7, 8] rfl (by decide +kernel)) ggX9_section_X9_gearAt
set_option maxRecDepth 20000 in
theorem ggX9_section_X9_needRange : GoodIn wsX9_section wsX9_needRange := goodIn_ca (goodIn_q _ [16, 17, 18] rfl (by decide +kernel)) (goodIn_sub (fun _ h => List.mem_cons_of_mem _ (List.mem_append_left _ (List.mem_append_right _ h))) (by decide +kernel))
set_option maxRecDepth 20000 in
theorem gX9_section_X9_needRange : GoodIn wsX9_section (va_wsS RX9 59 yX9_needRange wsX9_needRange) := goodIn_app (goodIn_q _ [14, 15, 8] rfl (by decide +kernel)) ggX9_section_X9_needRange
set_option maxRecDepth 20000 in
theorem ggX9_section_X2_pitchDiameter : GoodIn wsX9_section wsX2_pitchDiameter := goodIn_ca (goodIn_q _ [23, 24, 25] rfl (by decide +kernel)) (goodIn_sub (fun _ h => (List.mem_cons_of_mem _ (List.mem_append_left _ (List.mem_append_left _ (List.mem_append_left _ (List.mem_append_left _ (List.mem_append_left _ (List.mem_append_right _ h)))))))) tg_wsX20)
set_option maxRecDepth 20000 in
theorem gX9_section_X2_pitchDiameter : GoodIn wsX9_section (wsV RX9 92 RX2 yX2_pitchDiameter wsX2_pitchDiameter) := goodIn_app (goodIn_q _ [19, 20, 21, 22] rfl (by decide +kernel)) ggX9_section_X2_pitchDiameter
set_option maxRecDepth 20000 in
theorem ggX9_section_X9_root : GoodIn wsX9_section wsX9_root := goodIn_q _ [28] rfl (by decide +kernel)
set_option maxRecDepth 20000 in
theorem gX9_section_X9_root : GoodIn wsX9_section (va_wsS RX9 155 yX9_root wsX9_root) := goodIn_app (goodIn_q _ [26, 27, 8] rfl (by decide +kernel)) ggX9_section_X9_root
set_option maxRecDepth 20000 in
theorem ggX9_section_X9_allowOnly : GoodIn wsX9_section wsX9_allowOnly := goodIn_ca (goodIn_q _ [31, 32, 33] rfl (by decide +kernel)) (goodIn_sub (fun _ h => List.mem_cons_of_mem _ (List.mem_append_right _ h)) (by decide +kernel))
set_option maxRecDepth 20000 in
theorem gX9_section_X9_allowOnly : GoodIn wsX9_section (va_wsS RX9 85 yX9_allowOnly wsX9_allowOnly) := goodIn_app (goodIn_q _ [29, 30, 8] rfl (by decide +kernel)) ggX9_section_X9_allowOnly
def dsX9_section_0 : ByteArray := ⟨#[42, 27, 182, 0, 77, 58, 5, 42, 28, 182, 0, 77, 58, 6, 21, 4, 4]⟩
theorem daX9_section_0 : agB cX9_section dsX9_section_0 0 := agB_of (n := 17) (by decide +kernel)
theorem dbX9_section_0 : (decode dsX9_section_0 0 = .ok (.aload_n 0, 1) ∧ okop dsX9_section_0 0 = true) ∧ (decode dsX9_section_0 1 = .ok (.iload_n 1, 1) ∧ okop dsX9_section_0 1 = true) ∧ (decode dsX9_section_0 2 = .ok (.invokevirtual 77, 3) ∧ okop dsX9_section_0 2 = true) ∧ (decode dsX9_section_0 5 = .ok (.astore 5, 2) ∧ okop dsX9_section_0 5 = true) ∧ (decode dsX9_section_0 7 = .ok (.aload_n 0, 1) ∧ okop dsX9_section_0 7 = true) ∧ (decode dsX9_section_0 8 = .ok (.iload_n 2, 1) ∧ okop dsX9_section_0 8 = true) ∧ (decode dsX9_section_0 9 = .ok (.invokevirtual 77, 3) ∧ okop dsX9_section_0 9 = true) ∧ (decode dsX9_section_0 12 = .ok (.astore 6, 2) ∧ okop dsX9_section_0 12 = true) ∧ (decode dsX9_section_0 14 = .ok (.iload 4, 2) ∧ okop dsX9_section_0 14 = true) ∧ (decode dsX9_section_0 16 = .ok (.iconst 1, 1) ∧ okop dsX9_section_0 16 = true) := by decide +kernel
theorem dX9_section_0 : decode cX9_section 0 = .ok (.aload_n 0, 1) := dgq (p := 0) daX9_section_0 dbX9_section_0.1
theorem dX9_section_1 : decode cX9_section 1 = .ok (.iload_n 1, 1) := dgq (p := 1) daX9_section_0 dbX9_section_0.2.1
theorem dX9_section_2 : decode cX9_section 2 = .ok (.invokevirtual 77, 3) := dgq (p := 2) daX9_section_0 dbX9_section_0.2.2.1
theorem dX9_section_5 : decode cX9_section 5 = .ok (.astore 5, 2) := dgq (p := 5) daX9_section_0 dbX9_section_0.2.2.2.1
theorem dX9_section_7 : decode cX9_section 7 = .ok (.aload_n 0, 1) := dgq (p := 7) daX9_section_0 dbX9_section_0.2.2.2.2.1
theorem dX9_section_8 : decode cX9_section 8 = .ok (.iload_n 2, 1) := dgq (p := 8) daX9_section_0 dbX9_section_0.2.2.2.2.2.1
theorem dX9_section_9 : decode cX9_section 9 = .ok (.invokevirtual 77, 3) := dgq (p := 9) daX9_section_0 dbX9_section_0.2.2.2.2.2.2.1
theorem dX9_section_12 : decode cX9_section 12 = .ok (.astore 6, 2) := dgq (p := 12) daX9_section_0 dbX9_section_0.2.2.2.2.2.2.2.1
theorem dX9_section_14 : decode cX9_section 14 = .ok (.iload 4, 2) := dgq (p := 14) daX9_section_0 dbX9_section_0.2.2.2.2.2.2.2.2.1
theorem dX9_section_16 : decode cX9_section 16 = .ok (.iconst 1, 1) := dgq (p := 16) daX9_section_0 dbX9_section_0.2.2.2.2.2.2.2.2.2
def dsX9_section_17 : ByteArray := ⟨#[16, 50, 184, 0, 59, 29, 3, 21, 4, 4, 100, 184, 0, 59, 25, 5, 182, 0, 92]⟩
theorem daX9_section_17 : agB cX9_section dsX9_section_17 17 := agB_of (n := 19) (by decide +kernel)
theorem dbX9_section_17 : (decode dsX9_section_17 0 = .ok (.bipush 50, 2) ∧ okop dsX9_section_17 0 = true) ∧ (decode dsX9_section_17 2 = .ok (.invokestatic 59, 3) ∧ okop dsX9_section_17 2 = true) ∧ (decode dsX9_section_17 5 = .ok (.iload_n 3, 1) ∧ okop dsX9_section_17 5 = true) ∧ (decode dsX9_section_17 6 = .ok (.iconst 0, 1) ∧ okop dsX9_section_17 6 = true) ∧ (decode dsX9_section_17 7 = .ok (.iload 4, 2) ∧ okop dsX9_section_17 7 = true) ∧ (decode dsX9_section_17 9 = .ok (.iconst 1, 1) ∧ okop dsX9_section_17 9 = true) ∧ (decode dsX9_section_17 10 = .ok (.isub, 1) ∧ okop dsX9_section_17 10 = true) ∧ (decode dsX9_section_17 11 = .ok (.invokestatic 59, 3) ∧ okop dsX9_section_17 11 = true) ∧ (decode dsX9_section_17 14 = .ok (.aload 5, 2) ∧ okop dsX9_section_17 14 = true) ∧ (decode dsX9_section_17 16 = .ok (.invokevirtual 92, 3) ∧ okop dsX9_section_17 16 = true) := by decide +kernel
theorem dX9_section_17 : decode cX9_section 17 = .ok (.bipush 50, 2) := dgq (p := 0) daX9_section_17 dbX9_section_17.1
theorem dX9_section_19 : decode cX9_section 19 = .ok (.invokestatic 59, 3) := dgq (p := 2) daX9_section_17 dbX9_section_17.2.1
theorem dX9_section_22 : decode cX9_section 22 = .ok (.iload_n 3, 1) := dgq (p := 5) daX9_section_17 dbX9_section_17.2.2.1
theorem dX9_section_23 : decode cX9_section 23 = .ok (.iconst 0, 1) := dgq (p := 6) daX9_section_17 dbX9_section_17.2.2.2.1
theorem dX9_section_24 : decode cX9_section 24 = .ok (.iload 4, 2) := dgq (p := 7) daX9_section_17 dbX9_section_17.2.2.2.2.1
theorem dX9_section_26 : decode cX9_section 26 = .ok (.iconst 1, 1) := dgq (p := 9) daX9_section_17 dbX9_section_17.2.2.2.2.2.1
theorem dX9_section_27 : decode cX9_section 27 = .ok (.isub, 1) := dgq (p := 10) daX9_section_17 dbX9_section_17.2.2.2.2.2.2.1
theorem dX9_section_28 : decode cX9_section 28 = .ok (.invokestatic 59, 3) := dgq (p := 11) daX9_section_17 dbX9_section_17.2.2.2.2.2.2.2.1
theorem dX9_section_31 : decode cX9_section 31 = .ok (.aload 5, 2) := dgq (p := 14) daX9_section_17 dbX9_section_17.2.2.2.2.2.2.2.2.1
theorem dX9_section_33 : decode cX9_section 33 = .ok (.invokevirtual 92, 3) := dgq (p := 16) daX9_section_17 dbX9_section_17.2.2.2.2.2.2.2.2.2
def dsX9_section_36 : ByteArray := ⟨#[133, 55, 7, 25, 6, 182, 0, 92, 133, 55, 9, 22, 7, 22, 7, 105, 22, 9]⟩
theorem daX9_section_36 : agB cX9_section dsX9_section_36 36 := agB_of (n := 18) (by decide +kernel)
theorem dbX9_section_36 : (decode dsX9_section_36 0 = .ok (.i2l, 1) ∧ okop dsX9_section_36 0 = true) ∧ (decode dsX9_section_36 1 = .ok (.lstore 7, 2) ∧ okop dsX9_section_36 1 = true) ∧ (decode dsX9_section_36 3 = .ok (.aload 6, 2) ∧ okop dsX9_section_36 3 = true) ∧ (decode dsX9_section_36 5 = .ok (.invokevirtual 92, 3) ∧ okop dsX9_section_36 5 = true) ∧ (decode dsX9_section_36 8 = .ok (.i2l, 1) ∧ okop dsX9_section_36 8 = true) ∧ (decode dsX9_section_36 9 = .ok (.lstore 9, 2) ∧ okop dsX9_section_36 9 = true) ∧ (decode dsX9_section_36 11 = .ok (.lload 7, 2) ∧ okop dsX9_section_36 11 = true) ∧ (decode dsX9_section_36 13 = .ok (.lload 7, 2) ∧ okop dsX9_section_36 13 = true) ∧ (decode dsX9_section_36 15 = .ok (.lmul, 1) ∧ okop dsX9_section_36 15 = true) ∧ (decode dsX9_section_36 16 = .ok (.lload 9, 2) ∧ okop dsX9_section_36 16 = true) := by decide +kernel
theorem dX9_section_36 : decode cX9_section 36 = .ok (.i2l, 1) := dgq (p := 0) daX9_section_36 dbX9_section_36.1
theorem dX9_section_37 : decode cX9_section 37 = .ok (.lstore 7, 2) := dgq (p := 1) daX9_section_36 dbX9_section_36.2.1
theorem dX9_section_39 : decode cX9_section 39 = .ok (.aload 6, 2) := dgq (p := 3) daX9_section_36 dbX9_section_36.2.2.1
theorem dX9_section_41 : decode cX9_section 41 = .ok (.invokevirtual 92, 3) := dgq (p := 5) daX9_section_36 dbX9_section_36.2.2.2.1
theorem dX9_section_44 : decode cX9_section 44 = .ok (.i2l, 1) := dgq (p := 8) daX9_section_36 dbX9_section_36.2.2.2.2.1
theorem dX9_section_45 : decode cX9_section 45 = .ok (.lstore 9, 2) := dgq (p := 9) daX9_section_36 dbX9_section_36.2.2.2.2.2.1
theorem dX9_section_47 : decode cX9_section 47 = .ok (.lload 7, 2) := dgq (p := 11) daX9_section_36 dbX9_section_36.2.2.2.2.2.2.1
theorem dX9_section_49 : decode cX9_section 49 = .ok (.lload 7, 2) := dgq (p := 13) daX9_section_36 dbX9_section_36.2.2.2.2.2.2.2.1
theorem dX9_section_51 : decode cX9_section 51 = .ok (.lmul, 1) := dgq (p := 15) daX9_section_36 dbX9_section_36.2.2.2.2.2.2.2.2.1
theorem dX9_section_52 : decode cX9_section 52 = .ok (.lload 9, 2) := dgq (p := 16) daX9_section_36 dbX9_section_36.2.2.2.2.2.2.2.2.2
def dsX9_section_54 : ByteArray := ⟨#[22, 9, 105, 97, 184, 0, 155, 20, 0, 158, 109, 55, 11, 25, 5, 180, 0, 160, 133]⟩
theorem daX9_section_54 : agB cX9_section dsX9_section_54 54 := agB_of (n := 19) (by decide +kernel)
theorem dbX9_section_54 : (decode dsX9_section_54 0 = .ok (.lload 9, 2) ∧ okop dsX9_section_54 0 = true) ∧ (decode dsX9_section_54 2 = .ok (.lmul, 1) ∧ okop dsX9_section_54 2 = true) ∧ (decode dsX9_section_54 3 = .ok (.ladd, 1) ∧ okop dsX9_section_54 3 = true) ∧ (decode dsX9_section_54 4 = .ok (.invokestatic 155, 3) ∧ okop dsX9_section_54 4 = true) ∧ (decode dsX9_section_54 7 = .ok (.ldc2_w 158, 3) ∧ okop dsX9_section_54 7 = true) ∧ (decode dsX9_section_54 10 = .ok (.ldiv, 1) ∧ okop dsX9_section_54 10 = true) ∧ (decode dsX9_section_54 11 = .ok (.lstore 11, 2) ∧ okop dsX9_section_54 11 = true) ∧ (decode dsX9_section_54 13 = .ok (.aload 5, 2) ∧ okop dsX9_section_54 13 = true) ∧ (decode dsX9_section_54 15 = .ok (.getfield 160, 3) ∧ okop dsX9_section_54 15 = true) ∧ (decode dsX9_section_54 18 = .ok (.i2l, 1) ∧ okop dsX9_section_54 18 = true) := by decide +kernel
theorem dX9_section_54 : decode cX9_section 54 = .ok (.lload 9, 2) := dgq (p := 0) daX9_section_54 dbX9_section_54.1
theorem dX9_section_56 : decode cX9_section 56 = .ok (.lmul, 1) := dgq (p := 2) daX9_section_54 dbX9_section_54.2.1
theorem dX9_section_57 : decode cX9_section 57 = .ok (.ladd, 1) := dgq (p := 3) daX9_section_54 dbX9_section_54.2.2.1
theorem dX9_section_58 : decode cX9_section 58 = .ok (.invokestatic 155, 3) := dgq (p := 4) daX9_section_54 dbX9_section_54.2.2.2.1
theorem dX9_section_61 : decode cX9_section 61 = .ok (.ldc2_w 158, 3) := dgq (p := 7) daX9_section_54 dbX9_section_54.2.2.2.2.1
theorem dX9_section_64 : decode cX9_section 64 = .ok (.ldiv, 1) := dgq (p := 10) daX9_section_54 dbX9_section_54.2.2.2.2.2.1
theorem dX9_section_65 : decode cX9_section 65 = .ok (.lstore 11, 2) := dgq (p := 11) daX9_section_54 dbX9_section_54.2.2.2.2.2.2.1
theorem dX9_section_67 : decode cX9_section 67 = .ok (.aload 5, 2) := dgq (p := 13) daX9_section_54 dbX9_section_54.2.2.2.2.2.2.2.1
theorem dX9_section_69 : decode cX9_section 69 = .ok (.getfield 160, 3) := dgq (p := 15) daX9_section_54 dbX9_section_54.2.2.2.2.2.2.2.2.1
theorem dX9_section_72 : decode cX9_section 72 = .ok (.i2l, 1) := dgq (p := 18) daX9_section_54 dbX9_section_54.2.2.2.2.2.2.2.2.2
def dsX9_section_73 : ByteArray := ⟨#[22, 11, 20, 0, 163, 109, 148, 157, 0, 27, 25, 5, 180, 0, 165, 25, 6, 180, 0, 165, 160, 0, 14]⟩
theorem daX9_section_73 : agB cX9_section dsX9_section_73 73 := agB_of (n := 23) (by decide +kernel)
theorem dbX9_section_73 : (decode dsX9_section_73 0 = .ok (.lload 11, 2) ∧ okop dsX9_section_73 0 = true) ∧ (decode dsX9_section_73 2 = .ok (.ldc2_w 163, 3) ∧ okop dsX9_section_73 2 = true) ∧ (decode dsX9_section_73 5 = .ok (.ldiv, 1) ∧ okop dsX9_section_73 5 = true) ∧ (decode dsX9_section_73 6 = .ok (.lcmp, 1) ∧ okop dsX9_section_73 6 = true) ∧ (decode dsX9_section_73 7 = .ok (.ifCond .gt 27, 3) ∧ okop dsX9_section_73 7 = true) ∧ (decode dsX9_section_73 10 = .ok (.aload 5, 2) ∧ okop dsX9_section_73 10 = true) ∧ (decode dsX9_section_73 12 = .ok (.getfield 165, 3) ∧ okop dsX9_section_73 12 = true) ∧ (decode dsX9_section_73 15 = .ok (.aload 6, 2) ∧ okop dsX9_section_73 15 = true) ∧ (decode dsX9_section_73 17 = .ok (.getfield 165, 3) ∧ okop dsX9_section_73 17 = true) ∧ (decode dsX9_section_73 20 = .ok (.if_icmp .ne 14, 3) ∧ okop dsX9_section_73 20 = true) := by decide +kernel
theorem dX9_section_73 : decode cX9_section 73 = .ok (.lload 11, 2) := dgq (p := 0) daX9_section_73 dbX9_section_73.1
theorem dX9_section_75 : decode cX9_section 75 = .ok (.ldc2_w 163, 3) := dgq (p := 2) daX9_section_73 dbX9_section_73.2.1
theorem dX9_section_78 : decode cX9_section 78 = .ok (.ldiv, 1) := dgq (p := 5) daX9_section_73 dbX9_section_73.2.2.1
theorem dX9_section_79 : decode cX9_section 79 = .ok (.lcmp, 1) := dgq (p := 6) daX9_section_73 dbX9_section_73.2.2.2.1
theorem dX9_section_80 : decode cX9_section 80 = .ok (.ifCond .gt 27, 3) := dgq (p := 7) daX9_section_73 dbX9_section_73.2.2.2.2.1
theorem dX9_section_83 : decode cX9_section 83 = .ok (.aload 5, 2) := dgq (p := 10) daX9_section_73 dbX9_section_73.2.2.2.2.2.1
theorem dX9_section_85 : decode cX9_section 85 = .ok (.getfield 165, 3) := dgq (p := 12) daX9_section_73 dbX9_section_73.2.2.2.2.2.2.1
theorem dX9_section_88 : decode cX9_section 88 = .ok (.aload 6, 2) := dgq (p := 15) daX9_section_73 dbX9_section_73.2.2.2.2.2.2.2.1
theorem dX9_section_90 : decode cX9_section 90 = .ok (.getfield 165, 3) := dgq (p := 17) daX9_section_73 dbX9_section_73.2.2.2.2.2.2.2.2.1
theorem dX9_section_93 : decode cX9_section 93 = .ok (.if_icmp .ne 14, 3) := dgq (p := 20) daX9_section_73 dbX9_section_73.2.2.2.2.2.2.2.2.2
def dsX9_section_96 : ByteArray := ⟨#[22, 11, 9, 148, 158, 0, 7, 4, 167, 0, 4, 3, 184, 0, 85, 22, 11, 25, 5]⟩
theorem daX9_section_96 : agB cX9_section dsX9_section_96 96 := agB_of (n := 19) (by decide +kernel)
theorem dbX9_section_96 : (decode dsX9_section_96 0 = .ok (.lload 11, 2) ∧ okop dsX9_section_96 0 = true) ∧ (decode dsX9_section_96 2 = .ok (.lconst 0, 1) ∧ okop dsX9_section_96 2 = true) ∧ (decode dsX9_section_96 3 = .ok (.lcmp, 1) ∧ okop dsX9_section_96 3 = true) ∧ (decode dsX9_section_96 4 = .ok (.ifCond .le 7, 3) ∧ okop dsX9_section_96 4 = true) ∧ (decode dsX9_section_96 7 = .ok (.iconst 1, 1) ∧ okop dsX9_section_96 7 = true) ∧ (decode dsX9_section_96 8 = .ok (.goto 4, 3) ∧ okop dsX9_section_96 8 = true) ∧ (decode dsX9_section_96 11 = .ok (.iconst 0, 1) ∧ okop dsX9_section_96 11 = true) ∧ (decode dsX9_section_96 12 = .ok (.invokestatic 85, 3) ∧ okop dsX9_section_96 12 = true) ∧ (decode dsX9_section_96 15 = .ok (.lload 11, 2) ∧ okop dsX9_section_96 15 = true) ∧ (decode dsX9_section_96 17 = .ok (.aload 5, 2) ∧ okop dsX9_section_96 17 = true) := by decide +kernel
theorem dX9_section_96 : decode cX9_section 96 = .ok (.lload 11, 2) := dgq (p := 0) daX9_section_96 dbX9_section_96.1
theorem dX9_section_98 : decode cX9_section 98 = .ok (.lconst 0, 1) := dgq (p := 2) daX9_section_96 dbX9_section_96.2.1
theorem dX9_section_99 : decode cX9_section 99 = .ok (.lcmp, 1) := dgq (p := 3) daX9_section_96 dbX9_section_96.2.2.1
theorem dX9_section_100 : decode cX9_section 100 = .ok (.ifCond .le 7, 3) := dgq (p := 4) daX9_section_96 dbX9_section_96.2.2.2.1
theorem dX9_section_103 : decode cX9_section 103 = .ok (.iconst 1, 1) := dgq (p := 7) daX9_section_96 dbX9_section_96.2.2.2.2.1
theorem dX9_section_104 : decode cX9_section 104 = .ok (.goto 4, 3) := dgq (p := 8) daX9_section_96 dbX9_section_96.2.2.2.2.2.1
theorem dX9_section_107 : decode cX9_section 107 = .ok (.iconst 0, 1) := dgq (p := 11) daX9_section_96 dbX9_section_96.2.2.2.2.2.2.1
theorem dX9_section_108 : decode cX9_section 108 = .ok (.invokestatic 85, 3) := dgq (p := 12) daX9_section_96 dbX9_section_96.2.2.2.2.2.2.2.1
theorem dX9_section_111 : decode cX9_section 111 = .ok (.lload 11, 2) := dgq (p := 15) daX9_section_96 dbX9_section_96.2.2.2.2.2.2.2.2.1
theorem dX9_section_113 : decode cX9_section 113 = .ok (.aload 5, 2) := dgq (p := 17) daX9_section_96 dbX9_section_96.2.2.2.2.2.2.2.2.2
def dsX9_section_115 : ByteArray := ⟨#[180, 0, 160, 133, 29, 133, 105, 21, 4, 133, 109, 101, 55, 13]⟩
theorem daX9_section_115 : agB cX9_section dsX9_section_115 115 := agB_of (n := 14) (by decide +kernel)
theorem dbX9_section_115 : (decode dsX9_section_115 0 = .ok (.getfield 160, 3) ∧ okop dsX9_section_115 0 = true) ∧ (decode dsX9_section_115 3 = .ok (.i2l, 1) ∧ okop dsX9_section_115 3 = true) ∧ (decode dsX9_section_115 4 = .ok (.iload_n 3, 1) ∧ okop dsX9_section_115 4 = true) ∧ (decode dsX9_section_115 5 = .ok (.i2l, 1) ∧ okop dsX9_section_115 5 = true) ∧ (decode dsX9_section_115 6 = .ok (.lmul, 1) ∧ okop dsX9_section_115 6 = true) ∧ (decode dsX9_section_115 7 = .ok (.iload 4, 2) ∧ okop dsX9_section_115 7 = true) ∧ (decode dsX9_section_115 9 = .ok (.i2l, 1) ∧ okop dsX9_section_115 9 = true) ∧ (decode dsX9_section_115 10 = .ok (.ldiv, 1) ∧ okop dsX9_section_115 10 = true) ∧ (decode dsX9_section_115 11 = .ok (.lsub, 1) ∧ okop dsX9_section_115 11 = true) ∧ (decode dsX9_section_115 12 = .ok (.lstore 13, 2) ∧ okop dsX9_section_115 12 = true) := by decide +kernel
theorem dX9_section_115 : decode cX9_section 115 = .ok (.getfield 160, 3) := dgq (p := 0) daX9_section_115 dbX9_section_115.1
theorem dX9_section_118 : decode cX9_section 118 = .ok (.i2l, 1) := dgq (p := 3) daX9_section_115 dbX9_section_115.2.1
theorem dX9_section_119 : decode cX9_section 119 = .ok (.iload_n 3, 1) := dgq (p := 4) daX9_section_115 dbX9_section_115.2.2.1
theorem dX9_section_120 : decode cX9_section 120 = .ok (.i2l, 1) := dgq (p := 5) daX9_section_115 dbX9_section_115.2.2.2.1
theorem dX9_section_121 : decode cX9_section 121 = .ok (.lmul, 1) := dgq (p := 6) daX9_section_115 dbX9_section_115.2.2.2.2.1
theorem dX9_section_122 : decode cX9_section 122 = .ok (.iload 4, 2) := dgq (p := 7) daX9_section_115 dbX9_section_115.2.2.2.2.2.1
theorem dX9_section_124 : decode cX9_section 124 = .ok (.i2l, 1) := dgq (p := 9) daX9_section_115 dbX9_section_115.2.2.2.2.2.2.1
theorem dX9_section_125 : decode cX9_section 125 = .ok (.ldiv, 1) := dgq (p := 10) daX9_section_115 dbX9_section_115.2.2.2.2.2.2.2.1
theorem dX9_section_126 : decode cX9_section 126 = .ok (.lsub, 1) := dgq (p := 11) daX9_section_115 dbX9_section_115.2.2.2.2.2.2.2.2.1
theorem dX9_section_127 : decode cX9_section 127 = .ok (.lstore 13, 2) := dgq (p := 12) daX9_section_115 dbX9_section_115.2.2.2.2.2.2.2.2.2
def dsX9_section_129 : ByteArray := ⟨#[25, 5, 180, 0, 165, 133, 22, 13, 105, 22, 11, 109, 136, 172]⟩
theorem daX9_section_129 : agB cX9_section dsX9_section_129 129 := agB_of (n := 14) (by decide +kernel)
theorem dbX9_section_129 : (decode dsX9_section_129 0 = .ok (.aload 5, 2) ∧ okop dsX9_section_129 0 = true) ∧ (decode dsX9_section_129 2 = .ok (.getfield 165, 3) ∧ okop dsX9_section_129 2 = true) ∧ (decode dsX9_section_129 5 = .ok (.i2l, 1) ∧ okop dsX9_section_129 5 = true) ∧ (decode dsX9_section_129 6 = .ok (.lload 13, 2) ∧ okop dsX9_section_129 6 = true) ∧ (decode dsX9_section_129 8 = .ok (.lmul, 1) ∧ okop dsX9_section_129 8 = true) ∧ (decode dsX9_section_129 9 = .ok (.lload 11, 2) ∧ okop dsX9_section_129 9 = true) ∧ (decode dsX9_section_129 11 = .ok (.ldiv, 1) ∧ okop dsX9_section_129 11 = true) ∧ (decode dsX9_section_129 12 = .ok (.l2i, 1) ∧ okop dsX9_section_129 12 = true) ∧ (decode dsX9_section_129 13 = .ok (.ireturn, 1) ∧ okop dsX9_section_129 13 = true) := by decide +kernel
theorem dX9_section_129 : decode cX9_section 129 = .ok (.aload 5, 2) := dgq (p := 0) daX9_section_129 dbX9_section_129.1
theorem dX9_section_131 : decode cX9_section 131 = .ok (.getfield 165, 3) := dgq (p := 2) daX9_section_129 dbX9_section_129.2.1
theorem dX9_section_134 : decode cX9_section 134 = .ok (.i2l, 1) := dgq (p := 5) daX9_section_129 dbX9_section_129.2.2.1
theorem dX9_section_135 : decode cX9_section 135 = .ok (.lload 13, 2) := dgq (p := 6) daX9_section_129 dbX9_section_129.2.2.2.1
theorem dX9_section_137 : decode cX9_section 137 = .ok (.lmul, 1) := dgq (p := 8) daX9_section_129 dbX9_section_129.2.2.2.2.1
theorem dX9_section_138 : decode cX9_section 138 = .ok (.lload 11, 2) := dgq (p := 9) daX9_section_129 dbX9_section_129.2.2.2.2.2.1
theorem dX9_section_140 : decode cX9_section 140 = .ok (.ldiv, 1) := dgq (p := 11) daX9_section_129 dbX9_section_129.2.2.2.2.2.2.1
theorem dX9_section_141 : decode cX9_section 141 = .ok (.l2i, 1) := dgq (p := 12) daX9_section_129 dbX9_section_129.2.2.2.2.2.2.2.1
theorem dX9_section_142 : decode cX9_section 142 = .ok (.ireturn, 1) := dgq (p := 13) daX9_section_129 dbX9_section_129.2.2.2.2.2.2.2.2
def dsX9_undercuts_0 : ByteArray := ⟨#[17, 0, 137, 27, 104, 16, 100, 17, 0, 137, 16, 8, 26, 104, 100, 104]⟩
theorem daX9_undercuts_0 : agB cX9_undercuts dsX9_undercuts_0 0 := agB_of (n := 16) (by decide +kernel)
theorem dbX9_undercuts_0 : (decode dsX9_undercuts_0 0 = .ok (.sipush 137, 3) ∧ okop dsX9_undercuts_0 0 = true) ∧ (decode dsX9_undercuts_0 3 = .ok (.iload_n 1, 1) ∧ okop dsX9_undercuts_0 3 = true) ∧ (decode dsX9_undercuts_0 4 = .ok (.imul, 1) ∧ okop dsX9_undercuts_0 4 = true) ∧ (decode dsX9_undercuts_0 5 = .ok (.bipush 100, 2) ∧ okop dsX9_undercuts_0 5 = true) ∧ (decode dsX9_undercuts_0 7 = .ok (.sipush 137, 3) ∧ okop dsX9_undercuts_0 7 = true) ∧ (decode dsX9_undercuts_0 10 = .ok (.bipush 8, 2) ∧ okop dsX9_undercuts_0 10 = true) ∧ (decode dsX9_undercuts_0 12 = .ok (.iload_n 0, 1) ∧ okop dsX9_undercuts_0 12 = true) ∧ (decode dsX9_undercuts_0 13 = .ok (.imul, 1) ∧ okop dsX9_undercuts_0 13 = true) ∧ (decode dsX9_undercuts_0 14 = .ok (.isub, 1) ∧ okop dsX9_undercuts_0 14 = true) ∧ (decode dsX9_undercuts_0 15 = .ok (.imul, 1) ∧ okop dsX9_undercuts_0 15 = true) := by decide +kernel
theorem dX9_undercuts_0 : decode cX9_undercuts 0 = .ok (.sipush 137, 3) := dgq (p := 0) daX9_undercuts_0 dbX9_undercuts_0.1
theorem dX9_undercuts_3 : decode cX9_undercuts 3 = .ok (.iload_n 1, 1) := dgq (p := 3) daX9_undercuts_0 dbX9_undercuts_0.2.1
theorem dX9_undercuts_4 : decode cX9_undercuts 4 = .ok (.imul, 1) := dgq (p := 4) daX9_undercuts_0 dbX9_undercuts_0.2.2.1
theorem dX9_undercuts_5 : decode cX9_undercuts 5 = .ok (.bipush 100, 2) := dgq (p := 5) daX9_undercuts_0 dbX9_undercuts_0.2.2.2.1
theorem dX9_undercuts_7 : decode cX9_undercuts 7 = .ok (.sipush 137, 3) := dgq (p := 7) daX9_undercuts_0 dbX9_undercuts_0.2.2.2.2.1
theorem dX9_undercuts_10 : decode cX9_undercuts 10 = .ok (.bipush 8, 2) := dgq (p := 10) daX9_undercuts_0 dbX9_undercuts_0.2.2.2.2.2.1
theorem dX9_undercuts_12 : decode cX9_undercuts 12 = .ok (.iload_n 0, 1) := dgq (p := 12) daX9_undercuts_0 dbX9_undercuts_0.2.2.2.2.2.2.1
theorem dX9_undercuts_13 : decode cX9_undercuts 13 = .ok (.imul, 1) := dgq (p := 13) daX9_undercuts_0 dbX9_undercuts_0.2.2.2.2.2.2.2.1
theorem dX9_undercuts_14 : decode cX9_undercuts 14 = .ok (.isub, 1) := dgq (p := 14) daX9_undercuts_0 dbX9_undercuts_0.2.2.2.2.2.2.2.2.1
theorem dX9_undercuts_15 : decode cX9_undercuts 15 = .ok (.imul, 1) := dgq (p := 15) daX9_undercuts_0 dbX9_undercuts_0.2.2.2.2.2.2.2.2.2
def dsX9_undercuts_16 : ByteArray := ⟨#[162, 0, 7, 4, 167, 0, 4, 3, 172]⟩
theorem daX9_undercuts_16 : agB cX9_undercuts dsX9_undercuts_16 16 := agB_of (n := 9) (by decide +kernel)
theorem dbX9_undercuts_16 : (decode dsX9_undercuts_16 0 = .ok (.if_icmp .ge 7, 3) ∧ okop dsX9_undercuts_16 0 = true) ∧ (decode dsX9_undercuts_16 3 = .ok (.iconst 1, 1) ∧ okop dsX9_undercuts_16 3 = true) ∧ (decode dsX9_undercuts_16 4 = .ok (.goto 4, 3) ∧ okop dsX9_undercuts_16 4 = true) ∧ (decode dsX9_undercuts_16 7 = .ok (.iconst 0, 1) ∧ okop dsX9_undercuts_16 7 = true) ∧ (decode dsX9_undercuts_16 8 = .ok (.ireturn, 1) ∧ okop dsX9_undercuts_16 8 = true) := by decide +kernel
theorem dX9_undercuts_16 : decode cX9_undercuts 16 = .ok (.if_icmp .ge 7, 3) := dgq (p := 0) daX9_undercuts_16 dbX9_undercuts_16.1
theorem dX9_undercuts_19 : decode cX9_undercuts 19 = .ok (.iconst 1, 1) := dgq (p := 3) daX9_undercuts_16 dbX9_undercuts_16.2.1
theorem dX9_undercuts_20 : decode cX9_undercuts 20 = .ok (.goto 4, 3) := dgq (p := 4) daX9_undercuts_16 dbX9_undercuts_16.2.2.1
theorem dX9_undercuts_23 : decode cX9_undercuts 23 = .ok (.iconst 0, 1) := dgq (p := 7) daX9_undercuts_16 dbX9_undercuts_16.2.2.2.1
theorem dX9_undercuts_24 : decode cX9_undercuts 24 = .ok (.ireturn, 1) := dgq (p := 8) daX9_undercuts_16 dbX9_undercuts_16.2.2.2.2
def dsX9_sharpens_0 : ByteArray := ⟨#[16, 40, 27, 104, 16, 100, 26, 16, 10, 96, 104, 164, 0, 7, 4]⟩
theorem daX9_sharpens_0 : agB cX9_sharpens dsX9_sharpens_0 0 := agB_of (n := 15) (by decide +kernel)
theorem dbX9_sharpens_0 : (decode dsX9_sharpens_0 0 = .ok (.bipush 40, 2) ∧ okop dsX9_sharpens_0 0 = true) ∧ (decode dsX9_sharpens_0 2 = .ok (.iload_n 1, 1) ∧ okop dsX9_sharpens_0 2 = true) ∧ (decode dsX9_sharpens_0 3 = .ok (.imul, 1) ∧ okop dsX9_sharpens_0 3 = true) ∧ (decode dsX9_sharpens_0 4 = .ok (.bipush 100, 2) ∧ okop dsX9_sharpens_0 4 = true) ∧ (decode dsX9_sharpens_0 6 = .ok (.iload_n 0, 1) ∧ okop dsX9_sharpens_0 6 = true) ∧ (decode dsX9_sharpens_0 7 = .ok (.bipush 10, 2) ∧ okop dsX9_sharpens_0 7 = true) ∧ (decode dsX9_sharpens_0 9 = .ok (.iadd, 1) ∧ okop dsX9_sharpens_0 9 = true) ∧ (decode dsX9_sharpens_0 10 = .ok (.imul, 1) ∧ okop dsX9_sharpens_0 10 = true) ∧ (decode dsX9_sharpens_0 11 = .ok (.if_icmp .le 7, 3) ∧ okop dsX9_sharpens_0 11 = true) ∧ (decode dsX9_sharpens_0 14 = .ok (.iconst 1, 1) ∧ okop dsX9_sharpens_0 14 = true) := by decide +kernel
theorem dX9_sharpens_0 : decode cX9_sharpens 0 = .ok (.bipush 40, 2) := dgq (p := 0) daX9_sharpens_0 dbX9_sharpens_0.1
theorem dX9_sharpens_2 : decode cX9_sharpens 2 = .ok (.iload_n 1, 1) := dgq (p := 2) daX9_sharpens_0 dbX9_sharpens_0.2.1
theorem dX9_sharpens_3 : decode cX9_sharpens 3 = .ok (.imul, 1) := dgq (p := 3) daX9_sharpens_0 dbX9_sharpens_0.2.2.1
theorem dX9_sharpens_4 : decode cX9_sharpens 4 = .ok (.bipush 100, 2) := dgq (p := 4) daX9_sharpens_0 dbX9_sharpens_0.2.2.2.1
theorem dX9_sharpens_6 : decode cX9_sharpens 6 = .ok (.iload_n 0, 1) := dgq (p := 6) daX9_sharpens_0 dbX9_sharpens_0.2.2.2.2.1
theorem dX9_sharpens_7 : decode cX9_sharpens 7 = .ok (.bipush 10, 2) := dgq (p := 7) daX9_sharpens_0 dbX9_sharpens_0.2.2.2.2.2.1
theorem dX9_sharpens_9 : decode cX9_sharpens 9 = .ok (.iadd, 1) := dgq (p := 9) daX9_sharpens_0 dbX9_sharpens_0.2.2.2.2.2.2.1
theorem dX9_sharpens_10 : decode cX9_sharpens 10 = .ok (.imul, 1) := dgq (p := 10) daX9_sharpens_0 dbX9_sharpens_0.2.2.2.2.2.2.2.1
theorem dX9_sharpens_11 : decode cX9_sharpens 11 = .ok (.if_icmp .le 7, 3) := dgq (p := 11) daX9_sharpens_0 dbX9_sharpens_0.2.2.2.2.2.2.2.2.1
theorem dX9_sharpens_14 : decode cX9_sharpens 14 = .ok (.iconst 1, 1) := dgq (p := 14) daX9_sharpens_0 dbX9_sharpens_0.2.2.2.2.2.2.2.2.2
def dsX9_sharpens_15 : ByteArray := ⟨#[167, 0, 4, 3, 172]⟩
theorem daX9_sharpens_15 : agB cX9_sharpens dsX9_sharpens_15 15 := agB_of (n := 5) (by decide +kernel)
theorem dbX9_sharpens_15 : (decode dsX9_sharpens_15 0 = .ok (.goto 4, 3) ∧ okop dsX9_sharpens_15 0 = true) ∧ (decode dsX9_sharpens_15 3 = .ok (.iconst 0, 1) ∧ okop dsX9_sharpens_15 3 = true) ∧ (decode dsX9_sharpens_15 4 = .ok (.ireturn, 1) ∧ okop dsX9_sharpens_15 4 = true) := by decide +kernel
theorem dX9_sharpens_15 : decode cX9_sharpens 15 = .ok (.goto 4, 3) := dgq (p := 0) daX9_sharpens_15 dbX9_sharpens_15.1
theorem dX9_sharpens_18 : decode cX9_sharpens 18 = .ok (.iconst 0, 1) := dgq (p := 3) daX9_sharpens_15 dbX9_sharpens_15.2.1
theorem dX9_sharpens_19 : decode cX9_sharpens 19 = .ok (.ireturn, 1) := dgq (p := 4) daX9_sharpens_15 dbX9_sharpens_15.2.2
def dsX9_tipOf_0 : ByteArray := ⟨#[26, 27, 104, 5, 27, 104, 96, 5, 28, 104]⟩
theorem daX9_tipOf_0 : agB cX9_tipOf dsX9_tipOf_0 0 := agB_of (n := 10) (by decide +kernel)
theorem dbX9_tipOf_0 : (decode dsX9_tipOf_0 0 = .ok (.iload_n 0, 1) ∧ okop dsX9_tipOf_0 0 = true) ∧ (decode dsX9_tipOf_0 1 = .ok (.iload_n 1, 1) ∧ okop dsX9_tipOf_0 1 = true) ∧ (decode dsX9_tipOf_0 2 = .ok (.imul, 1) ∧ okop dsX9_tipOf_0 2 = true) ∧ (decode dsX9_tipOf_0 3 = .ok (.iconst 2, 1) ∧ okop dsX9_tipOf_0 3 = true) ∧ (decode dsX9_tipOf_0 4 = .ok (.iload_n 1, 1) ∧ okop dsX9_tipOf_0 4 = true) ∧ (decode dsX9_tipOf_0 5 = .ok (.imul, 1) ∧ okop dsX9_tipOf_0 5 = true) ∧ (decode dsX9_tipOf_0 6 = .ok (.iadd, 1) ∧ okop dsX9_tipOf_0 6 = true) ∧ (decode dsX9_tipOf_0 7 = .ok (.iconst 2, 1) ∧ okop dsX9_tipOf_0 7 = true) ∧ (decode dsX9_tipOf_0 8 = .ok (.iload_n 2, 1) ∧ okop dsX9_tipOf_0 8 = true) ∧ (decode dsX9_tipOf_0 9 = .ok (.imul, 1) ∧ okop dsX9_tipOf_0 9 = true) := by decide +kernel
theorem dX9_tipOf_0 : decode cX9_tipOf 0 = .ok (.iload_n 0, 1) := dgq (p := 0) daX9_tipOf_0 dbX9_tipOf_0.1
theorem dX9_tipOf_1 : decode cX9_tipOf 1 = .ok (.iload_n 1, 1) := dgq (p := 1) daX9_tipOf_0 dbX9_tipOf_0.2.1
theorem dX9_tipOf_2 : decode cX9_tipOf 2 = .ok (.imul, 1) := dgq (p := 2) daX9_tipOf_0 dbX9_tipOf_0.2.2.1
theorem dX9_tipOf_3 : decode cX9_tipOf 3 = .ok (.iconst 2, 1) := dgq (p := 3) daX9_tipOf_0 dbX9_tipOf_0.2.2.2.1
theorem dX9_tipOf_4 : decode cX9_tipOf 4 = .ok (.iload_n 1, 1) := dgq (p := 4) daX9_tipOf_0 dbX9_tipOf_0.2.2.2.2.1
theorem dX9_tipOf_5 : decode cX9_tipOf 5 = .ok (.imul, 1) := dgq (p := 5) daX9_tipOf_0 dbX9_tipOf_0.2.2.2.2.2.1
theorem dX9_tipOf_6 : decode cX9_tipOf 6 = .ok (.iadd, 1) := dgq (p := 6) daX9_tipOf_0 dbX9_tipOf_0.2.2.2.2.2.2.1
theorem dX9_tipOf_7 : decode cX9_tipOf 7 = .ok (.iconst 2, 1) := dgq (p := 7) daX9_tipOf_0 dbX9_tipOf_0.2.2.2.2.2.2.2.1
theorem dX9_tipOf_8 : decode cX9_tipOf 8 = .ok (.iload_n 2, 1) := dgq (p := 8) daX9_tipOf_0 dbX9_tipOf_0.2.2.2.2.2.2.2.2.1
theorem dX9_tipOf_9 : decode cX9_tipOf 9 = .ok (.imul, 1) := dgq (p := 9) daX9_tipOf_0 dbX9_tipOf_0.2.2.2.2.2.2.2.2.2
def dsX9_tipOf_10 : ByteArray := ⟨#[27, 104, 16, 100, 108, 96, 172]⟩
theorem daX9_tipOf_10 : agB cX9_tipOf dsX9_tipOf_10 10 := agB_of (n := 7) (by decide +kernel)
theorem dbX9_tipOf_10 : (decode dsX9_tipOf_10 0 = .ok (.iload_n 1, 1) ∧ okop dsX9_tipOf_10 0 = true) ∧ (decode dsX9_tipOf_10 1 = .ok (.imul, 1) ∧ okop dsX9_tipOf_10 1 = true) ∧ (decode dsX9_tipOf_10 2 = .ok (.bipush 100, 2) ∧ okop dsX9_tipOf_10 2 = true) ∧ (decode dsX9_tipOf_10 4 = .ok (.idiv, 1) ∧ okop dsX9_tipOf_10 4 = true) ∧ (decode dsX9_tipOf_10 5 = .ok (.iadd, 1) ∧ okop dsX9_tipOf_10 5 = true) ∧ (decode dsX9_tipOf_10 6 = .ok (.ireturn, 1) ∧ okop dsX9_tipOf_10 6 = true) := by decide +kernel
theorem dX9_tipOf_10 : decode cX9_tipOf 10 = .ok (.iload_n 1, 1) := dgq (p := 0) daX9_tipOf_10 dbX9_tipOf_10.1
theorem dX9_tipOf_11 : decode cX9_tipOf 11 = .ok (.imul, 1) := dgq (p := 1) daX9_tipOf_10 dbX9_tipOf_10.2.1
theorem dX9_tipOf_12 : decode cX9_tipOf 12 = .ok (.bipush 100, 2) := dgq (p := 2) daX9_tipOf_10 dbX9_tipOf_10.2.2.1
theorem dX9_tipOf_14 : decode cX9_tipOf 14 = .ok (.idiv, 1) := dgq (p := 4) daX9_tipOf_10 dbX9_tipOf_10.2.2.2.1
theorem dX9_tipOf_15 : decode cX9_tipOf 15 = .ok (.iadd, 1) := dgq (p := 5) daX9_tipOf_10 dbX9_tipOf_10.2.2.2.2.1
theorem dX9_tipOf_16 : decode cX9_tipOf 16 = .ok (.ireturn, 1) := dgq (p := 6) daX9_tipOf_10 dbX9_tipOf_10.2.2.2.2.2
set_option maxRecDepth 20000 in
theorem ggX9_contactOf_X2_pitchDiameter : GoodIn wsX9_contactOf wsX2_pitchDiameter := goodIn_ca (goodIn_q _ [12, 13, 14] rfl (by decide +kernel)) (goodIn_sub (fun _ h => (List.mem_cons_of_mem _ (List.mem_append_left _ (List.mem_append_right _ h)))) tg_wsX20)
set_option maxRecDepth 20000 in
theorem gX9_contactOf_X2_pitchDiameter : GoodIn wsX9_contactOf (wsV RX9 92 RX2 yX2_pitchDiameter wsX2_pitchDiameter) := goodIn_app (goodIn_q _ [8, 9, 10, 11] rfl (by decide +kernel)) ggX9_contactOf_X2_pitchDiameter
set_option maxRecDepth 20000 in
theorem ggX9_contactOf_X2_lineAt : GoodIn wsX9_contactOf wsX2_lineAt := goodIn_ca (goodIn_q _ [18, 19, 20, 21, 22, 23, 11, 24, 13, 14, 25, 26, 27, 28, 9, 10, 12, 29, 30] rfl (by decide +kernel)) (goodIn_sub (fun _ h => (List.mem_cons_of_mem _ (List.mem_append_left _ (List.mem_append_right _ h)))) tg_wsX20)
set_option maxRecDepth 20000 in
theorem gX9_contactOf_X2_lineAt : GoodIn wsX9_contactOf (wsV RX9 168 RX2 yX2_lineAt wsX2_lineAt) := goodIn_app (goodIn_q _ [15, 16, 17, 11] rfl (by decide +kernel)) ggX9_contactOf_X2_lineAt
set_option maxRecDepth 20000 in
theorem ggX9_contactOf_X9_root : GoodIn wsX9_contactOf wsX9_root := goodIn_q _ [30] rfl (by decide +kernel)
set_option maxRecDepth 20000 in
theorem gX9_contactOf_X9_root : GoodIn wsX9_contactOf (va_wsS RX9 155 yX9_root wsX9_root) := goodIn_app (goodIn_q _ [31, 29, 26] rfl (by decide +kernel)) ggX9_contactOf_X9_root
def dsX9_contactOf_0 : ByteArray := ⟨#[42, 182, 0, 92, 133, 43, 182, 0, 92, 133, 97, 65, 42, 42]⟩
theorem daX9_contactOf_0 : agB cX9_contactOf dsX9_contactOf_0 0 := agB_of (n := 14) (by decide +kernel)
theorem dbX9_contactOf_0 : (decode dsX9_contactOf_0 0 = .ok (.aload_n 0, 1) ∧ okop dsX9_contactOf_0 0 = true) ∧ (decode dsX9_contactOf_0 1 = .ok (.invokevirtual 92, 3) ∧ okop dsX9_contactOf_0 1 = true) ∧ (decode dsX9_contactOf_0 4 = .ok (.i2l, 1) ∧ okop dsX9_contactOf_0 4 = true) ∧ (decode dsX9_contactOf_0 5 = .ok (.aload_n 1, 1) ∧ okop dsX9_contactOf_0 5 = true) ∧ (decode dsX9_contactOf_0 6 = .ok (.invokevirtual 92, 3) ∧ okop dsX9_contactOf_0 6 = true) ∧ (decode dsX9_contactOf_0 9 = .ok (.i2l, 1) ∧ okop dsX9_contactOf_0 9 = true) ∧ (decode dsX9_contactOf_0 10 = .ok (.ladd, 1) ∧ okop dsX9_contactOf_0 10 = true) ∧ (decode dsX9_contactOf_0 11 = .ok (.lstore_n 2, 1) ∧ okop dsX9_contactOf_0 11 = true) ∧ (decode dsX9_contactOf_0 12 = .ok (.aload_n 0, 1) ∧ okop dsX9_contactOf_0 12 = true) ∧ (decode dsX9_contactOf_0 13 = .ok (.aload_n 0, 1) ∧ okop dsX9_contactOf_0 13 = true) := by decide +kernel
theorem dX9_contactOf_0 : decode cX9_contactOf 0 = .ok (.aload_n 0, 1) := dgq (p := 0) daX9_contactOf_0 dbX9_contactOf_0.1
theorem dX9_contactOf_1 : decode cX9_contactOf 1 = .ok (.invokevirtual 92, 3) := dgq (p := 1) daX9_contactOf_0 dbX9_contactOf_0.2.1
theorem dX9_contactOf_4 : decode cX9_contactOf 4 = .ok (.i2l, 1) := dgq (p := 4) daX9_contactOf_0 dbX9_contactOf_0.2.2.1
theorem dX9_contactOf_5 : decode cX9_contactOf 5 = .ok (.aload_n 1, 1) := dgq (p := 5) daX9_contactOf_0 dbX9_contactOf_0.2.2.2.1
theorem dX9_contactOf_6 : decode cX9_contactOf 6 = .ok (.invokevirtual 92, 3) := dgq (p := 6) daX9_contactOf_0 dbX9_contactOf_0.2.2.2.2.1
theorem dX9_contactOf_9 : decode cX9_contactOf 9 = .ok (.i2l, 1) := dgq (p := 9) daX9_contactOf_0 dbX9_contactOf_0.2.2.2.2.2.1
theorem dX9_contactOf_10 : decode cX9_contactOf 10 = .ok (.ladd, 1) := dgq (p := 10) daX9_contactOf_0 dbX9_contactOf_0.2.2.2.2.2.2.1
theorem dX9_contactOf_11 : decode cX9_contactOf 11 = .ok (.lstore_n 2, 1) := dgq (p := 11) daX9_contactOf_0 dbX9_contactOf_0.2.2.2.2.2.2.2.1
theorem dX9_contactOf_12 : decode cX9_contactOf 12 = .ok (.aload_n 0, 1) := dgq (p := 12) daX9_contactOf_0 dbX9_contactOf_0.2.2.2.2.2.2.2.2.1
theorem dX9_contactOf_13 : decode cX9_contactOf 13 = .ok (.aload_n 0, 1) := dgq (p := 13) daX9_contactOf_0 dbX9_contactOf_0.2.2.2.2.2.2.2.2.2
def dsX9_contactOf_14 : ByteArray := ⟨#[180, 0, 89, 182, 0, 168, 43, 43, 180, 0, 89, 182, 0, 168, 97, 20, 0, 171, 32, 105]⟩
theorem daX9_contactOf_14 : agB cX9_contactOf dsX9_contactOf_14 14 := agB_of (n := 20) (by decide +kernel)
theorem dbX9_contactOf_14 : (decode dsX9_contactOf_14 0 = .ok (.getfield 89, 3) ∧ okop dsX9_contactOf_14 0 = true) ∧ (decode dsX9_contactOf_14 3 = .ok (.invokevirtual 168, 3) ∧ okop dsX9_contactOf_14 3 = true) ∧ (decode dsX9_contactOf_14 6 = .ok (.aload_n 1, 1) ∧ okop dsX9_contactOf_14 6 = true) ∧ (decode dsX9_contactOf_14 7 = .ok (.aload_n 1, 1) ∧ okop dsX9_contactOf_14 7 = true) ∧ (decode dsX9_contactOf_14 8 = .ok (.getfield 89, 3) ∧ okop dsX9_contactOf_14 8 = true) ∧ (decode dsX9_contactOf_14 11 = .ok (.invokevirtual 168, 3) ∧ okop dsX9_contactOf_14 11 = true) ∧ (decode dsX9_contactOf_14 14 = .ok (.ladd, 1) ∧ okop dsX9_contactOf_14 14 = true) ∧ (decode dsX9_contactOf_14 15 = .ok (.ldc2_w 171, 3) ∧ okop dsX9_contactOf_14 15 = true) ∧ (decode dsX9_contactOf_14 18 = .ok (.lload_n 2, 1) ∧ okop dsX9_contactOf_14 18 = true) ∧ (decode dsX9_contactOf_14 19 = .ok (.lmul, 1) ∧ okop dsX9_contactOf_14 19 = true) := by decide +kernel
theorem dX9_contactOf_14 : decode cX9_contactOf 14 = .ok (.getfield 89, 3) := dgq (p := 0) daX9_contactOf_14 dbX9_contactOf_14.1
theorem dX9_contactOf_17 : decode cX9_contactOf 17 = .ok (.invokevirtual 168, 3) := dgq (p := 3) daX9_contactOf_14 dbX9_contactOf_14.2.1
theorem dX9_contactOf_20 : decode cX9_contactOf 20 = .ok (.aload_n 1, 1) := dgq (p := 6) daX9_contactOf_14 dbX9_contactOf_14.2.2.1
theorem dX9_contactOf_21 : decode cX9_contactOf 21 = .ok (.aload_n 1, 1) := dgq (p := 7) daX9_contactOf_14 dbX9_contactOf_14.2.2.2.1
theorem dX9_contactOf_22 : decode cX9_contactOf 22 = .ok (.getfield 89, 3) := dgq (p := 8) daX9_contactOf_14 dbX9_contactOf_14.2.2.2.2.1
theorem dX9_contactOf_25 : decode cX9_contactOf 25 = .ok (.invokevirtual 168, 3) := dgq (p := 11) daX9_contactOf_14 dbX9_contactOf_14.2.2.2.2.2.1
theorem dX9_contactOf_28 : decode cX9_contactOf 28 = .ok (.ladd, 1) := dgq (p := 14) daX9_contactOf_14 dbX9_contactOf_14.2.2.2.2.2.2.1
theorem dX9_contactOf_29 : decode cX9_contactOf 29 = .ok (.ldc2_w 171, 3) := dgq (p := 15) daX9_contactOf_14 dbX9_contactOf_14.2.2.2.2.2.2.2.1
theorem dX9_contactOf_32 : decode cX9_contactOf 32 = .ok (.lload_n 2, 1) := dgq (p := 18) daX9_contactOf_14 dbX9_contactOf_14.2.2.2.2.2.2.2.2.1
theorem dX9_contactOf_33 : decode cX9_contactOf 33 = .ok (.lmul, 1) := dgq (p := 19) daX9_contactOf_14 dbX9_contactOf_14.2.2.2.2.2.2.2.2.2
def dsX9_contactOf_34 : ByteArray := ⟨#[32, 105, 20, 0, 173, 109, 184, 0, 155, 101, 55, 4, 20, 0, 175, 42, 180, 0, 165]⟩
theorem daX9_contactOf_34 : agB cX9_contactOf dsX9_contactOf_34 34 := agB_of (n := 19) (by decide +kernel)
theorem dbX9_contactOf_34 : (decode dsX9_contactOf_34 0 = .ok (.lload_n 2, 1) ∧ okop dsX9_contactOf_34 0 = true) ∧ (decode dsX9_contactOf_34 1 = .ok (.lmul, 1) ∧ okop dsX9_contactOf_34 1 = true) ∧ (decode dsX9_contactOf_34 2 = .ok (.ldc2_w 173, 3) ∧ okop dsX9_contactOf_34 2 = true) ∧ (decode dsX9_contactOf_34 5 = .ok (.ldiv, 1) ∧ okop dsX9_contactOf_34 5 = true) ∧ (decode dsX9_contactOf_34 6 = .ok (.invokestatic 155, 3) ∧ okop dsX9_contactOf_34 6 = true) ∧ (decode dsX9_contactOf_34 9 = .ok (.lsub, 1) ∧ okop dsX9_contactOf_34 9 = true) ∧ (decode dsX9_contactOf_34 10 = .ok (.lstore 4, 2) ∧ okop dsX9_contactOf_34 10 = true) ∧ (decode dsX9_contactOf_34 12 = .ok (.ldc2_w 175, 3) ∧ okop dsX9_contactOf_34 12 = true) ∧ (decode dsX9_contactOf_34 15 = .ok (.aload_n 0, 1) ∧ okop dsX9_contactOf_34 15 = true) ∧ (decode dsX9_contactOf_34 16 = .ok (.getfield 165, 3) ∧ okop dsX9_contactOf_34 16 = true) := by decide +kernel
theorem dX9_contactOf_34 : decode cX9_contactOf 34 = .ok (.lload_n 2, 1) := dgq (p := 0) daX9_contactOf_34 dbX9_contactOf_34.1
theorem dX9_contactOf_35 : decode cX9_contactOf 35 = .ok (.lmul, 1) := dgq (p := 1) daX9_contactOf_34 dbX9_contactOf_34.2.1
theorem dX9_contactOf_36 : decode cX9_contactOf 36 = .ok (.ldc2_w 173, 3) := dgq (p := 2) daX9_contactOf_34 dbX9_contactOf_34.2.2.1
theorem dX9_contactOf_39 : decode cX9_contactOf 39 = .ok (.ldiv, 1) := dgq (p := 5) daX9_contactOf_34 dbX9_contactOf_34.2.2.2.1
theorem dX9_contactOf_40 : decode cX9_contactOf 40 = .ok (.invokestatic 155, 3) := dgq (p := 6) daX9_contactOf_34 dbX9_contactOf_34.2.2.2.2.1
theorem dX9_contactOf_43 : decode cX9_contactOf 43 = .ok (.lsub, 1) := dgq (p := 9) daX9_contactOf_34 dbX9_contactOf_34.2.2.2.2.2.1
theorem dX9_contactOf_44 : decode cX9_contactOf 44 = .ok (.lstore 4, 2) := dgq (p := 10) daX9_contactOf_34 dbX9_contactOf_34.2.2.2.2.2.2.1
theorem dX9_contactOf_46 : decode cX9_contactOf 46 = .ok (.ldc2_w 175, 3) := dgq (p := 12) daX9_contactOf_34 dbX9_contactOf_34.2.2.2.2.2.2.2.1
theorem dX9_contactOf_49 : decode cX9_contactOf 49 = .ok (.aload_n 0, 1) := dgq (p := 15) daX9_contactOf_34 dbX9_contactOf_34.2.2.2.2.2.2.2.2.1
theorem dX9_contactOf_50 : decode cX9_contactOf 50 = .ok (.getfield 165, 3) := dgq (p := 16) daX9_contactOf_34 dbX9_contactOf_34.2.2.2.2.2.2.2.2.2
def dsX9_contactOf_53 : ByteArray := ⟨#[133, 105, 55, 6, 22, 6, 22, 6, 105, 20, 0, 173, 109, 184, 0, 155, 20, 0, 177]⟩
theorem daX9_contactOf_53 : agB cX9_contactOf dsX9_contactOf_53 53 := agB_of (n := 19) (by decide +kernel)
theorem dbX9_contactOf_53 : (decode dsX9_contactOf_53 0 = .ok (.i2l, 1) ∧ okop dsX9_contactOf_53 0 = true) ∧ (decode dsX9_contactOf_53 1 = .ok (.lmul, 1) ∧ okop dsX9_contactOf_53 1 = true) ∧ (decode dsX9_contactOf_53 2 = .ok (.lstore 6, 2) ∧ okop dsX9_contactOf_53 2 = true) ∧ (decode dsX9_contactOf_53 4 = .ok (.lload 6, 2) ∧ okop dsX9_contactOf_53 4 = true) ∧ (decode dsX9_contactOf_53 6 = .ok (.lload 6, 2) ∧ okop dsX9_contactOf_53 6 = true) ∧ (decode dsX9_contactOf_53 8 = .ok (.lmul, 1) ∧ okop dsX9_contactOf_53 8 = true) ∧ (decode dsX9_contactOf_53 9 = .ok (.ldc2_w 173, 3) ∧ okop dsX9_contactOf_53 9 = true) ∧ (decode dsX9_contactOf_53 12 = .ok (.ldiv, 1) ∧ okop dsX9_contactOf_53 12 = true) ∧ (decode dsX9_contactOf_53 13 = .ok (.invokestatic 155, 3) ∧ okop dsX9_contactOf_53 13 = true) ∧ (decode dsX9_contactOf_53 16 = .ok (.ldc2_w 177, 3) ∧ okop dsX9_contactOf_53 16 = true) := by decide +kernel
theorem dX9_contactOf_53 : decode cX9_contactOf 53 = .ok (.i2l, 1) := dgq (p := 0) daX9_contactOf_53 dbX9_contactOf_53.1
theorem dX9_contactOf_54 : decode cX9_contactOf 54 = .ok (.lmul, 1) := dgq (p := 1) daX9_contactOf_53 dbX9_contactOf_53.2.1
theorem dX9_contactOf_55 : decode cX9_contactOf 55 = .ok (.lstore 6, 2) := dgq (p := 2) daX9_contactOf_53 dbX9_contactOf_53.2.2.1
theorem dX9_contactOf_57 : decode cX9_contactOf 57 = .ok (.lload 6, 2) := dgq (p := 4) daX9_contactOf_53 dbX9_contactOf_53.2.2.2.1
theorem dX9_contactOf_59 : decode cX9_contactOf 59 = .ok (.lload 6, 2) := dgq (p := 6) daX9_contactOf_53 dbX9_contactOf_53.2.2.2.2.1
theorem dX9_contactOf_61 : decode cX9_contactOf 61 = .ok (.lmul, 1) := dgq (p := 8) daX9_contactOf_53 dbX9_contactOf_53.2.2.2.2.2.1
theorem dX9_contactOf_62 : decode cX9_contactOf 62 = .ok (.ldc2_w 173, 3) := dgq (p := 9) daX9_contactOf_53 dbX9_contactOf_53.2.2.2.2.2.2.1
theorem dX9_contactOf_65 : decode cX9_contactOf 65 = .ok (.ldiv, 1) := dgq (p := 12) daX9_contactOf_53 dbX9_contactOf_53.2.2.2.2.2.2.2.1
theorem dX9_contactOf_66 : decode cX9_contactOf 66 = .ok (.invokestatic 155, 3) := dgq (p := 13) daX9_contactOf_53 dbX9_contactOf_53.2.2.2.2.2.2.2.2.1
theorem dX9_contactOf_69 : decode cX9_contactOf 69 = .ok (.ldc2_w 177, 3) := dgq (p := 16) daX9_contactOf_53 dbX9_contactOf_53.2.2.2.2.2.2.2.2.2
def dsX9_contactOf_72 : ByteArray := ⟨#[109, 55, 8, 22, 4, 9, 148, 158, 0, 10, 22, 8, 9, 148, 157, 0, 7]⟩
theorem daX9_contactOf_72 : agB cX9_contactOf dsX9_contactOf_72 72 := agB_of (n := 17) (by decide +kernel)
theorem dbX9_contactOf_72 : (decode dsX9_contactOf_72 0 = .ok (.ldiv, 1) ∧ okop dsX9_contactOf_72 0 = true) ∧ (decode dsX9_contactOf_72 1 = .ok (.lstore 8, 2) ∧ okop dsX9_contactOf_72 1 = true) ∧ (decode dsX9_contactOf_72 3 = .ok (.lload 4, 2) ∧ okop dsX9_contactOf_72 3 = true) ∧ (decode dsX9_contactOf_72 5 = .ok (.lconst 0, 1) ∧ okop dsX9_contactOf_72 5 = true) ∧ (decode dsX9_contactOf_72 6 = .ok (.lcmp, 1) ∧ okop dsX9_contactOf_72 6 = true) ∧ (decode dsX9_contactOf_72 7 = .ok (.ifCond .le 10, 3) ∧ okop dsX9_contactOf_72 7 = true) ∧ (decode dsX9_contactOf_72 10 = .ok (.lload 8, 2) ∧ okop dsX9_contactOf_72 10 = true) ∧ (decode dsX9_contactOf_72 12 = .ok (.lconst 0, 1) ∧ okop dsX9_contactOf_72 12 = true) ∧ (decode dsX9_contactOf_72 13 = .ok (.lcmp, 1) ∧ okop dsX9_contactOf_72 13 = true) ∧ (decode dsX9_contactOf_72 14 = .ok (.ifCond .gt 7, 3) ∧ okop dsX9_contactOf_72 14 = true) := by decide +kernel
theorem dX9_contactOf_72 : decode cX9_contactOf 72 = .ok (.ldiv, 1) := dgq (p := 0) daX9_contactOf_72 dbX9_contactOf_72.1
theorem dX9_contactOf_73 : decode cX9_contactOf 73 = .ok (.lstore 8, 2) := dgq (p := 1) daX9_contactOf_72 dbX9_contactOf_72.2.1
theorem dX9_contactOf_75 : decode cX9_contactOf 75 = .ok (.lload 4, 2) := dgq (p := 3) daX9_contactOf_72 dbX9_contactOf_72.2.2.1
theorem dX9_contactOf_77 : decode cX9_contactOf 77 = .ok (.lconst 0, 1) := dgq (p := 5) daX9_contactOf_72 dbX9_contactOf_72.2.2.2.1
theorem dX9_contactOf_78 : decode cX9_contactOf 78 = .ok (.lcmp, 1) := dgq (p := 6) daX9_contactOf_72 dbX9_contactOf_72.2.2.2.2.1
theorem dX9_contactOf_79 : decode cX9_contactOf 79 = .ok (.ifCond .le 10, 3) := dgq (p := 7) daX9_contactOf_72 dbX9_contactOf_72.2.2.2.2.2.1
theorem dX9_contactOf_82 : decode cX9_contactOf 82 = .ok (.lload 8, 2) := dgq (p := 10) daX9_contactOf_72 dbX9_contactOf_72.2.2.2.2.2.2.1
theorem dX9_contactOf_84 : decode cX9_contactOf 84 = .ok (.lconst 0, 1) := dgq (p := 12) daX9_contactOf_72 dbX9_contactOf_72.2.2.2.2.2.2.2.1
theorem dX9_contactOf_85 : decode cX9_contactOf 85 = .ok (.lcmp, 1) := dgq (p := 13) daX9_contactOf_72 dbX9_contactOf_72.2.2.2.2.2.2.2.2.1
theorem dX9_contactOf_86 : decode cX9_contactOf 86 = .ok (.ifCond .gt 7, 3) := dgq (p := 14) daX9_contactOf_72 dbX9_contactOf_72.2.2.2.2.2.2.2.2.2
def dsX9_contactOf_89 : ByteArray := ⟨#[9, 167, 0, 12, 20, 0, 179, 22, 4, 105, 22, 8, 109, 173]⟩
theorem daX9_contactOf_89 : agB cX9_contactOf dsX9_contactOf_89 89 := agB_of (n := 14) (by decide +kernel)
theorem dbX9_contactOf_89 : (decode dsX9_contactOf_89 0 = .ok (.lconst 0, 1) ∧ okop dsX9_contactOf_89 0 = true) ∧ (decode dsX9_contactOf_89 1 = .ok (.goto 12, 3) ∧ okop dsX9_contactOf_89 1 = true) ∧ (decode dsX9_contactOf_89 4 = .ok (.ldc2_w 179, 3) ∧ okop dsX9_contactOf_89 4 = true) ∧ (decode dsX9_contactOf_89 7 = .ok (.lload 4, 2) ∧ okop dsX9_contactOf_89 7 = true) ∧ (decode dsX9_contactOf_89 9 = .ok (.lmul, 1) ∧ okop dsX9_contactOf_89 9 = true) ∧ (decode dsX9_contactOf_89 10 = .ok (.lload 8, 2) ∧ okop dsX9_contactOf_89 10 = true) ∧ (decode dsX9_contactOf_89 12 = .ok (.ldiv, 1) ∧ okop dsX9_contactOf_89 12 = true) ∧ (decode dsX9_contactOf_89 13 = .ok (.lreturn, 1) ∧ okop dsX9_contactOf_89 13 = true) := by decide +kernel
theorem dX9_contactOf_89 : decode cX9_contactOf 89 = .ok (.lconst 0, 1) := dgq (p := 0) daX9_contactOf_89 dbX9_contactOf_89.1
theorem dX9_contactOf_90 : decode cX9_contactOf 90 = .ok (.goto 12, 3) := dgq (p := 1) daX9_contactOf_89 dbX9_contactOf_89.2.1
theorem dX9_contactOf_93 : decode cX9_contactOf 93 = .ok (.ldc2_w 179, 3) := dgq (p := 4) daX9_contactOf_89 dbX9_contactOf_89.2.2.1
theorem dX9_contactOf_96 : decode cX9_contactOf 96 = .ok (.lload 4, 2) := dgq (p := 7) daX9_contactOf_89 dbX9_contactOf_89.2.2.2.1
theorem dX9_contactOf_98 : decode cX9_contactOf 98 = .ok (.lmul, 1) := dgq (p := 9) daX9_contactOf_89 dbX9_contactOf_89.2.2.2.2.1
theorem dX9_contactOf_99 : decode cX9_contactOf 99 = .ok (.lload 8, 2) := dgq (p := 10) daX9_contactOf_89 dbX9_contactOf_89.2.2.2.2.2.1
theorem dX9_contactOf_101 : decode cX9_contactOf 101 = .ok (.ldiv, 1) := dgq (p := 12) daX9_contactOf_89 dbX9_contactOf_89.2.2.2.2.2.2.1
theorem dX9_contactOf_102 : decode cX9_contactOf 102 = .ok (.lreturn, 1) := dgq (p := 13) daX9_contactOf_89 dbX9_contactOf_89.2.2.2.2.2.2.2
def dsX9_overlapOf_0 : ByteArray := ⟨#[42, 180, 0, 160, 43, 180, 0, 160, 184, 0, 181, 133, 65, 32, 42, 180, 0, 185]⟩
theorem daX9_overlapOf_0 : agB cX9_overlapOf dsX9_overlapOf_0 0 := agB_of (n := 18) (by decide +kernel)
theorem dbX9_overlapOf_0 : (decode dsX9_overlapOf_0 0 = .ok (.aload_n 0, 1) ∧ okop dsX9_overlapOf_0 0 = true) ∧ (decode dsX9_overlapOf_0 1 = .ok (.getfield 160, 3) ∧ okop dsX9_overlapOf_0 1 = true) ∧ (decode dsX9_overlapOf_0 4 = .ok (.aload_n 1, 1) ∧ okop dsX9_overlapOf_0 4 = true) ∧ (decode dsX9_overlapOf_0 5 = .ok (.getfield 160, 3) ∧ okop dsX9_overlapOf_0 5 = true) ∧ (decode dsX9_overlapOf_0 8 = .ok (.invokestatic 181, 3) ∧ okop dsX9_overlapOf_0 8 = true) ∧ (decode dsX9_overlapOf_0 11 = .ok (.i2l, 1) ∧ okop dsX9_overlapOf_0 11 = true) ∧ (decode dsX9_overlapOf_0 12 = .ok (.lstore_n 2, 1) ∧ okop dsX9_overlapOf_0 12 = true) ∧ (decode dsX9_overlapOf_0 13 = .ok (.lload_n 2, 1) ∧ okop dsX9_overlapOf_0 13 = true) ∧ (decode dsX9_overlapOf_0 14 = .ok (.aload_n 0, 1) ∧ okop dsX9_overlapOf_0 14 = true) ∧ (decode dsX9_overlapOf_0 15 = .ok (.getfield 185, 3) ∧ okop dsX9_overlapOf_0 15 = true) := by decide +kernel
theorem dX9_overlapOf_0 : decode cX9_overlapOf 0 = .ok (.aload_n 0, 1) := dgq (p := 0) daX9_overlapOf_0 dbX9_overlapOf_0.1
theorem dX9_overlapOf_1 : decode cX9_overlapOf 1 = .ok (.getfield 160, 3) := dgq (p := 1) daX9_overlapOf_0 dbX9_overlapOf_0.2.1
theorem dX9_overlapOf_4 : decode cX9_overlapOf 4 = .ok (.aload_n 1, 1) := dgq (p := 4) daX9_overlapOf_0 dbX9_overlapOf_0.2.2.1
theorem dX9_overlapOf_5 : decode cX9_overlapOf 5 = .ok (.getfield 160, 3) := dgq (p := 5) daX9_overlapOf_0 dbX9_overlapOf_0.2.2.2.1
theorem dX9_overlapOf_8 : decode cX9_overlapOf 8 = .ok (.invokestatic 181, 3) := dgq (p := 8) daX9_overlapOf_0 dbX9_overlapOf_0.2.2.2.2.1
theorem dX9_overlapOf_11 : decode cX9_overlapOf 11 = .ok (.i2l, 1) := dgq (p := 11) daX9_overlapOf_0 dbX9_overlapOf_0.2.2.2.2.2.1
theorem dX9_overlapOf_12 : decode cX9_overlapOf 12 = .ok (.lstore_n 2, 1) := dgq (p := 12) daX9_overlapOf_0 dbX9_overlapOf_0.2.2.2.2.2.2.1
theorem dX9_overlapOf_13 : decode cX9_overlapOf 13 = .ok (.lload_n 2, 1) := dgq (p := 13) daX9_overlapOf_0 dbX9_overlapOf_0.2.2.2.2.2.2.2.1
theorem dX9_overlapOf_14 : decode cX9_overlapOf 14 = .ok (.aload_n 0, 1) := dgq (p := 14) daX9_overlapOf_0 dbX9_overlapOf_0.2.2.2.2.2.2.2.2.1
theorem dX9_overlapOf_15 : decode cX9_overlapOf 15 = .ok (.getfield 185, 3) := dgq (p := 15) daX9_overlapOf_0 dbX9_overlapOf_0.2.2.2.2.2.2.2.2.2
def dsX9_overlapOf_18 : ByteArray := ⟨#[184, 0, 188, 133, 105, 20, 0, 177, 105, 20, 0, 190, 42, 180, 0, 165, 133, 105]⟩
theorem daX9_overlapOf_18 : agB cX9_overlapOf dsX9_overlapOf_18 18 := agB_of (n := 18) (by decide +kernel)
theorem dbX9_overlapOf_18 : (decode dsX9_overlapOf_18 0 = .ok (.invokestatic 188, 3) ∧ okop dsX9_overlapOf_18 0 = true) ∧ (decode dsX9_overlapOf_18 3 = .ok (.i2l, 1) ∧ okop dsX9_overlapOf_18 3 = true) ∧ (decode dsX9_overlapOf_18 4 = .ok (.lmul, 1) ∧ okop dsX9_overlapOf_18 4 = true) ∧ (decode dsX9_overlapOf_18 5 = .ok (.ldc2_w 177, 3) ∧ okop dsX9_overlapOf_18 5 = true) ∧ (decode dsX9_overlapOf_18 8 = .ok (.lmul, 1) ∧ okop dsX9_overlapOf_18 8 = true) ∧ (decode dsX9_overlapOf_18 9 = .ok (.ldc2_w 190, 3) ∧ okop dsX9_overlapOf_18 9 = true) ∧ (decode dsX9_overlapOf_18 12 = .ok (.aload_n 0, 1) ∧ okop dsX9_overlapOf_18 12 = true) ∧ (decode dsX9_overlapOf_18 13 = .ok (.getfield 165, 3) ∧ okop dsX9_overlapOf_18 13 = true) ∧ (decode dsX9_overlapOf_18 16 = .ok (.i2l, 1) ∧ okop dsX9_overlapOf_18 16 = true) ∧ (decode dsX9_overlapOf_18 17 = .ok (.lmul, 1) ∧ okop dsX9_overlapOf_18 17 = true) := by decide +kernel
theorem dX9_overlapOf_18 : decode cX9_overlapOf 18 = .ok (.invokestatic 188, 3) := dgq (p := 0) daX9_overlapOf_18 dbX9_overlapOf_18.1
theorem dX9_overlapOf_21 : decode cX9_overlapOf 21 = .ok (.i2l, 1) := dgq (p := 3) daX9_overlapOf_18 dbX9_overlapOf_18.2.1
theorem dX9_overlapOf_22 : decode cX9_overlapOf 22 = .ok (.lmul, 1) := dgq (p := 4) daX9_overlapOf_18 dbX9_overlapOf_18.2.2.1
theorem dX9_overlapOf_23 : decode cX9_overlapOf 23 = .ok (.ldc2_w 177, 3) := dgq (p := 5) daX9_overlapOf_18 dbX9_overlapOf_18.2.2.2.1
theorem dX9_overlapOf_26 : decode cX9_overlapOf 26 = .ok (.lmul, 1) := dgq (p := 8) daX9_overlapOf_18 dbX9_overlapOf_18.2.2.2.2.1
theorem dX9_overlapOf_27 : decode cX9_overlapOf 27 = .ok (.ldc2_w 190, 3) := dgq (p := 9) daX9_overlapOf_18 dbX9_overlapOf_18.2.2.2.2.2.1
theorem dX9_overlapOf_30 : decode cX9_overlapOf 30 = .ok (.aload_n 0, 1) := dgq (p := 12) daX9_overlapOf_18 dbX9_overlapOf_18.2.2.2.2.2.2.1
theorem dX9_overlapOf_31 : decode cX9_overlapOf 31 = .ok (.getfield 165, 3) := dgq (p := 13) daX9_overlapOf_18 dbX9_overlapOf_18.2.2.2.2.2.2.2.1
theorem dX9_overlapOf_34 : decode cX9_overlapOf 34 = .ok (.i2l, 1) := dgq (p := 16) daX9_overlapOf_18 dbX9_overlapOf_18.2.2.2.2.2.2.2.2.1
theorem dX9_overlapOf_35 : decode cX9_overlapOf 35 = .ok (.lmul, 1) := dgq (p := 17) daX9_overlapOf_18 dbX9_overlapOf_18.2.2.2.2.2.2.2.2.2
theorem dX9_overlapOf_36 : decode cX9_overlapOf 36 = .ok (.ldiv, 1) := by decide +kernel
theorem dX9_overlapOf_37 : decode cX9_overlapOf 37 = .ok (.lreturn, 1) := by decide +kernel
set_option maxRecDepth 20000 in
theorem ggX9_balancedShift_X9_nearestToZero : GoodIn wsX9_balancedShift wsX9_nearestToZero := goodIn_q _ [9] rfl (by decide +kernel)
set_option maxRecDepth 20000 in
theorem gX9_balancedShift_X9_nearestToZero : GoodIn wsX9_balancedShift (va_wsS RX9 194 yX9_nearestToZero wsX9_nearestToZero) := goodIn_app (goodIn_q _ [6, 7, 8] rfl (by decide +kernel)) ggX9_balancedShift_X9_nearestToZero
set_option maxRecDepth 20000 in
theorem ggX9_balancedShift_X2_isGoodAt : GoodIn wsX9_balancedShift wsX2_isGoodAt := goodIn_ca (goodIn_q _ [14, 15, 16, 8, 17, 18, 19] rfl (by decide +kernel)) (goodIn_sub (fun _ h => (List.mem_cons_of_mem _ (List.mem_append_right _ h))) tg_wsX20)
set_option maxRecDepth 20000 in
theorem gX9_balancedShift_X2_isGoodAt : GoodIn wsX9_balancedShift (wsV RX9 130 RX2 yX2_isGoodAt wsX2_isGoodAt) := goodIn_app (goodIn_q _ [10, 11, 12, 13] rfl (by decide +kernel)) ggX9_balancedShift_X2_isGoodAt
set_option maxRecDepth 20000 in
theorem ggX9_balancedShift_X2_wayAt : GoodIn wsX9_balancedShift wsX2_wayAt := goodIn_ca (goodIn_q _ [23, 24, 25, 26, 27, 28, 13, 29, 15, 30, 31, 32, 33, 34, 35, 36, 37, 38, 39, 40, 8, 41, 42, 43] rfl (by decide +kernel)) (goodIn_sub (fun _ h => (List.mem_cons_of_mem _ (List.mem_append_right _ h))) tg_wsX20)
set_option maxRecDepth 20000 in
theorem gX9_balancedShift_X2_wayAt : GoodIn wsX9_balancedShift (wsV RX9 136 RX2 yX2_wayAt wsX2_wayAt) := goodIn_app (goodIn_q _ [20, 21, 22, 13] rfl (by decide +kernel)) ggX9_balancedShift_X2_wayAt
